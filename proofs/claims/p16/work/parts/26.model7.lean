def eqp (pp pa : Nat → Int32) (d : Nat) : Nat → Bool
  | 0 => true
  | k + 1 => eqp pp pa d k && decide (pp (d + k) = pa k)
theorem eqp_iff {pp pa : Nat → Int32} {d : Nat} : ∀ {n : Nat}, eqp pp pa d n = true ↔ ∀ k, k < n → pp (d + k) = pa k
  | 0 => by simp [eqp]
  | n + 1 => by
    rw [eqp, Bool.and_eq_true, eqp_iff, decide_eq_true_eq]
    constructor
    · rintro ⟨h1, h2⟩ k hk
      rcases Nat.lt_or_ge k n with q | q
      · exact h1 k q
      · rw [show k = n by omega]; exact h2
    · exact fun h => ⟨fun k hk => h k (by omega), h n (by omega)⟩
theorem w_M_find_0 : ∀ w ∈ u_ws RX9 TX9 25, w ∈ wsX9_find := by decide +kernel
theorem w_M_find_1 : Cond.fieldLink RX9 58 "PackageRows2Model" "signs" "I" ∈ wsX9_find := by decide +kernel
theorem w_M_find_2 : Cond.fieldLink RX9 20 "PackageRows2Model" "paths" "[B" ∈ wsX9_find := by decide +kernel
theorem w_M_find_3 : Cond.fieldLink RX9 7 "PackageRows2Model" "path" "[B" ∈ wsX9_find := by decide +kernel
theorem w_M_find_4 : Cond.fieldLink RX9 35 "PackageRows2Model" "many" "[I" ∈ wsX9_find := by decide +kernel
theorem w_M_find_5 : Cond.fieldLink RX9 16 "PackageRows2Model" "pathSize" "[I" ∈ wsX9_find := by decide +kernel
theorem w_M_find_6 : Cond.fieldLink RX9 54 "PackageRows2Model" "thrown" "I" ∈ wsX9_find := by decide +kernel
set_option maxHeartbeats 4000000 in
set_option maxRecDepth 100000 in
theorem lp_M_find_60 {l : Launch} {D : va_G} {ca : Nat → ClassId} (M : mw_M) (sz o : Nat) (sg ve : Nat) (th oc cm li fa tr to pz pi : Int32) (pa : Nat → Int32) (ps : Nat → Int32) (pp : Nat → Int32) (mn : Nat → Int32) (vcn : Nat → Nat) (vn : Nat → Nat → Nat) (k : Int32) (ho : M o = some (.inr (9, mdF o th (nI sg) oc cm li (nI ve) fa tr to pz pi))) (h_pa : M (o + 1) = some (.inl (ca 2, 30, .inl pa))) (h_ps : M (o + 3) = some (.inl (ca 0, 120, .inl ps))) (h_pp : M (o + 4) = some (.inl (ca 2, 2880, .inl pp))) (h_mn : M (o + 9) = some (.inl (ca 0, 12, .inl mn))) (hve : ve ≤ 12) (hmn : ∀ j, j < ve → mn j = nI (vcn j)) (hvcn : ∀ j, j < ve → vcn j ≤ 8) (hsg : sg ≤ 30) (hps : ∀ j t, j < ve → t < vcn j → ps (24 + 8 * j + t) = nI (vn j t) ∧ vn j t ≤ 24) {p : Program} {e : Env} {s : State} {m : MethodId} {below : List Frame} {meth : Method} {c : Code} (X : mw_X p s m ([.ref o, .int k] : List Value).toArray meth c cX9_find 6 yX9_find.cls wsX9_find D vwCl (mt ca)) (hr0 : meth.sig.returnType = (some .int)) (hnm : meth.name = yX9_find.name) (hlt : ∀ (a : Nat) (x : va_E), M a = some x → a < sz) : ∀ (fu : Nat) (j i cc9 : Nat), j < ve → k = nI j → i < vcn j → (∀ t, t < i → ¬ same (vn j t) (fun q => pp (24 * (24 + 8 * j + t) + q)) sg pa) → cc9 ≤ sg → sg < cc9 + fu → (¬ same (vn j i) (fun q => pp (24 * (24 + 8 * j + i) + q)) sg pa → mw_J p l e { frames := 2, cells := 0, slots := 0, locals := 43 } s m ([.ref o, .int k] : List Value).toArray below meth c 6 D vwCl (mw_A M sz) (MQ below (mw_Q D vwCl M sz (mq_i (fun v9 M' sz' => ((∃ j, j < ve ∧ k = nI j ∧ ((∃ i, i < vcn j ∧ same (vn j i) (fun q => pp (24 * (24 + 8 * j + i) + q)) sg pa ∧ (∀ t, t < i → ¬ same (vn j t) (fun q => pp (24 * (24 + 8 * j + t) + q)) sg pa) ∧ v9 = nI i) ∨ ((∀ t, t < vcn j → ¬ same (vn j t) (fun q => pp (24 * (24 + 8 * j + t) + q)) sg pa) ∧ v9 = -1))) ∨ ((∀ j, j < ve → k ≠ nI j) ∧ v9 = -1)) ∧ M' = mw_u M o (.inr (9, mdF o 0 (nI sg) oc cm li (nI ve) fa tr to pz pi)) ∧ sz' = sz))) ([.ref o, .int k] : List Value).toArray s 0 0 (mw_A M sz)) 17 [(0, .ref o), (1, .int (nI j)), (2, .int (nI (i + 1)))] [] (mw_u M o (.inr (9, mdF o 0 (nI sg) oc cm li (nI ve) fa tr to pz pi))) sz 0 0) → mw_J p l e { frames := 2, cells := 0, slots := 0, locals := 43 } s m ([.ref o, .int k] : List Value).toArray below meth c 6 D vwCl (mw_A M sz) (MQ below (mw_Q D vwCl M sz (mq_i (fun v9 M' sz' => ((∃ j, j < ve ∧ k = nI j ∧ ((∃ i, i < vcn j ∧ same (vn j i) (fun q => pp (24 * (24 + 8 * j + i) + q)) sg pa ∧ (∀ t, t < i → ¬ same (vn j t) (fun q => pp (24 * (24 + 8 * j + t) + q)) sg pa) ∧ v9 = nI i) ∨ ((∀ t, t < vcn j → ¬ same (vn j t) (fun q => pp (24 * (24 + 8 * j + t) + q)) sg pa) ∧ v9 = -1))) ∨ ((∀ j, j < ve → k ≠ nI j) ∧ v9 = -1)) ∧ M' = mw_u M o (.inr (9, mdF o 0 (nI sg) oc cm li (nI ve) fa tr to pz pi)) ∧ sz' = sz))) ([.ref o, .int k] : List Value).toArray s 0 0 (mw_A M sz)) 60 [(0, .ref o), (1, .int (nI j)), (2, .int (nI i)), (3, .int (nI (24 + 8 * j + i))), (4, .int (b2i (decide (vn j i = sg) && eqp pp pa (24 * (24 + 8 * j + i)) cc9))), (5, .int (nI cc9))] [] (mw_u M o (.inr (9, mdF o 0 (nI sg) oc cm li (nI ve) fa tr to pz pi))) sz 0 0 := by
  intro fu
  induction fu with
  | zero => intro j i cc9 h1 h2 h3 h4 h5 h6; omega
  | succ fu ih =>
    intro j i cc9 hj ek9 hi hall hc hfu hcont
    have h8 := hvcn j hj
    have h24 := (hps j i hj hi).2
    refine mj_iload X dX9_find_60 5 rfl ?_
    refine mj_aload_n X dX9_find_62 rfl 0 rfl ?_
    have f1_ := mw_us (M := M) (a := o) (e := (.inr (9, mdF o 0 (nI sg) oc cm li (nI ve) fa tr to pz pi)))
    refine mj_get X (C := RX9) (T := TX9) (N := 25) (ci := 9) w_M_find_0 rfl 1 (by decide) w_M_find_1 f1_ rfl dX9_find_63 ?_
    refine mj_icmp_ge X 109 dX9_find_66 (by decide) (fun c66 => ?_) (fun c66 => ?_)
    · refine mj_iload X dX9_find_109 4 rfl ?_
      refine mj_if_eq X 116 dX9_find_111 (by decide) (fun c111 => ?_) (fun c111 => ?_)
      · refine mj_iinc X [(2, .int (nI (i + 1))), (0, .ref o), (1, .int (nI j)), (3, .int (nI (24 + 8 * j + i))), (4, .int (b2i (decide (vn j i = sg) && eqp pp pa (24 * (24 + 8 * j + i)) cc9))), (5, .int (nI cc9))] dX9_find_116 2 rfl (nI_1 i) (by decide) rfl ?_
        refine mj_goto X 17 dX9_find_119 (by decide) ?_
        refine mj_sub [1, 2, 0] rfl ?_
        have e9 : cc9 = sg := by have h9 := (nI_leI (by omega) (by omega)).mp c66; omega
        subst e9
        have hno : ¬ same (vn j i) (fun q => pp (24 * (24 + 8 * j + i) + q)) cc9 pa := fun hs => by
          have hz := b2i_eq c111
          rw [decide_eq_true hs.1, eqp_iff.mpr (fun q hq => hs.2 q (by rw [hs.1]; exact hq))] at hz; exact absurd hz (by decide)
        exact hcont hno
      · refine mj_iload_n X dX9_find_114 rfl 2 rfl ?_
        refine mj_iret X hr0 (by decide) (by decide) dX9_find_115 ?_
        have hz := b2i_ne c111
        rw [Bool.and_eq_true, decide_eq_true_eq] at hz
        have e9 : cc9 = sg := by have h9 := (nI_leI (by omega) (by omega)).mp c66; omega
        exact ⟨_, rfl, Or.inl ⟨j, hj, ek9, Or.inl ⟨i, hi, ⟨hz.1, fun q hq => eqp_iff.mp hz.2 q (by omega)⟩, hall, rfl⟩⟩, rfl, rfl⟩
    · have hlt66 : cc9 < sg := Nat.not_le.mp (fun h9 => c66 (nI_le h9 (by omega)))
      refine mj_iload X dX9_find_69 4 rfl ?_
      refine mj_if_eq X 109 dX9_find_71 (by decide) (fun c71 => ?_) (fun c71 => ?_)
      · refine mj_iload X dX9_find_109 4 rfl ?_
        refine mj_if_eq X 116 dX9_find_111 (by decide) (fun c111 => ?_) (fun c111 => ?_)
        · refine mj_iinc X [(2, .int (nI (i + 1))), (0, .ref o), (1, .int (nI j)), (3, .int (nI (24 + 8 * j + i))), (4, .int (b2i (decide (vn j i = sg) && eqp pp pa (24 * (24 + 8 * j + i)) cc9))), (5, .int (nI cc9))] dX9_find_116 2 rfl (nI_1 i) (by decide) rfl ?_
          refine mj_goto X 17 dX9_find_119 (by decide) ?_
          refine mj_sub [1, 2, 0] rfl ?_
          have hno : ¬ same (vn j i) (fun q => pp (24 * (24 + 8 * j + i) + q)) sg pa := fun hs => by
            have hz := b2i_eq c111
            rw [decide_eq_true hs.1, eqp_iff.mpr (fun q hq => hs.2 q (by rw [hs.1]; omega))] at hz; exact absurd hz (by decide)
          exact hcont hno
        · exact absurd c71 c111
      · have hvs : vn j i = sg := by have hz := b2i_ne c71; rw [Bool.and_eq_true, decide_eq_true_eq] at hz; exact hz.1
        refine mj_aload_n X dX9_find_74 rfl 0 rfl ?_
        refine mj_get X (C := RX9) (T := TX9) (N := 25) (ci := 9) w_M_find_0 rfl 8 (by decide) w_M_find_2 f1_ rfl dX9_find_75 ?_
        refine mj_bipush X (v := 24) dX9_find_78 (by decide +kernel) ?_
        refine mj_iload_n X dX9_find_80 rfl 3 rfl ?_
        refine mj_imul X dX9_find_81 ?_
        refine mj_top (nI (24 * (24 + 8 * j + i))) (show nI 24 * nI (24 + 8 * j + i) = _ from pk_mul 24 (24 + 8 * j + i)) ?_
        refine mj_iload X dX9_find_82 5 rfl ?_
        refine mj_iadd X dX9_find_84 ?_
        refine mj_top (nI (24 * (24 + 8 * j + i) + cc9)) (nI_add _ _) ?_
        have f2_ := (mw_un (M := M) (e := (.inr (9, mdF o 0 (nI sg) oc cm li (nI ve) fa tr to pz pi))) (show o + 4 ≠ o by omega)).trans h_pp
        refine mj_bald X 2 (pp (24 * (24 + 8 * j + i) + cc9)) rfl f2_ (vp_in_nI (by omega) (by omega)) (by rw [nI_clamp (by omega)]) dX9_find_85 ?_
        refine mj_aload_n X dX9_find_86 rfl 0 rfl ?_
        refine mj_get X (C := RX9) (T := TX9) (N := 25) (ci := 9) w_M_find_0 rfl 2 (by decide) w_M_find_3 f1_ rfl dX9_find_87 ?_
        refine mj_iload X dX9_find_90 5 rfl ?_
        have f3_ := (mw_un (M := M) (e := (.inr (9, mdF o 0 (nI sg) oc cm li (nI ve) fa tr to pz pi))) (show o + 1 ≠ o by omega)).trans h_pa
        refine mj_bald X 2 (pa cc9) rfl f3_ (vp_in_nI (by omega) (by omega)) (by rw [nI_clamp (by omega)]) dX9_find_92 ?_
        refine mj_icmp_ne X 100 dX9_find_93 (by decide) (fun c93 => ?_) (fun c93 => ?_)
        · refine mj_iconst X (v := 0) dX9_find_100 (by decide +kernel) ?_
          refine mj_istore X [(4, .int 0), (0, .ref o), (1, .int (nI j)), (2, .int (nI i)), (3, .int (nI (24 + 8 * j + i))), (5, .int (nI cc9))] dX9_find_101 (by decide) rfl ?_
          refine mj_iinc X [(5, .int (nI (cc9 + 1))), (4, .int 0), (0, .ref o), (1, .int (nI j)), (2, .int (nI i)), (3, .int (nI (24 + 8 * j + i)))] dX9_find_103 5 rfl (nI_1 cc9) (by decide) rfl ?_
          refine mj_goto X 60 dX9_find_106 (by decide) ?_
          refine mj_sub [2, 3, 4, 5, 1, 0] rfl ?_
          have hp : b2i (decide (vn j i = sg) && eqp pp pa (24 * (24 + 8 * j + i)) (cc9 + 1)) = 0 := by rw [eqp, decide_eq_false c93, Bool.and_false, Bool.and_false]; rfl
          refine mj_to (lo' := [(0, .ref o), (1, .int (nI j)), (2, .int (nI i)), (3, .int (nI (24 + 8 * j + i))), (4, .int (b2i (decide (vn j i = sg) && eqp pp pa (24 * (24 + 8 * j + i)) (cc9 + 1)))), (5, .int (nI (cc9 + 1)))]) (by rw [hp]; rfl) rfl rfl rfl ?_
          exact ih j i (cc9 + 1) hj ek9 hi hall hlt66 (by omega) hcont
        · refine mj_iconst X (v := 1) dX9_find_96 (by decide +kernel) ?_
          refine mj_goto X 101 dX9_find_97 (by decide) ?_
          refine mj_istore X [(4, .int 1), (0, .ref o), (1, .int (nI j)), (2, .int (nI i)), (3, .int (nI (24 + 8 * j + i))), (5, .int (nI cc9))] dX9_find_101 (by decide) rfl ?_
          refine mj_iinc X [(5, .int (nI (cc9 + 1))), (4, .int 1), (0, .ref o), (1, .int (nI j)), (2, .int (nI i)), (3, .int (nI (24 + 8 * j + i)))] dX9_find_103 5 rfl (nI_1 cc9) (by decide) rfl ?_
          refine mj_goto X 60 dX9_find_106 (by decide) ?_
          refine mj_sub [2, 3, 4, 5, 1, 0] rfl ?_
          have hp : b2i (decide (vn j i = sg) && eqp pp pa (24 * (24 + 8 * j + i)) (cc9 + 1)) = 1 := by rw [eqp, ← Bool.and_assoc, b2i_ne c71, decide_eq_true c93]; rfl
          refine mj_to (lo' := [(0, .ref o), (1, .int (nI j)), (2, .int (nI i)), (3, .int (nI (24 + 8 * j + i))), (4, .int (b2i (decide (vn j i = sg) && eqp pp pa (24 * (24 + 8 * j + i)) (cc9 + 1)))), (5, .int (nI (cc9 + 1)))]) (by rw [hp]; rfl) rfl rfl rfl ?_
          exact ih j i (cc9 + 1) hj ek9 hi hall hlt66 (by omega) hcont
set_option maxHeartbeats 4000000 in
set_option maxRecDepth 100000 in
theorem lp_M_find_17 {l : Launch} {D : va_G} {ca : Nat → ClassId} (M : mw_M) (sz o : Nat) (sg ve : Nat) (th oc cm li fa tr to pz pi : Int32) (pa : Nat → Int32) (ps : Nat → Int32) (pp : Nat → Int32) (mn : Nat → Int32) (vcn : Nat → Nat) (vn : Nat → Nat → Nat) (k : Int32) (ho : M o = some (.inr (9, mdF o th (nI sg) oc cm li (nI ve) fa tr to pz pi))) (h_pa : M (o + 1) = some (.inl (ca 2, 30, .inl pa))) (h_ps : M (o + 3) = some (.inl (ca 0, 120, .inl ps))) (h_pp : M (o + 4) = some (.inl (ca 2, 2880, .inl pp))) (h_mn : M (o + 9) = some (.inl (ca 0, 12, .inl mn))) (hve : ve ≤ 12) (hmn : ∀ j, j < ve → mn j = nI (vcn j)) (hvcn : ∀ j, j < ve → vcn j ≤ 8) (hsg : sg ≤ 30) (hps : ∀ j t, j < ve → t < vcn j → ps (24 + 8 * j + t) = nI (vn j t) ∧ vn j t ≤ 24) {p : Program} {e : Env} {s : State} {m : MethodId} {below : List Frame} {meth : Method} {c : Code} (X : mw_X p s m ([.ref o, .int k] : List Value).toArray meth c cX9_find 6 yX9_find.cls wsX9_find D vwCl (mt ca)) (hr0 : meth.sig.returnType = (some .int)) (hnm : meth.name = yX9_find.name) (hlt : ∀ (a : Nat) (x : va_E), M a = some x → a < sz) : ∀ (fu : Nat) (j i : Nat), j < ve → k = nI j → i ≤ vcn j → vcn j < i + fu → (∀ t, t < i → ¬ same (vn j t) (fun q => pp (24 * (24 + 8 * j + t) + q)) sg pa) → mw_J p l e { frames := 2, cells := 0, slots := 0, locals := 43 } s m ([.ref o, .int k] : List Value).toArray below meth c 6 D vwCl (mw_A M sz) (MQ below (mw_Q D vwCl M sz (mq_i (fun v9 M' sz' => ((∃ j, j < ve ∧ k = nI j ∧ ((∃ i, i < vcn j ∧ same (vn j i) (fun q => pp (24 * (24 + 8 * j + i) + q)) sg pa ∧ (∀ t, t < i → ¬ same (vn j t) (fun q => pp (24 * (24 + 8 * j + t) + q)) sg pa) ∧ v9 = nI i) ∨ ((∀ t, t < vcn j → ¬ same (vn j t) (fun q => pp (24 * (24 + 8 * j + t) + q)) sg pa) ∧ v9 = -1))) ∨ ((∀ j, j < ve → k ≠ nI j) ∧ v9 = -1)) ∧ M' = mw_u M o (.inr (9, mdF o 0 (nI sg) oc cm li (nI ve) fa tr to pz pi)) ∧ sz' = sz))) ([.ref o, .int k] : List Value).toArray s 0 0 (mw_A M sz)) 17 [(0, .ref o), (1, .int (nI j)), (2, .int (nI i))] [] (mw_u M o (.inr (9, mdF o 0 (nI sg) oc cm li (nI ve) fa tr to pz pi))) sz 0 0 := by
  intro fu
  induction fu with
  | zero => intro j i h1 h0 h2 h3; omega
  | succ fu ih =>
    intro j i hj ek9 hi1 hfu hall
    have h8 := hvcn j hj
    refine mj_iload_n X dX9_find_17 rfl 2 rfl ?_
    refine mj_aload_n X dX9_find_18 rfl 0 rfl ?_
    have f4_ := mw_us (M := M) (a := o) (e := (.inr (9, mdF o 0 (nI sg) oc cm li (nI ve) fa tr to pz pi)))
    refine mj_get X (C := RX9) (T := TX9) (N := 25) (ci := 9) w_M_find_0 rfl 14 (by decide) w_M_find_4 f4_ rfl dX9_find_19 ?_
    refine mj_iload_n X dX9_find_22 rfl 1 rfl ?_
    have f5_ := (mw_un (M := M) (e := (.inr (9, mdF o 0 (nI sg) oc cm li (nI ve) fa tr to pz pi))) (show o + 9 ≠ o by omega)).trans h_mn
    refine mj_iald X 0 (nI (vcn j)) rfl f5_ (vp_in_nI (by omega) (by omega)) (by rw [nI_clamp (by omega)]; exact hmn j hj) dX9_find_23 ?_
    refine mj_icmp_ge X 122 dX9_find_24 (by decide) (fun c24 => ?_) (fun c24 => ?_)
    · refine mj_iconst X (v := -1) dX9_find_122 (by decide +kernel) ?_
      refine mj_iret X hr0 (by decide) (by decide) dX9_find_123 ?_
      exact ⟨_, rfl, Or.inl ⟨j, hj, ek9, Or.inr ⟨fun t ht => hall t (by have h9 := (nI_leI (by have := hvcn j hj; omega) (by omega)).mp c24; omega), rfl⟩⟩, rfl, rfl⟩
    · have hlt24 : i < vcn j := Nat.not_le.mp (fun h9 => c24 (nI_le h9 (by omega)))
      refine mj_bipush X (v := 24) dX9_find_27 (by decide +kernel) ?_
      refine mj_bipush X (v := 8) dX9_find_29 (by decide +kernel) ?_
      refine mj_iload_n X dX9_find_31 rfl 1 rfl ?_
      refine mj_imul X dX9_find_32 ?_
      refine mj_top (nI (8 * j)) (show nI 8 * nI j = _ from pk_mul 8 j) ?_
      refine mj_iadd X dX9_find_33 ?_
      refine mj_top (nI (24 + 8 * j)) (show nI 24 + nI (8 * j) = _ from nI_add _ _) ?_
      refine mj_iload_n X dX9_find_34 rfl 2 rfl ?_
      refine mj_iadd X dX9_find_35 ?_
      refine mj_top (nI (24 + 8 * j + i)) (nI_add _ _) ?_
      refine mj_istore_n X [(3, .int (nI (24 + 8 * j + i))), (0, .ref o), (1, .int (nI j)), (2, .int (nI i))] dX9_find_36 rfl (by decide) rfl ?_
      refine mj_aload_n X dX9_find_37 rfl 1 rfl ?_
      refine mj_get X (C := RX9) (T := TX9) (N := 25) (ci := 9) w_M_find_0 rfl 7 (by decide) w_M_find_5 f4_ rfl dX9_find_38 ?_
      refine mj_iload_n X dX9_find_41 rfl 0 rfl ?_
      have f6_ := (mw_un (M := M) (e := (.inr (9, mdF o 0 (nI sg) oc cm li (nI ve) fa tr to pz pi))) (show o + 3 ≠ o by omega)).trans h_ps
      refine mj_iald X 0 (nI (vn j i)) rfl f6_ (vp_in_nI (by have := hvcn j hj; omega) (by omega)) (by rw [nI_clamp (by have := hvcn j hj; omega)]; exact (hps j i hj hlt24).1) dX9_find_42 ?_
      refine mj_aload_n X dX9_find_43 rfl 1 rfl ?_
      refine mj_get X (C := RX9) (T := TX9) (N := 25) (ci := 9) w_M_find_0 rfl 1 (by decide) w_M_find_1 f4_ rfl dX9_find_44 ?_
      refine mj_icmp_ne X 54 dX9_find_47 (by decide) (fun c47 => ?_) (fun c47 => ?_)
      · refine mj_iconst X (v := 0) dX9_find_54 (by decide +kernel) ?_
        refine mj_istore X [(4, .int 0), (3, .int (nI (24 + 8 * j + i))), (0, .ref o), (1, .int (nI j)), (2, .int (nI i))] dX9_find_55 (by decide) rfl ?_
        refine mj_iconst X (v := 0) dX9_find_57 (by decide +kernel) ?_
        refine mj_istore X [(5, .int 0), (4, .int 0), (3, .int (nI (24 + 8 * j + i))), (0, .ref o), (1, .int (nI j)), (2, .int (nI i))] dX9_find_58 (by decide) rfl ?_
        refine mj_sub [3, 4, 5, 2, 1, 0] rfl ?_
        have hp : b2i (decide (vn j i = sg) && eqp pp pa (24 * (24 + 8 * j + i)) 0) = 0 := by rw [decide_eq_false (fun h9 => c47 (by rw [h9]))]; rfl
        refine mj_to (lo' := [(0, .ref o), (1, .int (nI j)), (2, .int (nI i)), (3, .int (nI (24 + 8 * j + i))), (4, .int (b2i (decide (vn j i = sg) && eqp pp pa (24 * (24 + 8 * j + i)) 0))), (5, .int (nI 0))]) (by rw [hp, nI_0]; rfl) rfl rfl rfl ?_
        exact lp_M_find_60 (l := l) (D := D) (ca := ca) M sz o sg ve th oc cm li fa tr to pz pi pa ps pp mn vcn vn k ho h_pa h_ps h_pp h_mn hve hmn hvcn hsg hps X hr0 hnm hlt (sg + 1) j i 0 hj ek9 hlt24 hall (by omega) (by omega) (fun hno => ih j (i + 1) hj ek9 hlt24 (by omega) (lt_s hall hno))
      · refine mj_iconst X (v := 1) dX9_find_50 (by decide +kernel) ?_
        refine mj_goto X 55 dX9_find_51 (by decide) ?_
        refine mj_istore X [(4, .int 1), (3, .int (nI (24 + 8 * j + i))), (0, .ref o), (1, .int (nI j)), (2, .int (nI i))] dX9_find_55 (by decide) rfl ?_
        refine mj_iconst X (v := 0) dX9_find_57 (by decide +kernel) ?_
        refine mj_istore X [(5, .int 0), (4, .int 1), (3, .int (nI (24 + 8 * j + i))), (0, .ref o), (1, .int (nI j)), (2, .int (nI i))] dX9_find_58 (by decide) rfl ?_
        refine mj_sub [3, 4, 5, 2, 1, 0] rfl ?_
        have hp : b2i (decide (vn j i = sg) && eqp pp pa (24 * (24 + 8 * j + i)) 0) = 1 := by rw [decide_eq_true ((nI_eq (by have := (hps j i hj hlt24).2; omega) (by omega)).mp c47)]; rfl
        refine mj_to (lo' := [(0, .ref o), (1, .int (nI j)), (2, .int (nI i)), (3, .int (nI (24 + 8 * j + i))), (4, .int (b2i (decide (vn j i = sg) && eqp pp pa (24 * (24 + 8 * j + i)) 0))), (5, .int (nI 0))]) (by rw [hp, nI_0]; rfl) rfl rfl rfl ?_
        exact lp_M_find_60 (l := l) (D := D) (ca := ca) M sz o sg ve th oc cm li fa tr to pz pi pa ps pp mn vcn vn k ho h_pa h_ps h_pp h_mn hve hmn hvcn hsg hps X hr0 hnm hlt (sg + 1) j i 0 hj ek9 hlt24 hall (by omega) (by omega) (fun hno => ih j (i + 1) hj ek9 hlt24 (by omega) (lt_s hall hno))
set_option maxHeartbeats 4000000 in
set_option maxRecDepth 100000 in
/--  -/
theorem c_M_find (l : Launch) (D : va_G) (ca : Nat → ClassId) (M : mw_M) (sz o : Nat) (sg ve : Nat) (th oc cm li fa tr to pz pi : Int32) (pa : Nat → Int32) (ps : Nat → Int32) (pp : Nat → Int32) (mn : Nat → Int32) (vcn : Nat → Nat) (vn : Nat → Nat → Nat) (k : Int32) (ho : M o = some (.inr (9, mdF o th (nI sg) oc cm li (nI ve) fa tr to pz pi))) (h_pa : M (o + 1) = some (.inl (ca 2, 30, .inl pa))) (h_ps : M (o + 3) = some (.inl (ca 0, 120, .inl ps))) (h_pp : M (o + 4) = some (.inl (ca 2, 2880, .inl pp))) (h_mn : M (o + 9) = some (.inl (ca 0, 12, .inl mn))) (hve : ve ≤ 12) (hmn : ∀ j, j < ve → mn j = nI (vcn j)) (hvcn : ∀ j, j < ve → vcn j ≤ 8) (hsg : sg ≤ 30) (hps : ∀ j t, j < ve → t < vcn j → ps (24 + 8 * j + t) = nI (vn j t) ∧ vn j t ≤ 24) : mw_C wsX9_find l yX9_find { frames := 2, cells := 0, slots := 0, locals := 43 } D vwCl (mt ca) [.ref o, .int k] M sz (mq_i (fun v9 M' sz' => ((∃ j, j < ve ∧ k = nI j ∧ ((∃ i, i < vcn j ∧ same (vn j i) (fun q => pp (24 * (24 + 8 * j + i) + q)) sg pa ∧ (∀ t, t < i → ¬ same (vn j t) (fun q => pp (24 * (24 + 8 * j + t) + q)) sg pa) ∧ v9 = nI i) ∨ ((∀ t, t < vcn j → ¬ same (vn j t) (fun q => pp (24 * (24 + 8 * j + t) + q)) sg pa) ∧ v9 = -1))) ∨ ((∀ j, j < ve → k ≠ nI j) ∧ v9 = -1)) ∧ M' = mw_u M o (.inr (9, mdF o 0 (nI sg) oc cm li (nI ve) fa tr to pz pi)) ∧ sz' = sz)) := by
  refine mw_enter (cc := cX9_find) (maxL := 6) (ret := (some .int)) rfl (by decide) (Nat.le_of_ble_eq_true rfl) ?_
  intro p e s m below meth c X hr0 hnm hlt
  refine mj_aload_n X dX9_find_0 rfl 0 rfl ?_
  refine mj_iconst X (v := 0) dX9_find_1 (by decide +kernel) ?_
  refine mj_put X (C := RX9) (T := TX9) (N := 25) (ci := 9) (v := .int 0) tyX9 w_M_find_0 tyX9_ok nmX9 rfl 0 (by decide) w_M_find_6 rfl ho (mdF o 0 (nI sg) oc cm li (nI ve) fa tr to pz pi) (Nat.le_of_ble_eq_true rfl) rfl rfl rfl rfl dX9_find_2 ?_
  refine mj_aload_n X dX9_find_5 rfl 0 rfl ?_
  refine mj_iload_n X dX9_find_6 rfl 1 rfl ?_
  have f7_ := mw_us (M := M) (a := o) (e := (.inr (9, mdF o 0 (nI sg) oc cm li (nI ve) fa tr to pz pi)))
  refine mj_callV X 1 gX9_find_X9_isVersion rfl (by decide +kernel) ⟨by decide, by decide⟩ (c_M_isVersion l D ca _ sz o ve 0 (nI sg) oc cm li fa tr to pz pi k f7_) rfl f7_ rfl rfl (Nat.le_of_ble_eq_true rfl) dX9_find_7 ⟨by decide, by decide⟩ (mk_ri (fun b7 hb7 => ?_))
  subst hb7
  refine mj_if_ne X 15 dX9_find_10 (by decide) (fun c10 => ?_) (fun c10 => ?_)
  · obtain ⟨j, hj, rfl⟩ := (inB_n (by omega)).mp (b2i_ne c10)
    refine mj_iconst X (v := 0) dX9_find_15 (by decide +kernel) ?_
    refine mj_istore_n X [(2, .int 0), (0, .ref o), (1, .int (nI j))] dX9_find_16 rfl (by decide) rfl ?_
    refine mj_sub [1, 2, 0] rfl ?_
    rw [← nI_0]
    exact lp_M_find_17 (l := l) (D := D) (ca := ca) M sz o sg ve th oc cm li fa tr to pz pi pa ps pp mn vcn vn (nI j) ho h_pa h_ps h_pp h_mn hve hmn hvcn hsg hps X hr0 hnm hlt (vcn j + 1) j 0 hj rfl (by omega) (by omega) (fun t ht => absurd ht (by omega))
  · refine mj_iconst X (v := -1) dX9_find_13 (by decide +kernel) ?_
    refine mj_iret X hr0 (by decide) (by decide) dX9_find_14 ?_
    exact ⟨_, rfl, Or.inr ⟨(inB_f (by omega)).mp (b2i_eq c10), rfl⟩, rfl, rfl⟩

