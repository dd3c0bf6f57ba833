theorem w_M_at_0 : ∀ w ∈ u_ws RX9 TX9 25, w ∈ wsX9_at := by decide +kernel
theorem w_M_at_1 : Cond.fieldLink RX9 54 "PackageRows2Model" "thrown" "I" ∈ wsX9_at := by decide +kernel
theorem w_M_at_2 : Cond.fieldLink RX9 23 "PackageRows2Model" "size" "[I" ∈ wsX9_at := by decide +kernel
theorem w_M_at_3 : Cond.fieldLink RX9 26 "PackageRows2Model" "content" "[B" ∈ wsX9_at := by decide +kernel
set_option maxHeartbeats 4000000 in
set_option maxRecDepth 100000 in
/--  -/
theorem c_M_at (l : Launch) (D : va_G) (ca : Nat → ClassId) (M : mw_M) (sz o : Nat) (ve : Nat) (th sg oc cm li fa tr to pz pi : Int32) (mn : Nat → Int32) (si : Nat → Int32) (co : Nat → Int32) (vcn : Nat → Nat) (vk : Nat → Nat → Nat) (k i0 y : Int32) (ho : M o = some (.inr (9, mdF o th sg oc cm li (nI ve) fa tr to pz pi))) (h_mn : M (o + 9) = some (.inl (ca 0, 12, .inl mn))) (h_si : M (o + 5) = some (.inl (ca 0, 120, .inl si))) (h_co : M (o + 6) = some (.inl (ca 2, 4800, .inl co))) (hve : ve ≤ 12) (hmn : ∀ j, j < ve → mn j = nI (vcn j)) (hvcn : ∀ j, j < ve → vcn j ≤ 8) (hsi : ∀ j t, j < ve → t < vcn j → si (24 + 8 * j + t) = nI (vk j t) ∧ vk j t ≤ 40) : mw_C wsX9_at l yX9_at { frames := 3, cells := 0, slots := 0, locals := 66 } D vwCl (mt ca) [.ref o, .int k, .int i0, .int y] M sz (mq_i (fun v9 M' sz' => ((∃ j t, atE ve vcn k i0 j t ∧ ((∃ u, u < vk j t ∧ y = nI u ∧ v9 = co (40 * (24 + 8 * j + t) + u) &&& 255 ∧ M' = mw_u M o (.inr (9, mdF o 0 sg oc cm li (nI ve) fa tr to pz pi))) ∨ ((∀ u, u < vk j t → y ≠ nI u) ∧ M' = mw_u M o (.inr (9, mdF o 1 sg oc cm li (nI ve) fa tr to pz pi))))) ∨ ((∀ j t, ¬ atE ve vcn k i0 j t) ∧ v9 = -1 ∧ M' = mw_u M o (.inr (9, mdF o 0 sg oc cm li (nI ve) fa tr to pz pi)))) ∧ sz' = sz)) := by
  refine mw_enter (cc := cX9_at) (maxL := 5) (ret := (some .int)) rfl (by decide) (Nat.le_of_ble_eq_true rfl) ?_
  intro p e s m below meth c X hr0 hnm hlt
  refine mj_aload_n X dX9_at_0 rfl 0 rfl ?_
  refine mj_iconst X (v := 0) dX9_at_1 (by decide +kernel) ?_
  refine mj_put X (C := RX9) (T := TX9) (N := 25) (ci := 9) (v := .int 0) tyX9 w_M_at_0 tyX9_ok nmX9 rfl 0 (by decide) w_M_at_1 rfl ho (mdF o 0 sg oc cm li (nI ve) fa tr to pz pi) (Nat.le_of_ble_eq_true rfl) rfl rfl rfl rfl dX9_at_2 ?_
  refine mj_aload_n X dX9_at_5 rfl 0 rfl ?_
  refine mj_iload_n X dX9_at_6 rfl 1 rfl ?_
  refine mj_iload_n X dX9_at_7 rfl 2 rfl ?_
  have f1_ := mw_us (M := M) (a := o) (e := (.inr (9, mdF o 0 sg oc cm li (nI ve) fa tr to pz pi)))
  have f2_ := (mw_un (M := M) (e := (.inr (9, mdF o 0 sg oc cm li (nI ve) fa tr to pz pi))) (show o + 9 ≠ o by omega)).trans h_mn
  refine mj_callV X 2 gX9_at_X9_isFile rfl (by decide +kernel) ⟨by decide, by decide⟩ (c_M_isFile l D ca _ sz o ve 0 sg oc cm li fa tr to pz pi mn vcn k i0 f1_ f2_ hve hmn hvcn) rfl f1_ rfl rfl (Nat.le_of_ble_eq_true rfl) dX9_at_8 ⟨by decide, by decide⟩ (mk_ri (fun b8 hb8 => ?_))
  refine mj_if_ne X 16 dX9_at_11 (by decide) (fun c11 => ?_) (fun c11 => ?_)
  · obtain ⟨j, t, hjt⟩ : ∃ j t, atE ve vcn k i0 j t := by
      rcases hb8 with ⟨j, t, h1, -⟩ | ⟨-, h1⟩
      · exact ⟨j, t, h1⟩
      · exact absurd h1 c11
    obtain ⟨hj, ht, rfl, rfl⟩ := hjt
    have h8 := hvcn j hj
    refine mj_bipush X (v := 24) dX9_at_16 (by decide +kernel) ?_
    refine mj_bipush X (v := 8) dX9_at_18 (by decide +kernel) ?_
    refine mj_iload_n X dX9_at_20 rfl 1 rfl ?_
    refine mj_imul X dX9_at_21 ?_
    refine mj_top (nI (8 * j)) (show nI 8 * nI j = _ from pk_mul 8 j) ?_
    refine mj_iadd X dX9_at_22 ?_
    refine mj_top (nI (24 + 8 * j)) (show nI 24 + nI (8 * j) = _ from nI_add _ _) ?_
    refine mj_iload_n X dX9_at_23 rfl 2 rfl ?_
    refine mj_iadd X dX9_at_24 ?_
    refine mj_top (nI (24 + 8 * j + t)) (nI_add _ _) ?_
    refine mj_istore X [(4, .int (nI (24 + 8 * j + t))), (0, .ref o), (1, .int (nI j)), (2, .int (nI t)), (3, .int y)] dX9_at_25 (by decide) rfl ?_
    refine mj_aload_n X dX9_at_27 rfl 1 rfl ?_
    refine mj_iload_n X dX9_at_28 rfl 4 rfl ?_
    refine mj_iconst X (v := 0) dX9_at_29 (by decide +kernel) ?_
    refine mj_aload_n X dX9_at_30 rfl 1 rfl ?_
    refine mj_get X (C := RX9) (T := TX9) (N := 25) (ci := 9) w_M_at_0 rfl 9 (by decide) w_M_at_2 f1_ rfl dX9_at_31 ?_
    refine mj_iload X dX9_at_34 0 rfl ?_
    have f3_ := (mw_un (M := M) (e := (.inr (9, mdF o 0 sg oc cm li (nI ve) fa tr to pz pi))) (show o + 5 ≠ o by omega)).trans h_si
    refine mj_iald X 0 (nI (vk j t)) rfl f3_ (vp_in_nI (by omega) (by omega)) (by rw [nI_clamp (by omega)]; exact (hsi j t hj ht).1) dX9_at_36 ?_
    refine mj_iconst X (v := 1) dX9_at_37 (by decide +kernel) ?_
    refine mj_isub X dX9_at_38 ?_
    refine mj_callS X 3 gX9_at_X9_in rfl (by decide +kernel) ⟨by decide, by decide⟩ (c_M_in l D ca _ _ y 0 (nI (vk j t) - 1)) rfl rfl (Nat.le_of_ble_eq_true rfl) dX9_at_39 ⟨by decide, by decide⟩ (mk_ri (fun b39 hb39 => ?_))
    subst hb39
    refine mj_if_eq X 49 dX9_at_42 (by decide) (fun c42 => ?_) (fun c42 => ?_)
    · refine mj_iconst X (v := 1) dX9_at_49 (by decide +kernel) ?_
      refine mj_put X (C := RX9) (T := TX9) (N := 25) (ci := 9) (v := .int 1) tyX9 w_M_at_0 tyX9_ok nmX9 rfl 0 (by decide) w_M_at_1 rfl f1_ (mdF o 1 sg oc cm li (nI ve) fa tr to pz pi) (Nat.le_of_ble_eq_true rfl) rfl rfl rfl rfl dX9_at_50 ?_
      refine mj_aload_n X dX9_at_53 rfl 1 rfl ?_
      have f4_ := mw_us (M := (mw_u M o (.inr (9, mdF o 0 sg oc cm li (nI ve) fa tr to pz pi)))) (a := o) (e := (.inr (9, mdF o 1 sg oc cm li (nI ve) fa tr to pz pi)))
      refine mj_get X (C := RX9) (T := TX9) (N := 25) (ci := 9) w_M_at_0 rfl 0 (by decide) w_M_at_1 f4_ rfl dX9_at_54 ?_
      refine mj_if_le X 64 dX9_at_57 (by decide) (fun c57 => ?_) (fun c57 => ?_)
      · exact absurd c57 (by decide)
      · refine mj_iconst X (v := 0) dX9_at_60 (by decide +kernel) ?_
        refine mj_goto X 80 dX9_at_61 (by decide) ?_
        refine mj_iret X hr0 (by decide) (by decide) dX9_at_80 ?_
        have hvk := (hsi j t hj ht).2
        exact ⟨_, rfl, Or.inl ⟨j, t, ⟨hj, ht, rfl, rfl⟩, Or.inr ⟨(inB_f (n := vk j t) (by omega)).mp (b2i_eq c42), by rw [mw_uu]⟩⟩, rfl⟩
    · have hvk := (hsi j t hj ht).2
      obtain ⟨u, hu, rfl⟩ := (inB_n (n := vk j t) (by omega)).mp (b2i_ne c42)
      refine mj_iconst X (v := 0) dX9_at_45 (by decide +kernel) ?_
      refine mj_goto X 50 dX9_at_46 (by decide) ?_
      refine mj_put X (C := RX9) (T := TX9) (N := 25) (ci := 9) (v := .int 0) tyX9 w_M_at_0 tyX9_ok nmX9 rfl 0 (by decide) w_M_at_1 rfl f1_ (mdF o 0 sg oc cm li (nI ve) fa tr to pz pi) (Nat.le_of_ble_eq_true rfl) rfl rfl rfl rfl dX9_at_50 ?_
      refine mj_aload_n X dX9_at_53 rfl 1 rfl ?_
      have f5_ := mw_us (M := (mw_u M o (.inr (9, mdF o 0 sg oc cm li (nI ve) fa tr to pz pi)))) (a := o) (e := (.inr (9, mdF o 0 sg oc cm li (nI ve) fa tr to pz pi)))
      refine mj_get X (C := RX9) (T := TX9) (N := 25) (ci := 9) w_M_at_0 rfl 0 (by decide) w_M_at_1 f5_ rfl dX9_at_54 ?_
      refine mj_if_le X 64 dX9_at_57 (by decide) (fun c57 => ?_) (fun c57 => ?_)
      · refine mj_aload_n X dX9_at_64 rfl 1 rfl ?_
        refine mj_get X (C := RX9) (T := TX9) (N := 25) (ci := 9) w_M_at_0 rfl 10 (by decide) w_M_at_3 f5_ rfl dX9_at_65 ?_
        refine mj_bipush X (v := 40) dX9_at_68 (by decide +kernel) ?_
        refine mj_iload X dX9_at_70 0 rfl ?_
        refine mj_imul X dX9_at_72 ?_
        refine mj_top (nI (40 * (24 + 8 * j + t))) (show nI 40 * nI (24 + 8 * j + t) = _ from pk_mul 40 (24 + 8 * j + t)) ?_
        refine mj_iload_n X dX9_at_73 rfl 4 rfl ?_
        refine mj_iadd X dX9_at_74 ?_
        refine mj_top (nI (40 * (24 + 8 * j + t) + u)) (nI_add _ _) ?_
        have f6_ := (mw_un (M := M) (e := (.inr (9, mdF o 0 sg oc cm li (nI ve) fa tr to pz pi))) (show o + 6 ≠ o by omega)).trans h_co
        have f7_ := (mw_un (M := (mw_u M o (.inr (9, mdF o 0 sg oc cm li (nI ve) fa tr to pz pi)))) (e := (.inr (9, mdF o 0 sg oc cm li (nI ve) fa tr to pz pi))) (show o + 6 ≠ o by omega)).trans f6_
        refine mj_bald X 2 (co (40 * (24 + 8 * j + t) + u)) rfl f7_ (vp_in_nI (by omega) (by omega)) (by rw [nI_clamp (by omega)]) dX9_at_75 ?_
        refine mj_sipush X (v := 255) dX9_at_76 (by decide +kernel) ?_
        refine mj_iand X dX9_at_79 ?_
        refine mj_iret X hr0 (by decide) (by decide) dX9_at_80 ?_
        exact ⟨_, rfl, Or.inl ⟨j, t, ⟨hj, ht, rfl, rfl⟩, Or.inl ⟨u, hu, rfl, rfl, by rw [mw_uu]⟩⟩, rfl⟩
      · exact absurd (by decide) c57
  · refine mj_iconst X (v := -1) dX9_at_14 (by decide +kernel) ?_
    refine mj_iret X hr0 (by decide) (by decide) dX9_at_15 ?_
    exact ⟨_, rfl, Or.inr ⟨(by rcases hb8 with ⟨j, t, h1, h2⟩ | ⟨h1, -⟩; exact absurd (h2.symm.trans c11) (by decide); exact h1), rfl, rfl⟩, rfl⟩

theorem w_M_copy_0 : ∀ w ∈ u_ws RX9 TX9 25, w ∈ wsX9_copy := by decide +kernel
theorem w_M_copy_1 : Cond.fieldLink RX9 26 "PackageRows2Model" "content" "[B" ∈ wsX9_copy := by decide +kernel
theorem w_M_copy_2 : Cond.fieldLink RX9 23 "PackageRows2Model" "size" "[I" ∈ wsX9_copy := by decide +kernel
theorem w_M_copy_3 : Cond.fieldLink RX9 20 "PackageRows2Model" "paths" "[B" ∈ wsX9_copy := by decide +kernel
theorem w_M_copy_4 : Cond.fieldLink RX9 16 "PackageRows2Model" "pathSize" "[I" ∈ wsX9_copy := by decide +kernel
set_option maxHeartbeats 4000000 in
set_option maxRecDepth 100000 in
theorem lp_M_copy_62 {l : Launch} {D : va_G} {ca : Nat → ClassId} (M : mw_M) (sz o : Nat) (th sg oc cm li ve fa tr to pz pi : Int32) (ps : Nat → Int32) (pp : Nat → Int32) (si : Nat → Int32) (co : Nat → Int32) (a b : Nat) (ho : M o = some (.inr (9, mdF o th sg oc cm li ve fa tr to pz pi))) (h_ps : M (o + 3) = some (.inl (ca 0, 120, .inl ps))) (h_pp : M (o + 4) = some (.inl (ca 2, 2880, .inl pp))) (h_si : M (o + 5) = some (.inl (ca 0, 120, .inl si))) (h_co : M (o + 6) = some (.inl (ca 2, 4800, .inl co))) (ha : a < 120) (hb : b < 120) (hab : a ≠ b) (hpb : ∀ q, q < 2880 → (pp q).toInt8.toInt32 = pp q) (hcb : ∀ q, q < 4800 → (co q).toInt8.toInt32 = co q) {p : Program} {e : Env} {s : State} {m : MethodId} {below : List Frame} {meth : Method} {c : Code} (X : mw_X p s m ([.ref o, .int (nI a), .int (nI b)] : List Value).toArray meth c cX9_copy 4 yX9_copy.cls wsX9_copy D vwCl (mt ca)) (hr0 : meth.sig.returnType = none) (hnm : meth.name = yX9_copy.name) (hlt : ∀ (a : Nat) (x : va_E), M a = some x → a < sz) : ∀ (fu : Nat) (i : Nat), i ≤ 40 → 40 < i + fu → mw_J p l e { frames := 0, cells := 0, slots := 0, locals := 0 } s m ([.ref o, .int (nI a), .int (nI b)] : List Value).toArray below meth c 4 D vwCl (mw_A M sz) (MQ below (mw_Q D vwCl M sz (mq_v (fun M' sz' => M' = mw_u (mw_u (mw_u (mw_u M (o + 3) (.inl (ca 0, 120, .inl (upd ps a (ps b))))) (o + 4) (.inl (ca 2, 2880, .inl (va_cpy (fun q => pp (24 * b + q)) pp 0 (24 * a) 24)))) (o + 5) (.inl (ca 0, 120, .inl (upd si a (si b))))) (o + 6) (.inl (ca 2, 4800, .inl (va_cpy (fun q => co (40 * b + q)) co 0 (40 * a) 40))) ∧ sz' = sz))) ([.ref o, .int (nI a), .int (nI b)] : List Value).toArray s 0 0 (mw_A M sz)) 62 [(0, .ref o), (1, .int (nI a)), (2, .int (nI b)), (3, .int (nI i))] [] (mw_u (mw_u (mw_u (mw_u M (o + 3) (.inl (ca 0, 120, .inl (upd ps a (ps b))))) (o + 4) (.inl (ca 2, 2880, .inl (va_cpy (fun q => pp (24 * b + q)) pp 0 (24 * a) 24)))) (o + 5) (.inl (ca 0, 120, .inl (upd si a (si b))))) (o + 6) (.inl (ca 2, 4800, .inl (va_cpy (fun q => co (40 * b + q)) co 0 (40 * a) i)))) sz 0 0 := by
  intro fu
  induction fu with
  | zero => intro i h1 h2; omega
  | succ fu ih =>
    intro i hi hfu
    refine mj_iload_n X dX9_copy_62 rfl 3 rfl ?_
    refine mj_bipush X (v := 40) dX9_copy_63 (by decide +kernel) ?_
    refine mj_icmp_ge X 96 dX9_copy_65 (by decide) (fun c65 => ?_) (fun c65 => ?_)
    · refine mj_vret X hr0 (by decide) (by decide) dX9_copy_96 ?_
      exact ⟨rfl, by rw [show i = 40 by have h9 := (nI_leI (a := 40) (by omega) (by omega)).mp c65; omega], rfl⟩
    · have hlt65 : i < 40 := Nat.not_le.mp (fun h9 => c65 (show nI 40 ≤ nI i from nI_le h9 (by omega)))
      refine mj_aload_n X dX9_copy_68 rfl 0 rfl ?_
      have f1_ := (mw_un (M := M) (e := (.inl (ca 0, 120, .inl (upd ps a (ps b))))) (show o ≠ o + 3 by omega)).trans ho
      have f2_ := (mw_un (M := (mw_u M (o + 3) (.inl (ca 0, 120, .inl (upd ps a (ps b)))))) (e := (.inl (ca 2, 2880, .inl (va_cpy (fun q => pp (24 * b + q)) pp 0 (24 * a) 24)))) (show o ≠ o + 4 by omega)).trans f1_
      have f3_ := (mw_un (M := (mw_u (mw_u M (o + 3) (.inl (ca 0, 120, .inl (upd ps a (ps b))))) (o + 4) (.inl (ca 2, 2880, .inl (va_cpy (fun q => pp (24 * b + q)) pp 0 (24 * a) 24))))) (e := (.inl (ca 0, 120, .inl (upd si a (si b))))) (show o ≠ o + 5 by omega)).trans f2_
      have f4_ := (mw_un (M := (mw_u (mw_u (mw_u M (o + 3) (.inl (ca 0, 120, .inl (upd ps a (ps b))))) (o + 4) (.inl (ca 2, 2880, .inl (va_cpy (fun q => pp (24 * b + q)) pp 0 (24 * a) 24)))) (o + 5) (.inl (ca 0, 120, .inl (upd si a (si b)))))) (e := (.inl (ca 2, 4800, .inl (va_cpy (fun q => co (40 * b + q)) co 0 (40 * a) i)))) (show o ≠ o + 6 by omega)).trans f3_
      refine mj_get X (C := RX9) (T := TX9) (N := 25) (ci := 9) w_M_copy_0 rfl 10 (by decide) w_M_copy_1 f4_ rfl dX9_copy_69 ?_
      refine mj_bipush X (v := 40) dX9_copy_72 (by decide +kernel) ?_
      refine mj_iload_n X dX9_copy_74 rfl 1 rfl ?_
      refine mj_imul X dX9_copy_75 ?_
      refine mj_top (nI (40 * a)) (show nI 40 * nI a = _ from pk_mul 40 a) ?_
      refine mj_iload_n X dX9_copy_76 rfl 3 rfl ?_
      refine mj_iadd X dX9_copy_77 ?_
      refine mj_top (nI (40 * a + i)) (nI_add _ _) ?_
      refine mj_aload_n X dX9_copy_78 rfl 0 rfl ?_
      refine mj_get X (C := RX9) (T := TX9) (N := 25) (ci := 9) w_M_copy_0 rfl 10 (by decide) w_M_copy_1 f4_ rfl dX9_copy_79 ?_
      refine mj_bipush X (v := 40) dX9_copy_82 (by decide +kernel) ?_
      refine mj_iload_n X dX9_copy_84 rfl 2 rfl ?_
      refine mj_imul X dX9_copy_85 ?_
      refine mj_top (nI (40 * b)) (show nI 40 * nI b = _ from pk_mul 40 b) ?_
      refine mj_iload_n X dX9_copy_86 rfl 3 rfl ?_
      refine mj_iadd X dX9_copy_87 ?_
      refine mj_top (nI (40 * b + i)) (nI_add _ _) ?_
      have f5_ := (mw_un (M := M) (e := (.inl (ca 0, 120, .inl (upd ps a (ps b))))) (show o + 6 ≠ o + 3 by omega)).trans h_co
      have f6_ := (mw_un (M := (mw_u M (o + 3) (.inl (ca 0, 120, .inl (upd ps a (ps b)))))) (e := (.inl (ca 2, 2880, .inl (va_cpy (fun q => pp (24 * b + q)) pp 0 (24 * a) 24)))) (show o + 6 ≠ o + 4 by omega)).trans f5_
      have f7_ := (mw_un (M := (mw_u (mw_u M (o + 3) (.inl (ca 0, 120, .inl (upd ps a (ps b))))) (o + 4) (.inl (ca 2, 2880, .inl (va_cpy (fun q => pp (24 * b + q)) pp 0 (24 * a) 24))))) (e := (.inl (ca 0, 120, .inl (upd si a (si b))))) (show o + 6 ≠ o + 5 by omega)).trans f6_
      have f8_ := mw_us (M := (mw_u (mw_u (mw_u M (o + 3) (.inl (ca 0, 120, .inl (upd ps a (ps b))))) (o + 4) (.inl (ca 2, 2880, .inl (va_cpy (fun q => pp (24 * b + q)) pp 0 (24 * a) 24)))) (o + 5) (.inl (ca 0, 120, .inl (upd si a (si b)))))) (a := (o + 6)) (e := (.inl (ca 2, 4800, .inl (va_cpy (fun q => co (40 * b + q)) co 0 (40 * a) i))))
      refine mj_bald X 2 (co (40 * b + i)) rfl f8_ (vp_in_nI (by omega) (by omega)) (by rw [nI_clamp (by omega)]; exact pk_cpy_out (by omega)) dX9_copy_88 ?_
      refine mj_bast X 2 (40 * a + i) rfl f8_ (vp_in_nI (by omega) (by omega)) (nI_clamp (by omega)) dX9_copy_89 ?_
      refine mj_iinc X [(3, .int (nI (i + 1))), (0, .ref o), (1, .int (nI a)), (2, .int (nI b))] dX9_copy_90 3 rfl (nI_1 i) (by decide) rfl ?_
      refine mj_goto X 62 dX9_copy_93 (by decide) ?_
      refine mj_sub [1, 2, 3, 0] rfl ?_
      refine mj_to rfl rfl (show _ = mw_u _ (o + 6) (.inl (ca 2, 4800, .inl (va_cpy (fun q => co (40 * b + q)) co 0 (40 * a) (i + 1)))) by rw [mw_uu, show vp_nar .byte (co (40 * b + i)) = co (40 * b + i) by rw [vp_nar_byte]; exact hcb _ (by omega), cpy_self_s co (40 * b) (40 * a) i _ rfl]) rfl ?_
      exact ih (i + 1) hlt65 (by omega)
set_option maxHeartbeats 4000000 in
set_option maxRecDepth 100000 in
theorem lp_M_copy_14 {l : Launch} {D : va_G} {ca : Nat → ClassId} (M : mw_M) (sz o : Nat) (th sg oc cm li ve fa tr to pz pi : Int32) (ps : Nat → Int32) (pp : Nat → Int32) (si : Nat → Int32) (co : Nat → Int32) (a b : Nat) (ho : M o = some (.inr (9, mdF o th sg oc cm li ve fa tr to pz pi))) (h_ps : M (o + 3) = some (.inl (ca 0, 120, .inl ps))) (h_pp : M (o + 4) = some (.inl (ca 2, 2880, .inl pp))) (h_si : M (o + 5) = some (.inl (ca 0, 120, .inl si))) (h_co : M (o + 6) = some (.inl (ca 2, 4800, .inl co))) (ha : a < 120) (hb : b < 120) (hab : a ≠ b) (hpb : ∀ q, q < 2880 → (pp q).toInt8.toInt32 = pp q) (hcb : ∀ q, q < 4800 → (co q).toInt8.toInt32 = co q) {p : Program} {e : Env} {s : State} {m : MethodId} {below : List Frame} {meth : Method} {c : Code} (X : mw_X p s m ([.ref o, .int (nI a), .int (nI b)] : List Value).toArray meth c cX9_copy 4 yX9_copy.cls wsX9_copy D vwCl (mt ca)) (hr0 : meth.sig.returnType = none) (hnm : meth.name = yX9_copy.name) (hlt : ∀ (a : Nat) (x : va_E), M a = some x → a < sz) : ∀ (fu : Nat) (i : Nat), i ≤ 24 → 24 < i + fu → mw_J p l e { frames := 0, cells := 0, slots := 0, locals := 0 } s m ([.ref o, .int (nI a), .int (nI b)] : List Value).toArray below meth c 4 D vwCl (mw_A M sz) (MQ below (mw_Q D vwCl M sz (mq_v (fun M' sz' => M' = mw_u (mw_u (mw_u (mw_u M (o + 3) (.inl (ca 0, 120, .inl (upd ps a (ps b))))) (o + 4) (.inl (ca 2, 2880, .inl (va_cpy (fun q => pp (24 * b + q)) pp 0 (24 * a) 24)))) (o + 5) (.inl (ca 0, 120, .inl (upd si a (si b))))) (o + 6) (.inl (ca 2, 4800, .inl (va_cpy (fun q => co (40 * b + q)) co 0 (40 * a) 40))) ∧ sz' = sz))) ([.ref o, .int (nI a), .int (nI b)] : List Value).toArray s 0 0 (mw_A M sz)) 14 [(0, .ref o), (1, .int (nI a)), (2, .int (nI b)), (3, .int (nI i))] [] (mw_u (mw_u M (o + 3) (.inl (ca 0, 120, .inl (upd ps a (ps b))))) (o + 4) (.inl (ca 2, 2880, .inl (va_cpy (fun q => pp (24 * b + q)) pp 0 (24 * a) i)))) sz 0 0 := by
  intro fu
  induction fu with
  | zero => intro i h1 h2; omega
  | succ fu ih =>
    intro i hi hfu
    refine mj_iload_n X dX9_copy_14 rfl 3 rfl ?_
    refine mj_bipush X (v := 24) dX9_copy_15 (by decide +kernel) ?_
    refine mj_icmp_ge X 48 dX9_copy_17 (by decide) (fun c17 => ?_) (fun c17 => ?_)
    · refine mj_aload_n X dX9_copy_48 rfl 0 rfl ?_
      have f9_ := (mw_un (M := M) (e := (.inl (ca 0, 120, .inl (upd ps a (ps b))))) (show o ≠ o + 3 by omega)).trans ho
      have f10_ := (mw_un (M := (mw_u M (o + 3) (.inl (ca 0, 120, .inl (upd ps a (ps b)))))) (e := (.inl (ca 2, 2880, .inl (va_cpy (fun q => pp (24 * b + q)) pp 0 (24 * a) i)))) (show o ≠ o + 4 by omega)).trans f9_
      refine mj_get X (C := RX9) (T := TX9) (N := 25) (ci := 9) w_M_copy_0 rfl 9 (by decide) w_M_copy_2 f10_ rfl dX9_copy_49 ?_
      refine mj_iload_n X dX9_copy_52 rfl 1 rfl ?_
      refine mj_aload_n X dX9_copy_53 rfl 0 rfl ?_
      refine mj_get X (C := RX9) (T := TX9) (N := 25) (ci := 9) w_M_copy_0 rfl 9 (by decide) w_M_copy_2 f10_ rfl dX9_copy_54 ?_
      refine mj_iload_n X dX9_copy_57 rfl 2 rfl ?_
      have f11_ := (mw_un (M := M) (e := (.inl (ca 0, 120, .inl (upd ps a (ps b))))) (show o + 5 ≠ o + 3 by omega)).trans h_si
      have f12_ := (mw_un (M := (mw_u M (o + 3) (.inl (ca 0, 120, .inl (upd ps a (ps b)))))) (e := (.inl (ca 2, 2880, .inl (va_cpy (fun q => pp (24 * b + q)) pp 0 (24 * a) i)))) (show o + 5 ≠ o + 4 by omega)).trans f11_
      refine mj_iald X 0 (si b) rfl f12_ (vp_in_nI (by omega) (by omega)) (by rw [nI_clamp (by omega)]) dX9_copy_58 ?_
      refine mj_iast X 0 a rfl f12_ (vp_in_nI (by omega) (by omega)) (nI_clamp (by omega)) dX9_copy_59 ?_
      refine mj_iconst X (v := 0) dX9_copy_60 (by decide +kernel) ?_
      refine mj_istore_n X [(3, .int 0), (0, .ref o), (1, .int (nI a)), (2, .int (nI b))] dX9_copy_61 rfl (by decide) rfl ?_
      refine mj_sub [1, 2, 3, 0] rfl ?_
      have f13_ := (mw_un (M := M) (e := (.inl (ca 0, 120, .inl (upd ps a (ps b))))) (show o + 6 ≠ o + 3 by omega)).trans h_co
      have f14_ := (mw_un (M := (mw_u M (o + 3) (.inl (ca 0, 120, .inl (upd ps a (ps b)))))) (e := (.inl (ca 2, 2880, .inl (va_cpy (fun q => pp (24 * b + q)) pp 0 (24 * a) i)))) (show o + 6 ≠ o + 4 by omega)).trans f13_
      have f15_ := (mw_un (M := (mw_u (mw_u M (o + 3) (.inl (ca 0, 120, .inl (upd ps a (ps b))))) (o + 4) (.inl (ca 2, 2880, .inl (va_cpy (fun q => pp (24 * b + q)) pp 0 (24 * a) i))))) (e := (.inl (ca 0, 120, .inl (upd si a (si b))))) (show o + 6 ≠ o + 5 by omega)).trans f14_
      have e9 : i = 24 := by have h9 := (nI_leI (a := 24) (by omega) (by omega)).mp c17; omega
      subst e9
      refine mj_to (M' := mw_u (mw_u (mw_u (mw_u M (o + 3) (.inl (ca 0, 120, .inl (upd ps a (ps b))))) (o + 4) (.inl (ca 2, 2880, .inl (va_cpy (fun q => pp (24 * b + q)) pp 0 (24 * a) 24)))) (o + 5) (.inl (ca 0, 120, .inl (upd si a (si b))))) (o + 6) (.inl (ca 2, 4800, .inl (va_cpy (fun q => co (40 * b + q)) co 0 (40 * a) 0)))) rfl rfl (by rw [cpy_0]; exact (mw_self f15_).symm) rfl ?_
      rw [← nI_0]
      exact lp_M_copy_62 (l := l) (D := D) (ca := ca) M sz o th sg oc cm li ve fa tr to pz pi ps pp si co a b ho h_ps h_pp h_si h_co ha hb hab hpb hcb X hr0 hnm hlt 41 0 (by omega) (by omega)
    · have hlt17 : i < 24 := Nat.not_le.mp (fun h9 => c17 (show nI 24 ≤ nI i from nI_le h9 (by omega)))
      refine mj_aload_n X dX9_copy_20 rfl 0 rfl ?_
      have f16_ := (mw_un (M := M) (e := (.inl (ca 0, 120, .inl (upd ps a (ps b))))) (show o ≠ o + 3 by omega)).trans ho
      have f17_ := (mw_un (M := (mw_u M (o + 3) (.inl (ca 0, 120, .inl (upd ps a (ps b)))))) (e := (.inl (ca 2, 2880, .inl (va_cpy (fun q => pp (24 * b + q)) pp 0 (24 * a) i)))) (show o ≠ o + 4 by omega)).trans f16_
      refine mj_get X (C := RX9) (T := TX9) (N := 25) (ci := 9) w_M_copy_0 rfl 8 (by decide) w_M_copy_3 f17_ rfl dX9_copy_21 ?_
      refine mj_bipush X (v := 24) dX9_copy_24 (by decide +kernel) ?_
      refine mj_iload_n X dX9_copy_26 rfl 1 rfl ?_
      refine mj_imul X dX9_copy_27 ?_
      refine mj_top (nI (24 * a)) (show nI 24 * nI a = _ from pk_mul 24 a) ?_
      refine mj_iload_n X dX9_copy_28 rfl 3 rfl ?_
      refine mj_iadd X dX9_copy_29 ?_
      refine mj_top (nI (24 * a + i)) (nI_add _ _) ?_
      refine mj_aload_n X dX9_copy_30 rfl 0 rfl ?_
      refine mj_get X (C := RX9) (T := TX9) (N := 25) (ci := 9) w_M_copy_0 rfl 8 (by decide) w_M_copy_3 f17_ rfl dX9_copy_31 ?_
      refine mj_bipush X (v := 24) dX9_copy_34 (by decide +kernel) ?_
      refine mj_iload_n X dX9_copy_36 rfl 2 rfl ?_
      refine mj_imul X dX9_copy_37 ?_
      refine mj_top (nI (24 * b)) (show nI 24 * nI b = _ from pk_mul 24 b) ?_
      refine mj_iload_n X dX9_copy_38 rfl 3 rfl ?_
      refine mj_iadd X dX9_copy_39 ?_
      refine mj_top (nI (24 * b + i)) (nI_add _ _) ?_
      have f18_ := (mw_un (M := M) (e := (.inl (ca 0, 120, .inl (upd ps a (ps b))))) (show o + 4 ≠ o + 3 by omega)).trans h_pp
      have f19_ := mw_us (M := (mw_u M (o + 3) (.inl (ca 0, 120, .inl (upd ps a (ps b)))))) (a := (o + 4)) (e := (.inl (ca 2, 2880, .inl (va_cpy (fun q => pp (24 * b + q)) pp 0 (24 * a) i))))
      refine mj_bald X 2 (pp (24 * b + i)) rfl f19_ (vp_in_nI (by omega) (by omega)) (by rw [nI_clamp (by omega)]; exact pk_cpy_out (by omega)) dX9_copy_40 ?_
      refine mj_bast X 2 (24 * a + i) rfl f19_ (vp_in_nI (by omega) (by omega)) (nI_clamp (by omega)) dX9_copy_41 ?_
      refine mj_iinc X [(3, .int (nI (i + 1))), (0, .ref o), (1, .int (nI a)), (2, .int (nI b))] dX9_copy_42 3 rfl (nI_1 i) (by decide) rfl ?_
      refine mj_goto X 14 dX9_copy_45 (by decide) ?_
      refine mj_sub [1, 2, 3, 0] rfl ?_
      refine mj_to rfl rfl (show _ = mw_u _ (o + 4) (.inl (ca 2, 2880, .inl (va_cpy (fun q => pp (24 * b + q)) pp 0 (24 * a) (i + 1)))) by rw [mw_uu, show vp_nar .byte (pp (24 * b + i)) = pp (24 * b + i) by rw [vp_nar_byte]; exact hpb _ (by omega), cpy_self_s pp (24 * b) (24 * a) i _ rfl]) rfl ?_
      exact ih (i + 1) hlt17 (by omega)
set_option maxHeartbeats 4000000 in
set_option maxRecDepth 100000 in
/--  -/
theorem c_M_copy (l : Launch) (D : va_G) (ca : Nat → ClassId) (M : mw_M) (sz o : Nat) (th sg oc cm li ve fa tr to pz pi : Int32) (ps : Nat → Int32) (pp : Nat → Int32) (si : Nat → Int32) (co : Nat → Int32) (a b : Nat) (ho : M o = some (.inr (9, mdF o th sg oc cm li ve fa tr to pz pi))) (h_ps : M (o + 3) = some (.inl (ca 0, 120, .inl ps))) (h_pp : M (o + 4) = some (.inl (ca 2, 2880, .inl pp))) (h_si : M (o + 5) = some (.inl (ca 0, 120, .inl si))) (h_co : M (o + 6) = some (.inl (ca 2, 4800, .inl co))) (ha : a < 120) (hb : b < 120) (hab : a ≠ b) (hpb : ∀ q, q < 2880 → (pp q).toInt8.toInt32 = pp q) (hcb : ∀ q, q < 4800 → (co q).toInt8.toInt32 = co q) : mw_C wsX9_copy l yX9_copy { frames := 0, cells := 0, slots := 0, locals := 0 } D vwCl (mt ca) [.ref o, .int (nI a), .int (nI b)] M sz (mq_v (fun M' sz' => M' = mw_u (mw_u (mw_u (mw_u M (o + 3) (.inl (ca 0, 120, .inl (upd ps a (ps b))))) (o + 4) (.inl (ca 2, 2880, .inl (va_cpy (fun q => pp (24 * b + q)) pp 0 (24 * a) 24)))) (o + 5) (.inl (ca 0, 120, .inl (upd si a (si b))))) (o + 6) (.inl (ca 2, 4800, .inl (va_cpy (fun q => co (40 * b + q)) co 0 (40 * a) 40))) ∧ sz' = sz)) := by
  refine mw_enter (cc := cX9_copy) (maxL := 4) (ret := none) rfl (by decide) (Nat.le_of_ble_eq_true rfl) ?_
  intro p e s m below meth c X hr0 hnm hlt
  refine mj_aload_n X dX9_copy_0 rfl 0 rfl ?_
  refine mj_get X (C := RX9) (T := TX9) (N := 25) (ci := 9) w_M_copy_0 rfl 7 (by decide) w_M_copy_4 ho rfl dX9_copy_1 ?_
  refine mj_iload_n X dX9_copy_4 rfl 1 rfl ?_
  refine mj_aload_n X dX9_copy_5 rfl 0 rfl ?_
  refine mj_get X (C := RX9) (T := TX9) (N := 25) (ci := 9) w_M_copy_0 rfl 7 (by decide) w_M_copy_4 ho rfl dX9_copy_6 ?_
  refine mj_iload_n X dX9_copy_9 rfl 2 rfl ?_
  refine mj_iald X 0 (ps b) rfl h_ps (vp_in_nI (by omega) (by omega)) (by rw [nI_clamp (by omega)]) dX9_copy_10 ?_
  refine mj_iast X 0 a rfl h_ps (vp_in_nI (by omega) (by omega)) (nI_clamp (by omega)) dX9_copy_11 ?_
  refine mj_iconst X (v := 0) dX9_copy_12 (by decide +kernel) ?_
  refine mj_istore_n X [(3, .int 0), (0, .ref o), (1, .int (nI a)), (2, .int (nI b))] dX9_copy_13 rfl (by decide) rfl ?_
  refine mj_sub [1, 2, 3, 0] rfl ?_
  have f20_ := (mw_un (M := M) (e := (.inl (ca 0, 120, .inl (upd ps a (ps b))))) (show o + 4 ≠ o + 3 by omega)).trans h_pp
  refine mj_to (M' := mw_u (mw_u M (o + 3) (.inl (ca 0, 120, .inl (upd ps a (ps b))))) (o + 4) (.inl (ca 2, 2880, .inl (va_cpy (fun q => pp (24 * b + q)) pp 0 (24 * a) 0)))) rfl rfl (by rw [cpy_0]; exact (mw_self f20_).symm) rfl ?_
  rw [← nI_0]
  exact lp_M_copy_14 (l := l) (D := D) (ca := ca) M sz o th sg oc cm li ve fa tr to pz pi ps pp si co a b ho h_ps h_pp h_si h_co ha hb hab hpb hcb X hr0 hnm hlt 25 0 (by omega) (by omega)

theorem w_M_fault_0 : ∀ w ∈ u_ws RX9 TX9 25, w ∈ wsX9_fault := by decide +kernel
theorem w_M_fault_1 : Cond.fieldLink RX9 99 "PackageRows2Model" "faults" "I" ∈ wsX9_fault := by decide +kernel
theorem w_M_fault_2 : Cond.fieldLink RX9 54 "PackageRows2Model" "thrown" "I" ∈ wsX9_fault := by decide +kernel
theorem w_M_fault_3 : Cond.fieldLink RX9 44 "PackageRows2Model" "faultOf" "[I" ∈ wsX9_fault := by decide +kernel
theorem w_M_fault_4 : Cond.fieldLink RX9 41 "PackageRows2Model" "fault" "[I" ∈ wsX9_fault := by decide +kernel
set_option maxHeartbeats 4000000 in
set_option maxRecDepth 100000 in
/--  -/
theorem c_M_fault (l : Launch) (D : va_G) (ca : Nat → ClassId) (M : mw_M) (sz o : Nat) (fa : Nat) (th sg oc cm li ve tr to pz pi : Int32) (fk : Nat → Int32) (fo : Nat → Int32) (k y : Int32) (ho : M o = some (.inr (9, mdF o th sg oc cm li ve (nI fa) tr to pz pi))) (h_fk : M (o + 11) = some (.inl (ca 0, 24, .inl fk))) (h_fo : M (o + 12) = some (.inl (ca 0, 24, .inl fo))) (hfa : fa ≤ 24) : mw_C wsX9_fault l yX9_fault { frames := 1, cells := 0, slots := 0, locals := 22 } D vwCl (mt ca) [.ref o, .int k, .int y] M sz (mq_i (fun v9 M' sz' => ((∃ j, j < fa ∧ k = nI j ∧ v9 = (if y = 0 then fk j else if y = 1 then fo j else -1) ∧ M' = mw_u M o (.inr (9, mdF o 0 sg oc cm li ve (nI fa) tr to pz pi))) ∨ ((∀ j, j < fa → k ≠ nI j) ∧ M' = mw_u M o (.inr (9, mdF o 1 sg oc cm li ve (nI fa) tr to pz pi)))) ∧ sz' = sz)) := by
  refine mw_enter (cc := cX9_fault) (maxL := 3) (ret := (some .int)) rfl (by decide) (Nat.le_of_ble_eq_true rfl) ?_
  intro p e s m below meth c X hr0 hnm hlt
  refine mj_aload_n X dX9_fault_0 rfl 0 rfl ?_
  refine mj_iload_n X dX9_fault_1 rfl 1 rfl ?_
  refine mj_iconst X (v := 0) dX9_fault_2 (by decide +kernel) ?_
  refine mj_aload_n X dX9_fault_3 rfl 0 rfl ?_
  refine mj_get X (C := RX9) (T := TX9) (N := 25) (ci := 9) w_M_fault_0 rfl 16 (by decide) w_M_fault_1 ho rfl dX9_fault_4 ?_
  refine mj_iconst X (v := 1) dX9_fault_7 (by decide +kernel) ?_
  refine mj_isub X dX9_fault_8 ?_
  refine mj_callS X 3 gX9_fault_X9_in rfl (by decide +kernel) ⟨by decide, by decide⟩ (c_M_in l D ca _ _ k 0 (nI fa - 1)) rfl rfl (Nat.le_of_ble_eq_true rfl) dX9_fault_9 ⟨by decide, by decide⟩ (mk_ri (fun b9 hb9 => ?_))
  subst hb9
  refine mj_if_eq X 19 dX9_fault_12 (by decide) (fun c12 => ?_) (fun c12 => ?_)
  · refine mj_iconst X (v := 1) dX9_fault_19 (by decide +kernel) ?_
    refine mj_put X (C := RX9) (T := TX9) (N := 25) (ci := 9) (v := .int 1) tyX9 w_M_fault_0 tyX9_ok nmX9 rfl 0 (by decide) w_M_fault_2 rfl ho (mdF o 1 sg oc cm li ve (nI fa) tr to pz pi) (Nat.le_of_ble_eq_true rfl) rfl rfl rfl rfl dX9_fault_20 ?_
    refine mj_aload_n X dX9_fault_23 rfl 0 rfl ?_
    have f1_ := mw_us (M := M) (a := o) (e := (.inr (9, mdF o 1 sg oc cm li ve (nI fa) tr to pz pi)))
    refine mj_get X (C := RX9) (T := TX9) (N := 25) (ci := 9) w_M_fault_0 rfl 0 (by decide) w_M_fault_2 f1_ rfl dX9_fault_24 ?_
    refine mj_if_le X 32 dX9_fault_27 (by decide) (fun c27 => ?_) (fun c27 => ?_)
    · exact absurd c27 (by decide)
    · refine mj_iconst X (v := 0) dX9_fault_30 (by decide +kernel) ?_
      refine mj_iret X hr0 (by decide) (by decide) dX9_fault_31 ?_
      exact ⟨_, rfl, Or.inr ⟨(inB_f (by omega)).mp (b2i_eq c12), rfl⟩, rfl⟩
  · obtain ⟨j, hj, rfl⟩ := (inB_n (by omega)).mp (b2i_ne c12)
    refine mj_iconst X (v := 0) dX9_fault_15 (by decide +kernel) ?_
    refine mj_goto X 20 dX9_fault_16 (by decide) ?_
    refine mj_put X (C := RX9) (T := TX9) (N := 25) (ci := 9) (v := .int 0) tyX9 w_M_fault_0 tyX9_ok nmX9 rfl 0 (by decide) w_M_fault_2 rfl ho (mdF o 0 sg oc cm li ve (nI fa) tr to pz pi) (Nat.le_of_ble_eq_true rfl) rfl rfl rfl rfl dX9_fault_20 ?_
    refine mj_aload_n X dX9_fault_23 rfl 0 rfl ?_
    have f2_ := mw_us (M := M) (a := o) (e := (.inr (9, mdF o 0 sg oc cm li ve (nI fa) tr to pz pi)))
    refine mj_get X (C := RX9) (T := TX9) (N := 25) (ci := 9) w_M_fault_0 rfl 0 (by decide) w_M_fault_2 f2_ rfl dX9_fault_24 ?_
    refine mj_if_le X 32 dX9_fault_27 (by decide) (fun c27 => ?_) (fun c27 => ?_)
    · refine mj_iload_n X dX9_fault_32 rfl 2 rfl ?_
      refine mj_if_ne X 45 dX9_fault_33 (by decide) (fun c33 => ?_) (fun c33 => ?_)
      · refine mj_iload_n X dX9_fault_45 rfl 2 rfl ?_
        refine mj_iconst X (v := 1) dX9_fault_46 (by decide +kernel) ?_
        refine mj_icmp_ne X 59 dX9_fault_47 (by decide) (fun c47 => ?_) (fun c47 => ?_)
        · refine mj_iconst X (v := -1) dX9_fault_59 (by decide +kernel) ?_
          refine mj_iret X hr0 (by decide) (by decide) dX9_fault_60 ?_
          exact ⟨_, rfl, Or.inl ⟨j, hj, rfl, by rw [if_neg c33, if_neg c47], rfl⟩, rfl⟩
        · refine mj_aload_n X dX9_fault_50 rfl 0 rfl ?_
          refine mj_get X (C := RX9) (T := TX9) (N := 25) (ci := 9) w_M_fault_0 rfl 18 (by decide) w_M_fault_3 f2_ rfl dX9_fault_51 ?_
          refine mj_iload_n X dX9_fault_54 rfl 1 rfl ?_
          have f3_ := (mw_un (M := M) (e := (.inr (9, mdF o 0 sg oc cm li ve (nI fa) tr to pz pi))) (show o + 12 ≠ o by omega)).trans h_fo
          refine mj_iald X 0 (fo j) rfl f3_ (vp_in_nI (by omega) (by omega)) (by rw [nI_clamp (by omega)]) dX9_fault_55 ?_
          refine mj_goto X 60 dX9_fault_56 (by decide) ?_
          refine mj_iret X hr0 (by decide) (by decide) dX9_fault_60 ?_
          exact ⟨_, rfl, Or.inl ⟨j, hj, rfl, by rw [if_neg c33, if_pos c47], rfl⟩, rfl⟩
      · refine mj_aload_n X dX9_fault_36 rfl 0 rfl ?_
        refine mj_get X (C := RX9) (T := TX9) (N := 25) (ci := 9) w_M_fault_0 rfl 17 (by decide) w_M_fault_4 f2_ rfl dX9_fault_37 ?_
        refine mj_iload_n X dX9_fault_40 rfl 1 rfl ?_
        have f4_ := (mw_un (M := M) (e := (.inr (9, mdF o 0 sg oc cm li ve (nI fa) tr to pz pi))) (show o + 11 ≠ o by omega)).trans h_fk
        refine mj_iald X 0 (fk j) rfl f4_ (vp_in_nI (by omega) (by omega)) (by rw [nI_clamp (by omega)]) dX9_fault_41 ?_
        refine mj_goto X 60 dX9_fault_42 (by decide) ?_
        refine mj_iret X hr0 (by decide) (by decide) dX9_fault_60 ?_
        exact ⟨_, rfl, Or.inl ⟨j, hj, rfl, by rw [if_pos c33], rfl⟩, rfl⟩
    · exact absurd (by decide) c27

