theorem sumB_N (g : Nat → Int32) : ∀ n, sumB g n = sumN (fun k => g k &&& 255) n
  | 0 => rfl
  | n + 1 => by simp only [sumB, sumN]; rw [sumB_N g n]
def pad (n : Nat) (f : Nat → Int32) (k : Nat) : Int32 := if k < n then f k else -1
theorem pad_lt {n : Nat} {f : Nat → Int32} {k : Nat} (h : k < n) : pad n f k = f k := if_pos h
theorem pad_ge {n : Nat} {f : Nat → Int32} {k : Nat} (h : n ≤ k) : pad n f k = -1 := if_neg (by omega)
theorem m1_nI {a : Nat} (h : a < 256) : (-1 : Int32) - nI a < 0 ∧ nI a - (-1) ≠ 0 ∧ ¬ nI a - (-1) < 0 ∧ (-1 : Int32) - nI a ≠ 0 := by
  have h1 : ∀ a : Fin 256, (-1 : Int32) - nI a.val < 0 ∧ nI a.val - (-1) ≠ 0 ∧ ¬ nI a.val - (-1) < 0 ∧ (-1 : Int32) - nI a.val ≠ 0 := by decide +kernel
  exact h1 ⟨a, h⟩
theorem ordM_eq {n m : Nat} {f g : Nat → Int32} (hn : n ≤ 24) (hm : m ≤ 24) (hf : bnd n f) (hg : bnd m g) (h : ∀ j, j < 24 → pad n f j = pad m g j) : same n f m g := by
  have e : n = m := by
    rcases Nat.lt_trichotomy n m with q | q | q
    · obtain ⟨a, ha, e⟩ := hg n q
      have h1 := h n (by omega)
      rw [pad_ge (Nat.le_refl _), pad_lt q, e] at h1
      exact absurd h1 (nI_m1 (by omega))
    · exact q
    · obtain ⟨a, ha, e⟩ := hf m q
      have h1 := h m (by omega)
      rw [pad_ge (Nat.le_refl m), pad_lt q, e] at h1
      exact absurd h1.symm (nI_m1 (by omega))
  subst e
  exact ⟨rfl, fun j hj => by have h1 := h j (by omega); rw [pad_lt hj, pad_lt hj] at h1; exact h1⟩
theorem ordM_ne {n m : Nat} {f g : Nat → Int32} {i : Nat} (hf : bnd n f) (hg : bnd m g) (h : ∀ j, j < i → pad n f j = pad m g j) (hne : ¬ pad n f i = pad m g i) : ¬ same n f m g ∧ pad n f i - pad m g i ≠ 0 ∧ (pad n f i - pad m g i < 0 ↔ ltN n f m g) := by
  have hs : ¬ same n f m g := by
    rintro ⟨rfl, h2⟩
    by_cases q : i < n
    · exact hne (by rw [pad_lt q, pad_lt q]; exact h2 i q)
    · exact hne (by rw [pad_ge (by omega), pad_ge (by omega)])
  refine ⟨hs, fun h9 => hne (i32_sub0 h9), ?_⟩
  rcases Nat.lt_or_ge i n with q1 | q1 <;> rcases Nat.lt_or_ge i m with q2 | q2
  · have hpre : ∀ j, j < i → f j = g j := fun j hj => by have h1 := h j hj; rw [pad_lt (by omega), pad_lt (by omega)] at h1; exact h1
    rw [pad_lt q1, pad_lt q2] at hne ⊢
    obtain ⟨a, ha, ea⟩ := hf i q1
    obtain ⟨b, hb, eb⟩ := hg i q2
    rw [ea, eb, i32_subneg (by omega) (by omega)]
    constructor
    · exact fun h9 => Or.inl ⟨i, q1, q2, hpre, by rw [ea, eb]; exact nI_lt h9 (by omega)⟩
    · rintro (⟨k, k1, k2, k3, k4⟩ | ⟨k1, k2⟩)
      · rcases Nat.lt_trichotomy k i with z | z | z
        · rw [hpre k z] at k4; exact absurd k4 (fun q => Int32.lt_irrefl q)
        · subst z; rw [ea, eb] at k4; exact (nI_ltI (by omega) (by omega)).mp k4
        · exact absurd (k3 i z) hne
      · exact absurd (k2 i q1) hne
  · have e : i = m := by
      rcases Nat.lt_or_ge m i with z | z
      · have h1 := h m z
        obtain ⟨a, ha, ea⟩ := hf m (by omega)
        rw [pad_lt (by omega), pad_ge (Nat.le_refl _), ea] at h1
        exact absurd h1.symm (nI_m1 (by omega))
      · omega
    subst e
    obtain ⟨a, ha, ea⟩ := hf i q1
    rw [pad_lt q1, pad_ge (Nat.le_refl _), ea]
    refine ⟨fun h9 => absurd h9 (m1_nI ha).2.2.1, ?_⟩
    rintro (⟨k, k1, k2, k3, k4⟩ | ⟨k1, k2⟩)
    · have h1 := h k (by omega)
      rw [pad_lt k1, pad_lt k2] at h1
      rw [h1] at k4; exact absurd k4 (fun q => Int32.lt_irrefl q)
    · omega
  · have e : i = n := by
      rcases Nat.lt_or_ge n i with z | z
      · have h1 := h n z
        obtain ⟨a, ha, ea⟩ := hg n (by omega)
        rw [pad_ge (Nat.le_refl n), pad_lt (by omega), ea] at h1
        exact absurd h1 (nI_m1 (by omega))
      · omega
    subst e
    obtain ⟨a, ha, ea⟩ := hg i q2
    rw [pad_ge (Nat.le_refl i), pad_lt q2, ea]
    refine ⟨fun _ => Or.inr ⟨q2, fun j hj => ?_⟩, fun _ => (m1_nI ha).1⟩
    have h1 := h j hj
    rw [pad_lt hj, pad_lt (by omega)] at h1
    exact h1
  · rw [pad_ge q1, pad_ge q2] at hne; exact absurd rfl hne
/-- slot a of the reference holds a name -/
def slN (ps pp : Nat → Int32) (psn : Nat → Nat) (a : Nat) : Prop := ps a = nI (psn a) ∧ psn a ≤ 24 ∧ bnd (psn a) (fun j => pp (24 * a + j))
theorem w_M_sumOf_0 : ∀ w ∈ u_ws RX9 TX9 25, w ∈ wsX9_sumOf := by decide +kernel
theorem w_M_sumOf_1 : Cond.fieldLink RX9 23 "PackageRows2Model" "size" "[I" ∈ wsX9_sumOf := by decide +kernel
theorem w_M_sumOf_2 : Jvm.Cond.constant RX9 86 (65599) ∈ wsX9_sumOf := by decide +kernel
theorem w_M_sumOf_3 : Cond.fieldLink RX9 26 "PackageRows2Model" "content" "[B" ∈ wsX9_sumOf := by decide +kernel
set_option maxHeartbeats 4000000 in
set_option maxRecDepth 100000 in
theorem lp_M_sumOf_4 {l : Launch} {D : va_G} {ca : Nat → ClassId} (M : mw_M) (sz o : Nat) (th sg oc cm li ve fa tr to pz pi : Int32) (si : Nat → Int32) (co : Nat → Int32) (a sn : Nat) (ho : M o = some (.inr (9, mdF o th sg oc cm li ve fa tr to pz pi))) (h_si : M (o + 5) = some (.inl (ca 0, 120, .inl si))) (h_co : M (o + 6) = some (.inl (ca 2, 4800, .inl co))) (ha : a < 120) (hsi : si a = nI sn) (hsn : sn ≤ 40) {p : Program} {e : Env} {s : State} {m : MethodId} {below : List Frame} {meth : Method} {c : Code} (X : mw_X p s m ([.ref o, .int (nI a)] : List Value).toArray meth c cX9_sumOf 4 yX9_sumOf.cls wsX9_sumOf D vwCl (mt ca)) (hr0 : meth.sig.returnType = (some .int)) (hnm : meth.name = yX9_sumOf.name) (hlt : ∀ (a : Nat) (x : va_E), M a = some x → a < sz) : ∀ (fu : Nat) (i : Nat), i ≤ sn → sn < i + fu → mw_J p l e { frames := 0, cells := 0, slots := 0, locals := 0 } s m ([.ref o, .int (nI a)] : List Value).toArray below meth c 4 D vwCl (mw_A M sz) (MQ below (mw_Q D vwCl M sz (mq_i (fun v9 M' sz' => M' = M ∧ sz' = sz ∧ v9 = sumB (fun k => co (40 * a + k)) sn))) ([.ref o, .int (nI a)] : List Value).toArray s 0 0 (mw_A M sz)) 4 [(0, .ref o), (1, .int (nI a)), (2, .int (sumB (fun k => co (40 * a + k)) i)), (3, .int (nI i))] [] M sz 0 0 := by
  intro fu
  induction fu with
  | zero => intro i h1 h2; omega
  | succ fu ih =>
    intro i hi hfu
    refine mj_iload_n X dX9_sumOf_4 rfl 3 rfl ?_
    refine mj_aload_n X dX9_sumOf_5 rfl 0 rfl ?_
    refine mj_get X (C := RX9) (T := TX9) (N := 25) (ci := 9) w_M_sumOf_0 rfl 9 (by decide) w_M_sumOf_1 ho rfl dX9_sumOf_6 ?_
    refine mj_iload_n X dX9_sumOf_9 rfl 1 rfl ?_
    refine mj_iald X 0 (nI sn) rfl h_si (vp_in_nI (by omega) (by omega)) (by rw [nI_clamp (by omega)]; exact hsi) dX9_sumOf_10 ?_
    refine mj_icmp_ge X 41 dX9_sumOf_11 (by decide) (fun c11 => ?_) (fun c11 => ?_)
    · refine mj_iload_n X dX9_sumOf_41 rfl 2 rfl ?_
      refine mj_iret X hr0 (by decide) (by decide) dX9_sumOf_42 ?_
      exact ⟨_, rfl, rfl, rfl, by rw [show i = sn by have h9 := (nI_leI (by omega) (by omega)).mp c11; omega]⟩
    · have hlt11 : i < sn := Nat.not_le.mp (fun h9 => c11 (nI_le h9 (by omega)))
      refine mj_ldc X (v := 65599) w_M_sumOf_2 dX9_sumOf_14 ?_
      refine mj_iload_n X dX9_sumOf_16 rfl 2 rfl ?_
      refine mj_imul X dX9_sumOf_17 ?_
      refine mj_aload_n X dX9_sumOf_18 rfl 0 rfl ?_
      refine mj_get X (C := RX9) (T := TX9) (N := 25) (ci := 9) w_M_sumOf_0 rfl 10 (by decide) w_M_sumOf_3 ho rfl dX9_sumOf_19 ?_
      refine mj_bipush X (v := 40) dX9_sumOf_22 (by decide +kernel) ?_
      refine mj_iload_n X dX9_sumOf_24 rfl 1 rfl ?_
      refine mj_imul X dX9_sumOf_25 ?_
      refine mj_top (nI (40 * a)) (show nI 40 * nI a = _ from pk_mul 40 a) ?_
      refine mj_iload_n X dX9_sumOf_26 rfl 3 rfl ?_
      refine mj_iadd X dX9_sumOf_27 ?_
      refine mj_top (nI (40 * a + i)) (nI_add _ _) ?_
      refine mj_bald X 2 (co (40 * a + i)) rfl h_co (vp_in_nI (by omega) (by omega)) (by rw [nI_clamp (by omega)]) dX9_sumOf_28 ?_
      refine mj_sipush X (v := 255) dX9_sumOf_29 (by decide +kernel) ?_
      refine mj_iand X dX9_sumOf_32 ?_
      refine mj_iadd X dX9_sumOf_33 ?_
      refine mj_top (sumB (fun k => co (40 * a + k)) (i + 1)) rfl ?_
      refine mj_istore_n X [(2, .int (sumB (fun k => co (40 * a + k)) (i + 1))), (0, .ref o), (1, .int (nI a)), (3, .int (nI i))] dX9_sumOf_34 rfl (by decide) rfl ?_
      refine mj_iinc X [(3, .int (nI (i + 1))), (2, .int (sumB (fun k => co (40 * a + k)) (i + 1))), (0, .ref o), (1, .int (nI a))] dX9_sumOf_35 3 rfl (nI_1 i) (by decide) rfl ?_
      refine mj_goto X 4 dX9_sumOf_38 (by decide) ?_
      refine mj_sub [2, 3, 1, 0] rfl ?_
      exact ih (i + 1) hlt11 (by omega)
set_option maxHeartbeats 4000000 in
set_option maxRecDepth 100000 in
/--  -/
theorem c_M_sumOf (l : Launch) (D : va_G) (ca : Nat → ClassId) (M : mw_M) (sz o : Nat) (th sg oc cm li ve fa tr to pz pi : Int32) (si : Nat → Int32) (co : Nat → Int32) (a sn : Nat) (ho : M o = some (.inr (9, mdF o th sg oc cm li ve fa tr to pz pi))) (h_si : M (o + 5) = some (.inl (ca 0, 120, .inl si))) (h_co : M (o + 6) = some (.inl (ca 2, 4800, .inl co))) (ha : a < 120) (hsi : si a = nI sn) (hsn : sn ≤ 40) : mw_C wsX9_sumOf l yX9_sumOf { frames := 0, cells := 0, slots := 0, locals := 0 } D vwCl (mt ca) [.ref o, .int (nI a)] M sz (mq_i (fun v9 M' sz' => M' = M ∧ sz' = sz ∧ v9 = sumB (fun k => co (40 * a + k)) sn)) := by
  refine mw_enter (cc := cX9_sumOf) (maxL := 4) (ret := (some .int)) rfl (by decide) (Nat.le_of_ble_eq_true rfl) ?_
  intro p e s m below meth c X hr0 hnm hlt
  refine mj_iconst X (v := 1) dX9_sumOf_0 (by decide +kernel) ?_
  refine mj_istore_n X [(2, .int 1), (0, .ref o), (1, .int (nI a))] dX9_sumOf_1 rfl (by decide) rfl ?_
  refine mj_iconst X (v := 0) dX9_sumOf_2 (by decide +kernel) ?_
  refine mj_istore_n X [(3, .int 0), (2, .int 1), (0, .ref o), (1, .int (nI a))] dX9_sumOf_3 rfl (by decide) rfl ?_
  refine mj_sub [2, 3, 1, 0] rfl ?_
  exact lp_M_sumOf_4 (l := l) (D := D) (ca := ca) M sz o th sg oc cm li ve fa tr to pz pi si co a sn ho h_si h_co ha hsi hsn X hr0 hnm hlt (sn + 1) 0 (by omega) (by omega)

theorem w_M_order_0 : ∀ w ∈ u_ws RX9 TX9 25, w ∈ wsX9_order := by decide +kernel
theorem w_M_order_1 : Cond.fieldLink RX9 16 "PackageRows2Model" "pathSize" "[I" ∈ wsX9_order := by decide +kernel
theorem w_M_order_2 : Cond.fieldLink RX9 20 "PackageRows2Model" "paths" "[B" ∈ wsX9_order := by decide +kernel
set_option maxHeartbeats 4000000 in
set_option maxRecDepth 100000 in
theorem lp_M_order_2 {l : Launch} {D : va_G} {ca : Nat → ClassId} (M : mw_M) (sz o : Nat) (th sg oc cm li ve fa tr to pz pi : Int32) (ps : Nat → Int32) (pp : Nat → Int32) (a b : Nat) (psn : Nat → Nat) (ho : M o = some (.inr (9, mdF o th sg oc cm li ve fa tr to pz pi))) (h_ps : M (o + 3) = some (.inl (ca 0, 120, .inl ps))) (h_pp : M (o + 4) = some (.inl (ca 2, 2880, .inl pp))) (ha : a < 120) (hb : b < 120) (hsa : slN ps pp psn a) (hsb : slN ps pp psn b) {p : Program} {e : Env} {s : State} {m : MethodId} {below : List Frame} {meth : Method} {c : Code} (X : mw_X p s m ([.ref o, .int (nI a), .int (nI b)] : List Value).toArray meth c cX9_order 6 yX9_order.cls wsX9_order D vwCl (mt ca)) (hr0 : meth.sig.returnType = (some .int)) (hnm : meth.name = yX9_order.name) (hlt : ∀ (a : Nat) (x : va_E), M a = some x → a < sz) : ∀ (fu : Nat) (i : Nat), i ≤ 24 → 24 < i + fu → (∀ j, j < i → pad (psn a) (fun t9 => pp (24 * a + t9)) j = pad (psn b) (fun t9 => pp (24 * b + t9)) j) → mw_J p l e { frames := 0, cells := 0, slots := 0, locals := 0 } s m ([.ref o, .int (nI a), .int (nI b)] : List Value).toArray below meth c 6 D vwCl (mw_A M sz) (MQ below (mw_Q D vwCl M sz (mq_i (fun v9 M' sz' => M' = M ∧ sz' = sz ∧ ((same (psn a) (fun t9 => pp (24 * a + t9)) (psn b) (fun t9 => pp (24 * b + t9)) ∧ v9 = 0) ∨ (¬ same (psn a) (fun t9 => pp (24 * a + t9)) (psn b) (fun t9 => pp (24 * b + t9)) ∧ v9 ≠ 0 ∧ (v9 < 0 ↔ ltN (psn a) (fun t9 => pp (24 * a + t9)) (psn b) (fun t9 => pp (24 * b + t9)))))))) ([.ref o, .int (nI a), .int (nI b)] : List Value).toArray s 0 0 (mw_A M sz)) 2 [(0, .ref o), (1, .int (nI a)), (2, .int (nI b)), (3, .int (nI i))] [] M sz 0 0 := by
  intro fu
  induction fu with
  | zero => intro i h1 h2; omega
  | succ fu ih =>
    intro i hi hfu hall
    refine mj_iload_n X dX9_order_2 rfl 3 rfl ?_
    refine mj_bipush X (v := 24) dX9_order_3 (by decide +kernel) ?_
    refine mj_icmp_ge X 81 dX9_order_5 (by decide) (fun c5 => ?_) (fun c5 => ?_)
    · refine mj_iconst X (v := 0) dX9_order_81 (by decide +kernel) ?_
      refine mj_iret X hr0 (by decide) (by decide) dX9_order_82 ?_
      exact ⟨_, rfl, rfl, rfl, Or.inl ⟨ordM_eq hsa.2.1 hsb.2.1 hsa.2.2 hsb.2.2 (fun j hj => hall j (by have h9 := (nI_leI (a := 24) (by omega) (by omega)).mp c5; omega)), rfl⟩⟩
    · have hlt5 : i < 24 := Nat.not_le.mp (fun h9 => c5 (show nI 24 ≤ nI i from nI_le h9 (by omega)))
      refine mj_iload_n X dX9_order_8 rfl 3 rfl ?_
      refine mj_aload_n X dX9_order_9 rfl 0 rfl ?_
      refine mj_get X (C := RX9) (T := TX9) (N := 25) (ci := 9) w_M_order_0 rfl 7 (by decide) w_M_order_1 ho rfl dX9_order_10 ?_
      refine mj_iload_n X dX9_order_13 rfl 1 rfl ?_
      refine mj_iald X 0 (nI (psn a)) rfl h_ps (vp_in_nI (by omega) (by omega)) (by rw [nI_clamp (by omega)]; exact hsa.1) dX9_order_14 ?_
      refine mj_icmp_ge X 32 dX9_order_15 (by decide) (fun c15 => ?_) (fun c15 => ?_)
      · have hx : psn a ≤ i := (nI_leI (by have := hsa.2.1; omega) (by omega)).mp c15
        refine mj_iconst X (v := -1) dX9_order_32 (by decide +kernel) ?_
        refine mj_istore X [(4, .int (-1)), (0, .ref o), (1, .int (nI a)), (2, .int (nI b)), (3, .int (nI i))] dX9_order_33 (by decide) rfl ?_
        refine mj_iload_n X dX9_order_35 rfl 4 rfl ?_
        refine mj_aload_n X dX9_order_36 rfl 1 rfl ?_
        refine mj_get X (C := RX9) (T := TX9) (N := 25) (ci := 9) w_M_order_0 rfl 7 (by decide) w_M_order_1 ho rfl dX9_order_37 ?_
        refine mj_iload_n X dX9_order_40 rfl 3 rfl ?_
        refine mj_iald X 0 (nI (psn b)) rfl h_ps (vp_in_nI (by omega) (by omega)) (by rw [nI_clamp (by omega)]; exact hsb.1) dX9_order_41 ?_
        refine mj_icmp_ge X 59 dX9_order_42 (by decide) (fun c42 => ?_) (fun c42 => ?_)
        · have hy : psn b ≤ i := (nI_leI (by have := hsb.2.1; omega) (by omega)).mp c42
          refine mj_iconst X (v := -1) dX9_order_59 (by decide +kernel) ?_
          refine mj_istore X [(5, .int (-1)), (4, .int (-1)), (0, .ref o), (1, .int (nI a)), (2, .int (nI b)), (3, .int (nI i))] dX9_order_60 (by decide) rfl ?_
          refine mj_iload X dX9_order_62 1 rfl ?_
          refine mj_iload X dX9_order_64 0 rfl ?_
          refine mj_icmp_eq X 75 dX9_order_66 (by decide) (fun c66 => ?_) (fun c66 => ?_)
          · refine mj_iinc X [(3, .int (nI (i + 1))), (5, .int (-1)), (4, .int (-1)), (0, .ref o), (1, .int (nI a)), (2, .int (nI b))] dX9_order_75 5 rfl (nI_1 i) (by decide) rfl ?_
            refine mj_goto X 2 dX9_order_78 (by decide) ?_
            refine mj_sub [3, 4, 5, 0] rfl ?_
            have ex := pad_ge (n := psn a) (f := (fun t9 => pp (24 * a + t9))) hx
            have ey := pad_ge (n := psn b) (f := (fun t9 => pp (24 * b + t9))) hy
            exact ih (i + 1) hlt5 (by omega) (lt_s hall (by rw [ex, ey]; try exact c66))
          · refine mj_iload X dX9_order_69 1 rfl ?_
            refine mj_iload X dX9_order_71 0 rfl ?_
            refine mj_isub X dX9_order_73 ?_
            refine mj_iret X hr0 (by decide) (by decide) dX9_order_74 ?_
            have ex := pad_ge (n := psn a) (f := (fun t9 => pp (24 * a + t9))) hx
            have ey := pad_ge (n := psn b) (f := (fun t9 => pp (24 * b + t9))) hy
            have h9 := ordM_ne hsa.2.2 hsb.2.2 hall (i := i) (by rw [ex, ey]; exact c66)
            rw [ex, ey] at h9
            exact ⟨_, rfl, rfl, rfl, Or.inr h9⟩
        · have hy : i < psn b := Nat.not_le.mp (fun h9 => c42 (nI_le h9 (by omega)))
          refine mj_aload_n X dX9_order_45 rfl 1 rfl ?_
          refine mj_get X (C := RX9) (T := TX9) (N := 25) (ci := 9) w_M_order_0 rfl 8 (by decide) w_M_order_2 ho rfl dX9_order_46 ?_
          refine mj_bipush X (v := 24) dX9_order_49 (by decide +kernel) ?_
          refine mj_iload_n X dX9_order_51 rfl 3 rfl ?_
          refine mj_imul X dX9_order_52 ?_
          refine mj_top (nI (24 * b)) (show nI 24 * nI b = _ from pk_mul 24 b) ?_
          refine mj_iload_n X dX9_order_53 rfl 4 rfl ?_
          refine mj_iadd X dX9_order_54 ?_
          refine mj_top (nI (24 * b + i)) (nI_add _ _) ?_
          refine mj_bald X 2 (pp (24 * b + i)) rfl h_pp (vp_in_nI (by omega) (by omega)) (by rw [nI_clamp (by omega)]) dX9_order_55 ?_
          refine mj_goto X 60 dX9_order_56 (by decide) ?_
          refine mj_istore X [(5, .int (pp (24 * b + i))), (4, .int (-1)), (0, .ref o), (1, .int (nI a)), (2, .int (nI b)), (3, .int (nI i))] dX9_order_60 (by decide) rfl ?_
          refine mj_iload X dX9_order_62 1 rfl ?_
          refine mj_iload X dX9_order_64 0 rfl ?_
          refine mj_icmp_eq X 75 dX9_order_66 (by decide) (fun c66 => ?_) (fun c66 => ?_)
          · refine mj_iinc X [(3, .int (nI (i + 1))), (5, .int (pp (24 * b + i))), (4, .int (-1)), (0, .ref o), (1, .int (nI a)), (2, .int (nI b))] dX9_order_75 5 rfl (nI_1 i) (by decide) rfl ?_
            refine mj_goto X 2 dX9_order_78 (by decide) ?_
            refine mj_sub [3, 4, 5, 0] rfl ?_
            have ex := pad_ge (n := psn a) (f := (fun t9 => pp (24 * a + t9))) hx
            have ey := pad_lt (n := psn b) (f := (fun t9 => pp (24 * b + t9))) hy
            exact ih (i + 1) hlt5 (by omega) (lt_s hall (by rw [ex, ey]; try exact c66))
          · refine mj_iload X dX9_order_69 1 rfl ?_
            refine mj_iload X dX9_order_71 0 rfl ?_
            refine mj_isub X dX9_order_73 ?_
            refine mj_iret X hr0 (by decide) (by decide) dX9_order_74 ?_
            have ex := pad_ge (n := psn a) (f := (fun t9 => pp (24 * a + t9))) hx
            have ey := pad_lt (n := psn b) (f := (fun t9 => pp (24 * b + t9))) hy
            have h9 := ordM_ne hsa.2.2 hsb.2.2 hall (i := i) (by rw [ex, ey]; exact c66)
            rw [ex, ey] at h9
            exact ⟨_, rfl, rfl, rfl, Or.inr h9⟩
      · have hx : i < psn a := Nat.not_le.mp (fun h9 => c15 (nI_le h9 (by omega)))
        refine mj_aload_n X dX9_order_18 rfl 0 rfl ?_
        refine mj_get X (C := RX9) (T := TX9) (N := 25) (ci := 9) w_M_order_0 rfl 8 (by decide) w_M_order_2 ho rfl dX9_order_19 ?_
        refine mj_bipush X (v := 24) dX9_order_22 (by decide +kernel) ?_
        refine mj_iload_n X dX9_order_24 rfl 1 rfl ?_
        refine mj_imul X dX9_order_25 ?_
        refine mj_top (nI (24 * a)) (show nI 24 * nI a = _ from pk_mul 24 a) ?_
        refine mj_iload_n X dX9_order_26 rfl 3 rfl ?_
        refine mj_iadd X dX9_order_27 ?_
        refine mj_top (nI (24 * a + i)) (nI_add _ _) ?_
        refine mj_bald X 2 (pp (24 * a + i)) rfl h_pp (vp_in_nI (by omega) (by omega)) (by rw [nI_clamp (by omega)]) dX9_order_28 ?_
        refine mj_goto X 33 dX9_order_29 (by decide) ?_
        refine mj_istore X [(4, .int (pp (24 * a + i))), (0, .ref o), (1, .int (nI a)), (2, .int (nI b)), (3, .int (nI i))] dX9_order_33 (by decide) rfl ?_
        refine mj_iload_n X dX9_order_35 rfl 4 rfl ?_
        refine mj_aload_n X dX9_order_36 rfl 1 rfl ?_
        refine mj_get X (C := RX9) (T := TX9) (N := 25) (ci := 9) w_M_order_0 rfl 7 (by decide) w_M_order_1 ho rfl dX9_order_37 ?_
        refine mj_iload_n X dX9_order_40 rfl 3 rfl ?_
        refine mj_iald X 0 (nI (psn b)) rfl h_ps (vp_in_nI (by omega) (by omega)) (by rw [nI_clamp (by omega)]; exact hsb.1) dX9_order_41 ?_
        refine mj_icmp_ge X 59 dX9_order_42 (by decide) (fun c42 => ?_) (fun c42 => ?_)
        · have hy : psn b ≤ i := (nI_leI (by have := hsb.2.1; omega) (by omega)).mp c42
          refine mj_iconst X (v := -1) dX9_order_59 (by decide +kernel) ?_
          refine mj_istore X [(5, .int (-1)), (4, .int (pp (24 * a + i))), (0, .ref o), (1, .int (nI a)), (2, .int (nI b)), (3, .int (nI i))] dX9_order_60 (by decide) rfl ?_
          refine mj_iload X dX9_order_62 1 rfl ?_
          refine mj_iload X dX9_order_64 0 rfl ?_
          refine mj_icmp_eq X 75 dX9_order_66 (by decide) (fun c66 => ?_) (fun c66 => ?_)
          · refine mj_iinc X [(3, .int (nI (i + 1))), (5, .int (-1)), (4, .int (pp (24 * a + i))), (0, .ref o), (1, .int (nI a)), (2, .int (nI b))] dX9_order_75 5 rfl (nI_1 i) (by decide) rfl ?_
            refine mj_goto X 2 dX9_order_78 (by decide) ?_
            refine mj_sub [3, 4, 5, 0] rfl ?_
            have ex := pad_lt (n := psn a) (f := (fun t9 => pp (24 * a + t9))) hx
            have ey := pad_ge (n := psn b) (f := (fun t9 => pp (24 * b + t9))) hy
            exact ih (i + 1) hlt5 (by omega) (lt_s hall (by rw [ex, ey]; try exact c66))
          · refine mj_iload X dX9_order_69 1 rfl ?_
            refine mj_iload X dX9_order_71 0 rfl ?_
            refine mj_isub X dX9_order_73 ?_
            refine mj_iret X hr0 (by decide) (by decide) dX9_order_74 ?_
            have ex := pad_lt (n := psn a) (f := (fun t9 => pp (24 * a + t9))) hx
            have ey := pad_ge (n := psn b) (f := (fun t9 => pp (24 * b + t9))) hy
            have h9 := ordM_ne hsa.2.2 hsb.2.2 hall (i := i) (by rw [ex, ey]; exact c66)
            rw [ex, ey] at h9
            exact ⟨_, rfl, rfl, rfl, Or.inr h9⟩
        · have hy : i < psn b := Nat.not_le.mp (fun h9 => c42 (nI_le h9 (by omega)))
          refine mj_aload_n X dX9_order_45 rfl 1 rfl ?_
          refine mj_get X (C := RX9) (T := TX9) (N := 25) (ci := 9) w_M_order_0 rfl 8 (by decide) w_M_order_2 ho rfl dX9_order_46 ?_
          refine mj_bipush X (v := 24) dX9_order_49 (by decide +kernel) ?_
          refine mj_iload_n X dX9_order_51 rfl 3 rfl ?_
          refine mj_imul X dX9_order_52 ?_
          refine mj_top (nI (24 * b)) (show nI 24 * nI b = _ from pk_mul 24 b) ?_
          refine mj_iload_n X dX9_order_53 rfl 4 rfl ?_
          refine mj_iadd X dX9_order_54 ?_
          refine mj_top (nI (24 * b + i)) (nI_add _ _) ?_
          refine mj_bald X 2 (pp (24 * b + i)) rfl h_pp (vp_in_nI (by omega) (by omega)) (by rw [nI_clamp (by omega)]) dX9_order_55 ?_
          refine mj_goto X 60 dX9_order_56 (by decide) ?_
          refine mj_istore X [(5, .int (pp (24 * b + i))), (4, .int (pp (24 * a + i))), (0, .ref o), (1, .int (nI a)), (2, .int (nI b)), (3, .int (nI i))] dX9_order_60 (by decide) rfl ?_
          refine mj_iload X dX9_order_62 1 rfl ?_
          refine mj_iload X dX9_order_64 0 rfl ?_
          refine mj_icmp_eq X 75 dX9_order_66 (by decide) (fun c66 => ?_) (fun c66 => ?_)
          · refine mj_iinc X [(3, .int (nI (i + 1))), (5, .int (pp (24 * b + i))), (4, .int (pp (24 * a + i))), (0, .ref o), (1, .int (nI a)), (2, .int (nI b))] dX9_order_75 5 rfl (nI_1 i) (by decide) rfl ?_
            refine mj_goto X 2 dX9_order_78 (by decide) ?_
            refine mj_sub [3, 4, 5, 0] rfl ?_
            have ex := pad_lt (n := psn a) (f := (fun t9 => pp (24 * a + t9))) hx
            have ey := pad_lt (n := psn b) (f := (fun t9 => pp (24 * b + t9))) hy
            exact ih (i + 1) hlt5 (by omega) (lt_s hall (by rw [ex, ey]; try exact c66))
          · refine mj_iload X dX9_order_69 1 rfl ?_
            refine mj_iload X dX9_order_71 0 rfl ?_
            refine mj_isub X dX9_order_73 ?_
            refine mj_iret X hr0 (by decide) (by decide) dX9_order_74 ?_
            have ex := pad_lt (n := psn a) (f := (fun t9 => pp (24 * a + t9))) hx
            have ey := pad_lt (n := psn b) (f := (fun t9 => pp (24 * b + t9))) hy
            have h9 := ordM_ne hsa.2.2 hsb.2.2 hall (i := i) (by rw [ex, ey]; exact c66)
            rw [ex, ey] at h9
            exact ⟨_, rfl, rfl, rfl, Or.inr h9⟩
set_option maxHeartbeats 4000000 in
set_option maxRecDepth 100000 in
/--  -/
theorem c_M_order (l : Launch) (D : va_G) (ca : Nat → ClassId) (M : mw_M) (sz o : Nat) (th sg oc cm li ve fa tr to pz pi : Int32) (ps : Nat → Int32) (pp : Nat → Int32) (a b : Nat) (psn : Nat → Nat) (ho : M o = some (.inr (9, mdF o th sg oc cm li ve fa tr to pz pi))) (h_ps : M (o + 3) = some (.inl (ca 0, 120, .inl ps))) (h_pp : M (o + 4) = some (.inl (ca 2, 2880, .inl pp))) (ha : a < 120) (hb : b < 120) (hsa : slN ps pp psn a) (hsb : slN ps pp psn b) : mw_C wsX9_order l yX9_order { frames := 0, cells := 0, slots := 0, locals := 0 } D vwCl (mt ca) [.ref o, .int (nI a), .int (nI b)] M sz (mq_i (fun v9 M' sz' => M' = M ∧ sz' = sz ∧ ((same (psn a) (fun t9 => pp (24 * a + t9)) (psn b) (fun t9 => pp (24 * b + t9)) ∧ v9 = 0) ∨ (¬ same (psn a) (fun t9 => pp (24 * a + t9)) (psn b) (fun t9 => pp (24 * b + t9)) ∧ v9 ≠ 0 ∧ (v9 < 0 ↔ ltN (psn a) (fun t9 => pp (24 * a + t9)) (psn b) (fun t9 => pp (24 * b + t9))))))) := by
  refine mw_enter (cc := cX9_order) (maxL := 6) (ret := (some .int)) rfl (by decide) (Nat.le_of_ble_eq_true rfl) ?_
  intro p e s m below meth c X hr0 hnm hlt
  refine mj_iconst X (v := 0) dX9_order_0 (by decide +kernel) ?_
  refine mj_istore_n X [(3, .int 0), (0, .ref o), (1, .int (nI a)), (2, .int (nI b))] dX9_order_1 rfl (by decide) rfl ?_
  refine mj_sub [1, 2, 3, 0] rfl ?_
  exact lp_M_order_2 (l := l) (D := D) (ca := ca) M sz o th sg oc cm li ve fa tr to pz pi ps pp a b psn ho h_ps h_pp ha hb hsa hsb X hr0 hnm hlt 25 0 (by omega) (by omega) (fun j hj => absurd hj (by omega))


set_option maxHeartbeats 4000000 in
set_option maxRecDepth 100000 in
theorem lp_M_first_3 {l : Launch} {D : va_G} {ca : Nat → ClassId} (M : mw_M) (sz o : Nat) (th sg oc cm li ve fa tr to pz pi : Int32) (ps : Nat → Int32) (pp : Nat → Int32) (fr tt b : Nat) (psn : Nat → Nat) (ho : M o = some (.inr (9, mdF o th sg oc cm li ve fa tr to pz pi))) (h_ps : M (o + 3) = some (.inl (ca 0, 120, .inl ps))) (h_pp : M (o + 4) = some (.inl (ca 2, 2880, .inl pp))) (hft : fr ≤ tt) (htt : tt ≤ 120) (hb : b < 120) (hsl : ∀ k, fr ≤ k → k < tt → slN ps pp psn k) (hsb : slN ps pp psn b) {p : Program} {e : Env} {s : State} {m : MethodId} {below : List Frame} {meth : Method} {c : Code} (X : mw_X p s m ([.ref o, .int (nI fr), .int (nI tt), .int (nI b)] : List Value).toArray meth c cX9_first 5 yX9_first.cls wsX9_first D vwCl (mt ca)) (hr0 : meth.sig.returnType = (some .int)) (hnm : meth.name = yX9_first.name) (hlt : ∀ (a : Nat) (x : va_E), M a = some x → a < sz) : ∀ (fu : Nat) (i : Nat), fr ≤ i → i ≤ tt → tt < i + fu → (∀ j, fr ≤ j → j < i → ¬ same (psn j) (fun t9 => pp (24 * j + t9)) (psn b) (fun t9 => pp (24 * b + t9))) → mw_J p l e { frames := 1, cells := 0, slots := 0, locals := 25 } s m ([.ref o, .int (nI fr), .int (nI tt), .int (nI b)] : List Value).toArray below meth c 5 D vwCl (mw_A M sz) (MQ below (mw_Q D vwCl M sz (mq_i (fun v9 M' sz' => M' = M ∧ sz' = sz ∧ ((∃ k, fr ≤ k ∧ k < tt ∧ same (psn k) (fun t9 => pp (24 * k + t9)) (psn b) (fun t9 => pp (24 * b + t9)) ∧ (∀ j, fr ≤ j → j < k → ¬ same (psn j) (fun t9 => pp (24 * j + t9)) (psn b) (fun t9 => pp (24 * b + t9))) ∧ v9 = nI k) ∨ ((∀ k, fr ≤ k → k < tt → ¬ same (psn k) (fun t9 => pp (24 * k + t9)) (psn b) (fun t9 => pp (24 * b + t9))) ∧ v9 = -1))))) ([.ref o, .int (nI fr), .int (nI tt), .int (nI b)] : List Value).toArray s 0 0 (mw_A M sz)) 3 [(0, .ref o), (2, .int (nI tt)), (3, .int (nI b)), (4, .int (nI i))] [] M sz 0 0 := by
  intro fu
  induction fu with
  | zero => intro i h1 h2 h3; omega
  | succ fu ih =>
    intro i hi hit hfu hall
    refine mj_iload X dX9_first_3 3 rfl ?_
    refine mj_iload_n X dX9_first_5 rfl 1 rfl ?_
    refine mj_icmp_ge X 28 dX9_first_6 (by decide) (fun c6 => ?_) (fun c6 => ?_)
    · refine mj_iconst X (v := -1) dX9_first_28 (by decide +kernel) ?_
      refine mj_iret X hr0 (by decide) (by decide) dX9_first_29 ?_
      exact ⟨_, rfl, rfl, rfl, Or.inr ⟨fun k h1 h2 => hall k h1 (by have h9 := (nI_leI (by omega) (by omega)).mp c6; omega), rfl⟩⟩
    · have hlt6 : i < tt := Nat.not_le.mp (fun h9 => c6 (nI_le h9 (by omega)))
      refine mj_aload_n X dX9_first_9 rfl 0 rfl ?_
      refine mj_iload X dX9_first_10 3 rfl ?_
      refine mj_iload_n X dX9_first_12 rfl 2 rfl ?_
      refine mj_callV X 2 gX9_first_X9_order rfl (by decide +kernel) ⟨by decide, by decide⟩ (c_M_order l D ca M sz o th sg oc cm li ve fa tr to pz pi ps pp i b psn ho h_ps h_pp (by omega) hb (hsl i hi hlt6) hsb) rfl ho rfl rfl (Nat.le_of_ble_eq_true rfl) dX9_first_13 ⟨by decide, by decide⟩ (mk_ri (fun b13 hb13 => ?_))
      refine mj_if_ne X 22 dX9_first_16 (by decide) (fun c16 => ?_) (fun c16 => ?_)
      · refine mj_iinc X [(4, .int (nI (i + 1))), (0, .ref o), (2, .int (nI tt)), (3, .int (nI b))] dX9_first_22 3 rfl (nI_1 i) (by decide) rfl ?_
        refine mj_goto X 3 dX9_first_25 (by decide) ?_
        refine mj_sub [1, 2, 3, 0] rfl ?_
        rcases hb13 with ⟨-, h2⟩ | ⟨h1, -⟩
        · exact absurd h2 c16
        · refine ih (i + 1) (by omega) hlt6 (by omega) (fun j q1 q2 => ?_)
          rcases Nat.lt_or_ge j i with q9 | q9
          · exact hall j q1 q9
          · rw [show j = i by omega]; exact h1
      · refine mj_iload X dX9_first_19 3 rfl ?_
        refine mj_iret X hr0 (by decide) (by decide) dX9_first_21 ?_
        rcases hb13 with ⟨h1, -⟩ | ⟨-, h2, -⟩
        · exact ⟨_, rfl, rfl, rfl, Or.inl ⟨i, hi, hlt6, h1, hall, rfl⟩⟩
        · exact absurd c16 h2
set_option maxHeartbeats 4000000 in
set_option maxRecDepth 100000 in
/--  -/
theorem c_M_first (l : Launch) (D : va_G) (ca : Nat → ClassId) (M : mw_M) (sz o : Nat) (th sg oc cm li ve fa tr to pz pi : Int32) (ps : Nat → Int32) (pp : Nat → Int32) (fr tt b : Nat) (psn : Nat → Nat) (ho : M o = some (.inr (9, mdF o th sg oc cm li ve fa tr to pz pi))) (h_ps : M (o + 3) = some (.inl (ca 0, 120, .inl ps))) (h_pp : M (o + 4) = some (.inl (ca 2, 2880, .inl pp))) (hft : fr ≤ tt) (htt : tt ≤ 120) (hb : b < 120) (hsl : ∀ k, fr ≤ k → k < tt → slN ps pp psn k) (hsb : slN ps pp psn b) : mw_C wsX9_first l yX9_first { frames := 1, cells := 0, slots := 0, locals := 25 } D vwCl (mt ca) [.ref o, .int (nI fr), .int (nI tt), .int (nI b)] M sz (mq_i (fun v9 M' sz' => M' = M ∧ sz' = sz ∧ ((∃ k, fr ≤ k ∧ k < tt ∧ same (psn k) (fun t9 => pp (24 * k + t9)) (psn b) (fun t9 => pp (24 * b + t9)) ∧ (∀ j, fr ≤ j → j < k → ¬ same (psn j) (fun t9 => pp (24 * j + t9)) (psn b) (fun t9 => pp (24 * b + t9))) ∧ v9 = nI k) ∨ ((∀ k, fr ≤ k → k < tt → ¬ same (psn k) (fun t9 => pp (24 * k + t9)) (psn b) (fun t9 => pp (24 * b + t9))) ∧ v9 = -1)))) := by
  refine mw_enter (cc := cX9_first) (maxL := 5) (ret := (some .int)) rfl (by decide) (Nat.le_of_ble_eq_true rfl) ?_
  intro p e s m below meth c X hr0 hnm hlt
  refine mj_iload_n X dX9_first_0 rfl 1 rfl ?_
  refine mj_istore X [(4, .int (nI fr)), (0, .ref o), (1, .int (nI fr)), (2, .int (nI tt)), (3, .int (nI b))] dX9_first_1 (by decide) rfl ?_
  refine mj_sub [1, 3, 4, 0] rfl ?_
  exact lp_M_first_3 (l := l) (D := D) (ca := ca) M sz o th sg oc cm li ve fa tr to pz pi ps pp fr tt b psn ho h_ps h_pp hft htt hb hsl hsb X hr0 hnm hlt (tt + 1) fr (Nat.le_refl _) hft (by omega) (fun j h1 h2 => absurd h1 (by omega))

theorem w_M_lineFault_0 : ∀ w ∈ u_ws RX9 TX9 25, w ∈ wsX9_lineFault := by decide +kernel
theorem w_M_lineFault_1 : Cond.fieldLink RX9 76 "PackageRows2Model" "came" "I" ∈ wsX9_lineFault := by decide +kernel
theorem w_M_lineFault_2 : Cond.fieldLink RX9 23 "PackageRows2Model" "size" "[I" ∈ wsX9_lineFault := by decide +kernel
theorem w_M_lineFault_3 : Cond.fieldLink RX9 29 "PackageRows2Model" "lineSize" "[I" ∈ wsX9_lineFault := by decide +kernel
theorem w_M_lineFault_4 : Cond.fieldLink RX9 32 "PackageRows2Model" "lineSum" "[I" ∈ wsX9_lineFault := by decide +kernel
set_option maxHeartbeats 4000000 in
set_option maxRecDepth 100000 in
/--  -/
theorem c_M_lineFault (l : Launch) (D : va_G) (ca : Nat → ClassId) (M : mw_M) (sz o : Nat) (cm li : Nat) (th sg oc ve fa tr to pz pi : Int32) (ps : Nat → Int32) (pp : Nat → Int32) (si : Nat → Int32) (co : Nat → Int32) (ls1 : Nat → Int32) (ls2 : Nat → Int32) (psn sn : Nat → Nat) (i : Nat) (ho : M o = some (.inr (9, mdF o th sg oc (nI cm) (nI li) ve fa tr to pz pi))) (h_ps : M (o + 3) = some (.inl (ca 0, 120, .inl ps))) (h_pp : M (o + 4) = some (.inl (ca 2, 2880, .inl pp))) (h_si : M (o + 5) = some (.inl (ca 0, 120, .inl si))) (h_co : M (o + 6) = some (.inl (ca 2, 4800, .inl co))) (h_ls1 : M (o + 7) = some (.inl (ca 0, 12, .inl ls1))) (h_ls2 : M (o + 8) = some (.inl (ca 0, 12, .inl ls2))) (hcm : cm ≤ 12) (hli : li ≤ 12) (hsE : ∀ k, k < cm → slN ps pp psn k) (hsL : ∀ k, k < li → slN ps pp psn (12 + k)) (hsz : ∀ k, k < cm → si k = nI (sn k) ∧ sn k ≤ 40) (hi : i < li) : mw_C wsX9_lineFault l yX9_lineFault { frames := 2, cells := 0, slots := 0, locals := 49 } D vwCl (mt ca) [.ref o, .int (nI i)] M sz (mq_i (fun v9 M' sz' => M' = M ∧ sz' = sz ∧ lfR cm psn sn (fun p j => pp (24 * p + j)) (fun p k => co (40 * p + k) &&& 255) (fun t => psn (12 + t)) (fun t j => pp (24 * (12 + t) + j)) ls1 ls2 i v9)) := by
  refine mw_enter (cc := cX9_lineFault) (maxL := 3) (ret := (some .int)) rfl (by decide) (Nat.le_of_ble_eq_true rfl) ?_
  intro p e s m below meth c X hr0 hnm hlt
  refine mj_aload_n X dX9_lineFault_0 rfl 0 rfl ?_
  refine mj_bipush X (v := 12) dX9_lineFault_1 (by decide +kernel) ?_
  refine mj_bipush X (v := 12) dX9_lineFault_3 (by decide +kernel) ?_
  refine mj_iload_n X dX9_lineFault_5 rfl 1 rfl ?_
  refine mj_iadd X dX9_lineFault_6 ?_
  refine mj_top (nI (12 + i)) (show nI 12 + nI i = _ from nI_add 12 i) ?_
  refine mj_bipush X (v := 12) dX9_lineFault_7 (by decide +kernel) ?_
  refine mj_iload_n X dX9_lineFault_9 rfl 1 rfl ?_
  refine mj_iadd X dX9_lineFault_10 ?_
  refine mj_top (nI (12 + i)) (show nI 12 + nI i = _ from nI_add 12 i) ?_
  refine mj_callV X 3 gX9_lineFault_X9_first rfl (by decide +kernel) ⟨by decide, by decide⟩ (c_M_first l D ca M sz o th sg oc (nI cm) (nI li) ve fa tr to pz pi ps pp 12 (12 + i) (12 + i) psn ho h_ps h_pp (by omega) (by omega) (by omega) (fun k h1 h2 => by obtain ⟨t, rfl⟩ : ∃ t, k = 12 + t := ⟨k - 12, by omega⟩; exact hsL t (by omega)) (hsL i hi)) rfl ho rfl rfl (Nat.le_of_ble_eq_true rfl) dX9_lineFault_11 ⟨by decide, by decide⟩ (mk_ri (fun b11 hb11 => ?_))
  refine mj_if_lt X 19 dX9_lineFault_14 (by decide) (fun c14 => ?_) (fun c14 => ?_)
  · refine mj_aload_n X dX9_lineFault_19 rfl 0 rfl ?_
    refine mj_iconst X (v := 0) dX9_lineFault_20 (by decide +kernel) ?_
    refine mj_aload_n X dX9_lineFault_21 rfl 0 rfl ?_
    refine mj_get X (C := RX9) (T := TX9) (N := 25) (ci := 9) w_M_lineFault_0 rfl 5 (by decide) w_M_lineFault_1 ho rfl dX9_lineFault_22 ?_
    refine mj_bipush X (v := 12) dX9_lineFault_25 (by decide +kernel) ?_
    refine mj_iload_n X dX9_lineFault_27 rfl 1 rfl ?_
    refine mj_iadd X dX9_lineFault_28 ?_
    refine mj_top (nI (12 + i)) (show nI 12 + nI i = _ from nI_add 12 i) ?_
    refine mj_callV X 3 gX9_lineFault_X9_first rfl (by decide +kernel) ⟨by decide, by decide⟩ (c_M_first l D ca M sz o th sg oc (nI cm) (nI li) ve fa tr to pz pi ps pp 0 cm (12 + i) psn ho h_ps h_pp (by omega) (by omega) (by omega) (fun k _ h2 => hsE k h2) (hsL i hi)) rfl ho rfl rfl (Nat.le_of_ble_eq_true rfl) dX9_lineFault_29 ⟨by decide, by decide⟩ (mk_ri (fun b29 hb29 => ?_))
    refine mj_istore_n X [(2, .int b29), (0, .ref o), (1, .int (nI i))] dX9_lineFault_32 rfl (by decide) rfl ?_
    refine mj_iload_n X dX9_lineFault_33 rfl 0 rfl ?_
    refine mj_if_ge X 39 dX9_lineFault_34 (by decide) (fun c34 => ?_) (fun c34 => ?_)
    · obtain ⟨p9, h1, h2, h3, h4, rfl⟩ : ∃ p9, 0 ≤ p9 ∧ p9 < cm ∧ same (psn p9) (fun t => pp (24 * p9 + t)) (psn (12 + i)) (fun t => pp (24 * (12 + i) + t)) ∧ (∀ j, 0 ≤ j → j < p9 → ¬ same (psn j) (fun t => pp (24 * j + t)) (psn (12 + i)) (fun t => pp (24 * (12 + i) + t))) ∧ b29 = nI p9 := by
        rcases hb29 with h9 | ⟨-, h9⟩
        · exact h9
        · rw [h9] at c34; exact absurd c34 (by decide)
      refine mj_aload_n X dX9_lineFault_39 rfl 1 rfl ?_
      refine mj_get X (C := RX9) (T := TX9) (N := 25) (ci := 9) w_M_lineFault_0 rfl 9 (by decide) w_M_lineFault_2 ho rfl dX9_lineFault_40 ?_
      refine mj_iload_n X dX9_lineFault_43 rfl 0 rfl ?_
      refine mj_iald X 0 (nI (sn p9)) rfl h_si (vp_in_nI (by omega) (by omega)) (by rw [nI_clamp (by omega)]; exact (hsz p9 h2).1) dX9_lineFault_44 ?_
      refine mj_aload_n X dX9_lineFault_45 rfl 1 rfl ?_
      refine mj_get X (C := RX9) (T := TX9) (N := 25) (ci := 9) w_M_lineFault_0 rfl 11 (by decide) w_M_lineFault_3 ho rfl dX9_lineFault_46 ?_
      refine mj_iload_n X dX9_lineFault_49 rfl 2 rfl ?_
      refine mj_iald X 0 (ls1 i) rfl h_ls1 (vp_in_nI (by omega) (by omega)) (by rw [nI_clamp (by omega)]) dX9_lineFault_50 ?_
      refine mj_icmp_eq X 56 dX9_lineFault_51 (by decide) (fun c51 => ?_) (fun c51 => ?_)
      · refine mj_aload_n X dX9_lineFault_56 rfl 1 rfl ?_
        refine mj_iload_n X dX9_lineFault_57 rfl 0 rfl ?_
        refine mj_callV X 1 gX9_lineFault_X9_sumOf rfl (by decide +kernel) ⟨by decide, by decide⟩ (c_M_sumOf l D ca M sz o th sg oc (nI cm) (nI li) ve fa tr to pz pi si co p9 (sn p9) ho h_si h_co (by omega) (hsz p9 h2).1 (hsz p9 h2).2) rfl ho rfl rfl (Nat.le_of_ble_eq_true rfl) dX9_lineFault_58 ⟨by decide, by decide⟩ (mk_ri (fun b58 hb58 => ?_))
        subst hb58
        refine mj_aload_n X dX9_lineFault_61 rfl 1 rfl ?_
        refine mj_get X (C := RX9) (T := TX9) (N := 25) (ci := 9) w_M_lineFault_0 rfl 12 (by decide) w_M_lineFault_4 ho rfl dX9_lineFault_62 ?_
        refine mj_iload_n X dX9_lineFault_65 rfl 2 rfl ?_
        refine mj_iald X 0 (ls2 i) rfl h_ls2 (vp_in_nI (by omega) (by omega)) (by rw [nI_clamp (by omega)]) dX9_lineFault_66 ?_
        refine mj_icmp_eq X 74 dX9_lineFault_67 (by decide) (fun c67 => ?_) (fun c67 => ?_)
        · refine mj_iconst X (v := 0) dX9_lineFault_74 (by decide +kernel) ?_
          refine mj_iret X hr0 (by decide) (by decide) dX9_lineFault_75 ?_
          have hno : ∀ j, j < i → ¬ same (psn (12 + j)) (fun t => pp (24 * (12 + j) + t)) (psn (12 + i)) (fun t => pp (24 * (12 + i) + t)) := by
            rcases hb11 with ⟨k, h1, h2, h3, h4, h5⟩ | ⟨h1, -⟩
            · rw [h5] at c14; exact absurd c14 (nI_pos (by omega))
            · exact fun j hj => h1 (12 + j) (by omega) (by omega)
          exact ⟨_, rfl, rfl, rfl, Or.inr ⟨hno, Or.inr ⟨p9, h2, h3, fun j hj => h4 j (by omega) hj, Or.inr (Or.inr ⟨c51, by rw [← sumB_N]; exact c67, rfl⟩)⟩⟩⟩
        · refine mj_iconst X (v := 4) dX9_lineFault_70 (by decide +kernel) ?_
          refine mj_goto X 75 dX9_lineFault_71 (by decide) ?_
          refine mj_iret X hr0 (by decide) (by decide) dX9_lineFault_75 ?_
          have hno : ∀ j, j < i → ¬ same (psn (12 + j)) (fun t => pp (24 * (12 + j) + t)) (psn (12 + i)) (fun t => pp (24 * (12 + i) + t)) := by
            rcases hb11 with ⟨k, h1, h2, h3, h4, h5⟩ | ⟨h1, -⟩
            · rw [h5] at c14; exact absurd c14 (nI_pos (by omega))
            · exact fun j hj => h1 (12 + j) (by omega) (by omega)
          exact ⟨_, rfl, rfl, rfl, Or.inr ⟨hno, Or.inr ⟨p9, h2, h3, fun j hj => h4 j (by omega) hj, Or.inr (Or.inl ⟨c51, by rw [← sumB_N]; exact c67, rfl⟩)⟩⟩⟩
      · refine mj_iconst X (v := 3) dX9_lineFault_54 (by decide +kernel) ?_
        refine mj_iret X hr0 (by decide) (by decide) dX9_lineFault_55 ?_
        have hno : ∀ j, j < i → ¬ same (psn (12 + j)) (fun t => pp (24 * (12 + j) + t)) (psn (12 + i)) (fun t => pp (24 * (12 + i) + t)) := by
          rcases hb11 with ⟨k, h1, h2, h3, h4, h5⟩ | ⟨h1, -⟩
          · rw [h5] at c14; exact absurd c14 (nI_pos (by omega))
          · exact fun j hj => h1 (12 + j) (by omega) (by omega)
        exact ⟨_, rfl, rfl, rfl, Or.inr ⟨hno, Or.inr ⟨p9, h2, h3, fun j hj => h4 j (by omega) hj, Or.inl ⟨c51, rfl⟩⟩⟩⟩
    · refine mj_iconst X (v := 2) dX9_lineFault_37 (by decide +kernel) ?_
      refine mj_iret X hr0 (by decide) (by decide) dX9_lineFault_38 ?_
      have hno : ∀ j, j < i → ¬ same (psn (12 + j)) (fun t => pp (24 * (12 + j) + t)) (psn (12 + i)) (fun t => pp (24 * (12 + i) + t)) := by
        rcases hb11 with ⟨k, h1, h2, h3, h4, h5⟩ | ⟨h1, -⟩
        · rw [h5] at c14; exact absurd c14 (nI_pos (by omega))
        · exact fun j hj => h1 (12 + j) (by omega) (by omega)
      rcases hb29 with ⟨k, h1, h2, h3, h4, h5⟩ | ⟨h1, -⟩
      · exact absurd (by rw [h5]; exact nI_pos' (by omega)) c34
      · exact ⟨_, rfl, rfl, rfl, Or.inr ⟨hno, Or.inl ⟨fun p9 hp => h1 p9 (by omega) hp, rfl⟩⟩⟩
  · refine mj_iconst X (v := 1) dX9_lineFault_17 (by decide +kernel) ?_
    refine mj_iret X hr0 (by decide) (by decide) dX9_lineFault_18 ?_
    rcases hb11 with ⟨k, h1, h2, h3, h4, h5⟩ | ⟨h1, h5⟩
    · obtain ⟨t, rfl⟩ : ∃ t, k = 12 + t := ⟨k - 12, by omega⟩
      exact ⟨_, rfl, rfl, rfl, Or.inl ⟨t, by omega, h3, rfl⟩⟩
    · exact absurd (by rw [h5]; decide) c14

theorem w_M_fileFault_0 : ∀ w ∈ u_ws RX9 TX9 25, w ∈ wsX9_fileFault := by decide +kernel
theorem w_M_fileFault_1 : Cond.fieldLink RX9 83 "PackageRows2Model" "lines" "I" ∈ wsX9_fileFault := by decide +kernel
set_option maxHeartbeats 4000000 in
set_option maxRecDepth 100000 in
/--  -/
theorem c_M_fileFault (l : Launch) (D : va_G) (ca : Nat → ClassId) (M : mw_M) (sz o : Nat) (cm li : Nat) (th sg oc ve fa tr to pz pi : Int32) (ps : Nat → Int32) (pp : Nat → Int32) (psn : Nat → Nat) (i : Nat) (ho : M o = some (.inr (9, mdF o th sg oc (nI cm) (nI li) ve fa tr to pz pi))) (h_ps : M (o + 3) = some (.inl (ca 0, 120, .inl ps))) (h_pp : M (o + 4) = some (.inl (ca 2, 2880, .inl pp))) (hcm : cm ≤ 12) (hli : li ≤ 12) (hsE : ∀ k, k < cm → slN ps pp psn k) (hsL : ∀ k, k < li → slN ps pp psn (12 + k)) (hi : i < cm) : mw_C wsX9_fileFault l yX9_fileFault { frames := 2, cells := 0, slots := 0, locals := 49 } D vwCl (mt ca) [.ref o, .int (nI i)] M sz (mq_i (fun v9 M' sz' => M' = M ∧ sz' = sz ∧ ffR psn (fun p j => pp (24 * p + j)) li (fun t => psn (12 + t)) (fun t j => pp (24 * (12 + t) + j)) i v9)) := by
  refine mw_enter (cc := cX9_fileFault) (maxL := 2) (ret := (some .int)) rfl (by decide) (Nat.le_of_ble_eq_true rfl) ?_
  intro p e s m below meth c X hr0 hnm hlt
  refine mj_aload_n X dX9_fileFault_0 rfl 0 rfl ?_
  refine mj_iconst X (v := 0) dX9_fileFault_1 (by decide +kernel) ?_
  refine mj_iload_n X dX9_fileFault_2 rfl 1 rfl ?_
  refine mj_iload_n X dX9_fileFault_3 rfl 1 rfl ?_
  refine mj_callV X 3 gX9_fileFault_X9_first rfl (by decide +kernel) ⟨by decide, by decide⟩ (c_M_first l D ca M sz o th sg oc (nI cm) (nI li) ve fa tr to pz pi ps pp 0 i i psn ho h_ps h_pp (by omega) (by omega) (by omega) (fun k _ h2 => hsE k (by omega)) (hsE i hi)) rfl ho rfl rfl (Nat.le_of_ble_eq_true rfl) dX9_fileFault_4 ⟨by decide, by decide⟩ (mk_ri (fun b4 hb4 => ?_))
  refine mj_if_lt X 12 dX9_fileFault_7 (by decide) (fun c7 => ?_) (fun c7 => ?_)
  · refine mj_aload_n X dX9_fileFault_12 rfl 0 rfl ?_
    refine mj_bipush X (v := 12) dX9_fileFault_13 (by decide +kernel) ?_
    refine mj_bipush X (v := 12) dX9_fileFault_15 (by decide +kernel) ?_
    refine mj_aload_n X dX9_fileFault_17 rfl 0 rfl ?_
    refine mj_get X (C := RX9) (T := TX9) (N := 25) (ci := 9) w_M_fileFault_0 rfl 6 (by decide) w_M_fileFault_1 ho rfl dX9_fileFault_18 ?_
    refine mj_iadd X dX9_fileFault_21 ?_
    refine mj_top (nI (12 + li)) (show nI 12 + nI li = _ from nI_add 12 li) ?_
    refine mj_iload_n X dX9_fileFault_22 rfl 1 rfl ?_
    refine mj_callV X 3 gX9_fileFault_X9_first rfl (by decide +kernel) ⟨by decide, by decide⟩ (c_M_first l D ca M sz o th sg oc (nI cm) (nI li) ve fa tr to pz pi ps pp 12 (12 + li) i psn ho h_ps h_pp (by omega) (by omega) (by omega) (fun k h1 h2 => by obtain ⟨t, rfl⟩ : ∃ t, k = 12 + t := ⟨k - 12, by omega⟩; exact hsL t (by omega)) (hsE i hi)) rfl ho rfl rfl (Nat.le_of_ble_eq_true rfl) dX9_fileFault_23 ⟨by decide, by decide⟩ (mk_ri (fun b23 hb23 => ?_))
    refine mj_if_ge X 34 dX9_fileFault_26 (by decide) (fun c26 => ?_) (fun c26 => ?_)
    · refine mj_iconst X (v := 0) dX9_fileFault_34 (by decide +kernel) ?_
      refine mj_iret X hr0 (by decide) (by decide) dX9_fileFault_35 ?_
      have hno : ∀ j, j < i → ¬ same (psn j) (fun t => pp (24 * j + t)) (psn i) (fun t => pp (24 * i + t)) := by
        rcases hb4 with ⟨k, h1, h2, h3, h4, h5⟩ | ⟨h1, -⟩
        · rw [h5] at c7; exact absurd c7 (nI_pos (by omega))
        · exact fun j hj => h1 j (by omega) hj
      rcases hb23 with ⟨k, h1, h2, h3, h4, h5⟩ | ⟨-, h5⟩
      · obtain ⟨t, rfl⟩ : ∃ t, k = 12 + t := ⟨k - 12, by omega⟩
        exact ⟨_, rfl, rfl, rfl, Or.inr ⟨hno, Or.inr ⟨t, by omega, h3, rfl⟩⟩⟩
      · rw [h5] at c26; exact absurd c26 (by decide)
    · refine mj_bipush X (v := 6) dX9_fileFault_29 (by decide +kernel) ?_
      refine mj_goto X 35 dX9_fileFault_31 (by decide) ?_
      refine mj_iret X hr0 (by decide) (by decide) dX9_fileFault_35 ?_
      have hno : ∀ j, j < i → ¬ same (psn j) (fun t => pp (24 * j + t)) (psn i) (fun t => pp (24 * i + t)) := by
        rcases hb4 with ⟨k, h1, h2, h3, h4, h5⟩ | ⟨h1, -⟩
        · rw [h5] at c7; exact absurd c7 (nI_pos (by omega))
        · exact fun j hj => h1 j (by omega) hj
      rcases hb23 with ⟨k, h1, h2, h3, h4, h5⟩ | ⟨h1, -⟩
      · exact absurd (by rw [h5]; exact nI_pos' (by omega)) c26
      · exact ⟨_, rfl, rfl, rfl, Or.inr ⟨hno, Or.inl ⟨fun j hj => h1 (12 + j) (by omega) (by omega), rfl⟩⟩⟩
  · refine mj_iconst X (v := 5) dX9_fileFault_10 (by decide +kernel) ?_
    refine mj_iret X hr0 (by decide) (by decide) dX9_fileFault_11 ?_
    rcases hb4 with ⟨k, h1, h2, h3, h4, h5⟩ | ⟨h1, h5⟩
    · exact ⟨_, rfl, rfl, rfl, Or.inl ⟨k, h2, h3, rfl⟩⟩
    · exact absurd (by rw [h5]; decide) c7

