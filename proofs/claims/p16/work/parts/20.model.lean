-- ===== the reference in cells: the object at o, its arrays behind it =====
abbrev mdF (o : Nat) (th sg oc cm li ve fa tr to pz pi : Int32) : List Value := [.int th, .int sg, .ref (o + 1), .int oc, .ref (o + 2), .int cm, .int li, .ref (o + 3), .ref (o + 4), .ref (o + 5), .ref (o + 6), .ref (o + 7), .ref (o + 8), .int ve, .ref (o + 9), .ref (o + 10), .int fa, .ref (o + 11), .ref (o + 12), .int tr, .int to, .int pz, .int pi, .ref (o + 13), .ref (o + 14)]
def inB (v a b : Int32) : Bool := !decide (v < a) && !decide (b < v)
theorem nI_m1_toInt {n : Nat} (h : n < 2 ^ 31) : (nI n - 1).toInt = (n : Int) - 1 := by
  cases n with
  | zero => rw [nI_0]; decide
  | succ k => rw [nI_pred, nI_toInt (by omega)]; omega
theorem inB_n {v : Int32} {n : Nat} (h : n < 2 ^ 31) : inB v 0 (nI n - 1) = true ↔ ∃ j, j < n ∧ v = nI j := by
  have a0 : (0 : Int32).toInt = 0 := by decide
  simp only [inB, Bool.and_eq_true, Bool.not_eq_true', decide_eq_false_iff_not, Int32.lt_iff_toInt_lt, nI_m1_toInt h, a0]
  constructor
  · rintro ⟨h1, h2⟩
    have h3 : ¬ v < 0 := fun q => h1 (by rw [← a0]; exact Int32.lt_iff_toInt_lt.mp q)
    obtain ⟨j, hj, e⟩ := nI_of h3
    rw [e, nI_toInt hj] at h2
    exact ⟨j, by omega, e⟩
  · rintro ⟨j, hj, rfl⟩
    rw [nI_toInt (by omega)]
    omega
theorem inB_f {v : Int32} {n : Nat} (h : n < 2 ^ 31) : inB v 0 (nI n - 1) = false ↔ ∀ j, j < n → v ≠ nI j := by
  rw [Bool.eq_false_iff, ne_eq, inB_n h]
  exact ⟨fun q j h1 h2 => q ⟨j, h1, h2⟩, fun q ⟨j, h1, h2⟩ => q j h1 h2⟩
/-- a byte in a sum -/
def sumB (g : Nat → Int32) : Nat → Int32
  | 0 => 1
  | k + 1 => 65599 * sumB g k + (g k &&& 255)

set_option maxHeartbeats 4000000 in
set_option maxRecDepth 100000 in
/--  -/
theorem c_M_in (l : Launch) (D : va_G) (ca : Nat → ClassId) (M : mw_M) (sz : Nat) (x a b : Int32)  : mw_C wsX9_in l yX9_in { frames := 0, cells := 0, slots := 0, locals := 0 } D vwCl (mt ca) [.int x, .int a, .int b] M sz (mq_i (fun v9 M' sz' => M' = M ∧ sz' = sz ∧ v9 = b2i (inB x a b))) := by
  refine mw_enter (cc := cX9_in) (maxL := 3) (ret := (some .boolean)) rfl (by decide) (Nat.le_of_ble_eq_true rfl) ?_
  intro p e s m below meth c X hr0 hnm hlt
  refine mj_iload_n X dX9_in_0 rfl 0 rfl ?_
  refine mj_iload_n X dX9_in_1 rfl 1 rfl ?_
  refine mj_icmp_lt X 14 dX9_in_2 (by decide) (fun c2 => ?_) (fun c2 => ?_)
  · refine mj_iconst X (v := 0) dX9_in_14 (by decide +kernel) ?_
    refine mj_zret X rfl hr0 (by decide) (by decide) dX9_in_15 ?_
    exact ⟨_, rfl, rfl, rfl, by simp_all [inB, b2i]⟩
  · refine mj_iload_n X dX9_in_5 rfl 0 rfl ?_
    refine mj_iload_n X dX9_in_6 rfl 2 rfl ?_
    refine mj_icmp_gt X 14 dX9_in_7 (by decide) (fun c7 => ?_) (fun c7 => ?_)
    · refine mj_iconst X (v := 0) dX9_in_14 (by decide +kernel) ?_
      refine mj_zret X rfl hr0 (by decide) (by decide) dX9_in_15 ?_
      exact ⟨_, rfl, rfl, rfl, by simp_all [inB, b2i]⟩
    · refine mj_iconst X (v := 1) dX9_in_10 (by decide +kernel) ?_
      refine mj_goto X 15 dX9_in_11 (by decide) ?_
      refine mj_zret X rfl hr0 (by decide) (by decide) dX9_in_15 ?_
      exact ⟨_, rfl, rfl, rfl, by simp_all [inB, b2i]⟩


set_option maxHeartbeats 4000000 in
set_option maxRecDepth 100000 in
/--  -/
theorem c_M_isSign (l : Launch) (D : va_G) (ca : Nat → ClassId) (M : mw_M) (sz : Nat) (x : Int32)  : mw_C wsX9_isSign l yX9_isSign { frames := 1, cells := 0, slots := 0, locals := 22 } D vwCl (mt ca) [.int x] M sz (mq_i (fun v9 M' sz' => M' = M ∧ sz' = sz ∧ v9 = b2i (okc x || decide (x = 47)))) := by
  refine mw_enter (cc := cX9_isSign) (maxL := 1) (ret := (some .boolean)) rfl (by decide) (Nat.le_of_ble_eq_true rfl) ?_
  intro p e s m below meth c X hr0 hnm hlt
  refine mj_iload_n X dX9_isSign_0 rfl 0 rfl ?_
  refine mj_bipush X (v := 97) dX9_isSign_1 (by decide +kernel) ?_
  refine mj_bipush X (v := 122) dX9_isSign_3 (by decide +kernel) ?_
  refine mj_callS X 3 gX9_isSign_X9_in rfl (by decide +kernel) ⟨by decide, by decide⟩ (c_M_in l D ca _ _ x 97 122) rfl rfl (Nat.le_of_ble_eq_true rfl) dX9_isSign_5 ⟨by decide, by decide⟩ (mk_ri (fun b5 hb5 => ?_))
  subst hb5
  refine mj_if_ne X 34 dX9_isSign_8 (by decide) (fun c8 => ?_) (fun c8 => ?_)
  · refine mj_iconst X (v := 1) dX9_isSign_34 (by decide +kernel) ?_
    refine mj_goto X 39 dX9_isSign_35 (by decide) ?_
    refine mj_zret X rfl hr0 (by decide) (by decide) dX9_isSign_39 ?_
    exact ⟨_, rfl, rfl, rfl, by first | (simp_all [okc, b2i, inB]; done) | (have h1 := b2i_ne (by assumption); simp_all [okc, b2i, inB]; done) | (simp_all [okc, b2i, inB, Int32.not_lt]; done)⟩
  · refine mj_iload_n X dX9_isSign_11 rfl 0 rfl ?_
    refine mj_bipush X (v := 48) dX9_isSign_12 (by decide +kernel) ?_
    refine mj_bipush X (v := 57) dX9_isSign_14 (by decide +kernel) ?_
    refine mj_callS X 3 gX9_isSign_X9_in rfl (by decide +kernel) ⟨by decide, by decide⟩ (c_M_in l D ca _ _ x 48 57) rfl rfl (Nat.le_of_ble_eq_true rfl) dX9_isSign_16 ⟨by decide, by decide⟩ (mk_ri (fun b16 hb16 => ?_))
    subst hb16
    refine mj_if_ne X 34 dX9_isSign_19 (by decide) (fun c19 => ?_) (fun c19 => ?_)
    · refine mj_iconst X (v := 1) dX9_isSign_34 (by decide +kernel) ?_
      refine mj_goto X 39 dX9_isSign_35 (by decide) ?_
      refine mj_zret X rfl hr0 (by decide) (by decide) dX9_isSign_39 ?_
      exact ⟨_, rfl, rfl, rfl, by first | (simp_all [okc, b2i, inB]; done) | (have h1 := b2i_ne (by assumption); simp_all [okc, b2i, inB]; done) | (simp_all [okc, b2i, inB, Int32.not_lt]; done)⟩
    · refine mj_iload_n X dX9_isSign_22 rfl 0 rfl ?_
      refine mj_bipush X (v := 46) dX9_isSign_23 (by decide +kernel) ?_
      refine mj_icmp_eq X 34 dX9_isSign_25 (by decide) (fun c25 => ?_) (fun c25 => ?_)
      · refine mj_iconst X (v := 1) dX9_isSign_34 (by decide +kernel) ?_
        refine mj_goto X 39 dX9_isSign_35 (by decide) ?_
        refine mj_zret X rfl hr0 (by decide) (by decide) dX9_isSign_39 ?_
        exact ⟨_, rfl, rfl, rfl, by first | (simp_all [okc, b2i, inB]; done) | (have h1 := b2i_ne (by assumption); simp_all [okc, b2i, inB]; done) | (simp_all [okc, b2i, inB, Int32.not_lt]; done)⟩
      · refine mj_iload_n X dX9_isSign_28 rfl 0 rfl ?_
        refine mj_bipush X (v := 47) dX9_isSign_29 (by decide +kernel) ?_
        refine mj_icmp_ne X 38 dX9_isSign_31 (by decide) (fun c31 => ?_) (fun c31 => ?_)
        · refine mj_iconst X (v := 0) dX9_isSign_38 (by decide +kernel) ?_
          refine mj_zret X rfl hr0 (by decide) (by decide) dX9_isSign_39 ?_
          exact ⟨_, rfl, rfl, rfl, by first | (simp_all [okc, b2i, inB]; done) | (have h1 := b2i_ne (by assumption); simp_all [okc, b2i, inB]; done) | (simp_all [okc, b2i, inB, Int32.not_lt]; done)⟩
        · refine mj_iconst X (v := 1) dX9_isSign_34 (by decide +kernel) ?_
          refine mj_goto X 39 dX9_isSign_35 (by decide) ?_
          refine mj_zret X rfl hr0 (by decide) (by decide) dX9_isSign_39 ?_
          exact ⟨_, rfl, rfl, rfl, by first | (simp_all [okc, b2i, inB]; done) | (have h1 := b2i_ne (by assumption); simp_all [okc, b2i, inB]; done) | (simp_all [okc, b2i, inB, Int32.not_lt]; done)⟩

theorem w_M_path_0 : ∀ w ∈ u_ws RX9 TX9 25, w ∈ wsX9_path := by decide +kernel
theorem w_M_path_1 : Cond.fieldLink RX9 54 "PackageRows2Model" "thrown" "I" ∈ wsX9_path := by decide +kernel
theorem w_M_path_2 : Cond.fieldLink RX9 58 "PackageRows2Model" "signs" "I" ∈ wsX9_path := by decide +kernel
theorem w_M_path_3 : Cond.fieldLink RX9 7 "PackageRows2Model" "path" "[B" ∈ wsX9_path := by decide +kernel
set_option maxHeartbeats 4000000 in
set_option maxRecDepth 100000 in
/--  -/
theorem c_M_path (l : Launch) (D : va_G) (ca : Nat → ClassId) (M : mw_M) (sz o : Nat) (sg : Nat) (th oc cm li ve fa tr to pz pi : Int32) (pa : Nat → Int32) (k : Int32) (ho : M o = some (.inr (9, mdF o th (nI sg) oc cm li ve fa tr to pz pi))) (h_pa : M (o + 1) = some (.inl (ca 2, 30, .inl pa))) (hle : sg ≤ 30) : mw_C wsX9_path l yX9_path { frames := 0, cells := 0, slots := 0, locals := 0 } D vwCl (mt ca) [.ref o, .int k] M sz (mq_v (fun M' sz' => ((sg < 30 ∧ M' = mw_u (mw_u M (o + 1) (.inl (ca 2, 30, .inl (upd pa sg (k.toInt8.toInt32))))) o (.inr (9, mdF o 0 (nI (sg + 1)) oc cm li ve fa tr to pz pi))) ∨ (sg = 30 ∧ M' = mw_u M o (.inr (9, mdF o 0 (nI sg) oc cm li ve fa tr to pz pi)))) ∧ sz' = sz)) := by
  refine mw_enter (cc := cX9_path) (maxL := 2) (ret := none) rfl (by decide) (Nat.le_of_ble_eq_true rfl) ?_
  intro p e s m below meth c X hr0 hnm hlt
  refine mj_aload_n X dX9_path_0 rfl 0 rfl ?_
  refine mj_iconst X (v := 0) dX9_path_1 (by decide +kernel) ?_
  refine mj_put X (C := RX9) (T := TX9) (N := 25) (ci := 9) (v := .int 0) tyX9 w_M_path_0 tyX9_ok nmX9 rfl 0 (by decide) w_M_path_1 rfl ho (mdF o 0 (nI sg) oc cm li ve fa tr to pz pi) (Nat.le_of_ble_eq_true rfl) rfl rfl rfl rfl dX9_path_2 ?_
  refine mj_aload_n X dX9_path_5 rfl 0 rfl ?_
  have f1_ := mw_us (M := M) (a := o) (e := (.inr (9, mdF o 0 (nI sg) oc cm li ve fa tr to pz pi)))
  refine mj_get X (C := RX9) (T := TX9) (N := 25) (ci := 9) w_M_path_0 rfl 1 (by decide) w_M_path_2 f1_ rfl dX9_path_6 ?_
  refine mj_bipush X (v := 30) dX9_path_9 (by decide +kernel) ?_
  refine mj_icmp_ne X 15 dX9_path_11 (by decide) (fun c11 => ?_) (fun c11 => ?_)
  · have hlt11 : sg < 30 := Nat.lt_of_le_of_ne hle (fun h9 => c11 (by rw [h9]; rfl))
    refine mj_aload_n X dX9_path_15 rfl 0 rfl ?_
    refine mj_get X (C := RX9) (T := TX9) (N := 25) (ci := 9) w_M_path_0 rfl 2 (by decide) w_M_path_3 f1_ rfl dX9_path_16 ?_
    refine mj_aload_n X dX9_path_19 rfl 0 rfl ?_
    refine mj_get X (C := RX9) (T := TX9) (N := 25) (ci := 9) w_M_path_0 rfl 1 (by decide) w_M_path_2 f1_ rfl dX9_path_20 ?_
    refine mj_iload_n X dX9_path_23 rfl 1 rfl ?_
    refine mj_i2b X (v := k.toInt8.toInt32) dX9_path_24 rfl ?_
    have f2_ := (mw_un (M := M) (e := (.inr (9, mdF o 0 (nI sg) oc cm li ve fa tr to pz pi))) (show o + 1 ≠ o by omega)).trans h_pa
    refine mj_bast X 2 sg rfl f2_ (vp_in_nI (by omega) (by omega)) (nI_clamp (by omega)) dX9_path_25 ?_
    refine mj_aload_n X dX9_path_26 rfl 0 rfl ?_
    refine mj_dup X dX9_path_27 rfl ?_
    have f3_ := (mw_un (M := (mw_u M o (.inr (9, mdF o 0 (nI sg) oc cm li ve fa tr to pz pi)))) (e := (.inl (ca 2, 30, .inl (upd pa sg (vp_nar .byte (k.toInt8.toInt32)))))) (show o ≠ o + 1 by omega)).trans f1_
    refine mj_get X (C := RX9) (T := TX9) (N := 25) (ci := 9) w_M_path_0 rfl 1 (by decide) w_M_path_2 f3_ rfl dX9_path_28 ?_
    refine mj_iconst X (v := 1) dX9_path_31 (by decide +kernel) ?_
    refine mj_iadd X dX9_path_32 ?_
    refine mj_top (nI (sg + 1)) (nI_1 sg) ?_
    refine mj_put X (C := RX9) (T := TX9) (N := 25) (ci := 9) (v := .int (nI (sg + 1))) tyX9 w_M_path_0 tyX9_ok nmX9 rfl 1 (by decide) w_M_path_2 rfl f3_ (mdF o 0 (nI (sg + 1)) oc cm li ve fa tr to pz pi) (Nat.le_of_ble_eq_true rfl) rfl rfl rfl rfl dX9_path_33 ?_
    refine mj_vret X hr0 (by decide) (by decide) dX9_path_36 ?_
    refine ⟨rfl, Or.inl ⟨hlt11, ?_⟩, rfl⟩
    rw [pk_vb, mw_3 (by omega)]
  · refine mj_vret X hr0 (by decide) (by decide) dX9_path_14 ?_
    exact ⟨rfl, Or.inr ⟨(nI_eq (b := 30) (by omega) (by omega)).mp c11, rfl⟩, rfl⟩

theorem w_M_octet_0 : ∀ w ∈ u_ws RX9 TX9 25, w ∈ wsX9_octet := by decide +kernel
theorem w_M_octet_1 : Cond.fieldLink RX9 54 "PackageRows2Model" "thrown" "I" ∈ wsX9_octet := by decide +kernel
theorem w_M_octet_2 : Cond.fieldLink RX9 61 "PackageRows2Model" "octets" "I" ∈ wsX9_octet := by decide +kernel
theorem w_M_octet_3 : Cond.fieldLink RX9 13 "PackageRows2Model" "bytes" "[B" ∈ wsX9_octet := by decide +kernel
set_option maxHeartbeats 4000000 in
set_option maxRecDepth 100000 in
/--  -/
theorem c_M_octet (l : Launch) (D : va_G) (ca : Nat → ClassId) (M : mw_M) (sz o : Nat) (oc : Nat) (th sg cm li ve fa tr to pz pi : Int32) (byt : Nat → Int32) (k : Int32) (ho : M o = some (.inr (9, mdF o th sg (nI oc) cm li ve fa tr to pz pi))) (h_byt : M (o + 2) = some (.inl (ca 2, 40, .inl byt))) (hle : oc ≤ 40) : mw_C wsX9_octet l yX9_octet { frames := 0, cells := 0, slots := 0, locals := 0 } D vwCl (mt ca) [.ref o, .int k] M sz (mq_v (fun M' sz' => ((oc < 40 ∧ M' = mw_u (mw_u M (o + 2) (.inl (ca 2, 40, .inl (upd byt oc (k.toInt8.toInt32))))) o (.inr (9, mdF o 0 sg (nI (oc + 1)) cm li ve fa tr to pz pi))) ∨ (oc = 40 ∧ M' = mw_u M o (.inr (9, mdF o 0 sg (nI oc) cm li ve fa tr to pz pi)))) ∧ sz' = sz)) := by
  refine mw_enter (cc := cX9_octet) (maxL := 2) (ret := none) rfl (by decide) (Nat.le_of_ble_eq_true rfl) ?_
  intro p e s m below meth c X hr0 hnm hlt
  refine mj_aload_n X dX9_octet_0 rfl 0 rfl ?_
  refine mj_iconst X (v := 0) dX9_octet_1 (by decide +kernel) ?_
  refine mj_put X (C := RX9) (T := TX9) (N := 25) (ci := 9) (v := .int 0) tyX9 w_M_octet_0 tyX9_ok nmX9 rfl 0 (by decide) w_M_octet_1 rfl ho (mdF o 0 sg (nI oc) cm li ve fa tr to pz pi) (Nat.le_of_ble_eq_true rfl) rfl rfl rfl rfl dX9_octet_2 ?_
  refine mj_aload_n X dX9_octet_5 rfl 0 rfl ?_
  have f1_ := mw_us (M := M) (a := o) (e := (.inr (9, mdF o 0 sg (nI oc) cm li ve fa tr to pz pi)))
  refine mj_get X (C := RX9) (T := TX9) (N := 25) (ci := 9) w_M_octet_0 rfl 3 (by decide) w_M_octet_2 f1_ rfl dX9_octet_6 ?_
  refine mj_bipush X (v := 40) dX9_octet_9 (by decide +kernel) ?_
  refine mj_icmp_ne X 15 dX9_octet_11 (by decide) (fun c11 => ?_) (fun c11 => ?_)
  · have hlt11 : oc < 40 := Nat.lt_of_le_of_ne hle (fun h9 => c11 (by rw [h9]; rfl))
    refine mj_aload_n X dX9_octet_15 rfl 0 rfl ?_
    refine mj_get X (C := RX9) (T := TX9) (N := 25) (ci := 9) w_M_octet_0 rfl 4 (by decide) w_M_octet_3 f1_ rfl dX9_octet_16 ?_
    refine mj_aload_n X dX9_octet_19 rfl 0 rfl ?_
    refine mj_get X (C := RX9) (T := TX9) (N := 25) (ci := 9) w_M_octet_0 rfl 3 (by decide) w_M_octet_2 f1_ rfl dX9_octet_20 ?_
    refine mj_iload_n X dX9_octet_23 rfl 1 rfl ?_
    refine mj_i2b X (v := k.toInt8.toInt32) dX9_octet_24 rfl ?_
    have f2_ := (mw_un (M := M) (e := (.inr (9, mdF o 0 sg (nI oc) cm li ve fa tr to pz pi))) (show o + 2 ≠ o by omega)).trans h_byt
    refine mj_bast X 2 oc rfl f2_ (vp_in_nI (by omega) (by omega)) (nI_clamp (by omega)) dX9_octet_25 ?_
    refine mj_aload_n X dX9_octet_26 rfl 0 rfl ?_
    refine mj_dup X dX9_octet_27 rfl ?_
    have f3_ := (mw_un (M := (mw_u M o (.inr (9, mdF o 0 sg (nI oc) cm li ve fa tr to pz pi)))) (e := (.inl (ca 2, 40, .inl (upd byt oc (vp_nar .byte (k.toInt8.toInt32)))))) (show o ≠ o + 2 by omega)).trans f1_
    refine mj_get X (C := RX9) (T := TX9) (N := 25) (ci := 9) w_M_octet_0 rfl 3 (by decide) w_M_octet_2 f3_ rfl dX9_octet_28 ?_
    refine mj_iconst X (v := 1) dX9_octet_31 (by decide +kernel) ?_
    refine mj_iadd X dX9_octet_32 ?_
    refine mj_top (nI (oc + 1)) (nI_1 oc) ?_
    refine mj_put X (C := RX9) (T := TX9) (N := 25) (ci := 9) (v := .int (nI (oc + 1))) tyX9 w_M_octet_0 tyX9_ok nmX9 rfl 3 (by decide) w_M_octet_2 rfl f3_ (mdF o 0 sg (nI (oc + 1)) cm li ve fa tr to pz pi) (Nat.le_of_ble_eq_true rfl) rfl rfl rfl rfl dX9_octet_33 ?_
    refine mj_vret X hr0 (by decide) (by decide) dX9_octet_36 ?_
    refine ⟨rfl, Or.inl ⟨hlt11, ?_⟩, rfl⟩
    rw [pk_vb, mw_3 (by omega)]
  · refine mj_vret X hr0 (by decide) (by decide) dX9_octet_14 ?_
    exact ⟨rfl, Or.inr ⟨(nI_eq (b := 40) (by omega) (by omega)).mp c11, rfl⟩, rfl⟩

theorem w_M_sum_0 : ∀ w ∈ u_ws RX9 TX9 25, w ∈ wsX9_sum := by decide +kernel
theorem w_M_sum_1 : Cond.fieldLink RX9 61 "PackageRows2Model" "octets" "I" ∈ wsX9_sum := by decide +kernel
theorem w_M_sum_2 : Jvm.Cond.constant RX9 86 (65599) ∈ wsX9_sum := by decide +kernel
theorem w_M_sum_3 : Cond.fieldLink RX9 13 "PackageRows2Model" "bytes" "[B" ∈ wsX9_sum := by decide +kernel
theorem w_M_sum_4 : Cond.fieldLink RX9 54 "PackageRows2Model" "thrown" "I" ∈ wsX9_sum := by decide +kernel
set_option maxHeartbeats 4000000 in
set_option maxRecDepth 100000 in
theorem lp_M_sum_9 {l : Launch} {D : va_G} {ca : Nat → ClassId} (M : mw_M) (sz o : Nat) (oc : Nat) (th sg cm li ve fa tr to pz pi : Int32) (byt : Nat → Int32) (ho : M o = some (.inr (9, mdF o th sg (nI oc) cm li ve fa tr to pz pi))) (h_byt : M (o + 2) = some (.inl (ca 2, 40, .inl byt))) (hle : oc ≤ 40) {p : Program} {e : Env} {s : State} {m : MethodId} {below : List Frame} {meth : Method} {c : Code} (X : mw_X p s m ([.ref o] : List Value).toArray meth c cX9_sum 3 yX9_sum.cls wsX9_sum D vwCl (mt ca)) (hr0 : meth.sig.returnType = (some .int)) (hnm : meth.name = yX9_sum.name) (hlt : ∀ (a : Nat) (x : va_E), M a = some x → a < sz) : ∀ (fu : Nat) (i : Nat), i ≤ oc → oc < i + fu → mw_J p l e { frames := 0, cells := 0, slots := 0, locals := 0 } s m ([.ref o] : List Value).toArray below meth c 3 D vwCl (mw_A M sz) (MQ below (mw_Q D vwCl M sz (mq_i (fun v9 M' sz' => v9 = sumB byt oc ∧ M' = mw_u M o (.inr (9, mdF o 0 sg (nI oc) cm li ve fa tr to pz pi)) ∧ sz' = sz))) ([.ref o] : List Value).toArray s 0 0 (mw_A M sz)) 9 [(0, .ref o), (1, .int (sumB byt i)), (2, .int (nI i))] [] (mw_u M o (.inr (9, mdF o 0 sg (nI oc) cm li ve fa tr to pz pi))) sz 0 0 := by
  intro fu
  induction fu with
  | zero => intro i h1 h2; omega
  | succ fu ih =>
    intro i hi hfu
    refine mj_iload_n X dX9_sum_9 rfl 2 rfl ?_
    refine mj_aload_n X dX9_sum_10 rfl 0 rfl ?_
    have f1_ := mw_us (M := M) (a := o) (e := (.inr (9, mdF o 0 sg (nI oc) cm li ve fa tr to pz pi)))
    refine mj_get X (C := RX9) (T := TX9) (N := 25) (ci := 9) w_M_sum_0 rfl 3 (by decide) w_M_sum_1 f1_ rfl dX9_sum_11 ?_
    refine mj_icmp_ge X 39 dX9_sum_14 (by decide) (fun c14 => ?_) (fun c14 => ?_)
    · refine mj_iload_n X dX9_sum_39 rfl 1 rfl ?_
      refine mj_iret X hr0 (by decide) (by decide) dX9_sum_40 ?_
      exact ⟨_, rfl, by rw [show i = oc by have h9 := (nI_leI (by omega) (by omega)).mp c14; omega], rfl, rfl⟩
    · have hlt14 : i < oc := Nat.not_le.mp (fun h9 => c14 (nI_le h9 (by omega)))
      refine mj_ldc X (v := 65599) w_M_sum_2 dX9_sum_17 ?_
      refine mj_iload_n X dX9_sum_19 rfl 1 rfl ?_
      refine mj_imul X dX9_sum_20 ?_
      refine mj_aload_n X dX9_sum_21 rfl 0 rfl ?_
      refine mj_get X (C := RX9) (T := TX9) (N := 25) (ci := 9) w_M_sum_0 rfl 4 (by decide) w_M_sum_3 f1_ rfl dX9_sum_22 ?_
      refine mj_iload_n X dX9_sum_25 rfl 2 rfl ?_
      have f2_ := (mw_un (M := M) (e := (.inr (9, mdF o 0 sg (nI oc) cm li ve fa tr to pz pi))) (show o + 2 ≠ o by omega)).trans h_byt
      refine mj_bald X 2 (byt i) rfl f2_ (vp_in_nI (by omega) (by omega)) (by rw [nI_clamp (by omega)]) dX9_sum_26 ?_
      refine mj_sipush X (v := 255) dX9_sum_27 (by decide +kernel) ?_
      refine mj_iand X dX9_sum_30 ?_
      refine mj_iadd X dX9_sum_31 ?_
      refine mj_top (sumB byt (i + 1)) rfl ?_
      refine mj_istore_n X [(1, .int (sumB byt (i + 1))), (0, .ref o), (2, .int (nI i))] dX9_sum_32 rfl (by decide) rfl ?_
      refine mj_iinc X [(2, .int (nI (i + 1))), (1, .int (sumB byt (i + 1))), (0, .ref o)] dX9_sum_33 2 rfl (nI_1 i) (by decide) rfl ?_
      refine mj_goto X 9 dX9_sum_36 (by decide) ?_
      refine mj_sub [2, 1, 0] rfl ?_
      exact ih (i + 1) hlt14 (by omega)
set_option maxHeartbeats 4000000 in
set_option maxRecDepth 100000 in
/--  -/
theorem c_M_sum (l : Launch) (D : va_G) (ca : Nat → ClassId) (M : mw_M) (sz o : Nat) (oc : Nat) (th sg cm li ve fa tr to pz pi : Int32) (byt : Nat → Int32) (ho : M o = some (.inr (9, mdF o th sg (nI oc) cm li ve fa tr to pz pi))) (h_byt : M (o + 2) = some (.inl (ca 2, 40, .inl byt))) (hle : oc ≤ 40) : mw_C wsX9_sum l yX9_sum { frames := 0, cells := 0, slots := 0, locals := 0 } D vwCl (mt ca) [.ref o] M sz (mq_i (fun v9 M' sz' => v9 = sumB byt oc ∧ M' = mw_u M o (.inr (9, mdF o 0 sg (nI oc) cm li ve fa tr to pz pi)) ∧ sz' = sz)) := by
  refine mw_enter (cc := cX9_sum) (maxL := 3) (ret := (some .int)) rfl (by decide) (Nat.le_of_ble_eq_true rfl) ?_
  intro p e s m below meth c X hr0 hnm hlt
  refine mj_aload_n X dX9_sum_0 rfl 0 rfl ?_
  refine mj_iconst X (v := 0) dX9_sum_1 (by decide +kernel) ?_
  refine mj_put X (C := RX9) (T := TX9) (N := 25) (ci := 9) (v := .int 0) tyX9 w_M_sum_0 tyX9_ok nmX9 rfl 0 (by decide) w_M_sum_4 rfl ho (mdF o 0 sg (nI oc) cm li ve fa tr to pz pi) (Nat.le_of_ble_eq_true rfl) rfl rfl rfl rfl dX9_sum_2 ?_
  refine mj_iconst X (v := 1) dX9_sum_5 (by decide +kernel) ?_
  refine mj_istore_n X [(1, .int 1), (0, .ref o)] dX9_sum_6 rfl (by decide) rfl ?_
  refine mj_iconst X (v := 0) dX9_sum_7 (by decide +kernel) ?_
  refine mj_istore_n X [(2, .int 0), (1, .int 1), (0, .ref o)] dX9_sum_8 rfl (by decide) rfl ?_
  refine mj_sub [2, 1, 0] rfl ?_
  exact lp_M_sum_9 (l := l) (D := D) (ca := ca) M sz o oc th sg cm li ve fa tr to pz pi byt ho h_byt hle X hr0 hnm hlt (oc + 1) 0 (by omega) (by omega)

theorem w_M_drop_0 : ∀ w ∈ u_ws RX9 TX9 25, w ∈ wsX9_drop := by decide +kernel
theorem w_M_drop_1 : Cond.fieldLink RX9 54 "PackageRows2Model" "thrown" "I" ∈ wsX9_drop := by decide +kernel
theorem w_M_drop_2 : Cond.fieldLink RX9 76 "PackageRows2Model" "came" "I" ∈ wsX9_drop := by decide +kernel
theorem w_M_drop_3 : Cond.fieldLink RX9 83 "PackageRows2Model" "lines" "I" ∈ wsX9_drop := by decide +kernel
set_option maxHeartbeats 4000000 in
set_option maxRecDepth 100000 in
/--  -/
theorem c_M_drop (l : Launch) (D : va_G) (ca : Nat → ClassId) (M : mw_M) (sz o : Nat) (cm li : Nat) (th sg oc ve fa tr to pz pi : Int32) (ho : M o = some (.inr (9, mdF o th sg oc (nI cm) (nI li) ve fa tr to pz pi))) : mw_C wsX9_drop l yX9_drop { frames := 0, cells := 0, slots := 0, locals := 0 } D vwCl (mt ca) [.ref o] M sz (mq_i (fun v9 M' sz' => v9 = nI (cm + li) ∧ M' = mw_u M o (.inr (9, mdF o 0 sg oc 0 0 ve fa tr to pz pi)) ∧ sz' = sz)) := by
  refine mw_enter (cc := cX9_drop) (maxL := 2) (ret := (some .int)) rfl (by decide) (Nat.le_of_ble_eq_true rfl) ?_
  intro p e s m below meth c X hr0 hnm hlt
  refine mj_aload_n X dX9_drop_0 rfl 0 rfl ?_
  refine mj_iconst X (v := 0) dX9_drop_1 (by decide +kernel) ?_
  refine mj_put X (C := RX9) (T := TX9) (N := 25) (ci := 9) (v := .int 0) tyX9 w_M_drop_0 tyX9_ok nmX9 rfl 0 (by decide) w_M_drop_1 rfl ho (mdF o 0 sg oc (nI cm) (nI li) ve fa tr to pz pi) (Nat.le_of_ble_eq_true rfl) rfl rfl rfl rfl dX9_drop_2 ?_
  refine mj_aload_n X dX9_drop_5 rfl 0 rfl ?_
  have f1_ := mw_us (M := M) (a := o) (e := (.inr (9, mdF o 0 sg oc (nI cm) (nI li) ve fa tr to pz pi)))
  refine mj_get X (C := RX9) (T := TX9) (N := 25) (ci := 9) w_M_drop_0 rfl 5 (by decide) w_M_drop_2 f1_ rfl dX9_drop_6 ?_
  refine mj_aload_n X dX9_drop_9 rfl 0 rfl ?_
  refine mj_get X (C := RX9) (T := TX9) (N := 25) (ci := 9) w_M_drop_0 rfl 6 (by decide) w_M_drop_3 f1_ rfl dX9_drop_10 ?_
  refine mj_iadd X dX9_drop_13 ?_
  refine mj_top (nI (cm + li)) (nI_add _ _) ?_
  refine mj_istore_n X [(1, .int (nI (cm + li))), (0, .ref o)] dX9_drop_14 rfl (by decide) rfl ?_
  refine mj_aload_n X dX9_drop_15 rfl 1 rfl ?_
  refine mj_iconst X (v := 0) dX9_drop_16 (by decide +kernel) ?_
  refine mj_put X (C := RX9) (T := TX9) (N := 25) (ci := 9) (v := .int 0) tyX9 w_M_drop_0 tyX9_ok nmX9 rfl 5 (by decide) w_M_drop_2 rfl f1_ (mdF o 0 sg oc 0 (nI li) ve fa tr to pz pi) (Nat.le_of_ble_eq_true rfl) rfl rfl rfl rfl dX9_drop_17 ?_
  refine mj_aload_n X dX9_drop_20 rfl 1 rfl ?_
  refine mj_iconst X (v := 0) dX9_drop_21 (by decide +kernel) ?_
  have f2_ := mw_us (M := (mw_u M o (.inr (9, mdF o 0 sg oc (nI cm) (nI li) ve fa tr to pz pi)))) (a := o) (e := (.inr (9, mdF o 0 sg oc 0 (nI li) ve fa tr to pz pi)))
  refine mj_put X (C := RX9) (T := TX9) (N := 25) (ci := 9) (v := .int 0) tyX9 w_M_drop_0 tyX9_ok nmX9 rfl 6 (by decide) w_M_drop_3 rfl f2_ (mdF o 0 sg oc 0 0 ve fa tr to pz pi) (Nat.le_of_ble_eq_true rfl) rfl rfl rfl rfl dX9_drop_22 ?_
  refine mj_iload_n X dX9_drop_25 rfl 0 rfl ?_
  refine mj_iret X hr0 (by decide) (by decide) dX9_drop_26 ?_
  exact ⟨_, rfl, rfl, by simp only [mw_uu], rfl⟩

theorem w_M_isVersion_0 : ∀ w ∈ u_ws RX9 TX9 25, w ∈ wsX9_isVersion := by decide +kernel
theorem w_M_isVersion_1 : Cond.fieldLink RX9 116 "PackageRows2Model" "versions" "I" ∈ wsX9_isVersion := by decide +kernel
set_option maxHeartbeats 4000000 in
set_option maxRecDepth 100000 in
/--  -/
theorem c_M_isVersion (l : Launch) (D : va_G) (ca : Nat → ClassId) (M : mw_M) (sz o : Nat) (ve : Nat) (th sg oc cm li fa tr to pz pi : Int32) (k : Int32) (ho : M o = some (.inr (9, mdF o th sg oc cm li (nI ve) fa tr to pz pi))) : mw_C wsX9_isVersion l yX9_isVersion { frames := 1, cells := 0, slots := 0, locals := 22 } D vwCl (mt ca) [.ref o, .int k] M sz (mq_i (fun v9 M' sz' => M' = M ∧ sz' = sz ∧ v9 = b2i (inB k 0 (nI ve - 1)))) := by
  refine mw_enter (cc := cX9_isVersion) (maxL := 2) (ret := (some .boolean)) rfl (by decide) (Nat.le_of_ble_eq_true rfl) ?_
  intro p e s m below meth c X hr0 hnm hlt
  refine mj_iload_n X dX9_isVersion_0 rfl 1 rfl ?_
  refine mj_iconst X (v := 0) dX9_isVersion_1 (by decide +kernel) ?_
  refine mj_aload_n X dX9_isVersion_2 rfl 0 rfl ?_
  refine mj_get X (C := RX9) (T := TX9) (N := 25) (ci := 9) w_M_isVersion_0 rfl 13 (by decide) w_M_isVersion_1 ho rfl dX9_isVersion_3 ?_
  refine mj_iconst X (v := 1) dX9_isVersion_6 (by decide +kernel) ?_
  refine mj_isub X dX9_isVersion_7 ?_
  refine mj_callS X 3 gX9_isVersion_X9_in rfl (by decide +kernel) ⟨by decide, by decide⟩ (c_M_in l D ca _ _ k 0 (nI ve - 1)) rfl rfl (Nat.le_of_ble_eq_true rfl) dX9_isVersion_8 ⟨by decide, by decide⟩ (mk_ri (fun b8 hb8 => ?_))
  subst hb8
  refine mj_zret X (b2i_nar _) hr0 (by decide) (by decide) dX9_isVersion_11 ?_
  exact ⟨_, rfl, rfl, rfl, rfl⟩

theorem w_M_isFile_0 : ∀ w ∈ u_ws RX9 TX9 25, w ∈ wsX9_isFile := by decide +kernel
theorem w_M_isFile_1 : Cond.fieldLink RX9 35 "PackageRows2Model" "many" "[I" ∈ wsX9_isFile := by decide +kernel
set_option maxHeartbeats 4000000 in
set_option maxRecDepth 100000 in
/--  -/
theorem c_M_isFile (l : Launch) (D : va_G) (ca : Nat → ClassId) (M : mw_M) (sz o : Nat) (ve : Nat) (th sg oc cm li fa tr to pz pi : Int32) (mn : Nat → Int32) (vcn : Nat → Nat) (k i0 : Int32) (ho : M o = some (.inr (9, mdF o th sg oc cm li (nI ve) fa tr to pz pi))) (h_mn : M (o + 9) = some (.inl (ca 0, 12, .inl mn))) (hve : ve ≤ 12) (hmn : ∀ j, j < ve → mn j = nI (vcn j)) (hvcn : ∀ j, j < ve → vcn j ≤ 8) : mw_C wsX9_isFile l yX9_isFile { frames := 2, cells := 0, slots := 0, locals := 43 } D vwCl (mt ca) [.ref o, .int k, .int i0] M sz (mq_i (fun v9 M' sz' => M' = M ∧ sz' = sz ∧ ((∃ j t, atE ve vcn k i0 j t ∧ v9 = 1) ∨ ((∀ j t, ¬ atE ve vcn k i0 j t) ∧ v9 = 0)))) := by
  refine mw_enter (cc := cX9_isFile) (maxL := 3) (ret := (some .boolean)) rfl (by decide) (Nat.le_of_ble_eq_true rfl) ?_
  intro p e s m below meth c X hr0 hnm hlt
  refine mj_aload_n X dX9_isFile_0 rfl 0 rfl ?_
  refine mj_iload_n X dX9_isFile_1 rfl 1 rfl ?_
  refine mj_callV X 1 gX9_isFile_X9_isVersion rfl (by decide +kernel) ⟨by decide, by decide⟩ (c_M_isVersion l D ca M sz o ve th sg oc cm li fa tr to pz pi k ho) rfl ho rfl rfl (Nat.le_of_ble_eq_true rfl) dX9_isFile_2 ⟨by decide, by decide⟩ (mk_ri (fun b2 hb2 => ?_))
  subst hb2
  refine mj_if_eq X 28 dX9_isFile_5 (by decide) (fun c5 => ?_) (fun c5 => ?_)
  · refine mj_iconst X (v := 0) dX9_isFile_28 (by decide +kernel) ?_
    refine mj_zret X rfl hr0 (by decide) (by decide) dX9_isFile_29 ?_
    exact ⟨_, rfl, rfl, rfl, Or.inr ⟨fun j t h9 => (inB_f (by omega)).mp (b2i_eq c5) j h9.1 h9.2.2.1, rfl⟩⟩
  · obtain ⟨j, hj, ej⟩ := (inB_n (by omega)).mp (b2i_ne c5)
    refine mj_iload_n X dX9_isFile_8 rfl 2 rfl ?_
    refine mj_iconst X (v := 0) dX9_isFile_9 (by decide +kernel) ?_
    refine mj_aload_n X dX9_isFile_10 rfl 0 rfl ?_
    refine mj_get X (C := RX9) (T := TX9) (N := 25) (ci := 9) w_M_isFile_0 rfl 14 (by decide) w_M_isFile_1 ho rfl dX9_isFile_11 ?_
    refine mj_iload_n X dX9_isFile_14 rfl 1 rfl ?_
    refine mj_iald X 0 (nI (vcn j)) rfl h_mn (by rw [ej]; exact vp_in_nI (by omega) (by omega)) (by rw [ej, nI_clamp (by omega)]; exact hmn j hj) dX9_isFile_15 ?_
    refine mj_iconst X (v := 1) dX9_isFile_16 (by decide +kernel) ?_
    refine mj_isub X dX9_isFile_17 ?_
    refine mj_callS X 3 gX9_isFile_X9_in rfl (by decide +kernel) ⟨by decide, by decide⟩ (c_M_in l D ca _ _ i0 0 (nI (vcn j) - 1)) rfl rfl (Nat.le_of_ble_eq_true rfl) dX9_isFile_18 ⟨by decide, by decide⟩ (mk_ri (fun b18 hb18 => ?_))
    subst hb18
    refine mj_if_eq X 28 dX9_isFile_21 (by decide) (fun c21 => ?_) (fun c21 => ?_)
    · refine mj_iconst X (v := 0) dX9_isFile_28 (by decide +kernel) ?_
      refine mj_zret X rfl hr0 (by decide) (by decide) dX9_isFile_29 ?_
      refine ⟨_, rfl, rfl, rfl, Or.inr ⟨fun j9 t h9 => ?_, rfl⟩⟩
      have e9 : j = j9 := (nI_eq (by omega) (by have := h9.1; omega)).mp (ej.symm.trans h9.2.2.1)
      subst e9
      exact (inB_f (n := vcn j) (by have := hvcn j hj; omega)).mp (b2i_eq c21) t h9.2.1 h9.2.2.2
    · refine mj_iconst X (v := 1) dX9_isFile_24 (by decide +kernel) ?_
      refine mj_goto X 29 dX9_isFile_25 (by decide) ?_
      refine mj_zret X rfl hr0 (by decide) (by decide) dX9_isFile_29 ?_
      obtain ⟨t, ht, et⟩ := (inB_n (n := vcn j) (by have := hvcn j hj; omega)).mp (b2i_ne c21)
      exact ⟨_, rfl, rfl, rfl, Or.inl ⟨j, t, ⟨hj, ht, ej, et⟩, rfl⟩⟩

theorem w_M_files_0 : ∀ w ∈ u_ws RX9 TX9 25, w ∈ wsX9_files := by decide +kernel
theorem w_M_files_1 : Cond.fieldLink RX9 54 "PackageRows2Model" "thrown" "I" ∈ wsX9_files := by decide +kernel
theorem w_M_files_2 : Cond.fieldLink RX9 35 "PackageRows2Model" "many" "[I" ∈ wsX9_files := by decide +kernel
set_option maxHeartbeats 4000000 in
set_option maxRecDepth 100000 in
/--  -/
theorem c_M_files (l : Launch) (D : va_G) (ca : Nat → ClassId) (M : mw_M) (sz o : Nat) (ve : Nat) (th sg oc cm li fa tr to pz pi : Int32) (mn : Nat → Int32) (vcn : Nat → Nat) (k : Int32) (ho : M o = some (.inr (9, mdF o th sg oc cm li (nI ve) fa tr to pz pi))) (h_mn : M (o + 9) = some (.inl (ca 0, 12, .inl mn))) (hve : ve ≤ 12) (hmn : ∀ j, j < ve → mn j = nI (vcn j)) (hvcn : ∀ j, j < ve → vcn j ≤ 8) : mw_C wsX9_files l yX9_files { frames := 2, cells := 0, slots := 0, locals := 43 } D vwCl (mt ca) [.ref o, .int k] M sz (mq_i (fun v9 M' sz' => ((∃ j, j < ve ∧ k = nI j ∧ v9 = nI (vcn j)) ∨ ((∀ j, j < ve → k ≠ nI j) ∧ v9 = -1)) ∧ M' = mw_u M o (.inr (9, mdF o 0 sg oc cm li (nI ve) fa tr to pz pi)) ∧ sz' = sz)) := by
  refine mw_enter (cc := cX9_files) (maxL := 2) (ret := (some .int)) rfl (by decide) (Nat.le_of_ble_eq_true rfl) ?_
  intro p e s m below meth c X hr0 hnm hlt
  refine mj_aload_n X dX9_files_0 rfl 0 rfl ?_
  refine mj_iconst X (v := 0) dX9_files_1 (by decide +kernel) ?_
  refine mj_put X (C := RX9) (T := TX9) (N := 25) (ci := 9) (v := .int 0) tyX9 w_M_files_0 tyX9_ok nmX9 rfl 0 (by decide) w_M_files_1 rfl ho (mdF o 0 sg oc cm li (nI ve) fa tr to pz pi) (Nat.le_of_ble_eq_true rfl) rfl rfl rfl rfl dX9_files_2 ?_
  refine mj_aload_n X dX9_files_5 rfl 0 rfl ?_
  refine mj_iload_n X dX9_files_6 rfl 1 rfl ?_
  have f1_ := mw_us (M := M) (a := o) (e := (.inr (9, mdF o 0 sg oc cm li (nI ve) fa tr to pz pi)))
  refine mj_callV X 1 gX9_files_X9_isVersion rfl (by decide +kernel) ⟨by decide, by decide⟩ (c_M_isVersion l D ca _ sz o ve 0 sg oc cm li fa tr to pz pi k f1_) rfl f1_ rfl rfl (Nat.le_of_ble_eq_true rfl) dX9_files_7 ⟨by decide, by decide⟩ (mk_ri (fun b7 hb7 => ?_))
  subst hb7
  refine mj_if_eq X 22 dX9_files_10 (by decide) (fun c10 => ?_) (fun c10 => ?_)
  · refine mj_iconst X (v := -1) dX9_files_22 (by decide +kernel) ?_
    refine mj_iret X hr0 (by decide) (by decide) dX9_files_23 ?_
    exact ⟨_, rfl, Or.inr ⟨(inB_f (by omega)).mp (b2i_eq c10), rfl⟩, rfl, rfl⟩
  · obtain ⟨j, hj, ej⟩ := (inB_n (by omega)).mp (b2i_ne c10)
    refine mj_aload_n X dX9_files_13 rfl 0 rfl ?_
    refine mj_get X (C := RX9) (T := TX9) (N := 25) (ci := 9) w_M_files_0 rfl 14 (by decide) w_M_files_2 f1_ rfl dX9_files_14 ?_
    refine mj_iload_n X dX9_files_17 rfl 1 rfl ?_
    have f2_ := (mw_un (M := M) (e := (.inr (9, mdF o 0 sg oc cm li (nI ve) fa tr to pz pi))) (show o + 9 ≠ o by omega)).trans h_mn
    refine mj_iald X 0 (nI (vcn j)) rfl f2_ (by rw [ej]; exact vp_in_nI (by omega) (by omega)) (by rw [ej, nI_clamp (by omega)]; exact hmn j hj) dX9_files_18 ?_
    refine mj_goto X 23 dX9_files_19 (by decide) ?_
    refine mj_iret X hr0 (by decide) (by decide) dX9_files_23 ?_
    exact ⟨_, rfl, Or.inl ⟨j, hj, ej, rfl⟩, rfl, rfl⟩

