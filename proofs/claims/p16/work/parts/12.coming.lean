-- ===== what comes: the faults of a line and of a file, as relations over the names =====
def lfR (ec : Nat) (en ek : Nat → Nat) (ef eg : Nat → Nat → Int32) (ln : Nat → Nat) (lf : Nat → Nat → Int32) (lx ly : Nat → Int32) (i : Nat) (v : Int32) : Prop :=
  (∃ j, j < i ∧ same (ln j) (lf j) (ln i) (lf i) ∧ v = 1) ∨ ((∀ j, j < i → ¬ same (ln j) (lf j) (ln i) (lf i)) ∧
    (((∀ p, p < ec → ¬ same (en p) (ef p) (ln i) (lf i)) ∧ v = 2) ∨ (∃ p, p < ec ∧ same (en p) (ef p) (ln i) (lf i) ∧ (∀ j, j < p → ¬ same (en j) (ef j) (ln i) (lf i)) ∧
      ((nI (ek p) ≠ lx i ∧ v = 3) ∨ (nI (ek p) = lx i ∧ sumN (eg p) (ek p) ≠ ly i ∧ v = 4) ∨ (nI (ek p) = lx i ∧ sumN (eg p) (ek p) = ly i ∧ v = 0)))))
def ffR (en : Nat → Nat) (ef : Nat → Nat → Int32) (lc : Nat) (ln : Nat → Nat) (lf : Nat → Nat → Int32) (i : Nat) (v : Int32) : Prop :=
  (∃ j, j < i ∧ same (en j) (ef j) (en i) (ef i) ∧ v = 5) ∨ ((∀ j, j < i → ¬ same (en j) (ef j) (en i) (ef i)) ∧
    (((∀ j, j < lc → ¬ same (ln j) (lf j) (en i) (ef i)) ∧ v = 6) ∨ (∃ j, j < lc ∧ same (ln j) (lf j) (en i) (ef i) ∧ v = 0)))
theorem same_rf (n : Nat) (f : Nat → Int32) : same n f n f := ⟨rfl, fun _ _ => rfl⟩
/-- how many are not 0 -/
def nz (K : Nat → Int32) : Nat → Nat
  | 0 => 0
  | i + 1 => nz K i + if K i = 0 then 0 else 1
theorem nz_le (K : Nat → Int32) : ∀ i, nz K i ≤ i
  | 0 => Nat.le_refl 0
  | i + 1 => by
    have := nz_le K i
    simp only [nz]
    split <;> omega
theorem nz_mono (K : Nat → Int32) : ∀ {a b : Nat}, a ≤ b → nz K a ≤ nz K b
  | a, 0, h => by rw [Nat.le_zero.mp h]; exact Nat.le_refl _
  | a, b + 1, h => by
    rcases Nat.lt_or_ge a (b + 1) with q | q
    · have := nz_mono K (show a ≤ b by omega); simp only [nz]; split <;> omega
    · rw [show a = b + 1 by omega]; exact Nat.le_refl _
theorem w_Coming_fileCount_0 : ∀ w ∈ u_ws RX0 TX0 4, w ∈ wsX0_fileCount := by decide +kernel
theorem w_Coming_fileCount_1 : Cond.fieldLink RX0 17 "PackageRows2$Coming" "entryCount" "I" ∈ wsX0_fileCount := by decide +kernel
set_option maxHeartbeats 4000000 in
set_option maxRecDepth 100000 in
/--  -/
theorem c_Coming_fileCount (l : Launch) (D : va_G) (ca : Nat → ClassId) (M : mw_M) (sz q ec lc : Nat) (ce xl : Nat → Option Nat) (hq : M q = some (.inr (1, [.ref (q + 1), .int (nI ec), .ref (q + 2), .int (nI lc)]))) (hqe : M (q + 1) = some (.inl (ca 3, 12, .inr (.inr (.inr (.inr ce)))))) (hql : M (q + 2) = some (.inl (ca 4, 12, .inr (.inr (.inr (.inr xl)))))) (hec : ec ≤ 12) (hlc : lc ≤ 12) : mw_C wsX0_fileCount l yX0_fileCount { frames := 0, cells := 0, slots := 0, locals := 0 } D vwCl (mt ca) [.ref q] M sz (mq_i (fun v9 M' sz' => M' = M ∧ sz' = sz ∧ v9 = nI ec)) := by
  refine mw_enter (cc := cX0_fileCount) (maxL := 1) (ret := (some .int)) rfl (by decide) (Nat.le_of_ble_eq_true rfl) ?_
  intro p e s m below meth c X hr0 hnm hlt
  refine mj_aload_n X dX0_fileCount_0 rfl 0 rfl ?_
  refine mj_get X (C := RX0) (T := TX0) (N := 4) (ci := 1) w_Coming_fileCount_0 rfl 1 (by decide) w_Coming_fileCount_1 hq rfl dX0_fileCount_1 ?_
  refine mj_iret X hr0 (by decide) (by decide) dX0_fileCount_4 ?_
  exact ⟨_, rfl, rfl, rfl, rfl⟩

theorem w_Coming_lineCount_0 : ∀ w ∈ u_ws RX0 TX0 4, w ∈ wsX0_lineCount := by decide +kernel
theorem w_Coming_lineCount_1 : Cond.fieldLink RX0 27 "PackageRows2$Coming" "lineCount" "I" ∈ wsX0_lineCount := by decide +kernel
set_option maxHeartbeats 4000000 in
set_option maxRecDepth 100000 in
/--  -/
theorem c_Coming_lineCount (l : Launch) (D : va_G) (ca : Nat → ClassId) (M : mw_M) (sz q ec lc : Nat) (ce xl : Nat → Option Nat) (hq : M q = some (.inr (1, [.ref (q + 1), .int (nI ec), .ref (q + 2), .int (nI lc)]))) (hqe : M (q + 1) = some (.inl (ca 3, 12, .inr (.inr (.inr (.inr ce)))))) (hql : M (q + 2) = some (.inl (ca 4, 12, .inr (.inr (.inr (.inr xl)))))) (hec : ec ≤ 12) (hlc : lc ≤ 12) : mw_C wsX0_lineCount l yX0_lineCount { frames := 0, cells := 0, slots := 0, locals := 0 } D vwCl (mt ca) [.ref q] M sz (mq_i (fun v9 M' sz' => M' = M ∧ sz' = sz ∧ v9 = nI lc)) := by
  refine mw_enter (cc := cX0_lineCount) (maxL := 1) (ret := (some .int)) rfl (by decide) (Nat.le_of_ble_eq_true rfl) ?_
  intro p e s m below meth c X hr0 hnm hlt
  refine mj_aload_n X dX0_lineCount_0 rfl 0 rfl ?_
  refine mj_get X (C := RX0) (T := TX0) (N := 4) (ci := 1) w_Coming_lineCount_0 rfl 3 (by decide) w_Coming_lineCount_1 hq rfl dX0_lineCount_1 ?_
  refine mj_iret X hr0 (by decide) (by decide) dX0_lineCount_4 ?_
  exact ⟨_, rfl, rfl, rfl, rfl⟩

theorem w_Coming_clear_0 : ∀ w ∈ u_ws RX0 TX0 4, w ∈ wsX0_clear := by decide +kernel
theorem w_Coming_clear_1 : Cond.fieldLink RX0 17 "PackageRows2$Coming" "entryCount" "I" ∈ wsX0_clear := by decide +kernel
theorem w_Coming_clear_2 : Cond.fieldLink RX0 27 "PackageRows2$Coming" "lineCount" "I" ∈ wsX0_clear := by decide +kernel
set_option maxHeartbeats 4000000 in
set_option maxRecDepth 100000 in
/--  -/
theorem c_Coming_clear (l : Launch) (D : va_G) (ca : Nat → ClassId) (M : mw_M) (sz q ec lc : Nat) (ce xl : Nat → Option Nat) (hq : M q = some (.inr (1, [.ref (q + 1), .int (nI ec), .ref (q + 2), .int (nI lc)]))) (hqe : M (q + 1) = some (.inl (ca 3, 12, .inr (.inr (.inr (.inr ce)))))) (hql : M (q + 2) = some (.inl (ca 4, 12, .inr (.inr (.inr (.inr xl)))))) (hec : ec ≤ 12) (hlc : lc ≤ 12) : mw_C wsX0_clear l yX0_clear { frames := 0, cells := 0, slots := 0, locals := 0 } D vwCl (mt ca) [.ref q] M sz (mq_v (fun M' sz' => M' = mw_u M q (.inr (1, [.ref (q + 1), .int (nI 0), .ref (q + 2), .int (nI 0)])) ∧ sz' = sz)) := by
  refine mw_enter (cc := cX0_clear) (maxL := 1) (ret := none) rfl (by decide) (Nat.le_of_ble_eq_true rfl) ?_
  intro p e s m below meth c X hr0 hnm hlt
  refine mj_aload_n X dX0_clear_0 rfl 0 rfl ?_
  refine mj_iconst X (v := 0) dX0_clear_1 (by decide +kernel) ?_
  refine mj_put X (C := RX0) (T := TX0) (N := 4) (ci := 1) (v := .int 0) tyX0 w_Coming_clear_0 tyX0_ok nmX0 rfl 1 (by decide) w_Coming_clear_1 rfl hq [.ref (q + 1), .int 0, .ref (q + 2), .int (nI lc)] (Nat.le_of_ble_eq_true rfl) rfl rfl rfl rfl dX0_clear_2 ?_
  refine mj_aload_n X dX0_clear_5 rfl 0 rfl ?_
  refine mj_iconst X (v := 0) dX0_clear_6 (by decide +kernel) ?_
  have f1_ := mw_us (M := M) (a := q) (e := (.inr (1, [.ref (q + 1), .int 0, .ref (q + 2), .int (nI lc)])))
  refine mj_put X (C := RX0) (T := TX0) (N := 4) (ci := 1) (v := .int 0) tyX0 w_Coming_clear_0 tyX0_ok nmX0 rfl 3 (by decide) w_Coming_clear_2 rfl f1_ [.ref (q + 1), .int 0, .ref (q + 2), .int 0] (Nat.le_of_ble_eq_true rfl) rfl rfl rfl rfl dX0_clear_7 ?_
  refine mj_vret X hr0 (by decide) (by decide) dX0_clear_10 ?_
  exact ⟨rfl, by rw [mw_uu, nI_0], rfl⟩

theorem w_Coming_init_0 : Cond.methodLink RX0 3 Lib.objectInit ∈ wsX0_init := by decide +kernel
theorem w_Coming_init_1 : Cond.instanceMethod Lib.objectInit ∈ wsX0_init := by decide +kernel
theorem w_Coming_init_2 : Cond.code Lib.objectInit ⟨#[0xb1]⟩ 1 none ∈ wsX0_init := by decide +kernel
theorem w_Coming_init_3 : Cond.classLink RX0 9 RX1 ∈ wsX0_init := by decide +kernel
theorem w_Coming_init_4 : ∀ w ∈ u_ws RX0 TX0 4, w ∈ wsX0_init := by decide +kernel
theorem w_Coming_init_5 : Cond.fieldLink RX0 11 "PackageRows2$Coming" "entries" "[LPackageRows2$Entry;" ∈ wsX0_init := by decide +kernel
theorem w_Coming_init_6 : Cond.fieldLink RX0 17 "PackageRows2$Coming" "entryCount" "I" ∈ wsX0_init := by decide +kernel
theorem w_Coming_init_7 : Cond.classLink RX0 21 RX3 ∈ wsX0_init := by decide +kernel
theorem w_Coming_init_8 : Cond.fieldLink RX0 23 "PackageRows2$Coming" "lines" "[LPackageRows2$Line;" ∈ wsX0_init := by decide +kernel
theorem w_Coming_init_9 : Cond.fieldLink RX0 27 "PackageRows2$Coming" "lineCount" "I" ∈ wsX0_init := by decide +kernel
set_option maxHeartbeats 4000000 in
set_option maxRecDepth 100000 in
/--  -/
theorem c_Coming_init (l : Launch) (D : va_G) (ca : Nat → ClassId) (M : mw_M) (q : Nat) (hq : M q = some (.inr (1, [.null, .int 0, .null, .int 0]))) : mw_C wsX0_init l yX0_init { frames := 1, cells := 2, slots := 24, locals := 12 } D vwCl (mt ca) [.ref q] M (q + 1) (mq_v (fun M' sz' => M' = mw_u (mw_u (mw_u M (q + 1) (.inl (ca 3, 12, .inr (.inr (.inr (.inr (fun _ => none))))))) (q + 2) (.inl (ca 4, 12, .inr (.inr (.inr (.inr (fun _ => none))))))) q (.inr (1, [.ref (q + 1), .int (nI 0), .ref (q + 2), .int (nI 0)])) ∧ sz' = q + 3)) := by
  refine mw_enter (cc := cX0_init) (maxL := 1) (ret := none) rfl (by decide) (Nat.le_of_ble_eq_true rfl) ?_
  intro p e s m below meth c X hr0 hnm hlt
  refine mj_aload_n X dX0_init_0 rfl 0 rfl ?_
  refine mj_objInit X w_Coming_init_0 w_Coming_init_1 w_Coming_init_2 dX0_init_1 (by decide) (Nat.le_of_ble_eq_true rfl) ?_
  refine mj_aload_n X dX0_init_4 rfl 0 rfl ?_
  refine mj_bipush X (v := 12) dX0_init_5 (by decide +kernel) ?_
  refine mj_newq X 3 12 (C := RX1) rfl w_Coming_init_3 (by decide) (by decide) (by decide) (by decide) (by decide) (by decide) dX0_init_7 ?_
  have f1_ := (mw_un (M := M) (e := (.inl (ca 3, 12, .inr (.inr (.inr (.inr (fun _ => none))))))) (show q ≠ q + 1 by omega)).trans hq
  refine mj_putF X (C := RX0) (T := TX0) (N := 4) (ci := 1) (v := .ref (q + 1)) tyX0 w_Coming_init_4 tyX0_ok nmX0 rfl 0 (by decide) w_Coming_init_5 rfl f1_ [.ref (q + 1), .int 0, .null, .int 0] (Nat.le_of_ble_eq_true rfl) rfl rfl rfl rfl hnm rfl dX0_init_10 ?_
  refine mj_aload_n X dX0_init_13 rfl 0 rfl ?_
  refine mj_iconst X (v := 0) dX0_init_14 (by decide +kernel) ?_
  have f2_ := mw_us (M := (mw_u M (q + 1) (.inl (ca 3, 12, .inr (.inr (.inr (.inr (fun _ => none)))))))) (a := q) (e := (.inr (1, [.ref (q + 1), .int 0, .null, .int 0])))
  refine mj_put X (C := RX0) (T := TX0) (N := 4) (ci := 1) (v := .int 0) tyX0 w_Coming_init_4 tyX0_ok nmX0 rfl 1 (by decide) w_Coming_init_6 rfl f2_ [.ref (q + 1), .int 0, .null, .int 0] (Nat.le_of_ble_eq_true rfl) rfl rfl rfl rfl dX0_init_15 ?_
  refine mj_aload_n X dX0_init_18 rfl 0 rfl ?_
  refine mj_bipush X (v := 12) dX0_init_19 (by decide +kernel) ?_
  refine mj_newq X 4 12 (C := RX3) rfl w_Coming_init_7 (by decide) (by decide) (by decide) (by decide) (by decide) (by decide) dX0_init_21 ?_
  have f3_ := mw_us (M := (mw_u (mw_u M (q + 1) (.inl (ca 3, 12, .inr (.inr (.inr (.inr (fun _ => none))))))) q (.inr (1, [.ref (q + 1), .int 0, .null, .int 0])))) (a := q) (e := (.inr (1, [.ref (q + 1), .int 0, .null, .int 0])))
  have f4_ := (mw_un (M := (mw_u (mw_u (mw_u M (q + 1) (.inl (ca 3, 12, .inr (.inr (.inr (.inr (fun _ => none))))))) q (.inr (1, [.ref (q + 1), .int 0, .null, .int 0]))) q (.inr (1, [.ref (q + 1), .int 0, .null, .int 0])))) (e := (.inl (ca 4, 12, .inr (.inr (.inr (.inr (fun _ => none))))))) (show q ≠ q + 2 by omega)).trans f3_
  refine mj_putF X (C := RX0) (T := TX0) (N := 4) (ci := 1) (v := .ref (q + 2)) tyX0 w_Coming_init_4 tyX0_ok nmX0 rfl 2 (by decide) w_Coming_init_8 rfl f4_ [.ref (q + 1), .int 0, .ref (q + 2), .int 0] (Nat.le_of_ble_eq_true rfl) rfl rfl rfl rfl hnm rfl dX0_init_24 ?_
  refine mj_aload_n X dX0_init_27 rfl 0 rfl ?_
  refine mj_iconst X (v := 0) dX0_init_28 (by decide +kernel) ?_
  have f5_ := mw_us (M := (mw_u (mw_u (mw_u (mw_u M (q + 1) (.inl (ca 3, 12, .inr (.inr (.inr (.inr (fun _ => none))))))) q (.inr (1, [.ref (q + 1), .int 0, .null, .int 0]))) q (.inr (1, [.ref (q + 1), .int 0, .null, .int 0]))) (q + 2) (.inl (ca 4, 12, .inr (.inr (.inr (.inr (fun _ => none)))))))) (a := q) (e := (.inr (1, [.ref (q + 1), .int 0, .ref (q + 2), .int 0])))
  refine mj_put X (C := RX0) (T := TX0) (N := 4) (ci := 1) (v := .int 0) tyX0 w_Coming_init_4 tyX0_ok nmX0 rfl 3 (by decide) w_Coming_init_9 rfl f5_ [.ref (q + 1), .int 0, .ref (q + 2), .int 0] (Nat.le_of_ble_eq_true rfl) rfl rfl rfl rfl dX0_init_29 ?_
  refine mj_vret X hr0 (by decide) (by decide) dX0_init_32 ?_
  exact ⟨rfl, by simp only [mw_uu]; rw [nI_0, mw_3 (by omega)], rfl⟩

theorem w_Coming_firstLine_0 : ∀ w ∈ u_ws RX0 TX0 4, w ∈ wsX0_firstLine := by decide +kernel
theorem w_Coming_firstLine_1 : Cond.fieldLink RX0 27 "PackageRows2$Coming" "lineCount" "I" ∈ wsX0_firstLine := by decide +kernel
theorem w_Coming_firstLine_2 : Cond.fieldLink RX0 23 "PackageRows2$Coming" "lines" "[LPackageRows2$Line;" ∈ wsX0_firstLine := by decide +kernel
theorem w_Coming_firstLine_3 : ∀ w ∈ u_ws RX3 TX3 3, w ∈ wsX0_firstLine := by decide +kernel
theorem w_Coming_firstLine_4 : Cond.fieldLink RX0 64 "PackageRows2$Line" "name" "LPackageRows2$Row;" ∈ wsX0_firstLine := by decide +kernel
set_option maxHeartbeats 4000000 in
set_option maxRecDepth 100000 in
theorem lp_Coming_firstLine_2 {l : Launch} {D : va_G} {ca : Nat → ClassId} (M : mw_M) (sz q ec lc : Nat) (ce xl : Nat → Option Nat) (L ln : Nat → Nat) (lf : Nat → Nat → Int32) (lx ly : Nat → Int32) (r cap n : Nat) (f : Nat → Int32) (hq : M q = some (.inr (1, [.ref (q + 1), .int (nI ec), .ref (q + 2), .int (nI lc)]))) (hqe : M (q + 1) = some (.inl (ca 3, 12, .inr (.inr (.inr (.inr ce)))))) (hql : M (q + 2) = some (.inl (ca 4, 12, .inr (.inr (.inr (.inr xl)))))) (hec : ec ≤ 12) (hlc : lc ≤ 12) (hxl : ∀ i, i < lc → xl i = some (L i)) (hlin : ∀ i, i < lc → isLin ca M (L i) (ln i) (lf i) (lx i) (ly i)) (hr : M r = some (.inr (5, [.ref (r + 1), .int (nI n)]))) (ha : M (r + 1) = some (.inl (ca 0, cap, .inl f))) (hn : n ≤ cap) (hcap : cap < 1000) {p : Program} {e : Env} {s : State} {m : MethodId} {below : List Frame} {meth : Method} {c : Code} (X : mw_X p s m ([.ref q, .ref r] : List Value).toArray meth c cX0_firstLine 3 yX0_firstLine.cls wsX0_firstLine D vwCl (mt ca)) (hr0 : meth.sig.returnType = (some .int)) (hnm : meth.name = yX0_firstLine.name) (hlt : ∀ (a : Nat) (x : va_E), M a = some x → a < sz) : ∀ (fu : Nat) (i : Nat), i ≤ lc → lc < i + fu → (∀ j, j < i → ¬ same (ln j) (lf j) n f) → mw_J p l e { frames := 2, cells := 0, slots := 0, locals := 43 } s m ([.ref q, .ref r] : List Value).toArray below meth c 3 D vwCl (mw_A M sz) (MQ below (mw_Q D vwCl M sz (mq_i (fun v9 M' sz' => M' = M ∧ sz' = sz ∧ ((∃ i, i < lc ∧ same (ln i) (lf i) n f ∧ (∀ j, j < i → ¬ same (ln j) (lf j) n f) ∧ v9 = nI i) ∨ ((∀ j, j < lc → ¬ same (ln j) (lf j) n f) ∧ v9 = nI lc))))) ([.ref q, .ref r] : List Value).toArray s 0 0 (mw_A M sz)) 2 [(0, .ref q), (1, .ref r), (2, .int (nI i))] [] M sz 0 0 := by
  intro fu
  induction fu with
  | zero => intro i h1 h2; omega
  | succ fu ih =>
    intro i hi hfu hall
    refine mj_iload_n X dX0_firstLine_2 rfl 2 rfl ?_
    refine mj_aload_n X dX0_firstLine_3 rfl 0 rfl ?_
    refine mj_get X (C := RX0) (T := TX0) (N := 4) (ci := 1) w_Coming_firstLine_0 rfl 3 (by decide) w_Coming_firstLine_1 hq rfl dX0_firstLine_4 ?_
    refine mj_icmp_ge X 32 dX0_firstLine_7 (by decide) (fun c7 => ?_) (fun c7 => ?_)
    · refine mj_iload_n X dX0_firstLine_32 rfl 2 rfl ?_
      refine mj_iret X hr0 (by decide) (by decide) dX0_firstLine_33 ?_
      have e9 : i = lc := by have h9 := (nI_leI (by omega) (by omega)).mp c7; omega
      exact ⟨_, rfl, rfl, rfl, Or.inr ⟨fun j hj => hall j (by omega), by rw [e9]⟩⟩
    · have hlt7 : i < lc := Nat.not_le.mp (fun h9 => c7 (nI_le h9 (by omega)))
      obtain ⟨hL1, ⟨hL2, hL3, hL4, hL5⟩, hL6⟩ := hlin i hlt7
      refine mj_aload_n X dX0_firstLine_10 rfl 0 rfl ?_
      refine mj_get X (C := RX0) (T := TX0) (N := 4) (ci := 1) w_Coming_firstLine_0 rfl 2 (by decide) w_Coming_firstLine_2 hq rfl dX0_firstLine_11 ?_
      refine mj_iload_n X dX0_firstLine_14 rfl 2 rfl ?_
      refine mj_aald X 4 (xl i) rfl hql (vp_in_nI (by omega) (by omega)) (by rw [nI_clamp (by omega)]) dX0_firstLine_15 ?_
      refine mj_top' (.ref (L i)) (by rw [hxl i hlt7]; rfl) ?_
      refine mj_get X (C := RX3) (T := TX3) (N := 3) (ci := 4) w_Coming_firstLine_3 rfl 0 (by decide) w_Coming_firstLine_4 hL1 rfl dX0_firstLine_16 ?_
      refine mj_aload_n X dX0_firstLine_19 rfl 1 rfl ?_
      refine mj_callV X 1 gX0_firstLine_X5_alike rfl (by decide +kernel) ⟨by decide, by decide⟩ (c_Row_alike l D ca M sz (L i + 1) (ln i) (ln i) (lf i) r cap n f hL2 hL3 hL4 hL5 hr ha hn hcap) rfl hL2 rfl rfl (Nat.le_of_ble_eq_true rfl) dX0_firstLine_20 ⟨by decide, by decide⟩ (mk_ri (fun b2 hb2 => ?_))
      refine mj_if_ne X 32 dX0_firstLine_23 (by decide) (fun c23 => ?_) (fun c23 => ?_)
      · refine mj_iload_n X dX0_firstLine_32 rfl 2 rfl ?_
        refine mj_iret X hr0 (by decide) (by decide) dX0_firstLine_33 ?_
        have hs9 : same (ln i) (lf i) n f := by
          rcases hb2 with ⟨-, h2⟩ | ⟨h2, -⟩
          · exact h2
          · exact absurd h2 c23
        exact ⟨_, rfl, rfl, rfl, Or.inl ⟨i, hlt7, hs9, hall, rfl⟩⟩
      · refine mj_iinc X [(2, .int (nI (i + 1))), (0, .ref q), (1, .ref r)] dX0_firstLine_26 2 rfl (nI_1 i) (by decide) rfl ?_
        refine mj_goto X 2 dX0_firstLine_29 (by decide) ?_
        refine mj_sub [1, 2, 0] rfl ?_
        have hs9 : ¬ same (ln i) (lf i) n f := by
          rcases hb2 with ⟨h2, -⟩ | ⟨-, h2⟩
          · rw [h2] at c23; exact absurd c23 (by decide)
          · exact h2
        exact ih (i + 1) hlt7 (by omega) (lt_s hall hs9)
set_option maxHeartbeats 4000000 in
set_option maxRecDepth 100000 in
/--  -/
theorem c_Coming_firstLine (l : Launch) (D : va_G) (ca : Nat → ClassId) (M : mw_M) (sz q ec lc : Nat) (ce xl : Nat → Option Nat) (L ln : Nat → Nat) (lf : Nat → Nat → Int32) (lx ly : Nat → Int32) (r cap n : Nat) (f : Nat → Int32) (hq : M q = some (.inr (1, [.ref (q + 1), .int (nI ec), .ref (q + 2), .int (nI lc)]))) (hqe : M (q + 1) = some (.inl (ca 3, 12, .inr (.inr (.inr (.inr ce)))))) (hql : M (q + 2) = some (.inl (ca 4, 12, .inr (.inr (.inr (.inr xl)))))) (hec : ec ≤ 12) (hlc : lc ≤ 12) (hxl : ∀ i, i < lc → xl i = some (L i)) (hlin : ∀ i, i < lc → isLin ca M (L i) (ln i) (lf i) (lx i) (ly i)) (hr : M r = some (.inr (5, [.ref (r + 1), .int (nI n)]))) (ha : M (r + 1) = some (.inl (ca 0, cap, .inl f))) (hn : n ≤ cap) (hcap : cap < 1000) : mw_C wsX0_firstLine l yX0_firstLine { frames := 2, cells := 0, slots := 0, locals := 43 } D vwCl (mt ca) [.ref q, .ref r] M sz (mq_i (fun v9 M' sz' => M' = M ∧ sz' = sz ∧ ((∃ i, i < lc ∧ same (ln i) (lf i) n f ∧ (∀ j, j < i → ¬ same (ln j) (lf j) n f) ∧ v9 = nI i) ∨ ((∀ j, j < lc → ¬ same (ln j) (lf j) n f) ∧ v9 = nI lc)))) := by
  refine mw_enter (cc := cX0_firstLine) (maxL := 3) (ret := (some .int)) rfl (by decide) (Nat.le_of_ble_eq_true rfl) ?_
  intro p e s m below meth c X hr0 hnm hlt
  refine mj_iconst X (v := 0) dX0_firstLine_0 (by decide +kernel) ?_
  refine mj_istore_n X [(2, .int 0), (0, .ref q), (1, .ref r)] dX0_firstLine_1 rfl (by decide) rfl ?_
  refine mj_sub [1, 2, 0] rfl ?_
  exact lp_Coming_firstLine_2 (l := l) (D := D) (ca := ca) M sz q ec lc ce xl L ln lf lx ly r cap n f hq hqe hql hec hlc hxl hlin hr ha hn hcap X hr0 hnm hlt (lc + 1) 0 (by omega) (by omega) (fun j hj => absurd hj (by omega))

theorem w_Coming_firstFile_0 : ∀ w ∈ u_ws RX0 TX0 4, w ∈ wsX0_firstFile := by decide +kernel
theorem w_Coming_firstFile_1 : Cond.fieldLink RX0 17 "PackageRows2$Coming" "entryCount" "I" ∈ wsX0_firstFile := by decide +kernel
theorem w_Coming_firstFile_2 : Cond.fieldLink RX0 11 "PackageRows2$Coming" "entries" "[LPackageRows2$Entry;" ∈ wsX0_firstFile := by decide +kernel
theorem w_Coming_firstFile_3 : ∀ w ∈ u_ws RX1 TX1 4, w ∈ wsX0_firstFile := by decide +kernel
theorem w_Coming_firstFile_4 : Cond.fieldLink RX0 91 "PackageRows2$Entry" "name" "LPackageRows2$Row;" ∈ wsX0_firstFile := by decide +kernel
set_option maxHeartbeats 4000000 in
set_option maxRecDepth 100000 in
theorem lp_Coming_firstFile_2 {l : Launch} {D : va_G} {ca : Nat → ClassId} (M : mw_M) (sz q ec lc : Nat) (ce xl : Nat → Option Nat) (E en ek : Nat → Nat) (ef eg : Nat → Nat → Int32) (ev : Nat → Int32) (r cap n : Nat) (f : Nat → Int32) (hq : M q = some (.inr (1, [.ref (q + 1), .int (nI ec), .ref (q + 2), .int (nI lc)]))) (hqe : M (q + 1) = some (.inl (ca 3, 12, .inr (.inr (.inr (.inr ce)))))) (hql : M (q + 2) = some (.inl (ca 4, 12, .inr (.inr (.inr (.inr xl)))))) (hec : ec ≤ 12) (hlc : lc ≤ 12) (he : ∀ i, i < ec → ce i = some (E i)) (hent : ∀ i, i < ec → isEnt ca M (E i) (en i) (ef i) (ek i) (eg i) (ev i)) (hr : M r = some (.inr (5, [.ref (r + 1), .int (nI n)]))) (ha : M (r + 1) = some (.inl (ca 0, cap, .inl f))) (hn : n ≤ cap) (hcap : cap < 1000) {p : Program} {e : Env} {s : State} {m : MethodId} {below : List Frame} {meth : Method} {c : Code} (X : mw_X p s m ([.ref q, .ref r] : List Value).toArray meth c cX0_firstFile 3 yX0_firstFile.cls wsX0_firstFile D vwCl (mt ca)) (hr0 : meth.sig.returnType = (some .int)) (hnm : meth.name = yX0_firstFile.name) (hlt : ∀ (a : Nat) (x : va_E), M a = some x → a < sz) : ∀ (fu : Nat) (i : Nat), i ≤ ec → ec < i + fu → (∀ j, j < i → ¬ same (en j) (ef j) n f) → mw_J p l e { frames := 2, cells := 0, slots := 0, locals := 43 } s m ([.ref q, .ref r] : List Value).toArray below meth c 3 D vwCl (mw_A M sz) (MQ below (mw_Q D vwCl M sz (mq_i (fun v9 M' sz' => M' = M ∧ sz' = sz ∧ ((∃ i, i < ec ∧ same (en i) (ef i) n f ∧ (∀ j, j < i → ¬ same (en j) (ef j) n f) ∧ v9 = nI i) ∨ ((∀ j, j < ec → ¬ same (en j) (ef j) n f) ∧ v9 = nI ec))))) ([.ref q, .ref r] : List Value).toArray s 0 0 (mw_A M sz)) 2 [(0, .ref q), (1, .ref r), (2, .int (nI i))] [] M sz 0 0 := by
  intro fu
  induction fu with
  | zero => intro i h1 h2; omega
  | succ fu ih =>
    intro i hi hfu hall
    refine mj_iload_n X dX0_firstFile_2 rfl 2 rfl ?_
    refine mj_aload_n X dX0_firstFile_3 rfl 0 rfl ?_
    refine mj_get X (C := RX0) (T := TX0) (N := 4) (ci := 1) w_Coming_firstFile_0 rfl 1 (by decide) w_Coming_firstFile_1 hq rfl dX0_firstFile_4 ?_
    refine mj_icmp_ge X 32 dX0_firstFile_7 (by decide) (fun c7 => ?_) (fun c7 => ?_)
    · refine mj_iload_n X dX0_firstFile_32 rfl 2 rfl ?_
      refine mj_iret X hr0 (by decide) (by decide) dX0_firstFile_33 ?_
      have e9 : i = ec := by have h9 := (nI_leI (by omega) (by omega)).mp c7; omega
      exact ⟨_, rfl, rfl, rfl, Or.inr ⟨fun j hj => hall j (by omega), by rw [e9]⟩⟩
    · have hlt7 : i < ec := Nat.not_le.mp (fun h9 => c7 (nI_le h9 (by omega)))
      obtain ⟨hE1, ⟨hE2, hE3, hE4, hE5⟩, ⟨hE6, hE7, hE8, hE9⟩, hE10, hE11⟩ := hent i hlt7
      refine mj_aload_n X dX0_firstFile_10 rfl 0 rfl ?_
      refine mj_get X (C := RX0) (T := TX0) (N := 4) (ci := 1) w_Coming_firstFile_0 rfl 0 (by decide) w_Coming_firstFile_2 hq rfl dX0_firstFile_11 ?_
      refine mj_iload_n X dX0_firstFile_14 rfl 2 rfl ?_
      refine mj_aald X 3 (ce i) rfl hqe (vp_in_nI (by omega) (by omega)) (by rw [nI_clamp (by omega)]) dX0_firstFile_15 ?_
      refine mj_top' (.ref (E i)) (by rw [he i hlt7]; rfl) ?_
      refine mj_get X (C := RX1) (T := TX1) (N := 4) (ci := 2) w_Coming_firstFile_3 rfl 0 (by decide) w_Coming_firstFile_4 hE1 rfl dX0_firstFile_16 ?_
      refine mj_aload_n X dX0_firstFile_19 rfl 1 rfl ?_
      refine mj_callV X 1 gX0_firstFile_X5_alike rfl (by decide +kernel) ⟨by decide, by decide⟩ (c_Row_alike l D ca M sz (E i + 1) (en i) (en i) (ef i) r cap n f hE2 hE3 hE4 hE5 hr ha hn hcap) rfl hE2 rfl rfl (Nat.le_of_ble_eq_true rfl) dX0_firstFile_20 ⟨by decide, by decide⟩ (mk_ri (fun b2 hb2 => ?_))
      refine mj_if_ne X 32 dX0_firstFile_23 (by decide) (fun c23 => ?_) (fun c23 => ?_)
      · refine mj_iload_n X dX0_firstFile_32 rfl 2 rfl ?_
        refine mj_iret X hr0 (by decide) (by decide) dX0_firstFile_33 ?_
        have hs9 : same (en i) (ef i) n f := by
          rcases hb2 with ⟨-, h2⟩ | ⟨h2, -⟩
          · exact h2
          · exact absurd h2 c23
        exact ⟨_, rfl, rfl, rfl, Or.inl ⟨i, hlt7, hs9, hall, rfl⟩⟩
      · refine mj_iinc X [(2, .int (nI (i + 1))), (0, .ref q), (1, .ref r)] dX0_firstFile_26 2 rfl (nI_1 i) (by decide) rfl ?_
        refine mj_goto X 2 dX0_firstFile_29 (by decide) ?_
        refine mj_sub [1, 2, 0] rfl ?_
        have hs9 : ¬ same (en i) (ef i) n f := by
          rcases hb2 with ⟨h2, -⟩ | ⟨-, h2⟩
          · rw [h2] at c23; exact absurd c23 (by decide)
          · exact h2
        exact ih (i + 1) hlt7 (by omega) (lt_s hall hs9)
set_option maxHeartbeats 4000000 in
set_option maxRecDepth 100000 in
/--  -/
theorem c_Coming_firstFile (l : Launch) (D : va_G) (ca : Nat → ClassId) (M : mw_M) (sz q ec lc : Nat) (ce xl : Nat → Option Nat) (E en ek : Nat → Nat) (ef eg : Nat → Nat → Int32) (ev : Nat → Int32) (r cap n : Nat) (f : Nat → Int32) (hq : M q = some (.inr (1, [.ref (q + 1), .int (nI ec), .ref (q + 2), .int (nI lc)]))) (hqe : M (q + 1) = some (.inl (ca 3, 12, .inr (.inr (.inr (.inr ce)))))) (hql : M (q + 2) = some (.inl (ca 4, 12, .inr (.inr (.inr (.inr xl)))))) (hec : ec ≤ 12) (hlc : lc ≤ 12) (he : ∀ i, i < ec → ce i = some (E i)) (hent : ∀ i, i < ec → isEnt ca M (E i) (en i) (ef i) (ek i) (eg i) (ev i)) (hr : M r = some (.inr (5, [.ref (r + 1), .int (nI n)]))) (ha : M (r + 1) = some (.inl (ca 0, cap, .inl f))) (hn : n ≤ cap) (hcap : cap < 1000) : mw_C wsX0_firstFile l yX0_firstFile { frames := 2, cells := 0, slots := 0, locals := 43 } D vwCl (mt ca) [.ref q, .ref r] M sz (mq_i (fun v9 M' sz' => M' = M ∧ sz' = sz ∧ ((∃ i, i < ec ∧ same (en i) (ef i) n f ∧ (∀ j, j < i → ¬ same (en j) (ef j) n f) ∧ v9 = nI i) ∨ ((∀ j, j < ec → ¬ same (en j) (ef j) n f) ∧ v9 = nI ec)))) := by
  refine mw_enter (cc := cX0_firstFile) (maxL := 3) (ret := (some .int)) rfl (by decide) (Nat.le_of_ble_eq_true rfl) ?_
  intro p e s m below meth c X hr0 hnm hlt
  refine mj_iconst X (v := 0) dX0_firstFile_0 (by decide +kernel) ?_
  refine mj_istore_n X [(2, .int 0), (0, .ref q), (1, .ref r)] dX0_firstFile_1 rfl (by decide) rfl ?_
  refine mj_sub [1, 2, 0] rfl ?_
  exact lp_Coming_firstFile_2 (l := l) (D := D) (ca := ca) M sz q ec lc ce xl E en ek ef eg ev r cap n f hq hqe hql hec hlc he hent hr ha hn hcap X hr0 hnm hlt (ec + 1) 0 (by omega) (by omega) (fun j hj => absurd hj (by omega))

theorem w_Coming_faultOfLine_0 : ∀ w ∈ u_ws RX0 TX0 4, w ∈ wsX0_faultOfLine := by decide +kernel
theorem w_Coming_faultOfLine_1 : Cond.fieldLink RX0 23 "PackageRows2$Coming" "lines" "[LPackageRows2$Line;" ∈ wsX0_faultOfLine := by decide +kernel
theorem w_Coming_faultOfLine_2 : ∀ w ∈ u_ws RX3 TX3 3, w ∈ wsX0_faultOfLine := by decide +kernel
theorem w_Coming_faultOfLine_3 : Cond.fieldLink RX0 64 "PackageRows2$Line" "name" "LPackageRows2$Row;" ∈ wsX0_faultOfLine := by decide +kernel
theorem w_Coming_faultOfLine_4 : Cond.fieldLink RX0 17 "PackageRows2$Coming" "entryCount" "I" ∈ wsX0_faultOfLine := by decide +kernel
theorem w_Coming_faultOfLine_5 : Cond.fieldLink RX0 11 "PackageRows2$Coming" "entries" "[LPackageRows2$Entry;" ∈ wsX0_faultOfLine := by decide +kernel
theorem w_Coming_faultOfLine_6 : ∀ w ∈ u_ws RX1 TX1 4, w ∈ wsX0_faultOfLine := by decide +kernel
theorem w_Coming_faultOfLine_7 : Cond.fieldLink RX0 75 "PackageRows2$Entry" "bytes" "LPackageRows2$Row;" ∈ wsX0_faultOfLine := by decide +kernel
theorem w_Coming_faultOfLine_8 : Cond.fieldLink RX0 82 "PackageRows2$Line" "toldSize" "I" ∈ wsX0_faultOfLine := by decide +kernel
theorem w_Coming_faultOfLine_9 : Cond.fieldLink RX0 85 "PackageRows2$Entry" "sumOfAll" "I" ∈ wsX0_faultOfLine := by decide +kernel
theorem w_Coming_faultOfLine_10 : Cond.fieldLink RX0 88 "PackageRows2$Line" "toldSum" "I" ∈ wsX0_faultOfLine := by decide +kernel
set_option maxHeartbeats 4000000 in
set_option maxRecDepth 100000 in
/--  -/
theorem c_Coming_faultOfLine (l : Launch) (D : va_G) (ca : Nat → ClassId) (M : mw_M) (sz q ec lc : Nat) (ce xl : Nat → Option Nat) (E en ek : Nat → Nat) (ef eg : Nat → Nat → Int32) (ev : Nat → Int32) (L ln : Nat → Nat) (lf : Nat → Nat → Int32) (lx ly : Nat → Int32) (i : Nat) (hq : M q = some (.inr (1, [.ref (q + 1), .int (nI ec), .ref (q + 2), .int (nI lc)]))) (hqe : M (q + 1) = some (.inl (ca 3, 12, .inr (.inr (.inr (.inr ce)))))) (hql : M (q + 2) = some (.inl (ca 4, 12, .inr (.inr (.inr (.inr xl)))))) (hec : ec ≤ 12) (hlc : lc ≤ 12) (he : ∀ i, i < ec → ce i = some (E i)) (hent : ∀ i, i < ec → isEnt ca M (E i) (en i) (ef i) (ek i) (eg i) (ev i)) (hxl : ∀ i, i < lc → xl i = some (L i)) (hlin : ∀ i, i < lc → isLin ca M (L i) (ln i) (lf i) (lx i) (ly i)) (hi : i < lc) : mw_C wsX0_faultOfLine l yX0_faultOfLine { frames := 3, cells := 0, slots := 0, locals := 65 } D vwCl (mt ca) [.ref q, .int (nI i)] M sz (mq_i (fun v9 M' sz' => M' = M ∧ sz' = sz ∧ lfR ec en ek ef eg ln lf lx ly i v9)) := by
  refine mw_enter (cc := cX0_faultOfLine) (maxL := 5) (ret := (some .int)) rfl (by decide) (Nat.le_of_ble_eq_true rfl) ?_
  intro p e s m below meth c X hr0 hnm hlt
  obtain ⟨hL1, ⟨hL2, hL3, hL4, hL5⟩, hL6⟩ := hlin i hi
  refine mj_aload_n X dX0_faultOfLine_0 rfl 0 rfl ?_
  refine mj_get X (C := RX0) (T := TX0) (N := 4) (ci := 1) w_Coming_faultOfLine_0 rfl 2 (by decide) w_Coming_faultOfLine_1 hq rfl dX0_faultOfLine_1 ?_
  refine mj_iload_n X dX0_faultOfLine_4 rfl 1 rfl ?_
  refine mj_aald X 4 (xl i) rfl hql (vp_in_nI (by omega) (by omega)) (by rw [nI_clamp (by omega)]) dX0_faultOfLine_5 ?_
  refine mj_top' (.ref (L i)) (by rw [hxl i hi]; rfl) ?_
  refine mj_astore_n X [(2, .ref (L i)), (0, .ref q), (1, .int (nI i))] dX0_faultOfLine_6 rfl (by decide) rfl ?_
  refine mj_aload_n X dX0_faultOfLine_7 rfl 1 rfl ?_
  refine mj_aload_n X dX0_faultOfLine_8 rfl 0 rfl ?_
  refine mj_get X (C := RX3) (T := TX3) (N := 3) (ci := 4) w_Coming_faultOfLine_2 rfl 0 (by decide) w_Coming_faultOfLine_3 hL1 rfl dX0_faultOfLine_9 ?_
  refine mj_callV X 1 gX0_faultOfLine_X0_firstLine rfl (by decide +kernel) ⟨by decide, by decide⟩ (c_Coming_firstLine l D ca M sz q ec lc ce xl L ln lf lx ly (L i + 1) (ln i) (ln i) (lf i) hq hqe hql hec hlc hxl hlin hL2 hL3 hL4 hL5) rfl hq rfl rfl (Nat.le_of_ble_eq_true rfl) dX0_faultOfLine_12 ⟨by decide, by decide⟩ (mk_ri (fun b12 hb12 => ?_))
  refine mj_iload_n X dX0_faultOfLine_15 rfl 2 rfl ?_
  refine mj_icmp_ge X 21 dX0_faultOfLine_16 (by decide) (fun c16 => ?_) (fun c16 => ?_)
  · refine mj_aload_n X dX0_faultOfLine_21 rfl 1 rfl ?_
    refine mj_aload_n X dX0_faultOfLine_22 rfl 0 rfl ?_
    refine mj_get X (C := RX3) (T := TX3) (N := 3) (ci := 4) w_Coming_faultOfLine_2 rfl 0 (by decide) w_Coming_faultOfLine_3 hL1 rfl dX0_faultOfLine_23 ?_
    refine mj_callV X 1 gX0_faultOfLine_X0_firstFile rfl (by decide +kernel) ⟨by decide, by decide⟩ (c_Coming_firstFile l D ca M sz q ec lc ce xl E en ek ef eg ev (L i + 1) (ln i) (ln i) (lf i) hq hqe hql hec hlc he hent hL2 hL3 hL4 hL5) rfl hq rfl rfl (Nat.le_of_ble_eq_true rfl) dX0_faultOfLine_26 ⟨by decide, by decide⟩ (mk_ri (fun b26 hb26 => ?_))
    refine mj_istore_n X [(3, .int b26), (2, .ref (L i)), (0, .ref q), (1, .int (nI i))] dX0_faultOfLine_29 rfl (by decide) rfl ?_
    refine mj_iload_n X dX0_faultOfLine_30 rfl 0 rfl ?_
    refine mj_aload_n X dX0_faultOfLine_31 rfl 2 rfl ?_
    refine mj_get X (C := RX0) (T := TX0) (N := 4) (ci := 1) w_Coming_faultOfLine_0 rfl 1 (by decide) w_Coming_faultOfLine_4 hq rfl dX0_faultOfLine_32 ?_
    refine mj_icmp_lt X 40 dX0_faultOfLine_35 (by decide) (fun c35 => ?_) (fun c35 => ?_)
    · obtain ⟨p9, h1, h2, h3, rfl⟩ : ∃ p9, p9 < ec ∧ same (en p9) (ef p9) (ln i) (lf i) ∧ (∀ j, j < p9 → ¬ same (en j) (ef j) (ln i) (lf i)) ∧ b26 = nI p9 := by
        rcases hb26 with h9 | ⟨-, h9⟩
        · exact h9
        · rw [h9] at c35; exact absurd c35 (nI_nlt (Nat.le_refl _) (by omega))
      obtain ⟨hE1, ⟨hE2, hE3, hE4, hE5⟩, ⟨hE6, hE7, hE8, hE9⟩, hE10, hE11⟩ := hent p9 h1
      refine mj_aload_n X dX0_faultOfLine_40 rfl 2 rfl ?_
      refine mj_get X (C := RX0) (T := TX0) (N := 4) (ci := 1) w_Coming_faultOfLine_0 rfl 0 (by decide) w_Coming_faultOfLine_5 hq rfl dX0_faultOfLine_41 ?_
      refine mj_iload_n X dX0_faultOfLine_44 rfl 0 rfl ?_
      refine mj_aald X 3 (ce p9) rfl hqe (vp_in_nI (by omega) (by omega)) (by rw [nI_clamp (by omega)]) dX0_faultOfLine_45 ?_
      refine mj_top' (.ref (E p9)) (by rw [he p9 h1]; rfl) ?_
      refine mj_astore X [(4, .ref (E p9)), (3, .int (nI p9)), (2, .ref (L i)), (0, .ref q), (1, .int (nI i))] dX0_faultOfLine_46 (by decide) rfl ?_
      refine mj_aload X dX0_faultOfLine_48 0 rfl ?_
      refine mj_get X (C := RX1) (T := TX1) (N := 4) (ci := 2) w_Coming_faultOfLine_6 rfl 1 (by decide) w_Coming_faultOfLine_7 hE1 rfl dX0_faultOfLine_50 ?_
      refine mj_callV X 0 gX0_faultOfLine_X5_size rfl (by decide +kernel) ⟨by decide, by decide⟩ (c_Row_size l D ca M sz (E p9 + 3) (ek p9) (ek p9) (eg p9) hE6 hE7 hE8 hE9) rfl hE6 rfl rfl (Nat.le_of_ble_eq_true rfl) dX0_faultOfLine_53 ⟨by decide, by decide⟩ (mk_ri (fun b2 hb2 => ?_))
      subst hb2
      refine mj_aload_n X dX0_faultOfLine_56 rfl 2 rfl ?_
      refine mj_get X (C := RX3) (T := TX3) (N := 3) (ci := 4) w_Coming_faultOfLine_2 rfl 1 (by decide) w_Coming_faultOfLine_8 hL1 rfl dX0_faultOfLine_57 ?_
      refine mj_icmp_eq X 65 dX0_faultOfLine_60 (by decide) (fun c60 => ?_) (fun c60 => ?_)
      · refine mj_aload X dX0_faultOfLine_65 0 rfl ?_
        refine mj_get X (C := RX1) (T := TX1) (N := 4) (ci := 2) w_Coming_faultOfLine_6 rfl 2 (by decide) w_Coming_faultOfLine_9 hE1 rfl dX0_faultOfLine_67 ?_
        refine mj_aload_n X dX0_faultOfLine_70 rfl 2 rfl ?_
        refine mj_get X (C := RX3) (T := TX3) (N := 3) (ci := 4) w_Coming_faultOfLine_2 rfl 2 (by decide) w_Coming_faultOfLine_10 hL1 rfl dX0_faultOfLine_71 ?_
        refine mj_icmp_eq X 81 dX0_faultOfLine_74 (by decide) (fun c74 => ?_) (fun c74 => ?_)
        · refine mj_iconst X (v := 0) dX0_faultOfLine_81 (by decide +kernel) ?_
          refine mj_iret X hr0 (by decide) (by decide) dX0_faultOfLine_82 ?_
          have hno : ∀ j, j < i → ¬ same (ln j) (lf j) (ln i) (lf i) := by
            rcases hb12 with ⟨j, h1, h2, h3, h4⟩ | ⟨h1, -⟩
            · have hji : i ≤ j := by rw [h4] at c16; exact (nI_leI (by omega) (by omega)).mp c16
              exact fun t ht => h3 t (by omega)
            · exact fun t ht => h1 t (by omega)
          exact ⟨_, rfl, rfl, rfl, Or.inr ⟨hno, Or.inr ⟨p9, h1, h2, h3, Or.inr (Or.inr ⟨c60, c74, rfl⟩)⟩⟩⟩
        · refine mj_iconst X (v := 4) dX0_faultOfLine_77 (by decide +kernel) ?_
          refine mj_goto X 82 dX0_faultOfLine_78 (by decide) ?_
          refine mj_iret X hr0 (by decide) (by decide) dX0_faultOfLine_82 ?_
          have hno : ∀ j, j < i → ¬ same (ln j) (lf j) (ln i) (lf i) := by
            rcases hb12 with ⟨j, h1, h2, h3, h4⟩ | ⟨h1, -⟩
            · have hji : i ≤ j := by rw [h4] at c16; exact (nI_leI (by omega) (by omega)).mp c16
              exact fun t ht => h3 t (by omega)
            · exact fun t ht => h1 t (by omega)
          exact ⟨_, rfl, rfl, rfl, Or.inr ⟨hno, Or.inr ⟨p9, h1, h2, h3, Or.inr (Or.inl ⟨c60, c74, rfl⟩)⟩⟩⟩
      · refine mj_iconst X (v := 3) dX0_faultOfLine_63 (by decide +kernel) ?_
        refine mj_iret X hr0 (by decide) (by decide) dX0_faultOfLine_64 ?_
        have hno : ∀ j, j < i → ¬ same (ln j) (lf j) (ln i) (lf i) := by
          rcases hb12 with ⟨j, h1, h2, h3, h4⟩ | ⟨h1, -⟩
          · have hji : i ≤ j := by rw [h4] at c16; exact (nI_leI (by omega) (by omega)).mp c16
            exact fun t ht => h3 t (by omega)
          · exact fun t ht => h1 t (by omega)
        exact ⟨_, rfl, rfl, rfl, Or.inr ⟨hno, Or.inr ⟨p9, h1, h2, h3, Or.inl ⟨c60, rfl⟩⟩⟩⟩
    · refine mj_iconst X (v := 2) dX0_faultOfLine_38 (by decide +kernel) ?_
      refine mj_iret X hr0 (by decide) (by decide) dX0_faultOfLine_39 ?_
      have hno : ∀ j, j < i → ¬ same (ln j) (lf j) (ln i) (lf i) := by
        rcases hb12 with ⟨j, h1, h2, h3, h4⟩ | ⟨h1, -⟩
        · have hji : i ≤ j := by rw [h4] at c16; exact (nI_leI (by omega) (by omega)).mp c16
          exact fun t ht => h3 t (by omega)
        · exact fun t ht => h1 t (by omega)
      rcases hb26 with ⟨p9, h1, h2, h3, h4⟩ | ⟨h1, -⟩
      · exact absurd (by rw [h4]; exact nI_lt h1 (by omega)) c35
      · exact ⟨_, rfl, rfl, rfl, Or.inr ⟨hno, Or.inl ⟨h1, rfl⟩⟩⟩
  · refine mj_iconst X (v := 1) dX0_faultOfLine_19 (by decide +kernel) ?_
    refine mj_iret X hr0 (by decide) (by decide) dX0_faultOfLine_20 ?_
    rcases hb12 with ⟨j, h1, h2, h3, h4⟩ | ⟨h1, -⟩
    · refine ⟨_, rfl, rfl, rfl, Or.inl ⟨j, ?_, h2, rfl⟩⟩
      exact Nat.not_le.mp (fun h9 => c16 (by rw [h4]; exact nI_le h9 (by omega)))
    · exact absurd (same_rf _ _) (h1 i hi)

theorem w_Coming_faultOfFile_0 : ∀ w ∈ u_ws RX0 TX0 4, w ∈ wsX0_faultOfFile := by decide +kernel
theorem w_Coming_faultOfFile_1 : Cond.fieldLink RX0 11 "PackageRows2$Coming" "entries" "[LPackageRows2$Entry;" ∈ wsX0_faultOfFile := by decide +kernel
theorem w_Coming_faultOfFile_2 : ∀ w ∈ u_ws RX1 TX1 4, w ∈ wsX0_faultOfFile := by decide +kernel
theorem w_Coming_faultOfFile_3 : Cond.fieldLink RX0 91 "PackageRows2$Entry" "name" "LPackageRows2$Row;" ∈ wsX0_faultOfFile := by decide +kernel
theorem w_Coming_faultOfFile_4 : Cond.fieldLink RX0 27 "PackageRows2$Coming" "lineCount" "I" ∈ wsX0_faultOfFile := by decide +kernel
set_option maxHeartbeats 4000000 in
set_option maxRecDepth 100000 in
/--  -/
theorem c_Coming_faultOfFile (l : Launch) (D : va_G) (ca : Nat → ClassId) (M : mw_M) (sz q ec lc : Nat) (ce xl : Nat → Option Nat) (E en ek : Nat → Nat) (ef eg : Nat → Nat → Int32) (ev : Nat → Int32) (L ln : Nat → Nat) (lf : Nat → Nat → Int32) (lx ly : Nat → Int32) (i : Nat) (hq : M q = some (.inr (1, [.ref (q + 1), .int (nI ec), .ref (q + 2), .int (nI lc)]))) (hqe : M (q + 1) = some (.inl (ca 3, 12, .inr (.inr (.inr (.inr ce)))))) (hql : M (q + 2) = some (.inl (ca 4, 12, .inr (.inr (.inr (.inr xl)))))) (hec : ec ≤ 12) (hlc : lc ≤ 12) (he : ∀ i, i < ec → ce i = some (E i)) (hent : ∀ i, i < ec → isEnt ca M (E i) (en i) (ef i) (ek i) (eg i) (ev i)) (hxl : ∀ i, i < lc → xl i = some (L i)) (hlin : ∀ i, i < lc → isLin ca M (L i) (ln i) (lf i) (lx i) (ly i)) (hi : i < ec) : mw_C wsX0_faultOfFile l yX0_faultOfFile { frames := 3, cells := 0, slots := 0, locals := 65 } D vwCl (mt ca) [.ref q, .int (nI i)] M sz (mq_i (fun v9 M' sz' => M' = M ∧ sz' = sz ∧ ffR en ef lc ln lf i v9)) := by
  refine mw_enter (cc := cX0_faultOfFile) (maxL := 3) (ret := (some .int)) rfl (by decide) (Nat.le_of_ble_eq_true rfl) ?_
  intro p e s m below meth c X hr0 hnm hlt
  obtain ⟨hE1, ⟨hE2, hE3, hE4, hE5⟩, ⟨hE6, hE7, hE8, hE9⟩, hE10, hE11⟩ := hent i hi
  refine mj_aload_n X dX0_faultOfFile_0 rfl 0 rfl ?_
  refine mj_get X (C := RX0) (T := TX0) (N := 4) (ci := 1) w_Coming_faultOfFile_0 rfl 0 (by decide) w_Coming_faultOfFile_1 hq rfl dX0_faultOfFile_1 ?_
  refine mj_iload_n X dX0_faultOfFile_4 rfl 1 rfl ?_
  refine mj_aald X 3 (ce i) rfl hqe (vp_in_nI (by omega) (by omega)) (by rw [nI_clamp (by omega)]) dX0_faultOfFile_5 ?_
  refine mj_top' (.ref (E i)) (by rw [he i hi]; rfl) ?_
  refine mj_get X (C := RX1) (T := TX1) (N := 4) (ci := 2) w_Coming_faultOfFile_2 rfl 0 (by decide) w_Coming_faultOfFile_3 hE1 rfl dX0_faultOfFile_6 ?_
  refine mj_astore_n X [(2, .ref (E i + 1)), (0, .ref q), (1, .int (nI i))] dX0_faultOfFile_9 rfl (by decide) rfl ?_
  refine mj_aload_n X dX0_faultOfFile_10 rfl 1 rfl ?_
  refine mj_aload_n X dX0_faultOfFile_11 rfl 0 rfl ?_
  refine mj_callV X 1 gX0_faultOfFile_X0_firstFile rfl (by decide +kernel) ⟨by decide, by decide⟩ (c_Coming_firstFile l D ca M sz q ec lc ce xl E en ek ef eg ev (E i + 1) (en i) (en i) (ef i) hq hqe hql hec hlc he hent hE2 hE3 hE4 hE5) rfl hq rfl rfl (Nat.le_of_ble_eq_true rfl) dX0_faultOfFile_12 ⟨by decide, by decide⟩ (mk_ri (fun b12 hb12 => ?_))
  refine mj_iload_n X dX0_faultOfFile_15 rfl 2 rfl ?_
  refine mj_icmp_ge X 21 dX0_faultOfFile_16 (by decide) (fun c16 => ?_) (fun c16 => ?_)
  · refine mj_aload_n X dX0_faultOfFile_21 rfl 1 rfl ?_
    refine mj_aload_n X dX0_faultOfFile_22 rfl 0 rfl ?_
    refine mj_callV X 1 gX0_faultOfFile_X0_firstLine rfl (by decide +kernel) ⟨by decide, by decide⟩ (c_Coming_firstLine l D ca M sz q ec lc ce xl L ln lf lx ly (E i + 1) (en i) (en i) (ef i) hq hqe hql hec hlc hxl hlin hE2 hE3 hE4 hE5) rfl hq rfl rfl (Nat.le_of_ble_eq_true rfl) dX0_faultOfFile_23 ⟨by decide, by decide⟩ (mk_ri (fun b23 hb23 => ?_))
    refine mj_aload_n X dX0_faultOfFile_26 rfl 1 rfl ?_
    refine mj_get X (C := RX0) (T := TX0) (N := 4) (ci := 1) w_Coming_faultOfFile_0 rfl 3 (by decide) w_Coming_faultOfFile_4 hq rfl dX0_faultOfFile_27 ?_
    refine mj_icmp_lt X 38 dX0_faultOfFile_30 (by decide) (fun c30 => ?_) (fun c30 => ?_)
    · refine mj_iconst X (v := 0) dX0_faultOfFile_38 (by decide +kernel) ?_
      refine mj_iret X hr0 (by decide) (by decide) dX0_faultOfFile_39 ?_
      have hno : ∀ j, j < i → ¬ same (en j) (ef j) (en i) (ef i) := by
        rcases hb12 with ⟨j, h1, h2, h3, h4⟩ | ⟨h1, -⟩
        · have hji : i ≤ j := by rw [h4] at c16; exact (nI_leI (by omega) (by omega)).mp c16
          exact fun t ht => h3 t (by omega)
        · exact fun t ht => h1 t (by omega)
      rcases hb23 with ⟨j, h1, h2, h3, h4⟩ | ⟨-, h4⟩
      · exact ⟨_, rfl, rfl, rfl, Or.inr ⟨hno, Or.inr ⟨j, h1, h2, rfl⟩⟩⟩
      · rw [h4] at c30; exact absurd c30 (nI_nlt (Nat.le_refl _) (by omega))
    · refine mj_bipush X (v := 6) dX0_faultOfFile_33 (by decide +kernel) ?_
      refine mj_goto X 39 dX0_faultOfFile_35 (by decide) ?_
      refine mj_iret X hr0 (by decide) (by decide) dX0_faultOfFile_39 ?_
      have hno : ∀ j, j < i → ¬ same (en j) (ef j) (en i) (ef i) := by
        rcases hb12 with ⟨j, h1, h2, h3, h4⟩ | ⟨h1, -⟩
        · have hji : i ≤ j := by rw [h4] at c16; exact (nI_leI (by omega) (by omega)).mp c16
          exact fun t ht => h3 t (by omega)
        · exact fun t ht => h1 t (by omega)
      rcases hb23 with ⟨j, h1, h2, h3, h4⟩ | ⟨h1, -⟩
      · exact absurd (by rw [h4]; exact nI_lt h1 (by omega)) c30
      · exact ⟨_, rfl, rfl, rfl, Or.inr ⟨hno, Or.inl ⟨h1, rfl⟩⟩⟩
  · refine mj_iconst X (v := 5) dX0_faultOfFile_19 (by decide +kernel) ?_
    refine mj_iret X hr0 (by decide) (by decide) dX0_faultOfFile_20 ?_
    rcases hb12 with ⟨j, h1, h2, h3, h4⟩ | ⟨h1, -⟩
    · refine ⟨_, rfl, rfl, rfl, Or.inl ⟨j, ?_, h2, rfl⟩⟩
      exact Nat.not_le.mp (fun h9 => c16 (by rw [h4]; exact nI_le h9 (by omega)))
    · exact absurd (same_rf _ _) (h1 i hi)

