-- ===== the order of names =====
def ltN (n : Nat) (f : Nat → Int32) (m : Nat) (g : Nat → Int32) : Prop := (∃ k, k < n ∧ k < m ∧ (∀ j, j < k → f j = g j) ∧ f k < g k) ∨ (n < m ∧ ∀ j, j < n → f j = g j)
def bnd (n : Nat) (f : Nat → Int32) : Prop := ∀ j, j < n → ∃ a : Nat, a < 256 ∧ f j = nI a
theorem i32_subneg {a b : Nat} (ha : a < 2 ^ 30) (hb : b < 2 ^ 30) : nI a - nI b < 0 ↔ a < b := by
  constructor
  · intro h
    rcases Nat.lt_or_ge a b with q | q
    · exact q
    · rw [pk_sub q] at h; exact absurd h (nI_pos (by omega))
  · exact fun h => pk_sneg hb h
theorem lessR_ltN {n m : Nat} {f g : Nat → Int32} (hn : n < 2 ^ 30) (hm : m < 2 ^ 30) (hf : bnd n f) (hg : bnd m g) : lessR n f m g ↔ ltN n f m g := by
  constructor
  · rintro (⟨k, h1, h2, h3, h4, h5⟩ | ⟨h1, h2⟩)
    · obtain ⟨a, ha, ea⟩ := hf k h1
      obtain ⟨b, hb, eb⟩ := hg k h2
      rw [ea, eb] at h5
      exact Or.inl ⟨k, h1, h2, h3, by rw [ea, eb]; exact nI_lt ((i32_subneg (by omega) (by omega)).mp h5) (by omega)⟩
    · have h3 := (i32_subneg hn hm).mp h2
      exact Or.inr ⟨h3, fun j hj => h1 j hj (by omega)⟩
  · rintro (⟨k, h1, h2, h3, h4⟩ | ⟨h1, h2⟩)
    · obtain ⟨a, ha, ea⟩ := hf k h1
      obtain ⟨b, hb, eb⟩ := hg k h2
      rw [ea, eb] at h4
      have h5 := (nI_ltI (by omega) (by omega)).mp h4
      refine Or.inl ⟨k, h1, h2, h3, ?_, ?_⟩
      · rw [ea, eb]; exact fun h9 => by have := (nI_eq (by omega) (by omega)).mp h9; omega
      · rw [ea, eb]; exact pk_sneg (by omega) h5
    · exact Or.inr ⟨fun j hj _ => h2 j hj, (i32_subneg hn hm).mpr h1⟩
theorem same.symm {n m : Nat} {f g : Nat → Int32} (h : same n f m g) : same m g n f := ⟨h.1.symm, fun j hj => (h.2 j (by rw [h.1]; exact hj)).symm⟩
theorem same.trans {n m k : Nat} {f g h' : Nat → Int32} (h : same n f m g) (h2 : same m g k h') : same n f k h' := ⟨h.1.trans h2.1, fun j hj => (h.2 j hj).trans (h2.2 j (by rw [← h.1]; exact hj))⟩
theorem bnd.same {n m : Nat} {f g : Nat → Int32} (hf : bnd n f) (h : same n f m g) : bnd m g := fun j hj => by
  rw [← h.2 j (by rw [h.1]; exact hj)]; exact hf j (by rw [h.1]; exact hj)
theorem ltN_same {n m n' m' : Nat} {f g f' g' : Nat → Int32} (h1 : same n f n' f') (h2 : same m g m' g') (h : ltN n f m g) : ltN n' f' m' g' := by
  obtain ⟨rfl, h1⟩ := h1
  obtain ⟨rfl, h2⟩ := h2
  rcases h with ⟨k, a1, a2, a3, a4⟩ | ⟨a1, a2⟩
  · exact Or.inl ⟨k, a1, a2, fun j hj => by rw [← h1 j (by omega), ← h2 j (by omega)]; exact a3 j hj, by rw [← h1 k a1, ← h2 k a2]; exact a4⟩
  · exact Or.inr ⟨a1, fun j hj => by rw [← h1 j hj, ← h2 j (by omega)]; exact a2 j hj⟩
theorem ltN_trans {n m k : Nat} {f g h : Nat → Int32} (h1 : ltN n f m g) (h2 : ltN m g k h) : ltN n f k h := by
  rcases h1 with ⟨a, a1, a2, a3, a4⟩ | ⟨a1, a2⟩ <;> rcases h2 with ⟨b, b1, b2, b3, b4⟩ | ⟨b1, b2⟩
  · rcases Nat.lt_trichotomy a b with q | q | q
    · exact Or.inl ⟨a, a1, by omega, fun j hj => (a3 j hj).trans (b3 j (by omega)), by rw [← b3 a q]; exact a4⟩
    · subst q; exact Or.inl ⟨a, a1, b2, fun j hj => (a3 j hj).trans (b3 j hj), Int32.lt_trans a4 b4⟩
    · exact Or.inl ⟨b, by omega, b2, fun j hj => (a3 j (by omega)).trans (b3 j hj), by rw [a3 b q]; exact b4⟩
  · exact Or.inl ⟨a, a1, by omega, fun j hj => (a3 j hj).trans (b2 j (by omega)), by rw [← b2 a (by omega)]; exact a4⟩
  · rcases Nat.lt_or_ge b n with q | q
    · exact Or.inl ⟨b, q, b2, fun j hj => (a2 j (by omega)).trans (b3 j hj), by rw [a2 b q]; exact b4⟩
    · exact Or.inr ⟨by omega, fun j hj => (a2 j hj).trans (b3 j (by omega))⟩
  · exact Or.inr ⟨by omega, fun j hj => (a2 j hj).trans (b2 j (by omega))⟩
theorem ltN_tri {n m : Nat} {f g : Nat → Int32} (h1 : ¬ ltN n f m g) (h2 : ¬ same n f m g) : ltN m g n f := by
  by_cases h : ∃ k, k < n ∧ k < m ∧ f k ≠ g k
  · obtain ⟨k, ⟨a1, a2, a3⟩, a4⟩ := pk_least _ h
    have a5 : ∀ j, j < k → f j = g j := fun j hj => Decidable.not_not.mp (fun h9 => a4 j hj ⟨by omega, by omega, h9⟩)
    rcases Int32.lt_or_lt_of_ne a3 with q | q
    · exact absurd (Or.inl ⟨k, a1, a2, a5, q⟩) h1
    · exact Or.inl ⟨k, a2, a1, fun j hj => (a5 j hj).symm, q⟩
  · have a5 : ∀ j, j < n → j < m → f j = g j := fun j b1 b2 => Decidable.not_not.mp (fun h9 => h ⟨j, b1, b2, h9⟩)
    rcases Nat.lt_trichotomy n m with q | q | q
    · exact absurd (Or.inr ⟨q, fun j hj => a5 j hj (by omega)⟩) h1
    · exact absurd ⟨q, fun j hj => a5 j hj (by omega)⟩ h2
    · exact Or.inr ⟨q, fun j hj => (a5 j (by omega) hj).symm⟩
theorem isEnt.upk {ca : Nat → ClassId} {M M1 : mw_M} {a n k : Nat} {f g : Nat → Int32} {x x' : Int32} (h : isEnt ca M a n f k g x) (hk : ∀ (b : Nat) (e9 : va_E), M b = some e9 → (∀ fs, e9 ≠ .inr (2, fs)) → M1 b = some e9) (ha : M1 a = some (.inr (2, [.ref (a + 1), .ref (a + 3), .int (sumN g k), .int x']))) : isEnt ca M1 a n f k g x' :=
  ⟨ha, ⟨hk _ _ h.2.1.1 (by intro fs; simp), hk _ _ h.2.1.2.1 (by intro fs; simp), h.2.1.2.2⟩, ⟨hk _ _ h.2.2.1.1 (by intro fs; simp), hk _ _ h.2.2.1.2.1 (by intro fs; simp), h.2.2.1.2.2⟩, h.2.2.2⟩
/-- the places when one more is put in at pl -/
def sins (si : Nat → Nat) (pl i : Nat) : Nat → Nat := fun p => if p < pl then si p else if p = pl then i else si (p - 1)
theorem sins_lo {si : Nat → Nat} {pl i p : Nat} (h : p < pl) : sins si pl i p = si p := if_pos h
theorem sins_eq {si : Nat → Nat} {pl i : Nat} : sins si pl i pl = i := by simp [sins]
theorem sins_hi {si : Nat → Nat} {pl i p : Nat} (h : pl ≤ p) : sins si pl i (p + 1) = si p := by
  have h1 : ¬ p + 1 < pl := by omega
  have h2 : ¬ p + 1 = pl := by omega
  simp [sins, h1, h2]
theorem w_Coming_toVersion0_0 : ∀ w ∈ u_ws RX0 TX0 4, w ∈ wsX0_toVersion := by decide +kernel
theorem w_Coming_toVersion0_1 : Cond.fieldLink RX0 17 "PackageRows2$Coming" "entryCount" "I" ∈ wsX0_toVersion := by decide +kernel
theorem w_Coming_toVersion0_2 : Cond.fieldLink RX0 11 "PackageRows2$Coming" "entries" "[LPackageRows2$Entry;" ∈ wsX0_toVersion := by decide +kernel
theorem w_Coming_toVersion0_3 : ∀ w ∈ u_ws RX7 TX7 2, w ∈ wsX0_toVersion := by decide +kernel
theorem w_Coming_toVersion0_4 : Cond.classLink RX0 95 RX7 ∈ wsX0_toVersion := by decide +kernel
theorem w_Coming_toVersion0_5 : Cond.instantiable RX7 2 ∈ wsX0_toVersion := by decide +kernel
theorem w_Coming_toVersion0_6 : Cond.initialized RX7 ∈ wsX0_toVersion := by decide +kernel
theorem w_Coming_toVersion0_7 : Cond.initialized yX7_init.cls ∈ wsX0_toVersion := by decide +kernel
theorem w_Coming_toVersion0_8 : Cond.methodLink RX0 97 yX7_init ∈ wsX0_toVersion := by decide +kernel
theorem w_Coming_toVersion0_9 : Cond.instanceMethod yX7_init ∈ wsX0_toVersion := by decide +kernel
set_option maxHeartbeats 4000000 in
set_option maxRecDepth 100000 in
theorem lp_Coming_toVersion0_11 {l : Launch} {D : va_G} {ca : Nat → ClassId} (M : mw_M) (sz q ec lc : Nat) (ce xl : Nat → Option Nat) (E en ek : Nat → Nat) (ef eg : Nat → Nat → Int32) (ev : Nat → Int32) (x : Int32) (G pn pk : Nat → Nat) (pf pg : Nat → Nat → Int32) (pv : Nat → Int32) (ow : Nat → Prop) (hq : M q = some (.inr (1, [.ref (q + 1), .int (nI ec), .ref (q + 2), .int (nI lc)]))) (hqe : M (q + 1) = some (.inl (ca 3, 12, .inr (.inr (.inr (.inr ce)))))) (hql : M (q + 2) = some (.inl (ca 4, 12, .inr (.inr (.inr (.inr xl)))))) (hec : ec ≤ 12) (hlc : lc ≤ 12) (he : ∀ i, i < ec → ce i = some (E i)) (hent : ∀ i, i < ec → isEnt ca M (E i) (en i) (ef i) (ek i) (eg i) (ev i)) (hec8 : ec ≤ 8) (hdE : ∀ i j, i < ec → j < ec → E i = E j → i = j) (hdn : ∀ i j, i < ec → j < ec → i ≠ j → ¬ same (en i) (ef i) (en j) (ef j)) (hbn : ∀ i, i < ec → bnd (en i) (ef i)) (hpk : ∀ j, j < ec → (ow j ∧ G j = E j ∧ pn j = en j ∧ pf j = ef j ∧ pk j = ek j ∧ pg j = eg j ∧ pv j = x)) {p : Program} {e : Env} {s : State} {m : MethodId} {below : List Frame} {meth : Method} {c : Code} (X : mw_X p s m ([.ref q, .int x, .null] : List Value).toArray meth c cX0_toVersion 5 yX0_toVersion.cls wsX0_toVersion D vwCl (mt ca)) (hr0 : meth.sig.returnType = (some (.object "PackageRows2$Version"))) (hnm : meth.name = yX0_toVersion.name) (hlt : ∀ (a : Nat) (x : va_E), M a = some x → a < sz) : ∀ (fu : Nat) (i : Nat) (M1 : mw_M) (ve1 : Nat → Option Nat) (si : Nat → Nat), i ≤ ec → ec < i + fu → (∀ b, b < sz → (∀ j, j < i → ow j → b ≠ E j) → M1 b = M b) → (∀ j, j < i → ow j → M1 (E j) = some (.inr (2, [.ref (E j + 1), .ref (E j + 3), .int (sumN (eg j) (ek j)), .int x]))) → M1 sz = some (.inr (7, [.ref (sz + 1), .int (nI i)])) → M1 (sz + 1) = some (.inl (ca 3, 8, .inr (.inr (.inr (.inr ve1))))) → (∀ p, p < i → si p < i ∧ ve1 p = some (G (si p))) → (∀ p p', p < i → p' < i → si p = si p' → p = p') → (∀ p p', p < p' → p' < i → ltN (en (si p)) (ef (si p)) (en (si p')) (ef (si p'))) → mw_J p l e { frames := 5, cells := 2, slots := 10, locals := 112 } s m ([.ref q, .int x, .null] : List Value).toArray below meth c 5 D vwCl (mw_A M sz) (MQ below (mw_Q D vwCl M sz (mq_q (fun o M' sz' => o = some sz ∧ sz' = sz + 2 ∧ ∃ (ve' : Nat → Option Nat) (si' : Nat → Nat), (∀ b, b < sz → (∀ j, j < ec → ow j → b ≠ E j) → M' b = M b) ∧ (∀ j, j < ec → ow j → M' (E j) = some (.inr (2, [.ref (E j + 1), .ref (E j + 3), .int (sumN (eg j) (ek j)), .int x]))) ∧ M' sz = some (.inr (7, [.ref (sz + 1), .int (nI ec)])) ∧ M' (sz + 1) = some (.inl (ca 3, 8, .inr (.inr (.inr (.inr ve'))))) ∧ (∀ p, p < ec → si' p < ec ∧ ve' p = some (G (si' p))) ∧ (∀ p p', p < ec → p' < ec → si' p = si' p' → p = p') ∧ (∀ p p', p < p' → p' < ec → ltN (en (si' p)) (ef (si' p)) (en (si' p')) (ef (si' p')))))) ([.ref q, .int x, .null] : List Value).toArray s 2 10 (mw_A M sz)) 11 [(0, .ref q), (1, .int x), (2, .null), (3, .ref sz), (4, .int (nI i))] [] M1 (sz + 2) 2 10 := by
  intro fu
  induction fu with
  | zero => intro i M1 ve1 si h1 h2; omega
  | succ fu ih =>
    intro i M1 ve1 si hi hfu hA hB hC hC2 hve hinj hso
    have hk : ∀ (b : Nat) (e9 : va_E), M b = some e9 → (∀ fs, e9 ≠ .inr (2, fs)) → M1 b = some e9 := fun b e9 h1 h2 => (hA b (hlt _ _ h1) (fun j hj _ => mw_ne h1 (hent j (by omega)).1 (h2 _))).trans h1
    have hq1 := hk _ _ hq (by intro fs; simp)
    have hqe1 := hk _ _ hqe (by intro fs; simp)
    have hEz : ∀ j, j < ec → E j < sz := fun j hj => hlt _ _ (hent j hj).1
    refine mj_iload X dX0_toVersion_11 4 rfl ?_
    refine mj_aload_n X dX0_toVersion_13 rfl 0 rfl ?_
    refine mj_get X (C := RX0) (T := TX0) (N := 4) (ci := 1) w_Coming_toVersion0_0 rfl 1 (by decide) w_Coming_toVersion0_1 hq1 rfl dX0_toVersion_14 ?_
    refine mj_icmp_ge X 42 dX0_toVersion_17 (by decide) (fun c17 => ?_) (fun c17 => ?_)
    · refine mj_aload_n X dX0_toVersion_42 rfl 3 rfl ?_
      refine mj_aret X (Or.inr ⟨_, rfl⟩) hr0 (by decide) (by decide) dX0_toVersion_43 ?_
      have e9 : i = ec := by have h9 := (nI_leI (by omega) (by omega)).mp c17; omega
      subst e9
      exact ⟨some sz, rfl, rfl, rfl, ve1, si, hA, hB, hC, hC2, hve, hinj, hso⟩
    · have hlti : i < ec := Nat.not_le.mp (fun h9 => c17 (nI_le h9 (by omega)))
      have hEi : isEnt ca M1 (E i) (en i) (ef i) (ek i) (eg i) (ev i) := (hent i hlti).upk hk ((hA (E i) (hEz i hlti) (fun j hj _ e9 => absurd (hdE i j hlti (by omega) e9) (by omega))).trans (hent i hlti).1)
      refine mj_aload_n X dX0_toVersion_20 rfl 3 rfl ?_
      refine mj_aload_n X dX0_toVersion_21 rfl 0 rfl ?_
      refine mj_get X (C := RX0) (T := TX0) (N := 4) (ci := 1) w_Coming_toVersion0_0 rfl 0 (by decide) w_Coming_toVersion0_2 hq1 rfl dX0_toVersion_22 ?_
      refine mj_iload X dX0_toVersion_25 4 rfl ?_
      refine mj_aald X 3 (ce i) rfl hqe1 (vp_in_nI (by omega) (by omega)) (by rw [nI_clamp (by omega)]) dX0_toVersion_27 ?_
      refine mj_top' (.ref (E i)) (by rw [he i hlti]; rfl) ?_
      refine mj_iload_n X dX0_toVersion_28 rfl 1 rfl ?_
      refine mj_aload_nN X dX0_toVersion_29 rfl 2 rfl ?_
      refine mj_callS X 3 gX0_toVersion_X0_sharedOrNew rfl (by decide +kernel) ⟨by decide, by decide⟩ (c_Coming_sharedOrNew0 l D ca M1 (sz + 2) (E i) (en i) (ek i) (ef i) (eg i) (ev i) x hEi) rfl rfl (Nat.le_of_ble_eq_true rfl) dX0_toVersion_30 ⟨by decide, by decide⟩ (mk_q (fun o9 M9 sz9 h9 => ?_))
      obtain ⟨ho9, hM9, hown9, hno9, hs9⟩ : o9 = some (G i) ∧ (∀ b, b ≠ E i → M9 b = M1 b) ∧ (ow i → M9 (E i) = some (.inr (2, [.ref (E i + 1), .ref (E i + 3), .int (sumN (eg i) (ek i)), .int x]))) ∧ (¬ ow i → M9 = M1) ∧ sz9 = sz + 2 := by
        obtain ⟨h2, h3, e9⟩ := h9
        obtain ⟨g1, g2, -⟩ := hpk i hlti
        subst h3; exact ⟨by rw [h2, g2], fun b hb => mw_un hb, fun _ => mw_us, fun h => absurd g1 h, e9⟩
      subst ho9
      refine mj_top' (.ref (G i)) rfl ?_
      refine mj_to rfl rfl rfl (sz' := sz + 2) hs9 ?_
      have hk9 : ∀ (b : Nat) (e9 : va_E), M b = some e9 → (∀ fs, e9 ≠ .inr (2, fs)) → M9 b = some e9 := fun b e9 h1 h2 => (hM9 b (mw_ne h1 (hent i hlti).1 (h2 _))).trans (hk b e9 h1 h2)
      have hC9 := (hM9 sz (by have := hEz i hlti; omega)).trans hC
      have hC92 := (hM9 (sz + 1) (by have := hEz i hlti; omega)).trans hC2
      have hent9 : ∀ j, j < i + 1 → isEnt ca M9 (G j) (pn j) (pf j) (pk j) (pg j) (pv j) := by
        intro j hj
        obtain ⟨g1, g2, g3, g4, g5, g6, g7⟩ := hpk j (by omega)
        rw [g2, g3, g4, g5, g6, g7]
        refine (hent j (by omega)).upk hk9 ?_
        rcases Nat.lt_or_ge j i with q9 | q9
        · exact (hM9 (E j) (fun e9 => absurd (hdE j i (by omega) hlti e9) (by omega))).trans (hB j q9 g1)
        · have e8 : j = i := by omega
          subst e8; exact hown9 g1
      have hG9 := hent9 i (by omega)
      refine mj_callV X 1 gX0_toVersion_X7_insert rfl (by decide +kernel) ⟨by decide, by decide⟩ (c_Version_insert l D ca M9 (sz + 2) sz i ve1 (fun p => G (si p)) (fun p => pn (si p)) (fun p => pk (si p)) (fun p => pf (si p)) (fun p => pg (si p)) (fun p => pv (si p)) (G i) (pn i) (pk i) (pf i) (pg i) (pv i) hC9 hC92 (by omega) (fun p hp => (hve p hp).2) (fun p hp => hent9 (si p) (by have := (hve p hp).1; omega)) hG9) rfl hC9 rfl rfl (Nat.le_of_ble_eq_true rfl) dX0_toVersion_33 ⟨by decide, by decide⟩ (mk_v (fun M10 sz10 h10 => ?_))
      obtain ⟨h10, e10⟩ := h10
      rcases h10 with ⟨h10, -⟩ | ⟨-, pl, ve2, hpl, hv1, hv2, hv3, hv4, hv5, hM10⟩
      · omega
      refine mj_to rfl rfl rfl (sz' := sz + 2) e10 ?_
      refine mj_iinc X [(4, .int (nI (i + 1))), (0, .ref q), (1, .int x), (2, .null), (3, .ref sz)] dX0_toVersion_36 4 rfl (nI_1 i) (by decide) rfl ?_
      refine mj_goto X 11 dX0_toVersion_39 (by decide) ?_
      refine mj_sub [1, 2, 3, 4, 0] rfl ?_
      have hps : ∀ j, j < ec → same (pn j) (pf j) (en j) (ef j) := fun j hj => by rw [(hpk j hj).2.2.1, (hpk j hj).2.2.2.1]; exact same_rf _ _
      have hb24 : ∀ j, j < ec → pn j < 2 ^ 30 := fun j hj => by rw [(hps j hj).1]; have := (hent j hj).2.2.2.1; omega
      have hlq : ∀ a b, a < ec → b < ec → (lessR (pn a) (pf a) (pn b) (pf b) ↔ ltN (en a) (ef a) (en b) (ef b)) := fun a b h1 h2 => (lessR_ltN (hb24 a h1) (hb24 b h2) ((hbn a h1).same (hps a h1).symm) ((hbn b h2).same (hps b h2).symm)).trans ⟨ltN_same (hps a h1) (hps b h2), ltN_same (hps a h1).symm (hps b h2).symm⟩
      have hsi : ∀ p, p < i → si p < i := fun p hp => (hve p hp).1
      have hlow : ∀ p, p < pl → ltN (en (si p)) (ef (si p)) (en i) (ef i) := by
        intro p hp
        obtain ⟨t, rfl⟩ : ∃ t, pl = t + 1 := ⟨pl - 1, by omega⟩
        have a1 : ltN (en (si t)) (ef (si t)) (en i) (ef i) := ltN_tri (fun h9 => hv5 t rfl ((hlq i (si t) hlti (by have := hsi t (by omega); omega)).mpr h9)) (hdn i (si t) hlti (by have := hsi t (by omega); omega) (by have := hsi t (by omega); omega))
        rcases Nat.lt_or_ge p t with q9 | q9
        · exact ltN_trans (hso p t q9 (by omega)) a1
        · rw [show p = t by omega]; exact a1
      have hhigh : ∀ p, pl ≤ p → p < i → ltN (en i) (ef i) (en (si p)) (ef (si p)) := fun p h1 h2 => (hlq i (si p) hlti (by have := hsi p h2; omega)).mp (hv4 p h1 h2)
      refine mj_widen 2 10 (by decide) (by decide) ?_
      refine ih (i + 1) M10 ve2 (sins si pl i) hlti (by omega) (fun b hb hn => ?_) (fun j hj ho => ?_) ?_ ?_ (fun p hp => ?_) (fun p p' hp hp' he9 => ?_) (fun p p' h1 h2 => ?_)
      · rw [hM10, mw_un (by omega), mw_un (by omega)]
        by_cases ho : ow i
        · rw [hM9 b (hn i (by omega) ho)]; exact hA b hb (fun j hj => hn j (by omega))
        · rw [hno9 ho]; exact hA b hb (fun j hj => hn j (by omega))
      · have hjz := hEz j (by omega)
        rw [hM10, mw_un (by omega), mw_un (by omega)]
        rcases Nat.lt_or_ge j i with q9 | q9
        · exact (hM9 (E j) (fun e9 => absurd (hdE j i (by omega) hlti e9) (by omega))).trans (hB j q9 ho)
        · have e8 : j = i := by omega
          subst e8; exact hown9 ho
      · rw [hM10, mw_us]
      · rw [hM10, mw_un (by omega), mw_us]
      · rcases Nat.lt_trichotomy p pl with q9 | q9 | q9
        · rw [sins_lo q9, hv1 p q9]; exact ⟨by have := hsi p (by omega); omega, (hve p (by omega)).2⟩
        · subst q9; rw [sins_eq]; exact ⟨by omega, hv2⟩
        · obtain ⟨t, rfl⟩ : ∃ t, p = t + 1 := ⟨p - 1, by omega⟩
          rw [sins_hi (by omega), hv3 t (by omega) (by omega)]; exact ⟨by have := hsi t (by omega); omega, (hve t (by omega)).2⟩
      · rcases Nat.lt_trichotomy p pl with q1 | q1 | q1 <;> rcases Nat.lt_trichotomy p' pl with q2 | q2 | q2
        · rw [sins_lo q1, sins_lo q2] at he9; exact hinj _ _ (by omega) (by omega) he9
        · rw [sins_lo q1, q2, sins_eq] at he9; have := hsi p (by omega); omega
        · obtain ⟨t, rfl⟩ : ∃ t, p' = t + 1 := ⟨p' - 1, by omega⟩
          rw [sins_lo q1, sins_hi (by omega)] at he9; have := hinj _ _ (by omega) (by omega) he9; omega
        · rw [q1, sins_eq, sins_lo q2] at he9; have := hsi p' (by omega); omega
        · omega
        · obtain ⟨t, rfl⟩ : ∃ t, p' = t + 1 := ⟨p' - 1, by omega⟩
          rw [q1, sins_eq, sins_hi (by omega)] at he9; have := hsi t (by omega); omega
        · obtain ⟨t, rfl⟩ : ∃ t, p = t + 1 := ⟨p - 1, by omega⟩
          rw [sins_hi (by omega), sins_lo q2] at he9; have := hinj _ _ (by omega) (by omega) he9; omega
        · obtain ⟨t, rfl⟩ : ∃ t, p = t + 1 := ⟨p - 1, by omega⟩
          rw [sins_hi (by omega), q2, sins_eq] at he9; have := hsi t (by omega); omega
        · obtain ⟨t, rfl⟩ : ∃ t, p = t + 1 := ⟨p - 1, by omega⟩
          obtain ⟨t', rfl⟩ : ∃ t', p' = t' + 1 := ⟨p' - 1, by omega⟩
          rw [sins_hi (by omega), sins_hi (by omega)] at he9; have := hinj _ _ (by omega) (by omega) he9; omega
      · rcases Nat.lt_trichotomy p pl with q1 | q1 | q1 <;> rcases Nat.lt_trichotomy p' pl with q2 | q2 | q2
        · rw [sins_lo q1, sins_lo q2]; exact hso p p' h1 (by omega)
        · rw [sins_lo q1, q2, sins_eq]; exact hlow p q1
        · obtain ⟨t, rfl⟩ : ∃ t, p' = t + 1 := ⟨p' - 1, by omega⟩
          rw [sins_lo q1, sins_hi (by omega)]; exact hso p t (by omega) (by omega)
        · omega
        · omega
        · obtain ⟨t, rfl⟩ : ∃ t, p' = t + 1 := ⟨p' - 1, by omega⟩
          rw [q1, sins_eq, sins_hi (by omega)]; exact hhigh t (by omega) (by omega)
        · omega
        · omega
        · obtain ⟨t, rfl⟩ : ∃ t, p = t + 1 := ⟨p - 1, by omega⟩
          obtain ⟨t', rfl⟩ : ∃ t', p' = t' + 1 := ⟨p' - 1, by omega⟩
          rw [sins_hi (by omega), sins_hi (by omega)]; exact hso t t' (by omega) (by omega)
set_option maxHeartbeats 4000000 in
set_option maxRecDepth 100000 in
/--  -/
theorem c_Coming_toVersion0 (l : Launch) (D : va_G) (ca : Nat → ClassId) (M : mw_M) (sz q ec lc : Nat) (ce xl : Nat → Option Nat) (E en ek : Nat → Nat) (ef eg : Nat → Nat → Int32) (ev : Nat → Int32) (x : Int32) (G pn pk : Nat → Nat) (pf pg : Nat → Nat → Int32) (pv : Nat → Int32) (ow : Nat → Prop) (hq : M q = some (.inr (1, [.ref (q + 1), .int (nI ec), .ref (q + 2), .int (nI lc)]))) (hqe : M (q + 1) = some (.inl (ca 3, 12, .inr (.inr (.inr (.inr ce)))))) (hql : M (q + 2) = some (.inl (ca 4, 12, .inr (.inr (.inr (.inr xl)))))) (hec : ec ≤ 12) (hlc : lc ≤ 12) (he : ∀ i, i < ec → ce i = some (E i)) (hent : ∀ i, i < ec → isEnt ca M (E i) (en i) (ef i) (ek i) (eg i) (ev i)) (hec8 : ec ≤ 8) (hdE : ∀ i j, i < ec → j < ec → E i = E j → i = j) (hdn : ∀ i j, i < ec → j < ec → i ≠ j → ¬ same (en i) (ef i) (en j) (ef j)) (hbn : ∀ i, i < ec → bnd (en i) (ef i)) (hpk : ∀ j, j < ec → (ow j ∧ G j = E j ∧ pn j = en j ∧ pf j = ef j ∧ pk j = ek j ∧ pg j = eg j ∧ pv j = x)) : mw_C wsX0_toVersion l yX0_toVersion { frames := 5, cells := 2, slots := 10, locals := 112 } D vwCl (mt ca) [.ref q, .int x, .null] M sz (mq_q (fun o M' sz' => o = some sz ∧ sz' = sz + 2 ∧ ∃ (ve' : Nat → Option Nat) (si' : Nat → Nat), (∀ b, b < sz → (∀ j, j < ec → ow j → b ≠ E j) → M' b = M b) ∧ (∀ j, j < ec → ow j → M' (E j) = some (.inr (2, [.ref (E j + 1), .ref (E j + 3), .int (sumN (eg j) (ek j)), .int x]))) ∧ M' sz = some (.inr (7, [.ref (sz + 1), .int (nI ec)])) ∧ M' (sz + 1) = some (.inl (ca 3, 8, .inr (.inr (.inr (.inr ve'))))) ∧ (∀ p, p < ec → si' p < ec ∧ ve' p = some (G (si' p))) ∧ (∀ p p', p < ec → p' < ec → si' p = si' p' → p = p') ∧ (∀ p p', p < p' → p' < ec → ltN (en (si' p)) (ef (si' p)) (en (si' p')) (ef (si' p'))))) := by
  refine mw_enter (cc := cX0_toVersion) (maxL := 5) (ret := (some (.object "PackageRows2$Version"))) rfl (by decide) (Nat.le_of_ble_eq_true rfl) ?_
  intro p e s m below meth c X hr0 hnm hlt
  have hl1 := hlt _ _ hq
  have hl2 := hlt _ _ hqe
  refine mj_new X (C := RX7) (T := TX7) (N := 2) (ci := 7) [.null, .int 0] tyX7 w_Coming_toVersion0_3 tyX7_ok rfl (by intro j hj; rcases (show j = 0 ∨ j = 1 by omega) with rfl | rfl <;> rfl) w_Coming_toVersion0_4 w_Coming_toVersion0_5 w_Coming_toVersion0_6 (by decide) (by decide) dX0_toVersion_0 ?_
  refine mj_dup X dX0_toVersion_3 rfl ?_
  have f1_ := mw_us (M := M) (a := sz) (e := (.inr (7, [.null, .int 0])))
  refine mj_callI X 0 gX0_toVersion_X7_init rfl rfl w_Coming_toVersion0_7 w_Coming_toVersion0_8 w_Coming_toVersion0_9 (by decide +kernel) ⟨by decide, by decide⟩ (c_Version_init l D ca _ sz f1_) rfl rfl (Nat.le_of_ble_eq_true rfl) dX0_toVersion_4 ⟨by decide, by decide⟩ (mk_v (fun M9 sz9 h9 => ?_))
  obtain ⟨h9, e9⟩ := h9
  refine mj_to rfl rfl rfl (sz' := sz + 2) e9 ?_
  refine mj_astore_n X [(3, .ref sz), (0, .ref q), (1, .int x), (2, .null)] dX0_toVersion_7 rfl (by decide) rfl ?_
  refine mj_iconst X (v := 0) dX0_toVersion_8 (by decide +kernel) ?_
  refine mj_istore X [(4, .int 0), (3, .ref sz), (0, .ref q), (1, .int x), (2, .null)] dX0_toVersion_9 (by decide) rfl ?_
  refine mj_sub [2, 3, 4, 1, 0] rfl ?_
  refine mj_widen 2 10 (by decide) (by decide) ?_
  rw [← nI_0]
  refine lp_Coming_toVersion0_11 (l := l) (D := D) (ca := ca) M sz q ec lc ce xl E en ek ef eg ev x G pn pk pf pg pv ow hq hqe hql hec hlc he hent hec8 hdE hdn hbn hpk X hr0 hnm hlt (ec + 1) 0 M9 (fun _ => none) (fun p => p) (by omega) (by omega) (fun b hb _ => ?_) (fun j hj => absurd hj (by omega)) ?_ ?_ (fun p hp => absurd hp (by omega)) (fun p p' hp => absurd hp (by omega)) (fun p p' h1 h2 => absurd h2 (by omega))
  · rw [h9, mw_un (by omega), mw_un (by omega), mw_un (by omega)]
  · rw [h9, mw_us]
  · rw [h9, mw_un (by omega), mw_us]

theorem w_Coming_toVersion1_0 : ∀ w ∈ u_ws RX0 TX0 4, w ∈ wsX0_toVersion := by decide +kernel
theorem w_Coming_toVersion1_1 : Cond.fieldLink RX0 17 "PackageRows2$Coming" "entryCount" "I" ∈ wsX0_toVersion := by decide +kernel
theorem w_Coming_toVersion1_2 : Cond.fieldLink RX0 11 "PackageRows2$Coming" "entries" "[LPackageRows2$Entry;" ∈ wsX0_toVersion := by decide +kernel
theorem w_Coming_toVersion1_3 : ∀ w ∈ u_ws RX7 TX7 2, w ∈ wsX0_toVersion := by decide +kernel
theorem w_Coming_toVersion1_4 : Cond.classLink RX0 95 RX7 ∈ wsX0_toVersion := by decide +kernel
theorem w_Coming_toVersion1_5 : Cond.instantiable RX7 2 ∈ wsX0_toVersion := by decide +kernel
theorem w_Coming_toVersion1_6 : Cond.initialized RX7 ∈ wsX0_toVersion := by decide +kernel
theorem w_Coming_toVersion1_7 : Cond.initialized yX7_init.cls ∈ wsX0_toVersion := by decide +kernel
theorem w_Coming_toVersion1_8 : Cond.methodLink RX0 97 yX7_init ∈ wsX0_toVersion := by decide +kernel
theorem w_Coming_toVersion1_9 : Cond.instanceMethod yX7_init ∈ wsX0_toVersion := by decide +kernel
set_option maxHeartbeats 4000000 in
set_option maxRecDepth 100000 in
theorem lp_Coming_toVersion1_11 {l : Launch} {D : va_G} {ca : Nat → ClassId} (M : mw_M) (sz q ec lc : Nat) (ce xl : Nat → Option Nat) (E en ek : Nat → Nat) (ef eg : Nat → Nat → Int32) (ev : Nat → Int32) (w wc : Nat) (we : Nat → Option Nat) (F fn fk : Nat → Nat) (ff fg : Nat → Nat → Int32) (fv : Nat → Int32) (x : Int32) (G pn pk : Nat → Nat) (pf pg : Nat → Nat → Int32) (pv : Nat → Int32) (ow : Nat → Prop) (hq : M q = some (.inr (1, [.ref (q + 1), .int (nI ec), .ref (q + 2), .int (nI lc)]))) (hqe : M (q + 1) = some (.inl (ca 3, 12, .inr (.inr (.inr (.inr ce)))))) (hql : M (q + 2) = some (.inl (ca 4, 12, .inr (.inr (.inr (.inr xl)))))) (hec : ec ≤ 12) (hlc : lc ≤ 12) (he : ∀ i, i < ec → ce i = some (E i)) (hent : ∀ i, i < ec → isEnt ca M (E i) (en i) (ef i) (ek i) (eg i) (ev i)) (hw : M w = some (.inr (7, [.ref (w + 1), .int (nI wc)]))) (hwa : M (w + 1) = some (.inl (ca 3, 8, .inr (.inr (.inr (.inr we)))))) (hwc : wc ≤ 8) (hwe : ∀ i, i < wc → we i = some (F i)) (hwent : ∀ i, i < wc → isEnt ca M (F i) (fn i) (ff i) (fk i) (fg i) (fv i)) (hFE : ∀ i2 j, i2 < wc → j < ec → F i2 ≠ E j) (hec8 : ec ≤ 8) (hdE : ∀ i j, i < ec → j < ec → E i = E j → i = j) (hdn : ∀ i j, i < ec → j < ec → i ≠ j → ¬ same (en i) (ef i) (en j) (ef j)) (hbn : ∀ i, i < ec → bnd (en i) (ef i)) (hpk : ∀ j, j < ec → (ow j ∧ G j = E j ∧ pn j = en j ∧ pf j = ef j ∧ pk j = ek j ∧ pg j = eg j ∧ pv j = x ∧ ∀ i2, ¬ shr wc fn fk ff fg (en j) (ef j) (ek j) (eg j) i2) ∨ (¬ ow j ∧ ∃ i2, shr wc fn fk ff fg (en j) (ef j) (ek j) (eg j) i2 ∧ G j = F i2 ∧ pn j = fn i2 ∧ pf j = ff i2 ∧ pk j = fk i2 ∧ pg j = fg i2 ∧ pv j = fv i2)) {p : Program} {e : Env} {s : State} {m : MethodId} {below : List Frame} {meth : Method} {c : Code} (X : mw_X p s m ([.ref q, .int x, .ref w] : List Value).toArray meth c cX0_toVersion 5 yX0_toVersion.cls wsX0_toVersion D vwCl (mt ca)) (hr0 : meth.sig.returnType = (some (.object "PackageRows2$Version"))) (hnm : meth.name = yX0_toVersion.name) (hlt : ∀ (a : Nat) (x : va_E), M a = some x → a < sz) : ∀ (fu : Nat) (i : Nat) (M1 : mw_M) (ve1 : Nat → Option Nat) (si : Nat → Nat), i ≤ ec → ec < i + fu → (∀ b, b < sz → (∀ j, j < i → ow j → b ≠ E j) → M1 b = M b) → (∀ j, j < i → ow j → M1 (E j) = some (.inr (2, [.ref (E j + 1), .ref (E j + 3), .int (sumN (eg j) (ek j)), .int x]))) → M1 sz = some (.inr (7, [.ref (sz + 1), .int (nI i)])) → M1 (sz + 1) = some (.inl (ca 3, 8, .inr (.inr (.inr (.inr ve1))))) → (∀ p, p < i → si p < i ∧ ve1 p = some (G (si p))) → (∀ p p', p < i → p' < i → si p = si p' → p = p') → (∀ p p', p < p' → p' < i → ltN (en (si p)) (ef (si p)) (en (si p')) (ef (si p'))) → mw_J p l e { frames := 5, cells := 2, slots := 10, locals := 112 } s m ([.ref q, .int x, .ref w] : List Value).toArray below meth c 5 D vwCl (mw_A M sz) (MQ below (mw_Q D vwCl M sz (mq_q (fun o M' sz' => o = some sz ∧ sz' = sz + 2 ∧ ∃ (ve' : Nat → Option Nat) (si' : Nat → Nat), (∀ b, b < sz → (∀ j, j < ec → ow j → b ≠ E j) → M' b = M b) ∧ (∀ j, j < ec → ow j → M' (E j) = some (.inr (2, [.ref (E j + 1), .ref (E j + 3), .int (sumN (eg j) (ek j)), .int x]))) ∧ M' sz = some (.inr (7, [.ref (sz + 1), .int (nI ec)])) ∧ M' (sz + 1) = some (.inl (ca 3, 8, .inr (.inr (.inr (.inr ve'))))) ∧ (∀ p, p < ec → si' p < ec ∧ ve' p = some (G (si' p))) ∧ (∀ p p', p < ec → p' < ec → si' p = si' p' → p = p') ∧ (∀ p p', p < p' → p' < ec → ltN (en (si' p)) (ef (si' p)) (en (si' p')) (ef (si' p')))))) ([.ref q, .int x, .ref w] : List Value).toArray s 2 10 (mw_A M sz)) 11 [(0, .ref q), (1, .int x), (2, .ref w), (3, .ref sz), (4, .int (nI i))] [] M1 (sz + 2) 2 10 := by
  intro fu
  induction fu with
  | zero => intro i M1 ve1 si h1 h2; omega
  | succ fu ih =>
    intro i M1 ve1 si hi hfu hA hB hC hC2 hve hinj hso
    have hk : ∀ (b : Nat) (e9 : va_E), M b = some e9 → (∀ fs, e9 ≠ .inr (2, fs)) → M1 b = some e9 := fun b e9 h1 h2 => (hA b (hlt _ _ h1) (fun j hj _ => mw_ne h1 (hent j (by omega)).1 (h2 _))).trans h1
    have hq1 := hk _ _ hq (by intro fs; simp)
    have hqe1 := hk _ _ hqe (by intro fs; simp)
    have hEz : ∀ j, j < ec → E j < sz := fun j hj => hlt _ _ (hent j hj).1
    refine mj_iload X dX0_toVersion_11 4 rfl ?_
    refine mj_aload_n X dX0_toVersion_13 rfl 0 rfl ?_
    refine mj_get X (C := RX0) (T := TX0) (N := 4) (ci := 1) w_Coming_toVersion1_0 rfl 1 (by decide) w_Coming_toVersion1_1 hq1 rfl dX0_toVersion_14 ?_
    refine mj_icmp_ge X 42 dX0_toVersion_17 (by decide) (fun c17 => ?_) (fun c17 => ?_)
    · refine mj_aload_n X dX0_toVersion_42 rfl 3 rfl ?_
      refine mj_aret X (Or.inr ⟨_, rfl⟩) hr0 (by decide) (by decide) dX0_toVersion_43 ?_
      have e9 : i = ec := by have h9 := (nI_leI (by omega) (by omega)).mp c17; omega
      subst e9
      exact ⟨some sz, rfl, rfl, rfl, ve1, si, hA, hB, hC, hC2, hve, hinj, hso⟩
    · have hlti : i < ec := Nat.not_le.mp (fun h9 => c17 (nI_le h9 (by omega)))
      have hEi : isEnt ca M1 (E i) (en i) (ef i) (ek i) (eg i) (ev i) := (hent i hlti).upk hk ((hA (E i) (hEz i hlti) (fun j hj _ e9 => absurd (hdE i j hlti (by omega) e9) (by omega))).trans (hent i hlti).1)
      have hw1 := hk _ _ hw (by intro fs; simp)
      have hwa1 := hk _ _ hwa (by intro fs; simp)
      have hwent1 : ∀ i2, i2 < wc → isEnt ca M1 (F i2) (fn i2) (ff i2) (fk i2) (fg i2) (fv i2) := fun i2 h2 => (hwent i2 h2).upk hk ((hA (F i2) (hlt _ _ (hwent i2 h2).1) (fun j hj _ => hFE i2 j h2 (by omega))).trans (hwent i2 h2).1)
      refine mj_aload_n X dX0_toVersion_20 rfl 3 rfl ?_
      refine mj_aload_n X dX0_toVersion_21 rfl 0 rfl ?_
      refine mj_get X (C := RX0) (T := TX0) (N := 4) (ci := 1) w_Coming_toVersion1_0 rfl 0 (by decide) w_Coming_toVersion1_2 hq1 rfl dX0_toVersion_22 ?_
      refine mj_iload X dX0_toVersion_25 4 rfl ?_
      refine mj_aald X 3 (ce i) rfl hqe1 (vp_in_nI (by omega) (by omega)) (by rw [nI_clamp (by omega)]) dX0_toVersion_27 ?_
      refine mj_top' (.ref (E i)) (by rw [he i hlti]; rfl) ?_
      refine mj_iload_n X dX0_toVersion_28 rfl 1 rfl ?_
      refine mj_aload_n X dX0_toVersion_29 rfl 2 rfl ?_
      refine mj_callS X 3 gX0_toVersion_X0_sharedOrNew rfl (by decide +kernel) ⟨by decide, by decide⟩ (c_Coming_sharedOrNew1 l D ca M1 (sz + 2) (E i) (en i) (ek i) (ef i) (eg i) (ev i) x w wc we F fn fk ff fg fv hEi hw1 hwa1 hwc hwe hwent1) rfl rfl (Nat.le_of_ble_eq_true rfl) dX0_toVersion_30 ⟨by decide, by decide⟩ (mk_q (fun o9 M9 sz9 h9 => ?_))
      obtain ⟨ho9, hM9, hown9, hno9, hs9⟩ : o9 = some (G i) ∧ (∀ b, b ≠ E i → M9 b = M1 b) ∧ (ow i → M9 (E i) = some (.inr (2, [.ref (E i + 1), .ref (E i + 3), .int (sumN (eg i) (ek i)), .int x]))) ∧ (¬ ow i → M9 = M1) ∧ sz9 = sz + 2 := by
        obtain ⟨h9, e9⟩ := h9
        rcases h9 with ⟨i2, h1, h2, h3⟩ | ⟨h1, h2, h3⟩
        · rcases hpk i hlti with ⟨-, -, -, -, -, -, -, g8⟩ | ⟨g1, i3, g2, g3, -⟩
          · exact absurd h1 (g8 i2)
          · have e8 := least_eq (P := fun p => same (fn p) (ff p) (en i) (ef i)) h1.2.1 h1.2.2.1 g2.2.1 g2.2.2.1
            subst e8; subst h3
            exact ⟨by rw [h2, g3], fun b _ => rfl, fun h => absurd h g1, fun _ => rfl, e9⟩
        · rcases hpk i hlti with ⟨g1, g2, -⟩ | ⟨-, i3, g2, -⟩
          · subst h3; exact ⟨by rw [h2, g2], fun b hb => mw_un hb, fun _ => mw_us, fun h => absurd g1 h, e9⟩
          · exact absurd g2 (h1 i3)
      subst ho9
      refine mj_top' (.ref (G i)) rfl ?_
      refine mj_to rfl rfl rfl (sz' := sz + 2) hs9 ?_
      have hk9 : ∀ (b : Nat) (e9 : va_E), M b = some e9 → (∀ fs, e9 ≠ .inr (2, fs)) → M9 b = some e9 := fun b e9 h1 h2 => (hM9 b (mw_ne h1 (hent i hlti).1 (h2 _))).trans (hk b e9 h1 h2)
      have hC9 := (hM9 sz (by have := hEz i hlti; omega)).trans hC
      have hC92 := (hM9 (sz + 1) (by have := hEz i hlti; omega)).trans hC2
      have hent9 : ∀ j, j < i + 1 → isEnt ca M9 (G j) (pn j) (pf j) (pk j) (pg j) (pv j) := by
        intro j hj
        rcases hpk j (by omega) with ⟨g1, g2, g3, g4, g5, g6, g7, -⟩ | ⟨g1, i3, g2, g3, g4, g5, g6, g7, g8⟩
        · rw [g2, g3, g4, g5, g6, g7]
          refine (hent j (by omega)).upk hk9 ?_
          rcases Nat.lt_or_ge j i with q9 | q9
          · exact (hM9 (E j) (fun e9 => absurd (hdE j i (by omega) hlti e9) (by omega))).trans (hB j q9 g1)
          · have e8 : j = i := by omega
            subst e8; exact hown9 g1
        · rw [g3, g4, g5, g6, g7, g8]
          exact (hwent i3 g2.1).upk hk9 ((hM9 (F i3) (hFE i3 i g2.1 hlti)).trans (hwent1 i3 g2.1).1)
      have hG9 := hent9 i (by omega)
      refine mj_callV X 1 gX0_toVersion_X7_insert rfl (by decide +kernel) ⟨by decide, by decide⟩ (c_Version_insert l D ca M9 (sz + 2) sz i ve1 (fun p => G (si p)) (fun p => pn (si p)) (fun p => pk (si p)) (fun p => pf (si p)) (fun p => pg (si p)) (fun p => pv (si p)) (G i) (pn i) (pk i) (pf i) (pg i) (pv i) hC9 hC92 (by omega) (fun p hp => (hve p hp).2) (fun p hp => hent9 (si p) (by have := (hve p hp).1; omega)) hG9) rfl hC9 rfl rfl (Nat.le_of_ble_eq_true rfl) dX0_toVersion_33 ⟨by decide, by decide⟩ (mk_v (fun M10 sz10 h10 => ?_))
      obtain ⟨h10, e10⟩ := h10
      rcases h10 with ⟨h10, -⟩ | ⟨-, pl, ve2, hpl, hv1, hv2, hv3, hv4, hv5, hM10⟩
      · omega
      refine mj_to rfl rfl rfl (sz' := sz + 2) e10 ?_
      refine mj_iinc X [(4, .int (nI (i + 1))), (0, .ref q), (1, .int x), (2, .ref w), (3, .ref sz)] dX0_toVersion_36 4 rfl (nI_1 i) (by decide) rfl ?_
      refine mj_goto X 11 dX0_toVersion_39 (by decide) ?_
      refine mj_sub [1, 2, 3, 4, 0] rfl ?_
      have hps : ∀ j, j < ec → same (pn j) (pf j) (en j) (ef j) := fun j hj => (hpk j hj).elim (fun h9 => by rw [h9.2.2.1, h9.2.2.2.1]; exact same_rf _ _) (fun h9 => by obtain ⟨i3, g2, g3, g4, g5, -⟩ := h9.2; rw [g4, g5]; exact g2.2.1)
      have hb24 : ∀ j, j < ec → pn j < 2 ^ 30 := fun j hj => by rw [(hps j hj).1]; have := (hent j hj).2.2.2.1; omega
      have hlq : ∀ a b, a < ec → b < ec → (lessR (pn a) (pf a) (pn b) (pf b) ↔ ltN (en a) (ef a) (en b) (ef b)) := fun a b h1 h2 => (lessR_ltN (hb24 a h1) (hb24 b h2) ((hbn a h1).same (hps a h1).symm) ((hbn b h2).same (hps b h2).symm)).trans ⟨ltN_same (hps a h1) (hps b h2), ltN_same (hps a h1).symm (hps b h2).symm⟩
      have hsi : ∀ p, p < i → si p < i := fun p hp => (hve p hp).1
      have hlow : ∀ p, p < pl → ltN (en (si p)) (ef (si p)) (en i) (ef i) := by
        intro p hp
        obtain ⟨t, rfl⟩ : ∃ t, pl = t + 1 := ⟨pl - 1, by omega⟩
        have a1 : ltN (en (si t)) (ef (si t)) (en i) (ef i) := ltN_tri (fun h9 => hv5 t rfl ((hlq i (si t) hlti (by have := hsi t (by omega); omega)).mpr h9)) (hdn i (si t) hlti (by have := hsi t (by omega); omega) (by have := hsi t (by omega); omega))
        rcases Nat.lt_or_ge p t with q9 | q9
        · exact ltN_trans (hso p t q9 (by omega)) a1
        · rw [show p = t by omega]; exact a1
      have hhigh : ∀ p, pl ≤ p → p < i → ltN (en i) (ef i) (en (si p)) (ef (si p)) := fun p h1 h2 => (hlq i (si p) hlti (by have := hsi p h2; omega)).mp (hv4 p h1 h2)
      refine mj_widen 2 10 (by decide) (by decide) ?_
      refine ih (i + 1) M10 ve2 (sins si pl i) hlti (by omega) (fun b hb hn => ?_) (fun j hj ho => ?_) ?_ ?_ (fun p hp => ?_) (fun p p' hp hp' he9 => ?_) (fun p p' h1 h2 => ?_)
      · rw [hM10, mw_un (by omega), mw_un (by omega)]
        by_cases ho : ow i
        · rw [hM9 b (hn i (by omega) ho)]; exact hA b hb (fun j hj => hn j (by omega))
        · rw [hno9 ho]; exact hA b hb (fun j hj => hn j (by omega))
      · have hjz := hEz j (by omega)
        rw [hM10, mw_un (by omega), mw_un (by omega)]
        rcases Nat.lt_or_ge j i with q9 | q9
        · exact (hM9 (E j) (fun e9 => absurd (hdE j i (by omega) hlti e9) (by omega))).trans (hB j q9 ho)
        · have e8 : j = i := by omega
          subst e8; exact hown9 ho
      · rw [hM10, mw_us]
      · rw [hM10, mw_un (by omega), mw_us]
      · rcases Nat.lt_trichotomy p pl with q9 | q9 | q9
        · rw [sins_lo q9, hv1 p q9]; exact ⟨by have := hsi p (by omega); omega, (hve p (by omega)).2⟩
        · subst q9; rw [sins_eq]; exact ⟨by omega, hv2⟩
        · obtain ⟨t, rfl⟩ : ∃ t, p = t + 1 := ⟨p - 1, by omega⟩
          rw [sins_hi (by omega), hv3 t (by omega) (by omega)]; exact ⟨by have := hsi t (by omega); omega, (hve t (by omega)).2⟩
      · rcases Nat.lt_trichotomy p pl with q1 | q1 | q1 <;> rcases Nat.lt_trichotomy p' pl with q2 | q2 | q2
        · rw [sins_lo q1, sins_lo q2] at he9; exact hinj _ _ (by omega) (by omega) he9
        · rw [sins_lo q1, q2, sins_eq] at he9; have := hsi p (by omega); omega
        · obtain ⟨t, rfl⟩ : ∃ t, p' = t + 1 := ⟨p' - 1, by omega⟩
          rw [sins_lo q1, sins_hi (by omega)] at he9; have := hinj _ _ (by omega) (by omega) he9; omega
        · rw [q1, sins_eq, sins_lo q2] at he9; have := hsi p' (by omega); omega
        · omega
        · obtain ⟨t, rfl⟩ : ∃ t, p' = t + 1 := ⟨p' - 1, by omega⟩
          rw [q1, sins_eq, sins_hi (by omega)] at he9; have := hsi t (by omega); omega
        · obtain ⟨t, rfl⟩ : ∃ t, p = t + 1 := ⟨p - 1, by omega⟩
          rw [sins_hi (by omega), sins_lo q2] at he9; have := hinj _ _ (by omega) (by omega) he9; omega
        · obtain ⟨t, rfl⟩ : ∃ t, p = t + 1 := ⟨p - 1, by omega⟩
          rw [sins_hi (by omega), q2, sins_eq] at he9; have := hsi t (by omega); omega
        · obtain ⟨t, rfl⟩ : ∃ t, p = t + 1 := ⟨p - 1, by omega⟩
          obtain ⟨t', rfl⟩ : ∃ t', p' = t' + 1 := ⟨p' - 1, by omega⟩
          rw [sins_hi (by omega), sins_hi (by omega)] at he9; have := hinj _ _ (by omega) (by omega) he9; omega
      · rcases Nat.lt_trichotomy p pl with q1 | q1 | q1 <;> rcases Nat.lt_trichotomy p' pl with q2 | q2 | q2
        · rw [sins_lo q1, sins_lo q2]; exact hso p p' h1 (by omega)
        · rw [sins_lo q1, q2, sins_eq]; exact hlow p q1
        · obtain ⟨t, rfl⟩ : ∃ t, p' = t + 1 := ⟨p' - 1, by omega⟩
          rw [sins_lo q1, sins_hi (by omega)]; exact hso p t (by omega) (by omega)
        · omega
        · omega
        · obtain ⟨t, rfl⟩ : ∃ t, p' = t + 1 := ⟨p' - 1, by omega⟩
          rw [q1, sins_eq, sins_hi (by omega)]; exact hhigh t (by omega) (by omega)
        · omega
        · omega
        · obtain ⟨t, rfl⟩ : ∃ t, p = t + 1 := ⟨p - 1, by omega⟩
          obtain ⟨t', rfl⟩ : ∃ t', p' = t' + 1 := ⟨p' - 1, by omega⟩
          rw [sins_hi (by omega), sins_hi (by omega)]; exact hso t t' (by omega) (by omega)
set_option maxHeartbeats 4000000 in
set_option maxRecDepth 100000 in
/--  -/
theorem c_Coming_toVersion1 (l : Launch) (D : va_G) (ca : Nat → ClassId) (M : mw_M) (sz q ec lc : Nat) (ce xl : Nat → Option Nat) (E en ek : Nat → Nat) (ef eg : Nat → Nat → Int32) (ev : Nat → Int32) (w wc : Nat) (we : Nat → Option Nat) (F fn fk : Nat → Nat) (ff fg : Nat → Nat → Int32) (fv : Nat → Int32) (x : Int32) (G pn pk : Nat → Nat) (pf pg : Nat → Nat → Int32) (pv : Nat → Int32) (ow : Nat → Prop) (hq : M q = some (.inr (1, [.ref (q + 1), .int (nI ec), .ref (q + 2), .int (nI lc)]))) (hqe : M (q + 1) = some (.inl (ca 3, 12, .inr (.inr (.inr (.inr ce)))))) (hql : M (q + 2) = some (.inl (ca 4, 12, .inr (.inr (.inr (.inr xl)))))) (hec : ec ≤ 12) (hlc : lc ≤ 12) (he : ∀ i, i < ec → ce i = some (E i)) (hent : ∀ i, i < ec → isEnt ca M (E i) (en i) (ef i) (ek i) (eg i) (ev i)) (hw : M w = some (.inr (7, [.ref (w + 1), .int (nI wc)]))) (hwa : M (w + 1) = some (.inl (ca 3, 8, .inr (.inr (.inr (.inr we)))))) (hwc : wc ≤ 8) (hwe : ∀ i, i < wc → we i = some (F i)) (hwent : ∀ i, i < wc → isEnt ca M (F i) (fn i) (ff i) (fk i) (fg i) (fv i)) (hFE : ∀ i2 j, i2 < wc → j < ec → F i2 ≠ E j) (hec8 : ec ≤ 8) (hdE : ∀ i j, i < ec → j < ec → E i = E j → i = j) (hdn : ∀ i j, i < ec → j < ec → i ≠ j → ¬ same (en i) (ef i) (en j) (ef j)) (hbn : ∀ i, i < ec → bnd (en i) (ef i)) (hpk : ∀ j, j < ec → (ow j ∧ G j = E j ∧ pn j = en j ∧ pf j = ef j ∧ pk j = ek j ∧ pg j = eg j ∧ pv j = x ∧ ∀ i2, ¬ shr wc fn fk ff fg (en j) (ef j) (ek j) (eg j) i2) ∨ (¬ ow j ∧ ∃ i2, shr wc fn fk ff fg (en j) (ef j) (ek j) (eg j) i2 ∧ G j = F i2 ∧ pn j = fn i2 ∧ pf j = ff i2 ∧ pk j = fk i2 ∧ pg j = fg i2 ∧ pv j = fv i2)) : mw_C wsX0_toVersion l yX0_toVersion { frames := 5, cells := 2, slots := 10, locals := 112 } D vwCl (mt ca) [.ref q, .int x, .ref w] M sz (mq_q (fun o M' sz' => o = some sz ∧ sz' = sz + 2 ∧ ∃ (ve' : Nat → Option Nat) (si' : Nat → Nat), (∀ b, b < sz → (∀ j, j < ec → ow j → b ≠ E j) → M' b = M b) ∧ (∀ j, j < ec → ow j → M' (E j) = some (.inr (2, [.ref (E j + 1), .ref (E j + 3), .int (sumN (eg j) (ek j)), .int x]))) ∧ M' sz = some (.inr (7, [.ref (sz + 1), .int (nI ec)])) ∧ M' (sz + 1) = some (.inl (ca 3, 8, .inr (.inr (.inr (.inr ve'))))) ∧ (∀ p, p < ec → si' p < ec ∧ ve' p = some (G (si' p))) ∧ (∀ p p', p < ec → p' < ec → si' p = si' p' → p = p') ∧ (∀ p p', p < p' → p' < ec → ltN (en (si' p)) (ef (si' p)) (en (si' p')) (ef (si' p'))))) := by
  refine mw_enter (cc := cX0_toVersion) (maxL := 5) (ret := (some (.object "PackageRows2$Version"))) rfl (by decide) (Nat.le_of_ble_eq_true rfl) ?_
  intro p e s m below meth c X hr0 hnm hlt
  have hl1 := hlt _ _ hq
  have hl2 := hlt _ _ hqe
  refine mj_new X (C := RX7) (T := TX7) (N := 2) (ci := 7) [.null, .int 0] tyX7 w_Coming_toVersion1_3 tyX7_ok rfl (by intro j hj; rcases (show j = 0 ∨ j = 1 by omega) with rfl | rfl <;> rfl) w_Coming_toVersion1_4 w_Coming_toVersion1_5 w_Coming_toVersion1_6 (by decide) (by decide) dX0_toVersion_0 ?_
  refine mj_dup X dX0_toVersion_3 rfl ?_
  have f1_ := mw_us (M := M) (a := sz) (e := (.inr (7, [.null, .int 0])))
  refine mj_callI X 0 gX0_toVersion_X7_init rfl rfl w_Coming_toVersion1_7 w_Coming_toVersion1_8 w_Coming_toVersion1_9 (by decide +kernel) ⟨by decide, by decide⟩ (c_Version_init l D ca _ sz f1_) rfl rfl (Nat.le_of_ble_eq_true rfl) dX0_toVersion_4 ⟨by decide, by decide⟩ (mk_v (fun M9 sz9 h9 => ?_))
  obtain ⟨h9, e9⟩ := h9
  refine mj_to rfl rfl rfl (sz' := sz + 2) e9 ?_
  refine mj_astore_n X [(3, .ref sz), (0, .ref q), (1, .int x), (2, .ref w)] dX0_toVersion_7 rfl (by decide) rfl ?_
  refine mj_iconst X (v := 0) dX0_toVersion_8 (by decide +kernel) ?_
  refine mj_istore X [(4, .int 0), (3, .ref sz), (0, .ref q), (1, .int x), (2, .ref w)] dX0_toVersion_9 (by decide) rfl ?_
  refine mj_sub [2, 3, 4, 1, 0] rfl ?_
  refine mj_widen 2 10 (by decide) (by decide) ?_
  rw [← nI_0]
  refine lp_Coming_toVersion1_11 (l := l) (D := D) (ca := ca) M sz q ec lc ce xl E en ek ef eg ev w wc we F fn fk ff fg fv x G pn pk pf pg pv ow hq hqe hql hec hlc he hent hw hwa hwc hwe hwent hFE hec8 hdE hdn hbn hpk X hr0 hnm hlt (ec + 1) 0 M9 (fun _ => none) (fun p => p) (by omega) (by omega) (fun b hb _ => ?_) (fun j hj => absurd hj (by omega)) ?_ ?_ (fun p hp => absurd hp (by omega)) (fun p p' hp => absurd hp (by omega)) (fun p p' h1 h2 => absurd h2 (by omega))
  · rw [h9, mw_un (by omega), mw_un (by omega), mw_un (by omega)]
  · rw [h9, mw_us]
  · rw [h9, mw_un (by omega), mw_us]

