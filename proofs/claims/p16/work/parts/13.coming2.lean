theorem isRow.up {ca : Nat → ClassId} {M M1 : mw_M} {r cap n : Nat} {f : Nat → Int32} (h : isRow ca M r cap n f) (h0 : M1 r = M r) (h1 : M1 (r + 1) = M (r + 1)) : isRow ca M1 r cap n f := ⟨h0.trans h.1, h1.trans h.2.1, h.2.2⟩
theorem isEnt.up {ca : Nat → ClassId} {M M1 : mw_M} {a n k : Nat} {f g : Nat → Int32} {x : Int32} (h : isEnt ca M a n f k g x) (hM : ∀ b, a ≤ b → b < a + 5 → M1 b = M b) : isEnt ca M1 a n f k g x :=
  ⟨(hM a (by omega) (by omega)).trans h.1, h.2.1.up (hM _ (by omega) (by omega)) (hM _ (by omega) (by omega)), h.2.2.1.up (hM _ (by omega) (by omega)) (hM _ (by omega) (by omega)), h.2.2.2⟩
theorem isLin.up {ca : Nat → ClassId} {M M1 : mw_M} {a n : Nat} {f : Nat → Int32} {x y : Int32} (h : isLin ca M a n f x y) (hM : ∀ b, a ≤ b → b < a + 3 → M1 b = M b) : isLin ca M1 a n f x y :=
  ⟨(hM a (by omega) (by omega)).trans h.1, h.2.1.up (hM _ (by omega) (by omega)) (hM _ (by omega) (by omega)), h.2.2⟩
theorem mw_6 {M : mw_M} {a b d : Nat} {x x' y y' w w' : va_E} (h1 : a ≠ b) (h2 : a ≠ d) (h3 : b ≠ d) : mw_u (mw_u (mw_u (mw_u (mw_u (mw_u M a x) b y) d w) a x') b y') d w' = mw_u (mw_u (mw_u M a x') b y') d w' := by
  funext q
  by_cases e1 : q = d
  · subst e1; simp [mw_u]
  · by_cases e2 : q = b
    · subst e2; simp [mw_u, e1]
    · by_cases e3 : q = a
      · subst e3; simp [mw_u, e1, e2]
      · simp [mw_u, e1, e2, e3]
theorem least_eq {P : Nat → Prop} {a b : Nat} (ha : P a) (ha' : ∀ j, j < a → ¬ P j) (hb : P b) (hb' : ∀ j, j < b → ¬ P j) : a = b := by
  rcases Nat.lt_trichotomy a b with q | q | q
  · exact absurd ha (hb' a q)
  · exact q
  · exact absurd hb (ha' b q)
theorem lfR_uniq {ec : Nat} {en ek : Nat → Nat} {ef eg : Nat → Nat → Int32} {ln : Nat → Nat} {lf : Nat → Nat → Int32} {lx ly : Nat → Int32} {i : Nat} {v w : Int32} (h : lfR ec en ek ef eg ln lf lx ly i v) (g : lfR ec en ek ef eg ln lf lx ly i w) : v = w := by
  rcases h with ⟨j, h1, h2, h3⟩ | ⟨h1, h2⟩ <;> rcases g with ⟨j', g1, g2, g3⟩ | ⟨g1, g2⟩
  · rw [h3, g3]
  · exact absurd h2 (g1 j h1)
  · exact absurd g2 (h1 j' g1)
  · rcases h2 with ⟨h3, h4⟩ | ⟨p, h3, h4, h5, h6⟩ <;> rcases g2 with ⟨g3, g4⟩ | ⟨p', g3, g4, g5, g6⟩
    · rw [h4, g4]
    · exact absurd g4 (h3 p' g3)
    · exact absurd h4 (g3 p h3)
    · have e1 := least_eq (P := fun p => same (en p) (ef p) (ln i) (lf i)) h4 h5 g4 g5
      subst e1
      rcases h6 with ⟨a1, a2⟩ | ⟨a1, a2, a3⟩ | ⟨a1, a2, a3⟩ <;> rcases g6 with ⟨b1, b2⟩ | ⟨b1, b2, b3⟩ | ⟨b1, b2, b3⟩ <;> first | (exact absurd b1 a1) | (exact absurd a1 b1) | (exact absurd b2 a2) | (exact absurd a2 b2) | (rw [a2, b2]) | (rw [a3, b3])
theorem ffR_uniq {en : Nat → Nat} {ef : Nat → Nat → Int32} {lc : Nat} {ln : Nat → Nat} {lf : Nat → Nat → Int32} {i : Nat} {v w : Int32} (h : ffR en ef lc ln lf i v) (g : ffR en ef lc ln lf i w) : v = w := by
  rcases h with ⟨j, h1, h2, h3⟩ | ⟨h1, h2⟩ <;> rcases g with ⟨j', g1, g2, g3⟩ | ⟨g1, g2⟩
  · rw [h3, g3]
  · exact absurd h2 (g1 j h1)
  · exact absurd g2 (h1 j' g1)
  · rcases h2 with ⟨h3, h4⟩ | ⟨p, h3, h4, h5⟩ <;> rcases g2 with ⟨g3, g4⟩ | ⟨p', g3, g4, g5⟩
    · rw [h4, g4]
    · exact absurd g4 (h3 p' g3)
    · exact absurd h4 (g3 p h3)
    · rw [h5, g5]
theorem lfR_ex (ec : Nat) (en ek : Nat → Nat) (ef eg : Nat → Nat → Int32) (ln : Nat → Nat) (lf : Nat → Nat → Int32) (lx ly : Nat → Int32) (i : Nat) : ∃ v, lfR ec en ek ef eg ln lf lx ly i v := by
  by_cases h : ∃ j, j < i ∧ same (ln j) (lf j) (ln i) (lf i)
  · obtain ⟨j, h1, h2⟩ := h; exact ⟨1, Or.inl ⟨j, h1, h2, rfl⟩⟩
  · have hno : ∀ j, j < i → ¬ same (ln j) (lf j) (ln i) (lf i) := fun j h1 h2 => h ⟨j, h1, h2⟩
    by_cases h2 : ∃ p, p < ec ∧ same (en p) (ef p) (ln i) (lf i)
    · obtain ⟨p, ⟨h3, h4⟩, h5⟩ := pk_least _ h2
      have h6 : ∀ j, j < p → ¬ same (en j) (ef j) (ln i) (lf i) := fun j a1 a2 => h5 j a1 ⟨by omega, a2⟩
      by_cases h7 : nI (ek p) = lx i
      · by_cases h8 : sumN (eg p) (ek p) = ly i
        · exact ⟨0, Or.inr ⟨hno, Or.inr ⟨p, h3, h4, h6, Or.inr (Or.inr ⟨h7, h8, rfl⟩)⟩⟩⟩
        · exact ⟨4, Or.inr ⟨hno, Or.inr ⟨p, h3, h4, h6, Or.inr (Or.inl ⟨h7, h8, rfl⟩)⟩⟩⟩
      · exact ⟨3, Or.inr ⟨hno, Or.inr ⟨p, h3, h4, h6, Or.inl ⟨h7, rfl⟩⟩⟩⟩
    · exact ⟨2, Or.inr ⟨hno, Or.inl ⟨fun p a1 a2 => h2 ⟨p, a1, a2⟩, rfl⟩⟩⟩
theorem ffR_ex (en : Nat → Nat) (ef : Nat → Nat → Int32) (lc : Nat) (ln : Nat → Nat) (lf : Nat → Nat → Int32) (i : Nat) : ∃ v, ffR en ef lc ln lf i v := by
  by_cases h : ∃ j, j < i ∧ same (en j) (ef j) (en i) (ef i)
  · obtain ⟨j, h1, h2⟩ := h; exact ⟨5, Or.inl ⟨j, h1, h2, rfl⟩⟩
  · have hno : ∀ j, j < i → ¬ same (en j) (ef j) (en i) (ef i) := fun j h1 h2 => h ⟨j, h1, h2⟩
    by_cases h2 : ∃ j, j < lc ∧ same (ln j) (lf j) (en i) (ef i)
    · obtain ⟨j, h3, h4⟩ := h2; exact ⟨0, Or.inr ⟨hno, Or.inr ⟨j, h3, h4, rfl⟩⟩⟩
    · exact ⟨6, Or.inr ⟨hno, Or.inl ⟨fun p a1 a2 => h2 ⟨p, a1, a2⟩, rfl⟩⟩⟩
theorem w_Coming_tellFaults_0 : ∀ w ∈ u_ws RX0 TX0 4, w ∈ wsX0_tellFaults := by decide +kernel
theorem w_Coming_tellFaults_1 : Cond.fieldLink RX0 17 "PackageRows2$Coming" "entryCount" "I" ∈ wsX0_tellFaults := by decide +kernel
theorem w_Coming_tellFaults_2 : Cond.fieldLink RX0 27 "PackageRows2$Coming" "lineCount" "I" ∈ wsX0_tellFaults := by decide +kernel
set_option maxHeartbeats 4000000 in
set_option maxRecDepth 100000 in
theorem lp_Coming_tellFaults_32 {l : Launch} {D : va_G} {ca : Nat → ClassId} (M : mw_M) (sz q ec lc : Nat) (ce xl : Nat → Option Nat) (E en ek : Nat → Nat) (ef eg : Nat → Nat → Int32) (ev : Nat → Int32) (L ln : Nat → Nat) (lf : Nat → Nat → Int32) (lx ly : Nat → Int32) (z zn : Nat) (zf zg : Nat → Int32) (K H : Nat → Int32) (hq : M q = some (.inr (1, [.ref (q + 1), .int (nI ec), .ref (q + 2), .int (nI lc)]))) (hqe : M (q + 1) = some (.inl (ca 3, 12, .inr (.inr (.inr (.inr ce)))))) (hql : M (q + 2) = some (.inl (ca 4, 12, .inr (.inr (.inr (.inr xl)))))) (hec : ec ≤ 12) (hlc : lc ≤ 12) (he : ∀ i, i < ec → ce i = some (E i)) (hent : ∀ i, i < ec → isEnt ca M (E i) (en i) (ef i) (ek i) (eg i) (ev i)) (hxl : ∀ i, i < lc → xl i = some (L i)) (hlin : ∀ i, i < lc → isLin ca M (L i) (ln i) (lf i) (lx i) (ly i)) (hz : M z = some (.inr (3, [.ref (z + 1), .ref (z + 2), .int (nI zn)]))) (hz1 : M (z + 1) = some (.inl (ca 0, 24, .inl zf))) (hz2 : M (z + 2) = some (.inl (ca 0, 24, .inl zg))) (hzn : zn ≤ 24) (hqz : q + 2 < z) (hEa : ∀ i, i < ec → z + 3 ≤ E i) (hLa : ∀ i, i < lc → z + 3 ≤ L i) (hK : ∀ i, i < lc → lfR ec en ek ef eg ln lf lx ly i (K i)) (hH : ∀ i, i < ec → ffR en ef lc ln lf i (H i)) {p : Program} {e : Env} {s : State} {m : MethodId} {below : List Frame} {meth : Method} {c : Code} (X : mw_X p s m ([.ref q, .ref z] : List Value).toArray meth c cX0_tellFaults 3 yX0_tellFaults.cls wsX0_tellFaults D vwCl (mt ca)) (hr0 : meth.sig.returnType = none) (hnm : meth.name = yX0_tellFaults.name) (hlt : ∀ (a : Nat) (x : va_E), M a = some x → a < sz) : ∀ (fu : Nat) (i : Nat) (f1 g1 : Nat → Int32), i ≤ ec → ec < i + fu → (∀ j, j < lc → K j ≠ 0 → f1 (nz K j) = K j ∧ g1 (nz K j) = nI j) → (∀ j, j < i → H j ≠ 0 → f1 (nz K lc + nz H j) = H j ∧ g1 (nz K lc + nz H j) = nI j) → mw_J p l e { frames := 4, cells := 0, slots := 0, locals := 89 } s m ([.ref q, .ref z] : List Value).toArray below meth c 3 D vwCl (mw_A M sz) (MQ below (mw_Q D vwCl M sz (mq_v (fun M' sz' => (∃ f' g' : Nat → Int32, M' = (mw_u (mw_u (mw_u M (z + 1) (.inl (ca 0, 24, .inl f'))) (z + 2) (.inl (ca 0, 24, .inl g'))) z (.inr (3, [.ref (z + 1), .ref (z + 2), .int (nI (nz K lc + nz H ec))]))) ∧ (∀ j, j < lc → K j ≠ 0 → f' (nz K j) = K j ∧ g' (nz K j) = nI j) ∧ (∀ j, j < ec → H j ≠ 0 → f' (nz K lc + nz H j) = H j ∧ g' (nz K lc + nz H j) = nI j)) ∧ sz' = sz))) ([.ref q, .ref z] : List Value).toArray s 0 0 (mw_A M sz)) 32 [(0, .ref q), (1, .ref z), (2, .int (nI i))] [] (mw_u (mw_u (mw_u M (z + 1) (.inl (ca 0, 24, .inl f1))) (z + 2) (.inl (ca 0, 24, .inl g1))) z (.inr (3, [.ref (z + 1), .ref (z + 2), .int (nI (nz K lc + nz H i))]))) sz 0 0 := by
  intro fu
  induction fu with
  | zero => intro i f1 g1 h1 h2; omega
  | succ fu ih =>
    intro i f1 g1 hi hfu hin0 hin1
    have hW : ∀ b, b ≠ z → b ≠ z + 1 → b ≠ z + 2 → (mw_u (mw_u (mw_u M (z + 1) (.inl (ca 0, 24, .inl f1))) (z + 2) (.inl (ca 0, 24, .inl g1))) z (.inr (3, [.ref (z + 1), .ref (z + 2), .int (nI (nz K lc + nz H i))]))) b = M b := fun b h1 h2 h3 => by rw [mw_un h1, mw_un h3, mw_un h2]
    have hent1 : ∀ j, j < ec → isEnt ca (mw_u (mw_u (mw_u M (z + 1) (.inl (ca 0, 24, .inl f1))) (z + 2) (.inl (ca 0, 24, .inl g1))) z (.inr (3, [.ref (z + 1), .ref (z + 2), .int (nI (nz K lc + nz H i))]))) (E j) (en j) (ef j) (ek j) (eg j) (ev j) := fun j hj => (hent j hj).up (fun b h1 h2 => hW b (by have := hEa j hj; omega) (by have := hEa j hj; omega) (by have := hEa j hj; omega))
    have hlin1 : ∀ j, j < lc → isLin ca (mw_u (mw_u (mw_u M (z + 1) (.inl (ca 0, 24, .inl f1))) (z + 2) (.inl (ca 0, 24, .inl g1))) z (.inr (3, [.ref (z + 1), .ref (z + 2), .int (nI (nz K lc + nz H i))]))) (L j) (ln j) (lf j) (lx j) (ly j) := fun j hj => (hlin j hj).up (fun b h1 h2 => hW b (by have := hLa j hj; omega) (by have := hLa j hj; omega) (by have := hLa j hj; omega))
    have hq1 := (hW q (by omega) (by omega) (by omega)).trans hq
    have hqe1 := (hW (q + 1) (by omega) (by omega) (by omega)).trans hqe
    have hql1 := (hW (q + 2) (by omega) (by omega) (by omega)).trans hql
    have hb0 := nz_le K lc
    have hb1 := nz_le H i
    refine mj_iload_n X dX0_tellFaults_32 rfl 2 rfl ?_
    refine mj_aload_n X dX0_tellFaults_33 rfl 0 rfl ?_
    have f1_ := (mw_un (M := M) (e := (.inl (ca 0, 24, .inl f1))) (show q ≠ z + 1 by omega)).trans hq
    have f2_ := (mw_un (M := (mw_u M (z + 1) (.inl (ca 0, 24, .inl f1)))) (e := (.inl (ca 0, 24, .inl g1))) (show q ≠ z + 2 by omega)).trans f1_
    have f3_ := (mw_un (M := (mw_u (mw_u M (z + 1) (.inl (ca 0, 24, .inl f1))) (z + 2) (.inl (ca 0, 24, .inl g1)))) (e := (.inr (3, [.ref (z + 1), .ref (z + 2), .int (nI (nz K lc + nz H i))]))) (show q ≠ z by omega)).trans f2_
    refine mj_get X (C := RX0) (T := TX0) (N := 4) (ci := 1) w_Coming_tellFaults_0 rfl 1 (by decide) w_Coming_tellFaults_1 f3_ rfl dX0_tellFaults_34 ?_
    refine mj_icmp_ge X 56 dX0_tellFaults_37 (by decide) (fun c37 => ?_) (fun c37 => ?_)
    · refine mj_vret X hr0 (by decide) (by decide) dX0_tellFaults_56 ?_
      have e9 : i = ec := by have h9 := (nI_leI (by omega) (by omega)).mp c37; omega
      subst e9
      exact ⟨rfl, ⟨f1, g1, rfl, hin0, hin1⟩, rfl⟩
    · have hlti : i < ec := Nat.not_le.mp (fun h9 => c37 (nI_le h9 (by omega)))
      refine mj_aload_n X dX0_tellFaults_40 rfl 1 rfl ?_
      refine mj_aload_n X dX0_tellFaults_41 rfl 0 rfl ?_
      refine mj_iload_n X dX0_tellFaults_42 rfl 2 rfl ?_
      refine mj_callV X 1 gX0_tellFaults_X0_faultOfFile rfl (by decide +kernel) ⟨by decide, by decide⟩ (c_Coming_faultOfFile l D ca _ sz q ec lc ce xl E en ek ef eg ev L ln lf lx ly i hq1 hqe1 hql1 hec hlc he hent1 hxl hlin1 hlti) rfl f3_ rfl rfl (Nat.le_of_ble_eq_true rfl) dX0_tellFaults_43 ⟨by decide, by decide⟩ (mk_ri (fun b2 hb2 => ?_))
      have eb : b2 = H i := ffR_uniq hb2 (hH i hlti)
      subst eb
      refine mj_iload_n X dX0_tellFaults_46 rfl 2 rfl ?_
      have f4_ := (mw_un (M := M) (e := (.inl (ca 0, 24, .inl f1))) (show z ≠ z + 1 by omega)).trans hz
      have f5_ := (mw_un (M := (mw_u M (z + 1) (.inl (ca 0, 24, .inl f1)))) (e := (.inl (ca 0, 24, .inl g1))) (show z ≠ z + 2 by omega)).trans f4_
      have f6_ := mw_us (M := (mw_u (mw_u M (z + 1) (.inl (ca 0, 24, .inl f1))) (z + 2) (.inl (ca 0, 24, .inl g1)))) (a := z) (e := (.inr (3, [.ref (z + 1), .ref (z + 2), .int (nI (nz K lc + nz H i))])))
      have f7_ := mw_us (M := M) (a := (z + 1)) (e := (.inl (ca 0, 24, .inl f1)))
      have f8_ := (mw_un (M := (mw_u M (z + 1) (.inl (ca 0, 24, .inl f1)))) (e := (.inl (ca 0, 24, .inl g1))) (show z + 1 ≠ z + 2 by omega)).trans f7_
      have f9_ := (mw_un (M := (mw_u (mw_u M (z + 1) (.inl (ca 0, 24, .inl f1))) (z + 2) (.inl (ca 0, 24, .inl g1)))) (e := (.inr (3, [.ref (z + 1), .ref (z + 2), .int (nI (nz K lc + nz H i))]))) (show z + 1 ≠ z by omega)).trans f8_
      have f10_ := (mw_un (M := M) (e := (.inl (ca 0, 24, .inl f1))) (show z + 2 ≠ z + 1 by omega)).trans hz2
      have f11_ := mw_us (M := (mw_u M (z + 1) (.inl (ca 0, 24, .inl f1)))) (a := (z + 2)) (e := (.inl (ca 0, 24, .inl g1)))
      have f12_ := (mw_un (M := (mw_u (mw_u M (z + 1) (.inl (ca 0, 24, .inl f1))) (z + 2) (.inl (ca 0, 24, .inl g1)))) (e := (.inr (3, [.ref (z + 1), .ref (z + 2), .int (nI (nz K lc + nz H i))]))) (show z + 2 ≠ z by omega)).trans f11_
      refine mj_callV X 2 gX0_tellFaults_X2_note rfl (by decide +kernel) ⟨by decide, by decide⟩ (c_Faults_note l D ca _ sz z (nz K lc + nz H i) f1 g1 (H i) (nI i) f6_ f9_ f12_ (by omega)) rfl f6_ rfl rfl (Nat.le_of_ble_eq_true rfl) dX0_tellFaults_47 ⟨by decide, by decide⟩ (mk_v (fun M9 sz9 h9 => ?_))
      obtain ⟨h9, e9⟩ := h9
      obtain ⟨f2, g2, hM9, hf2⟩ : ∃ f2 g2 : Nat → Int32, M9 = (mw_u (mw_u (mw_u M (z + 1) (.inl (ca 0, 24, .inl f2))) (z + 2) (.inl (ca 0, 24, .inl g2))) z (.inr (3, [.ref (z + 1), .ref (z + 2), .int (nI (nz K lc + nz H (i + 1)))]))) ∧ ((∀ j, j < (nz K lc + nz H i) → f2 j = f1 j ∧ g2 j = g1 j) ∧ (H i ≠ 0 → f2 (nz K lc + nz H i) = H i ∧ g2 (nz K lc + nz H i) = nI i)) := by
        rcases h9 with ⟨h1, h2⟩ | ⟨h1, h2, h3⟩
        · have hk0 : H i = 0 := by rcases h1 with h1 | h1; exact h1; omega
          exact ⟨f1, g1, by rw [h2]; simp only [nz, hk0, if_true, Nat.add_zero], fun j _ => ⟨rfl, rfl⟩, fun h => absurd hk0 h⟩
        · refine ⟨_, _, h3.trans (by rw [mw_6 (by omega) (by omega) (by omega)]; simp only [nz, h1, if_false]; try rfl), fun j hj => ⟨pk_un (by omega), pk_un (by omega)⟩, fun _ => ⟨pk_us, pk_us⟩⟩
      refine mj_to rfl rfl hM9 e9 ?_
      refine mj_iinc X [(2, .int (nI (i + 1))), (0, .ref q), (1, .ref z)] dX0_tellFaults_50 2 rfl (nI_1 i) (by decide) rfl ?_
      refine mj_goto X 32 dX0_tellFaults_53 (by decide) ?_
      refine mj_sub [1, 2, 0] rfl ?_
      refine ih (i + 1) f2 g2 hlti (by omega) (fun j hj hj0 => ?_) (fun j hj hj0 => ?_)
      · have a1 := hin0 j hj hj0
        have a2 : nz K j < nz K lc := by have a3 := nz_mono K (show j + 1 ≤ lc by omega); simp only [nz, hj0, if_false] at a3; omega
        exact ⟨(hf2.1 _ (by omega)).1.trans a1.1, (hf2.1 _ (by omega)).2.trans a1.2⟩
      · rcases Nat.lt_or_ge j i with q9 | q9
        · have a1 := hin1 j q9 hj0
          have a2 : nz H j < nz H i := by have a3 := nz_mono H (show j + 1 ≤ i by omega); simp only [nz, hj0, if_false] at a3; omega
          exact ⟨(hf2.1 _ (by omega)).1.trans a1.1, (hf2.1 _ (by omega)).2.trans a1.2⟩
        · have e1 : j = i := by omega
          subst e1; exact hf2.2 hj0
set_option maxHeartbeats 4000000 in
set_option maxRecDepth 100000 in
theorem lp_Coming_tellFaults_6 {l : Launch} {D : va_G} {ca : Nat → ClassId} (M : mw_M) (sz q ec lc : Nat) (ce xl : Nat → Option Nat) (E en ek : Nat → Nat) (ef eg : Nat → Nat → Int32) (ev : Nat → Int32) (L ln : Nat → Nat) (lf : Nat → Nat → Int32) (lx ly : Nat → Int32) (z zn : Nat) (zf zg : Nat → Int32) (K H : Nat → Int32) (hq : M q = some (.inr (1, [.ref (q + 1), .int (nI ec), .ref (q + 2), .int (nI lc)]))) (hqe : M (q + 1) = some (.inl (ca 3, 12, .inr (.inr (.inr (.inr ce)))))) (hql : M (q + 2) = some (.inl (ca 4, 12, .inr (.inr (.inr (.inr xl)))))) (hec : ec ≤ 12) (hlc : lc ≤ 12) (he : ∀ i, i < ec → ce i = some (E i)) (hent : ∀ i, i < ec → isEnt ca M (E i) (en i) (ef i) (ek i) (eg i) (ev i)) (hxl : ∀ i, i < lc → xl i = some (L i)) (hlin : ∀ i, i < lc → isLin ca M (L i) (ln i) (lf i) (lx i) (ly i)) (hz : M z = some (.inr (3, [.ref (z + 1), .ref (z + 2), .int (nI zn)]))) (hz1 : M (z + 1) = some (.inl (ca 0, 24, .inl zf))) (hz2 : M (z + 2) = some (.inl (ca 0, 24, .inl zg))) (hzn : zn ≤ 24) (hqz : q + 2 < z) (hEa : ∀ i, i < ec → z + 3 ≤ E i) (hLa : ∀ i, i < lc → z + 3 ≤ L i) (hK : ∀ i, i < lc → lfR ec en ek ef eg ln lf lx ly i (K i)) (hH : ∀ i, i < ec → ffR en ef lc ln lf i (H i)) {p : Program} {e : Env} {s : State} {m : MethodId} {below : List Frame} {meth : Method} {c : Code} (X : mw_X p s m ([.ref q, .ref z] : List Value).toArray meth c cX0_tellFaults 3 yX0_tellFaults.cls wsX0_tellFaults D vwCl (mt ca)) (hr0 : meth.sig.returnType = none) (hnm : meth.name = yX0_tellFaults.name) (hlt : ∀ (a : Nat) (x : va_E), M a = some x → a < sz) : ∀ (fu : Nat) (i : Nat) (f1 g1 : Nat → Int32), i ≤ lc → lc < i + fu → (∀ j, j < i → K j ≠ 0 → f1 (nz K j) = K j ∧ g1 (nz K j) = nI j) → mw_J p l e { frames := 4, cells := 0, slots := 0, locals := 89 } s m ([.ref q, .ref z] : List Value).toArray below meth c 3 D vwCl (mw_A M sz) (MQ below (mw_Q D vwCl M sz (mq_v (fun M' sz' => (∃ f' g' : Nat → Int32, M' = (mw_u (mw_u (mw_u M (z + 1) (.inl (ca 0, 24, .inl f'))) (z + 2) (.inl (ca 0, 24, .inl g'))) z (.inr (3, [.ref (z + 1), .ref (z + 2), .int (nI (nz K lc + nz H ec))]))) ∧ (∀ j, j < lc → K j ≠ 0 → f' (nz K j) = K j ∧ g' (nz K j) = nI j) ∧ (∀ j, j < ec → H j ≠ 0 → f' (nz K lc + nz H j) = H j ∧ g' (nz K lc + nz H j) = nI j)) ∧ sz' = sz))) ([.ref q, .ref z] : List Value).toArray s 0 0 (mw_A M sz)) 6 [(0, .ref q), (1, .ref z), (2, .int (nI i))] [] (mw_u (mw_u (mw_u M (z + 1) (.inl (ca 0, 24, .inl f1))) (z + 2) (.inl (ca 0, 24, .inl g1))) z (.inr (3, [.ref (z + 1), .ref (z + 2), .int (nI (nz K i))]))) sz 0 0 := by
  intro fu
  induction fu with
  | zero => intro i f1 g1 h1 h2; omega
  | succ fu ih =>
    intro i f1 g1 hi hfu hin1
    have hW : ∀ b, b ≠ z → b ≠ z + 1 → b ≠ z + 2 → (mw_u (mw_u (mw_u M (z + 1) (.inl (ca 0, 24, .inl f1))) (z + 2) (.inl (ca 0, 24, .inl g1))) z (.inr (3, [.ref (z + 1), .ref (z + 2), .int (nI (nz K i))]))) b = M b := fun b h1 h2 h3 => by rw [mw_un h1, mw_un h3, mw_un h2]
    have hent1 : ∀ j, j < ec → isEnt ca (mw_u (mw_u (mw_u M (z + 1) (.inl (ca 0, 24, .inl f1))) (z + 2) (.inl (ca 0, 24, .inl g1))) z (.inr (3, [.ref (z + 1), .ref (z + 2), .int (nI (nz K i))]))) (E j) (en j) (ef j) (ek j) (eg j) (ev j) := fun j hj => (hent j hj).up (fun b h1 h2 => hW b (by have := hEa j hj; omega) (by have := hEa j hj; omega) (by have := hEa j hj; omega))
    have hlin1 : ∀ j, j < lc → isLin ca (mw_u (mw_u (mw_u M (z + 1) (.inl (ca 0, 24, .inl f1))) (z + 2) (.inl (ca 0, 24, .inl g1))) z (.inr (3, [.ref (z + 1), .ref (z + 2), .int (nI (nz K i))]))) (L j) (ln j) (lf j) (lx j) (ly j) := fun j hj => (hlin j hj).up (fun b h1 h2 => hW b (by have := hLa j hj; omega) (by have := hLa j hj; omega) (by have := hLa j hj; omega))
    have hq1 := (hW q (by omega) (by omega) (by omega)).trans hq
    have hqe1 := (hW (q + 1) (by omega) (by omega) (by omega)).trans hqe
    have hql1 := (hW (q + 2) (by omega) (by omega) (by omega)).trans hql
    have hb0 := nz_le K i
    refine mj_iload_n X dX0_tellFaults_6 rfl 2 rfl ?_
    refine mj_aload_n X dX0_tellFaults_7 rfl 0 rfl ?_
    have f13_ := (mw_un (M := M) (e := (.inl (ca 0, 24, .inl f1))) (show q ≠ z + 1 by omega)).trans hq
    have f14_ := (mw_un (M := (mw_u M (z + 1) (.inl (ca 0, 24, .inl f1)))) (e := (.inl (ca 0, 24, .inl g1))) (show q ≠ z + 2 by omega)).trans f13_
    have f15_ := (mw_un (M := (mw_u (mw_u M (z + 1) (.inl (ca 0, 24, .inl f1))) (z + 2) (.inl (ca 0, 24, .inl g1)))) (e := (.inr (3, [.ref (z + 1), .ref (z + 2), .int (nI (nz K i))]))) (show q ≠ z by omega)).trans f14_
    refine mj_get X (C := RX0) (T := TX0) (N := 4) (ci := 1) w_Coming_tellFaults_0 rfl 3 (by decide) w_Coming_tellFaults_2 f15_ rfl dX0_tellFaults_8 ?_
    refine mj_icmp_ge X 30 dX0_tellFaults_11 (by decide) (fun c11 => ?_) (fun c11 => ?_)
    · refine mj_iconst X (v := 0) dX0_tellFaults_30 (by decide +kernel) ?_
      refine mj_istore_n X [(2, .int 0), (0, .ref q), (1, .ref z)] dX0_tellFaults_31 rfl (by decide) rfl ?_
      refine mj_sub [1, 2, 0] rfl ?_
      have e9 : i = lc := by have h9 := (nI_leI (by omega) (by omega)).mp c11; omega
      subst e9
      refine mj_to rfl rfl (show _ = (mw_u (mw_u (mw_u M (z + 1) (.inl (ca 0, 24, .inl f1))) (z + 2) (.inl (ca 0, 24, .inl g1))) z (.inr (3, [.ref (z + 1), .ref (z + 2), .int (nI (nz K i + nz H 0))]))) from rfl) rfl ?_
      rw [← nI_0]
      exact lp_Coming_tellFaults_32 (l := l) (D := D) (ca := ca) M sz q ec i ce xl E en ek ef eg ev L ln lf lx ly z zn zf zg K H hq hqe hql hec hlc he hent hxl hlin hz hz1 hz2 hzn hqz hEa hLa hK hH X hr0 hnm hlt (ec + 1) 0 f1 g1 (by omega) (by omega) hin1 (fun j hj => absurd hj (by omega))
    · have hlti : i < lc := Nat.not_le.mp (fun h9 => c11 (nI_le h9 (by omega)))
      refine mj_aload_n X dX0_tellFaults_14 rfl 1 rfl ?_
      refine mj_aload_n X dX0_tellFaults_15 rfl 0 rfl ?_
      refine mj_iload_n X dX0_tellFaults_16 rfl 2 rfl ?_
      refine mj_callV X 1 gX0_tellFaults_X0_faultOfLine rfl (by decide +kernel) ⟨by decide, by decide⟩ (c_Coming_faultOfLine l D ca _ sz q ec lc ce xl E en ek ef eg ev L ln lf lx ly i hq1 hqe1 hql1 hec hlc he hent1 hxl hlin1 hlti) rfl f15_ rfl rfl (Nat.le_of_ble_eq_true rfl) dX0_tellFaults_17 ⟨by decide, by decide⟩ (mk_ri (fun b2 hb2 => ?_))
      have eb : b2 = K i := lfR_uniq hb2 (hK i hlti)
      subst eb
      refine mj_iload_n X dX0_tellFaults_20 rfl 2 rfl ?_
      have f16_ := (mw_un (M := M) (e := (.inl (ca 0, 24, .inl f1))) (show z ≠ z + 1 by omega)).trans hz
      have f17_ := (mw_un (M := (mw_u M (z + 1) (.inl (ca 0, 24, .inl f1)))) (e := (.inl (ca 0, 24, .inl g1))) (show z ≠ z + 2 by omega)).trans f16_
      have f18_ := mw_us (M := (mw_u (mw_u M (z + 1) (.inl (ca 0, 24, .inl f1))) (z + 2) (.inl (ca 0, 24, .inl g1)))) (a := z) (e := (.inr (3, [.ref (z + 1), .ref (z + 2), .int (nI (nz K i))])))
      have f19_ := mw_us (M := M) (a := (z + 1)) (e := (.inl (ca 0, 24, .inl f1)))
      have f20_ := (mw_un (M := (mw_u M (z + 1) (.inl (ca 0, 24, .inl f1)))) (e := (.inl (ca 0, 24, .inl g1))) (show z + 1 ≠ z + 2 by omega)).trans f19_
      have f21_ := (mw_un (M := (mw_u (mw_u M (z + 1) (.inl (ca 0, 24, .inl f1))) (z + 2) (.inl (ca 0, 24, .inl g1)))) (e := (.inr (3, [.ref (z + 1), .ref (z + 2), .int (nI (nz K i))]))) (show z + 1 ≠ z by omega)).trans f20_
      have f22_ := (mw_un (M := M) (e := (.inl (ca 0, 24, .inl f1))) (show z + 2 ≠ z + 1 by omega)).trans hz2
      have f23_ := mw_us (M := (mw_u M (z + 1) (.inl (ca 0, 24, .inl f1)))) (a := (z + 2)) (e := (.inl (ca 0, 24, .inl g1)))
      have f24_ := (mw_un (M := (mw_u (mw_u M (z + 1) (.inl (ca 0, 24, .inl f1))) (z + 2) (.inl (ca 0, 24, .inl g1)))) (e := (.inr (3, [.ref (z + 1), .ref (z + 2), .int (nI (nz K i))]))) (show z + 2 ≠ z by omega)).trans f23_
      refine mj_callV X 2 gX0_tellFaults_X2_note rfl (by decide +kernel) ⟨by decide, by decide⟩ (c_Faults_note l D ca _ sz z (nz K i) f1 g1 (K i) (nI i) f18_ f21_ f24_ (by omega)) rfl f18_ rfl rfl (Nat.le_of_ble_eq_true rfl) dX0_tellFaults_21 ⟨by decide, by decide⟩ (mk_v (fun M9 sz9 h9 => ?_))
      obtain ⟨h9, e9⟩ := h9
      obtain ⟨f2, g2, hM9, hf2⟩ : ∃ f2 g2 : Nat → Int32, M9 = (mw_u (mw_u (mw_u M (z + 1) (.inl (ca 0, 24, .inl f2))) (z + 2) (.inl (ca 0, 24, .inl g2))) z (.inr (3, [.ref (z + 1), .ref (z + 2), .int (nI (nz K (i + 1)))]))) ∧ ((∀ j, j < (nz K i) → f2 j = f1 j ∧ g2 j = g1 j) ∧ (K i ≠ 0 → f2 (nz K i) = K i ∧ g2 (nz K i) = nI i)) := by
        rcases h9 with ⟨h1, h2⟩ | ⟨h1, h2, h3⟩
        · have hk0 : K i = 0 := by rcases h1 with h1 | h1; exact h1; omega
          exact ⟨f1, g1, by rw [h2]; simp only [nz, hk0, if_true, Nat.add_zero], fun j _ => ⟨rfl, rfl⟩, fun h => absurd hk0 h⟩
        · refine ⟨_, _, h3.trans (by rw [mw_6 (by omega) (by omega) (by omega)]; simp only [nz, h1, if_false]; try rfl), fun j hj => ⟨pk_un (by omega), pk_un (by omega)⟩, fun _ => ⟨pk_us, pk_us⟩⟩
      refine mj_to rfl rfl hM9 e9 ?_
      refine mj_iinc X [(2, .int (nI (i + 1))), (0, .ref q), (1, .ref z)] dX0_tellFaults_24 2 rfl (nI_1 i) (by decide) rfl ?_
      refine mj_goto X 6 dX0_tellFaults_27 (by decide) ?_
      refine mj_sub [1, 2, 0] rfl ?_
      refine ih (i + 1) f2 g2 hlti (by omega) (fun j hj hj0 => ?_)
      rcases Nat.lt_or_ge j i with q9 | q9
      · have a1 := hin1 j q9 hj0
        have a2 : nz K j < nz K i := by have a3 := nz_mono K (show j + 1 ≤ i by omega); simp only [nz, hj0, if_false] at a3; omega
        exact ⟨(hf2.1 _ a2).1.trans a1.1, (hf2.1 _ a2).2.trans a1.2⟩
      · have e1 : j = i := by omega
        subst e1; exact hf2.2 hj0
set_option maxHeartbeats 4000000 in
set_option maxRecDepth 100000 in
/--  -/
theorem c_Coming_tellFaults (l : Launch) (D : va_G) (ca : Nat → ClassId) (M : mw_M) (sz q ec lc : Nat) (ce xl : Nat → Option Nat) (E en ek : Nat → Nat) (ef eg : Nat → Nat → Int32) (ev : Nat → Int32) (L ln : Nat → Nat) (lf : Nat → Nat → Int32) (lx ly : Nat → Int32) (z zn : Nat) (zf zg : Nat → Int32) (K H : Nat → Int32) (hq : M q = some (.inr (1, [.ref (q + 1), .int (nI ec), .ref (q + 2), .int (nI lc)]))) (hqe : M (q + 1) = some (.inl (ca 3, 12, .inr (.inr (.inr (.inr ce)))))) (hql : M (q + 2) = some (.inl (ca 4, 12, .inr (.inr (.inr (.inr xl)))))) (hec : ec ≤ 12) (hlc : lc ≤ 12) (he : ∀ i, i < ec → ce i = some (E i)) (hent : ∀ i, i < ec → isEnt ca M (E i) (en i) (ef i) (ek i) (eg i) (ev i)) (hxl : ∀ i, i < lc → xl i = some (L i)) (hlin : ∀ i, i < lc → isLin ca M (L i) (ln i) (lf i) (lx i) (ly i)) (hz : M z = some (.inr (3, [.ref (z + 1), .ref (z + 2), .int (nI zn)]))) (hz1 : M (z + 1) = some (.inl (ca 0, 24, .inl zf))) (hz2 : M (z + 2) = some (.inl (ca 0, 24, .inl zg))) (hzn : zn ≤ 24) (hqz : q + 2 < z) (hEa : ∀ i, i < ec → z + 3 ≤ E i) (hLa : ∀ i, i < lc → z + 3 ≤ L i) (hK : ∀ i, i < lc → lfR ec en ek ef eg ln lf lx ly i (K i)) (hH : ∀ i, i < ec → ffR en ef lc ln lf i (H i)) : mw_C wsX0_tellFaults l yX0_tellFaults { frames := 4, cells := 0, slots := 0, locals := 89 } D vwCl (mt ca) [.ref q, .ref z] M sz (mq_v (fun M' sz' => (∃ f' g' : Nat → Int32, M' = (mw_u (mw_u (mw_u M (z + 1) (.inl (ca 0, 24, .inl f'))) (z + 2) (.inl (ca 0, 24, .inl g'))) z (.inr (3, [.ref (z + 1), .ref (z + 2), .int (nI (nz K lc + nz H ec))]))) ∧ (∀ j, j < lc → K j ≠ 0 → f' (nz K j) = K j ∧ g' (nz K j) = nI j) ∧ (∀ j, j < ec → H j ≠ 0 → f' (nz K lc + nz H j) = H j ∧ g' (nz K lc + nz H j) = nI j)) ∧ sz' = sz)) := by
  refine mw_enter (cc := cX0_tellFaults) (maxL := 3) (ret := none) rfl (by decide) (Nat.le_of_ble_eq_true rfl) ?_
  intro p e s m below meth c X hr0 hnm hlt
  refine mj_aload_n X dX0_tellFaults_0 rfl 1 rfl ?_
  refine mj_callV X 0 gX0_tellFaults_X2_clear rfl (by decide +kernel) ⟨by decide, by decide⟩ (c_Faults_clear l D ca M sz z zn zf zg hz hz1 hz2 hzn) rfl hz rfl rfl (Nat.le_of_ble_eq_true rfl) dX0_tellFaults_1 ⟨by decide, by decide⟩ (mk_v (fun M9 sz9 h9 => ?_))
  refine mj_to rfl rfl (h9.1.trans (show _ = (mw_u (mw_u (mw_u M (z + 1) (.inl (ca 0, 24, .inl zf))) (z + 2) (.inl (ca 0, 24, .inl zg))) z (.inr (3, [.ref (z + 1), .ref (z + 2), .int (nI 0)]))) by rw [mw_self hz1, mw_self hz2])) h9.2 ?_
  refine mj_iconst X (v := 0) dX0_tellFaults_4 (by decide +kernel) ?_
  refine mj_istore_n X [(2, .int 0), (0, .ref q), (1, .ref z)] dX0_tellFaults_5 rfl (by decide) rfl ?_
  refine mj_sub [1, 2, 0] rfl ?_
  refine mj_to rfl rfl rfl rfl ?_
  exact lp_Coming_tellFaults_6 (l := l) (D := D) (ca := ca) M sz q ec lc ce xl E en ek ef eg ev L ln lf lx ly z zn zf zg K H hq hqe hql hec hlc he hent hxl hlin hz hz1 hz2 hzn hqz hEa hLa hK hH X hr0 hnm hlt (lc + 1) 0 zf zg (by omega) (by omega) (fun j hj => absurd hj (by omega))

