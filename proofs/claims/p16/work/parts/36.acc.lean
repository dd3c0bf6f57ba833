-- ===== accept on the two sides: pure facts =====
theorem pk_ex (nv ec : Nat) (vcn : Nat → Nat) (VE vn vk : Nat → Nat → Nat) (vf vg : Nat → Nat → Nat → Int32) (vfv : Nat → Nat → Int32) (E en ek : Nat → Nat) (ef eg : Nat → Nat → Int32) : ∃ (G pn pk : Nat → Nat) (pf pg : Nat → Nat → Int32) (pv : Nat → Int32) (ow : Nat → Prop),
    (nv = 0 → ∀ j, j < ec → (ow j ∧ G j = E j ∧ pn j = en j ∧ pf j = ef j ∧ pk j = ek j ∧ pg j = eg j ∧ pv j = nI nv)) ∧
    (∀ t, t + 1 = nv → ∀ j, j < ec → (ow j ∧ G j = E j ∧ pn j = en j ∧ pf j = ef j ∧ pk j = ek j ∧ pg j = eg j ∧ pv j = nI nv ∧ ∀ i2, ¬ shr (vcn t) (vn t) (vk t) (vf t) (vg t) (en j) (ef j) (ek j) (eg j) i2) ∨ (¬ ow j ∧ ∃ i2, shr (vcn t) (vn t) (vk t) (vf t) (vg t) (en j) (ef j) (ek j) (eg j) i2 ∧ G j = VE t i2 ∧ pn j = vn t i2 ∧ pf j = vf t i2 ∧ pk j = vk t i2 ∧ pg j = vg t i2 ∧ pv j = vfv t i2)) := by
  by_cases h0 : nv = 0
  · exact ⟨E, en, ek, ef, eg, fun _ => nI nv, fun _ => True, fun _ j _ => ⟨trivial, rfl, rfl, rfl, rfl, rfl, rfl⟩, fun t ht => absurd ht (by omega)⟩
  · obtain ⟨t, ht⟩ : ∃ t, t + 1 = nv := ⟨nv - 1, by omega⟩
    have h : ∀ j, ∃ c : Nat, (∃ i2, shr (vcn t) (vn t) (vk t) (vf t) (vg t) (en j) (ef j) (ek j) (eg j) i2) → shr (vcn t) (vn t) (vk t) (vf t) (vg t) (en j) (ef j) (ek j) (eg j) c := fun j => by
      by_cases q : ∃ i2, shr (vcn t) (vn t) (vk t) (vf t) (vg t) (en j) (ef j) (ek j) (eg j) i2
      · obtain ⟨i2, q⟩ := q; exact ⟨i2, fun _ => q⟩
      · exact ⟨0, fun z => absurd z q⟩
    obtain ⟨c, hc⟩ := Classical.axiomOfChoice h
    refine ⟨fun j => @ite _ (∀ i2, ¬ shr (vcn t) (vn t) (vk t) (vf t) (vg t) (en j) (ef j) (ek j) (eg j) i2) (Classical.propDecidable _) (E j) (VE t (c j)), fun j => @ite _ (∀ i2, ¬ shr (vcn t) (vn t) (vk t) (vf t) (vg t) (en j) (ef j) (ek j) (eg j) i2) (Classical.propDecidable _) (en j) (vn t (c j)), fun j => @ite _ (∀ i2, ¬ shr (vcn t) (vn t) (vk t) (vf t) (vg t) (en j) (ef j) (ek j) (eg j) i2) (Classical.propDecidable _) (ek j) (vk t (c j)), fun j => @ite _ (∀ i2, ¬ shr (vcn t) (vn t) (vk t) (vf t) (vg t) (en j) (ef j) (ek j) (eg j) i2) (Classical.propDecidable _) (ef j) (vf t (c j)), fun j => @ite _ (∀ i2, ¬ shr (vcn t) (vn t) (vk t) (vf t) (vg t) (en j) (ef j) (ek j) (eg j) i2) (Classical.propDecidable _) (eg j) (vg t (c j)), fun j => @ite _ (∀ i2, ¬ shr (vcn t) (vn t) (vk t) (vf t) (vg t) (en j) (ef j) (ek j) (eg j) i2) (Classical.propDecidable _) (nI nv) (vfv t (c j)), fun j => ∀ i2, ¬ shr (vcn t) (vn t) (vk t) (vf t) (vg t) (en j) (ef j) (ek j) (eg j) i2, fun h9 => absurd h9 h0, fun t' ht' j hj => ?_⟩
    have e : t' = t := by omega
    subst e
    by_cases ho : ∀ i2, ¬ shr (vcn t') (vn t') (vk t') (vf t') (vg t') (en j) (ef j) (ek j) (eg j) i2
    · exact Or.inl ⟨ho, if_pos ho, if_pos ho, if_pos ho, if_pos ho, if_pos ho, if_pos ho, ho⟩
    · refine Or.inr ⟨ho, c j, hc j ?_, if_neg ho, if_neg ho, if_neg ho, if_neg ho, if_neg ho, if_neg ho⟩
      exact Classical.byContradiction (fun q => ho (fun i2 z => q ⟨i2, z⟩))
/-- what is picked for a file -/
def pckd (nv : Nat) (vcn : Nat → Nat) (VE vn vk : Nat → Nat → Nat) (vf vg : Nat → Nat → Nat → Int32) (vfv : Nat → Nat → Int32) (Ej nj kj : Nat) (fj gj : Nat → Int32) (Gj pnj pkj : Nat) (pfj pgj : Nat → Int32) (pvj : Int32) (owj : Prop) : Prop :=
  (owj ∧ Gj = Ej ∧ pnj = nj ∧ pfj = fj ∧ pkj = kj ∧ pgj = gj ∧ pvj = nI nv ∧ ∀ t i2, t + 1 = nv → ¬ shr (vcn t) (vn t) (vk t) (vf t) (vg t) nj fj kj gj i2) ∨
  (¬ owj ∧ ∃ t i2, t + 1 = nv ∧ shr (vcn t) (vn t) (vk t) (vf t) (vg t) nj fj kj gj i2 ∧ Gj = VE t i2 ∧ pnj = vn t i2 ∧ pfj = vf t i2 ∧ pkj = vk t i2 ∧ pgj = vg t i2 ∧ pvj = vfv t i2)
theorem pckd_of {nv ec : Nat} {vcn : Nat → Nat} {VE vn vk : Nat → Nat → Nat} {vf vg : Nat → Nat → Nat → Int32} {vfv : Nat → Nat → Int32} {E en ek : Nat → Nat} {ef eg : Nat → Nat → Int32} {G pn pk : Nat → Nat} {pf pg : Nat → Nat → Int32} {pv : Nat → Int32} {ow : Nat → Prop}
    (h0 : nv = 0 → ∀ j, j < ec → (ow j ∧ G j = E j ∧ pn j = en j ∧ pf j = ef j ∧ pk j = ek j ∧ pg j = eg j ∧ pv j = nI nv))
    (h1 : ∀ t, t + 1 = nv → ∀ j, j < ec → (ow j ∧ G j = E j ∧ pn j = en j ∧ pf j = ef j ∧ pk j = ek j ∧ pg j = eg j ∧ pv j = nI nv ∧ ∀ i2, ¬ shr (vcn t) (vn t) (vk t) (vf t) (vg t) (en j) (ef j) (ek j) (eg j) i2) ∨ (¬ ow j ∧ ∃ i2, shr (vcn t) (vn t) (vk t) (vf t) (vg t) (en j) (ef j) (ek j) (eg j) i2 ∧ G j = VE t i2 ∧ pn j = vn t i2 ∧ pf j = vf t i2 ∧ pk j = vk t i2 ∧ pg j = vg t i2 ∧ pv j = vfv t i2))
    (j : Nat) (hj : j < ec) : pckd nv vcn VE vn vk vf vg vfv (E j) (en j) (ek j) (ef j) (eg j) (G j) (pn j) (pk j) (pf j) (pg j) (pv j) (ow j) := by
  by_cases z : nv = 0
  · obtain ⟨a1, a2, a3, a4, a5, a6, a7⟩ := h0 z j hj
    exact Or.inl ⟨a1, a2, a3, a4, a5, a6, a7, fun t i2 ht => absurd ht (by omega)⟩
  · rcases h1 (nv - 1) (by omega) j hj with ⟨a1, a2, a3, a4, a5, a6, a7, a8⟩ | ⟨a1, i2, a2⟩
    · exact Or.inl ⟨a1, a2, a3, a4, a5, a6, a7, fun t i2 ht => by have e : t = nv - 1 := by omega
                                                                  rw [e]; exact a8 i2⟩
    · exact Or.inr ⟨a1, nv - 1, i2, by omega, a2⟩
theorem slF_move {ps pp si co ps1 pp1 si1 co1 : Nat → Int32} {psn sn psn1 sn1 : Nat → Nat} {s g n k : Nat} {f d : Nat → Int32} (h : slF ps pp si co psn sn g n f k d) (e1 : ps1 s = ps g) (e2 : psn1 s = psn g) (e3 : ∀ q, q < 24 → pp1 (24 * s + q) = pp (24 * g + q)) (e4 : si1 s = si g) (e5 : sn1 s = sn g) (e6 : ∀ q, q < 40 → co1 (40 * s + q) = co (40 * g + q)) : slF ps1 pp1 si1 co1 psn1 sn1 s n f k d :=
  ⟨⟨by rw [e1, e2]; exact h.1.1, by rw [e2]; exact h.1.2.1, fun j hj => by rw [e2] at hj; obtain ⟨a, ha, e⟩ := h.1.2.2 j hj; exact ⟨a, ha, (e3 j (by have := h.1.2.1; omega)).trans e⟩⟩, by rw [e4, e5]; exact h.2.1, by rw [e5]; exact h.2.2.1, ⟨h.2.2.2.1.1.trans e2.symm, fun j hj => (h.2.2.2.1.2 j hj).trans (e3 j (by have := h.1.2.1; have := h.2.2.2.1.1; omega)).symm⟩, ⟨h.2.2.2.2.1.trans e5.symm, fun j hj => (h.2.2.2.2.2 j hj).trans (by show co (40 * g + j) &&& 255 = co1 (40 * s + j) &&& 255; rw [e6 j (by have := h.2.2.1; have := h.2.2.2.2.1; omega)])⟩⟩
theorem slF_cls {ps pp si co : Nat → Int32} {psn sn : Nat → Nat} {s n k n' k' : Nat} {f d f' d' : Nat → Int32} (h : slF ps pp si co psn sn s n f k d) (h1 : same n' f' n f) (h2 : same k' d' k d) : slF ps pp si co psn sn s n' f' k' d' := ⟨h.1, h.2.1, h.2.2.1, h1.trans h.2.2.2.1, h2.trans h.2.2.2.2⟩
theorem acc_pure {nv ec lc : Nat} {vcn : Nat → Nat} {VE vn vk : Nat → Nat → Nat} {vf vg : Nat → Nat → Nat → Int32} {vfv : Nat → Nat → Int32} {E en ek : Nat → Nat} {ef eg : Nat → Nat → Int32} {ln : Nat → Nat} {lf : Nat → Nat → Int32} {lx ly ps pp si co ls1 ls2 sh ps1 pp1 si1 co1 sh1 : Nat → Int32} {psn sn si' : Nat → Nat} {G pn pk : Nat → Nat} {pf pg : Nat → Nat → Int32} {pv : Nat → Int32} {ow : Nat → Prop}
    (hR : gR ec lc en ek ef eg ln lf lx ly ps pp si co ls1 ls2 psn sn) (hW : gW nv vcn vn vk vf vg vfv ps pp si co sh psn sn) (hnv : nv < 12) (hec : ec ≤ 8) (hvc : ∀ j, j < nv → vcn j ≤ 8) (hcb : ∀ q, q < 4800 → (co q).toInt8.toInt32 = co q)
    (hac : acI ps pp si co sh ps1 pp1 si1 co1 sh1 psn sn vcn nv ec ec) (h1 : ∀ p, p < ec → si' p < ec) (h2 : ∀ p p', p < p' → p' < ec → ltN (en (si' p)) (ef (si' p)) (en (si' p')) (ef (si' p')))
    (hpk : ∀ j, j < ec → pckd nv vcn VE vn vk vf vg vfv (E j) (en j) (ek j) (ef j) (eg j) (G j) (pn j) (pk j) (pf j) (pg j) (pv j) (ow j)) :
    gW (nv + 1) (va_up vcn nv ec) (va_up vn nv (fun p => pn (si' p))) (va_up vk nv (fun p => pk (si' p))) (va_up vf nv (fun p => pf (si' p))) (va_up vg nv (fun p => pg (si' p))) (va_up vfv nv (fun p => pv (si' p))) ps1 pp1 si1 co1 sh1 (fun a => if a < 24 + 8 * nv then psn a else psn (si' (a - (24 + 8 * nv)))) (fun a => if a < 24 + 8 * nv then sn a else sn (si' (a - (24 + 8 * nv)))) := by
  intro j t hj ht
  by_cases e : j = nv
  · subst e
    rw [va_up_self] at ht
    rw [va_up_self, va_up_self, va_up_self, va_up_self, va_up_self]
    have hg := h1 t ht
    have hrk : rkM pp psn ec (si' t) = t := rkM_sorted (si := si') h1 (fun p p' a b => ltN_same (hR.1 _ (h1 p (by omega))).2.2.2.1 (hR.1 _ (h1 p' b)).2.2.2.1 (h2 p p' a b)) t ht
    obtain ⟨y1, y2, y3, y4, y5⟩ := hac.2.2 (si' t) hg
    rw [hrk] at y1 y2 y3 y4 y5
    have w := hR.1 (si' t) hg
    have e1 : (fun a => if a < 24 + 8 * j then psn a else psn (si' (a - (24 + 8 * j)))) (24 + 8 * j + t) = psn (si' t) := by
      show (if 24 + 8 * j + t < 24 + 8 * j then psn (24 + 8 * j + t) else psn (si' (24 + 8 * j + t - (24 + 8 * j)))) = _
      rw [if_neg (by omega), show 24 + 8 * j + t - (24 + 8 * j) = t by omega]
    have e2 : (fun a => if a < 24 + 8 * j then sn a else sn (si' (a - (24 + 8 * j)))) (24 + 8 * j + t) = sn (si' t) := by
      show (if 24 + 8 * j + t < 24 + 8 * j then sn (24 + 8 * j + t) else sn (si' (24 + 8 * j + t - (24 + 8 * j)))) = _
      rw [if_neg (by omega), show 24 + 8 * j + t - (24 + 8 * j) = t by omega]
    have w1 := slF_move (psn1 := fun a => if a < 24 + 8 * j then psn a else psn (si' (a - (24 + 8 * j)))) (sn1 := fun a => if a < 24 + 8 * j then sn a else sn (si' (a - (24 + 8 * j)))) w y1 e1 y3 y2 e2 y4
    have al : ∀ t0 i2, t0 + 1 = j → i2 < vcn t0 → (alM co (24 + 8 * t0 + i2) (sn (24 + 8 * t0 + i2)) (si' t) (sn (si' t)) ↔ same (vk t0 i2) (vg t0 i2) (ek (si' t)) (eg (si' t))) := fun t0 i2 z1 z2 => by
      have w2 := (hW t0 i2 (by omega) z2).1
      have z3 := hvc t0 (by omega)
      exact (same_byt (c := fun q => co (40 * (24 + 8 * t0 + i2) + q)) (c' := fun q => co (40 * si' t + q)) w2.2.2.2.2 w.2.2.2.2 (fun q hq => hcb _ (by have := w2.2.2.1; omega)) (fun q hq => hcb _ (by have := w.2.2.1; omega))).symm
    have nm : ∀ t0 i2, t0 + 1 = j → i2 < vcn t0 → (same (psn (24 + 8 * t0 + i2)) (fun q => pp (24 * (24 + 8 * t0 + i2) + q)) (psn (si' t)) (fun q => pp (24 * si' t + q)) ↔ same (vn t0 i2) (vf t0 i2) (en (si' t)) (ef (si' t))) := fun t0 i2 z1 z2 => (same_congr (hW t0 i2 (by omega) z2).1.2.2.2.1 w.2.2.2.1).symm
    rcases hpk (si' t) hg with ⟨a1, a2, a3, a4, a5, a6, a7, a8⟩ | ⟨a1, t0, i2, a0, a2, a3, a4, a5, a6, a7, a8⟩
    · show slF _ _ _ _ _ _ _ (pn (si' t)) (pf (si' t)) (pk (si' t)) (pg (si' t)) ∧ pv (si' t) = _
      rw [a3, a4, a5, a6, a7]
      refine ⟨w1, ?_⟩
      rcases y5 with ⟨t1, u, b1, b2, b3, b4, b5, b6⟩ | ⟨b1, b2⟩
      · exact absurd ⟨b2, (nm t1 u b1 b2).mp b3, fun k hk z => b4 k hk ((nm t1 k b1 (by omega)).mpr z), (al t1 u b1 b2).mp b5⟩ (a8 t1 u b1)
      · exact b2.symm
    · show slF _ _ _ _ _ _ _ (pn (si' t)) (pf (si' t)) (pk (si' t)) (pg (si' t)) ∧ pv (si' t) = _
      rw [a4, a5, a6, a7, a8]
      refine ⟨slF_cls w1 a2.2.1 a2.2.2.2, ?_⟩
      rw [(hW t0 i2 (by omega) a2.1).2]
      rcases y5 with ⟨t1, u, b1, b2, b3, b4, b5, b6⟩ | ⟨b1, b2⟩
      · have e9 : t1 = t0 := by omega
        subst e9
        rw [b6]
        have e8 : u = i2 := least_eq (P := fun k => k < vcn t1 ∧ same (vn t1 k) (vf t1 k) (en (si' t)) (ef (si' t))) ⟨b2, (nm t1 u b1 b2).mp b3⟩ (fun k hk z => b4 k hk ((nm t1 k b1 z.1).mpr z.2)) ⟨a2.1, a2.2.1⟩ (fun k hk z => a2.2.2.1 k hk z.2)
        rw [e8]
      · exact absurd ((al t0 i2 a0 a2.1).mpr a2.2.2.2) (b1 t0 i2 a0 a2.1 ((nm t0 i2 a0 a2.1).mpr a2.2.1) (fun k hk z => a2.2.2.1 k hk ((nm t0 k a0 (by have := a2.1; omega)).mp z)))
  · have hj' : j < nv := by omega
    rw [va_up_ne _ _ e] at ht
    rw [va_up_ne _ _ e, va_up_ne _ _ e, va_up_ne _ _ e, va_up_ne _ _ e, va_up_ne _ _ e]
    have z := hvc j hj'
    have hs : 24 + 8 * j + t < 24 + 8 * nv := by omega
    obtain ⟨c1, c2, c3, c4, c5⟩ := hac.1
    refine ⟨slF_keep (hW j t hj' ht).1 (c1 _ hs).1 (if_pos hs) (fun q hq => c2 _ (by omega)) (c1 _ hs).2 (if_pos hs) (fun q hq => c3 _ (by omega)), ?_⟩
    rw [(hW j t hj' ht).2, hac.2.1 _ hs]
theorem isEnt.upk2 {ca : Nat → ClassId} {M M1 : mw_M} {a n k b0 : Nat} {f g : Nat → Int32} {x x' : Int32} (h : isEnt ca M a n f k g x) (h0 : b0 ≤ a) (hk : ∀ (b : Nat) (e9 : va_E), M b = some e9 → b0 ≤ b → (∀ fs, e9 ≠ .inr (2, fs)) → M1 b = some e9) (ha : M1 a = some (.inr (2, [.ref (a + 1), .ref (a + 3), .int (sumN g k), .int x']))) : isEnt ca M1 a n f k g x' :=
  ⟨ha, ⟨hk _ _ h.2.1.1 (by omega) (by intro fs; simp), hk _ _ h.2.1.2.1 (by omega) (by intro fs; simp), h.2.1.2.2⟩, ⟨hk _ _ h.2.2.1.1 (by omega) (by intro fs; simp), hk _ _ h.2.2.1.2.1 (by omega) (by intro fs; simp), h.2.2.1.2.2⟩, h.2.2.2⟩
