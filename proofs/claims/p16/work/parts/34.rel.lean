-- ===== the two sides: pure facts =====
theorem mono_ge {n : Nat} {r : Nat → Nat} (h2 : ∀ p, p + 1 < n → r p < r (p + 1)) : ∀ p, p < n → p ≤ r p
  | 0, _ => Nat.zero_le _
  | p + 1, h => by have a := mono_ge h2 p (by omega); have b := h2 p h; omega
theorem mono_up {n : Nat} {r : Nat → Nat} (h2 : ∀ p, p + 1 < n → r p < r (p + 1)) : ∀ d p, p + d < n → r p + d ≤ r (p + d)
  | 0, _, _ => Nat.le_refl _
  | d + 1, p, h => by
    have a := mono_up h2 d p (by omega)
    have b := h2 (p + d) (by omega)
    have e : p + (d + 1) = p + d + 1 := by omega
    rw [e]; omega
theorem mono_id {n : Nat} {r : Nat → Nat} (h1 : ∀ p, p < n → r p < n) (h2 : ∀ p, p + 1 < n → r p < r (p + 1)) (p : Nat) (h : p < n) : r p = p := by
  have a := mono_ge h2 p h
  have b := mono_up h2 (n - 1 - p) p (by omega)
  have d := h1 (p + (n - 1 - p)) (by omega)
  omega
/-- where the files are laid in order, the rank of the p-th is p -/
theorem rkM_sorted {pp : Nat → Int32} {psn si : Nat → Nat} {n : Nat} (h1 : ∀ p, p < n → si p < n) (h2 : ∀ p p', p < p' → p' < n → ltN (psn (si p)) (fun t => pp (24 * si p + t)) (psn (si p')) (fun t => pp (24 * si p' + t))) (p : Nat) (h : p < n) : rkM pp psn n (si p) = p :=
  mono_id (r := fun p => rkM pp psn n (si p)) (fun q hq => rkM_lt (h1 q hq)) (fun q hq => rkM_slt (h1 q (by omega)) (h2 q (q + 1) (by omega) hq)) p h
/-- lfR, ffR say the same of the same names -/
theorem same_congr {n m n' m' : Nat} {f g f' g' : Nat → Int32} (h1 : same n f n' f') (h2 : same m g m' g') : same n f m g ↔ same n' f' m' g' := ⟨fun h => (h1.symm.trans h).trans h2, fun h => (h1.trans h).trans h2.symm⟩
theorem ffR_congr {en en' : Nat → Nat} {ef ef' : Nat → Nat → Int32} {lc : Nat} {ln ln' : Nat → Nat} {lf lf' : Nat → Nat → Int32} {i : Nat} {v : Int32} (hE : ∀ p, p ≤ i → same (en p) (ef p) (en' p) (ef' p)) (hL : ∀ j, j < lc → same (ln j) (lf j) (ln' j) (lf' j)) (h : ffR en ef lc ln lf i v) : ffR en' ef' lc ln' lf' i v := by
  have cE : ∀ j, j < i → (same (en j) (ef j) (en i) (ef i) ↔ same (en' j) (ef' j) (en' i) (ef' i)) := fun j hj => same_congr (hE j (by omega)) (hE i (Nat.le_refl _))
  have cL : ∀ j, j < lc → (same (ln j) (lf j) (en i) (ef i) ↔ same (ln' j) (lf' j) (en' i) (ef' i)) := fun j hj => same_congr (hL j hj) (hE i (Nat.le_refl _))
  rcases h with ⟨j, hj, h1, h2⟩ | ⟨h1, ⟨h2, h3⟩ | ⟨j, hj, h2, h3⟩⟩
  · exact Or.inl ⟨j, hj, (cE j hj).mp h1, h2⟩
  · exact Or.inr ⟨fun j hj q => h1 j hj ((cE j hj).mpr q), Or.inl ⟨fun j hj q => h2 j hj ((cL j hj).mpr q), h3⟩⟩
  · exact Or.inr ⟨fun j hj q => h1 j hj ((cE j hj).mpr q), Or.inr ⟨j, hj, (cL j hj).mp h2, h3⟩⟩
theorem lfR_congr {ec : Nat} {en ek en' ek' : Nat → Nat} {ef eg ef' eg' : Nat → Nat → Int32} {ln ln' : Nat → Nat} {lf lf' : Nat → Nat → Int32} {lx ly lx' ly' : Nat → Int32} {i : Nat} {v : Int32} (hE : ∀ p, p < ec → same (en p) (ef p) (en' p) (ef' p)) (hL : ∀ j, j ≤ i → same (ln j) (lf j) (ln' j) (lf' j)) (hk : ∀ p, p < ec → ek p = ek' p) (hs : ∀ p, p < ec → sumN (eg p) (ek p) = sumN (eg' p) (ek' p)) (hx : lx i = lx' i) (hy : ly i = ly' i) (h : lfR ec en ek ef eg ln lf lx ly i v) : lfR ec en' ek' ef' eg' ln' lf' lx' ly' i v := by
  have cL : ∀ j, j < i → (same (ln j) (lf j) (ln i) (lf i) ↔ same (ln' j) (lf' j) (ln' i) (lf' i)) := fun j hj => same_congr (hL j (by omega)) (hL i (Nat.le_refl _))
  have cE : ∀ p, p < ec → (same (en p) (ef p) (ln i) (lf i) ↔ same (en' p) (ef' p) (ln' i) (lf' i)) := fun p hp => same_congr (hE p hp) (hL i (Nat.le_refl _))
  rcases h with ⟨j, hj, h1, h2⟩ | ⟨h1, ⟨h2, h3⟩ | ⟨p, hp, h2, h3, h4⟩⟩
  · exact Or.inl ⟨j, hj, (cL j hj).mp h1, h2⟩
  · exact Or.inr ⟨fun j hj q => h1 j hj ((cL j hj).mpr q), Or.inl ⟨fun p hp q => h2 p hp ((cE p hp).mpr q), h3⟩⟩
  · refine Or.inr ⟨fun j hj q => h1 j hj ((cL j hj).mpr q), Or.inr ⟨p, hp, (cE p hp).mp h2, fun j hj q => h3 j hj ((cE j (by omega)).mpr q), ?_⟩⟩
    rw [hk p hp, hx] at h4
    rw [← hk p hp] at h4 ⊢
    rw [hy] at h4
    have e := hs p hp
    rw [← hk p hp] at e
    rw [e] at h4
    exact h4
theorem sumN_congr {f g : Nat → Int32} : ∀ {n : Nat}, (∀ k, k < n → f k = g k) → sumN f n = sumN g n
  | 0, _ => rfl
  | n + 1, h => by simp only [sumN]; rw [sumN_congr (fun k hk => h k (by omega)), h n (by omega)]
