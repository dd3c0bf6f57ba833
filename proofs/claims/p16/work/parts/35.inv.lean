-- ===== bytes, signs, paths: pure facts of the two sides =====
theorem bp_b (x : Int32) : x.toInt8.toInt32 &&& 255 = x &&& 255 := by
  apply Int32.toBitVec_inj.mp
  rw [Int32.toBitVec_and, Int32.toBitVec_and, Int8.toBitVec_toInt32, Int32.toBitVec_toInt8]
  apply BitVec.eq_of_getLsbD_eq
  intro i hi
  rw [BitVec.getLsbD_and, BitVec.getLsbD_and]
  have hm : ∀ i < 32, 8 ≤ i → (255 : Int32).toBitVec.getLsbD i = false := by decide
  rcases Nat.lt_or_ge i 8 with z | z
  · rw [BitVec.getLsbD_signExtend, BitVec.getLsbD_signExtend, if_pos z, if_pos hi]
    simp [z, hi]
  · rw [hm i hi z, Bool.and_false, Bool.and_false]
theorem b8i (z : Int32) : z.toInt8.toInt32.toInt8.toInt32 = z.toInt8.toInt32 := by
  have h := pk_vb z
  rw [vp_nar_byte] at h
  exact h
theorem byt_inj {a b : Int32} (ha : a.toInt8.toInt32 = a) (hb : b.toInt8.toInt32 = b) (h : a &&& 255 = b &&& 255) : a = b := by
  obtain ⟨j, hj, e⟩ := pk_andE a (m := 255) 8 (by decide)
  have h1 := (sc_eq ha (n := j) hj).mpr e
  have h2 := (sc_eq hb (n := j) hj).mpr (h ▸ e)
  rw [h1, h2]
theorem byt_lo {b : Int32} (hb : b.toInt8.toInt32 = b) {a : Nat} (ha : a < 128) (h : b &&& 255 = nI a) : b = nI a := by
  have h1 := (sc_eq hb (n := a) (by omega)).mpr h
  have h2 : ∀ a : Fin 128, (nI a.val).toInt8.toInt32 = nI a.val := by decide +kernel
  rw [h1]; exact h2 ⟨a, ha⟩
theorem okc_nI {c : Int32} (h : okc c = true ∨ c = 47) : ∃ a, a < 128 ∧ c = nI a := by
  have h1 : ¬ c < 0 ∧ c ≤ 122 := by
    rcases h with h | h
    · simp only [okc, Bool.or_eq_true, Bool.and_eq_true, Bool.not_eq_true', decide_eq_false_iff_not, decide_eq_true_eq] at h
      rcases h with (⟨a, b⟩ | ⟨a, b⟩) | a
      · rw [Int32.lt_iff_toInt_lt, show (97 : Int32).toInt = 97 by decide] at a
        exact ⟨by rw [Int32.lt_iff_toInt_lt, show (0 : Int32).toInt = 0 by decide]; omega, b⟩
      · rw [Int32.lt_iff_toInt_lt, show (48 : Int32).toInt = 48 by decide] at a
        rw [Int32.le_iff_toInt_le, show (57 : Int32).toInt = 57 by decide] at b
        exact ⟨by rw [Int32.lt_iff_toInt_lt, show (0 : Int32).toInt = 0 by decide]; omega, by rw [Int32.le_iff_toInt_le, show (122 : Int32).toInt = 122 by decide]; omega⟩
      · rw [a]; decide
    · rw [h]; decide
  obtain ⟨j, hj, e⟩ := nI_of2 (M := 122) (n := 122) (by decide) h1.1 h1.2
  exact ⟨j, by omega, e⟩
theorem scn_ok {f : Nat → Int32} : ∀ (m st k : Nat), scn f st k m = true → ∀ j, k ≤ j → j < k + m → okc (f j) = true ∨ f j = 47
  | 0, _, _, _, j, h1, h2 => absurd h2 (by omega)
  | m + 1, st, k, h, j, h1, h2 => by
    rw [scn] at h
    rcases Nat.lt_or_ge k j with q | q
    · by_cases e : f k = 47
      · rw [if_pos e, Bool.and_eq_true] at h
        exact scn_ok m _ _ h.2 j q (by omega)
      · rw [if_neg e, Bool.and_eq_true] at h
        exact scn_ok m _ _ h.2 j q (by omega)
    · have e2 : j = k := by omega
      subst e2
      by_cases e : f j = 47
      · exact Or.inr e
      · rw [if_neg e, Bool.and_eq_true] at h
        exact Or.inl h.1
theorem part_congr {f g : Nat → Int32} {st k : Nat} (h : ∀ j, j < k → f j = g j) : part f st k = part g st k := by
  unfold part
  by_cases h1 : k - st = 1
  · rw [if_pos h1, if_pos h1, h st (by omega)]
  · rw [if_neg h1, if_neg h1]
    by_cases h2 : k - st = 2
    · rw [if_pos h2, if_pos h2, h st (by omega), h (st + 1) (by omega)]
    · rw [if_neg h2, if_neg h2]
theorem scn_congr {f g : Nat → Int32} : ∀ (m st k : Nat), (∀ j, j < k + m → f j = g j) → scn f st k m = scn g st k m
  | 0, st, k, h => by rw [scn, scn]; exact part_congr (fun j hj => h j (by omega))
  | m + 1, st, k, h => by
    have e1 := part_congr (f := f) (g := g) (st := st) (k := k) (fun j hj => h j (by omega))
    have e2 := scn_congr m (k + 1) (k + 1) (fun j hj => h j (by omega))
    have e3 := scn_congr m st (k + 1) (fun j hj => h j (by omega))
    rw [scn, scn, h k (by omega), e1, e2, e3]
theorem isPathB_congr {f g : Nat → Int32} {n : Nat} (h : ∀ j, j < n → f j = g j) : isPathB f n = isPathB g n := by
  unfold isPathB; rw [scn_congr n 0 0 (fun j hj => h j (by omega))]
theorem isPathB_ok {f : Nat → Int32} {n : Nat} (h : isPathB f n = true) : n ≤ 24 ∧ ∀ j, j < n → ∃ a, a < 128 ∧ f j = nI a := by
  refine ⟨(isPathB_le h).2, fun j hj => okc_nI ?_⟩
  unfold isPathB at h
  rw [Bool.and_eq_true] at h
  exact scn_ok n 0 0 h.2 j (by omega) (by omega)
theorem upd_self (f : Nat → Int32) (k : Nat) (v : Int32) : upd f k v k = v := by simp [upd]
theorem upd_ne (f : Nat → Int32) {k j : Nat} (v : Int32) (h : j ≠ k) : upd f k v j = f j := by simp [upd, h]
-- ===== contracts: weaker ends =====
theorem mw_C.imp {ws : List Cond} {l : Launch} {y : MethodName} {rm : Room} {D : va_G} {cl : List vw_C} {tys : List (ClassId × FieldType)} {av : List Value} {M : mw_M} {sz : Nat} {Post Post' : Option Value → mw_M → Nat → Prop} (h : mw_C ws l y rm D cl tys av M sz Post)
    (hp : (∀ (a : Nat) (e : va_E), M a = some e → a < sz) → ∀ (v : Option Value) (M' : mw_M) (sz' : Nat), (∀ (a : Nat) (e : va_E), M' a = some e → a < sz') → Post v M' sz' → Post' v M' sz') : mw_C ws l y rm D cl tys av M sz Post' := by
  unfold mw_C Met at h ⊢
  refine MetFree.mono h (fun _ _ q => q) (fun _ _ _ _ _ q => q) (fun a s o t hP hQ => ?_)
  obtain ⟨-, h1, h2, -⟩ := hP
  obtain ⟨⟨⟨v, M', sz', q1, q2, q3, q4, q5⟩, q6⟩, q7⟩ := hQ
  exact ⟨⟨⟨v, M', sz', q1, hp (fun a e h => by rw [← h1]; exact h2.lt h) v M' sz' (fun a e h => by rw [← q3]; exact q4.lt h) q2, q3, q4, q5⟩, q6⟩, q7⟩
theorem mx_D.imp {ws : List Cond} {l : Launch} {y : MethodName} {rm : Room} {D : va_G} {cl : List vw_C} {tys : List (ClassId × FieldType)} {av : List Value} {M : mw_M} {sz : Nat} {Post Post' : Option Value → mw_M → Nat → Prop} (h : mx_D ws l y rm D cl tys av M sz Post)
    (hp : (∀ (a : Nat) (e : va_E), M a = some e → a < sz) → ∀ (v : Option Value) (M' : mw_M) (sz' : Nat), (∀ (a : Nat) (e : va_E), M' a = some e → a < sz') → Post v M' sz' → Post' v M' sz') : mx_D ws l y rm D cl tys av M sz Post' := by
  unfold mx_D Met at h ⊢
  refine MetFree.mono h (fun _ _ q => q) (fun _ _ _ _ _ q => q) (fun a s o t hP hQ => ?_)
  obtain ⟨-, ⟨h1, h2, -⟩, -⟩ := hP
  obtain ⟨⟨⟨v, M', sz', q1, q2, q3, q4, q5⟩, q6⟩, q7⟩ := hQ
  exact ⟨⟨⟨v, M', sz', q1, hp (fun a e h => by rw [← h1]; exact h2.lt h) v M' sz' (fun a e h => by rw [← q3]; exact q4.lt h) q2, q3, q4, q5⟩, q6⟩, q7⟩
-- ===== what is kept =====
def kpt (M M1 : mw_M) (S : Nat → Prop) : Prop := ∀ (a : Nat) (e : va_E), M a = some e → S a → M1 a = some e
theorem kpt.sub {M M1 : mw_M} {S S1 : Nat → Prop} (h : kpt M M1 S) (hs : ∀ a, S1 a → S a) : kpt M M1 S1 := fun a e h1 h2 => h a e h1 (hs a h2)
theorem kpt.tr {M M1 M2 : mw_M} {S : Nat → Prop} (h : kpt M M1 S) (g : kpt M1 M2 S) : kpt M M2 S := fun a e h1 h2 => g a e (h a e h1 h2) h2
theorem kpt_rf (M : mw_M) (S : Nat → Prop) : kpt M M S := fun _ _ h _ => h
theorem kpt.u {M M1 : mw_M} {b : Nat} {e : va_E} {S : Nat → Prop} (h : kpt M M1 S) (hb : ¬ S b) : kpt M (mw_u M1 b e) S := fun a e' h1 h2 => by
  rw [mw_un (fun q => hb (by rw [← q]; exact h2))]; exact h a e' h1 h2
theorem isRow.kp {ca : Nat → ClassId} {M M1 : mw_M} {S : Nat → Prop} {r cap n : Nat} {f : Nat → Int32} (h : isRow ca M r cap n f) (hk : kpt M M1 S) (h1 : S r) (h2 : S (r + 1)) : isRow ca M1 r cap n f := ⟨hk _ _ h.1 h1, hk _ _ h.2.1 h2, h.2.2⟩
theorem isEnt.kp {ca : Nat → ClassId} {M M1 : mw_M} {S : Nat → Prop} {a n k : Nat} {f g : Nat → Int32} {x : Int32} (h : isEnt ca M a n f k g x) (hk : kpt M M1 S) (hS : ∀ b, a ≤ b → S b) : isEnt ca M1 a n f k g x :=
  ⟨hk _ _ h.1 (hS _ (Nat.le_refl _)), h.2.1.kp hk (hS _ (by omega)) (hS _ (by omega)), h.2.2.1.kp hk (hS _ (by omega)) (hS _ (by omega)), h.2.2.2⟩
theorem isLin.kp {ca : Nat → ClassId} {M M1 : mw_M} {S : Nat → Prop} {a n : Nat} {f : Nat → Int32} {x y : Int32} (h : isLin ca M a n f x y) (hk : kpt M M1 S) (hS : ∀ b, a ≤ b → S b) : isLin ca M1 a n f x y :=
  ⟨hk _ _ h.1 (hS _ (Nat.le_refl _)), h.2.1.kp hk (hS _ (by omega)) (hS _ (by omega)), h.2.2⟩
theorem isVr.kp {ca : Nat → ClassId} {M M1 : mw_M} {S : Nat → Prop} {v vc x : Nat} {ve : Nat → Option Nat} {E en ek : Nat → Nat} {ef eg : Nat → Nat → Int32} {ev : Nat → Int32} (h : isVr ca M v vc ve E en ek ef eg ev) (hk : kpt M M1 S) (hS : ∀ b, x ≤ b → S b) (h1 : x ≤ v) (h2 : ∀ i, i < vc → x ≤ E i) : isVr ca M1 v vc ve E en ek ef eg ev :=
  ⟨hk _ _ h.1 (hS _ h1), hk _ _ h.2.1 (hS _ (by omega)), h.2.2.1, h.2.2.2.1, fun i hi => (h.2.2.2.2 i hi).kp hk (fun b hb => hS b (by have := h2 i hi; omega))⟩
-- ===== the two sides in one world: groups of cells =====
/-- the two objects themselves -/
def gF (M : mw_M) (x o : Nat) (th tr pz : Int32) (n nb ec lc nv fa np to : Nat) : Prop :=
  M x = some (.inr (8, [.ref (x + 1), .ref (x + 3), .ref (x + 5), .ref (x + 8), .ref (x + 11), .int (nI nv), .ref (x + 12)])) ∧ M o = some (.inr (9, mdF o th (nI n) (nI nb) (nI ec) (nI lc) (nI nv) (nI fa) tr (nI to) pz (nI np)))
/-- the path collected -/
def gP (ca : Nat → ClassId) (M : mw_M) (x o n : Nat) (f pa : Nat → Int32) : Prop :=
  M (x + 1) = some (.inr (5, [.ref (x + 1 + 1), .int (nI n)])) ∧ M (x + 1 + 1) = some (.inl (ca 0, 30, .inl f)) ∧ n ≤ 30 ∧ M (o + 1) = some (.inl (ca 2, 30, .inl pa)) ∧ (∀ k, k < 30 → (pa k).toInt8.toInt32 = pa k) ∧ ∀ k, k < n → f k = pa k &&& 255
theorem gP.up {ca : Nat → ClassId} {M M1 : mw_M} {x o n : Nat} {f pa : Nat → Int32} (h : gP ca M x o n f pa) (hk : kpt M M1 (fun a => a = x + 1 ∨ a = x + 1 + 1 ∨ a = o + 1)) : gP ca M1 x o n f pa :=
  ⟨hk _ _ h.1 (Or.inl rfl), hk _ _ h.2.1 (Or.inr (Or.inl rfl)), h.2.2.1, hk _ _ h.2.2.2.1 (Or.inr (Or.inr rfl)), h.2.2.2.2⟩
/-- the bytes collected -/
def gO (ca : Nat → ClassId) (M : mw_M) (x o nb : Nat) (fb byt : Nat → Int32) : Prop :=
  M (x + 3) = some (.inr (5, [.ref (x + 3 + 1), .int (nI nb)])) ∧ M (x + 3 + 1) = some (.inl (ca 0, 40, .inl fb)) ∧ nb ≤ 40 ∧ M (o + 2) = some (.inl (ca 2, 40, .inl byt)) ∧ (∀ k, k < 40 → (byt k).toInt8.toInt32 = byt k) ∧ ∀ k, k < nb → fb k = byt k &&& 255
theorem gO.up {ca : Nat → ClassId} {M M1 : mw_M} {x o nb : Nat} {fb byt : Nat → Int32} (h : gO ca M x o nb fb byt) (hk : kpt M M1 (fun a => a = x + 3 ∨ a = x + 3 + 1 ∨ a = o + 2)) : gO ca M1 x o nb fb byt :=
  ⟨hk _ _ h.1 (Or.inl rfl), hk _ _ h.2.1 (Or.inr (Or.inl rfl)), h.2.2.1, hk _ _ h.2.2.2.1 (Or.inr (Or.inr rfl)), h.2.2.2.2⟩
/-- what has come, in the class -/
def gC (ca : Nat → ClassId) (M : mw_M) (x ec lc : Nat) (E en ek : Nat → Nat) (ef eg : Nat → Nat → Int32) (ev : Nat → Int32) (L ln : Nat → Nat) (lf : Nat → Nat → Int32) (lx ly : Nat → Int32) : Prop :=
  ∃ ce xl : Nat → Option Nat, M (x + 5) = some (.inr (1, [.ref (x + 5 + 1), .int (nI ec), .ref (x + 5 + 2), .int (nI lc)])) ∧ M (x + 5 + 1) = some (.inl (ca 3, 12, .inr (.inr (.inr (.inr ce))))) ∧ M (x + 5 + 2) = some (.inl (ca 4, 12, .inr (.inr (.inr (.inr xl))))) ∧ ec ≤ 12 ∧ lc ≤ 12 ∧ (∀ i, i < ec → ce i = some (E i)) ∧ (∀ i, i < ec → isEnt ca M (E i) (en i) (ef i) (ek i) (eg i) (ev i)) ∧ (∀ i, i < lc → xl i = some (L i)) ∧ (∀ i, i < lc → isLin ca M (L i) (ln i) (lf i) (lx i) (ly i)) ∧ (∀ i, i < ec → x + 30 ≤ E i) ∧ (∀ i, i < lc → x + 30 ≤ L i) ∧ (∀ i j, i < ec → j < ec → E i = E j → i = j) ∧ (∀ i, i < ec → bnd (en i) (ef i))
theorem gC.up {ca : Nat → ClassId} {M M1 : mw_M} {x ec lc : Nat} {E en ek : Nat → Nat} {ef eg : Nat → Nat → Int32} {ev : Nat → Int32} {L ln : Nat → Nat} {lf : Nat → Nat → Int32} {lx ly : Nat → Int32} (h : gC ca M x ec lc E en ek ef eg ev L ln lf lx ly) (hk : kpt M M1 (fun a => a = x + 5 ∨ a = x + 5 + 1 ∨ a = x + 5 + 2 ∨ x + 30 ≤ a)) : gC ca M1 x ec lc E en ek ef eg ev L ln lf lx ly := by
  obtain ⟨ce, xl, q1, q2, q3, q4, q5, q6, q7, q8, q9, qa, qb, qc, qd⟩ := h
  exact ⟨ce, xl, hk _ _ q1 (Or.inl rfl), hk _ _ q2 (Or.inr (Or.inl rfl)), hk _ _ q3 (Or.inr (Or.inr (Or.inl rfl))), q4, q5, q6, fun i hi => (q7 i hi).kp hk (fun b hb => Or.inr (Or.inr (Or.inr (by have := qa i hi; omega)))), q8, fun i hi => (q9 i hi).kp hk (fun b hb => Or.inr (Or.inr (Or.inr (by have := qb i hi; omega)))), qa, qb, qc, qd⟩
theorem gC.zero {ca : Nat → ClassId} {M : mw_M} {x : Nat} {ce xl : Nat → Option Nat} (E en ek : Nat → Nat) (ef eg : Nat → Nat → Int32) (ev : Nat → Int32) (L ln : Nat → Nat) (lf : Nat → Nat → Int32) (lx ly : Nat → Int32) (h1 : M (x + 5) = some (.inr (1, [.ref (x + 5 + 1), .int (nI 0), .ref (x + 5 + 2), .int (nI 0)]))) (h2 : M (x + 5 + 1) = some (.inl (ca 3, 12, .inr (.inr (.inr (.inr ce)))))) (h3 : M (x + 5 + 2) = some (.inl (ca 4, 12, .inr (.inr (.inr (.inr xl)))))) : gC ca M x 0 0 E en ek ef eg ev L ln lf lx ly :=
  ⟨ce, xl, h1, h2, h3, by omega, by omega, fun i hi => absurd hi (by omega), fun i hi => absurd hi (by omega), fun i hi => absurd hi (by omega), fun i hi => absurd hi (by omega), fun i hi => absurd hi (by omega), fun i hi => absurd hi (by omega), fun i j hi => absurd hi (by omega), fun i hi => absurd hi (by omega)⟩
/-- the reference's slots -/
def gS (ca : Nat → ClassId) (M : mw_M) (o : Nat) (ps pp si co : Nat → Int32) : Prop :=
  M (o + 3) = some (.inl (ca 0, 120, .inl ps)) ∧ M (o + 4) = some (.inl (ca 2, 2880, .inl pp)) ∧ M (o + 5) = some (.inl (ca 0, 120, .inl si)) ∧ M (o + 6) = some (.inl (ca 2, 4800, .inl co)) ∧ (∀ q, q < 2880 → (pp q).toInt8.toInt32 = pp q) ∧ (∀ q, q < 4800 → (co q).toInt8.toInt32 = co q)
theorem gS.up {ca : Nat → ClassId} {M M1 : mw_M} {o : Nat} {ps pp si co : Nat → Int32} (h : gS ca M o ps pp si co) (hk : kpt M M1 (fun a => a = o + 3 ∨ a = o + 4 ∨ a = o + 5 ∨ a = o + 6)) : gS ca M1 o ps pp si co :=
  ⟨hk _ _ h.1 (Or.inl rfl), hk _ _ h.2.1 (Or.inr (Or.inl rfl)), hk _ _ h.2.2.1 (Or.inr (Or.inr (Or.inl rfl))), hk _ _ h.2.2.2.1 (Or.inr (Or.inr (Or.inr rfl))), h.2.2.2.2⟩
/-- the reference's lines -/
def gL (ca : Nat → ClassId) (M : mw_M) (o : Nat) (ls1 ls2 : Nat → Int32) : Prop := M (o + 7) = some (.inl (ca 0, 12, .inl ls1)) ∧ M (o + 8) = some (.inl (ca 0, 12, .inl ls2))
theorem gL.up {ca : Nat → ClassId} {M M1 : mw_M} {o : Nat} {ls1 ls2 : Nat → Int32} (h : gL ca M o ls1 ls2) (hk : kpt M M1 (fun a => a = o + 7 ∨ a = o + 8)) : gL ca M1 o ls1 ls2 := ⟨hk _ _ h.1 (Or.inl rfl), hk _ _ h.2 (Or.inr rfl)⟩
/-- a file of the class in a slot of the reference -/
def slF (ps pp si co : Nat → Int32) (psn sn : Nat → Nat) (s n : Nat) (f : Nat → Int32) (k : Nat) (g : Nat → Int32) : Prop :=
  slN ps pp psn s ∧ si s = nI (sn s) ∧ sn s ≤ 40 ∧ same n f (psn s) (fun q => pp (24 * s + q)) ∧ same k g (sn s) (fun q => co (40 * s + q) &&& 255)
/-- what has come, on both sides -/
def gR (ec lc : Nat) (en ek : Nat → Nat) (ef eg : Nat → Nat → Int32) (ln : Nat → Nat) (lf : Nat → Nat → Int32) (lx ly ps pp si co ls1 ls2 : Nat → Int32) (psn sn : Nat → Nat) : Prop :=
  (∀ k, k < ec → slF ps pp si co psn sn k (en k) (ef k) (ek k) (eg k)) ∧ ∀ k, k < lc → slN ps pp psn (12 + k) ∧ same (ln k) (lf k) (psn (12 + k)) (fun q => pp (24 * (12 + k) + q)) ∧ lx k = ls1 k ∧ ly k = ls2 k
theorem gR_0 {en ek : Nat → Nat} {ef eg : Nat → Nat → Int32} {ln : Nat → Nat} {lf : Nat → Nat → Int32} {lx ly ps pp si co ls1 ls2 : Nat → Int32} {psn sn : Nat → Nat} : gR 0 0 en ek ef eg ln lf lx ly ps pp si co ls1 ls2 psn sn := ⟨fun k hk => absurd hk (by omega), fun k hk => absurd hk (by omega)⟩
/-- the faults of the latest check -/
def gZ (ca : Nat → ClassId) (M : mw_M) (x o fa : Nat) : Prop :=
  ∃ (zn : Nat) (zf zg fk fo : Nat → Int32), M (x + 8) = some (.inr (3, [.ref (x + 8 + 1), .ref (x + 8 + 2), .int (nI zn)])) ∧ M (x + 8 + 1) = some (.inl (ca 0, 24, .inl zf)) ∧ M (x + 8 + 2) = some (.inl (ca 0, 24, .inl zg)) ∧ zn ≤ 24 ∧ M (o + 11) = some (.inl (ca 0, 24, .inl fk)) ∧ M (o + 12) = some (.inl (ca 0, 24, .inl fo)) ∧ fa ≤ 24
theorem gZ.up {ca : Nat → ClassId} {M M1 : mw_M} {x o fa : Nat} (h : gZ ca M x o fa) (hk : kpt M M1 (fun a => a = x + 8 ∨ a = x + 8 + 1 ∨ a = x + 8 + 2 ∨ a = o + 11 ∨ a = o + 12)) : gZ ca M1 x o fa := by
  obtain ⟨zn, zf, zg, fk, fo, q1, q2, q3, q4, q5, q6, q7⟩ := h
  exact ⟨zn, zf, zg, fk, fo, hk _ _ q1 (Or.inl rfl), hk _ _ q2 (Or.inr (Or.inl rfl)), hk _ _ q3 (Or.inr (Or.inr (Or.inl rfl))), q4, hk _ _ q5 (Or.inr (Or.inr (Or.inr (Or.inl rfl)))), hk _ _ q6 (Or.inr (Or.inr (Or.inr (Or.inr rfl)))), q7⟩
/-- the versions, in the class -/
def gV (ca : Nat → ClassId) (M : mw_M) (x nv : Nat) (V vcn : Nat → Nat) (VE vn vk : Nat → Nat → Nat) (vf vg : Nat → Nat → Nat → Int32) (vfv : Nat → Nat → Int32) : Prop :=
  ∃ (vv : Nat → Option Nat) (vve : Nat → Nat → Option Nat), M (x + 11) = some (.inl (ca 5, 12, .inr (.inr (.inr (.inr vv))))) ∧ nv ≤ 12 ∧ (∀ j, j < nv → vv j = some (V j)) ∧ (∀ j, j < nv → isVr ca M (V j) (vcn j) (vve j) (VE j) (vn j) (vk j) (vf j) (vg j) (vfv j)) ∧ (∀ j, j < nv → x + 30 ≤ V j) ∧ (∀ j i, j < nv → i < vcn j → x + 30 ≤ VE j i)
theorem gV.up {ca : Nat → ClassId} {M M1 : mw_M} {x nv : Nat} {V vcn : Nat → Nat} {VE vn vk : Nat → Nat → Nat} {vf vg : Nat → Nat → Nat → Int32} {vfv : Nat → Nat → Int32} (h : gV ca M x nv V vcn VE vn vk vf vg vfv) (hk : kpt M M1 (fun a => a = x + 11 ∨ x + 30 ≤ a)) : gV ca M1 x nv V vcn VE vn vk vf vg vfv := by
  obtain ⟨vv, vve, q1, q2, q3, q4, q5, q6⟩ := h
  exact ⟨vv, vve, hk _ _ q1 (Or.inl rfl), q2, q3, fun j hj => (q4 j hj).kp (x := x + 30) hk (fun b hb => Or.inr hb) (q5 j hj) (fun i hi => q6 j i hj hi), q5, q6⟩
/-- how many files the versions have, in the reference; what they share -/
def gM (ca : Nat → ClassId) (M : mw_M) (o nv : Nat) (vcn : Nat → Nat) (mn sh : Nat → Int32) : Prop :=
  M (o + 9) = some (.inl (ca 0, 12, .inl mn)) ∧ M (o + 10) = some (.inl (ca 0, 120, .inl sh)) ∧ (∀ j, j < nv → mn j = nI (vcn j)) ∧ (∀ j, j < nv → vcn j ≤ 8)
theorem gM.up {ca : Nat → ClassId} {M M1 : mw_M} {o nv : Nat} {vcn : Nat → Nat} {mn sh : Nat → Int32} (h : gM ca M o nv vcn mn sh) (hk : kpt M M1 (fun a => a = o + 9 ∨ a = o + 10)) : gM ca M1 o nv vcn mn sh := ⟨hk _ _ h.1 (Or.inl rfl), hk _ _ h.2.1 (Or.inr rfl), h.2.2⟩
/-- the versions on both sides -/
def gW (nv : Nat) (vcn : Nat → Nat) (vn vk : Nat → Nat → Nat) (vf vg : Nat → Nat → Nat → Int32) (vfv : Nat → Nat → Int32) (ps pp si co sh : Nat → Int32) (psn sn : Nat → Nat) : Prop :=
  ∀ j t, j < nv → t < vcn j → slF ps pp si co psn sn (24 + 8 * j + t) (vn j t) (vf j t) (vk j t) (vg j t) ∧ vfv j t = sh (24 + 8 * j + t)
/-- no file of a version is one of those that have come -/
def gX (nv ec : Nat) (vcn : Nat → Nat) (VE : Nat → Nat → Nat) (E : Nat → Nat) : Prop := ∀ j i t, j < nv → i < vcn j → t < ec → VE j i ≠ E t
/-- the transfer -/
def gT (ca : Nat → ClassId) (M : mw_M) (x o nv : Nat) (V vcn : Nat → Nat) (vk : Nat → Nat → Nat) (vg : Nat → Nat → Nat → Int32) (np to : Nat) (tr : Int32) : Prop :=
  ∃ (src : Value) (h hr jo : Nat → Int32), M (x + 12) = some (.inr (6, [src, .ref (x + 12 + 1), .int (nI np), .int (nI (cz h 0 np))])) ∧ M (x + 12 + 1) = some (.inl (ca 1, 320, .inl h)) ∧ M (o + 13) = some (.inl (ca 1, 320, .inl hr)) ∧ M (o + 14) = some (.inl (ca 2, 320, .inl jo)) ∧ np ≤ 320 ∧ to ≤ 320 ∧ (∀ q, q < np → (h q = 0 ↔ hr q = 0)) ∧
    ((src = .null ∧ tr = 0 ∧ np = 0) ∨ (tr ≠ 0 ∧ ∃ j, j < nv ∧ src = .ref (V j) ∧ to = szs (vk j) (vcn j) ∧ ∀ t q, t < vcn j → q < vk j t → jo (szs (vk j) t + q) &&& 255 = vg j t q))
theorem gT.up {ca : Nat → ClassId} {M M1 : mw_M} {x o nv : Nat} {V vcn : Nat → Nat} {vk : Nat → Nat → Nat} {vg : Nat → Nat → Nat → Int32} {np to : Nat} {tr : Int32} (h : gT ca M x o nv V vcn vk vg np to tr) (hk : kpt M M1 (fun a => a = x + 12 ∨ a = x + 12 + 1 ∨ a = o + 13 ∨ a = o + 14)) : gT ca M1 x o nv V vcn vk vg np to tr := by
  obtain ⟨src, g, hr, jo, q1, q2, q3, q4, q5⟩ := h
  exact ⟨src, g, hr, jo, hk _ _ q1 (Or.inl rfl), hk _ _ q2 (Or.inr (Or.inl rfl)), hk _ _ q3 (Or.inr (Or.inr (Or.inl rfl))), hk _ _ q4 (Or.inr (Or.inr (Or.inr rfl))), q5⟩
/-- the law's own row -/
def gU (ca : Nat → ClassId) (M : mw_M) (x : Nat) : Prop := ∃ fl : Nat → Int64, M (x + 29) = some (.inl (ca 6, 1, .inr (.inl fl)))
theorem gU.up {ca : Nat → ClassId} {M M1 : mw_M} {x : Nat} (h : gU ca M x) (hk : kpt M M1 (fun a => a = x + 29)) : gU ca M1 x := by
  obtain ⟨fl, q⟩ := h; exact ⟨fl, hk _ _ q rfl⟩
theorem byt_sl {b : Int32} (_ : b.toInt8.toInt32 = b) (h : ∃ a : Nat, a < 256 ∧ b = nI a) : b &&& 255 = b := by
  obtain ⟨a, ha, e⟩ := h
  rw [e, pk_andN (m := 255) (by omega) 8 (by decide), Nat.mod_eq_of_lt (by omega)]
theorem cntP_congr {P Q : Nat → Prop} : ∀ {n : Nat}, (∀ i, i < n → (P i ↔ Q i)) → cntP P n = cntP Q n
  | 0, _ => rfl
  | n + 1, h => by
    have e := cntP_congr (P := P) (Q := Q) (n := n) (fun i hi => h i (by omega))
    by_cases q : P n
    · rw [cntP_t q, cntP_t ((h n (by omega)).mp q), e]
    · rw [cntP_f q, cntP_f (fun z => q ((h n (by omega)).mpr z)), e]
theorem same_byt {k k' m m' : Nat} {g g' c c' : Nat → Int32} (h : same k g m (fun q => c q &&& 255)) (h' : same k' g' m' (fun q => c' q &&& 255)) (hb : ∀ q, q < m → (c q).toInt8.toInt32 = c q) (hb' : ∀ q, q < m' → (c' q).toInt8.toInt32 = c' q) : same k g k' g' ↔ same m c m' c' := by
  obtain ⟨rfl, h2⟩ := h
  obtain ⟨rfl, h2'⟩ := h'
  constructor
  · rintro ⟨e, q⟩
    subst e
    exact ⟨rfl, fun j hj => byt_inj (hb j hj) (hb' j hj) ((h2 j hj).symm.trans ((q j hj).trans (h2' j hj)))⟩
  · rintro ⟨e, q⟩
    subst e
    exact ⟨rfl, fun j hj => (h2 j hj).trans (Eq.trans (show c j &&& 255 = c' j &&& 255 by rw [q j hj]) (h2' j hj).symm)⟩
/-- a slot that is not written -/
theorem slN_keep {ps pp ps1 pp1 : Nat → Int32} {psn psn1 : Nat → Nat} {s : Nat} (h : slN ps pp psn s) (e1 : ps1 s = ps s) (e2 : psn1 s = psn s) (e3 : ∀ q, q < 24 → pp1 (24 * s + q) = pp (24 * s + q)) : slN ps1 pp1 psn1 s :=
  ⟨by rw [e1, e2]; exact h.1, by rw [e2]; exact h.2.1, fun j hj => by rw [e2] at hj; obtain ⟨a, ha, e⟩ := h.2.2 j hj; exact ⟨a, ha, (e3 j (by have := h.2.1; omega)).trans e⟩⟩
theorem slF_keep {ps pp si co ps1 pp1 si1 co1 : Nat → Int32} {psn sn psn1 sn1 : Nat → Nat} {s n k : Nat} {f g : Nat → Int32} (h : slF ps pp si co psn sn s n f k g) (e1 : ps1 s = ps s) (e2 : psn1 s = psn s) (e3 : ∀ q, q < 24 → pp1 (24 * s + q) = pp (24 * s + q)) (e4 : si1 s = si s) (e5 : sn1 s = sn s) (e6 : ∀ q, q < 40 → co1 (40 * s + q) = co (40 * s + q)) : slF ps1 pp1 si1 co1 psn1 sn1 s n f k g :=
  ⟨slN_keep h.1 e1 e2 e3, by rw [e4, e5]; exact h.2.1, by rw [e5]; exact h.2.2.1, ⟨h.2.2.2.1.1.trans e2.symm, fun j hj => (h.2.2.2.1.2 j hj).trans (e3 j (by have := h.1.2.1; have := h.2.2.2.1.1; omega)).symm⟩, ⟨h.2.2.2.2.1.trans e5.symm, fun j hj => (h.2.2.2.2.2 j hj).trans (by show co (40 * s + j) &&& 255 = co1 (40 * s + j) &&& 255; rw [e6 j (by have := h.2.2.1; have := h.2.2.2.2.1; omega)])⟩⟩
/-- a path's signs laid into a slot -/
theorem slN_new {ps pp pa f : Nat → Int32} {psn : Nat → Nat} {s n : Nat} (hp : isPathB f n = true) (hb : ∀ k, k < 30 → (pa k).toInt8.toInt32 = pa k) (hr : ∀ k, k < n → f k = pa k &&& 255) : slN (upd ps s (nI n)) (va_cpy pa pp 0 (24 * s) n) (va_up psn s n) s ∧ same n (cut f n) (va_up psn s n s) (fun q => va_cpy pa pp 0 (24 * s) n (24 * s + q)) ∧ bnd n (cut f n) := by
  obtain ⟨h1, h2⟩ := isPathB_ok hp
  have e : ∀ j, j < n → ∃ a, a < 128 ∧ f j = nI a ∧ pa j = nI a := fun j hj => by
    obtain ⟨a, ha, e⟩ := h2 j hj
    exact ⟨a, ha, e, byt_lo (hb j (by omega)) ha ((hr j hj).symm.trans e)⟩
  refine ⟨⟨by rw [upd_self, va_up_self], by rw [va_up_self]; exact h1, fun j hj => ?_⟩, ⟨by rw [va_up_self], fun j hj => ?_⟩, fun j hj => ?_⟩
  · rw [va_up_self] at hj
    obtain ⟨a, ha, -, e2⟩ := e j hj
    exact ⟨a, by omega, (cpy_in hj).trans e2⟩
  · obtain ⟨a, -, e1, e2⟩ := e j hj
    show cut f n j = va_cpy pa pp 0 (24 * s) n (24 * s + j)
    rw [cut_at hj, cpy_in hj, e1, e2]
  · obtain ⟨a, ha, e1, -⟩ := e j hj
    exact ⟨a, by omega, by rw [cut_at hj]; exact e1⟩
theorem cpy_b {f g : Nat → Int32} {d n m N : Nat} (hf : ∀ k, k < m → (f k).toInt8.toInt32 = f k) (hn : n ≤ m) (hg : ∀ q, q < N → (g q).toInt8.toInt32 = g q) : ∀ q, q < N → (va_cpy f g 0 d n q).toInt8.toInt32 = va_cpy f g 0 d n q := fun q hq => by
  by_cases h : d ≤ q ∧ q < d + n
  · obtain ⟨t, rfl⟩ : ∃ t, q = d + t := ⟨q - d, by omega⟩
    rw [cpy_in (by omega)]; exact hf t (by omega)
  · rw [cpy_out h]; exact hg q hq
/-- the faults of a line, of a file, on the two sides -/
theorem K_ex (ec : Nat) (en ek : Nat → Nat) (ef eg : Nat → Nat → Int32) (ln : Nat → Nat) (lf : Nat → Nat → Int32) (lx ly : Nat → Int32) : ∃ K : Nat → Int32, ∀ i, lfR ec en ek ef eg ln lf lx ly i (K i) := Classical.axiomOfChoice (lfR_ex ec en ek ef eg ln lf lx ly)
theorem H_ex (en : Nat → Nat) (ef : Nat → Nat → Int32) (lc : Nat) (ln : Nat → Nat) (lf : Nat → Nat → Int32) : ∃ H : Nat → Int32, ∀ i, ffR en ef lc ln lf i (H i) := Classical.axiomOfChoice (ffR_ex en ef lc ln lf)
theorem gR.K {ec lc : Nat} {en ek : Nat → Nat} {ef eg : Nat → Nat → Int32} {ln : Nat → Nat} {lf : Nat → Nat → Int32} {lx ly ps pp si co ls1 ls2 : Nat → Int32} {psn sn : Nat → Nat} (h : gR ec lc en ek ef eg ln lf lx ly ps pp si co ls1 ls2 psn sn) {K : Nat → Int32} (hK : ∀ i, lfR ec en ek ef eg ln lf lx ly i (K i)) : ∀ i, i < lc → lfR ec psn sn (fun p j => pp (24 * p + j)) (fun p k => co (40 * p + k) &&& 255) (fun t => psn (12 + t)) (fun t j => pp (24 * (12 + t) + j)) ls1 ls2 i (K i) := fun i hi =>
  lfR_congr (fun p hp => (h.1 p hp).2.2.2.1) (fun j hj => (h.2 j (by omega)).2.1) (fun p hp => (h.1 p hp).2.2.2.2.1) (fun p hp => by have e := (h.1 p hp).2.2.2.2; rw [← e.1]; exact sumN_congr e.2) (h.2 i hi).2.2.1 (h.2 i hi).2.2.2 (hK i)
theorem gR.H {ec lc : Nat} {en ek : Nat → Nat} {ef eg : Nat → Nat → Int32} {ln : Nat → Nat} {lf : Nat → Nat → Int32} {lx ly ps pp si co ls1 ls2 : Nat → Int32} {psn sn : Nat → Nat} (h : gR ec lc en ek ef eg ln lf lx ly ps pp si co ls1 ls2 psn sn) {H : Nat → Int32} (hH : ∀ i, ffR en ef lc ln lf i (H i)) : ∀ i, i < ec → ffR psn (fun p j => pp (24 * p + j)) lc (fun t => psn (12 + t)) (fun t j => pp (24 * (12 + t) + j)) i (H i) := fun i hi =>
  ffR_congr (fun p hp => (h.1 p (by omega)).2.2.2.1) (fun j hj => (h.2 j hj).2.1) (hH i)
/-- what comes in an empty or a full place counts no piece twice -/
theorem cz_congr {h g : Nat → Int32} : ∀ (c t : Nat), (∀ q, t ≤ q → q < t + c → (h q = 0 ↔ g q = 0)) → cz h t c = cz g t c
  | 0, _, _ => rfl
  | c + 1, t, e => by
    have e1 := cz_congr c (t + 1) (fun q h1 h2 => e q (by omega) (by omega))
    have e2 := e t (by omega) (by omega)
    simp only [cz]
    rw [e1]
    by_cases q : h t = 0
    · rw [if_pos q, if_pos (e2.mp q)]
    · rw [if_neg q, if_neg (fun z => q (e2.mpr z))]
theorem cz_upd {h : Nat → Int32} {j : Nat} (hj : h j = 0) {v : Int32} (hv : v ≠ 0) : ∀ (c t : Nat), t ≤ j → j < t + c → cz (upd h j v) t c + 1 = cz h t c
  | 0, _, _, _ => by omega
  | c + 1, t, h1, h2 => by
    simp only [cz]
    by_cases e : t = j
    · have e1 := cz_congr (h := upd h j v) (g := h) c (t + 1) (fun q q1 q2 => by rw [upd_ne _ _ (by omega)])
      rw [e1, e, upd_self, if_neg hv, if_pos hj]; omega
    · have e1 := cz_upd hj hv c (t + 1) (by omega) (by omega)
      rw [upd_ne _ _ e]; omega
theorem cz_pos {h : Nat → Int32} {j : Nat} (hj : h j = 0) : ∀ (c t : Nat), t ≤ j → j < t + c → 0 < cz h t c
  | 0, _, _, _ => by omega
  | c + 1, t, h1, h2 => by
    simp only [cz]
    by_cases e : t = j
    · rw [e, if_pos hj]; omega
    · have e1 := cz_pos hj c (t + 1) (by omega) (by omega); omega
theorem cz_zero {h : Nat → Int32} : ∀ (c t : Nat), (∀ q, t ≤ q → q < t + c → h q = 0) → cz h t c = c
  | 0, _, _ => rfl
  | c + 1, t, e => by simp only [cz]; rw [cz_zero c (t + 1) (fun q h1 h2 => e q (by omega) (by omega)), if_pos (e t (by omega) (by omega))]; omega
theorem fz_first {h : Nat → Int32} {i : Nat} (hi : h i = 0) : ∀ (c t : Nat), t ≤ i → i < t + c → (∀ q, t ≤ q → q < i → h q ≠ 0) → fz h t c = nI i
  | 0, _, _, _, _ => by omega
  | c + 1, t, h1, h2, h3 => by
    simp only [fz]
    by_cases e : t = i
    · rw [e, if_pos hi]
    · rw [if_neg (h3 t (by omega) (by omega))]; exact fz_first hi c (t + 1) (by omega) (by omega) (fun q a b => h3 q (by omega) b)
theorem fz_none {h : Nat → Int32} : ∀ (c t : Nat), (∀ q, t ≤ q → q < t + c → h q ≠ 0) → fz h t c = -1
  | 0, _, _ => rfl
  | c + 1, t, h3 => by simp only [fz]; rw [if_neg (h3 t (by omega) (by omega))]; exact fz_none c (t + 1) (fun q a b => h3 q (by omega) (by omega))
theorem szs_congr {z z' : Nat → Nat} : ∀ {n : Nat}, (∀ i, i < n → z i = z' i) → szs z n = szs z' n
  | 0, _ => rfl
  | n + 1, h => by simp only [szs]; rw [szs_congr (fun i hi => h i (by omega)), h n (by omega)]
theorem szs_at {z : Nat → Nat} : ∀ {n u : Nat}, u < szs z n → ∃ i t, i < n ∧ t < z i ∧ u = szs z i + t
  | 0, u, h => absurd h (by simp [szs])
  | n + 1, u, h => by
    rcases Nat.lt_or_ge u (szs z n) with q | q
    · obtain ⟨i, t, h1, h2, h3⟩ := szs_at q; exact ⟨i, t, by omega, h2, h3⟩
    · simp only [szs] at h; exact ⟨n, u - szs z n, by omega, by omega, by omega⟩
theorem slF_wr {ps pp si co pa byt : Nat → Int32} {psn sn : Nat → Nat} {s s0 n k n0 k0 a b : Nat} {f g : Nat → Int32} {v w : Int32} (h : slF ps pp si co psn sn s n f k g) (hs : s ≠ s0) (hn : n0 ≤ 24) (hk : k0 ≤ 40) : slF (upd ps s0 v) (va_cpy pa pp 0 (24 * s0) n0) (upd si s0 w) (va_cpy byt co 0 (40 * s0) k0) (va_up psn s0 a) (va_up sn s0 b) s n f k g :=
  slF_keep h (upd_ne _ _ hs) (va_up_ne _ _ hs) (fun q hq => cpy_out (by omega)) (upd_ne _ _ hs) (va_up_ne _ _ hs) (fun q hq => cpy_out (by omega))
theorem slF_wrN {ps pp si co pa : Nat → Int32} {psn sn : Nat → Nat} {s s0 n k n0 a : Nat} {f g : Nat → Int32} {v : Int32} (h : slF ps pp si co psn sn s n f k g) (hs : s ≠ s0) (hn : n0 ≤ 24) : slF (upd ps s0 v) (va_cpy pa pp 0 (24 * s0) n0) si co (va_up psn s0 a) sn s n f k g :=
  slF_keep h (upd_ne _ _ hs) (va_up_ne _ _ hs) (fun q hq => cpy_out (by omega)) rfl rfl (fun q hq => rfl)
theorem slL_wr {ps pp pa : Nat → Int32} {psn : Nat → Nat} {s s0 n n0 a : Nat} {f : Nat → Int32} {v : Int32} (h : slN ps pp psn s) (h2 : same n f (psn s) (fun q => pp (24 * s + q))) (hs : s ≠ s0) (hn : n0 ≤ 24) : slN (upd ps s0 v) (va_cpy pa pp 0 (24 * s0) n0) (va_up psn s0 a) s ∧ same n f (va_up psn s0 a s) (fun q => va_cpy pa pp 0 (24 * s0) n0 (24 * s + q)) :=
  ⟨slN_keep h (upd_ne _ _ hs) (va_up_ne _ _ hs) (fun q hq => cpy_out (by omega)), ⟨h2.1.trans (va_up_ne _ _ hs).symm, fun j hj => (h2.2 j hj).trans (cpy_out (by have := h.2.1; have := h2.1; omega)).symm⟩⟩
