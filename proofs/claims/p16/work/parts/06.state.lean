-- ===== the state of the class in cells: a Row stands at r, its array at r + 1 =====
abbrev mt (ca : Nat → ClassId) : List (ClassId × FieldType) := [(ca 0, .int), (ca 1, .boolean), (ca 2, .byte), (ca 3, .object RX1), (ca 4, .object RX3), (ca 5, .object RX7), (ca 6, .long)]
def sumN (f : Nat → Int32) : Nat → Int32
  | 0 => 1
  | k + 1 => 65599 * sumN f k + f k
theorem i32_sub0 {x y : Int32} (h : x - y = 0) : x = y := by
  have h2 : x.toBitVec - y.toBitVec = 0#32 := congrArg Int32.toBitVec h
  exact Int32.toBitVec_inj.mp (by bv_omega)
theorem mw_4 {M : mw_M} {a b : Nat} {x x' y y' : va_E} (h : a ≠ b) : mw_u (mw_u (mw_u (mw_u M a x) b y) a x') b y' = mw_u (mw_u M a x') b y' := by
  funext q
  by_cases h1 : q = b
  · subst h1; simp [mw_u]
  · by_cases h2 : q = a
    · subst h2; simp [mw_u, h1]
    · simp [mw_u, h1, h2]
theorem mw_3 {M : mw_M} {a b : Nat} {x y y' : va_E} (h : a ≠ b) : mw_u (mw_u (mw_u M b y) a x) b y' = mw_u (mw_u M a x) b y' := by
  funext q
  by_cases h1 : q = b
  · subst h1; simp [mw_u]
  · by_cases h2 : q = a
    · subst h2; simp [mw_u, h1]
    · simp [mw_u, h1, h2]
theorem i32_max0 {c : Nat} (h : c < 2 ^ 31) : (if (0 : Int32) < nI c then nI c else 0) = nI c := by
  by_cases h0 : (0 : Int32) < nI c
  · rw [if_pos h0]
  · rw [if_neg h0]
    have h1 : ¬ nI 0 < nI c := by rw [nI_0]; exact h0
    have h2 : c = 0 := by
      rcases Nat.eq_zero_or_pos c with q | q
      · exact q
      · exact absurd (nI_lt q h) h1
    rw [h2, nI_0]
def cut (f : Nat → Int32) (n : Nat) : Nat → Int32 := fun j => if j < n then f j else 0
theorem cut_0 (f : Nat → Int32) : cut f 0 = fun _ => 0 := by funext j; simp [cut]
theorem cut_s (f : Nat → Int32) (k : Nat) : upd (cut f k) k (f k) = cut f (k + 1) := by
  funext j
  by_cases h : j = k
  · subst h; simp [upd, cut]
  · by_cases h2 : j < k
    · simp [upd, cut, h, h2, Nat.lt_succ_of_lt h2]
    · have h3 : ¬ j < k + 1 := by omega
      simp [upd, cut, h, h2, h3]
theorem cut_at {f : Nat → Int32} {n j : Nat} (h : j < n) : cut f n j = f j := if_pos h
