-- ===== what makes signs a path, as a function of the signs =====
def okc (c : Int32) : Bool := (!decide (c < 97) && decide (c ≤ 122)) || (!decide (c < 48) && decide (c ≤ 57)) || decide (c = 46)
def b2i (b : Bool) : Int32 := if b = true then 1 else 0
theorem b2i_ne {b : Bool} (h : ¬ b2i b = 0) : b = true := by cases b <;> simp_all [b2i]
theorem b2i_eq {b : Bool} (h : b2i b = 0) : b = false := by
  cases b
  · rfl
  · exact absurd h (by decide)
theorem b2i_nar (b : Bool) : narrow .boolean (.int (b2i b)) = .int (b2i b) := by cases b <;> rfl
/-- a part of a path, from st to k -/
def part (f : Nat → Int32) (st k : Nat) : Bool := if k - st = 1 then !decide (f st = 46) else if k - st = 2 then !(decide (f st = 46) && decide (f (st + 1) = 46)) else decide (0 < k - st)
/-- the rest of a path, from k on, m signs more, the part began at st -/
def scn (f : Nat → Int32) : Nat → Nat → Nat → Bool
  | st, k, 0 => part f st k
  | st, k, m + 1 => if f k = 47 then part f st k && scn f (k + 1) (k + 1) m else okc (f k) && scn f st (k + 1) m
def isPathB (f : Nat → Int32) (n : Nat) : Bool := decide (1 ≤ n) && decide (n ≤ 24) && scn f 0 0 n

set_option maxHeartbeats 4000000 in
set_option maxRecDepth 100000 in
/--  -/
theorem c_allowInPart (l : Launch) (D : va_G) (ca : Nat → ClassId) (M : mw_M) (sz : Nat) (x : Int32)  : mw_C wsX4_allowInPart l yX4_allowInPart { frames := 0, cells := 0, slots := 0, locals := 0 } D vwCl (mt ca) [.int x] M sz (mq_i (fun v M' sz' => M' = M ∧ sz' = sz ∧ v = b2i (okc x))) := by
  refine mw_enter (cc := cX4_allowInPart) (maxL := 1) (ret := (some .boolean)) rfl (by decide) (Nat.le_of_ble_eq_true rfl) ?_
  intro p e s m below meth c X hr0 hnm hlt
  refine mj_iload_n X dX4_allowInPart_0 rfl 0 rfl ?_
  refine mj_bipush X (v := 97) dX4_allowInPart_1 (by decide +kernel) ?_
  refine mj_icmp_lt X 12 dX4_allowInPart_3 (by decide) (fun c3 => ?_) (fun c3 => ?_)
  · refine mj_iload_n X dX4_allowInPart_12 rfl 0 rfl ?_
    refine mj_bipush X (v := 48) dX4_allowInPart_13 (by decide +kernel) ?_
    refine mj_icmp_lt X 24 dX4_allowInPart_15 (by decide) (fun c15 => ?_) (fun c15 => ?_)
    · refine mj_iload_n X dX4_allowInPart_24 rfl 0 rfl ?_
      refine mj_bipush X (v := 46) dX4_allowInPart_25 (by decide +kernel) ?_
      refine mj_icmp_ne X 34 dX4_allowInPart_27 (by decide) (fun c27 => ?_) (fun c27 => ?_)
      · refine mj_iconst X (v := 0) dX4_allowInPart_34 (by decide +kernel) ?_
        refine mj_zret X rfl hr0 (by decide) (by decide) dX4_allowInPart_35 ?_
        exact ⟨_, rfl, rfl, rfl, by simp_all [okc, b2i]⟩
      · refine mj_iconst X (v := 1) dX4_allowInPart_30 (by decide +kernel) ?_
        refine mj_goto X 35 dX4_allowInPart_31 (by decide) ?_
        refine mj_zret X rfl hr0 (by decide) (by decide) dX4_allowInPart_35 ?_
        exact ⟨_, rfl, rfl, rfl, by simp_all [okc, b2i]⟩
    · refine mj_iload_n X dX4_allowInPart_18 rfl 0 rfl ?_
      refine mj_bipush X (v := 57) dX4_allowInPart_19 (by decide +kernel) ?_
      refine mj_icmp_le X 30 dX4_allowInPart_21 (by decide) (fun c21 => ?_) (fun c21 => ?_)
      · refine mj_iconst X (v := 1) dX4_allowInPart_30 (by decide +kernel) ?_
        refine mj_goto X 35 dX4_allowInPart_31 (by decide) ?_
        refine mj_zret X rfl hr0 (by decide) (by decide) dX4_allowInPart_35 ?_
        exact ⟨_, rfl, rfl, rfl, by simp_all [okc, b2i]⟩
      · refine mj_iload_n X dX4_allowInPart_24 rfl 0 rfl ?_
        refine mj_bipush X (v := 46) dX4_allowInPart_25 (by decide +kernel) ?_
        refine mj_icmp_ne X 34 dX4_allowInPart_27 (by decide) (fun c27 => ?_) (fun c27 => ?_)
        · refine mj_iconst X (v := 0) dX4_allowInPart_34 (by decide +kernel) ?_
          refine mj_zret X rfl hr0 (by decide) (by decide) dX4_allowInPart_35 ?_
          exact ⟨_, rfl, rfl, rfl, by simp_all [okc, b2i]⟩
        · refine mj_iconst X (v := 1) dX4_allowInPart_30 (by decide +kernel) ?_
          refine mj_goto X 35 dX4_allowInPart_31 (by decide) ?_
          refine mj_zret X rfl hr0 (by decide) (by decide) dX4_allowInPart_35 ?_
          exact ⟨_, rfl, rfl, rfl, by simp_all [okc, b2i]⟩
  · refine mj_iload_n X dX4_allowInPart_6 rfl 0 rfl ?_
    refine mj_bipush X (v := 122) dX4_allowInPart_7 (by decide +kernel) ?_
    refine mj_icmp_le X 30 dX4_allowInPart_9 (by decide) (fun c9 => ?_) (fun c9 => ?_)
    · refine mj_iconst X (v := 1) dX4_allowInPart_30 (by decide +kernel) ?_
      refine mj_goto X 35 dX4_allowInPart_31 (by decide) ?_
      refine mj_zret X rfl hr0 (by decide) (by decide) dX4_allowInPart_35 ?_
      exact ⟨_, rfl, rfl, rfl, by simp_all [okc, b2i]⟩
    · refine mj_iload_n X dX4_allowInPart_12 rfl 0 rfl ?_
      refine mj_bipush X (v := 48) dX4_allowInPart_13 (by decide +kernel) ?_
      refine mj_icmp_lt X 24 dX4_allowInPart_15 (by decide) (fun c15 => ?_) (fun c15 => ?_)
      · refine mj_iload_n X dX4_allowInPart_24 rfl 0 rfl ?_
        refine mj_bipush X (v := 46) dX4_allowInPart_25 (by decide +kernel) ?_
        refine mj_icmp_ne X 34 dX4_allowInPart_27 (by decide) (fun c27 => ?_) (fun c27 => ?_)
        · refine mj_iconst X (v := 0) dX4_allowInPart_34 (by decide +kernel) ?_
          refine mj_zret X rfl hr0 (by decide) (by decide) dX4_allowInPart_35 ?_
          exact ⟨_, rfl, rfl, rfl, by simp_all [okc, b2i]⟩
        · refine mj_iconst X (v := 1) dX4_allowInPart_30 (by decide +kernel) ?_
          refine mj_goto X 35 dX4_allowInPart_31 (by decide) ?_
          refine mj_zret X rfl hr0 (by decide) (by decide) dX4_allowInPart_35 ?_
          exact ⟨_, rfl, rfl, rfl, by simp_all [okc, b2i]⟩
      · refine mj_iload_n X dX4_allowInPart_18 rfl 0 rfl ?_
        refine mj_bipush X (v := 57) dX4_allowInPart_19 (by decide +kernel) ?_
        refine mj_icmp_le X 30 dX4_allowInPart_21 (by decide) (fun c21 => ?_) (fun c21 => ?_)
        · refine mj_iconst X (v := 1) dX4_allowInPart_30 (by decide +kernel) ?_
          refine mj_goto X 35 dX4_allowInPart_31 (by decide) ?_
          refine mj_zret X rfl hr0 (by decide) (by decide) dX4_allowInPart_35 ?_
          exact ⟨_, rfl, rfl, rfl, by simp_all [okc, b2i]⟩
        · refine mj_iload_n X dX4_allowInPart_24 rfl 0 rfl ?_
          refine mj_bipush X (v := 46) dX4_allowInPart_25 (by decide +kernel) ?_
          refine mj_icmp_ne X 34 dX4_allowInPart_27 (by decide) (fun c27 => ?_) (fun c27 => ?_)
          · refine mj_iconst X (v := 0) dX4_allowInPart_34 (by decide +kernel) ?_
            refine mj_zret X rfl hr0 (by decide) (by decide) dX4_allowInPart_35 ?_
            exact ⟨_, rfl, rfl, rfl, by simp_all [okc, b2i]⟩
          · refine mj_iconst X (v := 1) dX4_allowInPart_30 (by decide +kernel) ?_
            refine mj_goto X 35 dX4_allowInPart_31 (by decide) ?_
            refine mj_zret X rfl hr0 (by decide) (by decide) dX4_allowInPart_35 ?_
            exact ⟨_, rfl, rfl, rfl, by simp_all [okc, b2i]⟩


set_option maxHeartbeats 4000000 in
set_option maxRecDepth 100000 in
/--  -/
theorem c_allowPart (l : Launch) (D : va_G) (ca : Nat → ClassId) (M : mw_M) (sz r cap n : Nat) (f : Nat → Int32) (st k : Nat) (hr : M r = some (.inr (5, [.ref (r + 1), .int (nI n)]))) (ha : M (r + 1) = some (.inl (ca 0, cap, .inl f))) (hn : n ≤ cap) (hcap : cap < 1000) (hst : st ≤ k) (hk : k ≤ n) : mw_C wsX4_allowPart l yX4_allowPart { frames := 2, cells := 0, slots := 0, locals := 42 } D vwCl (mt ca) [.ref r, .int (nI st), .int (nI k)] M sz (mq_i (fun v M' sz' => M' = M ∧ sz' = sz ∧ v = b2i (part f st k))) := by
  refine mw_enter (cc := cX4_allowPart) (maxL := 4) (ret := (some .boolean)) rfl (by decide) (Nat.le_of_ble_eq_true rfl) ?_
  intro p e s m below meth c X hr0 hnm hlt
  refine mj_iload_n X dX4_allowPart_0 rfl 2 rfl ?_
  refine mj_iload_n X dX4_allowPart_1 rfl 1 rfl ?_
  refine mj_isub X dX4_allowPart_2 ?_
  refine mj_top (nI (k - st)) (pk_sub hst) ?_
  refine mj_istore_n X [(3, .int (nI (k - st))), (0, .ref r), (1, .int (nI st)), (2, .int (nI k))] dX4_allowPart_3 rfl (by decide) rfl ?_
  refine mj_iload_n X dX4_allowPart_4 rfl 0 rfl ?_
  refine mj_iconst X (v := 1) dX4_allowPart_5 (by decide +kernel) ?_
  refine mj_icmp_ne X 25 dX4_allowPart_6 (by decide) (fun c6 => ?_) (fun c6 => ?_)
  · have hk1 : ¬ k - st = 1 := fun h9 => c6 (by rw [h9]; rfl)
    refine mj_iload_n X dX4_allowPart_25 rfl 0 rfl ?_
    refine mj_iconst X (v := 2) dX4_allowPart_26 (by decide +kernel) ?_
    refine mj_icmp_ne X 58 dX4_allowPart_27 (by decide) (fun c27 => ?_) (fun c27 => ?_)
    · have hk2 : ¬ k - st = 2 := fun h9 => c27 (by rw [h9]; rfl)
      refine mj_iload_n X dX4_allowPart_58 rfl 0 rfl ?_
      refine mj_if_le X 66 dX4_allowPart_59 (by decide) (fun c59 => ?_) (fun c59 => ?_)
      · have hk3 : ¬ 0 < k - st := fun h9 => nI_nle h9 (by omega) c59
        refine mj_iconst X (v := 0) dX4_allowPart_66 (by decide +kernel) ?_
        refine mj_zret X rfl hr0 (by decide) (by decide) dX4_allowPart_67 ?_
        exact ⟨_, rfl, rfl, rfl, by simp_all [part, b2i]⟩
      · have hk3 : 0 < k - st := Nat.pos_of_ne_zero (fun h9 => c59 (by rw [h9, nI_0]; decide))
        refine mj_iconst X (v := 1) dX4_allowPart_62 (by decide +kernel) ?_
        refine mj_goto X 67 dX4_allowPart_63 (by decide) ?_
        refine mj_zret X rfl hr0 (by decide) (by decide) dX4_allowPart_67 ?_
        exact ⟨_, rfl, rfl, rfl, by simp_all [part, b2i]⟩
    · have hk2 : k - st = 2 := by have h9 := c27; rw [show (2 : Int32) = nI 2 from rfl] at h9; exact (nI_eq (by omega) (by omega)).mp h9
      refine mj_aload_n X dX4_allowPart_30 rfl 1 rfl ?_
      refine mj_iload_n X dX4_allowPart_31 rfl 2 rfl ?_
      refine mj_callV X 1 gX4_allowPart_X5_cell rfl (by decide +kernel) ⟨by decide, by decide⟩ (c_Row_cell l D ca M sz r cap n f (nI st) hr ha hn hcap) rfl hr rfl rfl (Nat.le_of_ble_eq_true rfl) dX4_allowPart_32 ⟨by decide, by decide⟩ (mk_ri (fun b32 hb32 => ?_))
      replace hb32 : b32 = f st := by
        rcases hb32 with ⟨j9, h1, h2, h3⟩ | ⟨h1, -⟩
        · rw [h3, ← (nI_eq (by omega) (by omega)).mp h2]
        · exact absurd rfl (h1 st (by omega))
      subst hb32
      refine mj_bipush X (v := 46) dX4_allowPart_35 (by decide +kernel) ?_
      refine mj_icmp_ne X 52 dX4_allowPart_37 (by decide) (fun c37 => ?_) (fun c37 => ?_)
      · refine mj_iconst X (v := 1) dX4_allowPart_52 (by decide +kernel) ?_
        refine mj_goto X 57 dX4_allowPart_53 (by decide) ?_
        refine mj_zret X rfl hr0 (by decide) (by decide) dX4_allowPart_57 ?_
        exact ⟨_, rfl, rfl, rfl, by simp_all [part, b2i]⟩
      · refine mj_aload_n X dX4_allowPart_40 rfl 1 rfl ?_
        refine mj_iload_n X dX4_allowPart_41 rfl 2 rfl ?_
        refine mj_iconst X (v := 1) dX4_allowPart_42 (by decide +kernel) ?_
        refine mj_iadd X dX4_allowPart_43 ?_
        refine mj_top (nI (st + 1)) (nI_1 st) ?_
        refine mj_callV X 1 gX4_allowPart_X5_cell rfl (by decide +kernel) ⟨by decide, by decide⟩ (c_Row_cell l D ca M sz r cap n f (nI (st + 1)) hr ha hn hcap) rfl hr rfl rfl (Nat.le_of_ble_eq_true rfl) dX4_allowPart_44 ⟨by decide, by decide⟩ (mk_ri (fun b44 hb44 => ?_))
        replace hb44 : b44 = f (st + 1) := by
          rcases hb44 with ⟨j9, h1, h2, h3⟩ | ⟨h1, -⟩
          · rw [h3, ← (nI_eq (by omega) (by omega)).mp h2]
          · exact absurd rfl (h1 (st + 1) (by omega))
        subst hb44
        refine mj_bipush X (v := 46) dX4_allowPart_47 (by decide +kernel) ?_
        refine mj_icmp_eq X 56 dX4_allowPart_49 (by decide) (fun c49 => ?_) (fun c49 => ?_)
        · refine mj_iconst X (v := 0) dX4_allowPart_56 (by decide +kernel) ?_
          refine mj_zret X rfl hr0 (by decide) (by decide) dX4_allowPart_57 ?_
          exact ⟨_, rfl, rfl, rfl, by simp_all [part, b2i]⟩
        · refine mj_iconst X (v := 1) dX4_allowPart_52 (by decide +kernel) ?_
          refine mj_goto X 57 dX4_allowPart_53 (by decide) ?_
          refine mj_zret X rfl hr0 (by decide) (by decide) dX4_allowPart_57 ?_
          exact ⟨_, rfl, rfl, rfl, by simp_all [part, b2i]⟩
  · have hk1 : k - st = 1 := by have h9 := c6; rw [show (1 : Int32) = nI 1 from rfl] at h9; exact (nI_eq (by omega) (by omega)).mp h9
    refine mj_aload_n X dX4_allowPart_9 rfl 1 rfl ?_
    refine mj_iload_n X dX4_allowPart_10 rfl 2 rfl ?_
    refine mj_callV X 1 gX4_allowPart_X5_cell rfl (by decide +kernel) ⟨by decide, by decide⟩ (c_Row_cell l D ca M sz r cap n f (nI st) hr ha hn hcap) rfl hr rfl rfl (Nat.le_of_ble_eq_true rfl) dX4_allowPart_11 ⟨by decide, by decide⟩ (mk_ri (fun b11 hb11 => ?_))
    replace hb11 : b11 = f st := by
      rcases hb11 with ⟨j9, h1, h2, h3⟩ | ⟨h1, -⟩
      · rw [h3, ← (nI_eq (by omega) (by omega)).mp h2]
      · exact absurd rfl (h1 st (by omega))
    subst hb11
    refine mj_bipush X (v := 46) dX4_allowPart_14 (by decide +kernel) ?_
    refine mj_icmp_eq X 23 dX4_allowPart_16 (by decide) (fun c16 => ?_) (fun c16 => ?_)
    · refine mj_iconst X (v := 0) dX4_allowPart_23 (by decide +kernel) ?_
      refine mj_zret X rfl hr0 (by decide) (by decide) dX4_allowPart_24 ?_
      exact ⟨_, rfl, rfl, rfl, by simp_all [part, b2i]⟩
    · refine mj_iconst X (v := 1) dX4_allowPart_19 (by decide +kernel) ?_
      refine mj_goto X 24 dX4_allowPart_20 (by decide) ?_
      refine mj_zret X rfl hr0 (by decide) (by decide) dX4_allowPart_24 ?_
      exact ⟨_, rfl, rfl, rfl, by simp_all [part, b2i]⟩


set_option maxHeartbeats 4000000 in
set_option maxRecDepth 100000 in
theorem lp_allow_22 {l : Launch} {D : va_G} {ca : Nat → ClassId} (M : mw_M) (sz r cap n : Nat) (f : Nat → Int32) (hr : M r = some (.inr (5, [.ref (r + 1), .int (nI n)]))) (ha : M (r + 1) = some (.inl (ca 0, cap, .inl f))) (hn : n ≤ cap) (hcap : cap < 1000) {p : Program} {e : Env} {s : State} {m : MethodId} {below : List Frame} {meth : Method} {c : Code} (X : mw_X p s m ([.ref r] : List Value).toArray meth c cX4_allow 5 yX4_allow.cls wsX4_allow D vwCl (mt ca)) (hr0 : meth.sig.returnType = (some .boolean)) (hnm : meth.name = yX4_allow.name) (hlt : ∀ (a : Nat) (x : va_E), M a = some x → a < sz) : ∀ (fu : Nat) (st i : Nat), i ≤ n → n < i + fu → st ≤ i → isPathB f n = scn f st i (n - i) → mw_J p l e { frames := 3, cells := 0, slots := 0, locals := 65 } s m ([.ref r] : List Value).toArray below meth c 5 D vwCl (mw_A M sz) (MQ below (mw_Q D vwCl M sz (mq_i (fun v M' sz' => M' = M ∧ sz' = sz ∧ v = b2i (isPathB f n)))) ([.ref r] : List Value).toArray s 0 0 (mw_A M sz)) 22 [(0, .ref r), (1, .int (nI n)), (2, .int (nI st)), (3, .int (nI i))] [] M sz 0 0 := by
  intro fu
  induction fu with
  | zero => intro st i h1 h2; omega
  | succ fu ih =>
    intro st i hi hfu hst hsc
    refine mj_iload_n X dX4_allow_22 rfl 3 rfl ?_
    refine mj_iload_n X dX4_allow_23 rfl 1 rfl ?_
    refine mj_icmp_ge X 75 dX4_allow_24 (by decide) (fun c24 => ?_) (fun c24 => ?_)
    · refine mj_aload_n X dX4_allow_75 rfl 0 rfl ?_
      refine mj_iload_n X dX4_allow_76 rfl 2 rfl ?_
      refine mj_iload_n X dX4_allow_77 rfl 1 rfl ?_
      refine mj_callS X 3 gX4_allow_X4_allowPart rfl (by decide +kernel) ⟨by decide, by decide⟩ (c_allowPart l D ca M sz r cap n f st n hr ha hn hcap (by omega) (by omega)) rfl rfl (Nat.le_of_ble_eq_true rfl) dX4_allow_78 ⟨by decide, by decide⟩ (mk_ri (fun b2 hb2 => ?_))
      subst hb2
      refine mj_zret X (b2i_nar _) hr0 (by decide) (by decide) dX4_allow_81 ?_
      have e9 : i = n := by have h9 := (nI_leI (by omega) (by omega)).mp c24; omega
      exact ⟨_, rfl, rfl, rfl, by rw [hsc, e9, Nat.sub_self, scn]⟩
    · have hlt24 : i < n := Nat.not_le.mp (fun h9 => c24 (nI_le h9 (by omega)))
      have hm1 : n - i = (n - (i + 1)) + 1 := by omega
      refine mj_aload_n X dX4_allow_27 rfl 0 rfl ?_
      refine mj_iload_n X dX4_allow_28 rfl 3 rfl ?_
      refine mj_callV X 1 gX4_allow_X5_cell rfl (by decide +kernel) ⟨by decide, by decide⟩ (c_Row_cell l D ca M sz r cap n f (nI i) hr ha hn hcap) rfl hr rfl rfl (Nat.le_of_ble_eq_true rfl) dX4_allow_29 ⟨by decide, by decide⟩ (mk_ri (fun b29 hb29 => ?_))
      replace hb29 : b29 = f i := by
        rcases hb29 with ⟨j9, h1, h2, h3⟩ | ⟨h1, -⟩
        · rw [h3, ← (nI_eq (by omega) (by omega)).mp h2]
        · exact absurd rfl (h1 i (by omega))
      subst hb29
      refine mj_istore X [(4, .int (f i)), (0, .ref r), (1, .int (nI n)), (2, .int (nI st)), (3, .int (nI i))] dX4_allow_32 (by decide) rfl ?_
      refine mj_iload X dX4_allow_34 0 rfl ?_
      refine mj_bipush X (v := 47) dX4_allow_36 (by decide +kernel) ?_
      refine mj_icmp_ne X 59 dX4_allow_38 (by decide) (fun c38 => ?_) (fun c38 => ?_)
      · refine mj_iload X dX4_allow_59 0 rfl ?_
        refine mj_callS X 1 gX4_allow_X4_allowInPart rfl (by decide +kernel) ⟨by decide, by decide⟩ (c_allowInPart l D ca M sz (f i)) rfl rfl (Nat.le_of_ble_eq_true rfl) dX4_allow_61 ⟨by decide, by decide⟩ (mk_ri (fun b2 hb2 => ?_))
        subst hb2
        refine mj_if_ne X 69 dX4_allow_64 (by decide) (fun c64 => ?_) (fun c64 => ?_)
        · refine mj_iinc X [(3, .int (nI (i + 1))), (4, .int (f i)), (0, .ref r), (1, .int (nI n)), (2, .int (nI st))] dX4_allow_69 4 rfl (nI_1 i) (by decide) rfl ?_
          refine mj_goto X 22 dX4_allow_72 (by decide) ?_
          refine mj_sub [2, 3, 4, 0] rfl ?_
          exact ih st (i + 1) hlt24 (by omega) (by omega) (by rw [hsc, hm1, scn, if_neg c38, b2i_ne c64, Bool.true_and])
        · refine mj_iconst X (v := 0) dX4_allow_67 (by decide +kernel) ?_
          refine mj_zret X rfl hr0 (by decide) (by decide) dX4_allow_68 ?_
          exact ⟨_, rfl, rfl, rfl, by rw [hsc, hm1, scn, if_neg c38, b2i_eq (c64)]; rfl⟩
      · refine mj_aload_n X dX4_allow_41 rfl 1 rfl ?_
        refine mj_iload_n X dX4_allow_42 rfl 3 rfl ?_
        refine mj_iload_n X dX4_allow_43 rfl 4 rfl ?_
        refine mj_callS X 3 gX4_allow_X4_allowPart rfl (by decide +kernel) ⟨by decide, by decide⟩ (c_allowPart l D ca M sz r cap n f st i hr ha hn hcap hst (by omega)) rfl rfl (Nat.le_of_ble_eq_true rfl) dX4_allow_44 ⟨by decide, by decide⟩ (mk_ri (fun b2 hb2 => ?_))
        subst hb2
        refine mj_if_ne X 52 dX4_allow_47 (by decide) (fun c47 => ?_) (fun c47 => ?_)
        · refine mj_iload_n X dX4_allow_52 rfl 4 rfl ?_
          refine mj_iconst X (v := 1) dX4_allow_53 (by decide +kernel) ?_
          refine mj_iadd X dX4_allow_54 ?_
          refine mj_top (nI (i + 1)) (nI_1 i) ?_
          refine mj_istore_n X [(2, .int (nI (i + 1))), (4, .int (f i)), (0, .ref r), (1, .int (nI n)), (3, .int (nI i))] dX4_allow_55 rfl (by decide) rfl ?_
          refine mj_goto X 69 dX4_allow_56 (by decide) ?_
          refine mj_iinc X [(3, .int (nI (i + 1))), (2, .int (nI (i + 1))), (4, .int (f i)), (0, .ref r), (1, .int (nI n))] dX4_allow_69 4 rfl (nI_1 i) (by decide) rfl ?_
          refine mj_goto X 22 dX4_allow_72 (by decide) ?_
          refine mj_sub [3, 4, 1, 0] rfl ?_
          exact ih (i + 1) (i + 1) hlt24 (by omega) (by omega) (by rw [hsc, hm1, scn, if_pos (c38), b2i_ne c47, Bool.true_and])
        · refine mj_iconst X (v := 0) dX4_allow_50 (by decide +kernel) ?_
          refine mj_zret X rfl hr0 (by decide) (by decide) dX4_allow_51 ?_
          exact ⟨_, rfl, rfl, rfl, by rw [hsc, hm1, scn, if_pos (c38), b2i_eq (c47)]; rfl⟩
set_option maxHeartbeats 4000000 in
set_option maxRecDepth 100000 in
/--  -/
theorem c_allow (l : Launch) (D : va_G) (ca : Nat → ClassId) (M : mw_M) (sz r cap n : Nat) (f : Nat → Int32) (hr : M r = some (.inr (5, [.ref (r + 1), .int (nI n)]))) (ha : M (r + 1) = some (.inl (ca 0, cap, .inl f))) (hn : n ≤ cap) (hcap : cap < 1000) : mw_C wsX4_allow l yX4_allow { frames := 3, cells := 0, slots := 0, locals := 65 } D vwCl (mt ca) [.ref r] M sz (mq_i (fun v M' sz' => M' = M ∧ sz' = sz ∧ v = b2i (isPathB f n))) := by
  refine mw_enter (cc := cX4_allow) (maxL := 5) (ret := (some .boolean)) rfl (by decide) (Nat.le_of_ble_eq_true rfl) ?_
  intro p e s m below meth c X hr0 hnm hlt
  refine mj_aload_n X dX4_allow_0 rfl 0 rfl ?_
  refine mj_callV X 0 gX4_allow_X5_size rfl (by decide +kernel) ⟨by decide, by decide⟩ (c_Row_size l D ca M sz r cap n f hr ha hn hcap) rfl hr rfl rfl (Nat.le_of_ble_eq_true rfl) dX4_allow_1 ⟨by decide, by decide⟩ (mk_ri (fun b1 hb1 => ?_))
  subst hb1
  refine mj_istore_n X [(1, .int (nI n)), (0, .ref r)] dX4_allow_4 rfl (by decide) rfl ?_
  refine mj_iload_n X dX4_allow_5 rfl 0 rfl ?_
  refine mj_iconst X (v := 1) dX4_allow_6 (by decide +kernel) ?_
  refine mj_icmp_lt X 16 dX4_allow_7 (by decide) (fun c7 => ?_) (fun c7 => ?_)
  · refine mj_iconst X (v := 0) dX4_allow_16 (by decide +kernel) ?_
    refine mj_zret X rfl hr0 (by decide) (by decide) dX4_allow_17 ?_
    have h24 : ¬ (1 ≤ n ∧ n ≤ 24) := fun h9 => absurd c7 (nI_nlt h9.1 (by omega))
    exact ⟨_, rfl, rfl, rfl, by unfold isPathB; rcases Decidable.not_and_iff_or_not.mp h24 with h9 | h9 <;> simp [h9, b2i]⟩
  · have h1n : 1 ≤ n := Nat.pos_of_ne_zero (fun h9 => c7 (by rw [h9, nI_0]; decide))
    refine mj_iload_n X dX4_allow_10 rfl 0 rfl ?_
    refine mj_bipush X (v := 24) dX4_allow_11 (by decide +kernel) ?_
    refine mj_icmp_le X 18 dX4_allow_13 (by decide) (fun c13 => ?_) (fun c13 => ?_)
    · have h24 : n ≤ 24 := (nI_leI (by omega) (by omega)).mp c13
      refine mj_iconst X (v := 0) dX4_allow_18 (by decide +kernel) ?_
      refine mj_istore_n X [(2, .int 0), (1, .int (nI n)), (0, .ref r)] dX4_allow_19 rfl (by decide) rfl ?_
      refine mj_iconst X (v := 0) dX4_allow_20 (by decide +kernel) ?_
      refine mj_istore_n X [(3, .int 0), (2, .int 0), (1, .int (nI n)), (0, .ref r)] dX4_allow_21 rfl (by decide) rfl ?_
      refine mj_sub [3, 2, 1, 0] rfl ?_
      rw [← nI_0]
      exact lp_allow_22 (l := l) (D := D) (ca := ca) M sz r cap n f hr ha hn hcap X hr0 hnm hlt (n + 1) 0 0 (by omega) (by omega) (by omega) (by unfold isPathB; simp [h1n, h24, Nat.sub_zero])
    · refine mj_iconst X (v := 0) dX4_allow_16 (by decide +kernel) ?_
      refine mj_zret X rfl hr0 (by decide) (by decide) dX4_allow_17 ?_
      have h24 : ¬ (1 ≤ n ∧ n ≤ 24) := fun h9 => c13 (show nI n ≤ nI 24 from nI_le h9.2 (by omega))
      exact ⟨_, rfl, rfl, rfl, by unfold isPathB; rcases Decidable.not_and_iff_or_not.mp h24 with h9 | h9 <;> simp [h9, b2i]⟩

