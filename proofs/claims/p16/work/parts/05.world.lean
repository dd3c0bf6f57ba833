-- ===== MY OWN LAYER: a world is a partial map from addresses to cells; one hypothesis a walk; the goal carries locals, stack, world, heap size =====
abbrev mw_M : Type := Nat → Option va_E
def mw_u (M : mw_M) (a : Nat) (e : va_E) : mw_M := fun q => if q = a then some e else M q
theorem mw_us {M : mw_M} {a : Nat} {e : va_E} : mw_u M a e a = some e := if_pos rfl
theorem mw_un {M : mw_M} {a q : Nat} {e : va_E} (h : q ≠ a) : mw_u M a e q = M q := if_neg h
theorem mw_uu {M : mw_M} {a : Nat} {e e' : va_E} : mw_u (mw_u M a e) a e' = mw_u M a e' := by
  funext q; by_cases h : q = a <;> simp [mw_u, h]
theorem mw_ux {M : mw_M} {a b : Nat} {e e' : va_E} (h : a ≠ b) : mw_u (mw_u M a e) b e' = mw_u (mw_u M b e') a e := by
  funext q
  by_cases h1 : q = a
  · subst h1; simp [mw_u, h]
  · by_cases h2 : q = b
    · subst h2; simp [mw_u, h1]
    · simp [mw_u, h1, h2]
/-- the cells that a method may change: those of its world, and those that it makes -/
def mw_A (M : mw_M) (sz : Nat) : Nat → Prop := fun q => (∃ e : va_E, M q = some e) ∨ sz ≤ q
def mw_P (D : va_G) (cl : List vw_C) (M : mw_M) (H : Heap) : Prop := ∀ (a : Nat) (e : va_E), M a = some e → va_at D cl (a, e) H
def mw_W (D : va_G) (cl : List vw_C) (A : Nat → Prop) (H0 : Heap) (M : mw_M) (sz : Nat) (H : Heap) (locs : List Loc) : Prop :=
  H.size = sz ∧ mw_P D cl M H ∧ (∀ (a : Nat) (e : va_E), M a = some e → A a) ∧ (∀ q : Nat, H0.size ≤ q → A q) ∧ va_S A H0 H locs
theorem mw_P.one {D : va_G} {cl : List vw_C} {M : mw_M} {H : Heap} {a : Nat} {e : va_E} (h : mw_P D cl M H) (hm : M a = some e) : va_P D cl [(a, e)] H := by
  intro k q hk
  cases k with
  | zero => cases hk; exact h a e hm
  | succ k => simp at hk
theorem mw_P.lt {D : va_G} {cl : List vw_C} {M : mw_M} {H : Heap} {a : Nat} {e : va_E} (h : mw_P D cl M H) (hm : M a = some e) : a < H.size := va_at.lt (h a e hm)
theorem mw_W.set {D : va_G} {cl : List vw_C} {A : Nat → Prop} {H0 H H1 : Heap} {M : mw_M} {sz a k : Nat} {e0 e : va_E} {locs : List Loc} (hw : mw_W D cl A H0 M sz H locs) (hm : M a = some e0) (he : va_at D cl (a, e) H1) (z : H1.size = H.size) (oq : ∀ q : Nat, q ≠ a → H1[q]? = H[q]?) : mw_W D cl A H0 (mw_u M a e) sz H1 (locs ++ [⟨a, k⟩]) := by
  obtain ⟨h1, h2, h3, h4, h5⟩ := hw
  refine ⟨by rw [z]; exact h1, fun q x hq => ?_, fun q x hq => ?_, h4, h5.put z oq (h3 a e0 hm)⟩
  · by_cases hqa : q = a
    · subst hqa; rw [mw_us] at hq; cases hq; exact he
    · rw [mw_un hqa] at hq; exact (h2 q x hq).kept (oq q hqa)
  · by_cases hqa : q = a
    · subst hqa; exact h3 _ _ hm
    · rw [mw_un hqa] at hq; exact h3 q x hq
theorem mw_W.push {D : va_G} {cl : List vw_C} {A : Nat → Prop} {H0 H H1 : Heap} {M : mw_M} {sz : Nat} {e : va_E} {locs : List Loc} (hw : mw_W D cl A H0 M sz H locs) (he : va_at D cl (sz, e) H1) (z : H1.size = sz + 1) (oq : ∀ q : Nat, q < sz → H1[q]? = H[q]?) : mw_W D cl A H0 (mw_u M sz e) (sz + 1) H1 locs := by
  obtain ⟨h1, h2, h3, h4, h5⟩ := hw
  subst h1
  refine ⟨z, fun q x hq => ?_, fun q x hq => ?_, h4, ⟨by have := h5.1; omega, fun q a1 a2 => (oq q (Nat.lt_of_lt_of_le a1 h5.1)).trans (h5.2.1 q a1 a2), h5.2.2⟩⟩
  · by_cases hqa : q = H.size
    · subst hqa; rw [mw_us] at hq; cases hq; exact he
    · rw [mw_un hqa] at hq; exact (h2 q x hq).kept (oq q (h2.lt hq))
  · by_cases hqa : q = H.size
    · subst hqa; exact h4 _ h5.1
    · rw [mw_un hqa] at hq; exact h3 q x hq
/-- the classes of whose arrays references are made -/
def mw_ao : List String := ["PackageRows2$Entry", "PackageRows2$Line", "PackageRows2$Version"]
/-- what every row of a walk needs of the machine -/
def mw_X (p : Program) (s : State) (m : MethodId) (args : Array Value) (meth : Method) (c : Code) (cc : ByteArray) (nL : Nat) (own : String) (Ts : List Cond) (D : va_G) (cl : List vw_C) (tys : List (ClassId × FieldType)) : Prop :=
  p.tables.exec = Jvm.exec ∧ c.code = cc ∧ c.maxLocals = nL ∧ s.vm.findClass own = some m.cls ∧ (∀ w ∈ Ts, w.before args s = true) ∧ va_K D cl tys s ∧ meth.locks = false ∧ ∀ C ∈ mw_ao, va_AO C s
/-- THE JUDGEMENT: at pc, with these locals, this stack, this world -/
def mw_J (p : Program) (l : Launch) (e : Env) (R : Room) (s : State) (m : MethodId) (args : Array Value) (below : List Frame) (meth : Method) (c : Code) (nL : Nat) (D : va_G) (cl : List vw_C) (A : Nat → Prop) (Q : State → Prop) (pc : Nat) (lo : List (Nat × Value)) (st : List Value) (M : mw_M) (sz cells slots : Nat) : Prop :=
  ∀ (H : Heap) (locs : List Loc) (ls : Array Slot), mw_W D cl A s.heap M sz H locs → lv_has ls nL lo → W p l e R s m args below meth c H locs cells slots Q (F0 m pc ls st)
/-- a method's end, and its contract: from the world M, of size sz, with the arguments av: it returns v in the world M' of size sz' with Post -/
def mw_Q (D : va_G) (cl : List vw_C) (M : mw_M) (sz : Nat) (Post : Option Value → mw_M → Nat → Prop) : Array Value → State → Outcome → State → Prop := fun _ st oc t =>
  (∃ (v : Option Value) (M' : mw_M) (sz' : Nat), oc = .returned v ∧ Post v M' sz' ∧ t.heap.size = sz' ∧ mw_P D cl M' t.heap ∧ ∀ (a : Nat) (x : va_E), M' a = some x → mw_A M sz a) ∧ va_F (mw_A M sz) st t
def mw_B (D : va_G) (cl : List vw_C) (tys : List (ClassId × FieldType)) (M : mw_M) (sz : Nat) (U : State) : Prop := U.heap.size = sz ∧ mw_P D cl M U.heap ∧ va_K D cl tys U ∧ ∀ C ∈ mw_ao, va_AO C U
def mw_C (ws : List Cond) (l : Launch) (y : MethodName) (rm : Room) (D : va_G) (cl : List vw_C) (tys : List (ClassId × FieldType)) (av : List Value) (M : mw_M) (sz : Nat) (Post : Option Value → mw_M → Nat → Prop) : Prop :=
  Met l y ws rm (va_Pc av (mw_B D cl tys M sz)) (mw_Q D cl M sz Post) rm.cells rm.slots (mw_A M sz)
theorem mw_enter {ws ws' : List Cond} {l : Launch} {y : MethodName} {cc : ByteArray} {maxL : Nat} {ret : Option FieldType} {rm : Room} {D : va_G} {cl : List vw_C} {tys : List (ClassId × FieldType)} {av : List Value} {M : mw_M} {sz : Nat} {Post : Option Value → mw_M → Nat → Prop} (hw : ws = Cond.code y cc maxL ret :: ws') (hy : plainName y.cls = true) (hav : (lg_sl av).length ≤ maxL)
    (body : ∀ (p : Program) (e : Env) (s : State) (m : MethodId) (below : List Frame) (meth : Method) (c : Code), mw_X p s m av.toArray meth c cc maxL y.cls ws D cl tys → meth.sig.returnType = ret → meth.name = y.name → (∀ (a : Nat) (x : va_E), M a = some x → a < sz) →
      mw_J p l e rm s m av.toArray below meth c maxL D cl (mw_A M sz) (MQ below (mw_Q D cl M sz Post) av.toArray s rm.cells rm.slots (mw_A M sz)) 0 (lv_args 0 av) [] M sz 0 0) : mw_C ws l y rm D cl tys av M sz Post := by
  refine Met.ofW (cc := cc) (maxL := maxL) (ret := ret) hy hw ?_
  intro p e s m args below meth c s₁ B hml hv
  obtain ⟨rfl, hsz, hP, hK, hao⟩ := hv
  have hts := atoms_spec (ws := ws) B.pre
  have hown : s.vm.findClass y.cls = some m.cls := findClass_of_methodNamed B.named
  have hl := lv_entry av (n := maxL) hav
  rw [lg_entry_eq]
  exact body p e s m below meth c ⟨B.exec, B.bytes, hml, hown, hts, hK, B.notSynchronized, hao⟩ B.returns (name_of_methodNamed B.named B.method).1 (fun a x h => by rw [← hsz]; exact hP.lt h) s.heap [] _ ⟨hsz, hP, fun a x h => Or.inl ⟨x, h⟩, fun q h => Or.inr (by rw [← hsz]; exact h), va_S.rf⟩ hl
/-- ends by the kind of the answer: an int, nothing, a reference or null -/
def mq_i (P : Int32 → mw_M → Nat → Prop) : Option Value → mw_M → Nat → Prop := fun v M' sz' => ∃ r : Int32, v = some (.int r) ∧ P r M' sz'
def mq_v (P : mw_M → Nat → Prop) : Option Value → mw_M → Nat → Prop := fun v M' sz' => v = none ∧ P M' sz'
def mq_q (P : Option Nat → mw_M → Nat → Prop) : Option Value → mw_M → Nat → Prop := fun v M' sz' => ∃ o : Option Nat, v = some (va_rf o) ∧ P o M' sz'
theorem mw_ne {M : mw_M} {a b : Nat} {x y : va_E} (ha : M a = some x) (hb : M b = some y) (h : x ≠ y) : a ≠ b := fun e => h (by rw [e] at ha; exact Option.some.inj (ha.symm.trans hb))
section MW
variable {p : Program} {l : Launch} {e : Env} {R : Room} {s : State} {m : MethodId} {args : Array Value} {below : List Frame} {meth : Method} {c : Code} {nL : Nat} {D : va_G} {cl : List vw_C} {A : Nat → Prop} {Q : State → Prop} {pc : Nat} {lo : List (Nat × Value)} {st rest : List Value} {M : mw_M} {sz cells slots : Nat} {cc : ByteArray} {own : String} {Ts : List Cond} {tys : List (ClassId × FieldType)}
theorem mj_widen (k n : Nat) (h1 : cells ≤ k) (h2 : slots ≤ n) (kk : mw_J p l e R s m args below meth c nL D cl A Q pc lo st M sz k n) : mw_J p l e R s m args below meth c nL D cl A Q pc lo st M sz cells slots := fun H locs ls hw hl => W.widen h1 h2 (kk H locs ls hw hl)
theorem mj_sub {lo' : List (Nat × Value)} (ks : List Nat) (h : lv_pick lo ks = lo') (kk : mw_J p l e R s m args below meth c nL D cl A Q pc lo' st M sz cells slots) : mw_J p l e R s m args below meth c nL D cl A Q pc lo st M sz cells slots := fun H locs ls hw hl => kk H locs ls hw (lv_sub hl ks h)
/-- the same state under other names -/
theorem mj_to {lo' : List (Nat × Value)} {st' : List Value} {M' : mw_M} {sz' : Nat} (h1 : lo = lo') (h2 : st = st') (h3 : M = M') (h4 : sz = sz') (kk : mw_J p l e R s m args below meth c nL D cl A Q pc lo' st' M' sz' cells slots) : mw_J p l e R s m args below meth c nL D cl A Q pc lo st M sz cells slots := by
  subst h1; subst h2; subst h3; subst h4; exact kk
/-- every cell of the world lies below its size -/
theorem mj_lt (kk : (∀ (a : Nat) (x : va_E), M a = some x → a < sz) → mw_J p l e R s m args below meth c nL D cl A Q pc lo st M sz cells slots) : mw_J p l e R s m args below meth c nL D cl A Q pc lo st M sz cells slots := fun H locs ls hw hl => kk (fun a x h => by rw [← hw.1]; exact hw.2.1.lt h) H locs ls hw hl
theorem mj_iconst (X : mw_X p s m args meth c cc nL own Ts D cl tys) {n : Int} {v : Int32} (hd : decode cc pc = .ok (.iconst n, 1)) (hv : Int32.ofInt n = v) (kk : mw_J p l e R s m args below meth c nL D cl A Q (pc + 1) lo (.int v :: rest) M sz cells slots) : mw_J p l e R s m args below meth c nL D cl A Q pc lo rest M sz cells slots := fun H locs ls hw hl => lv_iconst X.1 X.2.1 hd hv (kk H locs ls hw hl)
theorem mj_bipush (X : mw_X p s m args meth c cc nL own Ts D cl tys) {n : Int} {v : Int32} (hd : decode cc pc = .ok (.bipush n, 2)) (hv : (Int8.ofInt n).toInt32 = v) (kk : mw_J p l e R s m args below meth c nL D cl A Q (pc + 2) lo (.int v :: rest) M sz cells slots) : mw_J p l e R s m args below meth c nL D cl A Q pc lo rest M sz cells slots := fun H locs ls hw hl => lv_bipush X.1 X.2.1 hd hv (kk H locs ls hw hl)
theorem mj_sipush (X : mw_X p s m args meth c cc nL own Ts D cl tys) {n : Int} {v : Int32} (hd : decode cc pc = .ok (.sipush n, 3)) (hv : (Int16.ofInt n).toInt32 = v) (kk : mw_J p l e R s m args below meth c nL D cl A Q (pc + 3) lo (.int v :: rest) M sz cells slots) : mw_J p l e R s m args below meth c nL D cl A Q pc lo rest M sz cells slots := fun H locs ls hw hl => lv_sipush X.1 X.2.1 hd hv (kk H locs ls hw hl)
theorem mj_ldc (X : mw_X p s m args meth c cc nL own Ts D cl tys) {index : Nat} {v : Int32} (hc : Jvm.Cond.constant own index v ∈ Ts) (hd : decode cc pc = .ok (.ldc index, 2)) (kk : mw_J p l e R s m args below meth c nL D cl A Q (pc + 2) lo (.int v :: rest) M sz cells slots) : mw_J p l e R s m args below meth c nL D cl A Q pc lo rest M sz cells slots := fun H locs ls hw hl => lv_ldc X.1 X.2.1 X.2.2.2.1 (X.2.2.2.2.1 _ hc) hd (kk H locs ls hw hl)
theorem mj_null (X : mw_X p s m args meth c cc nL own Ts D cl tys) (hd : decode cc pc = .ok (.aconst_null, 1)) (kk : mw_J p l e R s m args below meth c nL D cl A Q (pc + 1) lo (.null :: rest) M sz cells slots) : mw_J p l e R s m args below meth c nL D cl A Q pc lo rest M sz cells slots := fun H locs ls hw hl => lv_null X.1 X.2.1 hd (kk H locs ls hw hl)
theorem mj_iload_n (X : mw_X p s m args meth c cc nL own Ts D cl tys) {k : Fin 4} {i : Nat} {x : Int32} (hd : decode cc pc = .ok (.iload_n k, 1)) (hi : (k : Nat) = i) (j : Nat) (hj : lo[j]? = some (i, .int x)) (kk : mw_J p l e R s m args below meth c nL D cl A Q (pc + 1) lo (.int x :: rest) M sz cells slots) : mw_J p l e R s m args below meth c nL D cl A Q pc lo rest M sz cells slots := fun H locs ls hw hl => lv_iload_n X.1 X.2.1 hd hi (lv_at hl j hj) (kk H locs ls hw hl)
theorem mj_iload (X : mw_X p s m args meth c cc nL own Ts D cl tys) {i : Nat} {x : Int32} (hd : decode cc pc = .ok (.iload i, 2)) (j : Nat) (hj : lo[j]? = some (i, .int x)) (kk : mw_J p l e R s m args below meth c nL D cl A Q (pc + 2) lo (.int x :: rest) M sz cells slots) : mw_J p l e R s m args below meth c nL D cl A Q pc lo rest M sz cells slots := fun H locs ls hw hl => lv_iload X.1 X.2.1 hd (lv_at hl j hj) (kk H locs ls hw hl)
theorem mj_istore_n (X : mw_X p s m args meth c cc nL own Ts D cl tys) {k : Fin 4} {i : Nat} {x : Int32} (lo' : List (Nat × Value)) (hd : decode cc pc = .ok (.istore_n k, 1)) (hi : (k : Nat) = i) (hn : i < nL) (hl' : (i, Value.int x) :: lo.filter (fun q => !(q.1 == i) && !(q.1 + 1 == i && q.2.category == 2)) = lo') (kk : mw_J p l e R s m args below meth c nL D cl A Q (pc + 1) lo' (rest) M sz cells slots) : mw_J p l e R s m args below meth c nL D cl A Q pc lo (.int x :: rest) M sz cells slots := fun H locs ls hw hl => lv_istore_n X.1 X.2.1 hd hi hl hn hl' (fun ls' h' => kk H locs ls' hw h')
theorem mj_istore (X : mw_X p s m args meth c cc nL own Ts D cl tys) {i : Nat} {x : Int32} (lo' : List (Nat × Value)) (hd : decode cc pc = .ok (.istore i, 2)) (hn : i < nL) (hl' : (i, Value.int x) :: lo.filter (fun q => !(q.1 == i) && !(q.1 + 1 == i && q.2.category == 2)) = lo') (kk : mw_J p l e R s m args below meth c nL D cl A Q (pc + 2) lo' (rest) M sz cells slots) : mw_J p l e R s m args below meth c nL D cl A Q pc lo (.int x :: rest) M sz cells slots := fun H locs ls hw hl => lv_istore X.1 X.2.1 hd hl hn hl' (fun ls' h' => kk H locs ls' hw h')
theorem mj_aload_n (X : mw_X p s m args meth c cc nL own Ts D cl tys) {k : Fin 4} {i : Nat} {x : Nat} (hd : decode cc pc = .ok (.aload_n k, 1)) (hi : (k : Nat) = i) (j : Nat) (hj : lo[j]? = some (i, .ref x)) (kk : mw_J p l e R s m args below meth c nL D cl A Q (pc + 1) lo (.ref x :: rest) M sz cells slots) : mw_J p l e R s m args below meth c nL D cl A Q pc lo rest M sz cells slots := fun H locs ls hw hl => lv_aload_n X.1 X.2.1 hd hi (lv_at hl j hj) (kk H locs ls hw hl)
theorem mj_aload (X : mw_X p s m args meth c cc nL own Ts D cl tys) {i : Nat} {x : Nat} (hd : decode cc pc = .ok (.aload i, 2)) (j : Nat) (hj : lo[j]? = some (i, .ref x)) (kk : mw_J p l e R s m args below meth c nL D cl A Q (pc + 2) lo (.ref x :: rest) M sz cells slots) : mw_J p l e R s m args below meth c nL D cl A Q pc lo rest M sz cells slots := fun H locs ls hw hl => lv_aload X.1 X.2.1 hd (lv_at hl j hj) (kk H locs ls hw hl)
theorem mj_astore_n (X : mw_X p s m args meth c cc nL own Ts D cl tys) {k : Fin 4} {i : Nat} {x : Nat} (lo' : List (Nat × Value)) (hd : decode cc pc = .ok (.astore_n k, 1)) (hi : (k : Nat) = i) (hn : i < nL) (hl' : (i, Value.ref x) :: lo.filter (fun q => !(q.1 == i) && !(q.1 + 1 == i && q.2.category == 2)) = lo') (kk : mw_J p l e R s m args below meth c nL D cl A Q (pc + 1) lo' (rest) M sz cells slots) : mw_J p l e R s m args below meth c nL D cl A Q pc lo (.ref x :: rest) M sz cells slots := fun H locs ls hw hl => lv_astore_n X.1 X.2.1 hd hi hl hn hl' (fun ls' h' => kk H locs ls' hw h')
theorem mj_astore (X : mw_X p s m args meth c cc nL own Ts D cl tys) {i : Nat} {x : Nat} (lo' : List (Nat × Value)) (hd : decode cc pc = .ok (.astore i, 2)) (hn : i < nL) (hl' : (i, Value.ref x) :: lo.filter (fun q => !(q.1 == i) && !(q.1 + 1 == i && q.2.category == 2)) = lo') (kk : mw_J p l e R s m args below meth c nL D cl A Q (pc + 2) lo' (rest) M sz cells slots) : mw_J p l e R s m args below meth c nL D cl A Q pc lo (.ref x :: rest) M sz cells slots := fun H locs ls hw hl => lv_astore X.1 X.2.1 hd hl hn hl' (fun ls' h' => kk H locs ls' hw h')
theorem mj_aload_nN (X : mw_X p s m args meth c cc nL own Ts D cl tys) {k : Fin 4} {i : Nat} (hd : decode cc pc = .ok (.aload_n k, 1)) (hi : (k : Nat) = i) (j : Nat) (hj : lo[j]? = some (i, .null)) (kk : mw_J p l e R s m args below meth c nL D cl A Q (pc + 1) lo (.null :: rest) M sz cells slots) : mw_J p l e R s m args below meth c nL D cl A Q pc lo rest M sz cells slots := fun H locs ls hw hl => lv_aload_nN X.1 X.2.1 hd hi (lv_at hl j hj) (kk H locs ls hw hl)
theorem mj_aloadN (X : mw_X p s m args meth c cc nL own Ts D cl tys) {i : Nat} (hd : decode cc pc = .ok (.aload i, 2)) (j : Nat) (hj : lo[j]? = some (i, .null)) (kk : mw_J p l e R s m args below meth c nL D cl A Q (pc + 2) lo (.null :: rest) M sz cells slots) : mw_J p l e R s m args below meth c nL D cl A Q pc lo rest M sz cells slots := fun H locs ls hw hl => lv_aloadN X.1 X.2.1 hd (lv_at hl j hj) (kk H locs ls hw hl)
theorem mj_astore_nN (X : mw_X p s m args meth c cc nL own Ts D cl tys) {k : Fin 4} {i : Nat} (lo' : List (Nat × Value)) (hd : decode cc pc = .ok (.astore_n k, 1)) (hi : (k : Nat) = i) (hn : i < nL) (hl' : (i, Value.null) :: lo.filter (fun q => !(q.1 == i) && !(q.1 + 1 == i && q.2.category == 2)) = lo') (kk : mw_J p l e R s m args below meth c nL D cl A Q (pc + 1) lo' (rest) M sz cells slots) : mw_J p l e R s m args below meth c nL D cl A Q pc lo (.null :: rest) M sz cells slots := fun H locs ls hw hl => lv_astore_nN X.1 X.2.1 hd hi hl hn hl' (fun ls' h' => kk H locs ls' hw h')
theorem mj_astoreN (X : mw_X p s m args meth c cc nL own Ts D cl tys) {i : Nat} (lo' : List (Nat × Value)) (hd : decode cc pc = .ok (.astore i, 2)) (hn : i < nL) (hl' : (i, Value.null) :: lo.filter (fun q => !(q.1 == i) && !(q.1 + 1 == i && q.2.category == 2)) = lo') (kk : mw_J p l e R s m args below meth c nL D cl A Q (pc + 2) lo' (rest) M sz cells slots) : mw_J p l e R s m args below meth c nL D cl A Q pc lo (.null :: rest) M sz cells slots := fun H locs ls hw hl => lv_astoreN X.1 X.2.1 hd hl hn hl' (fun ls' h' => kk H locs ls' hw h')
theorem mj_iinc (X : mw_X p s m args meth c cc nL own Ts D cl tys) {i : Nat} {n : Int} {x v : Int32} (lo' : List (Nat × Value)) (hd : decode cc pc = .ok (.iinc i n, 3)) (j : Nat) (hj : lo[j]? = some (i, .int x)) (hv : x + Int32.ofInt n = v) (hn : i < nL) (hl' : (i, Value.int v) :: lo.filter (fun q => !(q.1 == i) && !(q.1 + 1 == i && q.2.category == 2)) = lo') (kk : mw_J p l e R s m args below meth c nL D cl A Q (pc + 3) lo' (rest) M sz cells slots) : mw_J p l e R s m args below meth c nL D cl A Q pc lo rest M sz cells slots := fun H locs ls hw hl => lv_iinc X.1 X.2.1 hd hl hj hv hn hl' (fun ls' h' => kk H locs ls' hw h')
theorem mj_iadd (X : mw_X p s m args meth c cc nL own Ts D cl tys) {x y : Int32} (hd : decode cc pc = .ok (.iadd, 1)) (kk : mw_J p l e R s m args below meth c nL D cl A Q (pc + 1) lo (.int (x + y) :: rest) M sz cells slots) : mw_J p l e R s m args below meth c nL D cl A Q pc lo (.int y :: .int x :: rest) M sz cells slots := fun H locs ls hw hl => lv_iadd X.1 X.2.1 hd (kk H locs ls hw hl)
theorem mj_isub (X : mw_X p s m args meth c cc nL own Ts D cl tys) {x y : Int32} (hd : decode cc pc = .ok (.isub, 1)) (kk : mw_J p l e R s m args below meth c nL D cl A Q (pc + 1) lo (.int (x - y) :: rest) M sz cells slots) : mw_J p l e R s m args below meth c nL D cl A Q pc lo (.int y :: .int x :: rest) M sz cells slots := fun H locs ls hw hl => lv_isub X.1 X.2.1 hd (kk H locs ls hw hl)
theorem mj_imul (X : mw_X p s m args meth c cc nL own Ts D cl tys) {x y : Int32} (hd : decode cc pc = .ok (.imul, 1)) (kk : mw_J p l e R s m args below meth c nL D cl A Q (pc + 1) lo (.int (x * y) :: rest) M sz cells slots) : mw_J p l e R s m args below meth c nL D cl A Q pc lo (.int y :: .int x :: rest) M sz cells slots := fun H locs ls hw hl => lv_imul X.1 X.2.1 hd (kk H locs ls hw hl)
theorem mj_iand (X : mw_X p s m args meth c cc nL own Ts D cl tys) {x y : Int32} (hd : decode cc pc = .ok (.iand, 1)) (kk : mw_J p l e R s m args below meth c nL D cl A Q (pc + 1) lo (.int (x &&& y) :: rest) M sz cells slots) : mw_J p l e R s m args below meth c nL D cl A Q pc lo (.int y :: .int x :: rest) M sz cells slots := fun H locs ls hw hl => lv_iand X.1 X.2.1 hd (kk H locs ls hw hl)
theorem mj_ior (X : mw_X p s m args meth c cc nL own Ts D cl tys) {x y : Int32} (hd : decode cc pc = .ok (.ior, 1)) (kk : mw_J p l e R s m args below meth c nL D cl A Q (pc + 1) lo (.int (x ||| y) :: rest) M sz cells slots) : mw_J p l e R s m args below meth c nL D cl A Q pc lo (.int y :: .int x :: rest) M sz cells slots := fun H locs ls hw hl => lv_ior X.1 X.2.1 hd (kk H locs ls hw hl)
theorem mj_ixor (X : mw_X p s m args meth c cc nL own Ts D cl tys) {x y : Int32} (hd : decode cc pc = .ok (.ixor, 1)) (kk : mw_J p l e R s m args below meth c nL D cl A Q (pc + 1) lo (.int (x ^^^ y) :: rest) M sz cells slots) : mw_J p l e R s m args below meth c nL D cl A Q pc lo (.int y :: .int x :: rest) M sz cells slots := fun H locs ls hw hl => lv_ixor X.1 X.2.1 hd (kk H locs ls hw hl)
theorem mj_ishl (X : mw_X p s m args meth c cc nL own Ts D cl tys) {x y : Int32} (hd : decode cc pc = .ok (.ishl, 1)) (kk : mw_J p l e R s m args below meth c nL D cl A Q (pc + 1) lo (.int (x <<< (y &&& 31)) :: rest) M sz cells slots) : mw_J p l e R s m args below meth c nL D cl A Q pc lo (.int y :: .int x :: rest) M sz cells slots := fun H locs ls hw hl => lv_ishl X.1 X.2.1 hd (kk H locs ls hw hl)
theorem mj_ishr (X : mw_X p s m args meth c cc nL own Ts D cl tys) {x y : Int32} (hd : decode cc pc = .ok (.ishr, 1)) (kk : mw_J p l e R s m args below meth c nL D cl A Q (pc + 1) lo (.int (x >>> (y &&& 31)) :: rest) M sz cells slots) : mw_J p l e R s m args below meth c nL D cl A Q pc lo (.int y :: .int x :: rest) M sz cells slots := fun H locs ls hw hl => lv_ishr X.1 X.2.1 hd (kk H locs ls hw hl)
theorem mj_idiv (X : mw_X p s m args meth c cc nL own Ts D cl tys) {x y : Int32} (hne : ¬ y = 0) (hd : decode cc pc = .ok (.idiv, 1)) (kk : mw_J p l e R s m args below meth c nL D cl A Q (pc + 1) lo (.int (x / y) :: rest) M sz cells slots) : mw_J p l e R s m args below meth c nL D cl A Q pc lo (.int y :: .int x :: rest) M sz cells slots := fun H locs ls hw hl => lv_idiv X.1 X.2.1 hd hne (kk H locs ls hw hl)
theorem mj_irem (X : mw_X p s m args meth c cc nL own Ts D cl tys) {x y : Int32} (hne : ¬ y = 0) (hd : decode cc pc = .ok (.irem, 1)) (kk : mw_J p l e R s m args below meth c nL D cl A Q (pc + 1) lo (.int (x - x / y * y) :: rest) M sz cells slots) : mw_J p l e R s m args below meth c nL D cl A Q pc lo (.int y :: .int x :: rest) M sz cells slots := fun H locs ls hw hl => lv_irem X.1 X.2.1 hd hne (kk H locs ls hw hl)
theorem mj_ineg (X : mw_X p s m args meth c cc nL own Ts D cl tys) {x : Int32} (hd : decode cc pc = .ok (.ineg, 1)) (kk : mw_J p l e R s m args below meth c nL D cl A Q (pc + 1) lo (.int (-x) :: rest) M sz cells slots) : mw_J p l e R s m args below meth c nL D cl A Q pc lo (.int x :: rest) M sz cells slots := fun H locs ls hw hl => lv_ineg X.1 X.2.1 hd (kk H locs ls hw hl)
theorem mj_i2b (X : mw_X p s m args meth c cc nL own Ts D cl tys) {x v : Int32} (hd : decode cc pc = .ok (.i2b, 1)) (hv : x.toInt8.toInt32 = v) (kk : mw_J p l e R s m args below meth c nL D cl A Q (pc + 1) lo (.int v :: rest) M sz cells slots) : mw_J p l e R s m args below meth c nL D cl A Q pc lo (.int x :: rest) M sz cells slots := fun H locs ls hw hl => lv_i2b X.1 X.2.1 hd hv (kk H locs ls hw hl)
theorem mj_dup (X : mw_X p s m args meth c cc nL own Ts D cl tys) {va : Value} (hd : decode cc pc = .ok (.dup, 1)) (h1 : va.category = 1) (kk : mw_J p l e R s m args below meth c nL D cl A Q (pc + 1) lo (va :: va :: rest) M sz cells slots) : mw_J p l e R s m args below meth c nL D cl A Q pc lo (va :: rest) M sz cells slots := fun H locs ls hw hl => lv_dup X.1 X.2.1 hd h1 (kk H locs ls hw hl)
theorem mj_pop (X : mw_X p s m args meth c cc nL own Ts D cl tys) {va : Value} (hd : decode cc pc = .ok (.pop, 1)) (h1 : va.category = 1) (kk : mw_J p l e R s m args below meth c nL D cl A Q (pc + 1) lo (rest) M sz cells slots) : mw_J p l e R s m args below meth c nL D cl A Q pc lo (va :: rest) M sz cells slots := fun H locs ls hw hl => lv_pop X.1 X.2.1 hd h1 (kk H locs ls hw hl)
theorem mj_dup_x1 (X : mw_X p s m args meth c cc nL own Ts D cl tys) {va vb : Value} (hd : decode cc pc = .ok (.dup_x1, 1)) (h1 : va.category = 1) (h2 : vb.category = 1) (kk : mw_J p l e R s m args below meth c nL D cl A Q (pc + 1) lo (va :: vb :: va :: rest) M sz cells slots) : mw_J p l e R s m args below meth c nL D cl A Q pc lo (va :: vb :: rest) M sz cells slots := fun H locs ls hw hl => lv_dup_x1 X.1 X.2.1 hd h1 h2 (kk H locs ls hw hl)
theorem mj_dup_x2 (X : mw_X p s m args meth c cc nL own Ts D cl tys) {va vb vd : Value} (hd : decode cc pc = .ok (.dup_x2, 1)) (h1 : va.category = 1) (h2 : vb.category = 1) (h3 : vd.category = 1) (kk : mw_J p l e R s m args below meth c nL D cl A Q (pc + 1) lo (va :: vb :: vd :: va :: rest) M sz cells slots) : mw_J p l e R s m args below meth c nL D cl A Q pc lo (va :: vb :: vd :: rest) M sz cells slots := fun H locs ls hw hl => lv_dup_x2 X.1 X.2.1 hd h1 h2 h3 (kk H locs ls hw hl)
theorem mj_dup2 (X : mw_X p s m args meth c cc nL own Ts D cl tys) {va vb : Value} (hd : decode cc pc = .ok (.dup2, 1)) (h1 : va.category = 1) (h2 : vb.category = 1) (kk : mw_J p l e R s m args below meth c nL D cl A Q (pc + 1) lo (va :: vb :: va :: vb :: rest) M sz cells slots) : mw_J p l e R s m args below meth c nL D cl A Q pc lo (va :: vb :: rest) M sz cells slots := fun H locs ls hw hl => lv_dup2_11 X.1 X.2.1 hd h1 h2 (kk H locs ls hw hl)
theorem mj_if_eq (X : mw_X p s m args meth c cc nL own Ts D cl tys) {x : Int32} {off : Int} (tgt : Nat) (hd : decode cc pc = .ok (.ifCond .eq off, 3)) (ht : (pc : Int) + off = (tgt : Int)) (kt : x = 0 → mw_J p l e R s m args below meth c nL D cl A Q tgt lo rest M sz cells slots) (kf : ¬ x = 0 → mw_J p l e R s m args below meth c nL D cl A Q (pc + 3) lo rest M sz cells slots) : mw_J p l e R s m args below meth c nL D cl A Q pc lo (.int x :: rest) M sz cells slots := fun H locs ls hw hl => lv_if_eq X.1 X.2.1 hd ht (fun z => kt z H locs ls hw hl) (fun z => kf z H locs ls hw hl)
theorem mj_icmp_eq (X : mw_X p s m args meth c cc nL own Ts D cl tys) {x y : Int32} {off : Int} (tgt : Nat) (hd : decode cc pc = .ok (.if_icmp .eq off, 3)) (ht : (pc : Int) + off = (tgt : Int)) (kt : x = y → mw_J p l e R s m args below meth c nL D cl A Q tgt lo rest M sz cells slots) (kf : ¬ x = y → mw_J p l e R s m args below meth c nL D cl A Q (pc + 3) lo rest M sz cells slots) : mw_J p l e R s m args below meth c nL D cl A Q pc lo (.int y :: .int x :: rest) M sz cells slots := fun H locs ls hw hl => lv_icmp_eq X.1 X.2.1 hd ht (fun z => kt z H locs ls hw hl) (fun z => kf z H locs ls hw hl)
theorem mj_if_ne (X : mw_X p s m args meth c cc nL own Ts D cl tys) {x : Int32} {off : Int} (tgt : Nat) (hd : decode cc pc = .ok (.ifCond .ne off, 3)) (ht : (pc : Int) + off = (tgt : Int)) (kt : ¬ x = 0 → mw_J p l e R s m args below meth c nL D cl A Q tgt lo rest M sz cells slots) (kf : x = 0 → mw_J p l e R s m args below meth c nL D cl A Q (pc + 3) lo rest M sz cells slots) : mw_J p l e R s m args below meth c nL D cl A Q pc lo (.int x :: rest) M sz cells slots := fun H locs ls hw hl => lv_if_ne X.1 X.2.1 hd ht (fun z => kt z H locs ls hw hl) (fun z => kf z H locs ls hw hl)
theorem mj_icmp_ne (X : mw_X p s m args meth c cc nL own Ts D cl tys) {x y : Int32} {off : Int} (tgt : Nat) (hd : decode cc pc = .ok (.if_icmp .ne off, 3)) (ht : (pc : Int) + off = (tgt : Int)) (kt : ¬ x = y → mw_J p l e R s m args below meth c nL D cl A Q tgt lo rest M sz cells slots) (kf : x = y → mw_J p l e R s m args below meth c nL D cl A Q (pc + 3) lo rest M sz cells slots) : mw_J p l e R s m args below meth c nL D cl A Q pc lo (.int y :: .int x :: rest) M sz cells slots := fun H locs ls hw hl => lv_icmp_ne X.1 X.2.1 hd ht (fun z => kt z H locs ls hw hl) (fun z => kf z H locs ls hw hl)
theorem mj_if_lt (X : mw_X p s m args meth c cc nL own Ts D cl tys) {x : Int32} {off : Int} (tgt : Nat) (hd : decode cc pc = .ok (.ifCond .lt off, 3)) (ht : (pc : Int) + off = (tgt : Int)) (kt : x < 0 → mw_J p l e R s m args below meth c nL D cl A Q tgt lo rest M sz cells slots) (kf : ¬ x < 0 → mw_J p l e R s m args below meth c nL D cl A Q (pc + 3) lo rest M sz cells slots) : mw_J p l e R s m args below meth c nL D cl A Q pc lo (.int x :: rest) M sz cells slots := fun H locs ls hw hl => lv_if_lt X.1 X.2.1 hd ht (fun z => kt z H locs ls hw hl) (fun z => kf z H locs ls hw hl)
theorem mj_icmp_lt (X : mw_X p s m args meth c cc nL own Ts D cl tys) {x y : Int32} {off : Int} (tgt : Nat) (hd : decode cc pc = .ok (.if_icmp .lt off, 3)) (ht : (pc : Int) + off = (tgt : Int)) (kt : x < y → mw_J p l e R s m args below meth c nL D cl A Q tgt lo rest M sz cells slots) (kf : ¬ x < y → mw_J p l e R s m args below meth c nL D cl A Q (pc + 3) lo rest M sz cells slots) : mw_J p l e R s m args below meth c nL D cl A Q pc lo (.int y :: .int x :: rest) M sz cells slots := fun H locs ls hw hl => lv_icmp_lt X.1 X.2.1 hd ht (fun z => kt z H locs ls hw hl) (fun z => kf z H locs ls hw hl)
theorem mj_if_ge (X : mw_X p s m args meth c cc nL own Ts D cl tys) {x : Int32} {off : Int} (tgt : Nat) (hd : decode cc pc = .ok (.ifCond .ge off, 3)) (ht : (pc : Int) + off = (tgt : Int)) (kt : 0 ≤ x → mw_J p l e R s m args below meth c nL D cl A Q tgt lo rest M sz cells slots) (kf : ¬ 0 ≤ x → mw_J p l e R s m args below meth c nL D cl A Q (pc + 3) lo rest M sz cells slots) : mw_J p l e R s m args below meth c nL D cl A Q pc lo (.int x :: rest) M sz cells slots := fun H locs ls hw hl => lv_if_ge X.1 X.2.1 hd ht (fun z => kt z H locs ls hw hl) (fun z => kf z H locs ls hw hl)
theorem mj_icmp_ge (X : mw_X p s m args meth c cc nL own Ts D cl tys) {x y : Int32} {off : Int} (tgt : Nat) (hd : decode cc pc = .ok (.if_icmp .ge off, 3)) (ht : (pc : Int) + off = (tgt : Int)) (kt : y ≤ x → mw_J p l e R s m args below meth c nL D cl A Q tgt lo rest M sz cells slots) (kf : ¬ y ≤ x → mw_J p l e R s m args below meth c nL D cl A Q (pc + 3) lo rest M sz cells slots) : mw_J p l e R s m args below meth c nL D cl A Q pc lo (.int y :: .int x :: rest) M sz cells slots := fun H locs ls hw hl => lv_icmp_ge X.1 X.2.1 hd ht (fun z => kt z H locs ls hw hl) (fun z => kf z H locs ls hw hl)
theorem mj_if_gt (X : mw_X p s m args meth c cc nL own Ts D cl tys) {x : Int32} {off : Int} (tgt : Nat) (hd : decode cc pc = .ok (.ifCond .gt off, 3)) (ht : (pc : Int) + off = (tgt : Int)) (kt : 0 < x → mw_J p l e R s m args below meth c nL D cl A Q tgt lo rest M sz cells slots) (kf : ¬ 0 < x → mw_J p l e R s m args below meth c nL D cl A Q (pc + 3) lo rest M sz cells slots) : mw_J p l e R s m args below meth c nL D cl A Q pc lo (.int x :: rest) M sz cells slots := fun H locs ls hw hl => lv_if_gt X.1 X.2.1 hd ht (fun z => kt z H locs ls hw hl) (fun z => kf z H locs ls hw hl)
theorem mj_icmp_gt (X : mw_X p s m args meth c cc nL own Ts D cl tys) {x y : Int32} {off : Int} (tgt : Nat) (hd : decode cc pc = .ok (.if_icmp .gt off, 3)) (ht : (pc : Int) + off = (tgt : Int)) (kt : y < x → mw_J p l e R s m args below meth c nL D cl A Q tgt lo rest M sz cells slots) (kf : ¬ y < x → mw_J p l e R s m args below meth c nL D cl A Q (pc + 3) lo rest M sz cells slots) : mw_J p l e R s m args below meth c nL D cl A Q pc lo (.int y :: .int x :: rest) M sz cells slots := fun H locs ls hw hl => lv_icmp_gt X.1 X.2.1 hd ht (fun z => kt z H locs ls hw hl) (fun z => kf z H locs ls hw hl)
theorem mj_if_le (X : mw_X p s m args meth c cc nL own Ts D cl tys) {x : Int32} {off : Int} (tgt : Nat) (hd : decode cc pc = .ok (.ifCond .le off, 3)) (ht : (pc : Int) + off = (tgt : Int)) (kt : x ≤ 0 → mw_J p l e R s m args below meth c nL D cl A Q tgt lo rest M sz cells slots) (kf : ¬ x ≤ 0 → mw_J p l e R s m args below meth c nL D cl A Q (pc + 3) lo rest M sz cells slots) : mw_J p l e R s m args below meth c nL D cl A Q pc lo (.int x :: rest) M sz cells slots := fun H locs ls hw hl => lv_if_le X.1 X.2.1 hd ht (fun z => kt z H locs ls hw hl) (fun z => kf z H locs ls hw hl)
theorem mj_icmp_le (X : mw_X p s m args meth c cc nL own Ts D cl tys) {x y : Int32} {off : Int} (tgt : Nat) (hd : decode cc pc = .ok (.if_icmp .le off, 3)) (ht : (pc : Int) + off = (tgt : Int)) (kt : x ≤ y → mw_J p l e R s m args below meth c nL D cl A Q tgt lo rest M sz cells slots) (kf : ¬ x ≤ y → mw_J p l e R s m args below meth c nL D cl A Q (pc + 3) lo rest M sz cells slots) : mw_J p l e R s m args below meth c nL D cl A Q pc lo (.int y :: .int x :: rest) M sz cells slots := fun H locs ls hw hl => lv_icmp_le X.1 X.2.1 hd ht (fun z => kt z H locs ls hw hl) (fun z => kf z H locs ls hw hl)
theorem mj_goto (X : mw_X p s m args meth c cc nL own Ts D cl tys) {off : Int} (tgt : Nat) (hd : decode cc pc = .ok (.goto off, 3)) (ht : (pc : Int) + off = (tgt : Int)) (kk : mw_J p l e R s m args below meth c nL D cl A Q tgt lo rest M sz cells slots) : mw_J p l e R s m args below meth c nL D cl A Q pc lo rest M sz cells slots := fun H locs ls hw hl => lv_goto X.1 X.2.1 hd ht (kk H locs ls hw hl)
theorem mj_ifnullR (X : mw_X p s m args meth c cc nL own Ts D cl tys) {x : Nat} {off : Int} (hd : decode cc pc = .ok (.ifnull off, 3)) (kk : mw_J p l e R s m args below meth c nL D cl A Q (pc + 3) lo (rest) M sz cells slots) : mw_J p l e R s m args below meth c nL D cl A Q pc lo (.ref x :: rest) M sz cells slots := fun H locs ls hw hl => lv_ifnull X.1 X.2.1 hd (kk H locs ls hw hl)
theorem mj_ifnullN (X : mw_X p s m args meth c cc nL own Ts D cl tys) {off : Int} (tgt : Nat) (hd : decode cc pc = .ok (.ifnull off, 3)) (ht : (pc : Int) + off = (tgt : Int)) (kk : mw_J p l e R s m args below meth c nL D cl A Q tgt lo rest M sz cells slots) : mw_J p l e R s m args below meth c nL D cl A Q pc lo (.null :: rest) M sz cells slots := fun H locs ls hw hl => lv_ifnullN X.1 X.2.1 hd ht (kk H locs ls hw hl)
theorem mj_ifnonnullR (X : mw_X p s m args meth c cc nL own Ts D cl tys) {x : Nat} {off : Int} (tgt : Nat) (hd : decode cc pc = .ok (.ifnonnull off, 3)) (ht : (pc : Int) + off = (tgt : Int)) (kk : mw_J p l e R s m args below meth c nL D cl A Q tgt lo rest M sz cells slots) : mw_J p l e R s m args below meth c nL D cl A Q pc lo (.ref x :: rest) M sz cells slots := fun H locs ls hw hl => lv_ifnonnull X.1 X.2.1 hd ht (kk H locs ls hw hl)
theorem mj_ifnonnullN (X : mw_X p s m args meth c cc nL own Ts D cl tys) {off : Int} (hd : decode cc pc = .ok (.ifnonnull off, 3)) (kk : mw_J p l e R s m args below meth c nL D cl A Q (pc + 3) lo (rest) M sz cells slots) : mw_J p l e R s m args below meth c nL D cl A Q pc lo (.null :: rest) M sz cells slots := fun H locs ls hw hl => lv_ifnonnullN X.1 X.2.1 hd (kk H locs ls hw hl)
theorem mj_tableOut (X : mw_X p s m args meth c cc nL own Ts D cl tys) {dflt lo' hi : Int} {offs : Array Int} {len : Nat} {x : Int32} (tgt : Nat) (hd : decode cc pc = .ok (.tableswitch dflt lo' hi offs, len)) (h : x.toInt < lo' ∨ hi < x.toInt) (ht : (pc : Int) + dflt = (tgt : Int)) (kk : mw_J p l e R s m args below meth c nL D cl A Q tgt lo rest M sz cells slots) : mw_J p l e R s m args below meth c nL D cl A Q pc lo (.int x :: rest) M sz cells slots := fun H locs ls hw hl => lv_tableOut X.1 X.2.1 hd h ht (kk H locs ls hw hl)
theorem mj_tableIn (X : mw_X p s m args meth c cc nL own Ts D cl tys) {dflt lo' hi : Int} {offs : Array Int} {len : Nat} {x : Int32} {off : Int} (tgt : Nat) (hd : decode cc pc = .ok (.tableswitch dflt lo' hi offs, len)) (h1 : ¬ x.toInt < lo') (h2 : ¬ hi < x.toInt) (ho : offs[(x.toInt - lo').toNat]? = some off) (ht : (pc : Int) + off = (tgt : Int)) (kk : mw_J p l e R s m args below meth c nL D cl A Q tgt lo rest M sz cells slots) : mw_J p l e R s m args below meth c nL D cl A Q pc lo (.int x :: rest) M sz cells slots := fun H locs ls hw hl => lv_tableIn X.1 X.2.1 hd h1 h2 ho ht (kk H locs ls hw hl)
theorem mj_topi (X : mw_X p s m args meth c cc nL own Ts D cl tys) {x : Int32} (kk : ∀ y : Int32, y = x → mw_J p l e R s m args below meth c nL D cl A Q pc lo (.int y :: rest) M sz cells slots) : mw_J p l e R s m args below meth c nL D cl A Q pc lo (.int x :: rest) M sz cells slots := kk x rfl
theorem mj_iald (X : mw_X p s m args meth c cc nL own Ts D cl tys) (t0 : Nat) (v : Int32) {a : Nat} {cA : ClassId} {n : Nat} {f : Nat → Int32} {i : Int32} (ht : tys[t0]? = some (cA, .int)) (hm : M a = some (.inl (cA, n, .inl f))) (hin : vp_in i n) (hv : f i.toNatClampNeg = v) (hd : decode cc pc = .ok (.iaload, 1)) (kk : mw_J p l e R s m args below meth c nL D cl A Q (pc + 1) lo (.int v :: rest) M sz cells slots) : mw_J p l e R s m args below meth c nL D cl A Q pc lo (.int i :: .ref a :: rest) M sz cells slots := fun H locs ls hw hl => va_iald X.1 X.2.1 X.2.2.2.2.2.1 (hw.2.1.one hm) 0 t0 rfl ht hin hd (by rw [hv]; exact kk H locs ls hw hl)
theorem mj_zald (X : mw_X p s m args meth c cc nL own Ts D cl tys) (t0 : Nat) (v : Int32) {a : Nat} {cA : ClassId} {n : Nat} {f : Nat → Int32} {i : Int32} (ht : tys[t0]? = some (cA, .boolean)) (hm : M a = some (.inl (cA, n, .inl f))) (hin : vp_in i n) (hv : f i.toNatClampNeg = v) (hd : decode cc pc = .ok (.baload, 1)) (kk : mw_J p l e R s m args below meth c nL D cl A Q (pc + 1) lo (.int v :: rest) M sz cells slots) : mw_J p l e R s m args below meth c nL D cl A Q pc lo (.int i :: .ref a :: rest) M sz cells slots := fun H locs ls hw hl => va_zald X.1 X.2.1 X.2.2.2.2.2.1 (hw.2.1.one hm) 0 t0 rfl ht hin hd (by rw [hv]; exact kk H locs ls hw hl)
theorem mj_aald (X : mw_X p s m args meth c cc nL own Ts D cl tys) (t0 : Nat) (v : Option Nat) {a : Nat} {cA : ClassId} {n : Nat} {C : String} {f : Nat → Option Nat} {i : Int32} (ht : tys[t0]? = some (cA, .object C)) (hm : M a = some (.inl (cA, n, .inr (.inr (.inr (.inr f)))))) (hin : vp_in i n) (hv : f i.toNatClampNeg = v) (hd : decode cc pc = .ok (.aaload, 1)) (kk : mw_J p l e R s m args below meth c nL D cl A Q (pc + 1) lo (va_rf v :: rest) M sz cells slots) : mw_J p l e R s m args below meth c nL D cl A Q pc lo (.int i :: .ref a :: rest) M sz cells slots := fun H locs ls hw hl => va_aldq X.1 X.2.1 X.2.2.2.2.2.1 (hw.2.1.one hm) 0 t0 rfl ht hin hd (by rw [hv]; exact kk H locs ls hw hl)
theorem mj_alen (X : mw_X p s m args meth c cc nL own Ts D cl tys) (t0 : Nat) {a : Nat} {cA : ClassId} {x : vp_A} {ty : FieldType} {v : Int32} (ht : tys[t0]? = some (cA, ty)) (hm : M a = some (.inl (cA, x))) (hv : Int32.ofNat x.1 = v) (hd : decode cc pc = .ok (.arraylength, 1)) (kk : mw_J p l e R s m args below meth c nL D cl A Q (pc + 1) lo (.int v :: rest) M sz cells slots) : mw_J p l e R s m args below meth c nL D cl A Q pc lo (.ref a :: rest) M sz cells slots := fun H locs ls hw hl => va_alen X.1 X.2.1 X.2.2.2.2.2.1 (hw.2.1.one hm) 0 t0 rfl ht hv hd (kk H locs ls hw hl)
theorem mj_bald (X : mw_X p s m args meth c cc nL own Ts D cl tys) (t0 : Nat) (v : Int32) {a : Nat} {cA : ClassId} {n : Nat} {f : Nat → Int32} {i : Int32} (ht : tys[t0]? = some (cA, .byte)) (hm : M a = some (.inl (cA, n, .inl f))) (hin : vp_in i n) (hv : f i.toNatClampNeg = v) (hd : decode cc pc = .ok (.baload, 1)) (kk : mw_J p l e R s m args below meth c nL D cl A Q (pc + 1) lo (.int v :: rest) M sz cells slots) : mw_J p l e R s m args below meth c nL D cl A Q pc lo (.int i :: .ref a :: rest) M sz cells slots := fun H locs ls hw hl => va_bald X.1 X.2.1 X.2.2.2.2.2.1 (hw.2.1.one hm) 0 t0 rfl ht hin hd (by rw [hv]; exact kk H locs ls hw hl)
theorem mj_mmax (X : mw_X p s m args meth c cc nL own Ts D cl tys) {index : Nat} {x y : Int32} (h1 : Cond.methodLink own index Lib.Math.max.name ∈ Ts) (h2 : Cond.static Lib.Math.max.name ∈ Ts) (h3 : Cond.initialized "java/lang/Math" ∈ Ts) (h4 : Cond.code Lib.Math.max.name Lib.Math.max.code 2 (some .int) ∈ Ts) (hfr : 1 ≤ R.frames) (hlo : (rest.map fun v => v.category).sum + 13 ≤ R.locals) (hc : cells ≤ R.cells) (hs : slots ≤ R.slots) (hd : decode cc pc = .ok (.invokestatic index, 3)) (kk : mw_J p l e R s m args below meth c nL D cl A Q (pc + 3) lo (.int (if x < y then y else x) :: rest) M sz cells slots) : mw_J p l e R s m args below meth c nL D cl A Q pc lo (.int y :: .int x :: rest) M sz cells slots := fun H locs ls hw hl => va_mmax X.1 X.2.1 (by rw [X.2.2.1]; exact hl.1.symm) X.2.2.2.1 (X.2.2.2.2.1 _ h1) (X.2.2.2.2.1 _ h2) (X.2.2.2.2.1 _ h3) (X.2.2.2.2.1 _ h4) hfr hlo hc hs hd (kk H locs ls hw hl)
theorem mj_mmin (X : mw_X p s m args meth c cc nL own Ts D cl tys) {index : Nat} {x y : Int32} (h1 : Cond.methodLink own index Lib.Math.min.name ∈ Ts) (h2 : Cond.static Lib.Math.min.name ∈ Ts) (h3 : Cond.initialized "java/lang/Math" ∈ Ts) (h4 : Cond.code Lib.Math.min.name Lib.Math.min.code 2 (some .int) ∈ Ts) (hfr : 1 ≤ R.frames) (hlo : (rest.map fun v => v.category).sum + 13 ≤ R.locals) (hc : cells ≤ R.cells) (hs : slots ≤ R.slots) (hd : decode cc pc = .ok (.invokestatic index, 3)) (kk : mw_J p l e R s m args below meth c nL D cl A Q (pc + 3) lo (.int (if y < x then y else x) :: rest) M sz cells slots) : mw_J p l e R s m args below meth c nL D cl A Q pc lo (.int y :: .int x :: rest) M sz cells slots := fun H locs ls hw hl => va_mmin X.1 X.2.1 (by rw [X.2.2.1]; exact hl.1.symm) X.2.2.2.1 (X.2.2.2.2.1 _ h1) (X.2.2.2.2.1 _ h2) (X.2.2.2.2.1 _ h3) (X.2.2.2.2.1 _ h4) hfr hlo hc hs hd (kk H locs ls hw hl)
theorem mj_iast (X : mw_X p s m args meth c cc nL own Ts D cl tys) (t0 j : Nat) {a : Nat} {cA : ClassId} {n : Nat} {f : Nat → Int32} {i x : Int32} (ht : tys[t0]? = some (cA, .int)) (hm : M a = some (.inl (cA, n, .inl f))) (hin : vp_in i n) (hj : i.toNatClampNeg = j) (hd : decode cc pc = .ok (.iastore, 1)) (kk : mw_J p l e R s m args below meth c nL D cl A Q (pc + 1) lo rest (mw_u M a (.inl (cA, n, .inl (upd f j x)))) sz cells slots) : mw_J p l e R s m args below meth c nL D cl A Q pc lo (.int x :: .int i :: .ref a :: rest) M sz cells slots := by
  subst hj
  intro H locs ls hw hl
  refine W.iast X.1 X.2.1 (hw.2.1 a _ hm) ((X.2.2.2.2.2.1.2 t0 _ ht).1 n (fun j => .int (f j))) (fun q => by cases q) (by show ¬ (i < 0 ∨ (arrV _ _ _).slots.size ≤ _); rw [arrV_size]; exact hin) rfl rfl hd fun H1 e1 z oq => ?_
  refine kk H1 _ ls (hw.set hm ?_ z oq) hl
  show H1[a]? = some (vp_cell _ _)
  rw [e1]
  rw [vp_cell_i, vp_cell_i, arrV_store]
  congr 2
  funext q
  by_cases hq : q = i.toNatClampNeg
  · subst hq
    simp [updV, upd, vp_nar]
    try rfl
  · simp [updV, upd, hq]
theorem mj_zast (X : mw_X p s m args meth c cc nL own Ts D cl tys) (t0 j : Nat) {a : Nat} {cA : ClassId} {n : Nat} {f : Nat → Int32} {i x : Int32} (ht : tys[t0]? = some (cA, .boolean)) (hm : M a = some (.inl (cA, n, .inl f))) (hin : vp_in i n) (hj : i.toNatClampNeg = j) (hd : decode cc pc = .ok (.bastore, 1)) (kk : mw_J p l e R s m args below meth c nL D cl A Q (pc + 1) lo rest (mw_u M a (.inl (cA, n, .inl (upd f j (vp_nar .boolean x))))) sz cells slots) : mw_J p l e R s m args below meth c nL D cl A Q pc lo (.int x :: .int i :: .ref a :: rest) M sz cells slots := by
  subst hj
  intro H locs ls hw hl
  refine W.zast X.1 X.2.1 (hw.2.1 a _ hm) ((X.2.2.2.2.2.1.2 t0 _ ht).1 n (fun j => .int (f j))) (fun q => by cases q) (by show ¬ (i < 0 ∨ (arrV _ _ _).slots.size ≤ _); rw [arrV_size]; exact hin) rfl rfl hd fun H1 e1 z oq => ?_
  refine kk H1 _ ls (hw.set hm ?_ z oq) hl
  show H1[a]? = some (vp_cell _ _)
  rw [e1]
  rw [vp_cell_i, vp_cell_i, arrV_store]
  congr 2
  funext q
  by_cases hq : q = i.toNatClampNeg
  · subst hq
    simp [updV, upd, vp_nar]
    try rfl
  · simp [updV, upd, hq]
theorem mj_bast (X : mw_X p s m args meth c cc nL own Ts D cl tys) (t0 j : Nat) {a : Nat} {cA : ClassId} {n : Nat} {f : Nat → Int32} {i x : Int32} (ht : tys[t0]? = some (cA, .byte)) (hm : M a = some (.inl (cA, n, .inl f))) (hin : vp_in i n) (hj : i.toNatClampNeg = j) (hd : decode cc pc = .ok (.bastore, 1)) (kk : mw_J p l e R s m args below meth c nL D cl A Q (pc + 1) lo rest (mw_u M a (.inl (cA, n, .inl (upd f j (vp_nar .byte x))))) sz cells slots) : mw_J p l e R s m args below meth c nL D cl A Q pc lo (.int x :: .int i :: .ref a :: rest) M sz cells slots := by
  subst hj
  intro H locs ls hw hl
  refine W.bast X.1 X.2.1 (hw.2.1 a _ hm) ((X.2.2.2.2.2.1.2 t0 _ ht).1 n (fun j => .int (f j))) (fun q => by cases q) (by show ¬ (i < 0 ∨ (arrV _ _ _).slots.size ≤ _); rw [arrV_size]; exact hin) rfl rfl hd fun H1 e1 z oq => ?_
  refine kk H1 _ ls (hw.set hm ?_ z oq) hl
  show H1[a]? = some (vp_cell _ _)
  rw [e1]
  rw [vp_cell_i, vp_cell_i, arrV_store]
  congr 2
  funext q
  by_cases hq : q = i.toNatClampNeg
  · subst hq
    simp [updV, upd, vp_nar]
    try rfl
  · simp [updV, upd, hq]
theorem mj_aast (X : mw_X p s m args meth c cc nL own Ts D cl tys) (t0 j : Nat) {a v ci : Nat} {cA : ClassId} {n : Nat} {r : vw_C} {vs : List Value} {f : Nat → Option Nat} {i : Int32} (ht : tys[t0]? = some (cA, .object r.1)) (hm : M a = some (.inl (cA, n, .inr (.inr (.inr (.inr f)))))) (hv : M v = some (.inr (ci, vs))) (hc : cl[ci]? = some r) (hin : vp_in i n) (hj : i.toNatClampNeg = j) (hd : decode cc pc = .ok (.aastore, 1)) (kk : mw_J p l e R s m args below meth c nL D cl A Q (pc + 1) lo rest (mw_u M a (.inl (cA, n, .inr (.inr (.inr (.inr (va_up f j (some v)))))))) sz cells slots) : mw_J p l e R s m args below meth c nL D cl A Q pc lo (.ref v :: .int i :: .ref a :: rest) M sz cells slots := by
  subst hj
  intro H locs ls hw hl
  have hK := X.2.2.2.2.2.1
  have hlt : i.toNatClampNeg < n := Nat.not_le.mp fun q => hin (Or.inr q)
  have h0 : ¬ i < 0 := fun q => hin (Or.inl q)
  obtain ⟨r', hr', cellV, g1, g2, g3, -⟩ := hw.2.1 v _ hv
  have hcls := (hK.1 ci r hc).2
  obtain ⟨kA, comp, k1, k2, k3, -⟩ := (hK.2 t0 _ ht).2
  have hcomp : comp = D.1 ci := Option.some.inj (k3.symm.trans hcls.1)
  subst hcomp
  obtain ⟨kC, hkC, -⟩ := hcls.2
  refine W.aast X.1 X.2.1 (hw.2.1 a _ hm) (fun q h => by cases h) (fun h => by cases h) k1 k2 rfl hkC ⟨h0, by show _ < (arrV _ _ _).slots.size; rw [arrV_size]; exact hlt⟩ g1 (fun q h => by rw [g3] at h; cases h) (by rw [g2]; exact hkC) (by rw [g2]; exact va_assign hcls) rfl rfl hd fun H1 e1 z oq => ?_
  refine kk H1 _ ls (hw.set hm ?_ z oq) hl
  show H1[a]? = some (vp_cell _ _)
  rw [e1, vp_cell_q, vp_cell_q, arrV_store]
  congr 2
  funext q
  by_cases hq : q = i.toNatClampNeg
  · subst hq
    simp [updV, va_up, va_rf]
  · simp [updV, va_up, hq]
theorem mj_get (X : mw_X p s m args meth c cc nL own Ts D cl tys) {C : String} {T : u_T} {N ci index a : Nat} {fs : List Value} {v : Value} (hin : ∀ w ∈ u_ws C T N, w ∈ Ts) (hc : cl[ci]? = some (C, T, N)) (k : Nat) (hk : k < N) (hlink : Cond.fieldLink own index (T k).1 (T k).2.1 (T k).2.2.1 ∈ Ts) (hm : M a = some (.inr (ci, fs))) (hv : fs[k]? = some v) (hd : decode cc pc = .ok (.getfield index, 3)) (kk : mw_J p l e R s m args below meth c nL D cl A Q (pc + 3) lo (v :: rest) M sz cells slots) : mw_J p l e R s m args below meth c nL D cl A Q pc lo (.ref a :: rest) M sz cells slots := fun H locs ls hw hl => va_get X.1 X.2.1 X.2.2.2.2.1 hin X.2.2.2.1 X.2.2.2.2.2.1 (hw.2.1.one hm) 0 rfl hc k hk (X.2.2.2.2.1 _ hlink) (fun _ h9 => h9) hv hd (kk H locs ls hw hl)
theorem mj_put (X : mw_X p s m args meth c cc nL own Ts D cl tys) {C : String} {T : u_T} {N ci index a : Nat} {fs : List Value} {v : Value} {ty : FieldType} (ty0 : Nat → FieldType) (hin : ∀ w ∈ u_ws C T N, w ∈ Ts) (hty : ∀ k, k < N → parseFieldDescriptor (T k).2.2.1 = some (ty0 k)) (hnm : ∀ a, a < N → ∀ b, b < N → a ≠ b → (T a).2.1 ≠ (T b).2.1) (hc : cl[ci]? = some (C, T, N)) (k : Nat) (hk : k < N) (hlink : Cond.fieldLink own index (T k).1 (T k).2.1 (T k).2.2.1 ∈ Ts) (hty1 : ty0 k = ty) (hm : M a = some (.inr (ci, fs))) (fs' : List Value) (hl0 : k < fs.length) (hfs' : fs.set k v = fs') (hn : narrow ty v = v) (hfit : fits ty v = true) (hfin : (T k).2.2.2 = false) (hd : decode cc pc = .ok (.putfield index, 3)) (kk : mw_J p l e R s m args below meth c nL D cl A Q (pc + 3) lo rest (mw_u M a (.inr (ci, fs'))) sz cells slots) : mw_J p l e R s m args below meth c nL D cl A Q pc lo (v :: .ref a :: rest) M sz cells slots := by
  subst hfs'
  intro H locs ls hw hl
  have hK := X.2.2.2.2.2.1
  have hts := X.2.2.2.2.1
  have hap := va_apart (own := own) hts hin ty0 hty hnm hK hc
  obtain ⟨r, h1, cell, q1, q2, q3, q4⟩ := hw.2.1 a _ hm
  have hr : r = (C, T, N) := Option.some.inj (h1.symm.trans hc)
  subst hr
  obtain ⟨hS, hfc, kC, hkC, hkind⟩ := hK.1 ci _ hc
  obtain ⟨cf, kf, fi, f, hi, hsl⟩ := hS k hk
  have hlay := hts _ (hin _ (u_in_lay hk))
  unfold u_lay at hlay
  rw [if_neg (by rw [hfin]; decide)] at hlay
  have hd0 : parseFieldDescriptor (T k).2.2.1 = some ty := by rw [← hty1]; exact hty k hk
  have hst := (u_facts hfc hkC (u_lays hts hin hk) hi).1
  have h6 := u_store hfc hkC hkind hlay hi hd0 hn hfit
  refine W.putK X.1 X.2.1 (f := f) ⟨X.2.2.2.1, hts _ hlink, ⟨_, _, _, hi⟩, hst⟩ (by rw [q2]; exact h6) q1 q3 (by rw [hsl]; exact k2_hasslot (q4 k hk)) rfl rfl hd fun H' e1 e2 e3 => ?_
  rw [hsl] at e1 ⊢
  exact kk H' _ ls (hw.set hm ⟨_, hc, t_OB.to (V := updV (vp_V fs) k v) ⟨_, e1, q2, q3, t_set q4 hap hk v⟩ (fun j _ => vp_updV_set hl0 v j)⟩ e2 e3) hl
theorem mj_putF (X : mw_X p s m args meth c cc nL own Ts D cl tys) {C : String} {T : u_T} {N ci index a : Nat} {fs : List Value} {v : Value} {ty : FieldType} (ty0 : Nat → FieldType) (hin : ∀ w ∈ u_ws C T N, w ∈ Ts) (hty : ∀ k, k < N → parseFieldDescriptor (T k).2.2.1 = some (ty0 k)) (hnm : ∀ a, a < N → ∀ b, b < N → a ≠ b → (T a).2.1 ≠ (T b).2.1) (hc : cl[ci]? = some (C, T, N)) (k : Nat) (hk : k < N) (hlink : Cond.fieldLink own index (T k).1 (T k).2.1 (T k).2.2.1 ∈ Ts) (hty1 : ty0 k = ty) (hm : M a = some (.inr (ci, fs))) (fs' : List Value) (hl0 : k < fs.length) (hfs' : fs.set k v = fs') (hn : narrow ty v = v) (hfit : fits ty v = true) (hfin : (T k).2.2.2 = true) (hin2 : meth.name = "<init>") (hdecl : (T k).1 = own) (hd : decode cc pc = .ok (.putfield index, 3)) (kk : mw_J p l e R s m args below meth c nL D cl A Q (pc + 3) lo rest (mw_u M a (.inr (ci, fs'))) sz cells slots) : mw_J p l e R s m args below meth c nL D cl A Q pc lo (v :: .ref a :: rest) M sz cells slots := by
  subst hfs'
  intro H locs ls hw hl
  have hK := X.2.2.2.2.2.1
  have hts := X.2.2.2.2.1
  have hap := va_apart (own := own) hts hin ty0 hty hnm hK hc
  obtain ⟨r, h1, cell, q1, q2, q3, q4⟩ := hw.2.1 a _ hm
  have hr : r = (C, T, N) := Option.some.inj (h1.symm.trans hc)
  subst hr
  obtain ⟨hS, hfc, kC, hkC, hkind⟩ := hK.1 ci _ hc
  obtain ⟨cf, kf, fi, f, hi, hsl⟩ := hS k hk
  have hlay := hts _ (hin _ (u_in_lay hk))
  unfold u_lay at hlay
  rw [if_pos hfin] at hlay
  have hd0 : parseFieldDescriptor (T k).2.2.1 = some ty := by rw [← hty1]; exact hty k hk
  have hst := (u_facts hfc hkC (u_lays hts hin hk) hi).1
  have hcf : m.cls = cf := by
    obtain ⟨_, _, c', _, _, _, -, -, hf', -, -, -, hown2, -⟩ := Cond.laysFinal_spec hlay
    have e1 : c' = cf := by have := hi.symm.trans hf'; simp at this; exact this.1.symm
    rw [hdecl] at hown2
    rw [← e1]; exact Option.some.inj (X.2.2.2.1.symm.trans hown2)
  have h6 := u_fits hfc hkC hkind (Or.inr hlay) hi hd0 hn hfit
  refine W.putFinK X.1 X.2.1 X.2.2.2.1 (hts _ hlink) hi hst hcf hin2 (by rw [q2]; exact h6) q1 q3 (by rw [hsl]; exact k2_hasslot (q4 k hk)) rfl rfl hd fun H' e1 e2 e3 => ?_
  rw [hsl] at e1 ⊢
  exact kk H' _ ls (hw.set hm ⟨_, hc, t_OB.to (V := updV (vp_V fs) k v) ⟨_, e1, q2, q3, t_set q4 hap hk v⟩ (fun j _ => vp_updV_set hl0 v j)⟩ e2 e3) hl
theorem mj_new (X : mw_X p s m args meth c cc nL own Ts D cl tys) {C : String} {T : u_T} {N ci index : Nat} (fs : List Value) (ty0 : Nat → FieldType) (hin : ∀ w ∈ u_ws C T N, w ∈ Ts) (hty : ∀ k, k < N → parseFieldDescriptor (T k).2.2.1 = some (ty0 k)) (hc : cl[ci]? = some (C, T, N)) (hfs : ∀ j, j < N → defaultValue (ty0 j) = vp_V fs j) (hcl : Cond.classLink own index C ∈ Ts) (hinst : Cond.instantiable C N ∈ Ts) (hini : Cond.initialized C ∈ Ts) (hcells : cells + 1 ≤ R.cells) (hslots : slots + N ≤ R.slots) (hd : decode cc pc = .ok (.new index, 3)) (kk : mw_J p l e R s m args below meth c nL D cl A Q (pc + 3) lo (.ref sz :: rest) (mw_u M sz (.inr (ci, fs))) (sz + 1) (cells + 1) (slots + N)) : mw_J p l e R s m args below meth c nL D cl A Q pc lo rest M sz cells slots := by
  intro H locs ls hw hl
  have hK := X.2.2.2.2.2.1
  have hts := X.2.2.2.2.1
  have hKn := hK.1 ci _ hc
  refine W.newcK X.1 X.2.1 X.2.2.2.1 (hts _ hcl) (hts _ hinst) (hts _ hini) rfl hd hcells hslots hKn.2.1 hw.1 fun H1 kC hkC e1 z1 o1 => ?_
  exact kk H1 locs ls (hw.push ⟨_, hc, (u_born ty0 hts hin hKn hkC e1 hty).to hfs⟩ z1 o1) hl
theorem mj_newa (X : mw_X p s m args meth c cc nL own Ts D cl tys) (t0 : Nat) {cA : ClassId} {atype : ArrayType} {ty : FieldType} {n : Int32} (N' : Nat) (a0 : vp_A) (ht : tys[t0]? = some (cA, ty)) (hty : newarray.typeOf atype = ty) (hpr : ∀ U : State, va_RA U cA ty → U.vm.findClass ("[" ++ ty.toString) = some cA) (harr : Cond.arrayClass (newarray.typeOf atype) ∈ Ts) (ha : ∀ cA : ClassId, vp_cell cA a0 = arrV cA N' (fun _ => defaultValue ty)) (hn : ¬ n < 0) (hN : n.toNatClampNeg = N') (hbytes : N' * componentBytes ty ≤ 536870912) (hcells : cells + 1 ≤ R.cells) (hslots : slots + N' ≤ R.slots) (hd : decode cc pc = .ok (.newarray atype, 2)) (kk : mw_J p l e R s m args below meth c nL D cl A Q (pc + 2) lo (.ref sz :: rest) (mw_u M sz (.inl (cA, a0))) (sz + 1) (cells + 1) (slots + N')) : mw_J p l e R s m args below meth c nL D cl A Q pc lo (.int n :: rest) M sz cells slots := by
  intro H locs ls hw hl
  subst hty
  have hK := X.2.2.2.2.2.1
  have hf := hpr s (hK.2 t0 _ ht).2
  refine va_newaK X.1 X.2.1 (X.2.2.2.2.1 _ harr) rfl hd rfl hn hN hbytes hcells hslots hw.1 fun H1 cA' e1 z1 o1 hAr hNm => ?_
  cases Option.some.inj (hf.symm.trans hNm)
  exact kk H1 locs ls (hw.push (by show H1[sz]? = some (vp_cell _ _); rw [ha]; exact e1) z1 o1) hl
theorem mj_newq (X : mw_X p s m args meth c cc nL own Ts D cl tys) (t0 : Nat) {cA : ClassId} {C : String} {index : Nat} {n : Int32} (N' : Nat) (ht : tys[t0]? = some (cA, .object C)) (hcl : Cond.classLink own index C ∈ Ts) (hov : C ∈ mw_ao) (hn : ¬ n < 0) (hN : n.toNatClampNeg = N') (hbytes : N' * 4 ≤ 536870912) (hcells : cells + 1 ≤ R.cells) (hslots : slots + N' ≤ R.slots) (hd : decode cc pc = .ok (.anewarray index, 3)) (kk : mw_J p l e R s m args below meth c nL D cl A Q (pc + 3) lo (.ref sz :: rest) (mw_u M sz (.inl (cA, N', .inr (.inr (.inr (.inr (fun _ => none))))))) (sz + 1) (cells + 1) (slots + N')) : mw_J p l e R s m args below meth c nL D cl A Q pc lo (.int n :: rest) M sz cells slots := by
  intro H locs ls hw hl
  subst hN
  have hK := X.2.2.2.2.2.1
  obtain ⟨kA0, comp0, -, -, -, hf⟩ := (hK.2 t0 _ ht).2
  refine W.anew X.1 X.2.1 X.2.2.2.1 (X.2.2.2.2.1 _ hcl) (va_AO.use (X.2.2.2.2.2.2.2 _ hov)) rfl hd rfl hn hbytes hcells hslots fun cA' kA comp f1 f2 f3 f4 => ?_
  cases Option.some.inj (hf.symm.trans f1)
  have h1 := hw.1
  subst h1
  refine kk _ locs ls (hw.push (e := .inl (cA, n.toNatClampNeg, .inr (.inr (.inr (.inr (fun _ => none)))))) ?_ (Array.size_push _) (fun q hq => by rw [Array.getElem?_push, if_neg (Nat.ne_of_lt hq)])) hl
  show (H.push _)[H.size]? = some (vp_cell _ _)
  rw [Array.getElem?_push_size, vp_cell_q, ← arrV_new]
  rfl
theorem mj_vret (X : mw_X p s m args meth c cc nL own Ts D cl tys) {M0 : mw_M} {sz0 mc ms : Nat} {Post : Option Value → mw_M → Nat → Prop}  (hr : meth.sig.returnType = none) (hc : cells ≤ mc) (hs : slots ≤ ms) (hd : decode cc pc = .ok (.return_, 1)) (hp : Post none M sz) : mw_J p l e R s m args below meth c nL D cl (mw_A M0 sz0) (MQ below (mw_Q D cl M0 sz0 Post) args s mc ms (mw_A M0 sz0)) pc lo [] M sz cells slots := by
  intro H locs ls hw hl
  refine W.widen hc hs ?_
  exact W.vret X.1 X.2.1 hr (fun t ht hW => ⟨⟨none, M, sz, rfl, hp, by rw [ht]; exact hw.1, by rw [ht]; exact hw.2.1, hw.2.2.1⟩, hw.2.2.2.2.F ht⟩) hw.2.2.2.2.2.2 hd (hlocks := X.2.2.2.2.2.2.1)
theorem mj_iret (X : mw_X p s m args meth c cc nL own Ts D cl tys) {M0 : mw_M} {sz0 mc ms : Nat} {Post : Option Value → mw_M → Nat → Prop} {v : Int32} (hr : meth.sig.returnType = some .int) (hc : cells ≤ mc) (hs : slots ≤ ms) (hd : decode cc pc = .ok (.ireturn, 1)) (hp : Post (some (.int v)) M sz) : mw_J p l e R s m args below meth c nL D cl (mw_A M0 sz0) (MQ below (mw_Q D cl M0 sz0 Post) args s mc ms (mw_A M0 sz0)) pc lo [.int v] M sz cells slots := by
  intro H locs ls hw hl
  refine W.widen hc hs ?_
  exact W.iret X.1 X.2.1 hr (fun t ht hW => ⟨⟨(some (.int v)), M, sz, rfl, hp, by rw [ht]; exact hw.1, by rw [ht]; exact hw.2.1, hw.2.2.1⟩, hw.2.2.2.2.F ht⟩) hw.2.2.2.2.2.2 hd (hlocks := X.2.2.2.2.2.2.1)
theorem mj_zret (X : mw_X p s m args meth c cc nL own Ts D cl tys) {M0 : mw_M} {sz0 mc ms : Nat} {Post : Option Value → mw_M → Nat → Prop} {v : Int32} {ty : FieldType} (hn : narrow ty (.int v) = .int v) (hr : meth.sig.returnType = some ty) (hc : cells ≤ mc) (hs : slots ≤ ms) (hd : decode cc pc = .ok (.ireturn, 1)) (hp : Post (some (.int v)) M sz) : mw_J p l e R s m args below meth c nL D cl (mw_A M0 sz0) (MQ below (mw_Q D cl M0 sz0 Post) args s mc ms (mw_A M0 sz0)) pc lo [.int v] M sz cells slots := by
  intro H locs ls hw hl
  refine W.widen hc hs ?_
  exact W.zret X.1 X.2.1 hr hn (fun t ht hW => ⟨⟨(some (.int v)), M, sz, rfl, hp, by rw [ht]; exact hw.1, by rw [ht]; exact hw.2.1, hw.2.2.1⟩, hw.2.2.2.2.F ht⟩) hw.2.2.2.2.2.2 hd (hlocks := X.2.2.2.2.2.2.1)
theorem mj_aret (X : mw_X p s m args meth c cc nL own Ts D cl tys) {M0 : mw_M} {sz0 mc ms : Nat} {Post : Option Value → mw_M → Nat → Prop} {v : Value} {n : String} (hv : v = .null ∨ ∃ a, v = .ref a) (hr : meth.sig.returnType = some (.object n)) (hc : cells ≤ mc) (hs : slots ≤ ms) (hd : decode cc pc = .ok (.areturn, 1)) (hp : Post (some v) M sz) : mw_J p l e R s m args below meth c nL D cl (mw_A M0 sz0) (MQ below (mw_Q D cl M0 sz0 Post) args s mc ms (mw_A M0 sz0)) pc lo [v] M sz cells slots := by
  intro H locs ls hw hl
  refine W.widen hc hs ?_
  exact W.aret X.1 X.2.1 hr (Or.inl ⟨n, rfl⟩) hv (fun t ht hW => ⟨⟨(some v), M, sz, rfl, hp, by rw [ht]; exact hw.1, by rw [ht]; exact hw.2.1, hw.2.2.1⟩, hw.2.2.2.2.F ht⟩) hw.2.2.2.2.2.2 hd (hlocks := X.2.2.2.2.2.2.1)
theorem mw_run {mc ms : Nat} {ls : Array Slot} {H : Heap} {locs : List Loc} {a' : Array Value} {Post : Option Value → mw_M → Nat → Prop} {st0 : List Value} (hr : va_Run p l e R s m args below meth c H locs cells slots mc ms (F0 m pc ls st0) rest (mw_Q D cl M sz Post a') (mw_A M sz)) (hw : mw_W D cl A s.heap M sz H locs) (hl : lv_has ls nL lo)
    (kk : ∀ (v : Option Value) (M' : mw_M) (sz' : Nat), Post v M' sz' → mw_J p l e R s m args below meth c nL D cl A Q (pc + 3) lo (v.toList ++ rest) M' sz' (cells + mc) (slots + ms)) : W p l e R s m args below meth c H locs cells slots Q (F0 m pc ls st0) := by
  intro T hT X
  obtain ⟨v, st₀, t, T', L, h0, X', hL, e1, e2, ⟨⟨v', M', sz', hv, hp, hs1, hP1, hD1⟩, hz, hk⟩, st⟩ := hr T hT X
  cases hv
  rw [h0] at hz hk
  obtain ⟨w1, w2, w3, w4, hS⟩ := hw
  have hAA : ∀ q, mw_A M sz q → A q := fun q h => by
    rcases h with ⟨x, h⟩ | h
    · exact w3 q x h
    · exact w4 q (Nat.le_trans hS.1 (by rw [w1]; exact h))
  obtain ⟨t2, a1, b1⟩ := kk v M' sz' hp T'.heap (locs ++ L) ls ⟨by rw [e1]; exact hs1, by rw [e1]; exact hP1, fun a x h => hAA a (hD1 a x h), w4, ⟨Nat.le_trans hS.1 (by rw [e1]; exact hz), fun q h1 h2 => by rw [e1, hk q (Nat.lt_of_lt_of_le h1 hS.1) (fun z => h2 (hAA q z))]; exact hS.2.1 q h1 h2, fun q hq => by
      rcases List.mem_append.mp hq with h | h
      · exact hS.2.2 q h
      · exact hAA _ (hL q h)⟩⟩ hl T' rfl X'
  exact ⟨t2, st t2 a1, b1⟩
theorem mw_blind {av : List Value} : FrameBlind (va_Pc av (mw_B D cl tys M sz)) := fun a U g mk q => by
  obtain ⟨q0, q1, q2, q3, q4⟩ := q
  exact ⟨q0, q1, q2, va_K.moved (u := U) (U := U.calling g mk a) (Vm.Alike.refl U.vm) q3, fun C hC => va_AO.moved (u := U) (U := U.calling g mk a) (Vm.Alike.refl U.vm) (q4 C hC)⟩
theorem mw_pre {av : List Value} {H : Heap} {locs : List Loc} (X : mw_X p s m args meth c cc nL own Ts D cl tys) (hw : mw_W D cl A s.heap M sz H locs) : ∀ U : State, U.heap = H → s.WarmedH U.vm → va_Pc av (mw_B D cl tys M sz) av.toArray U := fun U hU hW => ⟨rfl, by rw [hU]; exact hw.1, by rw [hU]; exact hw.2.1, va_K.moved hW.alike X.2.2.2.2.2.1, fun C hC => va_AO.moved hW.alike (X.2.2.2.2.2.2.2 C hC)⟩
theorem mj_callV (X : mw_X p s m args meth c cc nL own Ts D cl tys) {ws ws' : List Cond} {y : MethodName} {bytes : ByteArray} {maxL index : Nat} {ret : Option FieldType} {rm : Room} {As : List Value} {Post : Option Value → mw_M → Nat → Prop} {C : String} {b ci : Nat} {TT : u_T} {NN : Nat} {fs : List Value} (n : Nat) (hG : GoodIn Ts (wsV own index C y ws)) (hw0 : ws = Cond.code y bytes maxL ret :: ws') (hd0 : y.cls = C ∧ y.cls ≠ "java/lang/invoke/MethodHandle" ∧ y.cls ≠ "java/lang/invoke/VarHandle" ∧ (parseMethodDescriptor y.desc).map (fun d => d.parameters.length) = some n) (hR : rm.frames + 1 ≤ R.frames ∧ 8 + (maxL + 11) + rm.locals ≤ R.locals)
    (h : mw_C ws l y rm D cl tys (.ref b :: As) M sz Post) (hc : cl[ci]? = some (C, TT, NN)) (hm : M b = some (.inr (ci, fs))) (hn : As.length = n) (hst : st = As.reverse ++ .ref b :: rest) (hro : (rest.map fun v => v.category).sum ≤ 8) (hd : decode cc pc = .ok (.invokevirtual index, 3)) (hf : cells + rm.cells ≤ R.cells ∧ slots + rm.slots ≤ R.slots) (kk : ∀ (v : Option Value) (M' : mw_M) (sz' : Nat), Post v M' sz' → mw_J p l e R s m args below meth c nL D cl A Q (pc + 3) lo (v.toList ++ rest) M' sz' (cells + rm.cells) (slots + rm.slots)) : mw_J p l e R s m args below meth c nL D cl A Q pc lo st M sz cells slots := by
  intro H locs ls hw hl
  have hK := X.2.2.2.2.2.1
  have hts := X.2.2.2.2.1
  have hrec := va_recv hK (hw.2.1.one hm) hc (q0 := 0) rfl
  subst hst
  exact mw_run (va_runV (As := As) (rest := rest) ⟨X.1, X.2.1, X.2.2.1, X.2.2.2.1, hts⟩ h (cwV n hts hG hw0 rfl rfl hd0 hR) ⟨mw_blind, hrec, mw_pre X hw⟩ rfl hn hl.1 rfl (lv_room hro) hd hf) hw hl kk
theorem mj_callS (X : mw_X p s m args meth c cc nL own Ts D cl tys) {ws ws' : List Cond} {y : MethodName} {bytes : ByteArray} {maxL index : Nat} {ret : Option FieldType} {rm : Room} {As : List Value} {Post : Option Value → mw_M → Nat → Prop} (n : Nat) (hG : GoodIn Ts (va_wsS own index y ws)) (hw0 : ws = Cond.code y bytes maxL ret :: ws') (hd0 : y.cls ≠ "java/lang/invoke/MethodHandle" ∧ y.cls ≠ "java/lang/invoke/VarHandle" ∧ (parseMethodDescriptor y.desc).map (fun d => d.parameters.length) = some n) (hR : rm.frames + 1 ≤ R.frames ∧ 8 + (maxL + 11) + rm.locals ≤ R.locals)
    (h : mw_C ws l y rm D cl tys As M sz Post) (hn : As.length = n) (hst : st = As.reverse ++ rest) (hro : (rest.map fun v => v.category).sum ≤ 8) (hd : decode cc pc = .ok (.invokestatic index, 3)) (hf : cells + rm.cells ≤ R.cells ∧ slots + rm.slots ≤ R.slots) (kk : ∀ (v : Option Value) (M' : mw_M) (sz' : Nat), Post v M' sz' → mw_J p l e R s m args below meth c nL D cl A Q (pc + 3) lo (v.toList ++ rest) M' sz' (cells + rm.cells) (slots + rm.slots)) : mw_J p l e R s m args below meth c nL D cl A Q pc lo st M sz cells slots := by
  intro H locs ls hw hl
  have hts := X.2.2.2.2.1
  subst hst
  exact mw_run (va_runS (As := As) (rest := rest) ⟨X.1, X.2.1, X.2.2.1, X.2.2.2.1, hts⟩ h (va_cwS n hts hG hw0 rfl rfl hd0 hR) ⟨mw_blind, mw_pre X hw⟩ rfl hn hl.1 rfl (lv_room hro) hd hf) hw hl kk
theorem mj_callI (X : mw_X p s m args meth c cc nL own Ts D cl tys) {ws ws' : List Cond} {y : MethodName} {bytes : ByteArray} {maxL index : Nat} {rm : Room} {As : List Value} {Post : Option Value → mw_M → Nat → Prop} {b : Nat} (n : Nat) (hG : GoodIn Ts ws) (hw0 : ws = Cond.code y bytes maxL none :: ws') (hy1 : y.name = "<init>") (h1 : Cond.initialized y.cls ∈ Ts) (h2 : Cond.methodLink own index y ∈ Ts) (h3 : Cond.instanceMethod y ∈ Ts) (hd0 : y.cls ≠ "java/lang/invoke/MethodHandle" ∧ y.cls ≠ "java/lang/invoke/VarHandle" ∧ (parseMethodDescriptor y.desc).map (fun d => d.parameters.length) = some n) (hR : rm.frames + 1 ≤ R.frames ∧ 8 + (maxL + 11) + rm.locals ≤ R.locals)
    (h : mw_C ws l y rm D cl tys (.ref b :: As) M sz Post) (hn : As.length = n) (hst : st = As.reverse ++ .ref b :: rest) (hro : (rest.map fun v => v.category).sum ≤ 8) (hd : decode cc pc = .ok (.invokespecial index, 3)) (hf : cells + rm.cells ≤ R.cells ∧ slots + rm.slots ≤ R.slots) (kk : ∀ (v : Option Value) (M' : mw_M) (sz' : Nat), Post v M' sz' → mw_J p l e R s m args below meth c nL D cl A Q (pc + 3) lo (v.toList ++ rest) M' sz' (cells + rm.cells) (slots + rm.slots)) : mw_J p l e R s m args below meth c nL D cl A Q pc lo st M sz cells slots := by
  intro H locs ls hw hl
  have hts := X.2.2.2.2.1
  subst hst
  exact mw_run (va_runI (As := As) (rest := rest) ⟨X.1, X.2.1, X.2.2.1, X.2.2.2.1, hts⟩ h (cwI n hts hG hw0 rfl rfl (hts _ h1) (hts _ h2) (hts _ h3) hy1 hd0 hR) ⟨mw_blind, mw_pre X hw⟩ rfl hn hl.1 rfl (lv_room hro) hd hf) hw hl kk
theorem mj_objInit (X : mw_X p s m args meth c cc nL own Ts D cl tys) {idx a : Nat} (h1 : Cond.methodLink own idx Lib.objectInit ∈ Ts) (h2 : Cond.instanceMethod Lib.objectInit ∈ Ts) (h3 : Cond.code Lib.objectInit ⟨#[0xb1]⟩ 1 none ∈ Ts) (hd : decode cc pc = .ok (.invokespecial idx, 3)) (hfr : 1 ≤ R.frames) (hlo : (rest.map fun v => v.category).sum + 12 ≤ R.locals) (kk : mw_J p l e R s m args below meth c nL D cl A Q (pc + 3) lo rest M sz cells slots) : mw_J p l e R s m args below meth c nL D cl A Q pc lo (.ref a :: rest) M sz cells slots := by
  intro H locs ls hw hl
  have hts := X.2.2.2.2.1
  refine W.objInit X.1 X.2.1 X.2.2.2.1 (hts _ h1) (hts _ h2) (hts _ h3) rfl (by rw [X.2.2.1]; exact hl.1) rfl hd hfr ?_ (kk H locs ls hw hl)
  show 2 * 0 + _ + 12 ≤ _
  omega
theorem mk_i {P : Int32 → mw_M → Nat → Prop} {cs ss q : Nat} (h : ∀ (r : Int32) (M' : mw_M) (sz' : Nat), P r M' sz' → mw_J p l e R s m args below meth c nL D cl A Q q lo (.int r :: rest) M' sz' cs ss) : ∀ (v : Option Value) (M' : mw_M) (sz' : Nat), mq_i P v M' sz' → mw_J p l e R s m args below meth c nL D cl A Q q lo (v.toList ++ rest) M' sz' cs ss := by
  rintro v M' sz' ⟨r, rfl, hp⟩
  exact h r M' sz' hp
theorem mk_v {P : mw_M → Nat → Prop} {cs ss q : Nat} (h : ∀ (M' : mw_M) (sz' : Nat), P M' sz' → mw_J p l e R s m args below meth c nL D cl A Q q lo rest M' sz' cs ss) : ∀ (v : Option Value) (M' : mw_M) (sz' : Nat), mq_v P v M' sz' → mw_J p l e R s m args below meth c nL D cl A Q q lo (v.toList ++ rest) M' sz' cs ss := by
  rintro v M' sz' ⟨rfl, hp⟩
  exact h M' sz' hp
theorem mk_q {P : Option Nat → mw_M → Nat → Prop} {cs ss q : Nat} (h : ∀ (o : Option Nat) (M' : mw_M) (sz' : Nat), P o M' sz' → mw_J p l e R s m args below meth c nL D cl A Q q lo (va_rf o :: rest) M' sz' cs ss) : ∀ (v : Option Value) (M' : mw_M) (sz' : Nat), mq_q P v M' sz' → mw_J p l e R s m args below meth c nL D cl A Q q lo (v.toList ++ rest) M' sz' cs ss := by
  rintro v M' sz' ⟨o, rfl, hp⟩
  exact h o M' sz' hp
theorem mk_ri {P : Int32 → Prop} {cs ss q : Nat} (h : ∀ r : Int32, P r → mw_J p l e R s m args below meth c nL D cl A Q q lo (.int r :: rest) M sz cs ss) : ∀ (v : Option Value) (M' : mw_M) (sz' : Nat), mq_i (fun r M' sz' => M' = M ∧ sz' = sz ∧ P r) v M' sz' → mw_J p l e R s m args below meth c nL D cl A Q q lo (v.toList ++ rest) M' sz' cs ss := by
  rintro v M' sz' ⟨r, rfl, h1, h2, hp⟩
  rw [h1, h2]
  exact h r hp
theorem mk_rq {P : Option Nat → Prop} {cs ss q : Nat} (h : ∀ o : Option Nat, P o → mw_J p l e R s m args below meth c nL D cl A Q q lo (va_rf o :: rest) M sz cs ss) : ∀ (v : Option Value) (M' : mw_M) (sz' : Nat), mq_q (fun r M' sz' => M' = M ∧ sz' = sz ∧ P r) v M' sz' → mw_J p l e R s m args below meth c nL D cl A Q q lo (v.toList ++ rest) M' sz' cs ss := by
  rintro v M' sz' ⟨o, rfl, h1, h2, hp⟩
  rw [h1, h2]
  exact h o hp
theorem mj_top {x : Int32} (y : Int32) (h : x = y) (kk : mw_J p l e R s m args below meth c nL D cl A Q pc lo (.int y :: rest) M sz cells slots) : mw_J p l e R s m args below meth c nL D cl A Q pc lo (.int x :: rest) M sz cells slots := by rw [h]; exact kk
theorem mj_top' {v : Value} (w : Value) (h : v = w) (kk : mw_J p l e R s m args below meth c nL D cl A Q pc lo (w :: rest) M sz cells slots) : mw_J p l e R s m args below meth c nL D cl A Q pc lo (v :: rest) M sz cells slots := by rw [h]; exact kk
end MW
