-- ===== methods that throw, in my layer =====
/-- the words of a throw that are not good ones -/
def mx_bad : List Cond := [.castable "java/util/NoSuchElementException" "java/util/NoSuchElementException", .castable "java/lang/ArrayIndexOutOfBoundsException" "java/lang/ArrayIndexOutOfBoundsException", .declares ⟨"java/lang/RuntimeException", "<init>", "()V"⟩, .declares ⟨"java/lang/Exception", "<init>", "()V"⟩, .declares ⟨"java/lang/Throwable", "<init>", "()V"⟩, .declares ⟨"java/lang/IndexOutOfBoundsException", "<init>", "()V"⟩]
def mx_Z (A : Nat → Prop) (U : State) (H : Heap) : Prop := vx_Zq Bundle.tN "UNASSIGNED_STACK" Bundle.steD A U H ∧ vx_Zq Bundle.tN "SUPPRESSED_SENTINEL" Bundle.listD A U H ∧ ∀ w ∈ mx_bad, ∀ a : Array Value, w.before a U = true
theorem mx_Z.kept {A : Nat → Prop} {U : State} {H H1 : Heap} (h : mx_Z A U H) (hq : ∀ a : Nat, a < H.size → ¬ A a → H1[a]? = H[a]?) : mx_Z A U H1 := ⟨h.1.kept hq, h.2.1.kept hq, h.2.2⟩
theorem mx_Z.narrow {A B : Nat → Prop} {U : State} {H : Heap} (h : mx_Z A U H) (hAB : ∀ q, B q → A q) : mx_Z B U H := ⟨h.1.narrow hAB, h.2.1.narrow hAB, h.2.2⟩
theorem mx_tr {u U : State} {c : Cond} (hc : c.onTables = true) {a : Array Value} (h : c.before #[] (u.setVm U.vm) = true) : c.before a U = true := by
  have e := Cond.onTables_vm (A := #[]) (A' := a) (U := u) (U' := U) U.vm c hc
  have hU : U.setVm U.vm = U := rfl
  rw [hU] at e
  rw [← e]
  exact h
theorem mx_Z.moved {A : Nat → Prop} {u U : State} {H : Heap} (hvm : u.vm.Alike U.vm) (h : mx_Z A u H) : mx_Z A U H := by
  refine ⟨h.1.moved hvm, h.2.1.moved hvm, fun w hw a => ?_⟩
  have h9 := h.2.2 w hw #[]
  simp only [mx_bad, List.mem_cons, List.not_mem_nil, or_false] at hw
  rcases hw with rfl | rfl | rfl | rfl | rfl | rfl
  · exact mx_tr (u := u) rfl (by rw [Cond.castable_setVm hvm]; exact h9)
  · exact mx_tr (u := u) rfl (by rw [Cond.castable_setVm hvm]; exact h9)
  · exact mx_tr (u := u) rfl (by rw [Cond.declares_setVm hvm]; exact h9)
  · exact mx_tr (u := u) rfl (by rw [Cond.declares_setVm hvm]; exact h9)
  · exact mx_tr (u := u) rfl (by rw [Cond.declares_setVm hvm]; exact h9)
  · exact mx_tr (u := u) rfl (by rw [Cond.declares_setVm hvm]; exact h9)
def mx_B (D : va_G) (cl : List vw_C) (tys : List (ClassId × FieldType)) (M : mw_M) (sz : Nat) (U : State) : Prop := mw_B D cl tys M sz U ∧ mx_Z (mw_A M sz) U U.heap
/-- where it has thrown: the class, the world as it was, the heap no smaller -/
def mx_X (D : va_G) (cl : List vw_C) (M : mw_M) (sz : Nat) (PX : String → Prop) : String → State → State → Prop := fun E st t => PX E ∧ sz ≤ t.heap.size ∧ mw_P D cl M t.heap ∧ va_F (mw_A M sz) st t
def mx_C (ws : List Cond) (l : Launch) (y : MethodName) (rm : Room) (D : va_G) (cl : List vw_C) (tys : List (ClassId × FieldType)) (av : List Value) (M : mw_M) (sz : Nat) (Post : Option Value → mw_M → Nat → Prop) (PX : String → Prop) : Prop :=
  vx_Met l y ws rm (va_Pc av (mx_B D cl tys M sz)) (mw_Q D cl M sz Post) (mx_X D cl M sz PX) rm.cells rm.slots (mw_A M sz)
theorem mx_enter {ws ws' : List Cond} {l : Launch} {y : MethodName} {cc : ByteArray} {maxL : Nat} {ret : Option FieldType} {rm : Room} {D : va_G} {cl : List vw_C} {tys : List (ClassId × FieldType)} {av : List Value} {M : mw_M} {sz : Nat} {Post : Option Value → mw_M → Nat → Prop} {PX : String → Prop} (hw : ws = Cond.code y cc maxL ret :: ws') (hy : plainName y.cls = true) (hav : (lg_sl av).length ≤ maxL)
    (body : ∀ (p : Program) (e : Env) (s : State) (m : MethodId) (below : List Frame) (meth : Method) (c : Code), mw_X p s m av.toArray meth c cc maxL y.cls ws D cl tys → meth.sig.returnType = ret → meth.name = y.name → (∀ (a : Nat) (x : va_E), M a = some x → a < sz) → (∀ x ∈ c.exceptionTable.toList, False) → mx_Z (mw_A M sz) s s.heap →
      mw_J p l e rm s m av.toArray below meth c maxL D cl (mw_A M sz) (vx_MQ below (mw_Q D cl M sz Post) (mx_X D cl M sz PX) av.toArray s rm.cells rm.slots (mw_A M sz)) 0 (lv_args 0 av) [] M sz 0 0) : mx_C ws l y rm D cl tys av M sz Post PX := by
  refine vx_ofW (cc := cc) (maxL := maxL) (ret := ret) hy hw ?_
  intro p e s m args below meth c s₁ B hml hnt hv
  obtain ⟨rfl, ⟨hsz, hP, hK, hao⟩, hZ⟩ := hv
  have hts := atoms_spec (ws := ws) B.pre
  have hown : s.vm.findClass y.cls = some m.cls := findClass_of_methodNamed B.named
  have hl := lv_entry av (n := maxL) hav
  rw [lg_entry_eq]
  exact body p e s m below meth c ⟨B.exec, B.bytes, hml, hown, hts, hK, B.notSynchronized, hao⟩ B.returns (name_of_methodNamed B.named B.method).1 (fun a x h => by rw [← hsz]; exact hP.lt h) hnt hZ s.heap [] _ ⟨hsz, hP, fun a x h => Or.inl ⟨x, h⟩, fun q h => Or.inr (by rw [← hsz]; exact h), va_S.rf⟩ hl
section MXA
variable {p : Program} {l : Launch} {e : Env} {R : Room} {s : State} {m : MethodId} {args : Array Value} {below : List Frame} {meth : Method} {c : Code} {nL : Nat} {D : va_G} {cl : List vw_C} {A : Nat → Prop} {pc : Nat} {lo : List (Nat × Value)} {st rest : List Value} {M : mw_M} {sz cells slots : Nat} {cc : ByteArray} {own : String} {Ts : List Cond} {tys : List (ClassId × FieldType)}
/-- a road that returns -/
theorem mx_back {Qc : Array Value → State → Outcome → State → Prop} {XC : String → State → State → Prop} {mc ms : Nat} {free : Addr → Prop} (k : mw_J p l e R s m args below meth c nL D cl A (MQ below Qc args s mc ms free) pc lo st M sz cells slots) : mw_J p l e R s m args below meth c nL D cl A (vx_MQ below Qc XC args s mc ms free) pc lo st M sz cells slots := fun H locs ls hw hl => vx_ret (k H locs ls hw hl)
/-- new, dup, invokespecial, athrow: the road that throws -/
theorem mx_throw (X : mw_X p s m args meth c cc nL own Ts D cl tys) (hl : l.stackTraces = false) {cls : String} {names : List String} {ik ic mc ms : Nat} {Post : Option Value → mw_M → Nat → Prop} {PX : String → Prop}
    (hZ : mx_Z (mw_A M sz) s s.heap) (hnt : ∀ x ∈ c.exceptionTable.toList, False)
    (hcls : Bundle.fit cls = true) (hnames : ∀ n ∈ names, Bundle.fit n = true) (hk : Cond.classLink own ik cls ∈ Ts) (hini : Cond.initialized cls ∈ Ts)
    (hat : ∀ w ∈ (vx_at0 own ic cls names).filter goodWord, w ∈ Ts) (hbad : ∀ w ∈ (vx_at0 own ic cls names).filter (fun w => !goodWord w), w ∈ mx_bad)
    (hgood : ∀ w ∈ Cond.classLink own ik cls :: Cond.initialized cls :: vx_at0 own ic cls names, vx_ot w = true)
    (d0 : decode cc pc = .ok (.new ik, 3)) (d3 : decode cc (pc + 3) = .ok (.dup, 1)) (d4 : decode cc (pc + 4) = .ok (.invokespecial ic, 3)) (d7 : decode cc (pc + 7) = .ok (.athrow, 1))
    (hRframes : names.length + 3 < R.frames) (hRlocals : (rest.map fun v => v.category).sum + (13 * (names.length + 1) + 42) ≤ R.locals) (hRcells : cells + 1 ≤ R.cells) (hRslots : slots + 6 ≤ R.slots)
    (hc : cells + 1 ≤ mc) (hs : slots + 6 ≤ ms) (hPX : PX cls) :
    mw_J p l e R s m args below meth c nL D cl (mw_A M sz) (vx_MQ below (mw_Q D cl M sz Post) (mx_X D cl M sz PX) args s mc ms (mw_A M sz)) pc lo rest M sz cells slots := by
  intro H locs ls hw hls
  obtain ⟨h1, h2, h3, h4, h5⟩ := hw
  have hsz : ls.size = c.maxLocals := by rw [X.2.2.1]; exact hls.1
  refine vx_throw0 (A := mw_A M sz) X.1 X.2.1 hl X.2.2.2.1 hcls hnames (X.2.2.2.2.1 _ hk) (X.2.2.2.2.1 _ hini) (vx_hat (fun w hw => X.2.2.2.2.1 _ (hat w hw)) hbad (fun w hw => hZ.2.2 w hw args)) hgood hZ.1 hZ.2.1 h5 hsz d0 d3 d4 d7 (fun x hx => (hnt x hx).elim) hRframes hRlocals hRcells hRslots X.2.2.2.2.2.2.1 (fun t hal hle hk9 => ⟨hPX, by rw [← h1]; exact hle, fun a x hm => (h2 a x hm).kept (hk9 a (h2.lt hm)), Nat.le_trans h5.1 hle, fun q hq hA => (hk9 q (Nat.lt_of_lt_of_le hq h5.1)).trans (h5.2.1 q hq hA)⟩) h5.2.2 hc hs
end MXA
theorem w_Pkg_fault_0 : ∀ w ∈ u_ws RX8 TX8 7, w ∈ wsX8_fault := by decide +kernel
theorem w_Pkg_fault_1 : Cond.fieldLink RX8 31 "PackageRows2" "faults" "LPackageRows2$Faults;" ∈ wsX8_fault := by decide +kernel
set_option maxHeartbeats 4000000 in
set_option maxRecDepth 100000 in
theorem c_Pkg_fault (l : Launch) (hlt0 : l.stackTraces = false) (D : va_G) (ca : Nat → ClassId) (M : mw_M) (sz x nv : Nat) (zn : Nat) (zf zg : Nat → Int32) (k y : Int32) (hx : M x = some (.inr (8, [.ref (x + 1), .ref (x + 3), .ref (x + 5), .ref (x + 8), .ref (x + 11), .int (nI nv), .ref (x + 12)]))) (hz : M (x + 8) = some (.inr (3, [.ref (x + 8 + 1), .ref (x + 8 + 2), .int (nI zn)]))) (hz1 : M (x + 8 + 1) = some (.inl (ca 0, 24, .inl zf))) (hz2 : M (x + 8 + 2) = some (.inl (ca 0, 24, .inl zg))) (hzn : zn ≤ 24) : mx_C wsX8_fault l yX8_fault { frames := 6, cells := 1, slots := 6, locals := 81 } D vwCl (mt ca) [.ref x, .int k, .int y] M sz (mq_i (fun v9 M' sz' => M' = M ∧ sz' = sz ∧ ((y ≠ 0 ∧ y ≠ 1 ∧ v9 = -1) ∨ ∃ j, j < zn ∧ k = nI j ∧ ((y = 0 ∧ v9 = zf j) ∨ (y = 1 ∧ v9 = zg j))))) (fun E9 => E9 = "java/util/NoSuchElementException" ∧ (y = 0 ∨ y = 1) ∧ ∀ j, j < zn → k ≠ nI j) := by
  refine mx_enter (cc := cX8_fault) (maxL := 3) (ret := (some .int)) rfl (by decide) (Nat.le_of_ble_eq_true rfl) ?_
  intro p e s m below meth c X hr0 hnm hlt hnt hZ
  refine mj_iload_n X dX8_fault_0 rfl 2 rfl ?_
  refine mj_if_eq X 11 dX8_fault_1 (by decide) (fun c1 => ?_) (fun c1 => ?_)
  · refine mj_aload_n X dX8_fault_11 rfl 0 rfl ?_
    refine mj_get X (C := RX8) (T := TX8) (N := 7) (ci := 8) w_Pkg_fault_0 rfl 3 (by decide) w_Pkg_fault_1 hx rfl dX8_fault_12 ?_
    refine mj_iload_n X dX8_fault_15 rfl 1 rfl ?_
    refine mj_callV X 1 gX8_fault_X2_has rfl (by decide +kernel) ⟨by decide, by decide⟩ (c_Faults_has l D ca M sz (x + 8) zn zf zg k hz hz1 hz2 hzn) rfl hz rfl rfl (Nat.le_of_ble_eq_true rfl) dX8_fault_16 ⟨by decide, by decide⟩ (mk_ri (fun b16 hb16 => ?_))
    refine mj_if_ne X 30 dX8_fault_19 (by decide) (fun c19 => ?_) (fun c19 => ?_)
    · refine mj_iload_n X dX8_fault_30 rfl 2 rfl ?_
      refine mj_if_ne X 45 dX8_fault_31 (by decide) (fun c31 => ?_) (fun c31 => ?_)
      · refine mj_aload_n X dX8_fault_45 rfl 0 rfl ?_
        refine mj_get X (C := RX8) (T := TX8) (N := 7) (ci := 8) w_Pkg_fault_0 rfl 3 (by decide) w_Pkg_fault_1 hx rfl dX8_fault_46 ?_
        refine mj_iload_n X dX8_fault_49 rfl 1 rfl ?_
        refine mj_callV X 1 gX8_fault_X2_numberOf rfl (by decide +kernel) ⟨by decide, by decide⟩ (c_Faults_numberOf l D ca M sz (x + 8) zn zf zg k hz hz1 hz2 hzn) rfl hz rfl rfl (Nat.le_of_ble_eq_true rfl) dX8_fault_50 ⟨by decide, by decide⟩ (mk_ri (fun b50 hb50 => ?_))
        refine mx_back ?_
        refine mj_iret X hr0 (by decide) (by decide) dX8_fault_53 ?_
        obtain ⟨j, hj, ej⟩ := (hb16.resolve_right (fun h9 => c19 h9.1)).2
        rcases hb50 with ⟨j2, hj2, ej2, e5⟩ | ⟨h5, -⟩
        · exact ⟨_, rfl, rfl, rfl, Or.inr ⟨j2, hj2, ej2, Or.inr ⟨absurd c1 c31, e5⟩⟩⟩
        · exact absurd ej (h5 j hj)
      · refine mj_aload_n X dX8_fault_34 rfl 0 rfl ?_
        refine mj_get X (C := RX8) (T := TX8) (N := 7) (ci := 8) w_Pkg_fault_0 rfl 3 (by decide) w_Pkg_fault_1 hx rfl dX8_fault_35 ?_
        refine mj_iload_n X dX8_fault_38 rfl 1 rfl ?_
        refine mj_callV X 1 gX8_fault_X2_kindOf rfl (by decide +kernel) ⟨by decide, by decide⟩ (c_Faults_kindOf l D ca M sz (x + 8) zn zf zg k hz hz1 hz2 hzn) rfl hz rfl rfl (Nat.le_of_ble_eq_true rfl) dX8_fault_39 ⟨by decide, by decide⟩ (mk_ri (fun b39 hb39 => ?_))
        refine mj_goto X 53 dX8_fault_42 (by decide) ?_
        refine mx_back ?_
        refine mj_iret X hr0 (by decide) (by decide) dX8_fault_53 ?_
        obtain ⟨j, hj, ej⟩ := (hb16.resolve_right (fun h9 => c19 h9.1)).2
        rcases hb39 with ⟨j2, hj2, ej2, e5⟩ | ⟨h5, -⟩
        · exact ⟨_, rfl, rfl, rfl, Or.inr ⟨j2, hj2, ej2, Or.inl ⟨c31, e5⟩⟩⟩
        · exact absurd ej (h5 j hj)
    · refine mx_throw X hlt0 (cls := "java/util/NoSuchElementException") (names := ["java/lang/RuntimeException", "java/lang/Exception"]) (ik := 81) (ic := 83) hZ hnt (by decide +kernel) (by decide +kernel) (by decide +kernel) (by decide +kernel) (by decide +kernel) (by decide +kernel) (by decide +kernel) dX8_fault_22 dX8_fault_25 dX8_fault_26 dX8_fault_29 (by decide) (by decide) (by decide) (by decide) (by decide) (by decide) ?_
      exact ⟨rfl, Or.inl c1, (hb16.resolve_left (fun h9 => absurd (h9.1.symm.trans c19) (by decide))).2⟩
  · refine mj_iload_n X dX8_fault_4 rfl 2 rfl ?_
    refine mj_iconst X (v := 1) dX8_fault_5 (by decide +kernel) ?_
    refine mj_icmp_eq X 11 dX8_fault_6 (by decide) (fun c6 => ?_) (fun c6 => ?_)
    · refine mj_aload_n X dX8_fault_11 rfl 0 rfl ?_
      refine mj_get X (C := RX8) (T := TX8) (N := 7) (ci := 8) w_Pkg_fault_0 rfl 3 (by decide) w_Pkg_fault_1 hx rfl dX8_fault_12 ?_
      refine mj_iload_n X dX8_fault_15 rfl 1 rfl ?_
      refine mj_callV X 1 gX8_fault_X2_has rfl (by decide +kernel) ⟨by decide, by decide⟩ (c_Faults_has l D ca M sz (x + 8) zn zf zg k hz hz1 hz2 hzn) rfl hz rfl rfl (Nat.le_of_ble_eq_true rfl) dX8_fault_16 ⟨by decide, by decide⟩ (mk_ri (fun b16 hb16 => ?_))
      refine mj_if_ne X 30 dX8_fault_19 (by decide) (fun c19 => ?_) (fun c19 => ?_)
      · refine mj_iload_n X dX8_fault_30 rfl 2 rfl ?_
        refine mj_if_ne X 45 dX8_fault_31 (by decide) (fun c31 => ?_) (fun c31 => ?_)
        · refine mj_aload_n X dX8_fault_45 rfl 0 rfl ?_
          refine mj_get X (C := RX8) (T := TX8) (N := 7) (ci := 8) w_Pkg_fault_0 rfl 3 (by decide) w_Pkg_fault_1 hx rfl dX8_fault_46 ?_
          refine mj_iload_n X dX8_fault_49 rfl 1 rfl ?_
          refine mj_callV X 1 gX8_fault_X2_numberOf rfl (by decide +kernel) ⟨by decide, by decide⟩ (c_Faults_numberOf l D ca M sz (x + 8) zn zf zg k hz hz1 hz2 hzn) rfl hz rfl rfl (Nat.le_of_ble_eq_true rfl) dX8_fault_50 ⟨by decide, by decide⟩ (mk_ri (fun b50 hb50 => ?_))
          refine mx_back ?_
          refine mj_iret X hr0 (by decide) (by decide) dX8_fault_53 ?_
          obtain ⟨j, hj, ej⟩ := (hb16.resolve_right (fun h9 => c19 h9.1)).2
          rcases hb50 with ⟨j2, hj2, ej2, e5⟩ | ⟨h5, -⟩
          · exact ⟨_, rfl, rfl, rfl, Or.inr ⟨j2, hj2, ej2, Or.inr ⟨c6, e5⟩⟩⟩
          · exact absurd ej (h5 j hj)
        · refine mj_aload_n X dX8_fault_34 rfl 0 rfl ?_
          refine mj_get X (C := RX8) (T := TX8) (N := 7) (ci := 8) w_Pkg_fault_0 rfl 3 (by decide) w_Pkg_fault_1 hx rfl dX8_fault_35 ?_
          refine mj_iload_n X dX8_fault_38 rfl 1 rfl ?_
          refine mj_callV X 1 gX8_fault_X2_kindOf rfl (by decide +kernel) ⟨by decide, by decide⟩ (c_Faults_kindOf l D ca M sz (x + 8) zn zf zg k hz hz1 hz2 hzn) rfl hz rfl rfl (Nat.le_of_ble_eq_true rfl) dX8_fault_39 ⟨by decide, by decide⟩ (mk_ri (fun b39 hb39 => ?_))
          refine mj_goto X 53 dX8_fault_42 (by decide) ?_
          refine mx_back ?_
          refine mj_iret X hr0 (by decide) (by decide) dX8_fault_53 ?_
          obtain ⟨j, hj, ej⟩ := (hb16.resolve_right (fun h9 => c19 h9.1)).2
          rcases hb39 with ⟨j2, hj2, ej2, e5⟩ | ⟨h5, -⟩
          · exact ⟨_, rfl, rfl, rfl, Or.inr ⟨j2, hj2, ej2, Or.inl ⟨c31, e5⟩⟩⟩
          · exact absurd ej (h5 j hj)
      · refine mx_throw X hlt0 (cls := "java/util/NoSuchElementException") (names := ["java/lang/RuntimeException", "java/lang/Exception"]) (ik := 81) (ic := 83) hZ hnt (by decide +kernel) (by decide +kernel) (by decide +kernel) (by decide +kernel) (by decide +kernel) (by decide +kernel) (by decide +kernel) dX8_fault_22 dX8_fault_25 dX8_fault_26 dX8_fault_29 (by decide) (by decide) (by decide) (by decide) (by decide) (by decide) ?_
        exact ⟨rfl, Or.inr c6, (hb16.resolve_left (fun h9 => absurd (h9.1.symm.trans c19) (by decide))).2⟩
    · refine mj_iconst X (v := -1) dX8_fault_9 (by decide +kernel) ?_
      refine mx_back ?_
      refine mj_iret X hr0 (by decide) (by decide) dX8_fault_10 ?_
      exact ⟨_, rfl, rfl, rfl, Or.inl ⟨c1, c6, rfl⟩⟩

def wsX8_atT : List Cond := wsX8_at ++ (vx_at0 RX8 132 "java/lang/ArrayIndexOutOfBoundsException" ["java/lang/IndexOutOfBoundsException", "java/lang/RuntimeException", "java/lang/Exception"]).filter goodWord
theorem mx_gl {a b ws : List Cond} (h : GoodIn a ws) : GoodIn (a ++ b) ws := fun w hw => ⟨List.mem_append_left _ (h w hw).1, (h w hw).2⟩
theorem w_Pkg_at_0 : ∀ w ∈ u_ws RX1 TX1 4, w ∈ wsX8_atT := by decide +kernel
theorem w_Pkg_at_1 : Cond.fieldLink RX8 111 "PackageRows2$Entry" "bytes" "LPackageRows2$Row;" ∈ wsX8_atT := by decide +kernel
set_option maxHeartbeats 4000000 in
set_option maxRecDepth 100000 in
theorem c_Pkg_at (l : Launch) (hlt0 : l.stackTraces = false) (D : va_G) (ca : Nat → ClassId) (M : mw_M) (sz x nv : Nat) (vv : Nat → Option Nat) (V vcn : Nat → Nat) (vve : Nat → Nat → Option Nat) (VE vn vk : Nat → Nat → Nat) (vf vg : Nat → Nat → Nat → Int32) (vfv : Nat → Nat → Int32) (k i0 y : Int32) (hx : M x = some (.inr (8, [.ref (x + 1), .ref (x + 3), .ref (x + 5), .ref (x + 8), .ref (x + 11), .int (nI nv), .ref (x + 12)]))) (hvv : M (x + 11) = some (.inl (ca 5, 12, .inr (.inr (.inr (.inr vv)))))) (hnv : nv ≤ 12) (hV : ∀ j, j < nv → vv j = some (V j)) (hVr : ∀ j, j < nv → isVr ca M (V j) (vcn j) (vve j) (VE j) (vn j) (vk j) (vf j) (vg j) (vfv j)) : mx_C wsX8_atT l yX8_at { frames := 7, cells := 1, slots := 6, locals := 94 } D vwCl (mt ca) [.ref x, .int k, .int i0, .int y] M sz (mq_i (fun v9 M' sz' => M' = M ∧ sz' = sz ∧ ((∃ j t, atE nv vcn k i0 j t ∧ ∃ u, u < vk j t ∧ y = nI u ∧ v9 = vg j t u) ∨ ((∀ j t, ¬ atE nv vcn k i0 j t) ∧ v9 = -1)))) (fun E9 => E9 = "java/lang/ArrayIndexOutOfBoundsException" ∧ ∃ j t, atE nv vcn k i0 j t ∧ ∀ u, u < vk j t → y ≠ nI u) := by
  refine mx_enter (cc := cX8_at) (maxL := 5) (ret := (some .int)) rfl (by decide) (Nat.le_of_ble_eq_true rfl) ?_
  intro p e s m below meth c X hr0 hnm hlt hnt hZ
  refine mj_aload_n X dX8_at_0 rfl 0 rfl ?_
  refine mj_iload_n X dX8_at_1 rfl 1 rfl ?_
  refine mj_iload_n X dX8_at_2 rfl 2 rfl ?_
  refine mj_callV X 2 (mx_gl gX8_at_X8_entryOrNull) rfl (by decide +kernel) ⟨by decide, by decide⟩ (c_Pkg_entryOrNull l D ca M sz x nv vv V vcn vve VE vn vk vf vg vfv k i0 hx hvv hnv hV hVr) rfl hx rfl rfl (Nat.le_of_ble_eq_true rfl) dX8_at_3 ⟨by decide, by decide⟩ (mk_rq (fun o3 ho3 => ?_))
  rcases ho3 with ⟨j, t, hjt, eo3⟩ | ⟨hno3, eo3⟩
  · subst eo3
    refine mj_top' (.ref (VE j t)) rfl ?_
    obtain ⟨hE1, ⟨hE2, hE3, hE4, hE5⟩, ⟨hE6, hE7, hE8, hE9⟩, hE10, hE11⟩ := (hVr j hjt.1).2.2.2.2 t hjt.2.1
    refine mj_astore X [(4, .ref (VE j t)), (0, .ref x), (1, .int k), (2, .int i0), (3, .int y)] dX8_at_6 (by decide) rfl ?_
    refine mj_aload X dX8_at_8 0 rfl ?_
    refine mj_ifnonnullR X 15 dX8_at_10 (by decide) ?_
    refine mj_aload X dX8_at_15 0 rfl ?_
    refine mj_get X (C := RX1) (T := TX1) (N := 4) (ci := 2) w_Pkg_at_0 rfl 1 (by decide) w_Pkg_at_1 hE1 rfl dX8_at_17 ?_
    refine mj_iload_n X dX8_at_20 rfl 4 rfl ?_
    refine mj_callV X 1 (mx_gl gX8_at_X5_has) rfl (by decide +kernel) ⟨by decide, by decide⟩ (c_Row_has l D ca M sz (VE j t + 3) (vk j t) (vk j t) (vg j t) y hE6 hE7 hE8 hE9) rfl hE6 rfl rfl (Nat.le_of_ble_eq_true rfl) dX8_at_21 ⟨by decide, by decide⟩ (mk_ri (fun b21 hb21 => ?_))
    refine mj_if_ne X 35 dX8_at_24 (by decide) (fun c24 => ?_) (fun c24 => ?_)
    · refine mj_aload X dX8_at_35 0 rfl ?_
      refine mj_get X (C := RX1) (T := TX1) (N := 4) (ci := 2) w_Pkg_at_0 rfl 1 (by decide) w_Pkg_at_1 hE1 rfl dX8_at_37 ?_
      refine mj_iload_n X dX8_at_40 rfl 4 rfl ?_
      refine mj_callV X 1 (mx_gl gX8_at_X5_cell) rfl (by decide +kernel) ⟨by decide, by decide⟩ (c_Row_cell l D ca M sz (VE j t + 3) (vk j t) (vk j t) (vg j t) y hE6 hE7 hE8 hE9) rfl hE6 rfl rfl (Nat.le_of_ble_eq_true rfl) dX8_at_41 ⟨by decide, by decide⟩ (mk_ri (fun b41 hb41 => ?_))
      refine mx_back ?_
      refine mj_iret X hr0 (by decide) (by decide) dX8_at_44 ?_
      obtain ⟨u, hu, eu⟩ := (hb21.resolve_right (fun h9 => c24 h9.1)).2
      rcases hb41 with h5 | ⟨h5, -⟩
      · exact ⟨_, rfl, rfl, rfl, Or.inl ⟨j, t, hjt, h5⟩⟩
      · exact absurd eu (h5 u hu)
    · refine mx_throw X hlt0 (cls := "java/lang/ArrayIndexOutOfBoundsException") (names := ["java/lang/IndexOutOfBoundsException", "java/lang/RuntimeException", "java/lang/Exception"]) (ik := 130) (ic := 132) hZ hnt (by decide +kernel) (by decide +kernel) (by decide +kernel) (by decide +kernel) (by decide +kernel) (by decide +kernel) (by decide +kernel) dX8_at_27 dX8_at_30 dX8_at_31 dX8_at_34 (by decide) (by decide) (by decide) (by decide) (by decide) (by decide) ?_
      exact ⟨rfl, j, t, hjt, (hb21.resolve_left (fun h9 => absurd (h9.1.symm.trans c24) (by decide))).2⟩
  · subst eo3
    refine mj_top' (.null) rfl ?_
    refine mj_astoreN X [(4, .null), (0, .ref x), (1, .int k), (2, .int i0), (3, .int y)] dX8_at_6 (by decide) rfl ?_
    refine mj_aloadN X dX8_at_8 0 rfl ?_
    refine mj_ifnonnullN X dX8_at_10 ?_
    refine mj_iconst X (v := -1) dX8_at_13 (by decide +kernel) ?_
    refine mx_back ?_
    refine mj_iret X hr0 (by decide) (by decide) dX8_at_14 ?_
    exact ⟨_, rfl, rfl, rfl, Or.inr ⟨hno3, rfl⟩⟩

