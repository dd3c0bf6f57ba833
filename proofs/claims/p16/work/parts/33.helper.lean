-- ===== longs, and methods with a table of their own =====
section MXC
variable {p : Program} {l : Launch} {e : Env} {R : Room} {s : State} {m : MethodId} {args : Array Value} {below : List Frame} {meth : Method} {c : Code} {nL : Nat} {D : va_G} {cl : List vw_C} {A : Nat → Prop} {Q : State → Prop} {pc : Nat} {lo : List (Nat × Value)} {st rest : List Value} {M : mw_M} {sz cells slots : Nat} {cc : ByteArray} {own : String} {Ts : List Cond} {tys : List (ClassId × FieldType)}
theorem mj_i2l (X : mw_X p s m args meth c cc nL own Ts D cl tys) {x : Int32} (hd : decode cc pc = .ok (.i2l, 1)) (kk : mw_J p l e R s m args below meth c nL D cl A Q (pc + 1) lo (.long x.toInt64 :: rest) M sz cells slots) : mw_J p l e R s m args below meth c nL D cl A Q pc lo (.int x :: rest) M sz cells slots := fun H locs ls hw hl => lv_i2l X.1 X.2.1 hd rfl (kk H locs ls hw hl)
theorem mj_last (X : mw_X p s m args meth c cc nL own Ts D cl tys) (t0 j : Nat) {a : Nat} {cA : ClassId} {n : Nat} {f : Nat → Int64} {i : Int32} {x : Int64} (ht : tys[t0]? = some (cA, .long)) (hm : M a = some (.inl (cA, n, .inr (.inl f)))) (hin : vp_in i n) (hj : i.toNatClampNeg = j) (hd : decode cc pc = .ok (.lastore, 1)) (kk : mw_J p l e R s m args below meth c nL D cl A Q (pc + 1) lo rest (mw_u M a (.inl (cA, n, .inr (.inl (vp_updL f j x))))) sz cells slots) : mw_J p l e R s m args below meth c nL D cl A Q pc lo (.long x :: .int i :: .ref a :: rest) M sz cells slots := by
  subst hj
  intro H locs ls hw hl
  refine W.last X.1 X.2.1 (hw.2.1 a _ hm) ((X.2.2.2.2.2.1.2 t0 _ ht).1 n (fun j => .long (f j))) (fun q => by cases q) (by show ¬ (i < 0 ∨ (arrV _ _ _).slots.size ≤ _); rw [arrV_size]; exact hin) rfl rfl hd fun H1 e1 z oq => ?_
  refine kk H1 _ ls (hw.set hm ?_ z oq) hl
  show H1[a]? = some (vp_cell _ _)
  rw [e1]
  rw [vp_cell_l, vp_cell_l, arrV_store]
  congr 2
  funext q
  by_cases hq : q = i.toNatClampNeg
  · subst hq
    simp [updV, vp_updL]
  · simp [updV, vp_updL, hq]
/-- the contract of a method with handlers, which returns -/
def mx_D (ws : List Cond) (l : Launch) (y : MethodName) (rm : Room) (D : va_G) (cl : List vw_C) (tys : List (ClassId × FieldType)) (av : List Value) (M : mw_M) (sz : Nat) (Post : Option Value → mw_M → Nat → Prop) : Prop :=
  Met l y ws rm (va_Pc av (mx_B D cl tys M sz)) (mw_Q D cl M sz Post) rm.cells rm.slots (mw_A M sz)
theorem mx_enterW {ws ws' : List Cond} {y : MethodName} {maxL : Nat} {ret : Option FieldType} {rm : Room} {av : List Value} {Post : Option Value → mw_M → Nat → Prop} {hh : List (Nat × Nat × Nat × Nat)} (hw : ws = Cond.codeWith y cc maxL ret hh :: ws') (hy : plainName y.cls = true) (hav : (lg_sl av).length ≤ maxL)
    (body : ∀ (p : Program) (e : Env) (s : State) (m : MethodId) (below : List Frame) (meth : Method) (c : Code), mw_X p s m av.toArray meth c cc maxL y.cls ws D cl tys → meth.sig.returnType = ret → meth.name = y.name → (∀ (a : Nat) (x : va_E), M a = some x → a < sz) → c.exceptionTable.toList = tableOf hh → mx_Z (mw_A M sz) s s.heap →
      mw_J p l e rm s m av.toArray below meth c maxL D cl (mw_A M sz) (MQ below (mw_Q D cl M sz Post) av.toArray s rm.cells rm.slots (mw_A M sz)) 0 (lv_args 0 av) [] M sz 0 0) : mx_D ws l y rm D cl tys av M sz Post := by
  refine va_MetW (cc := cc) (maxL := maxL) (ret := ret) hy hw ?_
  intro p e s m args below meth c s₁ B hml hv
  obtain ⟨rfl, ⟨hsz, hP, hK, hao⟩, hZ⟩ := hv
  have hts := atoms_spec (ws := ws) B.pre
  have hown : s.vm.findClass y.cls = some m.cls := findClass_of_methodNamed B.named
  have hl := lv_entry av (n := maxL) hav
  have htab := vx_table (x := y) B (hts _ (by rw [hw]; exact List.mem_cons_self))
  rw [lg_entry_eq]
  exact body p e s m below meth c ⟨B.exec, B.bytes, hml, hown, hts, hK, B.notSynchronized, hao⟩ B.returns (name_of_methodNamed B.named B.method).1 (fun a x h => by rw [← hsz]; exact hP.lt h) htab hZ s.heap [] _ ⟨hsz, hP, fun a x h => Or.inl ⟨x, h⟩, fun q h => Or.inr (by rw [← hsz]; exact h), va_S.rf⟩ hl
/-- its call by the law -/
theorem mx_callSW (X : mw_X p s m args meth c cc nL own Ts D cl tys) {ws ws' : List Cond} {y : MethodName} {bytes : ByteArray} {maxL index : Nat} {ret : Option FieldType} {rm : Room} {As : List Value} {Post : Option Value → mw_M → Nat → Prop} {hh : List (Nat × Nat × Nat × Nat)} (n : Nat) (hG : GoodIn Ts (va_wsS own index y ws)) (hw0 : ws = Cond.codeWith y bytes maxL ret hh :: ws') (hd0 : y.cls ≠ "java/lang/invoke/MethodHandle" ∧ y.cls ≠ "java/lang/invoke/VarHandle" ∧ (parseMethodDescriptor y.desc).map (fun d => d.parameters.length) = some n) (hR : rm.frames + 1 ≤ R.frames ∧ 8 + (maxL + 11) + rm.locals ≤ R.locals)
    (h : mx_D ws l y rm D cl tys As M sz Post) (hZ : mx_Z A s s.heap) (hn : As.length = n) (hst : st = As.reverse ++ rest) (hro : (rest.map fun v => v.category).sum ≤ 8) (hd : decode cc pc = .ok (.invokestatic index, 3)) (hf : cells + rm.cells ≤ R.cells ∧ slots + rm.slots ≤ R.slots) (kk : ∀ (v : Option Value) (M' : mw_M) (sz' : Nat), Post v M' sz' → mw_J p l e R s m args below meth c nL D cl A Q (pc + 3) lo (v.toList ++ rest) M' sz' (cells + rm.cells) (slots + rm.slots)) : mw_J p l e R s m args below meth c nL D cl A Q pc lo st M sz cells slots := by
  intro H locs ls hw hl
  have hts := X.2.2.2.2.1
  subst hst
  exact mw_run (vx_runSW (As := As) (rest := rest) ⟨X.1, X.2.1, X.2.2.1, X.2.2.2.1, hts⟩ h (vx_cwSW n hts hG hw0 rfl rfl hd0 hR) ⟨mx_blind, mx_pre X hw hZ⟩ rfl hn hl.1 rfl (lv_room hro) hd hf) hw hl kk
end MXC
abbrev cL_fault : ByteArray := method_3_code
def yL_fault : MethodName := ⟨RL, "fault", "(LPackageRows2;II[J)I"⟩
abbrev cL_at : ByteArray := method_4_code
def yL_at : MethodName := ⟨RL, "at", "(LPackageRows2;III[J)I"⟩
def wsL_fault_r1 : List Cond := [Cond.classLink RL 13 "java/util/NoSuchElementException", Cond.methodLink RL 7 yX8_fault, Cond.instanceMethod yX8_fault, Cond.selects RX8 yX8_fault yX8_fault, Cond.initialized RX8, Cond.code yX8_fault cX8_fault 3 (some .int), Cond.classLink RX8 81 "java/util/NoSuchElementException", Cond.initialized "java/util/NoSuchElementException", Cond.fieldLink RX8 31 "PackageRows2" "faults" "LPackageRows2$Faults;", Cond.methodLink RX8 77 yX2_has, Cond.instanceMethod yX2_has, Cond.selects RX2 yX2_has yX2_has, Cond.initialized RX2, Cond.code yX2_has cX2_has 2 (some .boolean), Cond.fieldLink RX2 18 "PackageRows2$Faults" "count" "I", Cond.methodLink RX8 84 yX2_kindOf, Cond.instanceMethod yX2_kindOf, Cond.selects RX2 yX2_kindOf yX2_kindOf, Cond.code yX2_kindOf cX2_kindOf 2 (some .int), Cond.fieldLink RX2 9 "PackageRows2$Faults" "kinds" "[I", Cond.methodLink RX2 22 yX2_has, Cond.methodLink RX8 88 yX2_numberOf, Cond.instanceMethod yX2_numberOf, Cond.selects RX2 yX2_numberOf yX2_numberOf]
def wsL_fault_r2 : List Cond := [Cond.code yX2_numberOf cX2_numberOf 2 (some .int), Cond.fieldLink RX2 15 "PackageRows2$Faults" "numbers" "[I"]
def wsL_fault : List Cond := .codeWith yL_fault cL_fault 5 (some .int) [(0, 10, 13, 13)] :: ((wsL_fault_r1 ++ wsL_fault_r2) ++ wsX80 ++ wsX20 ++ (vx_at0 RX8 83 "java/util/NoSuchElementException" ["java/lang/RuntimeException", "java/lang/Exception"]).filter goodWord)
def wsL_at_r1 : List Cond := [Cond.methodLink RL 15 yX8_at, Cond.instanceMethod yX8_at, Cond.selects RX8 yX8_at yX8_at, Cond.initialized RX8, Cond.code yX8_at cX8_at 5 (some .int), Cond.fieldLink RX8 111 "PackageRows2$Entry" "bytes" "LPackageRows2$Row;", Cond.classLink RX8 130 RJx00060, Cond.instantiable RJx00060 6, Cond.initialized RJx00060, Cond.methodLink RX8 107 yX8_entryOrNull, Cond.instanceMethod yX8_entryOrNull, Cond.selects RX8 yX8_entryOrNull yX8_entryOrNull, Cond.code yX8_entryOrNull cX8_entryOrNull 4 (some (.object "PackageRows2$Entry")), Cond.methodLink RX8 94 yX8_versionOrNull, Cond.instanceMethod yX8_versionOrNull, Cond.selects RX8 yX8_versionOrNull yX8_versionOrNull, Cond.code yX8_versionOrNull cX8_versionOrNull 2 (some (.object "PackageRows2$Version")), Cond.fieldLink RX8 41 "PackageRows2" "versionCount" "I", Cond.fieldLink RX8 37 "PackageRows2" "versions" "[LPackageRows2$Version;", Cond.methodLink RX8 155 yX7_entryOrNull, Cond.instanceMethod yX7_entryOrNull, Cond.selects RX7 yX7_entryOrNull yX7_entryOrNull, Cond.initialized RX7, Cond.code yX7_entryOrNull cX7_entryOrNull 2 (some (.object "PackageRows2$Entry"))]
def wsL_at_r2 : List Cond := [Cond.fieldLink RX7 17 "PackageRows2$Version" "count" "I", Cond.fieldLink RX7 11 "PackageRows2$Version" "entries" "[LPackageRows2$Entry;", Cond.methodLink RX8 129 yX5_has, Cond.instanceMethod yX5_has, Cond.selects RX5 yX5_has yX5_has, Cond.initialized RX5, Cond.code yX5_has cX5_has 2 (some .boolean), Cond.fieldLink RX5 21 "PackageRows2$Row" "count" "I", Cond.methodLink RX8 126 yX5_cell, Cond.instanceMethod yX5_cell, Cond.selects RX5 yX5_cell yX5_cell, Cond.code yX5_cell cX5_cell 2 (some .int), Cond.fieldLink RX5 15 "PackageRows2$Row" "cells" "[I", Cond.methodLink RX5 25 yX5_has]
def wsL_at : List Cond := .codeWith yL_at cL_at 6 (some .int) [(0, 12, 15, 19)] :: ((wsL_at_r1 ++ wsL_at_r2) ++ wsX10 ++ wsJx000600 ++ wsX80 ++ wsX70 ++ wsX50)
theorem ggL_fault_X8_fault : GoodIn wsL_fault wsX8_fault := goodIn_ca (goodIn_r _ [6, 7, 8, 9, 10, 11, 12, 13, 14, 15, 16, 17, 18, 19, 20, 21, 22, 23, 24, 25, 26, 27, 28, 29, 30, 31, 32, 33, 34, 35, 36] (by decide +kernel) (by decide +kernel)) (goodIn_sub (fun _ h => List.mem_cons_of_mem _ (List.mem_append_right _ h)) (by decide +kernel))
theorem gL_fault_X8_fault : GoodIn wsL_fault (wsV RL 7 RX8 yX8_fault wsX8_fault) := goodIn_app (goodIn_of _ (by decide +kernel)) ggL_fault_X8_fault
theorem dL_fault_0 : decode cL_fault 0 = .ok (.aload_n 3, 1) := by decide +kernel
theorem dL_fault_1 : decode cL_fault 1 = .ok (.iconst 0, 1) := by decide +kernel
theorem dL_fault_2 : decode cL_fault 2 = .ok (.aload_n 0, 1) := by decide +kernel
theorem dL_fault_3 : decode cL_fault 3 = .ok (.iload_n 1, 1) := by decide +kernel
theorem dL_fault_4 : decode cL_fault 4 = .ok (.iload_n 2, 1) := by decide +kernel
theorem dL_fault_5 : decode cL_fault 5 = .ok (.invokevirtual 7, 3) := by decide +kernel
theorem dL_fault_8 : decode cL_fault 8 = .ok (.i2l, 1) := by decide +kernel
theorem dL_fault_9 : decode cL_fault 9 = .ok (.lastore, 1) := by decide +kernel
theorem dL_fault_10 : decode cL_fault 10 = .ok (.goto 7, 3) := by decide +kernel
theorem dL_fault_13 : decode cL_fault 13 = .ok (.astore 4, 2) := by decide +kernel
theorem dL_fault_15 : decode cL_fault 15 = .ok (.iconst 1, 1) := by decide +kernel
theorem dL_fault_16 : decode cL_fault 16 = .ok (.ireturn, 1) := by decide +kernel
theorem dL_fault_17 : decode cL_fault 17 = .ok (.iconst 0, 1) := by decide +kernel
theorem dL_fault_18 : decode cL_fault 18 = .ok (.ireturn, 1) := by decide +kernel
theorem ggL_at_X8_at : GoodIn wsL_at wsX8_at := goodIn_r _ [5, 6, 7, 8, 9, 10, 11, 12, 4, 13, 14, 15, 16, 17, 18, 19, 20, 21, 22, 23, 24, 25, 26, 27, 28, 29, 30, 31, 32, 33, 34, 35, 36, 37, 38, 39, 40, 41, 42, 43, 44, 45, 46, 47, 48, 49, 50, 51, 52, 53, 54, 55, 56, 57, 58, 59] (by decide +kernel) (by decide +kernel)
theorem gL_at_X8_at : GoodIn wsL_at (wsV RL 15 RX8 yX8_at wsX8_at) := goodIn_app (goodIn_of _ (by decide +kernel)) ggL_at_X8_at
theorem dL_at_0 : decode cL_at 0 = .ok (.aload 4, 2) := by decide +kernel
theorem dL_at_2 : decode cL_at 2 = .ok (.iconst 0, 1) := by decide +kernel
theorem dL_at_3 : decode cL_at 3 = .ok (.aload_n 0, 1) := by decide +kernel
theorem dL_at_4 : decode cL_at 4 = .ok (.iload_n 1, 1) := by decide +kernel
theorem dL_at_5 : decode cL_at 5 = .ok (.iload_n 2, 1) := by decide +kernel
theorem dL_at_6 : decode cL_at 6 = .ok (.iload_n 3, 1) := by decide +kernel
theorem dL_at_7 : decode cL_at 7 = .ok (.invokevirtual 15, 3) := by decide +kernel
theorem dL_at_10 : decode cL_at 10 = .ok (.i2l, 1) := by decide +kernel
theorem dL_at_11 : decode cL_at 11 = .ok (.lastore, 1) := by decide +kernel
theorem dL_at_12 : decode cL_at 12 = .ok (.goto 7, 3) := by decide +kernel
theorem dL_at_15 : decode cL_at 15 = .ok (.astore 5, 2) := by decide +kernel
theorem dL_at_17 : decode cL_at 17 = .ok (.iconst 1, 1) := by decide +kernel
theorem dL_at_18 : decode cL_at 18 = .ok (.ireturn, 1) := by decide +kernel
theorem dL_at_19 : decode cL_at 19 = .ok (.iconst 0, 1) := by decide +kernel
theorem dL_at_20 : decode cL_at 20 = .ok (.ireturn, 1) := by decide +kernel
set_option maxRecDepth 100000 in
theorem c_L_fault (l : Launch) (hlt0 : l.stackTraces = false) (D : va_G) (ca : Nat → ClassId) (M : mw_M) (sz x nv : Nat) (zn : Nat) (zf zg : Nat → Int32) (k y : Int32) (r n : Nat) (f : Nat → Int64) (hx : M x = some (.inr (8, [.ref (x + 1), .ref (x + 3), .ref (x + 5), .ref (x + 8), .ref (x + 11), .int (nI nv), .ref (x + 12)]))) (hz : M (x + 8) = some (.inr (3, [.ref (x + 8 + 1), .ref (x + 8 + 2), .int (nI zn)]))) (hz1 : M (x + 8 + 1) = some (.inl (ca 0, 24, .inl zf))) (hz2 : M (x + 8 + 2) = some (.inl (ca 0, 24, .inl zg))) (hzn : zn ≤ 24) (hr : M r = some (.inl (ca 6, n, .inr (.inl f)))) (hn0 : 0 < n) (hn1 : n < 1000) : mx_D wsL_fault l yL_fault { frames := 7, cells := 1, slots := 6, locals := 103 } D vwCl (mt ca) [.ref x, .int k, .int y, .ref r] M sz (mq_i (fun v9 M' sz' => (v9 = 0 ∧ sz' = sz ∧ ∃ w9 : Int32, ((y ≠ 0 ∧ y ≠ 1 ∧ w9 = -1) ∨ ∃ j, j < zn ∧ k = nI j ∧ ((y = 0 ∧ w9 = zf j) ∨ (y = 1 ∧ w9 = zg j))) ∧ M' = mw_u M r (.inl (ca 6, n, .inr (.inl (vp_updL f 0 w9.toInt64))))) ∨ (v9 = 1 ∧ M' = M ∧ sz ≤ sz' ∧ ((y = 0 ∨ y = 1) ∧ ∀ j, j < zn → k ≠ nI j)))) := by
  refine mx_enterW (cc := cL_fault) (maxL := 5) (ret := (some .int)) (hh := [(0, 10, 13, 13)]) rfl (by decide) (Nat.le_of_ble_eq_true rfl) ?_
  intro p e s m below meth c X hr0 hnm hlt htab hZ
  refine mj_aload_n X dL_fault_0 rfl 3 rfl ?_
  refine mj_iconst X (v := nI 0) dL_fault_1 (by decide +kernel) ?_
  refine mj_aload_n X dL_fault_2 rfl 0 rfl ?_
  refine mj_iload_n X dL_fault_3 rfl 1 rfl ?_
  refine mj_iload_n X dL_fault_4 rfl 2 rfl ?_
  refine mx_callV X (name := "java/util/NoSuchElementException") 2 gL_fault_X8_fault rfl (by decide +kernel) ⟨by decide, by decide⟩ (c_Pkg_fault l hlt0 D ca M sz x nv zn zf zg k y hx hz hz1 hz2 hzn) hZ (ci := 8) rfl hx rfl rfl (Nat.le_of_ble_eq_true rfl) dL_fault_5 ⟨by decide, by decide⟩ ⟨0, 10, 13, 13⟩ htab (by decide) (by decide) (by decide +kernel) (by decide +kernel) (fun E hE => hE.1) (mk_ri (fun b9 hb9 => ?_)) (fun hpx q sz' hsz => ?_)
  · refine mj_i2l X dL_fault_8 ?_
    refine mj_last X 6 0 rfl hr (vp_in_nI (by omega) (by omega)) (nI_clamp (by omega)) dL_fault_9 ?_
    refine mj_goto X 17 dL_fault_10 (by decide) ?_
    refine mj_iconst X (v := 0) dL_fault_17 (by decide +kernel) ?_
    refine mj_iret X hr0 (by decide) (by decide) dL_fault_18 ?_
    exact ⟨_, rfl, Or.inl ⟨rfl, rfl, b9, hb9, rfl⟩⟩
  · refine mj_astore X [(4, .ref q), (0, .ref x), (1, .int k), (2, .int y), (3, .ref r)] dL_fault_13 (by decide) rfl ?_
    refine mj_iconst X (v := 1) dL_fault_15 (by decide +kernel) ?_
    refine mj_iret X hr0 (by decide) (by decide) dL_fault_16 ?_
    exact ⟨_, rfl, Or.inr ⟨rfl, rfl, hsz, hpx.2⟩⟩

def wsL_atT : List Cond := wsL_at ++ (Cond.classLink RL 19 "java/lang/ArrayIndexOutOfBoundsException" :: (vx_at0 RX8 132 "java/lang/ArrayIndexOutOfBoundsException" ["java/lang/IndexOutOfBoundsException", "java/lang/RuntimeException", "java/lang/Exception"]).filter goodWord)
theorem gL_atT : GoodIn wsL_atT (wsV RL 15 RX8 yX8_at wsX8_atT) := fun w hw => by
  have hw2 : w ∈ wsV RL 15 RX8 yX8_at wsX8_at ∨ w ∈ (vx_at0 RX8 132 "java/lang/ArrayIndexOutOfBoundsException" ["java/lang/IndexOutOfBoundsException", "java/lang/RuntimeException", "java/lang/Exception"]).filter goodWord := by
    unfold wsV at hw ⊢
    rcases List.mem_append.mp hw with h | h
    · exact Or.inl (List.mem_append_left _ h)
    · rcases List.mem_append.mp h with h | h
      · exact Or.inl (List.mem_append_right _ h)
      · exact Or.inr h
  rcases hw2 with h | h
  · exact ⟨List.mem_append_left _ (gL_at_X8_at w h).1, (gL_at_X8_at w h).2⟩
  · exact ⟨List.mem_append_right _ (List.mem_cons_of_mem _ h), good_of_word (List.mem_filter.mp h).2⟩
set_option maxRecDepth 100000 in
theorem c_L_at (l : Launch) (hlt0 : l.stackTraces = false) (D : va_G) (ca : Nat → ClassId) (M : mw_M) (sz x nv : Nat) (vv : Nat → Option Nat) (V vcn : Nat → Nat) (vve : Nat → Nat → Option Nat) (VE vn vk : Nat → Nat → Nat) (vf vg : Nat → Nat → Nat → Int32) (vfv : Nat → Nat → Int32) (k i0 y : Int32) (r n : Nat) (f : Nat → Int64) (hx : M x = some (.inr (8, [.ref (x + 1), .ref (x + 3), .ref (x + 5), .ref (x + 8), .ref (x + 11), .int (nI nv), .ref (x + 12)]))) (hvv : M (x + 11) = some (.inl (ca 5, 12, .inr (.inr (.inr (.inr vv)))))) (hnv : nv ≤ 12) (hV : ∀ j, j < nv → vv j = some (V j)) (hVr : ∀ j, j < nv → isVr ca M (V j) (vcn j) (vve j) (VE j) (vn j) (vk j) (vf j) (vg j) (vfv j)) (hr : M r = some (.inl (ca 6, n, .inr (.inl f)))) (hn0 : 0 < n) (hn1 : n < 1000) : mx_D wsL_atT l yL_at { frames := 8, cells := 1, slots := 6, locals := 118 } D vwCl (mt ca) [.ref x, .int k, .int i0, .int y, .ref r] M sz (mq_i (fun v9 M' sz' => (v9 = 0 ∧ sz' = sz ∧ ∃ w9 : Int32, ((∃ j t, atE nv vcn k i0 j t ∧ ∃ u, u < vk j t ∧ y = nI u ∧ w9 = vg j t u) ∨ ((∀ j t, ¬ atE nv vcn k i0 j t) ∧ w9 = -1)) ∧ M' = mw_u M r (.inl (ca 6, n, .inr (.inl (vp_updL f 0 w9.toInt64))))) ∨ (v9 = 1 ∧ M' = M ∧ sz ≤ sz' ∧ (∃ j t, atE nv vcn k i0 j t ∧ ∀ u, u < vk j t → y ≠ nI u)))) := by
  refine mx_enterW (cc := cL_at) (maxL := 6) (ret := (some .int)) (hh := [(0, 12, 15, 19)]) rfl (by decide) (Nat.le_of_ble_eq_true rfl) ?_
  intro p e s m below meth c X hr0 hnm hlt htab hZ
  refine mj_aload X dL_at_0 4 rfl ?_
  refine mj_iconst X (v := nI 0) dL_at_2 (by decide +kernel) ?_
  refine mj_aload_n X dL_at_3 rfl 0 rfl ?_
  refine mj_iload_n X dL_at_4 rfl 1 rfl ?_
  refine mj_iload_n X dL_at_5 rfl 2 rfl ?_
  refine mj_iload_n X dL_at_6 rfl 3 rfl ?_
  refine mx_callV X (name := "java/lang/ArrayIndexOutOfBoundsException") 3 gL_atT rfl (by decide +kernel) ⟨by decide, by decide⟩ (c_Pkg_at l hlt0 D ca M sz x nv vv V vcn vve VE vn vk vf vg vfv k i0 y hx hvv hnv hV hVr) hZ (ci := 8) rfl hx rfl rfl (Nat.le_of_ble_eq_true rfl) dL_at_7 ⟨by decide, by decide⟩ ⟨0, 12, 15, 19⟩ htab (by decide) (by decide) (by decide +kernel) (by decide +kernel) (fun E hE => hE.1) (mk_ri (fun b9 hb9 => ?_)) (fun hpx q sz' hsz => ?_)
  · refine mj_i2l X dL_at_10 ?_
    refine mj_last X 6 0 rfl hr (vp_in_nI (by omega) (by omega)) (nI_clamp (by omega)) dL_at_11 ?_
    refine mj_goto X 19 dL_at_12 (by decide) ?_
    refine mj_iconst X (v := 0) dL_at_19 (by decide +kernel) ?_
    refine mj_iret X hr0 (by decide) (by decide) dL_at_20 ?_
    exact ⟨_, rfl, Or.inl ⟨rfl, rfl, b9, hb9, rfl⟩⟩
  · refine mj_astore X [(5, .ref q), (0, .ref x), (1, .int k), (2, .int i0), (3, .int y), (4, .ref r)] dL_at_15 (by decide) rfl ?_
    refine mj_iconst X (v := 1) dL_at_17 (by decide +kernel) ?_
    refine mj_iret X hr0 (by decide) (by decide) dL_at_18 ?_
    exact ⟨_, rfl, Or.inr ⟨rfl, rfl, hsz, hpx.2⟩⟩

