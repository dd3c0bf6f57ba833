-- ===== the law's helpers: one handler, which catches =====
theorem mx_found {e : Env} {U : State} {f : JFrame} {a : Addr} {x : ExceptionTableEntry} {k : ClassId} {ce : Cell} {meth : Method} {c : Code} (hm : U.vm.method? f.method = some meth) (hc : meth.code = some c) (h1 : c.exceptionTable.toList = [x]) (hx : covers x f.pc = true) (h0 : x.catchType ≠ 0)
    (hl : U.vm.ClassLinks e.platform f.method.cls x.catchType k) (hce : U.heap[a]? = some ce) (hv : ce.vm = .none) (hk : ∃ z, U.vm.classes[k]? = some z) (hf : U.vm.assignable ce.cls k = true) (Q : Handler → Pre) (E : CtlPost) (d : Bool) (acts : List Action) :
    wp (findHandler f a) Q E e d acts U ↔ Q (.found x.handlerPc) d acts (U.setVm (U.vm.noted f.method.cls x.catchType (.cls k))) := by
  rw [W.findHandler_eq hm hc, h1]
  obtain ⟨b1, b2⟩ := (resolveClass_links e.toSetting hl).op (op := VmOp.resolveClass f.method.cls x.catchType) rfl
  have al : U.vm.Alike (U.vm.noted f.method.cls x.catchType (.cls k)) := (Vm.Alike.refl U.vm).noted _ _ _
  obtain ⟨z1, hz1⟩ := Vm.classAt_of_assignable hf hk
  obtain ⟨z2, hz2⟩ := hk
  obtain ⟨w1, hw1, -⟩ := al.2.2 _ _ hz1
  obtain ⟨w2, hw2, -⟩ := al.2.2 _ _ hz2
  have hf2 : (U.vm.noted f.method.cls x.catchType (.cls k)).assignable ce.cls k = true := by rw [al.assignable]; exact hf
  have hv2 : ∀ z, ce.vm ≠ .statics z := by rw [hv]; intro z h; cases h
  simp only [covers] at hx
  simp [findHandler.go, hx, h0, b1, b2, hce, hv2, hw1, hw2, hf2, VmOp.dirties, VmOp.acts]
theorem mx_caught {tb : Tables} {e : Env} {T t : State} {g : JFrame} {c : Code} {below : List Frame} {a : Addr} {pc : Nat} {vm' : Vm} (h : At T g.method c below)
    (hf : ∀ (Q : Handler → Pre) (E : CtlPost) (d : Bool) (acts : List Action), wp (findHandler g a) Q E e d acts ((T.setTop g).pushFrame (.throwing a)) ↔ Q (.found pc) d acts (((T.setTop g).pushFrame (.throwing a)).setVm vm'))
    (hr : Steps tb e below ((T.setVm vm').setTop { g with pc := pc, stack := [.ref a] }) t) : Steps tb e below ((T.setTop g).pushFrame (.throwing a)) t := by
  obtain ⟨b1, b2⟩ := h.throwing a
  refine Steps.head b1 b2 ?_
  have hs : ∀ r : List Frame, (stepThrowing e ((T.setTop g).pushFrame (.throwing a)) a (.java g :: r)).Is ((((T.setTop g).pushFrame (.throwing a)).setVm vm').setFrames (.java { g with pc := pc, stack := [.ref a] } :: r)) [] := by
    intro r
    simp only [stepThrowing, searchFrame, vmDo]
    generalize hq : Sem.go _ e false [] _ = res
    obtain ⟨as, rfl, ha⟩ := Sem.eq_ok_of hq (a := Handler.found pc) (s' := ((T.setTop g).pushFrame (.throwing a)).setVm vm') (acts' := []) (by simp [hf _ _ _ _])
    exact ⟨rfl, ha⟩
  rw [stepThread_throwing (frames_entered h.top _), (hs _).1]
  obtain ⟨g0, hg0⟩ := Option.isSome_iff_exists.mp h.top
  obtain ⟨r, hr0⟩ := State.topJava?_eq_some.mp hg0
  have hr1 : (T.setVm vm').frames = .java g0 :: r := hr0
  have sw : ∀ (u : State) (F G : List Frame), ((u.setFrames F).setVm vm').setFrames G = (u.setVm vm').setFrames G := fun u F G => by
    rw [show (u.setFrames F).setVm vm' = (u.setVm vm').setFrames F from rfl, State.setFrames_setFrames]
  rw [State.setTop_of_frames _ hr1] at hr
  rw [hr0, List.tail_cons, State.pushFrame, sw, State.setTop_of_frames _ hr0, sw]
  exact hr
theorem mx_catch {p : Program} {l : Launch} {e : Env} {R : Room} {s : State} {m : MethodId} {args : Array Value} {below : List Frame} {meth : Method} {c : Code} {H : Heap} {locs : List Loc} {cells slots : Nat} {Q : State → Prop} {pc : Nat} {ls : Array Slot} {rest : List Value}
    {own name E : String} {ce : Cell} {q : Addr} (hown : s.vm.findClass own = some m.cls) (x : ExceptionTableEntry) (h1 : c.exceptionTable.toList = [x]) (hx : covers x pc = true) (h0 : x.catchType ≠ 0)
    (hlink : (Cond.classLink own x.catchType name).before args s = true) (hcast : (Cond.castable E name).before args s = true) (hcell : H[q]? = some ce) (hv : ce.vm = .none) (hcl : s.vm.findClass E = some ce.cls)
    (kk : W p l e R s m args below meth c H locs cells slots Q (F0 m x.handlerPc ls [.ref q])) : vx_W p l e R s m args below meth c H locs cells slots Q (F0 m pc ls rest) q := by
  intro T hT X
  have hpl : e.platform.magicAccessors = ({} : Platform).magicAccessors := by rw [X.admits.platform]
  obtain ⟨c3, c4, hc3, hc4, hasg⟩ := Cond.castable_spec hcast
  cases Option.some.inj (hc3.symm.trans hcl)
  obtain ⟨c5, hc5, hcl5⟩ := Cond.classLink_spec hown hlink e.platform hpl
  cases Option.some.inj (hc4.symm.trans hc5)
  obtain ⟨dk, _, _, kt, hd, _, _, _, _, hkt, _, hopen⟩ := hcl5.here
  obtain ⟨kt', hkt', -⟩ := X.warmed.alike.2.2 _ _ hkt
  have X' := X.noted (X.warmed.noted hd hopen (State.rightAt_cls hcl5))
  obtain ⟨t, a1, b1⟩ := kk (T.setVm (T.vm.noted m.cls x.catchType (.cls c4))) hT X'
  refine ⟨t, mx_caught (g := F0 m pc ls rest) X.here (fun Q E d acts => ?_) a1, b1⟩
  exact mx_found (U := (T.setTop (F0 m pc ls rest)).pushFrame (.throwing q)) (f := F0 m pc ls rest) (meth := meth) (c := c) X.method' X.code h1 hx h0 (X.warmed.classLinks hcl5) (by show T.heap[q]? = some ce; rw [hT]; exact hcell) hv ⟨kt', hkt'⟩ (by show T.vm.assignable _ _ = true; rw [X.warmed.alike.assignable]; exact hasg) Q E d acts
section MXB
variable {p : Program} {l : Launch} {e : Env} {R : Room} {s : State} {m : MethodId} {args : Array Value} {below : List Frame} {meth : Method} {c : Code} {nL : Nat} {D : va_G} {cl : List vw_C} {A : Nat → Prop} {Q : State → Prop} {pc : Nat} {lo : List (Nat × Value)} {st rest : List Value} {M : mw_M} {sz cells slots : Nat} {cc : ByteArray} {own : String} {Ts : List Cond} {tys : List (ClassId × FieldType)}
theorem mx_AA {H0 H : Heap} {locs : List Loc} (hw : mw_W D cl A H0 M sz H locs) : ∀ q, mw_A M sz q → A q := fun q h => by
  obtain ⟨w1, -, w3, w4, hS⟩ := hw
  rcases h with ⟨x, h⟩ | h
  · exact w3 q x h
  · exact w4 q (Nat.le_trans hS.1 (by rw [w1]; exact h))
theorem mx_blind {av : List Value} : FrameBlind (va_Pc av (mx_B D cl tys M sz)) := fun a U g mk q => by
  obtain ⟨q0, ⟨q1, q2, q3, q4⟩, q5⟩ := q
  exact ⟨q0, ⟨q1, q2, va_K.moved (u := U) (U := U.calling g mk a) (Vm.Alike.refl U.vm) q3, fun C hC => va_AO.moved (u := U) (U := U.calling g mk a) (Vm.Alike.refl U.vm) (q4 C hC)⟩, mx_Z.moved (u := U) (U := U.calling g mk a) (Vm.Alike.refl U.vm) q5⟩
theorem mx_pre {av : List Value} {H : Heap} {locs : List Loc} (X : mw_X p s m args meth c cc nL own Ts D cl tys) (hw : mw_W D cl A s.heap M sz H locs) (hZ : mx_Z A s s.heap) : ∀ U : State, U.heap = H → s.WarmedH U.vm → va_Pc av (mx_B D cl tys M sz) av.toArray U := fun U hU hW =>
  ⟨rfl, (mw_pre (av := av) X hw U hU hW).2, by rw [hU]; exact ((hZ.kept hw.2.2.2.2.2.1).narrow (mx_AA hw)).moved hW.alike⟩
theorem mx_run {mc ms : Nat} {ls : Array Slot} {H : Heap} {locs : List Loc} {a' : Array Value} {Post : Option Value → mw_M → Nat → Prop} {PX : String → Prop} {st0 : List Value} (hr : vx_Run p l e R s m args below meth c H locs cells slots mc ms (F0 m pc ls st0) rest (mw_Q D cl M sz Post a') (mx_X D cl M sz PX) (mw_A M sz)) (hw : mw_W D cl A s.heap M sz H locs) (hl : lv_has ls nL lo)
    (kk : ∀ (v : Option Value) (M' : mw_M) (sz' : Nat), Post v M' sz' → mw_J p l e R s m args below meth c nL D cl A Q (pc + 3) lo (v.toList ++ rest) M' sz' (cells + mc) (slots + ms))
    (kx : ∀ (E : String), PX E → ∀ (ce : Cell) (q : Addr) (H1 : Heap) (locs1 : List Loc) (sz' : Nat), sz ≤ sz' → mw_W D cl A s.heap M sz' H1 locs1 → H1[q]? = some ce → ce.vm = .none → s.vm.findClass E = some ce.cls → vx_W p l e R s m args below meth c H1 locs1 (cells + mc) (slots + ms) Q (F0 m pc ls rest) q) : W p l e R s m args below meth c H locs cells slots Q (F0 m pc ls st0) := by
  intro T hT X
  have hAA := mx_AA hw
  obtain ⟨w1, w2, w3, w4, hS⟩ := hw
  have keep : ∀ {t T' : State} {L : List Loc}, T'.heap = t.heap → (∀ z ∈ L, mw_A M sz z.base) → H.size ≤ t.heap.size → (∀ q : Nat, q < H.size → ¬ mw_A M sz q → t.heap[q]? = H[q]?) → va_S A s.heap T'.heap (locs ++ L) := fun {t T' L} e1 hL hz hk => by
    refine ⟨Nat.le_trans hS.1 (by rw [e1]; exact hz), fun q h1 h2 => ?_, fun q hq => ?_⟩
    · rw [e1, hk q (Nat.lt_of_lt_of_le h1 hS.1) (fun z => h2 (hAA q z))]; exact hS.2.1 q h1 h2
    · rcases List.mem_append.mp hq with h | h
      · exact hS.2.2 q h
      · exact hAA _ (hL q h)
  rcases hr T hT X with ⟨v, st₀, t, T', L, h0, X', hL, e1, e2, ⟨⟨v', M', sz', hv, hp, hs1, hP1, hD1⟩, hz, hk⟩, go⟩ | ⟨q, st₀, t, T', L, E, ce, h0, X', hL, e1, e2, ⟨hp, hs1, hP1, hz, hk⟩, hce, hcv, hcl, go⟩
  · cases hv
    rw [h0] at hz hk
    obtain ⟨t2, a1, b1⟩ := kk v M' sz' hp T'.heap (locs ++ L) ls ⟨by rw [e1]; exact hs1, by rw [e1]; exact hP1, fun a x h => hAA a (hD1 a x h), w4, keep e1 hL hz hk⟩ hl T' rfl X'
    exact ⟨t2, go t2 a1, b1⟩
  · rw [h0] at hz hk
    obtain ⟨t2, a1, b1⟩ := kx E hp ce q T'.heap (locs ++ L) T'.heap.size (by rw [e1]; exact hs1) ⟨rfl, by rw [e1]; exact hP1, w3, w4, keep e1 hL hz hk⟩ (by rw [e1]; exact hce) hcv hcl T' rfl X'
    exact ⟨t2, go.trans a1, b1⟩
/-- a call of a method that may throw, where the caller has one handler, and it catches -/
theorem mx_callV (X : mw_X p s m args meth c cc nL own Ts D cl tys) {ws ws' : List Cond} {y : MethodName} {bytes : ByteArray} {maxL index : Nat} {ret : Option FieldType} {rm : Room} {As : List Value} {Post : Option Value → mw_M → Nat → Prop} {PX : String → Prop} {C name : String} {b ci : Nat} {TT : u_T} {NN : Nat} {fs : List Value} (n : Nat) (hG : GoodIn Ts (wsV own index C y ws)) (hw0 : ws = Cond.code y bytes maxL ret :: ws') (hd0 : y.cls = C ∧ y.cls ≠ "java/lang/invoke/MethodHandle" ∧ y.cls ≠ "java/lang/invoke/VarHandle" ∧ (parseMethodDescriptor y.desc).map (fun d => d.parameters.length) = some n) (hR : rm.frames + 1 ≤ R.frames ∧ 8 + (maxL + 11) + rm.locals ≤ R.locals)
    (h : mx_C ws l y rm D cl tys (.ref b :: As) M sz Post PX) (hZ : mx_Z A s s.heap) (hc : cl[ci]? = some (C, TT, NN)) (hm : M b = some (.inr (ci, fs))) (hn : As.length = n) (hst : st = As.reverse ++ .ref b :: rest) (hro : (rest.map fun v => v.category).sum ≤ 8) (hd : decode cc pc = .ok (.invokevirtual index, 3)) (hf : cells + rm.cells ≤ R.cells ∧ slots + rm.slots ≤ R.slots)
    (x : ExceptionTableEntry) (hx1 : c.exceptionTable.toList = [x]) (hx2 : covers x pc = true) (hx3 : x.catchType ≠ 0) (hx4 : Cond.classLink own x.catchType name ∈ Ts) (hx5 : Cond.castable name name ∈ mx_bad) (hx6 : ∀ E, PX E → E = name)
    (kk : ∀ (v : Option Value) (M' : mw_M) (sz' : Nat), Post v M' sz' → mw_J p l e R s m args below meth c nL D cl A Q (pc + 3) lo (v.toList ++ rest) M' sz' (cells + rm.cells) (slots + rm.slots))
    (kx : PX name → ∀ (q sz' : Nat), sz ≤ sz' → mw_J p l e R s m args below meth c nL D cl A Q x.handlerPc lo [.ref q] M sz' (cells + rm.cells) (slots + rm.slots)) : mw_J p l e R s m args below meth c nL D cl A Q pc lo st M sz cells slots := by
  intro H locs ls hw hl
  have hK := X.2.2.2.2.2.1
  have hts := X.2.2.2.2.1
  have hrec := va_recv hK (hw.2.1.one hm) hc (q0 := 0) rfl
  subst hst
  refine mx_run (vx_runV (As := As) (rest := rest) ⟨X.1, X.2.1, X.2.2.1, X.2.2.2.1, hts⟩ h (cwV n hts hG hw0 rfl rfl hd0 hR) ⟨mx_blind, hrec, mx_pre X hw hZ⟩ rfl hn hl.1 rfl (lv_room hro) hd hf) hw hl kk ?_
  intro E hE ce q H1 locs1 sz' hsz hw1 hce hcv hcl
  have e1 := hx6 E hE
  subst e1
  exact mx_catch X.2.2.2.1 x hx1 hx2 hx3 (hts _ hx4) (hZ.2.2 _ hx5 args) hce hcv hcl (kx hE q sz' hsz H1 locs1 ls hw1 hl)
end MXB
