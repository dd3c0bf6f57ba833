/-! THE CLAIM OUT OF ONE WALK OF THE LAW'S BODY. Your part is whole_start (and what it stands on); all else here is the same for every law, but numbers. -/
def R_law : String := "PackageRows2Law"
def lw_P (b : Addr) (xs : List Int32) (args : Array Value) (s : State) : Prop := args = #[.ref b] ∧ s.IntsAt b xs ∧ xs.length ≤ 2048 ∧ (Jvm.Cond.and given_1 narrow_1).before args s = true
def lw_Q (_ : Array Value) (s : State) (o : Outcome) (t : State) : Prop := o = .returned (some (.int 1)) ∧ Framed s o t [] 601024 7293034
def lw_Z (below : List Frame) (a : Array Value) (s : State) : State → Prop := fun t => ∃ o, t.status = .running ∧ Ended t below o ∧ lw_Q a s o t
/-- the law's own end, with 1 on the stack, nothing written that was there before, its room as the claim has it -/
theorem lw_ret {p : Program} {l : Launch} {e : Env} {s : State} {m : MethodId} {below : List Frame} {meth : Method} {c : Code} {b : Nat} (hx : p.tables.exec = Jvm.exec) (hb : c.code = code) (hr : meth.sig.returnType = ret) (hlocks : meth.locks = false) {pc : Nat} {H : Heap} {ls : Array Slot} (hdg : decode code pc = .ok (.ireturn, 1)) : W p l e room_1 s m #[Value.ref b] below meth c H [] 601024 7293034 (lw_Z below #[Value.ref b] s) (F0 m pc ls [.int 1]) := by
  intro T hT X
  obtain ⟨fs, hret, hrun, hended, hW, hframe⟩ := X.leave (v := some (.int 1)) (hlocks := hlocks) (fun h => by rw [hr] at h; cases h)
  have hmeth' : T.vm.method? m = some meth := X.method'
  refine ⟨T.setFrames fs, ?_, .returned (some (.int 1)), hrun, hended, rfl, ⟨_, rfl⟩, hW, hframe⟩
  jvm_step X.here [X.here.top, hx, hb, hdg, hmeth', hr, ret, narrow_b1]
  (try refine ⟨rfl, ?_⟩); (try refine ⟨rfl, ?_⟩)
  first | (intro acts; rw [hret _ acts rfl rfl rfl]) | rw [hret _ _ rfl rfl rfl]
  exact Steps.refl _
/-- what holds at the law's entry: the machine, the code, the tables' words (any of lw_tbl by 'hts w (by decide +kernel)'), the script of L ints xs at the cell b, what the Statement gives of the start (any of its parts by flat_of_before) -/
def lw_At (p : Program) (s : State) (m : MethodId) (meth : Method) (c : Code) (b L : Nat) (xs : Nat → Int32) : Prop :=
  p.tables.exec = Jvm.exec ∧ c.code = code ∧ meth.sig.returnType = ret ∧ c.maxLocals = 7 ∧ s.vm.findClass R_law = some m.cls ∧ (∀ w ∈ lw_tbl, w.before #[Value.ref b] s = true) ∧ va_X b L xs s s.heap ∧ b < s.heap.size ∧ meth.locks = false ∧ (Jvm.Cond.and given_1 narrow_1).before #[Value.ref b] s = true
theorem mj_sld {p : Program} {l : Launch} {e : Env} {s : State} {m : MethodId} {below : List Frame} {meth : Method} {c : Code} {D : va_G} {b L : Nat} {xs : Nat → Int32} {M : mw_M} {sz : Nat} {R : Room} {A : Nat → Prop} {Q : State → Prop} {pc : Nat} {lo : List (Nat × Value)} {rest : List Value} {cells slots : Nat} {args : Array Value} {cc : ByteArray} {nL : Nat} {own : String} {Ts : List Cond} {cl : List vw_C} {tys : List (ClassId × FieldType)} (X : mw_X p s m args meth c cc nL own Ts D cl tys) (hX : va_X b L xs s s.heap) (hbl : b < s.heap.size) (hbA : ¬ A b) {i : Int32} (hin : vp_in i L) (hd : decode cc pc = .ok (.iaload, 1)) (kk : mw_J p l e R s m args below meth c nL D cl A Q (pc + 1) lo (.int (xs i.toNatClampNeg) :: rest) M sz cells slots) : mw_J p l e R s m args below meth c nL D cl A Q pc lo (.int i :: .ref b :: rest) M sz cells slots := fun H locs ls hw hl => va_sld X.1 X.2.1 hX hbl hbA hw.2.2.2.2 hin hd (kk H locs ls hw hl)
theorem mj_slen {p : Program} {l : Launch} {e : Env} {s : State} {m : MethodId} {below : List Frame} {meth : Method} {c : Code} {D : va_G} {b L : Nat} {xs : Nat → Int32} {M : mw_M} {sz : Nat} {R : Room} {A : Nat → Prop} {Q : State → Prop} {pc : Nat} {lo : List (Nat × Value)} {rest : List Value} {cells slots : Nat} {args : Array Value} {cc : ByteArray} {nL : Nat} {own : String} {Ts : List Cond} {cl : List vw_C} {tys : List (ClassId × FieldType)} (X : mw_X p s m args meth c cc nL own Ts D cl tys) (hX : va_X b L xs s s.heap) (hbl : b < s.heap.size) (hbA : ¬ A b) (hd : decode cc pc = .ok (.arraylength, 1)) (kk : mw_J p l e R s m args below meth c nL D cl A Q (pc + 1) lo (.int (nI L) :: rest) M sz cells slots) : mw_J p l e R s m args below meth c nL D cl A Q pc lo (.ref b :: rest) M sz cells slots := fun H locs ls hw hl => va_slen X.1 X.2.1 hX hbl hbA hw.2.2.2.2 hd (kk H locs ls hw hl)
theorem lw_end {p : Program} {l : Launch} {e : Env} {s : State} {m : MethodId} {below : List Frame} {meth : Method} {c : Code} {D : va_G} {ca : Nat → ClassId} {b : Nat} {M : mw_M} {sz : Nat} {pc : Nat} {lo : List (Nat × Value)} {cells slots : Nat} (X : mw_X p s m #[Value.ref b] meth c cL_law 7 RL lw_tbl D vwCl (mt ca)) (hr : meth.sig.returnType = ret) (hc : cells ≤ 601024) (hs : slots ≤ 7293034) (hd : decode cL_law pc = .ok (.ireturn, 1)) : mw_J p l e room_1 s m #[Value.ref b] below meth c 7 D vwCl (fun q => s.heap.size ≤ q) (lw_Z below #[Value.ref b] s) pc lo [.int 1] M sz cells slots := fun H locs ls hw hl => va_forget (fun q hq => hw.2.2.2.2.2.2 q hq) (W.widen hc hs (lw_ret X.1 X.2.1 hr X.2.2.2.2.2.2.1 hd))
theorem Inv.x {ca : Nat → ClassId} {M : mw_M} {x o : Nat} (h : Inv ca M x o) : ∃ fs : List Value, M x = some (.inr (8, fs)) := by
  obtain ⟨th, tr, pz, n, nb, ec, lc, nv, fa, np, to, f, pa, fb, byt, E, en, ek, ef, eg, ev, L, ln, lf, lx, ly, ps, pp, si, co, ls1, ls2, psn, sn, V, vcn, VE, vn, vk, vf, vg, vfv, mn, sh, hF, hP, hO, hC, hS, hL, hR, hZ, hV, hM, hW, hX, hT, hU⟩ := h
  exact ⟨_, hF.1⟩
theorem lw_any {s : State} {c : Cond} (hc : c.onTables = true) {a a' : Array Value} (h : c.before a s = true) : c.before a' s = true := by
  have e := Cond.onTables_vm (A := a) (A' := a') (U := s) (U' := s) s.vm c hc
  have hU : s.setVm s.vm = s := rfl
  rw [hU] at e
  rw [← e]
  exact h
