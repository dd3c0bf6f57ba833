/-- what holds between two calls of the law -/
def Inv (ca : Nat → ClassId) (M : mw_M) (x o : Nat) : Prop :=
  ∃ (th tr pz : Int32) (n nb ec lc nv fa np to : Nat) (f pa fb byt : Nat → Int32) (E en ek : Nat → Nat) (ef eg : Nat → Nat → Int32) (ev : Nat → Int32) (L ln : Nat → Nat) (lf : Nat → Nat → Int32) (lx ly : Nat → Int32) (ps pp si co ls1 ls2 : Nat → Int32) (psn sn : Nat → Nat) (V vcn : Nat → Nat) (VE vn vk : Nat → Nat → Nat) (vf vg : Nat → Nat → Nat → Int32) (vfv : Nat → Nat → Int32) (mn sh : Nat → Int32), gF M x o th tr pz n nb ec lc nv fa np to ∧ gP ca M x o n f pa ∧ gO ca M x o nb fb byt ∧ gC ca M x ec lc E en ek ef eg ev L ln lf lx ly ∧ gS ca M o ps pp si co ∧ gL ca M o ls1 ls2 ∧ gR ec lc en ek ef eg ln lf lx ly ps pp si co ls1 ls2 psn sn ∧ gZ ca M x o fa ∧ gV ca M x nv V vcn VE vn vk vf vg vfv ∧ gM ca M o nv vcn mn sh ∧ gW nv vcn vn vk vf vg vfv ps pp si co sh psn sn ∧ gX nv ec vcn VE E ∧ gT ca M x o nv V vcn vk vg np to tr ∧ gU ca M x
theorem Inv.mk {ca : Nat → ClassId} {M : mw_M} {x o : Nat} {th tr pz : Int32} {n nb ec lc nv fa np to : Nat} {f pa fb byt : Nat → Int32} {E en ek : Nat → Nat} {ef eg : Nat → Nat → Int32} {ev : Nat → Int32} {L ln : Nat → Nat} {lf : Nat → Nat → Int32} {lx ly : Nat → Int32} {ps pp si co ls1 ls2 : Nat → Int32} {psn sn : Nat → Nat} {V vcn : Nat → Nat} {VE vn vk : Nat → Nat → Nat} {vf vg : Nat → Nat → Nat → Int32} {vfv : Nat → Nat → Int32} {mn sh : Nat → Int32} (hF : gF M x o th tr pz n nb ec lc nv fa np to) (hP : gP ca M x o n f pa) (hO : gO ca M x o nb fb byt) (hC : gC ca M x ec lc E en ek ef eg ev L ln lf lx ly) (hS : gS ca M o ps pp si co) (hL : gL ca M o ls1 ls2) (hR : gR ec lc en ek ef eg ln lf lx ly ps pp si co ls1 ls2 psn sn) (hZ : gZ ca M x o fa) (hV : gV ca M x nv V vcn VE vn vk vf vg vfv) (hM : gM ca M o nv vcn mn sh) (hW : gW nv vcn vn vk vf vg vfv ps pp si co sh psn sn) (hX : gX nv ec vcn VE E) (hT : gT ca M x o nv V vcn vk vg np to tr) (hU : gU ca M x) : Inv ca M x o :=
  ⟨th, tr, pz, n, nb, ec, lc, nv, fa, np, to, f, pa, fb, byt, E, en, ek, ef, eg, ev, L, ln, lf, lx, ly, ps, pp, si, co, ls1, ls2, psn, sn, V, vcn, VE, vn, vk, vf, vg, vfv, mn, sh, hF, hP, hO, hC, hS, hL, hR, hZ, hV, hM, hW, hX, hT, hU⟩
theorem Inv.elim {ca : Nat → ClassId} {M : mw_M} {x o : Nat} {P9 : Prop} (h : Inv ca M x o) (k9 : ∀ (th tr pz : Int32) (n nb ec lc nv fa np to : Nat) (f pa fb byt : Nat → Int32) (E en ek : Nat → Nat) (ef eg : Nat → Nat → Int32) (ev : Nat → Int32) (L ln : Nat → Nat) (lf : Nat → Nat → Int32) (lx ly : Nat → Int32) (ps pp si co ls1 ls2 : Nat → Int32) (psn sn : Nat → Nat) (V vcn : Nat → Nat) (VE vn vk : Nat → Nat → Nat) (vf vg : Nat → Nat → Nat → Int32) (vfv : Nat → Nat → Int32) (mn sh : Nat → Int32), gF M x o th tr pz n nb ec lc nv fa np to → gP ca M x o n f pa → gO ca M x o nb fb byt → gC ca M x ec lc E en ek ef eg ev L ln lf lx ly → gS ca M o ps pp si co → gL ca M o ls1 ls2 → gR ec lc en ek ef eg ln lf lx ly ps pp si co ls1 ls2 psn sn → gZ ca M x o fa → gV ca M x nv V vcn VE vn vk vf vg vfv → gM ca M o nv vcn mn sh → gW nv vcn vn vk vf vg vfv ps pp si co sh psn sn → gX nv ec vcn VE E → gT ca M x o nv V vcn vk vg np to tr → gU ca M x → P9) : P9 := by
  obtain ⟨th, tr, pz, n, nb, ec, lc, nv, fa, np, to, f, pa, fb, byt, E, en, ek, ef, eg, ev, L, ln, lf, lx, ly, ps, pp, si, co, ls1, ls2, psn, sn, V, vcn, VE, vn, vk, vf, vg, vfv, mn, sh, hF, hP, hO, hC, hS, hL, hR, hZ, hV, hM, hW, hX, hT, hU⟩ := h
  exact k9 th tr pz n nb ec lc nv fa np to f pa fb byt E en ek ef eg ev L ln lf lx ly ps pp si co ls1 ls2 psn sn V vcn VE vn vk vf vg vfv mn sh hF hP hO hC hS hL hR hZ hV hM hW hX hT hU
set_option maxHeartbeats 4000000 in
/-- the reference's first field alone is written -/
theorem Inv.quiet {ca : Nat → ClassId} {M : mw_M} {x o : Nat} (hox : o = x + 14) {th tr pz : Int32} {n nb ec lc nv fa np to : Nat} {f pa fb byt : Nat → Int32} {E en ek : Nat → Nat} {ef eg : Nat → Nat → Int32} {ev : Nat → Int32} {L ln : Nat → Nat} {lf : Nat → Nat → Int32} {lx ly : Nat → Int32} {ps pp si co ls1 ls2 : Nat → Int32} {psn sn : Nat → Nat} {V vcn : Nat → Nat} {VE vn vk : Nat → Nat → Nat} {vf vg : Nat → Nat → Nat → Int32} {vfv : Nat → Nat → Int32} {mn sh : Nat → Int32} (t9 : Int32) (hF : gF M x o th tr pz n nb ec lc nv fa np to) (hP : gP ca M x o n f pa) (hO : gO ca M x o nb fb byt) (hC : gC ca M x ec lc E en ek ef eg ev L ln lf lx ly) (hS : gS ca M o ps pp si co) (hL : gL ca M o ls1 ls2) (hR : gR ec lc en ek ef eg ln lf lx ly ps pp si co ls1 ls2 psn sn) (hZ : gZ ca M x o fa) (hV : gV ca M x nv V vcn VE vn vk vf vg vfv) (hM : gM ca M o nv vcn mn sh) (hW : gW nv vcn vn vk vf vg vfv ps pp si co sh psn sn) (hX : gX nv ec vcn VE E) (hT : gT ca M x o nv V vcn vk vg np to tr) (hU : gU ca M x) : Inv ca (mw_u M o (.inr (9, mdF o t9 (nI n) (nI nb) (nI ec) (nI lc) (nI nv) (nI fa) tr (nI to) pz (nI np)))) x o := by
  have kk : kpt M (mw_u M o (.inr (9, mdF o t9 (nI n) (nI nb) (nI ec) (nI lc) (nI nv) (nI fa) tr (nI to) pz (nI np)))) (fun a => a ≠ o) := ((kpt_rf _ _).u (by simp))
  exact Inv.mk  ⟨kk _ _ hF.1 (by (try dsimp only); omega), mw_us⟩ (hP.up (kk.sub (fun a ha => by (try dsimp only at ha ⊢); omega))) (hO.up (kk.sub (fun a ha => by (try dsimp only at ha ⊢); omega))) (hC.up (kk.sub (fun a ha => by (try dsimp only at ha ⊢); omega))) (hS.up (kk.sub (fun a ha => by (try dsimp only at ha ⊢); omega))) (hL.up (kk.sub (fun a ha => by (try dsimp only at ha ⊢); omega))) hR (hZ.up (kk.sub (fun a ha => by (try dsimp only at ha ⊢); omega))) (hV.up (kk.sub (fun a ha => by (try dsimp only at ha ⊢); omega))) (hM.up (kk.sub (fun a ha => by (try dsimp only at ha ⊢); omega))) hW hX (hT.up (kk.sub (fun a ha => by (try dsimp only at ha ⊢); omega))) (hU.up (kk.sub (fun a ha => by (try dsimp only at ha ⊢); omega)))

set_option maxHeartbeats 4000000 in
theorem pr_path (l : Launch) (D : va_G) {ca : Nat → ClassId} {M : mw_M} {sz x o : Nat} (hox : o = x + 14) (hI : Inv ca M x o) (k : Int32) : mw_C wsX8_path l yX8_path { frames := 1, cells := 0, slots := 0, locals := 21 } D vwCl (mt ca) [.ref x, .int k] M sz (mq_v (fun M1 s1 => (∃ fs : List Value, M1 o = some (.inr (9, fs))) ∧ mw_C wsX9_path l yX9_path { frames := 0, cells := 0, slots := 0, locals := 0 } D vwCl (mt ca) [.ref o, .int k] M1 s1 (mq_v (fun M2 s2 => Inv ca M2 x o)))) := by
  refine Inv.elim hI (fun th tr pz n nb ec lc nv fa np to f pa fb byt E en ek ef eg ev L ln lf lx ly ps pp si co ls1 ls2 psn sn V vcn VE vn vk vf vg vfv mn sh hF hP hO hC hS hL hR hZ hV hM hW hX hT hU => ?_)
  refine mw_C.imp (c_Pkg_path l D ca M sz x nv n f k hF.1 hP.1 hP.2.1 hP.2.2.1) (fun _ v M1 s1 _ hq => ?_)
  obtain ⟨rfl, hq, rfl⟩ := hq
  refine ⟨rfl, ?_⟩
  have k1 : kpt M M1 (fun a => a ≠ x + 1 ∧ a ≠ x + 1 + 1) := by
    rcases hq with ⟨_, rfl⟩ | ⟨_, rfl⟩
    · exact (((kpt_rf _ _).u (by simp)).u (by simp))
    · exact kpt_rf _ _
  refine ⟨⟨_, (k1 _ _ hF.2 (by (try dsimp only); omega))⟩, ?_⟩
  refine mw_C.imp (c_M_path l D ca M1 s1 o n th (nI nb) (nI ec) (nI lc) (nI nv) (nI fa) tr (nI to) pz (nI np) pa k (k1 _ _ hF.2 (by (try dsimp only); omega)) (k1 _ _ hP.2.2.2.1 (by (try dsimp only); omega)) hP.2.2.1) (fun _ v M2 s2 _ hq2 => ?_)
  obtain ⟨rfl, hq2, rfl⟩ := hq2
  refine ⟨rfl, ?_⟩
  have k2 : kpt M1 M2 (fun a => a ≠ o ∧ a ≠ o + 1) := by
    rcases hq2 with ⟨_, rfl⟩ | ⟨_, rfl⟩
    · exact (((kpt_rf _ _).u (by simp)).u (by simp))
    · exact ((kpt_rf _ _).u (by simp))
  have kk : kpt M M2 (fun a => a ≠ x + 1 ∧ a ≠ x + 1 + 1 ∧ a ≠ o ∧ a ≠ o + 1) := (k1.sub (fun a ha => by (try dsimp only at ha ⊢); omega)).tr (k2.sub (fun a ha => by (try dsimp only at ha ⊢); omega))
  have hx2 := kk _ _ hF.1 (by (try dsimp only); omega)
  rcases Nat.lt_or_ge n 30 with h9 | h9
  · obtain ⟨_, rfl⟩ := hq.resolve_right (fun q => absurd q.1 (by omega))
    obtain ⟨_, rfl⟩ := hq2.resolve_right (fun q => absurd q.1 (by omega))
    refine Inv.mk  ⟨hx2, mw_us⟩ ⟨(k2 _ _ mw_us (by (try dsimp only); omega)), (k2 _ _ ((mw_un (by omega)).trans mw_us) (by (try dsimp only); omega)), by omega, (mw_un (by omega)).trans mw_us, ?_, ?_⟩ (hO.up (kk.sub (fun a ha => by (try dsimp only at ha ⊢); omega))) (hC.up (kk.sub (fun a ha => by (try dsimp only at ha ⊢); omega))) (hS.up (kk.sub (fun a ha => by (try dsimp only at ha ⊢); omega))) (hL.up (kk.sub (fun a ha => by (try dsimp only at ha ⊢); omega))) hR (hZ.up (kk.sub (fun a ha => by (try dsimp only at ha ⊢); omega))) (hV.up (kk.sub (fun a ha => by (try dsimp only at ha ⊢); omega))) (hM.up (kk.sub (fun a ha => by (try dsimp only at ha ⊢); omega))) hW hX (hT.up (kk.sub (fun a ha => by (try dsimp only at ha ⊢); omega))) (hU.up (kk.sub (fun a ha => by (try dsimp only at ha ⊢); omega)))
    · intro q hq9
      by_cases e9 : q = n
      · rw [e9, upd_self]; exact b8i k
      · rw [upd_ne _ _ e9]; exact hP.2.2.2.2.1 q hq9
    · intro q hq9
      by_cases e9 : q = n
      · rw [e9, upd_self, upd_self]; exact (bp_b k).symm
      · rw [upd_ne _ _ e9, upd_ne _ _ e9]; exact hP.2.2.2.2.2 q (by omega)
  · obtain ⟨_, e1⟩ := hq.resolve_left (fun q => absurd q.1 (by omega))
    obtain ⟨_, e2⟩ := hq2.resolve_left (fun q => absurd q.1 (by omega))
    rw [e2, e1]
    exact Inv.quiet hox 0 hF hP hO hC hS hL hR hZ hV hM hW hX hT hU

set_option maxHeartbeats 4000000 in
theorem pr_octet (l : Launch) (D : va_G) {ca : Nat → ClassId} {M : mw_M} {sz x o : Nat} (hox : o = x + 14) (hI : Inv ca M x o) (k : Int32) : mw_C wsX8_octet l yX8_octet { frames := 1, cells := 0, slots := 0, locals := 21 } D vwCl (mt ca) [.ref x, .int k] M sz (mq_v (fun M1 s1 => (∃ fs : List Value, M1 o = some (.inr (9, fs))) ∧ mw_C wsX9_octet l yX9_octet { frames := 0, cells := 0, slots := 0, locals := 0 } D vwCl (mt ca) [.ref o, .int k] M1 s1 (mq_v (fun M2 s2 => Inv ca M2 x o)))) := by
  refine Inv.elim hI (fun th tr pz n nb ec lc nv fa np to f pa fb byt E en ek ef eg ev L ln lf lx ly ps pp si co ls1 ls2 psn sn V vcn VE vn vk vf vg vfv mn sh hF hP hO hC hS hL hR hZ hV hM hW hX hT hU => ?_)
  refine mw_C.imp (c_Pkg_octet l D ca M sz x nv nb fb k hF.1 hO.1 hO.2.1 hO.2.2.1) (fun _ v M1 s1 _ hq => ?_)
  obtain ⟨rfl, hq, rfl⟩ := hq
  refine ⟨rfl, ?_⟩
  have k1 : kpt M M1 (fun a => a ≠ x + 3 ∧ a ≠ x + 3 + 1) := by
    rcases hq with ⟨_, rfl⟩ | ⟨_, rfl⟩
    · exact (((kpt_rf _ _).u (by simp)).u (by simp))
    · exact kpt_rf _ _
  refine ⟨⟨_, (k1 _ _ hF.2 (by (try dsimp only); omega))⟩, ?_⟩
  refine mw_C.imp (c_M_octet l D ca M1 s1 o nb th (nI n) (nI ec) (nI lc) (nI nv) (nI fa) tr (nI to) pz (nI np) byt k (k1 _ _ hF.2 (by (try dsimp only); omega)) (k1 _ _ hO.2.2.2.1 (by (try dsimp only); omega)) hO.2.2.1) (fun _ v M2 s2 _ hq2 => ?_)
  obtain ⟨rfl, hq2, rfl⟩ := hq2
  refine ⟨rfl, ?_⟩
  have k2 : kpt M1 M2 (fun a => a ≠ o ∧ a ≠ o + 2) := by
    rcases hq2 with ⟨_, rfl⟩ | ⟨_, rfl⟩
    · exact (((kpt_rf _ _).u (by simp)).u (by simp))
    · exact ((kpt_rf _ _).u (by simp))
  have kk : kpt M M2 (fun a => a ≠ x + 3 ∧ a ≠ x + 3 + 1 ∧ a ≠ o ∧ a ≠ o + 2) := (k1.sub (fun a ha => by (try dsimp only at ha ⊢); omega)).tr (k2.sub (fun a ha => by (try dsimp only at ha ⊢); omega))
  have hx2 := kk _ _ hF.1 (by (try dsimp only); omega)
  rcases Nat.lt_or_ge nb 40 with h9 | h9
  · obtain ⟨_, rfl⟩ := hq.resolve_right (fun q => absurd q.1 (by omega))
    obtain ⟨_, rfl⟩ := hq2.resolve_right (fun q => absurd q.1 (by omega))
    refine Inv.mk  ⟨hx2, mw_us⟩ (hP.up (kk.sub (fun a ha => by (try dsimp only at ha ⊢); omega))) ⟨(k2 _ _ mw_us (by (try dsimp only); omega)), (k2 _ _ ((mw_un (by omega)).trans mw_us) (by (try dsimp only); omega)), by omega, (mw_un (by omega)).trans mw_us, ?_, ?_⟩ (hC.up (kk.sub (fun a ha => by (try dsimp only at ha ⊢); omega))) (hS.up (kk.sub (fun a ha => by (try dsimp only at ha ⊢); omega))) (hL.up (kk.sub (fun a ha => by (try dsimp only at ha ⊢); omega))) hR (hZ.up (kk.sub (fun a ha => by (try dsimp only at ha ⊢); omega))) (hV.up (kk.sub (fun a ha => by (try dsimp only at ha ⊢); omega))) (hM.up (kk.sub (fun a ha => by (try dsimp only at ha ⊢); omega))) hW hX (hT.up (kk.sub (fun a ha => by (try dsimp only at ha ⊢); omega))) (hU.up (kk.sub (fun a ha => by (try dsimp only at ha ⊢); omega)))
    · intro q hq9
      by_cases e9 : q = nb
      · rw [e9, upd_self]; exact b8i k
      · rw [upd_ne _ _ e9]; exact hO.2.2.2.2.1 q hq9
    · intro q hq9
      by_cases e9 : q = nb
      · rw [e9, upd_self, upd_self]; exact (bp_b k).symm
      · rw [upd_ne _ _ e9, upd_ne _ _ e9]; exact hO.2.2.2.2.2 q (by omega)
  · obtain ⟨_, e1⟩ := hq.resolve_left (fun q => absurd q.1 (by omega))
    obtain ⟨_, e2⟩ := hq2.resolve_left (fun q => absurd q.1 (by omega))
    rw [e2, e1]
    exact Inv.quiet hox 0 hF hP hO hC hS hL hR hZ hV hM hW hX hT hU

set_option maxHeartbeats 4000000 in
theorem pr_sum (l : Launch) (D : va_G) {ca : Nat → ClassId} {M : mw_M} {sz x o : Nat} (hox : o = x + 14) (hI : Inv ca M x o) : mw_C wsX8_sum l yX8_sum { frames := 1, cells := 0, slots := 0, locals := 22 } D vwCl (mt ca) [.ref x] M sz (mq_i (fun v1 M1 s1 => (∃ fs : List Value, M1 o = some (.inr (9, fs))) ∧ mw_C wsX9_sum l yX9_sum { frames := 0, cells := 0, slots := 0, locals := 0 } D vwCl (mt ca) [.ref o] M1 s1 (mq_i (fun v2 M2 s2 => (v2 = v1 ∧ Inv ca M2 x o))))) := by
  refine Inv.elim hI (fun th tr pz n nb ec lc nv fa np to f pa fb byt E en ek ef eg ev L ln lf lx ly ps pp si co ls1 ls2 psn sn V vcn VE vn vk vf vg vfv mn sh hF hP hO hC hS hL hR hZ hV hM hW hX hT hU => ?_)
  refine mw_C.imp (c_Pkg_sum l D ca M sz x nv nb fb hF.1 hO.1 hO.2.1 hO.2.2.1) (fun _ v M1 s1 _ hq => ?_)
  obtain ⟨r1, rfl, rfl, rfl, rfl⟩ := hq
  refine ⟨_, rfl, ?_⟩
  refine ⟨⟨_, hF.2⟩, ?_⟩
  refine mw_C.imp (c_M_sum l D ca M1 s1 o nb th (nI n) (nI ec) (nI lc) (nI nv) (nI fa) tr (nI to) pz (nI np) byt hF.2 hO.2.2.2.1 hO.2.2.1) (fun _ v M2 s2 _ hq2 => ?_)
  obtain ⟨r2, rfl, rfl, rfl, rfl⟩ := hq2
  refine ⟨_, rfl, ?_, Inv.quiet hox 0 hF hP hO hC hS hL hR hZ hV hM hW hX hT hU⟩
  rw [sumB_N]; exact sumN_congr (fun k hk => (hO.2.2.2.2.2 k hk).symm)

set_option maxHeartbeats 4000000 in
theorem pr_drop (l : Launch) (D : va_G) {ca : Nat → ClassId} {M : mw_M} {sz x o : Nat} (hox : o = x + 14) (hI : Inv ca M x o) : mw_C wsX8_drop l yX8_drop { frames := 1, cells := 0, slots := 0, locals := 20 } D vwCl (mt ca) [.ref x] M sz (mq_i (fun v1 M1 s1 => (∃ fs : List Value, M1 o = some (.inr (9, fs))) ∧ mw_C wsX9_drop l yX9_drop { frames := 0, cells := 0, slots := 0, locals := 0 } D vwCl (mt ca) [.ref o] M1 s1 (mq_i (fun v2 M2 s2 => (v2 = v1 ∧ Inv ca M2 x o))))) := by
  refine Inv.elim hI (fun th tr pz n nb ec lc nv fa np to f pa fb byt E en ek ef eg ev L ln lf lx ly ps pp si co ls1 ls2 psn sn V vcn VE vn vk vf vg vfv mn sh hF hP hO hC hS hL hR hZ hV hM hW hX hT hU => ?_)
  obtain ⟨ce, xl, q1, q2, q3, q4, q5, q6⟩ := id hC
  refine mw_C.imp (c_Pkg_drop l D ca M sz x nv ec lc ce xl hF.1 q1 q2 q3 q4 q5) (fun _ v M1 s1 _ hq => ?_)
  obtain ⟨r1, rfl, rfl, rfl, rfl⟩ := hq
  refine ⟨_, rfl, ?_⟩
  have k1 : kpt M (mw_u M (x + 5) (.inr (1, [.ref (x + 5 + 1), .int (nI 0), .ref (x + 5 + 2), .int (nI 0)]))) (fun a => a ≠ x + 5) := ((kpt_rf _ _).u (by simp))
  refine ⟨⟨_, (k1 _ _ hF.2 (by (try dsimp only); omega))⟩, ?_⟩
  refine mw_C.imp (c_M_drop l D ca _ s1 o ec lc th (nI n) (nI nb) (nI nv) (nI fa) tr (nI to) pz (nI np) (k1 _ _ hF.2 (by (try dsimp only); omega))) (fun _ v M2 s2 _ hq2 => ?_)
  obtain ⟨r2, rfl, rfl, rfl, rfl⟩ := hq2
  have kk : kpt M (mw_u (mw_u M (x + 5) (.inr (1, [.ref (x + 5 + 1), .int (nI 0), .ref (x + 5 + 2), .int (nI 0)]))) o (.inr (9, mdF o 0 (nI n) (nI nb) (nI 0) (nI 0) (nI nv) (nI fa) tr (nI to) pz (nI np)))) (fun a => a ≠ x + 5 ∧ a ≠ o) := (((kpt_rf _ _).u (by simp)).u (by simp))
  exact ⟨_, rfl, rfl, Inv.mk  ⟨kk _ _ hF.1 (by (try dsimp only); omega), mw_us⟩ (hP.up (kk.sub (fun a ha => by (try dsimp only at ha ⊢); omega))) (hO.up (kk.sub (fun a ha => by (try dsimp only at ha ⊢); omega))) (gC.zero E en ek ef eg ev L ln lf lx ly ((mw_un (by omega)).trans mw_us) (kk _ _ q2 (by (try dsimp only); omega)) (kk _ _ q3 (by (try dsimp only); omega))) (hS.up (kk.sub (fun a ha => by (try dsimp only at ha ⊢); omega))) (hL.up (kk.sub (fun a ha => by (try dsimp only at ha ⊢); omega))) gR_0 (hZ.up (kk.sub (fun a ha => by (try dsimp only at ha ⊢); omega))) (hV.up (kk.sub (fun a ha => by (try dsimp only at ha ⊢); omega))) (hM.up (kk.sub (fun a ha => by (try dsimp only at ha ⊢); omega))) hW (fun j i t _ _ ht => absurd ht (Nat.not_lt_zero t)) (hT.up (kk.sub (fun a ha => by (try dsimp only at ha ⊢); omega))) (hU.up (kk.sub (fun a ha => by (try dsimp only at ha ⊢); omega)))⟩

set_option maxHeartbeats 4000000 in
theorem pr_files (l : Launch) (D : va_G) {ca : Nat → ClassId} {M : mw_M} {sz x o : Nat} (hox : o = x + 14) (hI : Inv ca M x o) (k : Int32) : mw_C wsX8_files l yX8_files { frames := 1, cells := 0, slots := 0, locals := 21 } D vwCl (mt ca) [.ref x, .int k] M sz (mq_i (fun v1 M1 s1 => (∃ fs : List Value, M1 o = some (.inr (9, fs))) ∧ mw_C wsX9_files l yX9_files { frames := 2, cells := 0, slots := 0, locals := 43 } D vwCl (mt ca) [.ref o, .int k] M1 s1 (mq_i (fun v2 M2 s2 => (v2 = v1 ∧ Inv ca M2 x o))))) := by
  refine Inv.elim hI (fun th tr pz n nb ec lc nv fa np to f pa fb byt E en ek ef eg ev L ln lf lx ly ps pp si co ls1 ls2 psn sn V vcn VE vn vk vf vg vfv mn sh hF hP hO hC hS hL hR hZ hV hM hW hX hT hU => ?_)
  obtain ⟨vv, vve, hv1, hv2, hv3, hv4, hv5, hv6⟩ := id hV
  refine mw_C.imp (c_Pkg_files l D ca M sz x nv vv V vcn vve VE vn vk vf vg vfv k hF.1 hv1 hv2 hv3 hv4) (fun _ v M1 s1 _ hq => ?_)
  obtain ⟨r1, rfl, rfl, rfl, hq⟩ := hq
  refine ⟨r1, rfl, ?_⟩
  refine ⟨⟨_, hF.2⟩, ?_⟩
  refine mw_C.imp (c_M_files l D ca M1 s1 o nv th (nI n) (nI nb) (nI ec) (nI lc) (nI fa) tr (nI to) pz (nI np) mn vcn k hF.2 hM.1 hv2 hM.2.2.1 hM.2.2.2) (fun _ v M2 s2 _ hq2 => ?_)
  obtain ⟨r2, rfl, hq2, rfl, rfl⟩ := hq2
  refine ⟨r2, rfl, ?_, Inv.quiet hox 0 hF hP hO hC hS hL hR hZ hV hM hW hX hT hU⟩
  rcases hq with ⟨j, h1, h2, h3⟩ | ⟨h1, h2⟩ <;> rcases hq2 with ⟨j', g1, g2, g3⟩ | ⟨g1, g2⟩
  · have e := (nI_eq (by omega) (by omega)).mp (h2.symm.trans g2)
    rw [h3, g3, e]
  · exact absurd h2 (g1 j h1)
  · exact absurd g2 (h1 j' g1)
  · rw [h2, g2]

theorem atE_uniq {nv : Nat} {vcn : Nat → Nat} {k i0 : Int32} {j t j' t' : Nat} (hv : nv ≤ 12) (hc : ∀ j, j < nv → vcn j ≤ 8) (h : atE nv vcn k i0 j t) (g : atE nv vcn k i0 j' t') : j = j' ∧ t = t' := by
  obtain ⟨h1, h2, h3, h4⟩ := h
  obtain ⟨g1, g2, g3, g4⟩ := g
  have a := hc j h1
  have b := hc j' g1
  exact ⟨(nI_eq (by omega) (by omega)).mp (h3.symm.trans g3), (nI_eq (by omega) (by omega)).mp (h4.symm.trans g4)⟩

set_option maxHeartbeats 4000000 in
theorem pr_about (l : Launch) (D : va_G) {ca : Nat → ClassId} {M : mw_M} {sz x o : Nat} (hox : o = x + 14) (hI : Inv ca M x o) (k : Int32) (i0 : Int32) (y : Int32) : mw_C wsX8_about l yX8_about { frames := 2, cells := 0, slots := 0, locals := 44 } D vwCl (mt ca) [.ref x, .int k, .int i0, .int y] M sz (mq_i (fun v1 M1 s1 => (∃ fs : List Value, M1 o = some (.inr (9, fs))) ∧ mw_C wsX9_about l yX9_about { frames := 3, cells := 0, slots := 0, locals := 66 } D vwCl (mt ca) [.ref o, .int k, .int i0, .int y] M1 s1 (mq_i (fun v2 M2 s2 => (v2 = v1 ∧ Inv ca M2 x o))))) := by
  refine Inv.elim hI (fun th tr pz n nb ec lc nv fa np to f pa fb byt E en ek ef eg ev L ln lf lx ly ps pp si co ls1 ls2 psn sn V vcn VE vn vk vf vg vfv mn sh hF hP hO hC hS hL hR hZ hV hM hW hX hT hU => ?_)
  obtain ⟨vv, vve, hv1, hv2, hv3, hv4, hv5, hv6⟩ := id hV
  refine mw_C.imp (c_Pkg_about l D ca M sz x nv vv V vcn vve VE vn vk vf vg vfv k i0 y hF.1 hv1 hv2 hv3 hv4) (fun _ v M1 s1 _ hq => ?_)
  obtain ⟨r1, rfl, rfl, rfl, hq⟩ := hq
  refine ⟨r1, rfl, ?_⟩
  refine ⟨⟨_, hF.2⟩, ?_⟩
  refine mw_C.imp (c_M_about l D ca M1 s1 o nv th (nI n) (nI nb) (nI ec) (nI lc) (nI fa) tr (nI to) pz (nI np) mn ps si co sh vcn (fun j t => psn (24 + 8 * j + t)) (fun j t => sn (24 + 8 * j + t)) k i0 y hF.2 hM.1 hS.1 hS.2.2.1 hS.2.2.2.1 hM.2.1 hv2 hM.2.2.1 hM.2.2.2 (fun j t hj ht => ⟨((hW j t hj ht).1.1).1, ((hW j t hj ht).1.1).2.1⟩) (fun j t hj ht => ⟨(hW j t hj ht).1.2.1, (hW j t hj ht).1.2.2.1⟩)) (fun _ v M2 s2 _ hq2 => ?_)
  obtain ⟨r2, rfl, hq2, rfl, rfl⟩ := hq2
  refine ⟨r2, rfl, ?_, Inv.quiet hox 0 hF hP hO hC hS hL hR hZ hV hM hW hX hT hU⟩
  rcases hq with ⟨j, t, h1, h2⟩ | ⟨h1, h2⟩ <;> rcases hq2 with ⟨j', t', g1, g2⟩ | ⟨g1, g2⟩
  · obtain ⟨e1, e2⟩ := atE_uniq hv2 hM.2.2.2 h1 g1
    subst e1; subst e2
    obtain ⟨w1, w2⟩ := hW j t h1.1 h1.2.1
    (try dsimp only at g2)
    have e1 : vk j t = sn (24 + 8 * j + t) := w1.2.2.2.2.1
    have e2 : vn j t = psn (24 + 8 * j + t) := w1.2.2.2.1.1
    have e3 : sumB (fun q => co (40 * (24 + 8 * j + t) + q)) (sn (24 + 8 * j + t)) = sumN (vg j t) (vk j t) := by rw [sumB_N, ← e1]; exact sumN_congr (fun q hq => (w1.2.2.2.2.2 q hq).symm)
    rw [h2, g2]
    (try dsimp only)
    rw [e3, ← e1, ← e2, w2]
  · exact absurd h1 (g1 j t)
  · exact absurd g1 (h1 j' t')
  · rw [h2, g2]

set_option maxHeartbeats 4000000 in
theorem pr_sign (l : Launch) (D : va_G) {ca : Nat → ClassId} {M : mw_M} {sz x o : Nat} (hox : o = x + 14) (hI : Inv ca M x o) (k : Int32) (i0 : Int32) (y : Int32) : mw_C wsX8_sign l yX8_sign { frames := 2, cells := 0, slots := 0, locals := 44 } D vwCl (mt ca) [.ref x, .int k, .int i0, .int y] M sz (mq_i (fun v1 M1 s1 => (∃ fs : List Value, M1 o = some (.inr (9, fs))) ∧ mw_C wsX9_sign l yX9_sign { frames := 3, cells := 0, slots := 0, locals := 66 } D vwCl (mt ca) [.ref o, .int k, .int i0, .int y] M1 s1 (mq_i (fun v2 M2 s2 => (v2 = v1 ∧ Inv ca M2 x o))))) := by
  refine Inv.elim hI (fun th tr pz n nb ec lc nv fa np to f pa fb byt E en ek ef eg ev L ln lf lx ly ps pp si co ls1 ls2 psn sn V vcn VE vn vk vf vg vfv mn sh hF hP hO hC hS hL hR hZ hV hM hW hX hT hU => ?_)
  obtain ⟨vv, vve, hv1, hv2, hv3, hv4, hv5, hv6⟩ := id hV
  refine mw_C.imp (c_Pkg_sign l D ca M sz x nv vv V vcn vve VE vn vk vf vg vfv k i0 y hF.1 hv1 hv2 hv3 hv4) (fun _ v M1 s1 _ hq => ?_)
  obtain ⟨r1, rfl, rfl, rfl, hq⟩ := hq
  refine ⟨r1, rfl, ?_⟩
  refine ⟨⟨_, hF.2⟩, ?_⟩
  refine mw_C.imp (c_M_sign l D ca M1 s1 o nv th (nI n) (nI nb) (nI ec) (nI lc) (nI fa) tr (nI to) pz (nI np) mn ps pp vcn (fun j t => psn (24 + 8 * j + t)) k i0 y hF.2 hM.1 hS.1 hS.2.1 hv2 hM.2.2.1 hM.2.2.2 (fun j t hj ht => ⟨((hW j t hj ht).1.1).1, ((hW j t hj ht).1.1).2.1⟩)) (fun _ v M2 s2 _ hq2 => ?_)
  obtain ⟨r2, rfl, hq2, rfl, rfl⟩ := hq2
  refine ⟨r2, rfl, ?_, Inv.quiet hox 0 hF hP hO hC hS hL hR hZ hV hM hW hX hT hU⟩
  rcases hq with ⟨j, t, h1, h2⟩ | ⟨h1, h2⟩ <;> rcases hq2 with ⟨j', t', g1, g2⟩ | ⟨g1, g2⟩
  · obtain ⟨e1, e2⟩ := atE_uniq hv2 hM.2.2.2 h1 g1
    subst e1; subst e2
    obtain ⟨w1, w2⟩ := hW j t h1.1 h1.2.1
    (try dsimp only at g2)
    have z := w1.1.2.1
    rcases h2 with ⟨u, a1, a2, a3⟩ | ⟨a1, a2⟩ <;> rcases g2 with ⟨u', b1, b2, b3⟩ | ⟨b1, b2⟩
    · rw [w1.2.2.2.1.1] at a1
      have e := (nI_eq (by omega) (by omega)).mp (a2.symm.trans b2)
      subst e
      rw [a3, b3]; exact (w1.2.2.2.1.2 u (by rw [w1.2.2.2.1.1]; exact a1)).symm
    · exact absurd a2 (b1 u (by rw [← w1.2.2.2.1.1]; exact a1))
    · exact absurd b2 (a1 u' (by rw [w1.2.2.2.1.1]; exact b1))
    · rw [a2, b2]
  · exact absurd h1 (g1 j t)
  · exact absurd g1 (h1 j' t')
  · rw [h2, g2]

set_option maxHeartbeats 4000000 in
theorem pr_find (l : Launch) (D : va_G) {ca : Nat → ClassId} {M : mw_M} {sz x o : Nat} (hox : o = x + 14) (hI : Inv ca M x o) (k : Int32) : mw_C wsX8_find l yX8_find { frames := 3, cells := 0, slots := 0, locals := 66 } D vwCl (mt ca) [.ref x, .int k] M sz (mq_i (fun v1 M1 s1 => (∃ fs : List Value, M1 o = some (.inr (9, fs))) ∧ mw_C wsX9_find l yX9_find { frames := 2, cells := 0, slots := 0, locals := 43 } D vwCl (mt ca) [.ref o, .int k] M1 s1 (mq_i (fun v2 M2 s2 => (v2 = v1 ∧ Inv ca M2 x o))))) := by
  refine Inv.elim hI (fun th tr pz n nb ec lc nv fa np to f pa fb byt E en ek ef eg ev L ln lf lx ly ps pp si co ls1 ls2 psn sn V vcn VE vn vk vf vg vfv mn sh hF hP hO hC hS hL hR hZ hV hM hW hX hT hU => ?_)
  obtain ⟨vv, vve, hv1, hv2, hv3, hv4, hv5, hv6⟩ := id hV
  refine mw_C.imp (c_Pkg_find l D ca M sz x nv vv V vcn vve VE vn vk vf vg vfv n f k hF.1 hv1 hv2 hv3 hv4 hP.1 hP.2.1 hP.2.2.1) (fun _ v M1 s1 _ hq => ?_)
  obtain ⟨r1, rfl, rfl, rfl, hq⟩ := hq
  refine ⟨r1, rfl, ?_⟩
  refine ⟨⟨_, hF.2⟩, ?_⟩
  refine mw_C.imp (c_M_find l D ca M1 s1 o n nv th (nI nb) (nI ec) (nI lc) (nI fa) tr (nI to) pz (nI np) pa ps pp mn vcn (fun j t => psn (24 + 8 * j + t)) k hF.2 hP.2.2.2.1 hS.1 hS.2.1 hM.1 hv2 hM.2.2.1 hM.2.2.2 hP.2.2.1 (fun j t hj ht => ⟨((hW j t hj ht).1.1).1, ((hW j t hj ht).1.1).2.1⟩)) (fun _ v M2 s2 _ hq2 => ?_)
  obtain ⟨r2, rfl, hq2, rfl, rfl⟩ := hq2
  refine ⟨r2, rfl, ?_, Inv.quiet hox 0 hF hP hO hC hS hL hR hZ hV hM hW hX hT hU⟩
  rcases hq with ⟨j, h1, h2, h3⟩ | ⟨h1, h2⟩ <;> rcases hq2 with ⟨j', g1, g2, g3⟩ | ⟨g1, g2⟩
  · have e := (nI_eq (by omega) (by omega)).mp (h2.symm.trans g2)
    subst e
    have cg : ∀ t, t < vcn j → (same (vn j t) (vf j t) n f ↔ same (psn (24 + 8 * j + t)) (fun q => pp (24 * (24 + 8 * j + t) + q)) n pa) := fun t ht => by
      obtain ⟨w1, -⟩ := hW j t h1 ht
      have hb := w1.1.2.2
      constructor
      · intro q
        have e1 := w1.2.2.2.1
        refine ⟨e1.1.symm.trans q.1, fun i hi => ?_⟩
        have e2 := (e1.2 i (by rw [e1.1]; exact hi)).symm.trans (q.2 i (by rw [e1.1]; exact hi))
        have hin : i < n := by rw [← q.1, e1.1]; exact hi
        rw [hP.2.2.2.2.2 i hin] at e2
        exact byt_inj (hS.2.2.2.2.1 _ (by have := hM.2.2.2 j h1; have := w1.1.2.1; omega)) (hP.2.2.2.2.1 i (by have := hP.2.2.1; omega)) (by rw [← e2]; exact byt_sl (hS.2.2.2.2.1 _ (by have := hM.2.2.2 j h1; have := w1.1.2.1; omega)) (hb i hi))
      · intro q
        have e1 := w1.2.2.2.1
        refine ⟨e1.1.trans q.1, fun i hi => ?_⟩
        have hi2 : i < psn (24 + 8 * j + t) := by rw [← e1.1]; exact hi
        have hin : i < n := by rw [← q.1]; exact hi2
        rw [e1.2 i hi, hP.2.2.2.2.2 i hin, ← q.2 i hi2]
        exact (byt_sl (hS.2.2.2.2.1 _ (by have := hM.2.2.2 j h1; have := w1.1.2.1; omega)) (hb i hi2)).symm
    rcases h3 with ⟨i, a1, a2, a3, a4⟩ | ⟨a1, a2⟩ <;> rcases g3 with ⟨i', b1, b2, b3, b4⟩ | ⟨b1, b2⟩
    · rcases Nat.lt_trichotomy i i' with z | z | z
      · exact absurd ((cg i a1).mp a2) (b3 i z)
      · rw [a4, b4, z]
      · exact absurd ((cg i' b1).mpr b2) (a3 i' z)
    · exact absurd ((cg i a1).mp a2) (b1 i a1)
    · exact absurd ((cg i' b1).mpr b2) (a1 i' b1)
    · rw [a2, b2]
  · exact absurd h2 (g1 j h1)
  · exact absurd g2 (h1 j' g1)
  · rw [h2, g2]

set_option maxHeartbeats 4000000 in
theorem pr_same (l : Launch) (D : va_G) {ca : Nat → ClassId} {M : mw_M} {sz x o : Nat} (hox : o = x + 14) (hI : Inv ca M x o) (k : Int32) (k2 : Int32) : mw_C wsX8_same l yX8_same { frames := 5, cells := 0, slots := 0, locals := 110 } D vwCl (mt ca) [.ref x, .int k, .int k2] M sz (mq_i (fun v1 M1 s1 => (∃ fs : List Value, M1 o = some (.inr (9, fs))) ∧ mw_C wsX9_same l yX9_same { frames := 2, cells := 0, slots := 0, locals := 49 } D vwCl (mt ca) [.ref o, .int k, .int k2] M1 s1 (mq_i (fun v2 M2 s2 => (v2 = v1 ∧ Inv ca M2 x o))))) := by
  refine Inv.elim hI (fun th tr pz n nb ec lc nv fa np to f pa fb byt E en ek ef eg ev L ln lf lx ly ps pp si co ls1 ls2 psn sn V vcn VE vn vk vf vg vfv mn sh hF hP hO hC hS hL hR hZ hV hM hW hX hT hU => ?_)
  obtain ⟨vv, vve, hv1, hv2, hv3, hv4, hv5, hv6⟩ := id hV
  refine mw_C.imp (c_Pkg_same l D ca M sz x nv vv V vcn vve VE vn vk vf vg vfv k k2 hF.1 hv1 hv2 hv3 hv4) (fun _ v M1 s1 _ hq => ?_)
  obtain ⟨r1, rfl, rfl, rfl, hq⟩ := hq
  refine ⟨r1, rfl, ?_⟩
  refine ⟨⟨_, hF.2⟩, ?_⟩
  refine mw_C.imp (c_M_same l D ca M1 s1 o nv th (nI n) (nI nb) (nI ec) (nI lc) (nI fa) tr (nI to) pz (nI np) mn ps pp si co vcn psn sn k k2 hF.2 hM.1 hS.1 hS.2.1 hS.2.2.1 hS.2.2.2.1 hv2 hM.2.2.1 hM.2.2.2 (fun j t hj ht => (hW j t hj ht).1.1) (fun j t hj ht => ⟨(hW j t hj ht).1.2.1, (hW j t hj ht).1.2.2.1⟩)) (fun _ v M2 s2 _ hq2 => ?_)
  obtain ⟨r2, rfl, hq2, rfl, rfl⟩ := hq2
  refine ⟨r2, rfl, ?_, Inv.quiet hox 0 hF hP hO hC hS hL hR hZ hV hM hW hX hT hU⟩
  rcases hq with ⟨j, j2, h1, h2, h3, h4, h5⟩ | ⟨h1, h2⟩ <;> rcases hq2 with ⟨j', j2', g1, g2, g3, g4, g5⟩ | ⟨g1, g2⟩
  · have e := (nI_eq (by omega) (by omega)).mp (h3.symm.trans g3)
    have e2 := (nI_eq (by omega) (by omega)).mp (h4.symm.trans g4)
    subst e; subst e2
    rw [h5, g5]
    refine congrArg nI (cntP_congr (fun t ht => ?_)).symm
    have c1 := hM.2.2.2 j h1
    have c2 := hM.2.2.2 j2 h2
    obtain ⟨w1, -⟩ := hW j t h1 ht
    constructor
    · rintro ⟨i2, a1, a2, a3, a4⟩
      obtain ⟨w2, -⟩ := hW j2 i2 h2 a1
      exact ⟨i2, a1, (same_congr w2.2.2.2.1 w1.2.2.2.1).mp a2, fun q hq9 h9 => a3 q hq9 ((same_congr (hW j2 q h2 (by omega)).1.2.2.2.1 w1.2.2.2.1).mpr h9), (same_byt w2.2.2.2.2 w1.2.2.2.2 (fun q hq9 => hS.2.2.2.2.2 _ (by have := w2.2.2.1; omega)) (fun q hq9 => hS.2.2.2.2.2 _ (by have := w1.2.2.1; omega))).mp a4⟩
    · rintro ⟨i2, a1, a2, a3, a4⟩
      obtain ⟨w2, -⟩ := hW j2 i2 h2 a1
      exact ⟨i2, a1, (same_congr w2.2.2.2.1 w1.2.2.2.1).mpr a2, fun q hq9 h9 => a3 q hq9 ((same_congr (hW j2 q h2 (by omega)).1.2.2.2.1 w1.2.2.2.1).mp h9), (same_byt w2.2.2.2.2 w1.2.2.2.2 (fun q hq9 => hS.2.2.2.2.2 _ (by have := w2.2.2.1; omega)) (fun q hq9 => hS.2.2.2.2.2 _ (by have := w1.2.2.1; omega))).mpr a4⟩
  · rcases g1 with g1 | g1
    · exact absurd h3 (g1 j h1)
    · exact absurd h4 (g1 j2 h2)
  · rcases h1 with h1 | h1
    · exact absurd g3 (h1 j' g1)
    · exact absurd g4 (h1 j2' g2)
  · rw [h2, g2]

