set_option maxHeartbeats 4000000 in
theorem pr_accept (l : Launch) (D : va_G) {ca : Nat → ClassId} {M : mw_M} {sz x o : Nat} (hox : o = x + 14) (hI : Inv ca M x o) : mw_C wsX8_accept l yX8_accept { frames := 6, cells := 2, slots := 10, locals := 136 } D vwCl (mt ca) [.ref x] M sz (mq_i (fun v1 M1 s1 => (∃ fs : List Value, M1 o = some (.inr (9, fs))) ∧ mw_C wsX9_accept l yX9_accept { frames := 4, cells := 0, slots := 0, locals := 98 } D vwCl (mt ca) [.ref o] M1 s1 (mq_i (fun v2 M2 s2 => (v2 = v1 ∧ Inv ca M2 x o))))) := by
  refine Inv.elim hI (fun th tr pz n nb ec lc nv fa np to f pa fb byt E en ek ef eg ev L ln lf lx ly ps pp si co ls1 ls2 psn sn V vcn VE vn vk vf vg vfv mn sh hF hP hO hC hS hL hR hZ hV hM hW hX hT hU => ?_)
  obtain ⟨ce, xl, q1, q2, q3, q4, q5, q6, q7, q8, q9, qa, qb, qc, qd⟩ := id hC
  obtain ⟨vv, vve, hv1, hv2, hv3, hv4, hv5, hv6⟩ := id hV
  obtain ⟨zn, zf, zg, fk, fo, hz1, hz2, hz3, hz4, hz5, hz6, hz7⟩ := id hZ
  obtain ⟨K, hK⟩ := K_ex ec en ek ef eg ln lf lx ly
  obtain ⟨H, hH⟩ := H_ex en ef lc ln lf
  obtain ⟨G, pn, pk, pf, pg, pv, ow, hp0, hp1⟩ := pk_ex nv ec vcn VE vn vk vf vg vfv E en ek ef eg
  have hpk := pckd_of hp0 hp1
  have hnz : nz K lc + nz H ec ≤ 24 := by have := nz_le K lc; have := nz_le H ec; omega
  refine mw_C.imp (c_Pkg_accept l D ca M sz x nv vv V vcn vve VE vn vk vf vg vfv ec lc ce xl E en ek ef eg ev L ln lf lx ly zn zf zg K H G pn pk pf pg pv ow hF.1 hv1 hv2 hv3 hv4 q1 q2 q3 q4 q5 q6 q7 q8 q9 hz1 hz2 hz3 hz4 qa qb (fun i _ => hK i) (fun i _ => hH i) hv5 hv6 hX qc qd hp0 hp1) (fun hlt v M1 s1 _ hq => ?_)
  obtain ⟨r1, rfl, hq⟩ := hq
  refine ⟨r1, rfl, ?_⟩
  have hs : x + 30 ≤ sz := by
    obtain ⟨fl, q⟩ := hU
    have := hlt _ _ q
    omega
  have k1 : kpt M M1 (fun a => a < x + 30 ∧ a ≠ x ∧ a ≠ x + 5 ∧ a ≠ x + 8 ∧ a ≠ x + 8 + 1 ∧ a ≠ x + 8 + 2 ∧ a ≠ x + 11) := by
    rcases hq with ⟨_, _, _, f1, g1, e, _⟩ | ⟨_, _, _, _, f1, g1, e, _⟩ | ⟨_, _, _, _, _, f1, g1, e, _⟩ | ⟨_, _, _, _, _, ve', si', hfr, _⟩
    · rw [e]; exact ((((kpt_rf _ _).u (by simp)).u (by simp)).u (by simp))
    · rw [e]; exact ((((kpt_rf _ _).u (by simp)).u (by simp)).u (by simp))
    · rw [e]; exact ((((kpt_rf _ _).u (by simp)).u (by simp)).u (by simp))
    · exact fun a e h1 h2 => (hfr a (hlt a e h1) h2.2.1 h2.2.2.1 h2.2.2.2.1 h2.2.2.2.2.1 h2.2.2.2.2.2.1 h2.2.2.2.2.2.2 (fun j hj _ => by have := qa j hj; have := h2.1; omega)).trans h1
  refine ⟨⟨_, (k1 _ _ hF.2 (by (try dsimp only); omega))⟩, ?_⟩
  refine mw_C.imp (c_M_accept l D ca M1 s1 o ec lc nv th (nI n) (nI nb) (nI fa) tr (nI to) pz (nI np) ps pp si co ls1 ls2 mn sh fk fo psn sn vcn K H (k1 _ _ hF.2 (by (try dsimp only); omega)) (k1 _ _ hS.1 (by (try dsimp only); omega)) (k1 _ _ hS.2.1 (by (try dsimp only); omega)) (k1 _ _ hS.2.2.1 (by (try dsimp only); omega)) (k1 _ _ hS.2.2.2.1 (by (try dsimp only); omega)) (k1 _ _ hL.1 (by (try dsimp only); omega)) (k1 _ _ hL.2 (by (try dsimp only); omega)) (k1 _ _ hM.1 (by (try dsimp only); omega)) (k1 _ _ hM.2.1 (by (try dsimp only); omega)) (k1 _ _ hz5 (by (try dsimp only); omega)) (k1 _ _ hz6 (by (try dsimp only); omega)) q4 q5 (fun k hk => (hR.1 k hk).1) (fun k hk => (hR.2 k hk).1) (fun k hk => ⟨(hR.1 k hk).2.1, (hR.1 k hk).2.2.1⟩) (hR.K hK) (hR.H hH) hv2 hM.2.2.1 hM.2.2.2 (fun j t hj ht => (hW j t hj ht).1.1) (fun j t hj ht => ⟨(hW j t hj ht).1.2.1, (hW j t hj ht).1.2.2.1⟩) hS.2.2.2.2.1 hS.2.2.2.2.2) (fun _ v M2 s2 _ hq2 => ?_)
  obtain ⟨r2, rfl, hq2, rfl⟩ := hq2
  refine ⟨r2, rfl, ?_⟩
  rcases hq with ⟨a0, a1, _, f1, g1, hM1, -⟩ | ⟨a0, a2, a1, _, f1, g1, hM1, -⟩ | ⟨a0, a2, a3, a1, _, f1, g1, hM1, -⟩ | ⟨a0, a2, a3, a1, a4, ve', si', hfr, hE9, hm1, hm2, hsi, hinj, hsort, hx9, hq59, hv119, f1, g1, hz8, hz81, hz82⟩
  · obtain ⟨b0, b1, f2, g2, hM2, -⟩ := hq2.resolve_right (fun q => by rcases q with q | q | q <;> omega)
    have k1 : kpt M M1 (fun a => a ≠ x + 8 + 1 ∧ a ≠ x + 8 + 2 ∧ a ≠ x + 8) := by rw [hM1]; exact ((((kpt_rf _ _).u (by simp)).u (by simp)).u (by simp))
    have k2 : kpt M1 M2 (fun a => a ≠ o + 11 ∧ a ≠ o + 12 ∧ a ≠ o) := by rw [hM2]; exact ((((kpt_rf _ _).u (by simp)).u (by simp)).u (by simp))
    have kk : kpt M M2 (fun a => a ≠ x + 8 + 1 ∧ a ≠ x + 8 + 2 ∧ a ≠ x + 8 ∧ a ≠ o + 11 ∧ a ≠ o + 12 ∧ a ≠ o) := (k1.sub (fun a ha => by (try dsimp only at ha ⊢); omega)).tr (k2.sub (fun a ha => by (try dsimp only at ha ⊢); omega))
    exact ⟨by rw [a1, b1], Inv.mk (fa := nz K lc + nz H ec) ⟨kk _ _ hF.1 (by (try dsimp only); omega), by rw [hM2]; exact mw_us⟩ (hP.up (kk.sub (fun a ha => by (try dsimp only at ha ⊢); omega))) (hO.up (kk.sub (fun a ha => by (try dsimp only at ha ⊢); omega))) (hC.up (kk.sub (fun a ha => by (try dsimp only at ha ⊢); omega))) (hS.up (kk.sub (fun a ha => by (try dsimp only at ha ⊢); omega))) (hL.up (kk.sub (fun a ha => by (try dsimp only at ha ⊢); omega))) hR ⟨nz K lc + nz H ec, f1, g1, f2, g2, k2 _ _ (by rw [hM1]; exact mw_us) (by (try dsimp only); omega), k2 _ _ (by rw [hM1]; exact (mw_un (by omega)).trans ((mw_un (by omega)).trans mw_us)) (by (try dsimp only); omega), k2 _ _ (by rw [hM1]; exact (mw_un (by omega)).trans mw_us) (by (try dsimp only); omega), hnz, by rw [hM2]; exact (mw_un (by omega)).trans ((mw_un (by omega)).trans mw_us), by rw [hM2]; exact (mw_un (by omega)).trans mw_us, hnz⟩ (hV.up (kk.sub (fun a ha => by (try dsimp only at ha ⊢); omega))) (hM.up (kk.sub (fun a ha => by (try dsimp only at ha ⊢); omega))) hW hX (hT.up (kk.sub (fun a ha => by (try dsimp only at ha ⊢); omega))) (hU.up (kk.sub (fun a ha => by (try dsimp only at ha ⊢); omega)))⟩
  · obtain ⟨b0, b2, b1, f2, g2, hM2, -⟩ := (hq2.resolve_left (fun q => by omega)).resolve_right (fun q => by rcases q with q | q <;> omega)
    have k1 : kpt M M1 (fun a => a ≠ x + 8 + 1 ∧ a ≠ x + 8 + 2 ∧ a ≠ x + 8) := by rw [hM1]; exact ((((kpt_rf _ _).u (by simp)).u (by simp)).u (by simp))
    have k2 : kpt M1 M2 (fun a => a ≠ o + 11 ∧ a ≠ o + 12 ∧ a ≠ o) := by rw [hM2]; exact ((((kpt_rf _ _).u (by simp)).u (by simp)).u (by simp))
    have kk : kpt M M2 (fun a => a ≠ x + 8 + 1 ∧ a ≠ x + 8 + 2 ∧ a ≠ x + 8 ∧ a ≠ o + 11 ∧ a ≠ o + 12 ∧ a ≠ o) := (k1.sub (fun a ha => by (try dsimp only at ha ⊢); omega)).tr (k2.sub (fun a ha => by (try dsimp only at ha ⊢); omega))
    exact ⟨by rw [a1, b1], Inv.mk (fa := nz K lc + nz H ec) ⟨kk _ _ hF.1 (by (try dsimp only); omega), by rw [hM2]; exact mw_us⟩ (hP.up (kk.sub (fun a ha => by (try dsimp only at ha ⊢); omega))) (hO.up (kk.sub (fun a ha => by (try dsimp only at ha ⊢); omega))) (hC.up (kk.sub (fun a ha => by (try dsimp only at ha ⊢); omega))) (hS.up (kk.sub (fun a ha => by (try dsimp only at ha ⊢); omega))) (hL.up (kk.sub (fun a ha => by (try dsimp only at ha ⊢); omega))) hR ⟨nz K lc + nz H ec, f1, g1, f2, g2, k2 _ _ (by rw [hM1]; exact mw_us) (by (try dsimp only); omega), k2 _ _ (by rw [hM1]; exact (mw_un (by omega)).trans ((mw_un (by omega)).trans mw_us)) (by (try dsimp only); omega), k2 _ _ (by rw [hM1]; exact (mw_un (by omega)).trans mw_us) (by (try dsimp only); omega), hnz, by rw [hM2]; exact (mw_un (by omega)).trans ((mw_un (by omega)).trans mw_us), by rw [hM2]; exact (mw_un (by omega)).trans mw_us, hnz⟩ (hV.up (kk.sub (fun a ha => by (try dsimp only at ha ⊢); omega))) (hM.up (kk.sub (fun a ha => by (try dsimp only at ha ⊢); omega))) hW hX (hT.up (kk.sub (fun a ha => by (try dsimp only at ha ⊢); omega))) (hU.up (kk.sub (fun a ha => by (try dsimp only at ha ⊢); omega)))⟩
  · obtain ⟨b0, b2, b3, b1, f2, g2, hM2, -⟩ := ((hq2.resolve_left (fun q => by omega)).resolve_left (fun q => by omega)).resolve_right (fun q => by omega)
    have k1 : kpt M M1 (fun a => a ≠ x + 8 + 1 ∧ a ≠ x + 8 + 2 ∧ a ≠ x + 8) := by rw [hM1]; exact ((((kpt_rf _ _).u (by simp)).u (by simp)).u (by simp))
    have k2 : kpt M1 M2 (fun a => a ≠ o + 11 ∧ a ≠ o + 12 ∧ a ≠ o) := by rw [hM2]; exact ((((kpt_rf _ _).u (by simp)).u (by simp)).u (by simp))
    have kk : kpt M M2 (fun a => a ≠ x + 8 + 1 ∧ a ≠ x + 8 + 2 ∧ a ≠ x + 8 ∧ a ≠ o + 11 ∧ a ≠ o + 12 ∧ a ≠ o) := (k1.sub (fun a ha => by (try dsimp only at ha ⊢); omega)).tr (k2.sub (fun a ha => by (try dsimp only at ha ⊢); omega))
    exact ⟨by rw [a1, b1], Inv.mk (fa := nz K lc + nz H ec) ⟨kk _ _ hF.1 (by (try dsimp only); omega), by rw [hM2]; exact mw_us⟩ (hP.up (kk.sub (fun a ha => by (try dsimp only at ha ⊢); omega))) (hO.up (kk.sub (fun a ha => by (try dsimp only at ha ⊢); omega))) (hC.up (kk.sub (fun a ha => by (try dsimp only at ha ⊢); omega))) (hS.up (kk.sub (fun a ha => by (try dsimp only at ha ⊢); omega))) (hL.up (kk.sub (fun a ha => by (try dsimp only at ha ⊢); omega))) hR ⟨nz K lc + nz H ec, f1, g1, f2, g2, k2 _ _ (by rw [hM1]; exact mw_us) (by (try dsimp only); omega), k2 _ _ (by rw [hM1]; exact (mw_un (by omega)).trans ((mw_un (by omega)).trans mw_us)) (by (try dsimp only); omega), k2 _ _ (by rw [hM1]; exact (mw_un (by omega)).trans mw_us) (by (try dsimp only); omega), hnz, by rw [hM2]; exact (mw_un (by omega)).trans ((mw_un (by omega)).trans mw_us), by rw [hM2]; exact (mw_un (by omega)).trans mw_us, hnz⟩ (hV.up (kk.sub (fun a ha => by (try dsimp only at ha ⊢); omega))) (hM.up (kk.sub (fun a ha => by (try dsimp only at ha ⊢); omega))) hW hX (hT.up (kk.sub (fun a ha => by (try dsimp only at ha ⊢); omega))) (hU.up (kk.sub (fun a ha => by (try dsimp only at ha ⊢); omega)))⟩
  · obtain ⟨b0, b2, b3, b1, f9, g9, ps1, pp1, si1, co1, sh1, hac, hM2⟩ := ((hq2.resolve_left (fun q => by omega)).resolve_left (fun q => by omega)).resolve_left (fun q => by omega)
    have k2 : kpt M1 M2 (fun a => a ≠ o + 11 ∧ a ≠ o + 12 ∧ a ≠ o ∧ a ≠ o + 3 ∧ a ≠ o + 4 ∧ a ≠ o + 5 ∧ a ≠ o + 6 ∧ a ≠ o + 10 ∧ a ≠ o + 9) := by rw [hM2]; exact (((((((((((kpt_rf _ _).u (by simp)).u (by simp)).u (by simp)).u (by simp)).u (by simp)).u (by simp)).u (by simp)).u (by simp)).u (by simp)).u (by simp))
    have kk : kpt M M2 (fun a => (a < x + 14 ∨ a = x + 29 ∨ o + 13 ≤ a ∧ a < x + 30 ∨ a = o + 1 ∨ a = o + 2 ∨ a = o + 7 ∨ a = o + 8) ∧ a ≠ x ∧ a ≠ x + 5 ∧ a ≠ x + 8 ∧ a ≠ x + 8 + 1 ∧ a ≠ x + 8 + 2 ∧ a ≠ x + 11) := (k1.sub (fun a ha => by (try dsimp only at ha ⊢); omega)).tr (k2.sub (fun a ha => by (try dsimp only at ha ⊢); omega))
    have kE : ∀ (b : Nat) (e9 : va_E), M b = some e9 → x + 30 ≤ b → (∀ fs, e9 ≠ .inr (2, fs)) → M2 b = some e9 := fun b e9 h1 h2 h3 =>
      k2 _ _ ((hfr b (hlt b e9 h1) (by omega) (by omega) (by omega) (by omega) (by omega) (by omega) (fun j hj _ e => by
        rw [e, (q7 j hj).1] at h1
        exact h3 _ (Option.some.inj h1).symm)).trans h1) (by (try dsimp only); omega)
    have kV : ∀ j i, j < nv → i < vcn j → isEnt ca M2 (VE j i) (vn j i) (vf j i) (vk j i) (vg j i) (vfv j i) := fun j i hj hi => by
      have z := (hv4 j hj).2.2.2.2 i hi
      have z3 := hv6 j i hj hi
      exact z.upk2 z3 kE (k2 _ _ ((hfr _ (hlt _ _ z.1) (by omega) (by omega) (by omega) (by omega) (by omega) (by omega) (fun t ht _ => hX j i t hj hi ht)).trans z.1) (by (try dsimp only); omega))
    have kN : ∀ j, j < ec → isEnt ca M2 (G j) (pn j) (pf j) (pk j) (pg j) (pv j) ∧ x + 30 ≤ G j := fun j hj => by
      rcases hpk j hj with ⟨c1, c2, c3, c4, c5, c6, c7, -⟩ | ⟨c1, t, i2, c0, c2, c3, c4, c5, c6, c7, c8⟩
      · rw [c2, c3, c4, c5, c6, c7]
        have z3 := qa j hj
        exact ⟨(q7 j hj).upk2 z3 kE (k2 _ _ (hE9 j hj c1) (by (try dsimp only); omega)), z3⟩
      · rw [c3, c4, c5, c6, c7, c8]
        exact ⟨kV t i2 (by omega) c2.1, hv6 t i2 (by omega) c2.1⟩
    refine ⟨by rw [a1, b1], Inv.mk (fa := nz K lc + nz H ec) (nv := nv + 1) (ec := 0) (lc := 0) (V := va_up V nv sz) (VE := va_up VE nv (fun p => G (si' p))) (mn := upd mn nv (nI ec)) ⟨k2 _ _ hx9 (by (try dsimp only); omega), (by rw [hM2]; exact mw_us)⟩ (hP.up (kk.sub (fun a ha => by (try dsimp only at ha ⊢); omega))) (hO.up (kk.sub (fun a ha => by (try dsimp only at ha ⊢); omega))) (gC.zero E en ek ef eg ev L ln lf lx ly (k2 _ _ hq59 (by (try dsimp only); omega)) (kk _ _ q2 (by (try dsimp only); omega)) (kk _ _ q3 (by (try dsimp only); omega))) ⟨(by rw [hM2]; exact (mw_un (by omega)).trans ((mw_un (by omega)).trans ((mw_un (by omega)).trans ((mw_un (by omega)).trans ((mw_un (by omega)).trans ((mw_un (by omega)).trans (mw_us))))))), (by rw [hM2]; exact (mw_un (by omega)).trans ((mw_un (by omega)).trans ((mw_un (by omega)).trans ((mw_un (by omega)).trans ((mw_un (by omega)).trans (mw_us)))))), (by rw [hM2]; exact (mw_un (by omega)).trans ((mw_un (by omega)).trans ((mw_un (by omega)).trans ((mw_un (by omega)).trans (mw_us))))), (by rw [hM2]; exact (mw_un (by omega)).trans ((mw_un (by omega)).trans ((mw_un (by omega)).trans (mw_us)))), hac.1.2.2.2.1, hac.1.2.2.2.2⟩ (hL.up (kk.sub (fun a ha => by (try dsimp only at ha ⊢); omega))) gR_0 ⟨0, f1, g1, f9, g9, k2 _ _ hz8 (by (try dsimp only); omega), k2 _ _ hz81 (by (try dsimp only); omega), k2 _ _ hz82 (by (try dsimp only); omega), by omega, (by rw [hM2]; exact (mw_un (by omega)).trans ((mw_un (by omega)).trans ((mw_un (by omega)).trans ((mw_un (by omega)).trans ((mw_un (by omega)).trans ((mw_un (by omega)).trans ((mw_un (by omega)).trans ((mw_un (by omega)).trans ((mw_un (by omega)).trans (mw_us)))))))))), (by rw [hM2]; exact (mw_un (by omega)).trans ((mw_un (by omega)).trans ((mw_un (by omega)).trans ((mw_un (by omega)).trans ((mw_un (by omega)).trans ((mw_un (by omega)).trans ((mw_un (by omega)).trans ((mw_un (by omega)).trans (mw_us))))))))), hnz⟩ ⟨va_up vv nv (some sz), va_up vve nv ve', k2 _ _ hv119 (by (try dsimp only); omega), by omega, ?_, ?_, ?_, ?_⟩ ⟨(by rw [hM2]; exact (mw_un (by omega)).trans (mw_us)), (by rw [hM2]; exact (mw_un (by omega)).trans ((mw_un (by omega)).trans (mw_us))), ?_, ?_⟩ (acc_pure hR hW a2 a3 hM.2.2.2 hS.2.2.2.2.2 hac (fun p hp => (hsi p hp).1) hsort hpk) (fun j i t _ _ ht => absurd ht (Nat.not_lt_zero t)) ?_ (hU.up (kk.sub (fun a ha => by (try dsimp only at ha ⊢); omega)))⟩
    · intro j hj
      by_cases e : j = nv
      · subst e
        rw [va_up_self, va_up_self]
      · have hj' : j < nv := by omega
        rw [va_up_ne _ _ e, va_up_ne _ _ e]; exact hv3 j hj'
    · intro j hj
      by_cases e : j = nv
      · subst e
        rw [va_up_self, va_up_self, va_up_self, va_up_self, va_up_self, va_up_self, va_up_self, va_up_self, va_up_self]
        exact ⟨k2 _ _ hm1 (by (try dsimp only); omega), k2 _ _ hm2 (by (try dsimp only); omega), a3, fun i hi => (hsi i hi).2, fun i hi => (kN (si' i) (hsi i hi).1).1⟩
      · have hj' : j < nv := by omega
        rw [va_up_ne _ _ e, va_up_ne _ _ e, va_up_ne _ _ e, va_up_ne _ _ e, va_up_ne _ _ e, va_up_ne _ _ e, va_up_ne _ _ e, va_up_ne _ _ e, va_up_ne _ _ e]
        have z := hv4 j hj'
        have z5 := hv5 j hj'
        exact ⟨kE _ _ z.1 z5 (by intro fs; simp), kE _ _ z.2.1 (by omega) (by intro fs; simp), z.2.2.1, z.2.2.2.1, fun i hi => kV j i hj' hi⟩
    · intro j hj
      by_cases e : j = nv
      · subst e
        rw [va_up_self]; exact hs
      · have hj' : j < nv := by omega
        rw [va_up_ne _ _ e]; exact hv5 j hj'
    · intro j i hj hi
      by_cases e : j = nv
      · subst e
        rw [va_up_self] at hi ⊢; exact (kN (si' i) (hsi i hi).1).2
      · have hj' : j < nv := by omega
        rw [va_up_ne _ _ e] at hi ⊢; exact hv6 j i hj' hi
    · intro j hj
      by_cases e : j = nv
      · subst e
        rw [upd_self, va_up_self]
      · have hj' : j < nv := by omega
        rw [upd_ne _ _ e, va_up_ne _ _ e]; exact hM.2.2.1 j hj'
    · intro j hj
      by_cases e : j = nv
      · subst e
        rw [va_up_self]; exact a3
      · have hj' : j < nv := by omega
        rw [va_up_ne _ _ e]; exact hM.2.2.2 j hj'
    · obtain ⟨src, h, hr, jo, t1, t2, t3, t4, t5, t6, t7, t8⟩ := hT
      refine ⟨src, h, hr, jo, kk _ _ t1 (by (try dsimp only); omega), kk _ _ t2 (by (try dsimp only); omega), kk _ _ t3 (by (try dsimp only); omega), kk _ _ t4 (by (try dsimp only); omega), t5, t6, t7, ?_⟩
      rcases t8 with t8 | ⟨e0, j, e1, e2, e3, e4⟩
      · exact Or.inl t8
      · have e : j ≠ nv := by omega
        refine Or.inr ⟨e0, j, by omega, ?_⟩
        rw [va_up_ne _ _ e, va_up_ne _ _ e, va_up_ne _ _ e, va_up_ne _ _ e]
        exact ⟨e2, e3, e4⟩

