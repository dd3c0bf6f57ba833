set_option maxHeartbeats 4000000 in
theorem pr_file (l : Launch) (D : va_G) {ca : Nat → ClassId} {M : mw_M} {sz x o : Nat} (hox : o = x + 14) (hI : Inv ca M x o) : mw_C wsX8_file l yX8_file { frames := 5, cells := 5, slots := 88, locals := 111 } D vwCl (mt ca) [.ref x] M sz (mq_i (fun v1 M1 s1 => (∃ fs : List Value, M1 o = some (.inr (9, fs))) ∧ mw_C wsX9_file l yX9_file { frames := 3, cells := 0, slots := 0, locals := 74 } D vwCl (mt ca) [.ref o] M1 s1 (mq_i (fun v2 M2 s2 => (v2 = v1 ∧ Inv ca M2 x o))))) := by
  refine Inv.elim hI (fun th tr pz n nb ec lc nv fa np to f pa fb byt E en ek ef eg ev L ln lf lx ly ps pp si co ls1 ls2 psn sn V vcn VE vn vk vf vg vfv mn sh hF hP hO hC hS hL hR hZ hV hM hW hX hT hU => ?_)
  obtain ⟨ce, xl, q1, q2, q3, q4, q5, q6, q7, q8, q9, qa, qb, qc, qd⟩ := id hC
  have hpe : isPathB (fun k => pa k &&& 255) n = isPathB f n := isPathB_congr (fun k hk => (hP.2.2.2.2.2 k hk).symm)
  refine mw_C.imp (c_Pkg_file l D ca M sz x nv n f nb fb ec lc ce xl hF.1 hP.1 hP.2.1 hP.2.2.1 hO.1 hO.2.1 hO.2.2.1 q1 q2 q3 q4 q5) (fun hlt v M1 s1 _ hq => ?_)
  obtain ⟨r1, rfl, M0, hq, hM1⟩ := hq
  refine ⟨r1, rfl, ?_⟩
  have hs : x + 30 ≤ sz := by
    obtain ⟨fl, q⟩ := hU
    have := hlt _ _ q
    omega
  have p1 : M1 (x + 1) = some (.inr (5, [.ref (x + 1 + 1), .int (nI 0)])) := by rw [hM1]; exact (mw_un (by omega)).trans mw_us
  have p3 : M1 (x + 3) = some (.inr (5, [.ref (x + 3 + 1), .int (nI 0)])) := by rw [hM1]; exact mw_us
  have k0 : kpt M M0 (fun a => a ≠ x + 5 ∧ a ≠ x + 5 + 1) := by
    rcases hq with ⟨_, _, e, _⟩ | ⟨_, _, _, e, _⟩ | ⟨_, _, _, _, _, _, hfr, _⟩
    · rw [e]; exact kpt_rf _ _
    · rw [e]; exact kpt_rf _ _
    · exact fun a e h1 h2 => (hfr a (hlt a e h1) h2.1 h2.2).trans h1
  have k01 : kpt M0 M1 (fun a => a ≠ x + 1 ∧ a ≠ x + 3) := by rw [hM1]; exact (((kpt_rf _ _).u (by simp)).u (by simp))
  have k1 : kpt M M1 (fun a => a ≠ x + 5 ∧ a ≠ x + 5 + 1 ∧ a ≠ x + 1 ∧ a ≠ x + 3) := (k0.sub (fun a ha => by (try dsimp only at ha ⊢); omega)).tr (k01.sub (fun a ha => by (try dsimp only at ha ⊢); omega))
  refine ⟨⟨_, (k1 _ _ hF.2 (by (try dsimp only); omega))⟩, ?_⟩
  refine mw_C.imp (c_M_file l D ca M1 s1 o n nb ec th (nI lc) (nI nv) (nI fa) tr (nI to) pz (nI np) pa byt ps pp si co (k1 _ _ hF.2 (by (try dsimp only); omega)) (k1 _ _ hP.2.2.2.1 (by (try dsimp only); omega)) (k1 _ _ hO.2.2.2.1 (by (try dsimp only); omega)) (k1 _ _ hS.1 (by (try dsimp only); omega)) (k1 _ _ hS.2.1 (by (try dsimp only); omega)) (k1 _ _ hS.2.2.1 (by (try dsimp only); omega)) (k1 _ _ hS.2.2.2.1 (by (try dsimp only); omega)) hP.2.2.1 hP.2.2.2.2.1 hO.2.2.2.2.1 hO.2.2.1 q4) (fun _ v M2 s2 _ hq2 => ?_)
  obtain ⟨r2, rfl, rfl, hq2⟩ := hq2
  rw [hpe] at hq2
  refine ⟨r2, rfl, ?_⟩
  rcases hq with ⟨a1, a2, a3, a4⟩ | ⟨a1, a2, a3, a4, a5⟩ | ⟨a1, a2, a3, a4, a5, a6, a7, a8⟩
  · rcases hq2 with ⟨b1, b2, b3⟩ | ⟨b1, _⟩ | ⟨b1, _⟩
    · have kq : kpt M M1 (fun a => a ≠ x + 1 ∧ a ≠ x + 3) := by rw [a3] at k01; exact k01
      have k2 : kpt M1 M2 (fun a => a ≠ o) := by rw [b3]; exact ((kpt_rf _ _).u (by simp))
      have kk : kpt M M2 (fun a => a ≠ x + 1 ∧ a ≠ x + 3 ∧ a ≠ o) := (kq.sub (fun a ha => by (try dsimp only at ha ⊢); omega)).tr (k2.sub (fun a ha => by (try dsimp only at ha ⊢); omega))
      exact ⟨by rw [a2, b2], Inv.mk (n := 0) (nb := 0) ⟨kk _ _ hF.1 (by (try dsimp only); omega), by rw [b3]; exact mw_us⟩ ⟨k2 _ _ p1 (by (try dsimp only); omega), kk _ _ hP.2.1 (by (try dsimp only); omega), by omega, kk _ _ hP.2.2.2.1 (by (try dsimp only); omega), hP.2.2.2.2.1, fun k hk => absurd hk (by omega)⟩ ⟨k2 _ _ p3 (by (try dsimp only); omega), kk _ _ hO.2.1 (by (try dsimp only); omega), by omega, kk _ _ hO.2.2.2.1 (by (try dsimp only); omega), hO.2.2.2.2.1, fun k hk => absurd hk (by omega)⟩ (hC.up (kk.sub (fun a ha => by (try dsimp only at ha ⊢); omega))) (hS.up (kk.sub (fun a ha => by (try dsimp only at ha ⊢); omega))) (hL.up (kk.sub (fun a ha => by (try dsimp only at ha ⊢); omega))) hR (hZ.up (kk.sub (fun a ha => by (try dsimp only at ha ⊢); omega))) (hV.up (kk.sub (fun a ha => by (try dsimp only at ha ⊢); omega))) (hM.up (kk.sub (fun a ha => by (try dsimp only at ha ⊢); omega))) hW hX (hT.up (kk.sub (fun a ha => by (try dsimp only at ha ⊢); omega))) (hU.up (kk.sub (fun a ha => by (try dsimp only at ha ⊢); omega)))⟩
    · exact absurd (a1.symm.trans b1) (by simp)
    · exact absurd (a1.symm.trans b1) (by simp)
  · rcases hq2 with ⟨b1, _⟩ | ⟨b1, b2, b3, b4⟩ | ⟨b1, b2, _⟩
    · exact absurd (b1.symm.trans a1) (by simp)
    · have kq : kpt M M1 (fun a => a ≠ x + 1 ∧ a ≠ x + 3) := by rw [a4] at k01; exact k01
      have k2 : kpt M1 M2 (fun a => a ≠ o) := by rw [b4]; exact ((kpt_rf _ _).u (by simp))
      have kk : kpt M M2 (fun a => a ≠ x + 1 ∧ a ≠ x + 3 ∧ a ≠ o) := (kq.sub (fun a ha => by (try dsimp only at ha ⊢); omega)).tr (k2.sub (fun a ha => by (try dsimp only at ha ⊢); omega))
      exact ⟨by rw [a3, b3], Inv.mk (n := 0) (nb := 0) ⟨kk _ _ hF.1 (by (try dsimp only); omega), by rw [b4]; exact mw_us⟩ ⟨k2 _ _ p1 (by (try dsimp only); omega), kk _ _ hP.2.1 (by (try dsimp only); omega), by omega, kk _ _ hP.2.2.2.1 (by (try dsimp only); omega), hP.2.2.2.2.1, fun k hk => absurd hk (by omega)⟩ ⟨k2 _ _ p3 (by (try dsimp only); omega), kk _ _ hO.2.1 (by (try dsimp only); omega), by omega, kk _ _ hO.2.2.2.1 (by (try dsimp only); omega), hO.2.2.2.2.1, fun k hk => absurd hk (by omega)⟩ (hC.up (kk.sub (fun a ha => by (try dsimp only at ha ⊢); omega))) (hS.up (kk.sub (fun a ha => by (try dsimp only at ha ⊢); omega))) (hL.up (kk.sub (fun a ha => by (try dsimp only at ha ⊢); omega))) hR (hZ.up (kk.sub (fun a ha => by (try dsimp only at ha ⊢); omega))) (hV.up (kk.sub (fun a ha => by (try dsimp only at ha ⊢); omega))) (hM.up (kk.sub (fun a ha => by (try dsimp only at ha ⊢); omega))) hW hX (hT.up (kk.sub (fun a ha => by (try dsimp only at ha ⊢); omega))) (hU.up (kk.sub (fun a ha => by (try dsimp only at ha ⊢); omega)))⟩
    · omega
  · rcases hq2 with ⟨b1, _⟩ | ⟨b1, b2, _⟩ | ⟨b1, b2, b3, b4, b5, b6, b7, b8, b9⟩
    · exact absurd (b1.symm.trans a1) (by simp)
    · omega
    · have k2 : kpt M1 M2 (fun a => a ≠ o ∧ a ≠ o + 3 ∧ a ≠ o + 4 ∧ a ≠ o + 5 ∧ a ≠ o + 6) := fun a e h1 h2 => (b9 a h2.1 h2.2.1 h2.2.2.1 h2.2.2.2.1 h2.2.2.2.2).trans h1
      have k02 : kpt M0 M2 (fun a => a ≠ x + 1 ∧ a ≠ x + 3 ∧ a ≠ o ∧ a ≠ o + 3 ∧ a ≠ o + 4 ∧ a ≠ o + 5 ∧ a ≠ o + 6) := (k01.sub (fun a ha => by (try dsimp only at ha ⊢); omega)).tr (k2.sub (fun a ha => by (try dsimp only at ha ⊢); omega))
      have kk : kpt M M2 (fun a => a ≠ x + 5 ∧ a ≠ x + 5 + 1 ∧ a ≠ x + 1 ∧ a ≠ x + 3 ∧ a ≠ o ∧ a ≠ o + 3 ∧ a ≠ o + 4 ∧ a ≠ o + 5 ∧ a ≠ o + 6) := (k0.sub (fun a ha => by (try dsimp only at ha ⊢); omega)).tr (k02.sub (fun a ha => by (try dsimp only at ha ⊢); omega))
      have hn24 := (isPathB_le a1).2
      obtain ⟨z1, z2, z3⟩ := slN_new (ps := ps) (pp := pp) (psn := psn) (s := ec) a1 hP.2.2.2.2.1 hP.2.2.2.2.2
      have hElt : ∀ i, i < ec → E i < sz := fun i hi => hlt _ _ (q7 i hi).1
      refine ⟨by rw [a3, b3], Inv.mk (n := 0) (nb := 0) (ec := ec + 1) (E := va_up E ec sz) (en := va_up en ec n) (ek := va_up ek ec nb) (ef := va_up ef ec (cut f n)) (eg := va_up eg ec (cut fb nb)) (ev := va_up ev ec (-1)) (psn := va_up psn ec n) (sn := va_up sn ec nb) (L := L) (ln := ln) (lf := lf) (lx := lx) (ly := ly) ⟨kk _ _ hF.1 (by (try dsimp only); omega), b4⟩ ⟨k2 _ _ p1 (by (try dsimp only); omega), kk _ _ hP.2.1 (by (try dsimp only); omega), by omega, kk _ _ hP.2.2.2.1 (by (try dsimp only); omega), hP.2.2.2.2.1, fun k hk => absurd hk (by omega)⟩ ⟨k2 _ _ p3 (by (try dsimp only); omega), kk _ _ hO.2.1 (by (try dsimp only); omega), by omega, kk _ _ hO.2.2.2.1 (by (try dsimp only); omega), hO.2.2.2.2.1, fun k hk => absurd hk (by omega)⟩ ⟨va_up ce ec (some sz), xl, k02 _ _ a6 (by (try dsimp only); omega), k02 _ _ a5 (by (try dsimp only); omega), kk _ _ q3 (by (try dsimp only); omega), by omega, q5, ?_, ?_, q8, ?_, ?_, qb, ?_, ?_⟩ ⟨b5, b6, b7, b8, cpy_b hP.2.2.2.2.1 hP.2.2.1 hS.2.2.2.2.1, cpy_b hO.2.2.2.2.1 hO.2.2.1 hS.2.2.2.2.2⟩ (hL.up (kk.sub (fun a ha => by (try dsimp only at ha ⊢); omega))) ⟨?_, ?_⟩ (hZ.up (kk.sub (fun a ha => by (try dsimp only at ha ⊢); omega))) (hV.up (kk.sub (fun a ha => by (try dsimp only at ha ⊢); omega))) (hM.up (kk.sub (fun a ha => by (try dsimp only at ha ⊢); omega))) ?_ ?_ (hT.up (kk.sub (fun a ha => by (try dsimp only at ha ⊢); omega))) (hU.up (kk.sub (fun a ha => by (try dsimp only at ha ⊢); omega)))⟩
      · intro i hi
        by_cases e : i = ec
        · subst e
          rw [va_up_self, va_up_self]
        · have hi' : i < ec := by omega
          rw [va_up_ne _ _ e, va_up_ne _ _ e]; exact q6 i hi'
      · intro i hi
        by_cases e : i = ec
        · subst e
          rw [va_up_self, va_up_self, va_up_self, va_up_self, va_up_self, va_up_self]; exact a4.kp k02 (fun b hb => by (try dsimp only); omega)
        · have hi' : i < ec := by omega
          rw [va_up_ne _ _ e, va_up_ne _ _ e, va_up_ne _ _ e, va_up_ne _ _ e, va_up_ne _ _ e, va_up_ne _ _ e]; exact (q7 i hi').kp kk (fun b hb => by have := qa i hi'; (try dsimp only); omega)
      · exact fun i hi => (q9 i hi).kp kk (fun b hb => by have := qb i hi; (try dsimp only); omega)
      · intro i hi
        by_cases e : i = ec
        · subst e
          rw [va_up_self]; exact hs
        · have hi' : i < ec := by omega
          rw [va_up_ne _ _ e]; exact qa i hi'
      · intro i j hi hj h9
        by_cases e : i = ec
        · by_cases e2 : j = ec
          · omega
          · rw [e, va_up_self, va_up_ne _ _ e2] at h9
            have := hElt j (by omega); omega
        · by_cases e2 : j = ec
          · rw [e2, va_up_self, va_up_ne _ _ e] at h9
            have := hElt i (by omega); omega
          · rw [va_up_ne _ _ e, va_up_ne _ _ e2] at h9
            exact qc i j (by omega) (by omega) h9
      · intro i hi
        by_cases e : i = ec
        · subst e
          rw [va_up_self, va_up_self]; exact z3
        · have hi' : i < ec := by omega
          rw [va_up_ne _ _ e, va_up_ne _ _ e]; exact qd i hi'
      · intro i hi
        by_cases e : i = ec
        · subst e
          rw [va_up_self, va_up_self, va_up_self, va_up_self]
          refine ⟨z1, by rw [upd_self, va_up_self], by rw [va_up_self]; exact hO.2.2.1, z2, by rw [va_up_self], fun q hq => ?_⟩
          show cut fb nb q = va_cpy byt co 0 (40 * i) nb (40 * i + q) &&& 255
          rw [cut_at hq, cpy_in hq]; exact hO.2.2.2.2.2 q hq
        · have hi' : i < ec := by omega
          rw [va_up_ne _ _ e, va_up_ne _ _ e, va_up_ne _ _ e, va_up_ne _ _ e]; exact slF_wr (hR.1 i hi') e hn24 hO.2.2.1
      · intro i hi
        obtain ⟨y1, y2⟩ := slL_wr (v := nI n) (pa := pa) (a := n) (hR.2 i hi).1 (hR.2 i hi).2.1 (show 12 + i ≠ ec by omega) hn24
        exact ⟨y1, y2, (hR.2 i hi).2.2⟩
      · exact fun j t hj ht => ⟨slF_wr (hW j t hj ht).1 (by omega) hn24 hO.2.2.1, (hW j t hj ht).2⟩
      · intro j i t hj hi ht
        by_cases e : t = ec
        · rw [e, va_up_self]
          obtain ⟨vv, vve, hv1, hv2, hv3, hv4, hv5, hv6⟩ := hV
          have := hlt _ _ ((hv4 j hj).2.2.2.2 i hi).1
          omega
        · rw [va_up_ne _ _ e]; exact hX j i t hj hi (by omega)

set_option maxHeartbeats 4000000 in
theorem pr_line (l : Launch) (D : va_G) {ca : Nat → ClassId} {M : mw_M} {sz x o : Nat} (hox : o = x + 14) (hI : Inv ca M x o) (y : Int32) (y2 : Int32) : mw_C wsX8_line l yX8_line { frames := 5, cells := 3, slots := 45, locals := 112 } D vwCl (mt ca) [.ref x, .int y, .int y2] M sz (mq_i (fun v1 M1 s1 => (∃ fs : List Value, M1 o = some (.inr (9, fs))) ∧ mw_C wsX9_line l yX9_line { frames := 3, cells := 0, slots := 0, locals := 74 } D vwCl (mt ca) [.ref o, .int y, .int y2] M1 s1 (mq_i (fun v2 M2 s2 => (v2 = v1 ∧ Inv ca M2 x o))))) := by
  refine Inv.elim hI (fun th tr pz n nb ec lc nv fa np to f pa fb byt E en ek ef eg ev L ln lf lx ly ps pp si co ls1 ls2 psn sn V vcn VE vn vk vf vg vfv mn sh hF hP hO hC hS hL hR hZ hV hM hW hX hT hU => ?_)
  obtain ⟨ce, xl, q1, q2, q3, q4, q5, q6, q7, q8, q9, qa, qb, qc, qd⟩ := id hC
  have hpe : isPathB (fun k => pa k &&& 255) n = isPathB f n := isPathB_congr (fun k hk => (hP.2.2.2.2.2 k hk).symm)
  refine mw_C.imp (c_Pkg_line l D ca M sz x nv n f ec lc ce xl y y2 hF.1 hP.1 hP.2.1 hP.2.2.1 q1 q2 q3 q4 q5) (fun hlt v M1 s1 _ hq => ?_)
  obtain ⟨r1, rfl, M0, hq, hM1⟩ := hq
  refine ⟨r1, rfl, ?_⟩
  have hs : x + 30 ≤ sz := by
    obtain ⟨fl, q⟩ := hU
    have := hlt _ _ q
    omega
  have p1 : M1 (x + 1) = some (.inr (5, [.ref (x + 1 + 1), .int (nI 0)])) := by rw [hM1]; exact mw_us
  have k0 : kpt M M0 (fun a => a ≠ x + 5 ∧ a ≠ x + 5 + 2) := by
    rcases hq with ⟨_, _, e, _⟩ | ⟨_, _, _, _, _, e, _⟩ | ⟨_, _, _, _, _, _, _, _, hfr, _⟩
    · rw [e]; exact kpt_rf _ _
    · rw [e]; exact kpt_rf _ _
    · exact fun a e h1 h2 => (hfr a (hlt a e h1) h2.1 h2.2).trans h1
  have k01 : kpt M0 M1 (fun a => a ≠ x + 1) := by rw [hM1]; exact ((kpt_rf _ _).u (by simp))
  have k1 : kpt M M1 (fun a => a ≠ x + 5 ∧ a ≠ x + 5 + 2 ∧ a ≠ x + 1) := (k0.sub (fun a ha => by (try dsimp only at ha ⊢); omega)).tr (k01.sub (fun a ha => by (try dsimp only at ha ⊢); omega))
  refine ⟨⟨_, (k1 _ _ hF.2 (by (try dsimp only); omega))⟩, ?_⟩
  refine mw_C.imp (c_M_line l D ca M1 s1 o n lc th (nI nb) (nI ec) (nI nv) (nI fa) tr (nI to) pz (nI np) pa ps pp ls1 ls2 y y2 (k1 _ _ hF.2 (by (try dsimp only); omega)) (k1 _ _ hP.2.2.2.1 (by (try dsimp only); omega)) (k1 _ _ hS.1 (by (try dsimp only); omega)) (k1 _ _ hS.2.1 (by (try dsimp only); omega)) (k1 _ _ hL.1 (by (try dsimp only); omega)) (k1 _ _ hL.2 (by (try dsimp only); omega)) hP.2.2.1 hP.2.2.2.2.1 q5) (fun _ v M2 s2 _ hq2 => ?_)
  obtain ⟨r2, rfl, rfl, hq2⟩ := hq2
  rw [hpe] at hq2
  refine ⟨r2, rfl, ?_⟩
  have hb9 : (isPathB f n && inB y 0 40) = true ↔ (¬ y < 0 ∧ ¬ 40 < y ∧ isPathB f n = true) := by
    rw [Bool.and_eq_true, inB_40, Bool.and_eq_true, Bool.not_eq_true', Bool.not_eq_true', decide_eq_false_iff_not, decide_eq_false_iff_not]
    exact ⟨fun q => ⟨q.2.1, q.2.2, q.1⟩, fun q => ⟨q.2.2, q.1, q.2.1⟩⟩
  rcases hq with ⟨a1, a2, a3, a4⟩ | ⟨a1, a1', a1'', a2, a3, a4, a5⟩ | ⟨a1, a1', a1'', a2, a3, a4, a5, a6, a7, a8⟩
  · rcases hq2 with ⟨b1, b2, b3⟩ | ⟨b1, _⟩ | ⟨b1, _⟩
    · have kq : kpt M M1 (fun a => a ≠ x + 1) := by rw [a3] at k01; exact k01
      have k2 : kpt M1 M2 (fun a => a ≠ o) := by rw [b3]; exact ((kpt_rf _ _).u (by simp))
      have kk : kpt M M2 (fun a => a ≠ x + 1 ∧ a ≠ o) := (kq.sub (fun a ha => by (try dsimp only at ha ⊢); omega)).tr (k2.sub (fun a ha => by (try dsimp only at ha ⊢); omega))
      exact ⟨by rw [a2, b2], Inv.mk (n := 0) ⟨kk _ _ hF.1 (by (try dsimp only); omega), by rw [b3]; exact mw_us⟩ ⟨k2 _ _ p1 (by (try dsimp only); omega), kk _ _ hP.2.1 (by (try dsimp only); omega), by omega, kk _ _ hP.2.2.2.1 (by (try dsimp only); omega), hP.2.2.2.2.1, fun k hk => absurd hk (by omega)⟩ (hO.up (kk.sub (fun a ha => by (try dsimp only at ha ⊢); omega))) (hC.up (kk.sub (fun a ha => by (try dsimp only at ha ⊢); omega))) (hS.up (kk.sub (fun a ha => by (try dsimp only at ha ⊢); omega))) (hL.up (kk.sub (fun a ha => by (try dsimp only at ha ⊢); omega))) hR (hZ.up (kk.sub (fun a ha => by (try dsimp only at ha ⊢); omega))) (hV.up (kk.sub (fun a ha => by (try dsimp only at ha ⊢); omega))) (hM.up (kk.sub (fun a ha => by (try dsimp only at ha ⊢); omega))) hW hX (hT.up (kk.sub (fun a ha => by (try dsimp only at ha ⊢); omega))) (hU.up (kk.sub (fun a ha => by (try dsimp only at ha ⊢); omega)))⟩
    · exact absurd (hb9.mp b1) (fun q => a1.elim (fun z => q.1 z) (fun z => z.elim (fun z => q.2.1 z) (fun z => by rw [z] at q; exact absurd q.2.2 (by simp))))
    · exact absurd (hb9.mp b1) (fun q => a1.elim (fun z => q.1 z) (fun z => z.elim (fun z => q.2.1 z) (fun z => by rw [z] at q; exact absurd q.2.2 (by simp))))
  · rcases hq2 with ⟨b1, _⟩ | ⟨b1, b2, b3, b4⟩ | ⟨b1, b2, _⟩
    · exact absurd (b1.symm.trans (hb9.mpr ⟨a1, a1', a1''⟩)) (by simp)
    · have kq : kpt M M1 (fun a => a ≠ x + 1) := by rw [a4] at k01; exact k01
      have k2 : kpt M1 M2 (fun a => a ≠ o) := by rw [b4]; exact ((kpt_rf _ _).u (by simp))
      have kk : kpt M M2 (fun a => a ≠ x + 1 ∧ a ≠ o) := (kq.sub (fun a ha => by (try dsimp only at ha ⊢); omega)).tr (k2.sub (fun a ha => by (try dsimp only at ha ⊢); omega))
      exact ⟨by rw [a3, b3], Inv.mk (n := 0) ⟨kk _ _ hF.1 (by (try dsimp only); omega), by rw [b4]; exact mw_us⟩ ⟨k2 _ _ p1 (by (try dsimp only); omega), kk _ _ hP.2.1 (by (try dsimp only); omega), by omega, kk _ _ hP.2.2.2.1 (by (try dsimp only); omega), hP.2.2.2.2.1, fun k hk => absurd hk (by omega)⟩ (hO.up (kk.sub (fun a ha => by (try dsimp only at ha ⊢); omega))) (hC.up (kk.sub (fun a ha => by (try dsimp only at ha ⊢); omega))) (hS.up (kk.sub (fun a ha => by (try dsimp only at ha ⊢); omega))) (hL.up (kk.sub (fun a ha => by (try dsimp only at ha ⊢); omega))) hR (hZ.up (kk.sub (fun a ha => by (try dsimp only at ha ⊢); omega))) (hV.up (kk.sub (fun a ha => by (try dsimp only at ha ⊢); omega))) (hM.up (kk.sub (fun a ha => by (try dsimp only at ha ⊢); omega))) hW hX (hT.up (kk.sub (fun a ha => by (try dsimp only at ha ⊢); omega))) (hU.up (kk.sub (fun a ha => by (try dsimp only at ha ⊢); omega)))⟩
    · omega
  · rcases hq2 with ⟨b1, _⟩ | ⟨b1, b2, _⟩ | ⟨b1, b2, b3, b4, b5, b6, b7, b8, b9⟩
    · exact absurd (b1.symm.trans (hb9.mpr ⟨a1, a1', a1''⟩)) (by simp)
    · omega
    · have k2 : kpt M1 M2 (fun a => a ≠ o ∧ a ≠ o + 3 ∧ a ≠ o + 4 ∧ a ≠ o + 7 ∧ a ≠ o + 8) := fun a e h1 h2 => (b9 a h2.1 h2.2.1 h2.2.2.1 h2.2.2.2.1 h2.2.2.2.2).trans h1
      have k02 : kpt M0 M2 (fun a => a ≠ x + 1 ∧ a ≠ o ∧ a ≠ o + 3 ∧ a ≠ o + 4 ∧ a ≠ o + 7 ∧ a ≠ o + 8) := (k01.sub (fun a ha => by (try dsimp only at ha ⊢); omega)).tr (k2.sub (fun a ha => by (try dsimp only at ha ⊢); omega))
      have kk : kpt M M2 (fun a => a ≠ x + 5 ∧ a ≠ x + 5 + 2 ∧ a ≠ x + 1 ∧ a ≠ o ∧ a ≠ o + 3 ∧ a ≠ o + 4 ∧ a ≠ o + 7 ∧ a ≠ o + 8) := (k0.sub (fun a ha => by (try dsimp only at ha ⊢); omega)).tr (k02.sub (fun a ha => by (try dsimp only at ha ⊢); omega))
      have hn24 := (isPathB_le a1'').2
      obtain ⟨z1, z2, z3⟩ := slN_new (ps := ps) (pp := pp) (psn := psn) (s := 12 + lc) a1'' hP.2.2.2.2.1 hP.2.2.2.2.2
      refine ⟨by rw [a3, b3], Inv.mk (n := 0) (lc := lc + 1) (L := va_up L lc sz) (ln := va_up ln lc n) (lf := va_up lf lc (cut f n)) (lx := va_up lx lc y) (ly := va_up ly lc y2) (psn := va_up psn (12 + lc) n) (ls1 := upd ls1 lc y) (ls2 := upd ls2 lc y2) (E := E) (en := en) (ek := ek) (ef := ef) (eg := eg) (ev := ev) (sn := sn) ⟨kk _ _ hF.1 (by (try dsimp only); omega), b4⟩ ⟨k2 _ _ p1 (by (try dsimp only); omega), kk _ _ hP.2.1 (by (try dsimp only); omega), by omega, kk _ _ hP.2.2.2.1 (by (try dsimp only); omega), hP.2.2.2.2.1, fun k hk => absurd hk (by omega)⟩ (hO.up (kk.sub (fun a ha => by (try dsimp only at ha ⊢); omega))) ⟨ce, va_up xl lc (some sz), k02 _ _ a6 (by (try dsimp only); omega), kk _ _ q2 (by (try dsimp only); omega), k02 _ _ a5 (by (try dsimp only); omega), q4, by omega, q6, ?_, ?_, ?_, qa, ?_, qc, qd⟩ ⟨b5, b6, kk _ _ hS.2.2.1 (by (try dsimp only); omega), kk _ _ hS.2.2.2.1 (by (try dsimp only); omega), cpy_b hP.2.2.2.2.1 hP.2.2.1 hS.2.2.2.2.1, hS.2.2.2.2.2⟩ ⟨b7, b8⟩ ⟨?_, ?_⟩ (hZ.up (kk.sub (fun a ha => by (try dsimp only at ha ⊢); omega))) (hV.up (kk.sub (fun a ha => by (try dsimp only at ha ⊢); omega))) (hM.up (kk.sub (fun a ha => by (try dsimp only at ha ⊢); omega))) ?_ hX (hT.up (kk.sub (fun a ha => by (try dsimp only at ha ⊢); omega))) (hU.up (kk.sub (fun a ha => by (try dsimp only at ha ⊢); omega)))⟩
      · exact fun i hi => (q7 i hi).kp kk (fun b hb => by have := qa i hi; (try dsimp only); omega)
      · intro i hi
        by_cases e : i = lc
        · subst e
          rw [va_up_self, va_up_self]
        · have hi' : i < lc := by omega
          rw [va_up_ne _ _ e, va_up_ne _ _ e]; exact q8 i hi'
      · intro i hi
        by_cases e : i = lc
        · subst e
          rw [va_up_self, va_up_self, va_up_self, va_up_self, va_up_self]; exact a4.kp k02 (fun b hb => by (try dsimp only); omega)
        · have hi' : i < lc := by omega
          rw [va_up_ne _ _ e, va_up_ne _ _ e, va_up_ne _ _ e, va_up_ne _ _ e, va_up_ne _ _ e]; exact (q9 i hi').kp kk (fun b hb => by have := qb i hi'; (try dsimp only); omega)
      · intro i hi
        by_cases e : i = lc
        · subst e
          rw [va_up_self]; exact hs
        · have hi' : i < lc := by omega
          rw [va_up_ne _ _ e]; exact qb i hi'
      · exact fun i hi => slF_wrN (hR.1 i hi) (by omega) hn24
      · intro i hi
        by_cases e : i = lc
        · subst e
          exact ⟨z1, by rw [va_up_self ln, va_up_self lf]; exact z2, by rw [va_up_self, upd_self], by rw [va_up_self, upd_self]⟩
        · have hi' : i < lc := by omega
          obtain ⟨y1, y3⟩ := slL_wr (v := nI n) (pa := pa) (a := n) (hR.2 i hi').1 (hR.2 i hi').2.1 (show 12 + i ≠ 12 + lc by omega) hn24
          rw [va_up_ne _ _ e, va_up_ne _ _ e, va_up_ne _ _ e, va_up_ne _ _ e, upd_ne _ _ e, upd_ne _ _ e]; exact ⟨y1, y3, (hR.2 i hi').2.2⟩
      · exact fun j t hj ht => ⟨slF_wrN (hW j t hj ht).1 (by omega) hn24, (hW j t hj ht).2⟩

