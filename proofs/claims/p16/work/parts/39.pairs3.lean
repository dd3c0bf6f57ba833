set_option maxHeartbeats 4000000 in
theorem pr_check (l : Launch) (D : va_G) {ca : Nat → ClassId} {M : mw_M} {sz x o : Nat} (hox : o = x + 14) (hI : Inv ca M x o) : mw_C wsX8_check l yX8_check { frames := 5, cells := 0, slots := 0, locals := 111 } D vwCl (mt ca) [.ref x] M sz (mq_i (fun v1 M1 s1 => (∃ fs : List Value, M1 o = some (.inr (9, fs))) ∧ mw_C wsX9_check l yX9_check { frames := 3, cells := 0, slots := 0, locals := 71 } D vwCl (mt ca) [.ref o] M1 s1 (mq_i (fun v2 M2 s2 => (v2 = v1 ∧ Inv ca M2 x o))))) := by
  refine Inv.elim hI (fun th tr pz n nb ec lc nv fa np to f pa fb byt E en ek ef eg ev L ln lf lx ly ps pp si co ls1 ls2 psn sn V vcn VE vn vk vf vg vfv mn sh hF hP hO hC hS hL hR hZ hV hM hW hX hT hU => ?_)
  obtain ⟨ce, xl, q1, q2, q3, q4, q5, q6, q7, q8, q9, qa, qb, qc, qd⟩ := id hC
  obtain ⟨zn, zf, zg, fk, fo, hz1, hz2, hz3, hz4, hz5, hz6, hz7⟩ := id hZ
  obtain ⟨K, hK⟩ := K_ex ec en ek ef eg ln lf lx ly
  obtain ⟨H, hH⟩ := H_ex en ef lc ln lf
  have hnz : nz K lc + nz H ec ≤ 24 := by have := nz_le K lc; have := nz_le H ec; omega
  refine mw_C.imp (c_Pkg_check l D ca M sz x nv ec lc ce xl E en ek ef eg ev L ln lf lx ly zn zf zg K H hF.1 q1 q2 q3 q4 q5 q6 q7 q8 q9 hz1 hz2 hz3 hz4 qa qb (fun i _ => hK i) (fun i _ => hH i)) (fun hlt v M1 s1 _ hq => ?_)
  obtain ⟨r1, rfl, hr1, rfl, f1, g1, hM1, -⟩ := hq
  refine ⟨r1, rfl, ?_⟩
  have k1 : kpt M M1 (fun a => a ≠ x + 8 + 1 ∧ a ≠ x + 8 + 2 ∧ a ≠ x + 8) := by rw [hM1]; exact ((((kpt_rf _ _).u (by simp)).u (by simp)).u (by simp))
  refine ⟨⟨_, (k1 _ _ hF.2 (by (try dsimp only); omega))⟩, ?_⟩
  refine mw_C.imp (c_M_check l D ca M1 s1 o ec lc th (nI n) (nI nb) (nI nv) (nI fa) tr (nI to) pz (nI np) ps pp si co ls1 ls2 fk fo psn sn K H (k1 _ _ hF.2 (by (try dsimp only); omega)) (k1 _ _ hS.1 (by (try dsimp only); omega)) (k1 _ _ hS.2.1 (by (try dsimp only); omega)) (k1 _ _ hS.2.2.1 (by (try dsimp only); omega)) (k1 _ _ hS.2.2.2.1 (by (try dsimp only); omega)) (k1 _ _ hL.1 (by (try dsimp only); omega)) (k1 _ _ hL.2 (by (try dsimp only); omega)) (k1 _ _ hz5 (by (try dsimp only); omega)) (k1 _ _ hz6 (by (try dsimp only); omega)) q4 q5 (fun k hk => (hR.1 k hk).1) (fun k hk => (hR.2 k hk).1) (fun k hk => ⟨(hR.1 k hk).2.1, (hR.1 k hk).2.2.1⟩) (hR.K hK) (hR.H hH)) (fun _ v M2 s2 _ hq2 => ?_)
  obtain ⟨r2, rfl, hr2, rfl, f2, g2, hM2, -⟩ := hq2
  refine ⟨r2, rfl, by rw [hr1, hr2], ?_⟩
  have k2 : kpt M1 M2 (fun a => a ≠ o + 11 ∧ a ≠ o + 12 ∧ a ≠ o) := by rw [hM2]; exact ((((kpt_rf _ _).u (by simp)).u (by simp)).u (by simp))
  have kk : kpt M M2 (fun a => a ≠ x + 8 + 1 ∧ a ≠ x + 8 + 2 ∧ a ≠ x + 8 ∧ a ≠ o + 11 ∧ a ≠ o + 12 ∧ a ≠ o) := (k1.sub (fun a ha => by (try dsimp only at ha ⊢); omega)).tr (k2.sub (fun a ha => by (try dsimp only at ha ⊢); omega))
  exact Inv.mk (fa := nz K lc + nz H ec) ⟨kk _ _ hF.1 (by (try dsimp only); omega), by rw [hM2]; exact mw_us⟩ (hP.up (kk.sub (fun a ha => by (try dsimp only at ha ⊢); omega))) (hO.up (kk.sub (fun a ha => by (try dsimp only at ha ⊢); omega))) (hC.up (kk.sub (fun a ha => by (try dsimp only at ha ⊢); omega))) (hS.up (kk.sub (fun a ha => by (try dsimp only at ha ⊢); omega))) (hL.up (kk.sub (fun a ha => by (try dsimp only at ha ⊢); omega))) hR ⟨nz K lc + nz H ec, f1, g1, f2, g2, k2 _ _ (by rw [hM1]; exact mw_us) (by (try dsimp only); omega), k2 _ _ (by rw [hM1]; exact (mw_un (by omega)).trans ((mw_un (by omega)).trans mw_us)) (by (try dsimp only); omega), k2 _ _ (by rw [hM1]; exact (mw_un (by omega)).trans mw_us) (by (try dsimp only); omega), hnz, by rw [hM2]; exact (mw_un (by omega)).trans ((mw_un (by omega)).trans mw_us), by rw [hM2]; exact (mw_un (by omega)).trans mw_us, hnz⟩ (hV.up (kk.sub (fun a ha => by (try dsimp only at ha ⊢); omega))) (hM.up (kk.sub (fun a ha => by (try dsimp only at ha ⊢); omega))) hW hX (hT.up (kk.sub (fun a ha => by (try dsimp only at ha ⊢); omega))) (hU.up (kk.sub (fun a ha => by (try dsimp only at ha ⊢); omega)))

set_option maxHeartbeats 4000000 in
theorem pr_missing (l : Launch) (D : va_G) {ca : Nat → ClassId} {M : mw_M} {sz x o : Nat} (hox : o = x + 14) (hI : Inv ca M x o) : mw_C wsX8_missing l yX8_missing { frames := 1, cells := 0, slots := 0, locals := 21 } D vwCl (mt ca) [.ref x] M sz (mq_i (fun v1 M1 s1 => (∃ fs : List Value, M1 o = some (.inr (9, fs))) ∧ mw_C wsX9_missing l yX9_missing { frames := 1, cells := 0, slots := 0, locals := 24 } D vwCl (mt ca) [.ref o] M1 s1 (mq_i (fun v2 M2 s2 => (v2 = v1 ∧ Inv ca M2 x o))))) := by
  refine Inv.elim hI (fun th tr pz n nb ec lc nv fa np to f pa fb byt E en ek ef eg ev L ln lf lx ly ps pp si co ls1 ls2 psn sn V vcn VE vn vk vf vg vfv mn sh hF hP hO hC hS hL hR hZ hV hM hW hX hT hU => ?_)
  obtain ⟨src, h, hr, jo, t1, t2, t3, t4, t5, t6, t7, t8⟩ := id hT
  have hcz := cz_le h np 0
  refine mw_C.imp (c_Pkg_missing l D ca M sz x nv src np (cz h 0 np) h hF.1 t1 t2 t5 (by omega)) (fun _ v M1 s1 _ hq => ?_)
  obtain ⟨r1, rfl, rfl, rfl, hq⟩ := hq
  refine ⟨r1, rfl, ?_⟩
  refine ⟨⟨_, hF.2⟩, ?_⟩
  refine mw_C.imp (c_M_missing l D ca M1 s1 o np th (nI n) (nI nb) (nI ec) (nI lc) (nI nv) (nI fa) tr (nI to) pz hr hF.2 t3 t5) (fun _ v M2 s2 _ hq2 => ?_)
  obtain ⟨r2, rfl, hq2, rfl, rfl⟩ := hq2
  refine ⟨r2, rfl, ?_, Inv.quiet hox 0 hF hP hO hC hS hL hR hZ hV hM hW hX hT hU⟩
  rw [hq2]
  by_cases e0 : tr = 0
  · rw [if_pos e0]
    have e1 : np = 0 := by
      rcases t8 with t | t
      · exact t.2.2
      · exact absurd e0 t.1
    rcases hq with ⟨i, h1, _⟩ | ⟨_, h2⟩
    · omega
    · rw [h2]
  · rw [if_neg e0]
    rcases hq with ⟨i, h1, h2, h3, h4⟩ | ⟨h1, h2⟩
    · rw [h4]; exact fz_first ((t7 i h1).mp h2) np 0 (by omega) (by omega) (fun q _ b z => h3 q b ((t7 q (by omega)).mpr z))
    · rw [h2]; exact fz_none np 0 (fun q _ b z => h1 q (by omega) ((t7 q (by omega)).mpr z))

set_option maxHeartbeats 4000000 in
theorem pr_piece (l : Launch) (D : va_G) {ca : Nat → ClassId} {M : mw_M} {sz x o : Nat} (hox : o = x + 14) (hI : Inv ca M x o) (k : Int32) (u : Int32) : mw_C wsX8_piece l yX8_piece { frames := 1, cells := 0, slots := 0, locals := 22 } D vwCl (mt ca) [.ref x, .int k, .int u] M sz (mq_i (fun v1 M1 s1 => (∃ fs : List Value, M1 o = some (.inr (9, fs))) ∧ mw_C wsX9_piece l yX9_piece { frames := 1, cells := 0, slots := 0, locals := 24 } D vwCl (mt ca) [.ref o, .int k, .int u] M1 s1 (mq_i (fun v2 M2 s2 => (v2 = v1 ∧ Inv ca M2 x o))))) := by
  refine Inv.elim hI (fun th tr pz n nb ec lc nv fa np to f pa fb byt E en ek ef eg ev L ln lf lx ly ps pp si co ls1 ls2 psn sn V vcn VE vn vk vf vg vfv mn sh hF hP hO hC hS hL hR hZ hV hM hW hX hT hU => ?_)
  obtain ⟨src, h, hr, jo, t1, t2, t3, t4, t5, t6, t7, t8⟩ := id hT
  have hcz := cz_le h np 0
  refine mw_C.imp (c_Pkg_piece l D ca M sz x nv src np (cz h 0 np) h k u hF.1 t1 t2 t5 (by omega) (fun j hj h0 => cz_pos h0 np 0 (by omega) (by omega))) (fun hlt v M1 s1 _ hq => ?_)
  obtain ⟨r1, rfl, hq, rfl⟩ := hq
  refine ⟨r1, rfl, ?_⟩
  have k1 : kpt M M1 (fun a => a ≠ x + 12 ∧ a ≠ x + 12 + 1) := by
    rcases hq with ⟨_, _, rfl⟩ | ⟨j, _, _, ⟨_, _, rfl⟩ | ⟨_, _, _, rfl⟩⟩
    · exact kpt_rf _ _
    · exact kpt_rf _ _
    · exact (((kpt_rf _ _).u (by simp)).u (by simp))
  refine ⟨⟨_, (k1 _ _ hF.2 (by (try dsimp only); omega))⟩, ?_⟩
  refine mw_C.imp (c_M_piece l D ca M1 s1 o np th (nI n) (nI nb) (nI ec) (nI lc) (nI nv) (nI fa) tr (nI to) pz hr k u (k1 _ _ hF.2 (by (try dsimp only); omega)) (k1 _ _ t3 (by (try dsimp only); omega)) t5) (fun _ v M2 s2 _ hq2 => ?_)
  obtain ⟨r2, rfl, hq2, rfl⟩ := hq2
  refine ⟨r2, rfl, ?_⟩
  have htr : tr = 0 → np = 0 := fun e => by
    rcases t8 with t | t
    · exact t.2.2
    · exact absurd e t.1
  rcases hq with ⟨a1, a2, rfl⟩ | ⟨j, a1, a2, a3⟩
  · rcases hq2 with ⟨_, b2, rfl⟩ | ⟨_, j, b1, b2, _⟩
    · exact ⟨by rw [a2, b2], Inv.quiet hox 0 hF hP hO hC hS hL hR hZ hV hM hW hX hT hU⟩
    · exact absurd b2 (a1 j b1)
  · rcases hq2 with ⟨b1, _⟩ | ⟨b0, j', b1, b2, b3, hM2⟩
    · rcases b1 with b1 | b1
      · have := htr b1; omega
      · exact absurd a2 (b1 j a1)
    · have e := (nI_eq (by omega) (by omega)).mp (a2.symm.trans b2)
      subst e
      have k2 : kpt M1 M2 (fun a => a ≠ o ∧ a ≠ o + 13) := by rw [hM2]; exact (((kpt_rf _ _).u (by simp)).u (by simp))
      have kk : kpt M M2 (fun a => a ≠ x + 12 ∧ a ≠ x + 12 + 1 ∧ a ≠ o ∧ a ≠ o + 13) := (k1.sub (fun a ha => by (try dsimp only at ha ⊢); omega)).tr (k2.sub (fun a ha => by (try dsimp only at ha ⊢); omega))
      have hF2 : M2 o = some (.inr (9, mdF o 0 (nI n) (nI nb) (nI ec) (nI lc) (nI nv) (nI fa) tr (nI to) pz (nI np)))  := by rw [hM2]; exact (mw_un (by omega)).trans mw_us
      have h13 : M2 (o + 13) = some (.inl (ca 1, 320, .inl (upd hr j (if hr j = 0 ∧ u = 0 then 0 else 1)))) := by rw [hM2]; exact mw_us
      rcases a3 with ⟨c1, c2, rfl⟩ | ⟨c1, c2, c3, hM1⟩
      · have ez : ∀ q, q < np → (h q = 0 ↔ upd hr j (if hr j = 0 ∧ u = 0 then 0 else 1) q = 0) := fun q hq => by
          by_cases e : q = j
          · rw [e, upd_self]
            by_cases e2 : hr j = 0 ∧ u = 0
            · rw [if_pos e2]; exact ⟨fun _ => rfl, fun _ => (t7 j a1).mpr e2.1⟩
            · rw [if_neg e2]
              refine ⟨fun z => absurd ⟨(t7 j a1).mp z, ?_⟩ e2, fun z => absurd z (by decide)⟩
              rcases c1 with c | c
              · exact c
              · exact absurd z c
          · rw [upd_ne _ _ e]; exact t7 q hq
        refine ⟨by rw [c2, b3, cz_congr (h := h) np 0 (fun q _ hq => ez q (by omega))], Inv.mk  ⟨kk _ _ hF.1 (by (try dsimp only); omega), hF2⟩ (hP.up (kk.sub (fun a ha => by (try dsimp only at ha ⊢); omega))) (hO.up (kk.sub (fun a ha => by (try dsimp only at ha ⊢); omega))) (hC.up (kk.sub (fun a ha => by (try dsimp only at ha ⊢); omega))) (hS.up (kk.sub (fun a ha => by (try dsimp only at ha ⊢); omega))) (hL.up (kk.sub (fun a ha => by (try dsimp only at ha ⊢); omega))) hR (hZ.up (kk.sub (fun a ha => by (try dsimp only at ha ⊢); omega))) (hV.up (kk.sub (fun a ha => by (try dsimp only at ha ⊢); omega))) (hM.up (kk.sub (fun a ha => by (try dsimp only at ha ⊢); omega))) hW hX ⟨src, h, _, jo, k2 _ _ t1 (by (try dsimp only); omega), k2 _ _ t2 (by (try dsimp only); omega), h13, kk _ _ t4 (by (try dsimp only); omega), t5, t6, ez, t8⟩ (hU.up (kk.sub (fun a ha => by (try dsimp only at ha ⊢); omega)))⟩
      · have hj0 := (t7 j a1).mp c2
        have ez : ∀ q, q < np → (upd h j 1 q = 0 ↔ upd hr j (if hr j = 0 ∧ u = 0 then 0 else 1) q = 0) := fun q hq => by
          by_cases e : q = j
          · rw [e, upd_self, upd_self, if_neg (fun z => c1 z.2)]
          · rw [upd_ne _ _ e, upd_ne _ _ e]; exact t7 q hq
        have hcu := cz_upd c2 (v := 1) (by decide) np 0 (by omega) (by omega)
        have e9 : cz h 0 np - 1 = cz (upd h j 1) 0 np := by omega
        rw [e9] at c3 hM1
        refine ⟨by rw [c3, b3, cz_congr (h := upd h j 1) np 0 (fun q _ hq => ez q (by omega))], Inv.mk  ⟨kk _ _ hF.1 (by (try dsimp only); omega), hF2⟩ (hP.up (kk.sub (fun a ha => by (try dsimp only at ha ⊢); omega))) (hO.up (kk.sub (fun a ha => by (try dsimp only at ha ⊢); omega))) (hC.up (kk.sub (fun a ha => by (try dsimp only at ha ⊢); omega))) (hS.up (kk.sub (fun a ha => by (try dsimp only at ha ⊢); omega))) (hL.up (kk.sub (fun a ha => by (try dsimp only at ha ⊢); omega))) hR (hZ.up (kk.sub (fun a ha => by (try dsimp only at ha ⊢); omega))) (hV.up (kk.sub (fun a ha => by (try dsimp only at ha ⊢); omega))) (hM.up (kk.sub (fun a ha => by (try dsimp only at ha ⊢); omega))) hW hX ⟨src, upd h j 1, _, jo, k2 _ _ (by rw [hM1]; exact mw_us) (by (try dsimp only); omega), k2 _ _ (by rw [hM1]; exact (mw_un (by omega)).trans mw_us) (by (try dsimp only); omega), h13, kk _ _ t4 (by (try dsimp only); omega), t5, t6, ez, t8⟩ (hU.up (kk.sub (fun a ha => by (try dsimp only at ha ⊢); omega)))⟩

set_option maxHeartbeats 4000000 in
theorem pr_joined (l : Launch) (D : va_G) {ca : Nat → ClassId} {M : mw_M} {sz x o : Nat} (hox : o = x + 14) (hI : Inv ca M x o) (k : Int32) : mw_C wsX8_joined l yX8_joined { frames := 4, cells := 0, slots := 0, locals := 87 } D vwCl (mt ca) [.ref x, .int k] M sz (mq_i (fun v1 M1 s1 => (∃ fs : List Value, M1 o = some (.inr (9, fs))) ∧ mw_C wsX9_joined l yX9_joined { frames := 1, cells := 0, slots := 0, locals := 24 } D vwCl (mt ca) [.ref o, .int k] M1 s1 (mq_i (fun v2 M2 s2 => (v2 = v1 ∧ Inv ca M2 x o))))) := by
  refine Inv.elim hI (fun th tr pz n nb ec lc nv fa np to f pa fb byt E en ek ef eg ev L ln lf lx ly ps pp si co ls1 ls2 psn sn V vcn VE vn vk vf vg vfv mn sh hF hP hO hC hS hL hR hZ hV hM hW hX hT hU => ?_)
  obtain ⟨src, h, hr, jo, t1, t2, t3, t4, t5, t6, t7, t8⟩ := id hT
  have hcz := cz_le h np 0
  obtain ⟨vv, vve, hv1, hv2, hv3, hv4, hv5, hv6⟩ := id hV
  rcases t8 with ⟨rfl, e0, e1⟩ | ⟨e0, j, e1, rfl, e2, e3⟩
  · refine mw_C.imp (c_Pkg_joined0 l D ca M sz x nv np (cz h 0 np) h k hF.1 t1 t2 t5 (by omega)) (fun _ v M1 s1 _ hq => ?_)
    obtain ⟨r1, rfl, rfl, rfl, hq⟩ := hq
    refine ⟨r1, rfl, ?_⟩
    refine ⟨⟨_, hF.2⟩, ?_⟩
    refine mw_C.imp (c_M_joined l D ca M1 s1 o to np th (nI n) (nI nb) (nI ec) (nI lc) (nI nv) (nI fa) tr pz hr jo k hF.2 t3 t4 t5 t6) (fun _ v M2 s2 _ hq2 => ?_)
    obtain ⟨r2, rfl, hq2, rfl, rfl⟩ := hq2
    refine ⟨r2, rfl, ?_, Inv.quiet hox 0 hF hP hO hC hS hL hR hZ hV hM hW hX hT hU⟩
    rcases hq2 with ⟨_, b⟩ | ⟨b, _⟩
    · rw [hq, b]
    · exact absurd e0 b
  · refine mw_C.imp (c_Pkg_joined1 l D ca M sz x nv vv V vcn vve VE vn vk vf vg vfv np (cz h 0 np) h j k hF.1 hv1 hv2 hv3 hv4 t1 t2 t5 (by omega) e1) (fun _ v M1 s1 _ hq => ?_)
    obtain ⟨r1, rfl, rfl, rfl, hq⟩ := hq
    refine ⟨r1, rfl, ?_⟩
    refine ⟨⟨_, hF.2⟩, ?_⟩
    refine mw_C.imp (c_M_joined l D ca M1 s1 o to np th (nI n) (nI nb) (nI ec) (nI lc) (nI nv) (nI fa) tr pz hr jo k hF.2 t3 t4 t5 t6) (fun _ v M2 s2 _ hq2 => ?_)
    obtain ⟨r2, rfl, hq2, rfl, rfl⟩ := hq2
    refine ⟨r2, rfl, ?_, Inv.quiet hox 0 hF hP hO hC hS hL hR hZ hV hM hW hX hT hU⟩
    have ec9 := cz_congr (h := h) (g := hr) np 0 (fun q _ hq => t7 q (by omega))
    rcases hq with ⟨a1, a2⟩ | ⟨a1, a2⟩ <;> rcases hq2 with ⟨b1, b2⟩ | ⟨b1, b2, b3⟩
    · rw [a2, b2]
    · omega
    · rcases b1 with b1 | b1
      · exact absurd b1 e0
      · omega
    · rcases a2 with ⟨i, t, c1, c2, c3, c4⟩ | ⟨c1, c2⟩ <;> rcases b3 with ⟨u, d1, d2, d3⟩ | ⟨d1, d2⟩
      · have hz9 : szs (vk j) i + t < szs (vk j) (vcn j) := by
          have := szs_mono (z := vk j) (show i + 1 ≤ vcn j by omega); simp only [szs] at this; omega
        have e := (nI_eq (by omega) (by omega)).mp (c3.symm.trans d2)
        rw [d3, c4, ← e]; exact e3 i t c1 c2
      · have hz9 : szs (vk j) i + t < szs (vk j) (vcn j) := by
          have := szs_mono (z := vk j) (show i + 1 ≤ vcn j by omega); simp only [szs] at this; omega
        exact absurd c3 (d1 _ (by omega))
      · exact absurd d2 (c1 u (by omega))
      · rw [c2, d2]

set_option maxHeartbeats 4000000 in
theorem pr_split (l : Launch) (D : va_G) {ca : Nat → ClassId} {M : mw_M} {sz x o : Nat} (hox : o = x + 14) (hI : Inv ca M x o) (k : Int32) (k2 : Int32) : mw_C wsX8_split l yX8_split { frames := 3, cells := 0, slots := 0, locals := 65 } D vwCl (mt ca) [.ref x, .int k, .int k2] M sz (mq_i (fun v1 M1 s1 => (∃ fs : List Value, M1 o = some (.inr (9, fs))) ∧ mw_C wsX9_split l yX9_split { frames := 2, cells := 0, slots := 0, locals := 43 } D vwCl (mt ca) [.ref o, .int k, .int k2] M1 s1 (mq_i (fun v2 M2 s2 => (v2 = v1 ∧ Inv ca M2 x o))))) := by
  refine Inv.elim hI (fun th tr pz n nb ec lc nv fa np to f pa fb byt E en ek ef eg ev L ln lf lx ly ps pp si co ls1 ls2 psn sn V vcn VE vn vk vf vg vfv mn sh hF hP hO hC hS hL hR hZ hV hM hW hX hT hU => ?_)
  obtain ⟨src, h, hr, jo, t1, t2, t3, t4, t5, t6, t7, t8⟩ := id hT
  have hcz := cz_le h np 0
  obtain ⟨vv, vve, hv1, hv2, hv3, hv4, hv5, hv6⟩ := id hV
  refine mw_C.imp (c_Pkg_split l D ca M sz x nv vv V vcn vve VE vn vk vf vg vfv src np (cz h 0 np) h k k2 hF.1 hv1 hv2 hv3 hv4 t1 t2 t5 (by omega) hv5 hv6) (fun hlt v M1 s1 _ hq => ?_)
  obtain ⟨r1, rfl, hq, rfl⟩ := hq
  refine ⟨r1, rfl, ?_⟩
  have k1 : kpt M M1 (fun a => a ≠ x + 12 ∧ a ≠ x + 12 + 1) := by
    rcases hq with ⟨_, _, rfl⟩ | ⟨j, _, _, ⟨_, _, rfl⟩ | ⟨len, h1, _, _, _, _, _, rfl⟩⟩
    · exact kpt_rf _ _
    · exact kpt_rf _ _
    · exact (((kpt_rf _ _).u (by simp)).u (by simp))
  refine ⟨⟨_, (k1 _ _ hF.2 (by (try dsimp only); omega))⟩, ?_⟩
  refine mw_C.imp (c_M_split l D ca M1 s1 o nv th (nI n) (nI nb) (nI ec) (nI lc) (nI fa) tr (nI to) pz (nI np) mn si co hr jo vcn sn k k2 (k1 _ _ hF.2 (by (try dsimp only); omega)) (k1 _ _ hM.1 (by (try dsimp only); omega)) (k1 _ _ hS.2.2.1 (by (try dsimp only); omega)) (k1 _ _ hS.2.2.2.1 (by (try dsimp only); omega)) (k1 _ _ t3 (by (try dsimp only); omega)) (k1 _ _ t4 (by (try dsimp only); omega)) hv2 hM.2.2.1 hM.2.2.2 (fun j t hj ht => ⟨(hW j t hj ht).1.2.1, (hW j t hj ht).1.2.2.1⟩) hS.2.2.2.2.2) (fun _ v M2 s2 _ hq2 => ?_)
  obtain ⟨r2, rfl, hq2, rfl⟩ := hq2
  refine ⟨r2, rfl, ?_⟩
  rcases hq with ⟨a1, a2, rfl⟩ | ⟨j, a1, a2, a3⟩ <;> rcases hq2 with ⟨b1, b2, hM2⟩ | ⟨j', b1, b2, b3⟩
  · rw [hM2]
    skip
    exact ⟨by rw [a2, b2], Inv.quiet hox 0 hF hP hO hC hS hL hR hZ hV hM hW hX hT hU⟩
  · exact absurd b2 (a1 j' b1)
  · exact absurd a2 (b1 j a1)
  · have e := (nI_eq (by omega) (by omega)).mp (a2.symm.trans b2)
    subst e
    rcases a3 with ⟨c1, c2, rfl⟩ | ⟨len, h1, c1, c2, c3, c4, c5, hM1⟩ <;> rcases b3 with ⟨d1, d2, hM2⟩ | ⟨len', J, H9, d1, d2, d3, d4, d5, d6, hM2⟩
    · rw [hM2]
      skip
      exact ⟨by rw [c2, d2], Inv.quiet hox 0 hF hP hO hC hS hL hR hZ hV hM hW hX hT hU⟩
    · exfalso
      rw [d3] at c1
      rcases c1 with c1 | c1
      · exact nI_nlt (a := len') (b := 1) d1 (by omega) c1
      · exact c1 (nI_le (b := 100) d2 (by omega))
    · exfalso
      rw [c3] at d1
      have q1 : inB (nI len) 1 100 = true := by
        simp only [inB, Bool.and_eq_true, Bool.not_eq_true', decide_eq_false_iff_not]
        exact ⟨nI_nlt (a := len) (b := 1) c1 (by omega), nI_nlt (a := 100) (b := len) c2 (by omega)⟩
      rw [q1] at d1
      exact absurd d1 (by simp)
    · have el := (nI_eq (by omega) (by omega)).mp (c3.symm.trans d3)
      subst el
      have ev1 : ∀ i, i ≤ vcn j → szs (fun t9 => sn (24 + 8 * j + t9)) i = szs (vk j) i := fun i hi => szs_congr (fun t ht => ((hW j t a1 (by omega)).1.2.2.2.2.1).symm)
      rw [ev1 (vcn j) (Nat.le_refl _)] at d4 d6 hM2
      have hz9 : szs (vk j) (vcn j) ≤ 320 := by
        have q1 := szs_le (z := vk j) (k := vcn j) (fun i hi => ((hv4 j a1).2.2.2.2 i hi).2.2.2.2) (vcn j) (Nat.le_refl _)
        have q2 := hM.2.2.2 j a1
        omega
      have hpl := pieces_le (t := szs (vk j) (vcn j)) c1 hz9
      have ecz : cz h1 0 ((szs (vk j) (vcn j) + len - 1) / len) = (szs (vk j) (vcn j) + len - 1) / len := cz_zero _ 0 (fun q _ hq => c5 q (by omega))
      have k2 : kpt M1 M2 (fun a => a ≠ o ∧ a ≠ o + 14 ∧ a ≠ o + 13) := by rw [hM2]; exact ((((kpt_rf _ _).u (by simp)).u (by simp)).u (by simp))
      have kk : kpt M M2 (fun a => a ≠ x + 12 ∧ a ≠ x + 12 + 1 ∧ a ≠ o ∧ a ≠ o + 14 ∧ a ≠ o + 13) := (k1.sub (fun a ha => by (try dsimp only at ha ⊢); omega)).tr (k2.sub (fun a ha => by (try dsimp only at ha ⊢); omega))
      refine ⟨by rw [c4, d4], Inv.mk (np := (szs (vk j) (vcn j) + len - 1) / len) (to := szs (vk j) (vcn j)) (tr := 1) (pz := nI len) ⟨kk _ _ hF.1 (by (try dsimp only); omega), by rw [hM2]; exact (mw_un (by omega)).trans ((mw_un (by omega)).trans mw_us)⟩ (hP.up (kk.sub (fun a ha => by (try dsimp only at ha ⊢); omega))) (hO.up (kk.sub (fun a ha => by (try dsimp only at ha ⊢); omega))) (hC.up (kk.sub (fun a ha => by (try dsimp only at ha ⊢); omega))) (hS.up (kk.sub (fun a ha => by (try dsimp only at ha ⊢); omega))) (hL.up (kk.sub (fun a ha => by (try dsimp only at ha ⊢); omega))) hR (hZ.up (kk.sub (fun a ha => by (try dsimp only at ha ⊢); omega))) (hV.up (kk.sub (fun a ha => by (try dsimp only at ha ⊢); omega))) (hM.up (kk.sub (fun a ha => by (try dsimp only at ha ⊢); omega))) hW hX ⟨.ref (V j), h1, H9, J, k2 _ _ (by rw [hM1, ecz]; exact (mw_un (by omega)).trans mw_us) (by (try dsimp only); omega), k2 _ _ (by rw [hM1]; exact mw_us) (by (try dsimp only); omega), by rw [hM2]; exact mw_us, by rw [hM2]; exact (mw_un (by omega)).trans mw_us, hpl, hz9, ?_, Or.inr ⟨by decide, j, a1, rfl, rfl, ?_⟩⟩ (hU.up (kk.sub (fun a ha => by (try dsimp only at ha ⊢); omega)))⟩
      · intro q hq
        rw [c5 q hq, d6 q hq]
      · intro t q ht hq
        have w := (hW j t a1 ht).1.2.2.2.2
        have e5 := d5 t ht q (by have := w.1; omega)
        rw [ev1 t (by omega)] at e5
        rw [e5]; exact (w.2 q hq).symm

set_option maxHeartbeats 4000000 in
theorem pr_fault (l : Launch) (hlt0 : l.stackTraces = false) (D : va_G) {ca : Nat → ClassId} {M : mw_M} {sz x o : Nat} (hox : o = x + 14) (hI : Inv ca M x o) (k : Int32) (y : Int32) : mx_D wsL_fault l yL_fault { frames := 7, cells := 1, slots := 6, locals := 103 } D vwCl (mt ca) [.ref x, .int k, .int y, .ref (x + 29)] M sz (mq_i (fun v1 M1 s1 => (∃ fs : List Value, M1 o = some (.inr (9, fs))) ∧ mw_C wsX9_fault l yX9_fault { frames := 1, cells := 0, slots := 0, locals := 22 } D vwCl (mt ca) [.ref o, .int k, .int y] M1 s1 (mq_i (fun v2 M2 s2 => Inv ca M2 x o)))) := by
  refine Inv.elim hI (fun th tr pz n nb ec lc nv fa np to f pa fb byt E en ek ef eg ev L ln lf lx ly ps pp si co ls1 ls2 psn sn V vcn VE vn vk vf vg vfv mn sh hF hP hO hC hS hL hR hZ hV hM hW hX hT hU => ?_)
  obtain ⟨fl, hfl⟩ := id hU
  obtain ⟨zn, zf, zg, fk, fo, hz1, hz2, hz3, hz4, hz5, hz6, hz7⟩ := id hZ
  refine mx_D.imp (c_L_fault l hlt0 D ca M sz x nv zn zf zg k y (x + 29) 1 fl hF.1 hz1 hz2 hz3 hz4 hfl (by omega) (by omega)) (fun _ v M1 s1 _ hq => ?_)
  obtain ⟨r1, rfl, hq⟩ := hq
  refine ⟨r1, rfl, ?_⟩
  have k1 : kpt M M1 (fun a => a ≠ x + 29) := by
    rcases hq with ⟨_, _, w9, _, rfl⟩ | ⟨_, rfl, _⟩
    · exact ((kpt_rf _ _).u (by simp))
    · exact kpt_rf _ _
  have u1 : gU ca M1 x := by
    rcases hq with ⟨_, _, w9, _, rfl⟩ | ⟨_, rfl, _⟩
    · exact ⟨_, mw_us⟩
    · exact hU
  refine ⟨⟨_, (k1 _ _ hF.2 (by (try dsimp only); omega))⟩, ?_⟩
  refine mw_C.imp (c_M_fault l D ca M1 s1 o fa th (nI n) (nI nb) (nI ec) (nI lc) (nI nv) tr (nI to) pz (nI np) fk fo k y (k1 _ _ hF.2 (by (try dsimp only); omega)) (k1 _ _ hz5 (by (try dsimp only); omega)) (k1 _ _ hz6 (by (try dsimp only); omega)) hz7) (fun _ v M2 s2 _ hq2 => ?_)
  obtain ⟨r2, rfl, hq2, rfl⟩ := hq2
  refine ⟨r2, rfl, ?_⟩
  rcases hq2 with ⟨j, _, _, _, hM2⟩ | ⟨_, hM2⟩
  · have k2 : kpt M1 M2 (fun a => a ≠ o) := by rw [hM2]; exact ((kpt_rf _ _).u (by simp))
    have kk : kpt M M2 (fun a => a ≠ x + 29 ∧ a ≠ o) := (k1.sub (fun a ha => by (try dsimp only at ha ⊢); omega)).tr (k2.sub (fun a ha => by (try dsimp only at ha ⊢); omega))
    exact Inv.mk  ⟨kk _ _ hF.1 (by (try dsimp only); omega), by rw [hM2]; exact mw_us⟩ (hP.up (kk.sub (fun a ha => by (try dsimp only at ha ⊢); omega))) (hO.up (kk.sub (fun a ha => by (try dsimp only at ha ⊢); omega))) (hC.up (kk.sub (fun a ha => by (try dsimp only at ha ⊢); omega))) (hS.up (kk.sub (fun a ha => by (try dsimp only at ha ⊢); omega))) (hL.up (kk.sub (fun a ha => by (try dsimp only at ha ⊢); omega))) hR (hZ.up (kk.sub (fun a ha => by (try dsimp only at ha ⊢); omega))) (hV.up (kk.sub (fun a ha => by (try dsimp only at ha ⊢); omega))) (hM.up (kk.sub (fun a ha => by (try dsimp only at ha ⊢); omega))) hW hX (hT.up (kk.sub (fun a ha => by (try dsimp only at ha ⊢); omega))) (u1.up (k2.sub (fun a ha => by (try dsimp only at ha ⊢); omega)))
  · have k2 : kpt M1 M2 (fun a => a ≠ o) := by rw [hM2]; exact ((kpt_rf _ _).u (by simp))
    have kk : kpt M M2 (fun a => a ≠ x + 29 ∧ a ≠ o) := (k1.sub (fun a ha => by (try dsimp only at ha ⊢); omega)).tr (k2.sub (fun a ha => by (try dsimp only at ha ⊢); omega))
    exact Inv.mk  ⟨kk _ _ hF.1 (by (try dsimp only); omega), by rw [hM2]; exact mw_us⟩ (hP.up (kk.sub (fun a ha => by (try dsimp only at ha ⊢); omega))) (hO.up (kk.sub (fun a ha => by (try dsimp only at ha ⊢); omega))) (hC.up (kk.sub (fun a ha => by (try dsimp only at ha ⊢); omega))) (hS.up (kk.sub (fun a ha => by (try dsimp only at ha ⊢); omega))) (hL.up (kk.sub (fun a ha => by (try dsimp only at ha ⊢); omega))) hR (hZ.up (kk.sub (fun a ha => by (try dsimp only at ha ⊢); omega))) (hV.up (kk.sub (fun a ha => by (try dsimp only at ha ⊢); omega))) (hM.up (kk.sub (fun a ha => by (try dsimp only at ha ⊢); omega))) hW hX (hT.up (kk.sub (fun a ha => by (try dsimp only at ha ⊢); omega))) (u1.up (k2.sub (fun a ha => by (try dsimp only at ha ⊢); omega)))

theorem vpL_self (f : Nat → Int64) (k : Nat) (v : Int64) : vp_updL f k v k = v := by simp [vp_updL]

set_option maxHeartbeats 4000000 in
theorem pr_at (l : Launch) (hlt0 : l.stackTraces = false) (D : va_G) {ca : Nat → ClassId} {M : mw_M} {sz x o : Nat} (hox : o = x + 14) (hI : Inv ca M x o) (k : Int32) (i0 : Int32) (y : Int32) : mx_D wsL_atT l yL_at { frames := 8, cells := 1, slots := 6, locals := 118 } D vwCl (mt ca) [.ref x, .int k, .int i0, .int y, .ref (x + 29)] M sz (mq_i (fun v1 M1 s1 => (∃ fs : List Value, M1 o = some (.inr (9, fs))) ∧ mw_C wsX9_at l yX9_at { frames := 3, cells := 0, slots := 0, locals := 66 } D vwCl (mt ca) [.ref o, .int k, .int i0, .int y] M1 s1 (mq_i (fun v2 M2 s2 => Inv ca M2 x o ∧ ((v1 = 0 ∧ (∃ a1 a2 a3 a4 a5 a6 a7 a8 a9 a10 : Int32, M2 o = some (.inr (9, mdF o 0 a1 a2 a3 a4 a5 a6 a7 a8 a9 a10))) ∧ ∃ fl : Nat → Int64, M2 (x + 29) = some (.inl (ca 6, 1, .inr (.inl fl))) ∧ fl 0 = v2.toInt64) ∨ (v1 = 1 ∧ (∃ a1 a2 a3 a4 a5 a6 a7 a8 a9 a10 : Int32, M2 o = some (.inr (9, mdF o 1 a1 a2 a3 a4 a5 a6 a7 a8 a9 a10))))))))) := by
  refine Inv.elim hI (fun th tr pz n nb ec lc nv fa np to f pa fb byt E en ek ef eg ev L ln lf lx ly ps pp si co ls1 ls2 psn sn V vcn VE vn vk vf vg vfv mn sh hF hP hO hC hS hL hR hZ hV hM hW hX hT hU => ?_)
  obtain ⟨fl, hfl⟩ := id hU
  obtain ⟨vv, vve, hv1, hv2, hv3, hv4, hv5, hv6⟩ := id hV
  refine mx_D.imp (c_L_at l hlt0 D ca M sz x nv vv V vcn vve VE vn vk vf vg vfv k i0 y (x + 29) 1 fl hF.1 hv1 hv2 hv3 hv4 hfl (by omega) (by omega)) (fun _ v M1 s1 _ hq => ?_)
  obtain ⟨r1, rfl, hq⟩ := hq
  refine ⟨r1, rfl, ?_⟩
  have k1 : kpt M M1 (fun a => a ≠ x + 29) := by
    rcases hq with ⟨_, _, w9, _, rfl⟩ | ⟨_, rfl, _⟩
    · exact ((kpt_rf _ _).u (by simp))
    · exact kpt_rf _ _
  have u1 : gU ca M1 x := by
    rcases hq with ⟨_, _, w9, _, rfl⟩ | ⟨_, rfl, _⟩
    · exact ⟨_, mw_us⟩
    · exact hU
  refine ⟨⟨_, (k1 _ _ hF.2 (by (try dsimp only); omega))⟩, ?_⟩
  refine mw_C.imp (c_M_at l D ca M1 s1 o nv th (nI n) (nI nb) (nI ec) (nI lc) (nI fa) tr (nI to) pz (nI np) mn si co vcn (fun j t => sn (24 + 8 * j + t)) k i0 y (k1 _ _ hF.2 (by (try dsimp only); omega)) (k1 _ _ hM.1 (by (try dsimp only); omega)) (k1 _ _ hS.2.2.1 (by (try dsimp only); omega)) (k1 _ _ hS.2.2.2.1 (by (try dsimp only); omega)) hv2 hM.2.2.1 hM.2.2.2 (fun j t hj ht => ⟨(hW j t hj ht).1.2.1, (hW j t hj ht).1.2.2.1⟩)) (fun _ v M2 s2 _ hq2 => ?_)
  obtain ⟨r2, rfl, hq2, rfl⟩ := hq2
  refine ⟨r2, rfl, ?_⟩
  rcases hq with ⟨a1, _, w9, a2, hM1⟩ | ⟨a1, hM1, _, j, t, a2, a3⟩
  · rcases a2 with ⟨j, t, c1, u, c2, c3, c4⟩ | ⟨c1, c2⟩
    · rcases hq2 with ⟨j', t', d1, ⟨u', d2, d3, d4, hM2⟩ | ⟨d2, hM2⟩⟩ | ⟨d1, d2, hM2⟩
      · obtain ⟨e1, e2⟩ := atE_uniq hv2 hM.2.2.2 c1 d1
        subst e1; subst e2
        obtain ⟨w1, -⟩ := hW j t c1.1 c1.2.1
        have y1 := w1.2.2.2.2
        have y2 := w1.2.2.1
        (try dsimp only at d2)
        have y3 := y1.1
        have e := (nI_eq (by omega) (by omega)).mp (c3.symm.trans d3)
        subst e
        have k2 : kpt M1 M2 (fun a => a ≠ o) := by rw [hM2]; exact ((kpt_rf _ _).u (by simp))
        have kk : kpt M M2 (fun a => a ≠ x + 29 ∧ a ≠ o) := (k1.sub (fun a ha => by (try dsimp only at ha ⊢); omega)).tr (k2.sub (fun a ha => by (try dsimp only at ha ⊢); omega))
        refine ⟨Inv.mk  ⟨kk _ _ hF.1 (by (try dsimp only); omega), by rw [hM2]; exact mw_us⟩ (hP.up (kk.sub (fun a ha => by (try dsimp only at ha ⊢); omega))) (hO.up (kk.sub (fun a ha => by (try dsimp only at ha ⊢); omega))) (hC.up (kk.sub (fun a ha => by (try dsimp only at ha ⊢); omega))) (hS.up (kk.sub (fun a ha => by (try dsimp only at ha ⊢); omega))) (hL.up (kk.sub (fun a ha => by (try dsimp only at ha ⊢); omega))) hR (hZ.up (kk.sub (fun a ha => by (try dsimp only at ha ⊢); omega))) (hV.up (kk.sub (fun a ha => by (try dsimp only at ha ⊢); omega))) (hM.up (kk.sub (fun a ha => by (try dsimp only at ha ⊢); omega))) hW hX (hT.up (kk.sub (fun a ha => by (try dsimp only at ha ⊢); omega))) (u1.up (k2.sub (fun a ha => by (try dsimp only at ha ⊢); omega))), Or.inl ⟨a1, ⟨_, _, _, _, _, _, _, _, _, _, by rw [hM2]; exact mw_us⟩, _, k2 _ _ (by rw [hM1]; exact mw_us) (by (try dsimp only); omega), ?_⟩⟩
        rw [vpL_self, d4, c4, y1.2 u c2]
      · obtain ⟨e1, e2⟩ := atE_uniq hv2 hM.2.2.2 c1 d1
        subst e1; subst e2
        have y1 := (hW j t c1.1 c1.2.1).1.2.2.2.2.1
        exact absurd c3 (d2 u (by (try dsimp only); omega))
      · exact absurd c1 (d1 j t)
    · rcases hq2 with ⟨j', t', d1, _⟩ | ⟨d1, d2, hM2⟩
      · exact absurd d1 (c1 j' t')
      · have k2 : kpt M1 M2 (fun a => a ≠ o) := by rw [hM2]; exact ((kpt_rf _ _).u (by simp))
        have kk : kpt M M2 (fun a => a ≠ x + 29 ∧ a ≠ o) := (k1.sub (fun a ha => by (try dsimp only at ha ⊢); omega)).tr (k2.sub (fun a ha => by (try dsimp only at ha ⊢); omega))
        refine ⟨Inv.mk  ⟨kk _ _ hF.1 (by (try dsimp only); omega), by rw [hM2]; exact mw_us⟩ (hP.up (kk.sub (fun a ha => by (try dsimp only at ha ⊢); omega))) (hO.up (kk.sub (fun a ha => by (try dsimp only at ha ⊢); omega))) (hC.up (kk.sub (fun a ha => by (try dsimp only at ha ⊢); omega))) (hS.up (kk.sub (fun a ha => by (try dsimp only at ha ⊢); omega))) (hL.up (kk.sub (fun a ha => by (try dsimp only at ha ⊢); omega))) hR (hZ.up (kk.sub (fun a ha => by (try dsimp only at ha ⊢); omega))) (hV.up (kk.sub (fun a ha => by (try dsimp only at ha ⊢); omega))) (hM.up (kk.sub (fun a ha => by (try dsimp only at ha ⊢); omega))) hW hX (hT.up (kk.sub (fun a ha => by (try dsimp only at ha ⊢); omega))) (u1.up (k2.sub (fun a ha => by (try dsimp only at ha ⊢); omega))), Or.inl ⟨a1, ⟨_, _, _, _, _, _, _, _, _, _, by rw [hM2]; exact mw_us⟩, _, k2 _ _ (by rw [hM1]; exact mw_us) (by (try dsimp only); omega), ?_⟩⟩
        rw [vpL_self, d2, c2]
  · rcases hq2 with ⟨j', t', d1, ⟨u', d2, d3, d4, hM2⟩ | ⟨d2, hM2⟩⟩ | ⟨d1, d2, hM2⟩
    · obtain ⟨e1, e2⟩ := atE_uniq hv2 hM.2.2.2 a2 d1
      subst e1; subst e2
      have y1 := (hW j t a2.1 a2.2.1).1.2.2.2.2.1
      (try dsimp only at d2)
      exact absurd d3 (a3 u' (by omega))
    · have k2 : kpt M1 M2 (fun a => a ≠ o) := by rw [hM2]; exact ((kpt_rf _ _).u (by simp))
      have kk : kpt M M2 (fun a => a ≠ x + 29 ∧ a ≠ o) := (k1.sub (fun a ha => by (try dsimp only at ha ⊢); omega)).tr (k2.sub (fun a ha => by (try dsimp only at ha ⊢); omega))
      refine ⟨Inv.mk  ⟨kk _ _ hF.1 (by (try dsimp only); omega), by rw [hM2]; exact mw_us⟩ (hP.up (kk.sub (fun a ha => by (try dsimp only at ha ⊢); omega))) (hO.up (kk.sub (fun a ha => by (try dsimp only at ha ⊢); omega))) (hC.up (kk.sub (fun a ha => by (try dsimp only at ha ⊢); omega))) (hS.up (kk.sub (fun a ha => by (try dsimp only at ha ⊢); omega))) (hL.up (kk.sub (fun a ha => by (try dsimp only at ha ⊢); omega))) hR (hZ.up (kk.sub (fun a ha => by (try dsimp only at ha ⊢); omega))) (hV.up (kk.sub (fun a ha => by (try dsimp only at ha ⊢); omega))) (hM.up (kk.sub (fun a ha => by (try dsimp only at ha ⊢); omega))) hW hX (hT.up (kk.sub (fun a ha => by (try dsimp only at ha ⊢); omega))) (u1.up (k2.sub (fun a ha => by (try dsimp only at ha ⊢); omega))), Or.inr ⟨a1, _, _, _, _, _, _, _, _, _, _, by rw [hM2]; exact mw_us⟩⟩
    · exact absurd a2 (d1 j t)

