theorem lw_gat : GoodIn lw_tbl (va_wsS RL 78 yL_at wsL_atT) := fun w hw => by
  have hw2 : w ∈ va_wsS RL 78 yL_at wsL_at ∨ w ∈ (Cond.classLink RL 19 "java/lang/ArrayIndexOutOfBoundsException" :: (vx_at0 RX8 132 "java/lang/ArrayIndexOutOfBoundsException" ["java/lang/IndexOutOfBoundsException", "java/lang/RuntimeException", "java/lang/Exception"]).filter goodWord) := by
    unfold va_wsS at hw ⊢
    rcases List.mem_append.mp hw with h | h
    · exact Or.inl (List.mem_append_left _ h)
    · rcases List.mem_append.mp h with h | h
      · exact Or.inl (List.mem_append_right _ h)
      · exact Or.inr h
  rcases hw2 with h | h
  · exact lw_g gL_law_L_at w h
  · exact ⟨lw_atx w h, good_of_word (lw_atg w h)⟩
set_option maxHeartbeats 4000000 in
set_option maxRecDepth 100000 in
theorem lc_0 {p : Program} {l : Launch} {e : Env} {s : State} {m : MethodId} {below : List Frame} {meth : Method} {c : Code} {D : va_G} {ca : Nat → ClassId} {b L x o j : Nat} {xs : Nat → Int32} {M : mw_M} {sz : Nat} (X : mw_X p s m #[Value.ref b] meth c cL_law 7 RL lw_tbl D vwCl (mt ca)) (hX : va_X b L xs s s.heap) (hbl : b < s.heap.size) (hl0 : l.stackTraces = false) (hZ : mx_Z (fun q => s.heap.size ≤ q) s s.heap) (hox : o = x + 14) (hj : 4 * j + 4 ≤ L) (hL : L ≤ 2048) (hI : Inv ca M x o) (hn : ∀ (M' : mw_M) (sz' : Nat), Inv ca M' x o → mw_J p l e room_1 s m #[Value.ref b] below meth c 7 D vwCl (fun q => s.heap.size ≤ q) (lw_Z below #[Value.ref b] s) 681 [(4, .int (nI (4 * j))), (3, .ref (x + 29)), (2, .ref o), (1, .ref x), (0, .ref b)] [] M' sz' (31 + 5 * (j + 1)) (9467 + 88 * (j + 1))) : mw_J p l e room_1 s m #[Value.ref b] below meth c 7 D vwCl (fun q => s.heap.size ≤ q) (lw_Z below #[Value.ref b] s) 128 [(4, .int (nI (4 * j))), (3, .ref (x + 29)), (2, .ref o), (1, .ref x), (0, .ref b)] [] M sz (31 + 5 * j) (9467 + 88 * j) := by
  refine mj_aload_n X dL_law_128 rfl 3 rfl ?_
  refine mj_aload_n X dL_law_129 rfl 4 rfl ?_
  refine mj_iload X dL_law_130 0 rfl ?_
  refine mj_iconst X (v := nI 1) dL_law_132 (by decide +kernel) ?_
  refine mj_iadd X dL_law_133 ?_
  refine mj_top (nI (4 * j + 1)) (nI_add (4 * j) 1) ?_
  refine mj_sld X hX hbl (Nat.not_le.mpr hbl) (vp_in_nI (show 4 * j + 1 < L by omega) (by omega)) dL_law_134 ?_
  refine mj_top (xs (4 * j + 1)) (by rw [nI_clamp (by omega)]) ?_
  obtain ⟨fx, hfx⟩ := hI.x
  refine mj_callV X 1 (lw_g gL_law_X8_path) rfl (by decide +kernel) ⟨by decide, by decide⟩ (pr_path l D hox hI ((xs (4 * j + 1)))) rfl hfx rfl rfl (Nat.le_of_ble_eq_true rfl) dL_law_135 ⟨by show 31 + 5 * j + 0 ≤ 601024; omega, by show 9467 + 88 * j + 0 ≤ 7293034; omega⟩ (mk_v (fun M1 s1 h1 => ?_))
  obtain ⟨⟨fs, hfs⟩, hc⟩ := h1
  refine mj_aload_n X dL_law_138 rfl 2 rfl ?_
  refine mj_aload_n X dL_law_139 rfl 4 rfl ?_
  refine mj_iload X dL_law_140 0 rfl ?_
  refine mj_iconst X (v := nI 1) dL_law_142 (by decide +kernel) ?_
  refine mj_iadd X dL_law_143 ?_
  refine mj_top (nI (4 * j + 1)) (nI_add (4 * j) 1) ?_
  refine mj_sld X hX hbl (Nat.not_le.mpr hbl) (vp_in_nI (show 4 * j + 1 < L by omega) (by omega)) dL_law_144 ?_
  refine mj_top (xs (4 * j + 1)) (by rw [nI_clamp (by omega)]) ?_
  refine mj_callV X 1 (lw_g gL_law_X9_path) rfl (by decide +kernel) ⟨by decide, by decide⟩ hc rfl hfs rfl rfl (Nat.le_of_ble_eq_true rfl) dL_law_145 ⟨by show 31 + 5 * j + 0 + 0 ≤ 601024; omega, by show 9467 + 88 * j + 0 + 0 ≤ 7293034; omega⟩ (mk_v (fun M2 s2 h2 => ?_))
  refine mj_goto X 681 dL_law_148 (by decide) ?_
  exact mj_widen (31 + 5 * (j + 1)) (9467 + 88 * (j + 1)) (by show 31 + 5 * j + 0 + 0 ≤ 31 + 5 * (j + 1); omega) (by show 9467 + 88 * j + 0 + 0 ≤ 9467 + 88 * (j + 1); omega) (hn M2 s2 h2)

set_option maxHeartbeats 4000000 in
set_option maxRecDepth 100000 in
theorem lc_1 {p : Program} {l : Launch} {e : Env} {s : State} {m : MethodId} {below : List Frame} {meth : Method} {c : Code} {D : va_G} {ca : Nat → ClassId} {b L x o j : Nat} {xs : Nat → Int32} {M : mw_M} {sz : Nat} (X : mw_X p s m #[Value.ref b] meth c cL_law 7 RL lw_tbl D vwCl (mt ca)) (hX : va_X b L xs s s.heap) (hbl : b < s.heap.size) (hl0 : l.stackTraces = false) (hZ : mx_Z (fun q => s.heap.size ≤ q) s s.heap) (hox : o = x + 14) (hj : 4 * j + 4 ≤ L) (hL : L ≤ 2048) (hI : Inv ca M x o) (hn : ∀ (M' : mw_M) (sz' : Nat), Inv ca M' x o → mw_J p l e room_1 s m #[Value.ref b] below meth c 7 D vwCl (fun q => s.heap.size ≤ q) (lw_Z below #[Value.ref b] s) 681 [(4, .int (nI (4 * j))), (3, .ref (x + 29)), (2, .ref o), (1, .ref x), (0, .ref b)] [] M' sz' (31 + 5 * (j + 1)) (9467 + 88 * (j + 1))) : mw_J p l e room_1 s m #[Value.ref b] below meth c 7 D vwCl (fun q => s.heap.size ≤ q) (lw_Z below #[Value.ref b] s) 151 [(4, .int (nI (4 * j))), (3, .ref (x + 29)), (2, .ref o), (1, .ref x), (0, .ref b)] [] M sz (31 + 5 * j) (9467 + 88 * j) := by
  refine mj_aload_n X dL_law_151 rfl 3 rfl ?_
  refine mj_aload_n X dL_law_152 rfl 4 rfl ?_
  refine mj_iload X dL_law_153 0 rfl ?_
  refine mj_iconst X (v := nI 1) dL_law_155 (by decide +kernel) ?_
  refine mj_iadd X dL_law_156 ?_
  refine mj_top (nI (4 * j + 1)) (nI_add (4 * j) 1) ?_
  refine mj_sld X hX hbl (Nat.not_le.mpr hbl) (vp_in_nI (show 4 * j + 1 < L by omega) (by omega)) dL_law_157 ?_
  refine mj_top (xs (4 * j + 1)) (by rw [nI_clamp (by omega)]) ?_
  obtain ⟨fx, hfx⟩ := hI.x
  refine mj_callV X 1 (lw_g gL_law_X8_octet) rfl (by decide +kernel) ⟨by decide, by decide⟩ (pr_octet l D hox hI ((xs (4 * j + 1)))) rfl hfx rfl rfl (Nat.le_of_ble_eq_true rfl) dL_law_158 ⟨by show 31 + 5 * j + 0 ≤ 601024; omega, by show 9467 + 88 * j + 0 ≤ 7293034; omega⟩ (mk_v (fun M1 s1 h1 => ?_))
  obtain ⟨⟨fs, hfs⟩, hc⟩ := h1
  refine mj_aload_n X dL_law_161 rfl 2 rfl ?_
  refine mj_aload_n X dL_law_162 rfl 4 rfl ?_
  refine mj_iload X dL_law_163 0 rfl ?_
  refine mj_iconst X (v := nI 1) dL_law_165 (by decide +kernel) ?_
  refine mj_iadd X dL_law_166 ?_
  refine mj_top (nI (4 * j + 1)) (nI_add (4 * j) 1) ?_
  refine mj_sld X hX hbl (Nat.not_le.mpr hbl) (vp_in_nI (show 4 * j + 1 < L by omega) (by omega)) dL_law_167 ?_
  refine mj_top (xs (4 * j + 1)) (by rw [nI_clamp (by omega)]) ?_
  refine mj_callV X 1 (lw_g gL_law_X9_octet) rfl (by decide +kernel) ⟨by decide, by decide⟩ hc rfl hfs rfl rfl (Nat.le_of_ble_eq_true rfl) dL_law_168 ⟨by show 31 + 5 * j + 0 + 0 ≤ 601024; omega, by show 9467 + 88 * j + 0 + 0 ≤ 7293034; omega⟩ (mk_v (fun M2 s2 h2 => ?_))
  refine mj_goto X 681 dL_law_171 (by decide) ?_
  exact mj_widen (31 + 5 * (j + 1)) (9467 + 88 * (j + 1)) (by show 31 + 5 * j + 0 + 0 ≤ 31 + 5 * (j + 1); omega) (by show 9467 + 88 * j + 0 + 0 ≤ 9467 + 88 * (j + 1); omega) (hn M2 s2 h2)

set_option maxHeartbeats 4000000 in
set_option maxRecDepth 100000 in
theorem lc_2 {p : Program} {l : Launch} {e : Env} {s : State} {m : MethodId} {below : List Frame} {meth : Method} {c : Code} {D : va_G} {ca : Nat → ClassId} {b L x o j : Nat} {xs : Nat → Int32} {M : mw_M} {sz : Nat} (X : mw_X p s m #[Value.ref b] meth c cL_law 7 RL lw_tbl D vwCl (mt ca)) (hX : va_X b L xs s s.heap) (hbl : b < s.heap.size) (hl0 : l.stackTraces = false) (hZ : mx_Z (fun q => s.heap.size ≤ q) s s.heap) (hox : o = x + 14) (hj : 4 * j + 4 ≤ L) (hL : L ≤ 2048) (hI : Inv ca M x o) (hn : ∀ (M' : mw_M) (sz' : Nat), Inv ca M' x o → mw_J p l e room_1 s m #[Value.ref b] below meth c 7 D vwCl (fun q => s.heap.size ≤ q) (lw_Z below #[Value.ref b] s) 681 [(4, .int (nI (4 * j))), (3, .ref (x + 29)), (2, .ref o), (1, .ref x), (0, .ref b)] [] M' sz' (31 + 5 * (j + 1)) (9467 + 88 * (j + 1))) : mw_J p l e room_1 s m #[Value.ref b] below meth c 7 D vwCl (fun q => s.heap.size ≤ q) (lw_Z below #[Value.ref b] s) 174 [(4, .int (nI (4 * j))), (3, .ref (x + 29)), (2, .ref o), (1, .ref x), (0, .ref b)] [] M sz (31 + 5 * j) (9467 + 88 * j) := by
  refine mj_aload_n X dL_law_174 rfl 3 rfl ?_
  obtain ⟨fx, hfx⟩ := hI.x
  refine mj_callV X 0 (lw_g gL_law_X8_file) rfl (by decide +kernel) ⟨by decide, by decide⟩ (pr_file l D hox hI ) rfl hfx rfl rfl (Nat.le_of_ble_eq_true rfl) dL_law_175 ⟨by show 31 + 5 * j + 5 ≤ 601024; omega, by show 9467 + 88 * j + 88 ≤ 7293034; omega⟩ (mk_i (fun r1 M1 s1 h1 => ?_))
  obtain ⟨⟨fs, hfs⟩, hc⟩ := h1
  refine mj_pop X dL_law_178 rfl ?_
  refine mj_aload_n X dL_law_179 rfl 2 rfl ?_
  refine mj_callV X 0 (lw_g gL_law_X9_file) rfl (by decide +kernel) ⟨by decide, by decide⟩ hc rfl hfs rfl rfl (Nat.le_of_ble_eq_true rfl) dL_law_180 ⟨by show 31 + 5 * j + 5 + 0 ≤ 601024; omega, by show 9467 + 88 * j + 88 + 0 ≤ 7293034; omega⟩ (mk_i (fun r2 M2 s2 h2 => ?_))
  refine mj_pop X dL_law_183 rfl ?_
  refine mj_goto X 681 dL_law_184 (by decide) ?_
  exact mj_widen (31 + 5 * (j + 1)) (9467 + 88 * (j + 1)) (by show 31 + 5 * j + 5 + 0 ≤ 31 + 5 * (j + 1); omega) (by show 9467 + 88 * j + 88 + 0 ≤ 9467 + 88 * (j + 1); omega) (hn M2 s2 h2.2)

set_option maxHeartbeats 4000000 in
set_option maxRecDepth 100000 in
theorem lc_3 {p : Program} {l : Launch} {e : Env} {s : State} {m : MethodId} {below : List Frame} {meth : Method} {c : Code} {D : va_G} {ca : Nat → ClassId} {b L x o j : Nat} {xs : Nat → Int32} {M : mw_M} {sz : Nat} (X : mw_X p s m #[Value.ref b] meth c cL_law 7 RL lw_tbl D vwCl (mt ca)) (hX : va_X b L xs s s.heap) (hbl : b < s.heap.size) (hl0 : l.stackTraces = false) (hZ : mx_Z (fun q => s.heap.size ≤ q) s s.heap) (hox : o = x + 14) (hj : 4 * j + 4 ≤ L) (hL : L ≤ 2048) (hI : Inv ca M x o) (hn : ∀ (M' : mw_M) (sz' : Nat), Inv ca M' x o → mw_J p l e room_1 s m #[Value.ref b] below meth c 7 D vwCl (fun q => s.heap.size ≤ q) (lw_Z below #[Value.ref b] s) 681 [(4, .int (nI (4 * j))), (3, .ref (x + 29)), (2, .ref o), (1, .ref x), (0, .ref b)] [] M' sz' (31 + 5 * (j + 1)) (9467 + 88 * (j + 1))) : mw_J p l e room_1 s m #[Value.ref b] below meth c 7 D vwCl (fun q => s.heap.size ≤ q) (lw_Z below #[Value.ref b] s) 187 [(4, .int (nI (4 * j))), (3, .ref (x + 29)), (2, .ref o), (1, .ref x), (0, .ref b)] [] M sz (31 + 5 * j) (9467 + 88 * j) := by
  refine mj_aload_n X dL_law_187 rfl 3 rfl ?_
  refine mj_aload_n X dL_law_188 rfl 4 rfl ?_
  refine mj_iload X dL_law_189 0 rfl ?_
  refine mj_iconst X (v := nI 1) dL_law_191 (by decide +kernel) ?_
  refine mj_iadd X dL_law_192 ?_
  refine mj_top (nI (4 * j + 1)) (nI_add (4 * j) 1) ?_
  refine mj_sld X hX hbl (Nat.not_le.mpr hbl) (vp_in_nI (show 4 * j + 1 < L by omega) (by omega)) dL_law_193 ?_
  refine mj_top (xs (4 * j + 1)) (by rw [nI_clamp (by omega)]) ?_
  refine mj_aload_n X dL_law_194 rfl 4 rfl ?_
  refine mj_iload X dL_law_195 0 rfl ?_
  refine mj_iconst X (v := nI 2) dL_law_197 (by decide +kernel) ?_
  refine mj_iadd X dL_law_198 ?_
  refine mj_top (nI (4 * j + 2)) (nI_add (4 * j) 2) ?_
  refine mj_sld X hX hbl (Nat.not_le.mpr hbl) (vp_in_nI (show 4 * j + 2 < L by omega) (by omega)) dL_law_199 ?_
  refine mj_top (xs (4 * j + 2)) (by rw [nI_clamp (by omega)]) ?_
  obtain ⟨fx, hfx⟩ := hI.x
  refine mj_callV X 2 (lw_g gL_law_X8_line) rfl (by decide +kernel) ⟨by decide, by decide⟩ (pr_line l D hox hI ((xs (4 * j + 1))) ((xs (4 * j + 2)))) rfl hfx rfl rfl (Nat.le_of_ble_eq_true rfl) dL_law_200 ⟨by show 31 + 5 * j + 3 ≤ 601024; omega, by show 9467 + 88 * j + 45 ≤ 7293034; omega⟩ (mk_i (fun r1 M1 s1 h1 => ?_))
  obtain ⟨⟨fs, hfs⟩, hc⟩ := h1
  refine mj_pop X dL_law_203 rfl ?_
  refine mj_aload_n X dL_law_204 rfl 2 rfl ?_
  refine mj_aload_n X dL_law_205 rfl 4 rfl ?_
  refine mj_iload X dL_law_206 0 rfl ?_
  refine mj_iconst X (v := nI 1) dL_law_208 (by decide +kernel) ?_
  refine mj_iadd X dL_law_209 ?_
  refine mj_top (nI (4 * j + 1)) (nI_add (4 * j) 1) ?_
  refine mj_sld X hX hbl (Nat.not_le.mpr hbl) (vp_in_nI (show 4 * j + 1 < L by omega) (by omega)) dL_law_210 ?_
  refine mj_top (xs (4 * j + 1)) (by rw [nI_clamp (by omega)]) ?_
  refine mj_aload_n X dL_law_211 rfl 4 rfl ?_
  refine mj_iload X dL_law_212 0 rfl ?_
  refine mj_iconst X (v := nI 2) dL_law_214 (by decide +kernel) ?_
  refine mj_iadd X dL_law_215 ?_
  refine mj_top (nI (4 * j + 2)) (nI_add (4 * j) 2) ?_
  refine mj_sld X hX hbl (Nat.not_le.mpr hbl) (vp_in_nI (show 4 * j + 2 < L by omega) (by omega)) dL_law_216 ?_
  refine mj_top (xs (4 * j + 2)) (by rw [nI_clamp (by omega)]) ?_
  refine mj_callV X 2 (lw_g gL_law_X9_line) rfl (by decide +kernel) ⟨by decide, by decide⟩ hc rfl hfs rfl rfl (Nat.le_of_ble_eq_true rfl) dL_law_217 ⟨by show 31 + 5 * j + 3 + 0 ≤ 601024; omega, by show 9467 + 88 * j + 45 + 0 ≤ 7293034; omega⟩ (mk_i (fun r2 M2 s2 h2 => ?_))
  refine mj_pop X dL_law_220 rfl ?_
  refine mj_goto X 681 dL_law_221 (by decide) ?_
  exact mj_widen (31 + 5 * (j + 1)) (9467 + 88 * (j + 1)) (by show 31 + 5 * j + 3 + 0 ≤ 31 + 5 * (j + 1); omega) (by show 9467 + 88 * j + 45 + 0 ≤ 9467 + 88 * (j + 1); omega) (hn M2 s2 h2.2)

set_option maxHeartbeats 4000000 in
set_option maxRecDepth 100000 in
theorem lc_4 {p : Program} {l : Launch} {e : Env} {s : State} {m : MethodId} {below : List Frame} {meth : Method} {c : Code} {D : va_G} {ca : Nat → ClassId} {b L x o j : Nat} {xs : Nat → Int32} {M : mw_M} {sz : Nat} (X : mw_X p s m #[Value.ref b] meth c cL_law 7 RL lw_tbl D vwCl (mt ca)) (hX : va_X b L xs s s.heap) (hbl : b < s.heap.size) (hl0 : l.stackTraces = false) (hZ : mx_Z (fun q => s.heap.size ≤ q) s s.heap) (hox : o = x + 14) (hj : 4 * j + 4 ≤ L) (hL : L ≤ 2048) (hI : Inv ca M x o) (hn : ∀ (M' : mw_M) (sz' : Nat), Inv ca M' x o → mw_J p l e room_1 s m #[Value.ref b] below meth c 7 D vwCl (fun q => s.heap.size ≤ q) (lw_Z below #[Value.ref b] s) 681 [(4, .int (nI (4 * j))), (3, .ref (x + 29)), (2, .ref o), (1, .ref x), (0, .ref b)] [] M' sz' (31 + 5 * (j + 1)) (9467 + 88 * (j + 1))) : mw_J p l e room_1 s m #[Value.ref b] below meth c 7 D vwCl (fun q => s.heap.size ≤ q) (lw_Z below #[Value.ref b] s) 224 [(4, .int (nI (4 * j))), (3, .ref (x + 29)), (2, .ref o), (1, .ref x), (0, .ref b)] [] M sz (31 + 5 * j) (9467 + 88 * j) := by
  refine mj_aload_n X dL_law_224 rfl 3 rfl ?_
  obtain ⟨fx, hfx⟩ := hI.x
  refine mj_callV X 0 (lw_g gL_law_X8_sum) rfl (by decide +kernel) ⟨by decide, by decide⟩ (pr_sum l D hox hI ) rfl hfx rfl rfl (Nat.le_of_ble_eq_true rfl) dL_law_225 ⟨by show 31 + 5 * j + 0 ≤ 601024; omega, by show 9467 + 88 * j + 0 ≤ 7293034; omega⟩ (mk_i (fun r1 M1 s1 h1 => ?_))
  obtain ⟨⟨fs, hfs⟩, hc⟩ := h1
  refine mj_pop X dL_law_228 rfl ?_
  refine mj_aload_n X dL_law_229 rfl 2 rfl ?_
  refine mj_callV X 0 (lw_g gL_law_X9_sum) rfl (by decide +kernel) ⟨by decide, by decide⟩ hc rfl hfs rfl rfl (Nat.le_of_ble_eq_true rfl) dL_law_230 ⟨by show 31 + 5 * j + 0 + 0 ≤ 601024; omega, by show 9467 + 88 * j + 0 + 0 ≤ 7293034; omega⟩ (mk_i (fun r2 M2 s2 h2 => ?_))
  refine mj_pop X dL_law_233 rfl ?_
  refine mj_goto X 681 dL_law_234 (by decide) ?_
  exact mj_widen (31 + 5 * (j + 1)) (9467 + 88 * (j + 1)) (by show 31 + 5 * j + 0 + 0 ≤ 31 + 5 * (j + 1); omega) (by show 9467 + 88 * j + 0 + 0 ≤ 9467 + 88 * (j + 1); omega) (hn M2 s2 h2.2)

set_option maxHeartbeats 4000000 in
set_option maxRecDepth 100000 in
theorem lc_5 {p : Program} {l : Launch} {e : Env} {s : State} {m : MethodId} {below : List Frame} {meth : Method} {c : Code} {D : va_G} {ca : Nat → ClassId} {b L x o j : Nat} {xs : Nat → Int32} {M : mw_M} {sz : Nat} (X : mw_X p s m #[Value.ref b] meth c cL_law 7 RL lw_tbl D vwCl (mt ca)) (hX : va_X b L xs s s.heap) (hbl : b < s.heap.size) (hl0 : l.stackTraces = false) (hZ : mx_Z (fun q => s.heap.size ≤ q) s s.heap) (hox : o = x + 14) (hj : 4 * j + 4 ≤ L) (hL : L ≤ 2048) (hI : Inv ca M x o) (hn : ∀ (M' : mw_M) (sz' : Nat), Inv ca M' x o → mw_J p l e room_1 s m #[Value.ref b] below meth c 7 D vwCl (fun q => s.heap.size ≤ q) (lw_Z below #[Value.ref b] s) 681 [(4, .int (nI (4 * j))), (3, .ref (x + 29)), (2, .ref o), (1, .ref x), (0, .ref b)] [] M' sz' (31 + 5 * (j + 1)) (9467 + 88 * (j + 1))) : mw_J p l e room_1 s m #[Value.ref b] below meth c 7 D vwCl (fun q => s.heap.size ≤ q) (lw_Z below #[Value.ref b] s) 237 [(4, .int (nI (4 * j))), (3, .ref (x + 29)), (2, .ref o), (1, .ref x), (0, .ref b)] [] M sz (31 + 5 * j) (9467 + 88 * j) := by
  refine mj_aload_n X dL_law_237 rfl 3 rfl ?_
  obtain ⟨fx, hfx⟩ := hI.x
  refine mj_callV X 0 (lw_g gL_law_X8_check) rfl (by decide +kernel) ⟨by decide, by decide⟩ (pr_check l D hox hI ) rfl hfx rfl rfl (Nat.le_of_ble_eq_true rfl) dL_law_238 ⟨by show 31 + 5 * j + 0 ≤ 601024; omega, by show 9467 + 88 * j + 0 ≤ 7293034; omega⟩ (mk_i (fun r1 M1 s1 h1 => ?_))
  obtain ⟨⟨fs, hfs⟩, hc⟩ := h1
  refine mj_pop X dL_law_241 rfl ?_
  refine mj_aload_n X dL_law_242 rfl 2 rfl ?_
  refine mj_callV X 0 (lw_g gL_law_X9_check) rfl (by decide +kernel) ⟨by decide, by decide⟩ hc rfl hfs rfl rfl (Nat.le_of_ble_eq_true rfl) dL_law_243 ⟨by show 31 + 5 * j + 0 + 0 ≤ 601024; omega, by show 9467 + 88 * j + 0 + 0 ≤ 7293034; omega⟩ (mk_i (fun r2 M2 s2 h2 => ?_))
  refine mj_pop X dL_law_246 rfl ?_
  refine mj_goto X 681 dL_law_247 (by decide) ?_
  exact mj_widen (31 + 5 * (j + 1)) (9467 + 88 * (j + 1)) (by show 31 + 5 * j + 0 + 0 ≤ 31 + 5 * (j + 1); omega) (by show 9467 + 88 * j + 0 + 0 ≤ 9467 + 88 * (j + 1); omega) (hn M2 s2 h2.2)

set_option maxHeartbeats 4000000 in
set_option maxRecDepth 100000 in
theorem lc_6 {p : Program} {l : Launch} {e : Env} {s : State} {m : MethodId} {below : List Frame} {meth : Method} {c : Code} {D : va_G} {ca : Nat → ClassId} {b L x o j : Nat} {xs : Nat → Int32} {M : mw_M} {sz : Nat} (X : mw_X p s m #[Value.ref b] meth c cL_law 7 RL lw_tbl D vwCl (mt ca)) (hX : va_X b L xs s s.heap) (hbl : b < s.heap.size) (hl0 : l.stackTraces = false) (hZ : mx_Z (fun q => s.heap.size ≤ q) s s.heap) (hox : o = x + 14) (hj : 4 * j + 4 ≤ L) (hL : L ≤ 2048) (hI : Inv ca M x o) (hn : ∀ (M' : mw_M) (sz' : Nat), Inv ca M' x o → mw_J p l e room_1 s m #[Value.ref b] below meth c 7 D vwCl (fun q => s.heap.size ≤ q) (lw_Z below #[Value.ref b] s) 681 [(4, .int (nI (4 * j))), (3, .ref (x + 29)), (2, .ref o), (1, .ref x), (0, .ref b)] [] M' sz' (31 + 5 * (j + 1)) (9467 + 88 * (j + 1))) : mw_J p l e room_1 s m #[Value.ref b] below meth c 7 D vwCl (fun q => s.heap.size ≤ q) (lw_Z below #[Value.ref b] s) 250 [(4, .int (nI (4 * j))), (3, .ref (x + 29)), (2, .ref o), (1, .ref x), (0, .ref b)] [] M sz (31 + 5 * j) (9467 + 88 * j) := by
  refine mj_aload_n X dL_law_250 rfl 3 rfl ?_
  refine mj_aload_n X dL_law_251 rfl 4 rfl ?_
  refine mj_iload X dL_law_252 0 rfl ?_
  refine mj_iconst X (v := nI 1) dL_law_254 (by decide +kernel) ?_
  refine mj_iadd X dL_law_255 ?_
  refine mj_top (nI (4 * j + 1)) (nI_add (4 * j) 1) ?_
  refine mj_sld X hX hbl (Nat.not_le.mpr hbl) (vp_in_nI (show 4 * j + 1 < L by omega) (by omega)) dL_law_256 ?_
  refine mj_top (xs (4 * j + 1)) (by rw [nI_clamp (by omega)]) ?_
  refine mj_aload_n X dL_law_257 rfl 4 rfl ?_
  refine mj_iload X dL_law_258 0 rfl ?_
  refine mj_iconst X (v := nI 2) dL_law_260 (by decide +kernel) ?_
  refine mj_iadd X dL_law_261 ?_
  refine mj_top (nI (4 * j + 2)) (nI_add (4 * j) 2) ?_
  refine mj_sld X hX hbl (Nat.not_le.mpr hbl) (vp_in_nI (show 4 * j + 2 < L by omega) (by omega)) dL_law_262 ?_
  refine mj_top (xs (4 * j + 2)) (by rw [nI_clamp (by omega)]) ?_
  refine mj_aload_n X dL_law_263 rfl 1 rfl ?_
  refine mx_callSW X 4 (lw_g gL_law_L_fault) rfl (by decide +kernel) ⟨by decide, by decide⟩ (pr_fault l hl0 D hox hI ((xs (4 * j + 1))) ((xs (4 * j + 2)))) hZ rfl rfl (Nat.le_of_ble_eq_true rfl) dL_law_264 ⟨by show 31 + 5 * j + 1 ≤ 601024; omega, by show 9467 + 88 * j + 6 ≤ 7293034; omega⟩ (mk_i (fun r1 M1 s1 h1 => ?_))
  obtain ⟨⟨fs, hfs⟩, hc⟩ := h1
  refine mj_istore X [(5, .int r1), (4, .int (nI (4 * j))), (3, .ref (x + 29)), (2, .ref o), (1, .ref x), (0, .ref b)] dL_law_267 (by decide) rfl ?_
  refine mj_aload_n X dL_law_269 rfl 3 rfl ?_
  refine mj_aload_n X dL_law_270 rfl 5 rfl ?_
  refine mj_iload X dL_law_271 1 rfl ?_
  refine mj_iconst X (v := nI 1) dL_law_273 (by decide +kernel) ?_
  refine mj_iadd X dL_law_274 ?_
  refine mj_top (nI (4 * j + 1)) (nI_add (4 * j) 1) ?_
  refine mj_sld X hX hbl (Nat.not_le.mpr hbl) (vp_in_nI (show 4 * j + 1 < L by omega) (by omega)) dL_law_275 ?_
  refine mj_top (xs (4 * j + 1)) (by rw [nI_clamp (by omega)]) ?_
  refine mj_aload_n X dL_law_276 rfl 5 rfl ?_
  refine mj_iload X dL_law_277 1 rfl ?_
  refine mj_iconst X (v := nI 2) dL_law_279 (by decide +kernel) ?_
  refine mj_iadd X dL_law_280 ?_
  refine mj_top (nI (4 * j + 2)) (nI_add (4 * j) 2) ?_
  refine mj_sld X hX hbl (Nat.not_le.mpr hbl) (vp_in_nI (show 4 * j + 2 < L by omega) (by omega)) dL_law_281 ?_
  refine mj_top (xs (4 * j + 2)) (by rw [nI_clamp (by omega)]) ?_
  refine mj_callV X 2 (lw_g gL_law_X9_fault) rfl (by decide +kernel) ⟨by decide, by decide⟩ hc rfl hfs rfl rfl (Nat.le_of_ble_eq_true rfl) dL_law_282 ⟨by show 31 + 5 * j + 1 + 0 ≤ 601024; omega, by show 9467 + 88 * j + 6 + 0 ≤ 7293034; omega⟩ (mk_i (fun r2 M2 s2 h2 => ?_))
  refine mj_istore X [(6, .int r2), (5, .int r1), (4, .int (nI (4 * j))), (3, .ref (x + 29)), (2, .ref o), (1, .ref x), (0, .ref b)] dL_law_285 (by decide) rfl ?_
  refine mj_goto X 681 dL_law_287 (by decide) ?_
  refine mj_sub [2, 3, 4, 5, 6] rfl ?_
  exact mj_widen (31 + 5 * (j + 1)) (9467 + 88 * (j + 1)) (by show 31 + 5 * j + 1 + 0 ≤ 31 + 5 * (j + 1); omega) (by show 9467 + 88 * j + 6 + 0 ≤ 9467 + 88 * (j + 1); omega) (hn M2 s2 h2)

set_option maxHeartbeats 4000000 in
set_option maxRecDepth 100000 in
theorem lc_7 {p : Program} {l : Launch} {e : Env} {s : State} {m : MethodId} {below : List Frame} {meth : Method} {c : Code} {D : va_G} {ca : Nat → ClassId} {b L x o j : Nat} {xs : Nat → Int32} {M : mw_M} {sz : Nat} (X : mw_X p s m #[Value.ref b] meth c cL_law 7 RL lw_tbl D vwCl (mt ca)) (hX : va_X b L xs s s.heap) (hbl : b < s.heap.size) (hl0 : l.stackTraces = false) (hZ : mx_Z (fun q => s.heap.size ≤ q) s s.heap) (hox : o = x + 14) (hj : 4 * j + 4 ≤ L) (hL : L ≤ 2048) (hI : Inv ca M x o) (hn : ∀ (M' : mw_M) (sz' : Nat), Inv ca M' x o → mw_J p l e room_1 s m #[Value.ref b] below meth c 7 D vwCl (fun q => s.heap.size ≤ q) (lw_Z below #[Value.ref b] s) 681 [(4, .int (nI (4 * j))), (3, .ref (x + 29)), (2, .ref o), (1, .ref x), (0, .ref b)] [] M' sz' (31 + 5 * (j + 1)) (9467 + 88 * (j + 1))) : mw_J p l e room_1 s m #[Value.ref b] below meth c 7 D vwCl (fun q => s.heap.size ≤ q) (lw_Z below #[Value.ref b] s) 290 [(4, .int (nI (4 * j))), (3, .ref (x + 29)), (2, .ref o), (1, .ref x), (0, .ref b)] [] M sz (31 + 5 * j) (9467 + 88 * j) := by
  refine mj_aload_n X dL_law_290 rfl 3 rfl ?_
  obtain ⟨fx, hfx⟩ := hI.x
  refine mj_callV X 0 (lw_g gL_law_X8_accept) rfl (by decide +kernel) ⟨by decide, by decide⟩ (pr_accept l D hox hI ) rfl hfx rfl rfl (Nat.le_of_ble_eq_true rfl) dL_law_291 ⟨by show 31 + 5 * j + 2 ≤ 601024; omega, by show 9467 + 88 * j + 10 ≤ 7293034; omega⟩ (mk_i (fun r1 M1 s1 h1 => ?_))
  obtain ⟨⟨fs, hfs⟩, hc⟩ := h1
  refine mj_pop X dL_law_294 rfl ?_
  refine mj_aload_n X dL_law_295 rfl 2 rfl ?_
  refine mj_callV X 0 (lw_g gL_law_X9_accept) rfl (by decide +kernel) ⟨by decide, by decide⟩ hc rfl hfs rfl rfl (Nat.le_of_ble_eq_true rfl) dL_law_296 ⟨by show 31 + 5 * j + 2 + 0 ≤ 601024; omega, by show 9467 + 88 * j + 10 + 0 ≤ 7293034; omega⟩ (mk_i (fun r2 M2 s2 h2 => ?_))
  refine mj_pop X dL_law_299 rfl ?_
  refine mj_goto X 681 dL_law_300 (by decide) ?_
  exact mj_widen (31 + 5 * (j + 1)) (9467 + 88 * (j + 1)) (by show 31 + 5 * j + 2 + 0 ≤ 31 + 5 * (j + 1); omega) (by show 9467 + 88 * j + 10 + 0 ≤ 9467 + 88 * (j + 1); omega) (hn M2 s2 h2.2)

set_option maxHeartbeats 4000000 in
set_option maxRecDepth 100000 in
theorem lc_8 {p : Program} {l : Launch} {e : Env} {s : State} {m : MethodId} {below : List Frame} {meth : Method} {c : Code} {D : va_G} {ca : Nat → ClassId} {b L x o j : Nat} {xs : Nat → Int32} {M : mw_M} {sz : Nat} (X : mw_X p s m #[Value.ref b] meth c cL_law 7 RL lw_tbl D vwCl (mt ca)) (hX : va_X b L xs s s.heap) (hbl : b < s.heap.size) (hl0 : l.stackTraces = false) (hZ : mx_Z (fun q => s.heap.size ≤ q) s s.heap) (hox : o = x + 14) (hj : 4 * j + 4 ≤ L) (hL : L ≤ 2048) (hI : Inv ca M x o) (hn : ∀ (M' : mw_M) (sz' : Nat), Inv ca M' x o → mw_J p l e room_1 s m #[Value.ref b] below meth c 7 D vwCl (fun q => s.heap.size ≤ q) (lw_Z below #[Value.ref b] s) 681 [(4, .int (nI (4 * j))), (3, .ref (x + 29)), (2, .ref o), (1, .ref x), (0, .ref b)] [] M' sz' (31 + 5 * (j + 1)) (9467 + 88 * (j + 1))) : mw_J p l e room_1 s m #[Value.ref b] below meth c 7 D vwCl (fun q => s.heap.size ≤ q) (lw_Z below #[Value.ref b] s) 303 [(4, .int (nI (4 * j))), (3, .ref (x + 29)), (2, .ref o), (1, .ref x), (0, .ref b)] [] M sz (31 + 5 * j) (9467 + 88 * j) := by
  refine mj_aload_n X dL_law_303 rfl 3 rfl ?_
  obtain ⟨fx, hfx⟩ := hI.x
  refine mj_callV X 0 (lw_g gL_law_X8_drop) rfl (by decide +kernel) ⟨by decide, by decide⟩ (pr_drop l D hox hI ) rfl hfx rfl rfl (Nat.le_of_ble_eq_true rfl) dL_law_304 ⟨by show 31 + 5 * j + 0 ≤ 601024; omega, by show 9467 + 88 * j + 0 ≤ 7293034; omega⟩ (mk_i (fun r1 M1 s1 h1 => ?_))
  obtain ⟨⟨fs, hfs⟩, hc⟩ := h1
  refine mj_pop X dL_law_307 rfl ?_
  refine mj_aload_n X dL_law_308 rfl 2 rfl ?_
  refine mj_callV X 0 (lw_g gL_law_X9_drop) rfl (by decide +kernel) ⟨by decide, by decide⟩ hc rfl hfs rfl rfl (Nat.le_of_ble_eq_true rfl) dL_law_309 ⟨by show 31 + 5 * j + 0 + 0 ≤ 601024; omega, by show 9467 + 88 * j + 0 + 0 ≤ 7293034; omega⟩ (mk_i (fun r2 M2 s2 h2 => ?_))
  refine mj_pop X dL_law_312 rfl ?_
  refine mj_goto X 681 dL_law_313 (by decide) ?_
  exact mj_widen (31 + 5 * (j + 1)) (9467 + 88 * (j + 1)) (by show 31 + 5 * j + 0 + 0 ≤ 31 + 5 * (j + 1); omega) (by show 9467 + 88 * j + 0 + 0 ≤ 9467 + 88 * (j + 1); omega) (hn M2 s2 h2.2)

set_option maxHeartbeats 4000000 in
set_option maxRecDepth 100000 in
theorem lc_9 {p : Program} {l : Launch} {e : Env} {s : State} {m : MethodId} {below : List Frame} {meth : Method} {c : Code} {D : va_G} {ca : Nat → ClassId} {b L x o j : Nat} {xs : Nat → Int32} {M : mw_M} {sz : Nat} (X : mw_X p s m #[Value.ref b] meth c cL_law 7 RL lw_tbl D vwCl (mt ca)) (hX : va_X b L xs s s.heap) (hbl : b < s.heap.size) (hl0 : l.stackTraces = false) (hZ : mx_Z (fun q => s.heap.size ≤ q) s s.heap) (hox : o = x + 14) (hj : 4 * j + 4 ≤ L) (hL : L ≤ 2048) (hI : Inv ca M x o) (hn : ∀ (M' : mw_M) (sz' : Nat), Inv ca M' x o → mw_J p l e room_1 s m #[Value.ref b] below meth c 7 D vwCl (fun q => s.heap.size ≤ q) (lw_Z below #[Value.ref b] s) 681 [(4, .int (nI (4 * j))), (3, .ref (x + 29)), (2, .ref o), (1, .ref x), (0, .ref b)] [] M' sz' (31 + 5 * (j + 1)) (9467 + 88 * (j + 1))) : mw_J p l e room_1 s m #[Value.ref b] below meth c 7 D vwCl (fun q => s.heap.size ≤ q) (lw_Z below #[Value.ref b] s) 316 [(4, .int (nI (4 * j))), (3, .ref (x + 29)), (2, .ref o), (1, .ref x), (0, .ref b)] [] M sz (31 + 5 * j) (9467 + 88 * j) := by
  refine mj_aload_n X dL_law_316 rfl 3 rfl ?_
  refine mj_aload_n X dL_law_317 rfl 4 rfl ?_
  refine mj_iload X dL_law_318 0 rfl ?_
  refine mj_iconst X (v := nI 1) dL_law_320 (by decide +kernel) ?_
  refine mj_iadd X dL_law_321 ?_
  refine mj_top (nI (4 * j + 1)) (nI_add (4 * j) 1) ?_
  refine mj_sld X hX hbl (Nat.not_le.mpr hbl) (vp_in_nI (show 4 * j + 1 < L by omega) (by omega)) dL_law_322 ?_
  refine mj_top (xs (4 * j + 1)) (by rw [nI_clamp (by omega)]) ?_
  obtain ⟨fx, hfx⟩ := hI.x
  refine mj_callV X 1 (lw_g gL_law_X8_files) rfl (by decide +kernel) ⟨by decide, by decide⟩ (pr_files l D hox hI ((xs (4 * j + 1)))) rfl hfx rfl rfl (Nat.le_of_ble_eq_true rfl) dL_law_323 ⟨by show 31 + 5 * j + 0 ≤ 601024; omega, by show 9467 + 88 * j + 0 ≤ 7293034; omega⟩ (mk_i (fun r1 M1 s1 h1 => ?_))
  obtain ⟨⟨fs, hfs⟩, hc⟩ := h1
  refine mj_pop X dL_law_326 rfl ?_
  refine mj_aload_n X dL_law_327 rfl 2 rfl ?_
  refine mj_aload_n X dL_law_328 rfl 4 rfl ?_
  refine mj_iload X dL_law_329 0 rfl ?_
  refine mj_iconst X (v := nI 1) dL_law_331 (by decide +kernel) ?_
  refine mj_iadd X dL_law_332 ?_
  refine mj_top (nI (4 * j + 1)) (nI_add (4 * j) 1) ?_
  refine mj_sld X hX hbl (Nat.not_le.mpr hbl) (vp_in_nI (show 4 * j + 1 < L by omega) (by omega)) dL_law_333 ?_
  refine mj_top (xs (4 * j + 1)) (by rw [nI_clamp (by omega)]) ?_
  refine mj_callV X 1 (lw_g gL_law_X9_files) rfl (by decide +kernel) ⟨by decide, by decide⟩ hc rfl hfs rfl rfl (Nat.le_of_ble_eq_true rfl) dL_law_334 ⟨by show 31 + 5 * j + 0 + 0 ≤ 601024; omega, by show 9467 + 88 * j + 0 + 0 ≤ 7293034; omega⟩ (mk_i (fun r2 M2 s2 h2 => ?_))
  refine mj_pop X dL_law_337 rfl ?_
  refine mj_goto X 681 dL_law_338 (by decide) ?_
  exact mj_widen (31 + 5 * (j + 1)) (9467 + 88 * (j + 1)) (by show 31 + 5 * j + 0 + 0 ≤ 31 + 5 * (j + 1); omega) (by show 9467 + 88 * j + 0 + 0 ≤ 9467 + 88 * (j + 1); omega) (hn M2 s2 h2.2)
