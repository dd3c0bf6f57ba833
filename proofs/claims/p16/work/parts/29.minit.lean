theorem w_M_init_0 : Cond.methodLink RX9 1 Lib.objectInit ∈ wsX9_init := by decide +kernel
theorem w_M_init_1 : Cond.instanceMethod Lib.objectInit ∈ wsX9_init := by decide +kernel
theorem w_M_init_2 : Cond.code Lib.objectInit ⟨#[0xb1]⟩ 1 none ∈ wsX9_init := by decide +kernel
theorem w_M_init_3 : Cond.arrayClass .byte ∈ wsX9_init := by decide +kernel
theorem w_M_init_4 : ∀ w ∈ u_ws RX9 TX9 25, w ∈ wsX9_init := by decide +kernel
theorem w_M_init_5 : Cond.fieldLink RX9 7 "PackageRows2Model" "path" "[B" ∈ wsX9_init := by decide +kernel
theorem w_M_init_6 : Cond.fieldLink RX9 13 "PackageRows2Model" "bytes" "[B" ∈ wsX9_init := by decide +kernel
theorem w_M_init_7 : Cond.arrayClass .int ∈ wsX9_init := by decide +kernel
theorem w_M_init_8 : Cond.fieldLink RX9 16 "PackageRows2Model" "pathSize" "[I" ∈ wsX9_init := by decide +kernel
theorem w_M_init_9 : Cond.fieldLink RX9 20 "PackageRows2Model" "paths" "[B" ∈ wsX9_init := by decide +kernel
theorem w_M_init_10 : Cond.fieldLink RX9 23 "PackageRows2Model" "size" "[I" ∈ wsX9_init := by decide +kernel
theorem w_M_init_11 : Cond.fieldLink RX9 26 "PackageRows2Model" "content" "[B" ∈ wsX9_init := by decide +kernel
theorem w_M_init_12 : Cond.fieldLink RX9 29 "PackageRows2Model" "lineSize" "[I" ∈ wsX9_init := by decide +kernel
theorem w_M_init_13 : Cond.fieldLink RX9 32 "PackageRows2Model" "lineSum" "[I" ∈ wsX9_init := by decide +kernel
theorem w_M_init_14 : Cond.fieldLink RX9 35 "PackageRows2Model" "many" "[I" ∈ wsX9_init := by decide +kernel
theorem w_M_init_15 : Cond.fieldLink RX9 38 "PackageRows2Model" "shared" "[I" ∈ wsX9_init := by decide +kernel
theorem w_M_init_16 : Cond.fieldLink RX9 41 "PackageRows2Model" "fault" "[I" ∈ wsX9_init := by decide +kernel
theorem w_M_init_17 : Cond.fieldLink RX9 44 "PackageRows2Model" "faultOf" "[I" ∈ wsX9_init := by decide +kernel
theorem w_M_init_18 : Cond.arrayClass .boolean ∈ wsX9_init := by decide +kernel
theorem w_M_init_19 : Cond.fieldLink RX9 47 "PackageRows2Model" "here" "[Z" ∈ wsX9_init := by decide +kernel
theorem w_M_init_20 : Cond.fieldLink RX9 51 "PackageRows2Model" "joined" "[B" ∈ wsX9_init := by decide +kernel
set_option maxHeartbeats 4000000 in
set_option maxRecDepth 100000 in
/--  -/
theorem c_M_init (l : Launch) (D : va_G) (ca : Nat → ClassId) (M : mw_M) (o : Nat) (ho : M o = some (.inr (9, [.int 0, .int 0, .null, .int 0, .null, .int 0, .int 0, .null, .null, .null, .null, .null, .null, .int 0, .null, .null, .int 0, .null, .null, .int 0, .int 0, .int 0, .int 0, .null, .null]))) : mw_C wsX9_init l yX9_init { frames := 1, cells := 14, slots := 8834, locals := 12 } D vwCl (mt ca) [.ref o] M (o + 1) (mq_v (fun M' sz' => M' o = some (.inr (9, mdF o 0 0 0 0 0 0 0 0 0 0 0)) ∧ M' (o + 1) = some (.inl (ca 2, 30, .inl (fun _ => 0))) ∧ M' (o + 2) = some (.inl (ca 2, 40, .inl (fun _ => 0))) ∧ M' (o + 3) = some (.inl (ca 0, 120, .inl (fun _ => 0))) ∧ M' (o + 4) = some (.inl (ca 2, 2880, .inl (fun _ => 0))) ∧ M' (o + 5) = some (.inl (ca 0, 120, .inl (fun _ => 0))) ∧ M' (o + 6) = some (.inl (ca 2, 4800, .inl (fun _ => 0))) ∧ M' (o + 7) = some (.inl (ca 0, 12, .inl (fun _ => 0))) ∧ M' (o + 8) = some (.inl (ca 0, 12, .inl (fun _ => 0))) ∧ M' (o + 9) = some (.inl (ca 0, 12, .inl (fun _ => 0))) ∧ M' (o + 10) = some (.inl (ca 0, 120, .inl (fun _ => 0))) ∧ M' (o + 11) = some (.inl (ca 0, 24, .inl (fun _ => 0))) ∧ M' (o + 12) = some (.inl (ca 0, 24, .inl (fun _ => 0))) ∧ M' (o + 13) = some (.inl (ca 1, 320, .inl (fun _ => 0))) ∧ M' (o + 14) = some (.inl (ca 2, 320, .inl (fun _ => 0))) ∧ (∀ a, a < o → M' a = M a) ∧ sz' = o + 15)) := by
  refine mw_enter (cc := cX9_init) (maxL := 1) (ret := none) rfl (by decide) (Nat.le_of_ble_eq_true rfl) ?_
  intro p e s m below meth c X hr0 hnm hlt
  refine mj_aload_n X dX9_init_0 rfl 0 rfl ?_
  refine mj_objInit X w_M_init_0 w_M_init_1 w_M_init_2 dX9_init_1 (by decide) (Nat.le_of_ble_eq_true rfl) ?_
  refine mj_aload_n X dX9_init_4 rfl 0 rfl ?_
  refine mj_bipush X (v := 30) dX9_init_5 (by decide +kernel) ?_
  refine mj_newa X (atype := .byte) 2 30 (30, .inl (fun _ => 0)) rfl rfl (fun _ h9 => h9) w_M_init_3 (fun _ => rfl) (by decide) (by decide) (by decide) (by decide) (by decide) dX9_init_7 ?_
  have f1_ := (mw_un (M := M) (e := (.inl (ca 2, 30, .inl (fun _ => 0)))) (show o ≠ o + 1 by omega)).trans ho
  refine mj_putF X (C := RX9) (T := TX9) (N := 25) (ci := 9) (v := .ref (o + 1)) tyX9 w_M_init_4 tyX9_ok nmX9 rfl 2 (by decide) w_M_init_5 rfl f1_ [.int 0, .int 0, .ref (o + 1), .int 0, .null, .int 0, .int 0, .null, .null, .null, .null, .null, .null, .int 0, .null, .null, .int 0, .null, .null, .int 0, .int 0, .int 0, .int 0, .null, .null] (Nat.le_of_ble_eq_true rfl) rfl rfl rfl rfl hnm rfl dX9_init_9 ?_
  obtain ⟨M1, eM1⟩ : ∃ z : mw_M, z = (mw_u (mw_u M (o + 1) (.inl (ca 2, 30, .inl (fun _ => 0)))) o (.inr (9, [.int 0, .int 0, .ref (o + 1), .int 0, .null, .int 0, .int 0, .null, .null, .null, .null, .null, .null, .int 0, .null, .null, .int 0, .null, .null, .int 0, .int 0, .int 0, .int 0, .null, .null]))) := ⟨_, rfl⟩
  refine mj_to rfl rfl eM1.symm rfl ?_
  have g1_o : M1 o = some (.inr (9, [.int 0, .int 0, .ref (o + 1), .int 0, .null, .int 0, .int 0, .null, .null, .null, .null, .null, .null, .int 0, .null, .null, .int 0, .null, .null, .int 0, .int 0, .int 0, .int 0, .null, .null])) := by rw [eM1, mw_us]
  have g1_0 : M1 (o + 1) = some (.inl (ca 2, 30, .inl (fun _ => 0))) := by rw [eM1, mw_un (by omega), mw_us]
  have fr1 : ∀ a, a < o → M1 a = M a := fun a h9 => by rw [eM1, mw_un (by omega), mw_un (by omega)]
  refine mj_aload_n X dX9_init_12 rfl 0 rfl ?_
  refine mj_bipush X (v := 40) dX9_init_13 (by decide +kernel) ?_
  refine mj_newa X (atype := .byte) 2 40 (40, .inl (fun _ => 0)) rfl rfl (fun _ h9 => h9) w_M_init_3 (fun _ => rfl) (by decide) (by decide) (by decide) (by decide) (by decide) dX9_init_15 ?_
  have f2_ := (mw_un (M := M1) (e := (.inl (ca 2, 40, .inl (fun _ => 0)))) (show o ≠ o + 2 by omega)).trans g1_o
  refine mj_putF X (C := RX9) (T := TX9) (N := 25) (ci := 9) (v := .ref (o + 2)) tyX9 w_M_init_4 tyX9_ok nmX9 rfl 4 (by decide) w_M_init_6 rfl f2_ [.int 0, .int 0, .ref (o + 1), .int 0, .ref (o + 2), .int 0, .int 0, .null, .null, .null, .null, .null, .null, .int 0, .null, .null, .int 0, .null, .null, .int 0, .int 0, .int 0, .int 0, .null, .null] (Nat.le_of_ble_eq_true rfl) rfl rfl rfl rfl hnm rfl dX9_init_17 ?_
  obtain ⟨M2, eM2⟩ : ∃ z : mw_M, z = (mw_u (mw_u M1 (o + 2) (.inl (ca 2, 40, .inl (fun _ => 0)))) o (.inr (9, [.int 0, .int 0, .ref (o + 1), .int 0, .ref (o + 2), .int 0, .int 0, .null, .null, .null, .null, .null, .null, .int 0, .null, .null, .int 0, .null, .null, .int 0, .int 0, .int 0, .int 0, .null, .null]))) := ⟨_, rfl⟩
  refine mj_to rfl rfl eM2.symm rfl ?_
  have g2_o : M2 o = some (.inr (9, [.int 0, .int 0, .ref (o + 1), .int 0, .ref (o + 2), .int 0, .int 0, .null, .null, .null, .null, .null, .null, .int 0, .null, .null, .int 0, .null, .null, .int 0, .int 0, .int 0, .int 0, .null, .null])) := by rw [eM2, mw_us]
  have g2_0 : M2 (o + 1) = some (.inl (ca 2, 30, .inl (fun _ => 0))) := by rw [eM2, mw_un (by omega), mw_un (by omega)]; exact g1_0
  have g2_1 : M2 (o + 2) = some (.inl (ca 2, 40, .inl (fun _ => 0))) := by rw [eM2, mw_un (by omega), mw_us]
  have fr2 : ∀ a, a < o → M2 a = M a := fun a h9 => by rw [eM2, mw_un (by omega), mw_un (by omega)]; exact fr1 a h9
  refine mj_aload_n X dX9_init_20 rfl 0 rfl ?_
  refine mj_bipush X (v := 120) dX9_init_21 (by decide +kernel) ?_
  refine mj_newa X (atype := .int) 0 120 (120, .inl (fun _ => 0)) rfl rfl (fun _ h9 => h9) w_M_init_7 (fun _ => rfl) (by decide) (by decide) (by decide) (by decide) (by decide) dX9_init_23 ?_
  have f3_ := (mw_un (M := M2) (e := (.inl (ca 0, 120, .inl (fun _ => 0)))) (show o ≠ o + 3 by omega)).trans g2_o
  refine mj_putF X (C := RX9) (T := TX9) (N := 25) (ci := 9) (v := .ref (o + 3)) tyX9 w_M_init_4 tyX9_ok nmX9 rfl 7 (by decide) w_M_init_8 rfl f3_ [.int 0, .int 0, .ref (o + 1), .int 0, .ref (o + 2), .int 0, .int 0, .ref (o + 3), .null, .null, .null, .null, .null, .int 0, .null, .null, .int 0, .null, .null, .int 0, .int 0, .int 0, .int 0, .null, .null] (Nat.le_of_ble_eq_true rfl) rfl rfl rfl rfl hnm rfl dX9_init_25 ?_
  obtain ⟨M3, eM3⟩ : ∃ z : mw_M, z = (mw_u (mw_u M2 (o + 3) (.inl (ca 0, 120, .inl (fun _ => 0)))) o (.inr (9, [.int 0, .int 0, .ref (o + 1), .int 0, .ref (o + 2), .int 0, .int 0, .ref (o + 3), .null, .null, .null, .null, .null, .int 0, .null, .null, .int 0, .null, .null, .int 0, .int 0, .int 0, .int 0, .null, .null]))) := ⟨_, rfl⟩
  refine mj_to rfl rfl eM3.symm rfl ?_
  have g3_o : M3 o = some (.inr (9, [.int 0, .int 0, .ref (o + 1), .int 0, .ref (o + 2), .int 0, .int 0, .ref (o + 3), .null, .null, .null, .null, .null, .int 0, .null, .null, .int 0, .null, .null, .int 0, .int 0, .int 0, .int 0, .null, .null])) := by rw [eM3, mw_us]
  have g3_0 : M3 (o + 1) = some (.inl (ca 2, 30, .inl (fun _ => 0))) := by rw [eM3, mw_un (by omega), mw_un (by omega)]; exact g2_0
  have g3_1 : M3 (o + 2) = some (.inl (ca 2, 40, .inl (fun _ => 0))) := by rw [eM3, mw_un (by omega), mw_un (by omega)]; exact g2_1
  have g3_2 : M3 (o + 3) = some (.inl (ca 0, 120, .inl (fun _ => 0))) := by rw [eM3, mw_un (by omega), mw_us]
  have fr3 : ∀ a, a < o → M3 a = M a := fun a h9 => by rw [eM3, mw_un (by omega), mw_un (by omega)]; exact fr2 a h9
  refine mj_aload_n X dX9_init_28 rfl 0 rfl ?_
  refine mj_sipush X (v := 2880) dX9_init_29 (by decide +kernel) ?_
  refine mj_newa X (atype := .byte) 2 2880 (2880, .inl (fun _ => 0)) rfl rfl (fun _ h9 => h9) w_M_init_3 (fun _ => rfl) (by decide) (by decide) (by decide) (by decide) (by decide) dX9_init_32 ?_
  have f4_ := (mw_un (M := M3) (e := (.inl (ca 2, 2880, .inl (fun _ => 0)))) (show o ≠ o + 4 by omega)).trans g3_o
  refine mj_putF X (C := RX9) (T := TX9) (N := 25) (ci := 9) (v := .ref (o + 4)) tyX9 w_M_init_4 tyX9_ok nmX9 rfl 8 (by decide) w_M_init_9 rfl f4_ [.int 0, .int 0, .ref (o + 1), .int 0, .ref (o + 2), .int 0, .int 0, .ref (o + 3), .ref (o + 4), .null, .null, .null, .null, .int 0, .null, .null, .int 0, .null, .null, .int 0, .int 0, .int 0, .int 0, .null, .null] (Nat.le_of_ble_eq_true rfl) rfl rfl rfl rfl hnm rfl dX9_init_34 ?_
  obtain ⟨M4, eM4⟩ : ∃ z : mw_M, z = (mw_u (mw_u M3 (o + 4) (.inl (ca 2, 2880, .inl (fun _ => 0)))) o (.inr (9, [.int 0, .int 0, .ref (o + 1), .int 0, .ref (o + 2), .int 0, .int 0, .ref (o + 3), .ref (o + 4), .null, .null, .null, .null, .int 0, .null, .null, .int 0, .null, .null, .int 0, .int 0, .int 0, .int 0, .null, .null]))) := ⟨_, rfl⟩
  refine mj_to rfl rfl eM4.symm rfl ?_
  have g4_o : M4 o = some (.inr (9, [.int 0, .int 0, .ref (o + 1), .int 0, .ref (o + 2), .int 0, .int 0, .ref (o + 3), .ref (o + 4), .null, .null, .null, .null, .int 0, .null, .null, .int 0, .null, .null, .int 0, .int 0, .int 0, .int 0, .null, .null])) := by rw [eM4, mw_us]
  have g4_0 : M4 (o + 1) = some (.inl (ca 2, 30, .inl (fun _ => 0))) := by rw [eM4, mw_un (by omega), mw_un (by omega)]; exact g3_0
  have g4_1 : M4 (o + 2) = some (.inl (ca 2, 40, .inl (fun _ => 0))) := by rw [eM4, mw_un (by omega), mw_un (by omega)]; exact g3_1
  have g4_2 : M4 (o + 3) = some (.inl (ca 0, 120, .inl (fun _ => 0))) := by rw [eM4, mw_un (by omega), mw_un (by omega)]; exact g3_2
  have g4_3 : M4 (o + 4) = some (.inl (ca 2, 2880, .inl (fun _ => 0))) := by rw [eM4, mw_un (by omega), mw_us]
  have fr4 : ∀ a, a < o → M4 a = M a := fun a h9 => by rw [eM4, mw_un (by omega), mw_un (by omega)]; exact fr3 a h9
  refine mj_aload_n X dX9_init_37 rfl 0 rfl ?_
  refine mj_bipush X (v := 120) dX9_init_38 (by decide +kernel) ?_
  refine mj_newa X (atype := .int) 0 120 (120, .inl (fun _ => 0)) rfl rfl (fun _ h9 => h9) w_M_init_7 (fun _ => rfl) (by decide) (by decide) (by decide) (by decide) (by decide) dX9_init_40 ?_
  have f5_ := (mw_un (M := M4) (e := (.inl (ca 0, 120, .inl (fun _ => 0)))) (show o ≠ o + 5 by omega)).trans g4_o
  refine mj_putF X (C := RX9) (T := TX9) (N := 25) (ci := 9) (v := .ref (o + 5)) tyX9 w_M_init_4 tyX9_ok nmX9 rfl 9 (by decide) w_M_init_10 rfl f5_ [.int 0, .int 0, .ref (o + 1), .int 0, .ref (o + 2), .int 0, .int 0, .ref (o + 3), .ref (o + 4), .ref (o + 5), .null, .null, .null, .int 0, .null, .null, .int 0, .null, .null, .int 0, .int 0, .int 0, .int 0, .null, .null] (Nat.le_of_ble_eq_true rfl) rfl rfl rfl rfl hnm rfl dX9_init_42 ?_
  obtain ⟨M5, eM5⟩ : ∃ z : mw_M, z = (mw_u (mw_u M4 (o + 5) (.inl (ca 0, 120, .inl (fun _ => 0)))) o (.inr (9, [.int 0, .int 0, .ref (o + 1), .int 0, .ref (o + 2), .int 0, .int 0, .ref (o + 3), .ref (o + 4), .ref (o + 5), .null, .null, .null, .int 0, .null, .null, .int 0, .null, .null, .int 0, .int 0, .int 0, .int 0, .null, .null]))) := ⟨_, rfl⟩
  refine mj_to rfl rfl eM5.symm rfl ?_
  have g5_o : M5 o = some (.inr (9, [.int 0, .int 0, .ref (o + 1), .int 0, .ref (o + 2), .int 0, .int 0, .ref (o + 3), .ref (o + 4), .ref (o + 5), .null, .null, .null, .int 0, .null, .null, .int 0, .null, .null, .int 0, .int 0, .int 0, .int 0, .null, .null])) := by rw [eM5, mw_us]
  have g5_0 : M5 (o + 1) = some (.inl (ca 2, 30, .inl (fun _ => 0))) := by rw [eM5, mw_un (by omega), mw_un (by omega)]; exact g4_0
  have g5_1 : M5 (o + 2) = some (.inl (ca 2, 40, .inl (fun _ => 0))) := by rw [eM5, mw_un (by omega), mw_un (by omega)]; exact g4_1
  have g5_2 : M5 (o + 3) = some (.inl (ca 0, 120, .inl (fun _ => 0))) := by rw [eM5, mw_un (by omega), mw_un (by omega)]; exact g4_2
  have g5_3 : M5 (o + 4) = some (.inl (ca 2, 2880, .inl (fun _ => 0))) := by rw [eM5, mw_un (by omega), mw_un (by omega)]; exact g4_3
  have g5_4 : M5 (o + 5) = some (.inl (ca 0, 120, .inl (fun _ => 0))) := by rw [eM5, mw_un (by omega), mw_us]
  have fr5 : ∀ a, a < o → M5 a = M a := fun a h9 => by rw [eM5, mw_un (by omega), mw_un (by omega)]; exact fr4 a h9
  refine mj_aload_n X dX9_init_45 rfl 0 rfl ?_
  refine mj_sipush X (v := 4800) dX9_init_46 (by decide +kernel) ?_
  refine mj_newa X (atype := .byte) 2 4800 (4800, .inl (fun _ => 0)) rfl rfl (fun _ h9 => h9) w_M_init_3 (fun _ => rfl) (by decide) (by decide) (by decide) (by decide) (by decide) dX9_init_49 ?_
  have f6_ := (mw_un (M := M5) (e := (.inl (ca 2, 4800, .inl (fun _ => 0)))) (show o ≠ o + 6 by omega)).trans g5_o
  refine mj_putF X (C := RX9) (T := TX9) (N := 25) (ci := 9) (v := .ref (o + 6)) tyX9 w_M_init_4 tyX9_ok nmX9 rfl 10 (by decide) w_M_init_11 rfl f6_ [.int 0, .int 0, .ref (o + 1), .int 0, .ref (o + 2), .int 0, .int 0, .ref (o + 3), .ref (o + 4), .ref (o + 5), .ref (o + 6), .null, .null, .int 0, .null, .null, .int 0, .null, .null, .int 0, .int 0, .int 0, .int 0, .null, .null] (Nat.le_of_ble_eq_true rfl) rfl rfl rfl rfl hnm rfl dX9_init_51 ?_
  obtain ⟨M6, eM6⟩ : ∃ z : mw_M, z = (mw_u (mw_u M5 (o + 6) (.inl (ca 2, 4800, .inl (fun _ => 0)))) o (.inr (9, [.int 0, .int 0, .ref (o + 1), .int 0, .ref (o + 2), .int 0, .int 0, .ref (o + 3), .ref (o + 4), .ref (o + 5), .ref (o + 6), .null, .null, .int 0, .null, .null, .int 0, .null, .null, .int 0, .int 0, .int 0, .int 0, .null, .null]))) := ⟨_, rfl⟩
  refine mj_to rfl rfl eM6.symm rfl ?_
  have g6_o : M6 o = some (.inr (9, [.int 0, .int 0, .ref (o + 1), .int 0, .ref (o + 2), .int 0, .int 0, .ref (o + 3), .ref (o + 4), .ref (o + 5), .ref (o + 6), .null, .null, .int 0, .null, .null, .int 0, .null, .null, .int 0, .int 0, .int 0, .int 0, .null, .null])) := by rw [eM6, mw_us]
  have g6_0 : M6 (o + 1) = some (.inl (ca 2, 30, .inl (fun _ => 0))) := by rw [eM6, mw_un (by omega), mw_un (by omega)]; exact g5_0
  have g6_1 : M6 (o + 2) = some (.inl (ca 2, 40, .inl (fun _ => 0))) := by rw [eM6, mw_un (by omega), mw_un (by omega)]; exact g5_1
  have g6_2 : M6 (o + 3) = some (.inl (ca 0, 120, .inl (fun _ => 0))) := by rw [eM6, mw_un (by omega), mw_un (by omega)]; exact g5_2
  have g6_3 : M6 (o + 4) = some (.inl (ca 2, 2880, .inl (fun _ => 0))) := by rw [eM6, mw_un (by omega), mw_un (by omega)]; exact g5_3
  have g6_4 : M6 (o + 5) = some (.inl (ca 0, 120, .inl (fun _ => 0))) := by rw [eM6, mw_un (by omega), mw_un (by omega)]; exact g5_4
  have g6_5 : M6 (o + 6) = some (.inl (ca 2, 4800, .inl (fun _ => 0))) := by rw [eM6, mw_un (by omega), mw_us]
  have fr6 : ∀ a, a < o → M6 a = M a := fun a h9 => by rw [eM6, mw_un (by omega), mw_un (by omega)]; exact fr5 a h9
  refine mj_aload_n X dX9_init_54 rfl 0 rfl ?_
  refine mj_bipush X (v := 12) dX9_init_55 (by decide +kernel) ?_
  refine mj_newa X (atype := .int) 0 12 (12, .inl (fun _ => 0)) rfl rfl (fun _ h9 => h9) w_M_init_7 (fun _ => rfl) (by decide) (by decide) (by decide) (by decide) (by decide) dX9_init_57 ?_
  have f7_ := (mw_un (M := M6) (e := (.inl (ca 0, 12, .inl (fun _ => 0)))) (show o ≠ o + 7 by omega)).trans g6_o
  refine mj_putF X (C := RX9) (T := TX9) (N := 25) (ci := 9) (v := .ref (o + 7)) tyX9 w_M_init_4 tyX9_ok nmX9 rfl 11 (by decide) w_M_init_12 rfl f7_ [.int 0, .int 0, .ref (o + 1), .int 0, .ref (o + 2), .int 0, .int 0, .ref (o + 3), .ref (o + 4), .ref (o + 5), .ref (o + 6), .ref (o + 7), .null, .int 0, .null, .null, .int 0, .null, .null, .int 0, .int 0, .int 0, .int 0, .null, .null] (Nat.le_of_ble_eq_true rfl) rfl rfl rfl rfl hnm rfl dX9_init_59 ?_
  obtain ⟨M7, eM7⟩ : ∃ z : mw_M, z = (mw_u (mw_u M6 (o + 7) (.inl (ca 0, 12, .inl (fun _ => 0)))) o (.inr (9, [.int 0, .int 0, .ref (o + 1), .int 0, .ref (o + 2), .int 0, .int 0, .ref (o + 3), .ref (o + 4), .ref (o + 5), .ref (o + 6), .ref (o + 7), .null, .int 0, .null, .null, .int 0, .null, .null, .int 0, .int 0, .int 0, .int 0, .null, .null]))) := ⟨_, rfl⟩
  refine mj_to rfl rfl eM7.symm rfl ?_
  have g7_o : M7 o = some (.inr (9, [.int 0, .int 0, .ref (o + 1), .int 0, .ref (o + 2), .int 0, .int 0, .ref (o + 3), .ref (o + 4), .ref (o + 5), .ref (o + 6), .ref (o + 7), .null, .int 0, .null, .null, .int 0, .null, .null, .int 0, .int 0, .int 0, .int 0, .null, .null])) := by rw [eM7, mw_us]
  have g7_0 : M7 (o + 1) = some (.inl (ca 2, 30, .inl (fun _ => 0))) := by rw [eM7, mw_un (by omega), mw_un (by omega)]; exact g6_0
  have g7_1 : M7 (o + 2) = some (.inl (ca 2, 40, .inl (fun _ => 0))) := by rw [eM7, mw_un (by omega), mw_un (by omega)]; exact g6_1
  have g7_2 : M7 (o + 3) = some (.inl (ca 0, 120, .inl (fun _ => 0))) := by rw [eM7, mw_un (by omega), mw_un (by omega)]; exact g6_2
  have g7_3 : M7 (o + 4) = some (.inl (ca 2, 2880, .inl (fun _ => 0))) := by rw [eM7, mw_un (by omega), mw_un (by omega)]; exact g6_3
  have g7_4 : M7 (o + 5) = some (.inl (ca 0, 120, .inl (fun _ => 0))) := by rw [eM7, mw_un (by omega), mw_un (by omega)]; exact g6_4
  have g7_5 : M7 (o + 6) = some (.inl (ca 2, 4800, .inl (fun _ => 0))) := by rw [eM7, mw_un (by omega), mw_un (by omega)]; exact g6_5
  have g7_6 : M7 (o + 7) = some (.inl (ca 0, 12, .inl (fun _ => 0))) := by rw [eM7, mw_un (by omega), mw_us]
  have fr7 : ∀ a, a < o → M7 a = M a := fun a h9 => by rw [eM7, mw_un (by omega), mw_un (by omega)]; exact fr6 a h9
  refine mj_aload_n X dX9_init_62 rfl 0 rfl ?_
  refine mj_bipush X (v := 12) dX9_init_63 (by decide +kernel) ?_
  refine mj_newa X (atype := .int) 0 12 (12, .inl (fun _ => 0)) rfl rfl (fun _ h9 => h9) w_M_init_7 (fun _ => rfl) (by decide) (by decide) (by decide) (by decide) (by decide) dX9_init_65 ?_
  have f8_ := (mw_un (M := M7) (e := (.inl (ca 0, 12, .inl (fun _ => 0)))) (show o ≠ o + 8 by omega)).trans g7_o
  refine mj_putF X (C := RX9) (T := TX9) (N := 25) (ci := 9) (v := .ref (o + 8)) tyX9 w_M_init_4 tyX9_ok nmX9 rfl 12 (by decide) w_M_init_13 rfl f8_ [.int 0, .int 0, .ref (o + 1), .int 0, .ref (o + 2), .int 0, .int 0, .ref (o + 3), .ref (o + 4), .ref (o + 5), .ref (o + 6), .ref (o + 7), .ref (o + 8), .int 0, .null, .null, .int 0, .null, .null, .int 0, .int 0, .int 0, .int 0, .null, .null] (Nat.le_of_ble_eq_true rfl) rfl rfl rfl rfl hnm rfl dX9_init_67 ?_
  obtain ⟨M8, eM8⟩ : ∃ z : mw_M, z = (mw_u (mw_u M7 (o + 8) (.inl (ca 0, 12, .inl (fun _ => 0)))) o (.inr (9, [.int 0, .int 0, .ref (o + 1), .int 0, .ref (o + 2), .int 0, .int 0, .ref (o + 3), .ref (o + 4), .ref (o + 5), .ref (o + 6), .ref (o + 7), .ref (o + 8), .int 0, .null, .null, .int 0, .null, .null, .int 0, .int 0, .int 0, .int 0, .null, .null]))) := ⟨_, rfl⟩
  refine mj_to rfl rfl eM8.symm rfl ?_
  have g8_o : M8 o = some (.inr (9, [.int 0, .int 0, .ref (o + 1), .int 0, .ref (o + 2), .int 0, .int 0, .ref (o + 3), .ref (o + 4), .ref (o + 5), .ref (o + 6), .ref (o + 7), .ref (o + 8), .int 0, .null, .null, .int 0, .null, .null, .int 0, .int 0, .int 0, .int 0, .null, .null])) := by rw [eM8, mw_us]
  have g8_0 : M8 (o + 1) = some (.inl (ca 2, 30, .inl (fun _ => 0))) := by rw [eM8, mw_un (by omega), mw_un (by omega)]; exact g7_0
  have g8_1 : M8 (o + 2) = some (.inl (ca 2, 40, .inl (fun _ => 0))) := by rw [eM8, mw_un (by omega), mw_un (by omega)]; exact g7_1
  have g8_2 : M8 (o + 3) = some (.inl (ca 0, 120, .inl (fun _ => 0))) := by rw [eM8, mw_un (by omega), mw_un (by omega)]; exact g7_2
  have g8_3 : M8 (o + 4) = some (.inl (ca 2, 2880, .inl (fun _ => 0))) := by rw [eM8, mw_un (by omega), mw_un (by omega)]; exact g7_3
  have g8_4 : M8 (o + 5) = some (.inl (ca 0, 120, .inl (fun _ => 0))) := by rw [eM8, mw_un (by omega), mw_un (by omega)]; exact g7_4
  have g8_5 : M8 (o + 6) = some (.inl (ca 2, 4800, .inl (fun _ => 0))) := by rw [eM8, mw_un (by omega), mw_un (by omega)]; exact g7_5
  have g8_6 : M8 (o + 7) = some (.inl (ca 0, 12, .inl (fun _ => 0))) := by rw [eM8, mw_un (by omega), mw_un (by omega)]; exact g7_6
  have g8_7 : M8 (o + 8) = some (.inl (ca 0, 12, .inl (fun _ => 0))) := by rw [eM8, mw_un (by omega), mw_us]
  have fr8 : ∀ a, a < o → M8 a = M a := fun a h9 => by rw [eM8, mw_un (by omega), mw_un (by omega)]; exact fr7 a h9
  refine mj_aload_n X dX9_init_70 rfl 0 rfl ?_
  refine mj_bipush X (v := 12) dX9_init_71 (by decide +kernel) ?_
  refine mj_newa X (atype := .int) 0 12 (12, .inl (fun _ => 0)) rfl rfl (fun _ h9 => h9) w_M_init_7 (fun _ => rfl) (by decide) (by decide) (by decide) (by decide) (by decide) dX9_init_73 ?_
  have f9_ := (mw_un (M := M8) (e := (.inl (ca 0, 12, .inl (fun _ => 0)))) (show o ≠ o + 9 by omega)).trans g8_o
  refine mj_putF X (C := RX9) (T := TX9) (N := 25) (ci := 9) (v := .ref (o + 9)) tyX9 w_M_init_4 tyX9_ok nmX9 rfl 14 (by decide) w_M_init_14 rfl f9_ [.int 0, .int 0, .ref (o + 1), .int 0, .ref (o + 2), .int 0, .int 0, .ref (o + 3), .ref (o + 4), .ref (o + 5), .ref (o + 6), .ref (o + 7), .ref (o + 8), .int 0, .ref (o + 9), .null, .int 0, .null, .null, .int 0, .int 0, .int 0, .int 0, .null, .null] (Nat.le_of_ble_eq_true rfl) rfl rfl rfl rfl hnm rfl dX9_init_75 ?_
  obtain ⟨M9, eM9⟩ : ∃ z : mw_M, z = (mw_u (mw_u M8 (o + 9) (.inl (ca 0, 12, .inl (fun _ => 0)))) o (.inr (9, [.int 0, .int 0, .ref (o + 1), .int 0, .ref (o + 2), .int 0, .int 0, .ref (o + 3), .ref (o + 4), .ref (o + 5), .ref (o + 6), .ref (o + 7), .ref (o + 8), .int 0, .ref (o + 9), .null, .int 0, .null, .null, .int 0, .int 0, .int 0, .int 0, .null, .null]))) := ⟨_, rfl⟩
  refine mj_to rfl rfl eM9.symm rfl ?_
  have g9_o : M9 o = some (.inr (9, [.int 0, .int 0, .ref (o + 1), .int 0, .ref (o + 2), .int 0, .int 0, .ref (o + 3), .ref (o + 4), .ref (o + 5), .ref (o + 6), .ref (o + 7), .ref (o + 8), .int 0, .ref (o + 9), .null, .int 0, .null, .null, .int 0, .int 0, .int 0, .int 0, .null, .null])) := by rw [eM9, mw_us]
  have g9_0 : M9 (o + 1) = some (.inl (ca 2, 30, .inl (fun _ => 0))) := by rw [eM9, mw_un (by omega), mw_un (by omega)]; exact g8_0
  have g9_1 : M9 (o + 2) = some (.inl (ca 2, 40, .inl (fun _ => 0))) := by rw [eM9, mw_un (by omega), mw_un (by omega)]; exact g8_1
  have g9_2 : M9 (o + 3) = some (.inl (ca 0, 120, .inl (fun _ => 0))) := by rw [eM9, mw_un (by omega), mw_un (by omega)]; exact g8_2
  have g9_3 : M9 (o + 4) = some (.inl (ca 2, 2880, .inl (fun _ => 0))) := by rw [eM9, mw_un (by omega), mw_un (by omega)]; exact g8_3
  have g9_4 : M9 (o + 5) = some (.inl (ca 0, 120, .inl (fun _ => 0))) := by rw [eM9, mw_un (by omega), mw_un (by omega)]; exact g8_4
  have g9_5 : M9 (o + 6) = some (.inl (ca 2, 4800, .inl (fun _ => 0))) := by rw [eM9, mw_un (by omega), mw_un (by omega)]; exact g8_5
  have g9_6 : M9 (o + 7) = some (.inl (ca 0, 12, .inl (fun _ => 0))) := by rw [eM9, mw_un (by omega), mw_un (by omega)]; exact g8_6
  have g9_7 : M9 (o + 8) = some (.inl (ca 0, 12, .inl (fun _ => 0))) := by rw [eM9, mw_un (by omega), mw_un (by omega)]; exact g8_7
  have g9_8 : M9 (o + 9) = some (.inl (ca 0, 12, .inl (fun _ => 0))) := by rw [eM9, mw_un (by omega), mw_us]
  have fr9 : ∀ a, a < o → M9 a = M a := fun a h9 => by rw [eM9, mw_un (by omega), mw_un (by omega)]; exact fr8 a h9
  refine mj_aload_n X dX9_init_78 rfl 0 rfl ?_
  refine mj_bipush X (v := 120) dX9_init_79 (by decide +kernel) ?_
  refine mj_newa X (atype := .int) 0 120 (120, .inl (fun _ => 0)) rfl rfl (fun _ h9 => h9) w_M_init_7 (fun _ => rfl) (by decide) (by decide) (by decide) (by decide) (by decide) dX9_init_81 ?_
  have f10_ := (mw_un (M := M9) (e := (.inl (ca 0, 120, .inl (fun _ => 0)))) (show o ≠ o + 10 by omega)).trans g9_o
  refine mj_putF X (C := RX9) (T := TX9) (N := 25) (ci := 9) (v := .ref (o + 10)) tyX9 w_M_init_4 tyX9_ok nmX9 rfl 15 (by decide) w_M_init_15 rfl f10_ [.int 0, .int 0, .ref (o + 1), .int 0, .ref (o + 2), .int 0, .int 0, .ref (o + 3), .ref (o + 4), .ref (o + 5), .ref (o + 6), .ref (o + 7), .ref (o + 8), .int 0, .ref (o + 9), .ref (o + 10), .int 0, .null, .null, .int 0, .int 0, .int 0, .int 0, .null, .null] (Nat.le_of_ble_eq_true rfl) rfl rfl rfl rfl hnm rfl dX9_init_83 ?_
  obtain ⟨M10, eM10⟩ : ∃ z : mw_M, z = (mw_u (mw_u M9 (o + 10) (.inl (ca 0, 120, .inl (fun _ => 0)))) o (.inr (9, [.int 0, .int 0, .ref (o + 1), .int 0, .ref (o + 2), .int 0, .int 0, .ref (o + 3), .ref (o + 4), .ref (o + 5), .ref (o + 6), .ref (o + 7), .ref (o + 8), .int 0, .ref (o + 9), .ref (o + 10), .int 0, .null, .null, .int 0, .int 0, .int 0, .int 0, .null, .null]))) := ⟨_, rfl⟩
  refine mj_to rfl rfl eM10.symm rfl ?_
  have g10_o : M10 o = some (.inr (9, [.int 0, .int 0, .ref (o + 1), .int 0, .ref (o + 2), .int 0, .int 0, .ref (o + 3), .ref (o + 4), .ref (o + 5), .ref (o + 6), .ref (o + 7), .ref (o + 8), .int 0, .ref (o + 9), .ref (o + 10), .int 0, .null, .null, .int 0, .int 0, .int 0, .int 0, .null, .null])) := by rw [eM10, mw_us]
  have g10_0 : M10 (o + 1) = some (.inl (ca 2, 30, .inl (fun _ => 0))) := by rw [eM10, mw_un (by omega), mw_un (by omega)]; exact g9_0
  have g10_1 : M10 (o + 2) = some (.inl (ca 2, 40, .inl (fun _ => 0))) := by rw [eM10, mw_un (by omega), mw_un (by omega)]; exact g9_1
  have g10_2 : M10 (o + 3) = some (.inl (ca 0, 120, .inl (fun _ => 0))) := by rw [eM10, mw_un (by omega), mw_un (by omega)]; exact g9_2
  have g10_3 : M10 (o + 4) = some (.inl (ca 2, 2880, .inl (fun _ => 0))) := by rw [eM10, mw_un (by omega), mw_un (by omega)]; exact g9_3
  have g10_4 : M10 (o + 5) = some (.inl (ca 0, 120, .inl (fun _ => 0))) := by rw [eM10, mw_un (by omega), mw_un (by omega)]; exact g9_4
  have g10_5 : M10 (o + 6) = some (.inl (ca 2, 4800, .inl (fun _ => 0))) := by rw [eM10, mw_un (by omega), mw_un (by omega)]; exact g9_5
  have g10_6 : M10 (o + 7) = some (.inl (ca 0, 12, .inl (fun _ => 0))) := by rw [eM10, mw_un (by omega), mw_un (by omega)]; exact g9_6
  have g10_7 : M10 (o + 8) = some (.inl (ca 0, 12, .inl (fun _ => 0))) := by rw [eM10, mw_un (by omega), mw_un (by omega)]; exact g9_7
  have g10_8 : M10 (o + 9) = some (.inl (ca 0, 12, .inl (fun _ => 0))) := by rw [eM10, mw_un (by omega), mw_un (by omega)]; exact g9_8
  have g10_9 : M10 (o + 10) = some (.inl (ca 0, 120, .inl (fun _ => 0))) := by rw [eM10, mw_un (by omega), mw_us]
  have fr10 : ∀ a, a < o → M10 a = M a := fun a h9 => by rw [eM10, mw_un (by omega), mw_un (by omega)]; exact fr9 a h9
  refine mj_aload_n X dX9_init_86 rfl 0 rfl ?_
  refine mj_bipush X (v := 24) dX9_init_87 (by decide +kernel) ?_
  refine mj_newa X (atype := .int) 0 24 (24, .inl (fun _ => 0)) rfl rfl (fun _ h9 => h9) w_M_init_7 (fun _ => rfl) (by decide) (by decide) (by decide) (by decide) (by decide) dX9_init_89 ?_
  have f11_ := (mw_un (M := M10) (e := (.inl (ca 0, 24, .inl (fun _ => 0)))) (show o ≠ o + 11 by omega)).trans g10_o
  refine mj_putF X (C := RX9) (T := TX9) (N := 25) (ci := 9) (v := .ref (o + 11)) tyX9 w_M_init_4 tyX9_ok nmX9 rfl 17 (by decide) w_M_init_16 rfl f11_ [.int 0, .int 0, .ref (o + 1), .int 0, .ref (o + 2), .int 0, .int 0, .ref (o + 3), .ref (o + 4), .ref (o + 5), .ref (o + 6), .ref (o + 7), .ref (o + 8), .int 0, .ref (o + 9), .ref (o + 10), .int 0, .ref (o + 11), .null, .int 0, .int 0, .int 0, .int 0, .null, .null] (Nat.le_of_ble_eq_true rfl) rfl rfl rfl rfl hnm rfl dX9_init_91 ?_
  obtain ⟨M11, eM11⟩ : ∃ z : mw_M, z = (mw_u (mw_u M10 (o + 11) (.inl (ca 0, 24, .inl (fun _ => 0)))) o (.inr (9, [.int 0, .int 0, .ref (o + 1), .int 0, .ref (o + 2), .int 0, .int 0, .ref (o + 3), .ref (o + 4), .ref (o + 5), .ref (o + 6), .ref (o + 7), .ref (o + 8), .int 0, .ref (o + 9), .ref (o + 10), .int 0, .ref (o + 11), .null, .int 0, .int 0, .int 0, .int 0, .null, .null]))) := ⟨_, rfl⟩
  refine mj_to rfl rfl eM11.symm rfl ?_
  have g11_o : M11 o = some (.inr (9, [.int 0, .int 0, .ref (o + 1), .int 0, .ref (o + 2), .int 0, .int 0, .ref (o + 3), .ref (o + 4), .ref (o + 5), .ref (o + 6), .ref (o + 7), .ref (o + 8), .int 0, .ref (o + 9), .ref (o + 10), .int 0, .ref (o + 11), .null, .int 0, .int 0, .int 0, .int 0, .null, .null])) := by rw [eM11, mw_us]
  have g11_0 : M11 (o + 1) = some (.inl (ca 2, 30, .inl (fun _ => 0))) := by rw [eM11, mw_un (by omega), mw_un (by omega)]; exact g10_0
  have g11_1 : M11 (o + 2) = some (.inl (ca 2, 40, .inl (fun _ => 0))) := by rw [eM11, mw_un (by omega), mw_un (by omega)]; exact g10_1
  have g11_2 : M11 (o + 3) = some (.inl (ca 0, 120, .inl (fun _ => 0))) := by rw [eM11, mw_un (by omega), mw_un (by omega)]; exact g10_2
  have g11_3 : M11 (o + 4) = some (.inl (ca 2, 2880, .inl (fun _ => 0))) := by rw [eM11, mw_un (by omega), mw_un (by omega)]; exact g10_3
  have g11_4 : M11 (o + 5) = some (.inl (ca 0, 120, .inl (fun _ => 0))) := by rw [eM11, mw_un (by omega), mw_un (by omega)]; exact g10_4
  have g11_5 : M11 (o + 6) = some (.inl (ca 2, 4800, .inl (fun _ => 0))) := by rw [eM11, mw_un (by omega), mw_un (by omega)]; exact g10_5
  have g11_6 : M11 (o + 7) = some (.inl (ca 0, 12, .inl (fun _ => 0))) := by rw [eM11, mw_un (by omega), mw_un (by omega)]; exact g10_6
  have g11_7 : M11 (o + 8) = some (.inl (ca 0, 12, .inl (fun _ => 0))) := by rw [eM11, mw_un (by omega), mw_un (by omega)]; exact g10_7
  have g11_8 : M11 (o + 9) = some (.inl (ca 0, 12, .inl (fun _ => 0))) := by rw [eM11, mw_un (by omega), mw_un (by omega)]; exact g10_8
  have g11_9 : M11 (o + 10) = some (.inl (ca 0, 120, .inl (fun _ => 0))) := by rw [eM11, mw_un (by omega), mw_un (by omega)]; exact g10_9
  have g11_10 : M11 (o + 11) = some (.inl (ca 0, 24, .inl (fun _ => 0))) := by rw [eM11, mw_un (by omega), mw_us]
  have fr11 : ∀ a, a < o → M11 a = M a := fun a h9 => by rw [eM11, mw_un (by omega), mw_un (by omega)]; exact fr10 a h9
  refine mj_aload_n X dX9_init_94 rfl 0 rfl ?_
  refine mj_bipush X (v := 24) dX9_init_95 (by decide +kernel) ?_
  refine mj_newa X (atype := .int) 0 24 (24, .inl (fun _ => 0)) rfl rfl (fun _ h9 => h9) w_M_init_7 (fun _ => rfl) (by decide) (by decide) (by decide) (by decide) (by decide) dX9_init_97 ?_
  have f12_ := (mw_un (M := M11) (e := (.inl (ca 0, 24, .inl (fun _ => 0)))) (show o ≠ o + 12 by omega)).trans g11_o
  refine mj_putF X (C := RX9) (T := TX9) (N := 25) (ci := 9) (v := .ref (o + 12)) tyX9 w_M_init_4 tyX9_ok nmX9 rfl 18 (by decide) w_M_init_17 rfl f12_ [.int 0, .int 0, .ref (o + 1), .int 0, .ref (o + 2), .int 0, .int 0, .ref (o + 3), .ref (o + 4), .ref (o + 5), .ref (o + 6), .ref (o + 7), .ref (o + 8), .int 0, .ref (o + 9), .ref (o + 10), .int 0, .ref (o + 11), .ref (o + 12), .int 0, .int 0, .int 0, .int 0, .null, .null] (Nat.le_of_ble_eq_true rfl) rfl rfl rfl rfl hnm rfl dX9_init_99 ?_
  obtain ⟨M12, eM12⟩ : ∃ z : mw_M, z = (mw_u (mw_u M11 (o + 12) (.inl (ca 0, 24, .inl (fun _ => 0)))) o (.inr (9, [.int 0, .int 0, .ref (o + 1), .int 0, .ref (o + 2), .int 0, .int 0, .ref (o + 3), .ref (o + 4), .ref (o + 5), .ref (o + 6), .ref (o + 7), .ref (o + 8), .int 0, .ref (o + 9), .ref (o + 10), .int 0, .ref (o + 11), .ref (o + 12), .int 0, .int 0, .int 0, .int 0, .null, .null]))) := ⟨_, rfl⟩
  refine mj_to rfl rfl eM12.symm rfl ?_
  have g12_o : M12 o = some (.inr (9, [.int 0, .int 0, .ref (o + 1), .int 0, .ref (o + 2), .int 0, .int 0, .ref (o + 3), .ref (o + 4), .ref (o + 5), .ref (o + 6), .ref (o + 7), .ref (o + 8), .int 0, .ref (o + 9), .ref (o + 10), .int 0, .ref (o + 11), .ref (o + 12), .int 0, .int 0, .int 0, .int 0, .null, .null])) := by rw [eM12, mw_us]
  have g12_0 : M12 (o + 1) = some (.inl (ca 2, 30, .inl (fun _ => 0))) := by rw [eM12, mw_un (by omega), mw_un (by omega)]; exact g11_0
  have g12_1 : M12 (o + 2) = some (.inl (ca 2, 40, .inl (fun _ => 0))) := by rw [eM12, mw_un (by omega), mw_un (by omega)]; exact g11_1
  have g12_2 : M12 (o + 3) = some (.inl (ca 0, 120, .inl (fun _ => 0))) := by rw [eM12, mw_un (by omega), mw_un (by omega)]; exact g11_2
  have g12_3 : M12 (o + 4) = some (.inl (ca 2, 2880, .inl (fun _ => 0))) := by rw [eM12, mw_un (by omega), mw_un (by omega)]; exact g11_3
  have g12_4 : M12 (o + 5) = some (.inl (ca 0, 120, .inl (fun _ => 0))) := by rw [eM12, mw_un (by omega), mw_un (by omega)]; exact g11_4
  have g12_5 : M12 (o + 6) = some (.inl (ca 2, 4800, .inl (fun _ => 0))) := by rw [eM12, mw_un (by omega), mw_un (by omega)]; exact g11_5
  have g12_6 : M12 (o + 7) = some (.inl (ca 0, 12, .inl (fun _ => 0))) := by rw [eM12, mw_un (by omega), mw_un (by omega)]; exact g11_6
  have g12_7 : M12 (o + 8) = some (.inl (ca 0, 12, .inl (fun _ => 0))) := by rw [eM12, mw_un (by omega), mw_un (by omega)]; exact g11_7
  have g12_8 : M12 (o + 9) = some (.inl (ca 0, 12, .inl (fun _ => 0))) := by rw [eM12, mw_un (by omega), mw_un (by omega)]; exact g11_8
  have g12_9 : M12 (o + 10) = some (.inl (ca 0, 120, .inl (fun _ => 0))) := by rw [eM12, mw_un (by omega), mw_un (by omega)]; exact g11_9
  have g12_10 : M12 (o + 11) = some (.inl (ca 0, 24, .inl (fun _ => 0))) := by rw [eM12, mw_un (by omega), mw_un (by omega)]; exact g11_10
  have g12_11 : M12 (o + 12) = some (.inl (ca 0, 24, .inl (fun _ => 0))) := by rw [eM12, mw_un (by omega), mw_us]
  have fr12 : ∀ a, a < o → M12 a = M a := fun a h9 => by rw [eM12, mw_un (by omega), mw_un (by omega)]; exact fr11 a h9
  refine mj_aload_n X dX9_init_102 rfl 0 rfl ?_
  refine mj_sipush X (v := 320) dX9_init_103 (by decide +kernel) ?_
  refine mj_newa X (atype := .boolean) 1 320 (320, .inl (fun _ => 0)) rfl rfl (fun _ h9 => h9) w_M_init_18 (fun _ => rfl) (by decide) (by decide) (by decide) (by decide) (by decide) dX9_init_106 ?_
  have f13_ := (mw_un (M := M12) (e := (.inl (ca 1, 320, .inl (fun _ => 0)))) (show o ≠ o + 13 by omega)).trans g12_o
  refine mj_putF X (C := RX9) (T := TX9) (N := 25) (ci := 9) (v := .ref (o + 13)) tyX9 w_M_init_4 tyX9_ok nmX9 rfl 23 (by decide) w_M_init_19 rfl f13_ [.int 0, .int 0, .ref (o + 1), .int 0, .ref (o + 2), .int 0, .int 0, .ref (o + 3), .ref (o + 4), .ref (o + 5), .ref (o + 6), .ref (o + 7), .ref (o + 8), .int 0, .ref (o + 9), .ref (o + 10), .int 0, .ref (o + 11), .ref (o + 12), .int 0, .int 0, .int 0, .int 0, .ref (o + 13), .null] (Nat.le_of_ble_eq_true rfl) rfl rfl rfl rfl hnm rfl dX9_init_108 ?_
  obtain ⟨M13, eM13⟩ : ∃ z : mw_M, z = (mw_u (mw_u M12 (o + 13) (.inl (ca 1, 320, .inl (fun _ => 0)))) o (.inr (9, [.int 0, .int 0, .ref (o + 1), .int 0, .ref (o + 2), .int 0, .int 0, .ref (o + 3), .ref (o + 4), .ref (o + 5), .ref (o + 6), .ref (o + 7), .ref (o + 8), .int 0, .ref (o + 9), .ref (o + 10), .int 0, .ref (o + 11), .ref (o + 12), .int 0, .int 0, .int 0, .int 0, .ref (o + 13), .null]))) := ⟨_, rfl⟩
  refine mj_to rfl rfl eM13.symm rfl ?_
  have g13_o : M13 o = some (.inr (9, [.int 0, .int 0, .ref (o + 1), .int 0, .ref (o + 2), .int 0, .int 0, .ref (o + 3), .ref (o + 4), .ref (o + 5), .ref (o + 6), .ref (o + 7), .ref (o + 8), .int 0, .ref (o + 9), .ref (o + 10), .int 0, .ref (o + 11), .ref (o + 12), .int 0, .int 0, .int 0, .int 0, .ref (o + 13), .null])) := by rw [eM13, mw_us]
  have g13_0 : M13 (o + 1) = some (.inl (ca 2, 30, .inl (fun _ => 0))) := by rw [eM13, mw_un (by omega), mw_un (by omega)]; exact g12_0
  have g13_1 : M13 (o + 2) = some (.inl (ca 2, 40, .inl (fun _ => 0))) := by rw [eM13, mw_un (by omega), mw_un (by omega)]; exact g12_1
  have g13_2 : M13 (o + 3) = some (.inl (ca 0, 120, .inl (fun _ => 0))) := by rw [eM13, mw_un (by omega), mw_un (by omega)]; exact g12_2
  have g13_3 : M13 (o + 4) = some (.inl (ca 2, 2880, .inl (fun _ => 0))) := by rw [eM13, mw_un (by omega), mw_un (by omega)]; exact g12_3
  have g13_4 : M13 (o + 5) = some (.inl (ca 0, 120, .inl (fun _ => 0))) := by rw [eM13, mw_un (by omega), mw_un (by omega)]; exact g12_4
  have g13_5 : M13 (o + 6) = some (.inl (ca 2, 4800, .inl (fun _ => 0))) := by rw [eM13, mw_un (by omega), mw_un (by omega)]; exact g12_5
  have g13_6 : M13 (o + 7) = some (.inl (ca 0, 12, .inl (fun _ => 0))) := by rw [eM13, mw_un (by omega), mw_un (by omega)]; exact g12_6
  have g13_7 : M13 (o + 8) = some (.inl (ca 0, 12, .inl (fun _ => 0))) := by rw [eM13, mw_un (by omega), mw_un (by omega)]; exact g12_7
  have g13_8 : M13 (o + 9) = some (.inl (ca 0, 12, .inl (fun _ => 0))) := by rw [eM13, mw_un (by omega), mw_un (by omega)]; exact g12_8
  have g13_9 : M13 (o + 10) = some (.inl (ca 0, 120, .inl (fun _ => 0))) := by rw [eM13, mw_un (by omega), mw_un (by omega)]; exact g12_9
  have g13_10 : M13 (o + 11) = some (.inl (ca 0, 24, .inl (fun _ => 0))) := by rw [eM13, mw_un (by omega), mw_un (by omega)]; exact g12_10
  have g13_11 : M13 (o + 12) = some (.inl (ca 0, 24, .inl (fun _ => 0))) := by rw [eM13, mw_un (by omega), mw_un (by omega)]; exact g12_11
  have g13_12 : M13 (o + 13) = some (.inl (ca 1, 320, .inl (fun _ => 0))) := by rw [eM13, mw_un (by omega), mw_us]
  have fr13 : ∀ a, a < o → M13 a = M a := fun a h9 => by rw [eM13, mw_un (by omega), mw_un (by omega)]; exact fr12 a h9
  refine mj_aload_n X dX9_init_111 rfl 0 rfl ?_
  refine mj_sipush X (v := 320) dX9_init_112 (by decide +kernel) ?_
  refine mj_newa X (atype := .byte) 2 320 (320, .inl (fun _ => 0)) rfl rfl (fun _ h9 => h9) w_M_init_3 (fun _ => rfl) (by decide) (by decide) (by decide) (by decide) (by decide) dX9_init_115 ?_
  have f14_ := (mw_un (M := M13) (e := (.inl (ca 2, 320, .inl (fun _ => 0)))) (show o ≠ o + 14 by omega)).trans g13_o
  refine mj_putF X (C := RX9) (T := TX9) (N := 25) (ci := 9) (v := .ref (o + 14)) tyX9 w_M_init_4 tyX9_ok nmX9 rfl 24 (by decide) w_M_init_20 rfl f14_ [.int 0, .int 0, .ref (o + 1), .int 0, .ref (o + 2), .int 0, .int 0, .ref (o + 3), .ref (o + 4), .ref (o + 5), .ref (o + 6), .ref (o + 7), .ref (o + 8), .int 0, .ref (o + 9), .ref (o + 10), .int 0, .ref (o + 11), .ref (o + 12), .int 0, .int 0, .int 0, .int 0, .ref (o + 13), .ref (o + 14)] (Nat.le_of_ble_eq_true rfl) rfl rfl rfl rfl hnm rfl dX9_init_117 ?_
  obtain ⟨M14, eM14⟩ : ∃ z : mw_M, z = (mw_u (mw_u M13 (o + 14) (.inl (ca 2, 320, .inl (fun _ => 0)))) o (.inr (9, [.int 0, .int 0, .ref (o + 1), .int 0, .ref (o + 2), .int 0, .int 0, .ref (o + 3), .ref (o + 4), .ref (o + 5), .ref (o + 6), .ref (o + 7), .ref (o + 8), .int 0, .ref (o + 9), .ref (o + 10), .int 0, .ref (o + 11), .ref (o + 12), .int 0, .int 0, .int 0, .int 0, .ref (o + 13), .ref (o + 14)]))) := ⟨_, rfl⟩
  refine mj_to rfl rfl eM14.symm rfl ?_
  have g14_o : M14 o = some (.inr (9, [.int 0, .int 0, .ref (o + 1), .int 0, .ref (o + 2), .int 0, .int 0, .ref (o + 3), .ref (o + 4), .ref (o + 5), .ref (o + 6), .ref (o + 7), .ref (o + 8), .int 0, .ref (o + 9), .ref (o + 10), .int 0, .ref (o + 11), .ref (o + 12), .int 0, .int 0, .int 0, .int 0, .ref (o + 13), .ref (o + 14)])) := by rw [eM14, mw_us]
  have g14_0 : M14 (o + 1) = some (.inl (ca 2, 30, .inl (fun _ => 0))) := by rw [eM14, mw_un (by omega), mw_un (by omega)]; exact g13_0
  have g14_1 : M14 (o + 2) = some (.inl (ca 2, 40, .inl (fun _ => 0))) := by rw [eM14, mw_un (by omega), mw_un (by omega)]; exact g13_1
  have g14_2 : M14 (o + 3) = some (.inl (ca 0, 120, .inl (fun _ => 0))) := by rw [eM14, mw_un (by omega), mw_un (by omega)]; exact g13_2
  have g14_3 : M14 (o + 4) = some (.inl (ca 2, 2880, .inl (fun _ => 0))) := by rw [eM14, mw_un (by omega), mw_un (by omega)]; exact g13_3
  have g14_4 : M14 (o + 5) = some (.inl (ca 0, 120, .inl (fun _ => 0))) := by rw [eM14, mw_un (by omega), mw_un (by omega)]; exact g13_4
  have g14_5 : M14 (o + 6) = some (.inl (ca 2, 4800, .inl (fun _ => 0))) := by rw [eM14, mw_un (by omega), mw_un (by omega)]; exact g13_5
  have g14_6 : M14 (o + 7) = some (.inl (ca 0, 12, .inl (fun _ => 0))) := by rw [eM14, mw_un (by omega), mw_un (by omega)]; exact g13_6
  have g14_7 : M14 (o + 8) = some (.inl (ca 0, 12, .inl (fun _ => 0))) := by rw [eM14, mw_un (by omega), mw_un (by omega)]; exact g13_7
  have g14_8 : M14 (o + 9) = some (.inl (ca 0, 12, .inl (fun _ => 0))) := by rw [eM14, mw_un (by omega), mw_un (by omega)]; exact g13_8
  have g14_9 : M14 (o + 10) = some (.inl (ca 0, 120, .inl (fun _ => 0))) := by rw [eM14, mw_un (by omega), mw_un (by omega)]; exact g13_9
  have g14_10 : M14 (o + 11) = some (.inl (ca 0, 24, .inl (fun _ => 0))) := by rw [eM14, mw_un (by omega), mw_un (by omega)]; exact g13_10
  have g14_11 : M14 (o + 12) = some (.inl (ca 0, 24, .inl (fun _ => 0))) := by rw [eM14, mw_un (by omega), mw_un (by omega)]; exact g13_11
  have g14_12 : M14 (o + 13) = some (.inl (ca 1, 320, .inl (fun _ => 0))) := by rw [eM14, mw_un (by omega), mw_un (by omega)]; exact g13_12
  have g14_13 : M14 (o + 14) = some (.inl (ca 2, 320, .inl (fun _ => 0))) := by rw [eM14, mw_un (by omega), mw_us]
  have fr14 : ∀ a, a < o → M14 a = M a := fun a h9 => by rw [eM14, mw_un (by omega), mw_un (by omega)]; exact fr13 a h9
  refine mj_vret X hr0 (by decide) (by decide) dX9_init_120 ?_
  exact ⟨rfl, g14_o, g14_0, g14_1, g14_2, g14_3, g14_4, g14_5, g14_6, g14_7, g14_8, g14_9, g14_10, g14_11, g14_12, g14_13, fr14, rfl⟩

