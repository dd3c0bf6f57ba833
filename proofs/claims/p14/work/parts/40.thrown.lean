theorem w_M_thrown_0 : ∀ w ∈ u_ws RX9 TX9 25, w ∈ wsX9_thrown := by decide +kernel
theorem w_M_thrown_1 : Cond.fieldLink RX9 54 "PackageRows2Model" "thrown" "I" ∈ wsX9_thrown := by decide +kernel
set_option maxHeartbeats 4000000 in
set_option maxRecDepth 100000 in
/--  -/
theorem c_M_thrown (l : Launch) (D : va_G) (ca : Nat → ClassId) (M : mw_M) (sz o : Nat) (th sg oc cm li ve fa tr to pz pi : Int32) (ho : M o = some (.inr (9, mdF o th sg oc cm li ve fa tr to pz pi))) : mw_C wsX9_thrown l yX9_thrown { frames := 0, cells := 0, slots := 0, locals := 0 } D vwCl (mt ca) [.ref o] M sz (mq_i (fun v9 M' sz' => M' = M ∧ sz' = sz ∧ v9 = th)) := by
  refine mw_enter (cc := cX9_thrown) (maxL := 1) (ret := (some .int)) rfl (by decide) (Nat.le_of_ble_eq_true rfl) ?_
  intro p e s m below meth c X hr0 hnm hlt
  refine mj_aload_n X dX9_thrown_0 rfl 0 rfl ?_
  refine mj_get X (C := RX9) (T := TX9) (N := 25) (ci := 9) w_M_thrown_0 rfl 0 (by decide) w_M_thrown_1 ho rfl dX9_thrown_1 ?_
  refine mj_iret X hr0 (by decide) (by decide) dX9_thrown_4 ?_
  exact ⟨_, rfl, rfl, rfl, rfl⟩
