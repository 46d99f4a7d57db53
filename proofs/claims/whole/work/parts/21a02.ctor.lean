set_option maxRecDepth 100000 in
set_option maxHeartbeats 4000000 in
theorem ci_X10_init {l : Launch} {D : va_G} {cid : Nat → ClassId} (h0 : Nat) (e0 : va_E) : iMet l D cid yX10_init cX10_init 1 1 12 0 0 [.ref h0] h0 (e0) 0 (fun _ => [(h0, e0)]) := by
  refine iMet_of (ls0 := [some (.ref h0)]) (by decide) rfl (Nat.le_of_ble_eq_true rfl) rfl (fun K sz X R0 hk => ?_)
  obtain ⟨rfl, rfl, rfl⟩ := hk
  refine i_aload_n X 0 dX10_init_0 rfl rfl ?_
  refine i_objInit X tw_87 tw_23 tw_oi rfl (Nat.le_of_ble_eq_true rfl) (Nat.le_of_ble_eq_true rfl) dX10_init_1 ?_
  exact i_vret X R0 [] rfl [0] rfl (by decide) rfl (Nat.le_of_ble_eq_true rfl) (Nat.le_of_ble_eq_true rfl) dX10_init_4
