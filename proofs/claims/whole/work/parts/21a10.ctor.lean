set_option maxRecDepth 100000 in
set_option maxHeartbeats 4000000 in
theorem ci_X0_init {l : Launch} {D : va_G} {cid : Nat → ClassId} (h0 : Nat) : iMet l D cid yX0_init cX0_init 1 1 12 1 16 [.ref h0] h0 (.inr (0, [.int 0, .int 0, .int 0, .int 0, .null])) 1 (fun qs => match qs with | [z0] => [(h0, .inr (0, [.int 0, .int 0, .int 0, .int 0, .ref z0])), (z0, .inl (cid 1, 16, .inl (fun _ => 0)))] | _ => []) := by
  refine iMet_of (ls0 := [some (.ref h0)]) (by decide) rfl (Nat.le_of_ble_eq_true rfl) rfl (fun K sz X R0 hk => ?_)
  obtain ⟨rfl, rfl, rfl⟩ := hk
  refine i_aload_n X 0 dX0_init_0 rfl rfl ?_
  refine i_objInit X tw_249 tw_23 tw_oi rfl (Nat.le_of_ble_eq_true rfl) (Nat.le_of_ble_eq_true rfl) dX0_init_1 ?_
  refine i_aload_n X 0 dX0_init_4 rfl rfl ?_
  refine i_bipush (v := 16) X dX0_init_5 (by decide) ?_
  refine i_newa (atype := .int) (N := 16) (a0 := (16, .inl (fun _ => 0))) X 1 tw_46 rfl rfl rfl (fun _ => rfl) (by decide) (by decide) (by decide) (Nat.le_of_ble_eq_true rfl) (Nat.le_of_ble_eq_true rfl) dX0_init_7 (fun q1 => ?_)
  refine i_eq (ws' := [(h0, .inr (0, [.int 0, .int 0, .int 0, .int 0, .null])), (q1, .inl (kc K 1, 16, .inl (fun _ => 0)))]) (c9' := 1) (s9' := 16) rfl rfl rfl ?_
  refine i_putF (ty := .array .int) (j := 4) (v := q1) (ws' := [(h0, .inr (0, [.int 0, .int 0, .int 0, .int 0, .ref q1])), (q1, .inl (kc K 1, 16, .inl (fun _ => 0)))]) X 0 tyX0 inT_0 tyX0_ok nmX0 R0.2.2.2.2.2 rfl rfl (by decide) tw_258 rfl rfl rfl (by decide +kernel) rfl rfl (Nat.le_of_ble_eq_true rfl) rfl dX0_init_9 ?_
  exact i_vret X R0 [q1] rfl [0, 1] rfl (by decide) rfl (Nat.le_of_ble_eq_true rfl) (Nat.le_of_ble_eq_true rfl) dX0_init_12
