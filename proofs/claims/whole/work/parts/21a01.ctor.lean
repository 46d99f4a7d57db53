set_option maxRecDepth 100000 in
set_option maxHeartbeats 4000000 in
theorem ci_X9_init {l : Launch} {D : va_G} {cid : Nat → ClassId} (h0 : Nat) : iMet l D cid yX9_init cX9_init 1 1 12 1 140 [.ref h0] h0 (.inr (9, [.null, .int 0, .int 0, .int 0, .int 0, .int 0, .int 0, .int 0])) 1 (fun qs => match qs with | [z0] => [(h0, .inr (9, [.ref z0, .int 0, .int 0, .int 0, .int 0, .int 0, .int 0, .int 0])), (z0, .inl (cid 1, 140, .inl (fun _ => 0)))] | _ => []) := by
  refine iMet_of (ls0 := [some (.ref h0)]) (by decide) rfl (Nat.le_of_ble_eq_true rfl) rfl (fun K sz X R0 hk => ?_)
  obtain ⟨rfl, rfl, rfl⟩ := hk
  refine i_aload_n X 0 dX9_init_0 rfl rfl ?_
  refine i_objInit X tw_52 tw_23 tw_oi rfl (Nat.le_of_ble_eq_true rfl) (Nat.le_of_ble_eq_true rfl) dX9_init_1 ?_
  refine i_aload_n X 0 dX9_init_4 rfl rfl ?_
  refine i_sipush (v := 140) X dX9_init_5 (by decide) ?_
  refine i_newa (atype := .int) (N := 140) (a0 := (140, .inl (fun _ => 0))) X 1 tw_46 rfl rfl rfl (fun _ => rfl) (by decide) (by decide) (by decide) (Nat.le_of_ble_eq_true rfl) (Nat.le_of_ble_eq_true rfl) dX9_init_8 (fun q1 => ?_)
  refine i_eq (ws' := [(h0, .inr (9, [.null, .int 0, .int 0, .int 0, .int 0, .int 0, .int 0, .int 0])), (q1, .inl (kc K 1, 140, .inl (fun _ => 0)))]) (c9' := 1) (s9' := 140) rfl rfl rfl ?_
  refine i_putF (ty := .array .int) (j := 0) (v := q1) (ws' := [(h0, .inr (9, [.ref q1, .int 0, .int 0, .int 0, .int 0, .int 0, .int 0, .int 0])), (q1, .inl (kc K 1, 140, .inl (fun _ => 0)))]) X 0 tyX9 inT_9 tyX9_ok nmX9 R0.2.2.2.2.2 rfl rfl (by decide) tw_53 rfl rfl rfl (by decide +kernel) rfl rfl (Nat.le_of_ble_eq_true rfl) rfl dX9_init_10 ?_
  exact i_vret X R0 [q1] rfl [0, 1] rfl (by decide) rfl (Nat.le_of_ble_eq_true rfl) (Nat.le_of_ble_eq_true rfl) dX9_init_13
