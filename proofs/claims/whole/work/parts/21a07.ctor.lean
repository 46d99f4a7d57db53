set_option maxRecDepth 100000 in
set_option maxHeartbeats 4000000 in
theorem ci_X7_init {l : Launch} {D : va_G} {cid : Nat → ClassId} (h0 : Nat) (e0 : va_E) : iMet l D cid yX7_init cX7_init 1 3 52 0 0 [.ref h0] h0 (e0) 0 (fun _ => [(h0, e0)]) := by
  refine iMet_of (ls0 := [some (.ref h0)]) (by decide) rfl (Nat.le_of_ble_eq_true rfl) rfl (fun K sz X R0 hk => ?_)
  obtain ⟨rfl, rfl, rfl⟩ := hk
  refine i_aload_n X 0 dX7_init_0 rfl rfl ?_
  refine i_callIN (as := []) (st := []) (wr := []) X iN_RX7_1 0 [] rfl rfl (by decide) (by decide) ⟨by decide, by decide⟩ rfl rfl (Nat.le_of_ble_eq_true rfl) rfl dX7_init_1 (Nat.le_of_ble_eq_true rfl) (Nat.le_of_ble_eq_true rfl) (ci_X8_init h0 (e0) ) (fun qs hq => ?_)
  obtain rfl := List.eq_nil_of_length_eq_zero hq
  refine i_eq (ws' := [(h0, e0)]) (c9' := 0) (s9' := 0) rfl rfl rfl ?_
  exact i_vret X R0 [] rfl [0] rfl (by decide) rfl (Nat.le_of_ble_eq_true rfl) (Nat.le_of_ble_eq_true rfl) dX7_init_4
