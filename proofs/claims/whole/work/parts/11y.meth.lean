theorem sp_RX1_28 : jSiP RX1 28 yX4_size cX4_size 3 (some .int) 1 := ⟨tw_790, tw_1283, tw_102, tw_791, tw_5, tw_792, by decide, by decide +kernel⟩
def f_X1_size (w : Nat) (σ : jMem) : Option (Int32 × jMem) :=
  jbv (f_X0_begin (12 : Int32) σ) (fun σ1 =>
  jbd (f_X4_size w σ1) (fun v3 σ4 =>
  some (((-v3), σ4))))
set_option maxRecDepth 100000 in
set_option maxHeartbeats 4000000 in
theorem c_X1_size {l : Launch} {D : va_G} {ad : Nat → Nat} {cid : Nat → ClassId} {w : Nat} (hw : 18 ≤ w ∧ w ≤ 18) {σ : jMem} {r : Int32} {σ' : jMem} (h : f_X1_size w σ = some (r, σ')) : jMet l D ad cid yX1_size cX1_size 2 (some .int) 5 106 [.ref w, .ref 86] σ (some (.int r)) σ' := by
  refine jMet_of (ls0 := [some (.ref w), some (.ref 86)]) (by decide) (Nat.le_of_ble_eq_true rfl) rfl (fun K X R0 _ => ?_)
  unfold f_X1_size at h
  refine j_aload_n X 1 dX1_size_0 rfl rfl ?_
  refine j_bipush (v := 12) X dX1_size_1 (by decide) ?_
  obtain ⟨σ1, hm2, h⟩ := jbv_some h
  refine j_callV (as := [.int (12 : Int32)]) (st := []) (st1 := []) X ln_86 ly_86 rfl rfl sv_RX1_22 ⟨by decide, by decide⟩ rfl rfl (Nat.le_of_ble_eq_true rfl) rfl dX1_size_3 jrv_v (c_X0_begin  hm2) rfl ?_
  refine j_aload_n X 0 dX1_size_6 rfl rfl ?_
  refine j_aload_n X 1 dX1_size_7 rfl rfl ?_
  obtain ⟨v3, σ4, hm5, h⟩ := jbd_some h
  obtain ⟨z6i, z6q, z61, z62⟩ := jw_cls (by omega : 16 ≤ w ∧ w ≤ 21)
  refine j_callP (as := [.ref 86]) (st := []) (st1 := [.int v3]) X (jw_lt hw) z61 z62 sp_RX1_28 ⟨by decide, by decide⟩ rfl rfl (Nat.le_of_ble_eq_true rfl) rfl dX1_size_8 jrv_i (c_X4_size (by omega : 17 ≤ w ∧ w ≤ 19) hm5) rfl ?_
  refine j_ineg X dX1_size_11 ?_
  obtain ⟨rfl, rfl⟩ := jin2 h
  exact j_iret X R0 dX1_size_12
