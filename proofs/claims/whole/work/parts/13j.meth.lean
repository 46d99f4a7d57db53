def f_X12_far (a0 : Int32) (σ : jMem) : Option (Int32 × jMem) :=
  jlet (jset σ 89 0 (0 : Int32)) (fun σ1 =>
  jbd (f_X12_isThere  σ1) (fun v2 σ3 =>
  if ¬ v2 = 0 then
  jbd (f_X12_isField ((a0).toInt64) σ3) (fun v5 σ6 =>
  if ¬ v5 = 0 then
  jbd (f_X12_allPaths  σ6) (fun v8 σ9 =>
  jbv (f_X12_layFars v8 σ9) (fun σ11 =>
  jld σ11 98 8 a0 (fun v13 =>
  some ((v13, σ11)))))
else
  some (((-1000001 : Int32), σ6)))
else
  some (((-1000002 : Int32), σ3))))
set_option maxRecDepth 100000 in
set_option maxHeartbeats 4000000 in
theorem c_X12_far {l : Launch} {D : va_G} {ad : Nat → Nat} {cid : Nat → ClassId} {a0 : Int32}  {σ : jMem} {r : Int32} {σ' : jMem} (h : f_X12_far a0 σ = some (r, σ')) : jMet l D ad cid yX12_far cX12_far 2 (some .int) 2 48 [.ref 89, .int a0] σ (some (.int r)) σ' := by
  refine jMet_of (ls0 := [some (.ref 89), some (.int a0)]) (by decide) (Nat.le_of_ble_eq_true rfl) rfl (fun K X R0 _ => ?_)
  unfold f_X12_far at h
  refine j_aload_n X 0 dX12_far_0 rfl rfl ?_
  refine j_iconst (v := 0) X dX12_far_1 (by decide) ?_
  refine j_put X fp_RX12_47 ln_89 ly_89 rfl rfl rfl dX12_far_2 h (fun σ1 h => ?_)
  refine j_aload_n X 0 dX12_far_5 rfl rfl ?_
  obtain ⟨v2, σ3, hm4, h⟩ := jbd_some h
  refine j_callV (as := []) (st := []) (st1 := [.int v2]) X ln_89 ly_89 rfl rfl sv_RX12_203 ⟨by decide, by decide⟩ rfl rfl (Nat.le_of_ble_eq_true rfl) rfl dX12_far_6 jrv_i (c_X12_isThere  hm4) rfl ?_
  refine j_if_ne (tgt := 15) X dX12_far_9 (by decide) h (fun h => ?_) (fun h => ?_)
  · refine j_iload_n X 1 dX12_far_15 rfl rfl ?_
    refine j_i2l X dX12_far_16 ?_
    obtain ⟨v5, σ6, hm7, h⟩ := jbd_some h
    refine j_callS (as := [.long ((a0).toInt64)]) (st := []) (st1 := [.int v5]) X ss_RX12_207 ⟨by decide, by decide⟩ rfl rfl (Nat.le_of_ble_eq_true rfl) rfl dX12_far_17 jrv_i (c_X12_isField  hm7) rfl ?_
    refine j_if_ne (tgt := 26) X dX12_far_20 (by decide) h (fun h => ?_) (fun h => ?_)
    · refine j_aload_n X 0 dX12_far_26 rfl rfl ?_
      refine j_aload_n X 0 dX12_far_27 rfl rfl ?_
      obtain ⟨v8, σ9, hm10, h⟩ := jbd_some h
      refine j_callV (as := []) (st := [.ref 89]) (st1 := [.int v8, .ref 89]) X ln_89 ly_89 rfl rfl sv_RX12_157 ⟨by decide, by decide⟩ rfl rfl (Nat.le_of_ble_eq_true rfl) rfl dX12_far_28 jrv_i (c_X12_allPaths  hm10) rfl ?_
      obtain ⟨σ11, hm12, h⟩ := jbv_some h
      refine j_callV (as := [.int v8]) (st := []) (st1 := []) X ln_89 ly_89 rfl rfl sv_RX12_161 ⟨by decide, by decide⟩ rfl rfl (Nat.le_of_ble_eq_true rfl) rfl dX12_far_31 jrv_v (c_X12_layFars  hm12) rfl ?_
      refine j_aload_n X 0 dX12_far_34 rfl rfl ?_
      refine j_getR (t := 98) X fg_RX12_34 ln_89 ly_89 rfl dX12_far_35 ?_
      refine j_iload_n X 1 dX12_far_38 rfl rfl ?_
      refine j_iaload X ln_98 ly_98 dX12_far_39 h (fun v13 h => ?_)
      obtain ⟨rfl, rfl⟩ := jin2 h
      exact j_iret X R0 dX12_far_40
    · refine j_ldc (v := -1000001) X tw_948 dX12_far_23 ?_
      obtain ⟨rfl, rfl⟩ := jin2 h
      exact j_iret X R0 dX12_far_25
  · refine j_ldc (v := -1000002) X tw_1041 dX12_far_12 ?_
    obtain ⟨rfl, rfl⟩ := jin2 h
    exact j_iret X R0 dX12_far_14
