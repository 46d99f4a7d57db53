def f_X12_other (a0 : Int32) (a1 : Int32) (σ : jMem) : Option (Int32 × jMem) :=
  jlet (((7 : Int32) + ((3 : Int32) * a0))) (fun v1 =>
  jld σ 93 67 v1 (fun v2 =>
  if ¬ v2 = a1 then
  jld σ 93 67 (v1 + (1 : Int32)) (fun v3 =>
  if ¬ v3 = a1 then
  some (((-1000000 : Int32), σ))
else
  jld σ 93 67 v1 (fun v4 =>
  some ((v4, σ))))
else
  jld σ 93 67 (v1 + (1 : Int32)) (fun v5 =>
  some ((v5, σ)))))
set_option maxRecDepth 100000 in
set_option maxHeartbeats 4000000 in
theorem c_X12_other {l : Launch} {D : va_G} {ad : Nat → Nat} {cid : Nat → ClassId} {a0 : Int32} {a1 : Int32}  {σ : jMem} {r : Int32} {σ' : jMem} (h : f_X12_other a0 a1 σ = some (r, σ')) : jMet l D ad cid yX12_other cX12_other 4 (some .int) 0 0 [.ref 89, .int a0, .int a1] σ (some (.int r)) σ' := by
  refine jMet_of (ls0 := [some (.ref 89), some (.int a0), some (.int a1), none]) (by decide) (Nat.le_of_ble_eq_true rfl) rfl (fun K X R0 _ => ?_)
  unfold f_X12_other at h
  refine j_bipush (v := 7) X dX12_other_0 (by decide) ?_
  refine j_iconst (v := 3) X dX12_other_2 (by decide) ?_
  refine j_iload_n X 1 dX12_other_3 rfl rfl ?_
  refine j_imul X dX12_other_4 ?_
  refine j_iadd X dX12_other_5 ?_
  refine j_letI h (fun v1 h => ?_)
  refine j_istore_n (ls' := [some (.ref 89), some (.int a0), some (.int a1), some (.int v1)]) X 3 dX12_other_6 rfl (Nat.le_of_ble_eq_true rfl) rfl ?_
  refine j_aload_n X 0 dX12_other_7 rfl rfl ?_
  refine j_getR (t := 93) X fg_RX12_19 ln_89 ly_89 rfl dX12_other_8 ?_
  refine j_iload_n X 3 dX12_other_11 rfl rfl ?_
  refine j_iaload X ln_93 ly_93 dX12_other_12 h (fun v2 h => ?_)
  refine j_iload_n X 2 dX12_other_13 rfl rfl ?_
  refine j_icmp_ne (tgt := 28) X dX12_other_14 (by decide) h (fun h => ?_) (fun h => ?_)
  · refine j_aload_n X 0 dX12_other_28 rfl rfl ?_
    refine j_getR (t := 93) X fg_RX12_19 ln_89 ly_89 rfl dX12_other_29 ?_
    refine j_iload_n X 3 dX12_other_32 rfl rfl ?_
    refine j_iconst (v := 1) X dX12_other_33 (by decide) ?_
    refine j_iadd X dX12_other_34 ?_
    refine j_iaload X ln_93 ly_93 dX12_other_35 h (fun v3 h => ?_)
    refine j_iload_n X 2 dX12_other_36 rfl rfl ?_
    refine j_icmp_ne (tgt := 49) X dX12_other_37 (by decide) h (fun h => ?_) (fun h => ?_)
    · refine j_ldc (v := -1000000) X tw_988 dX12_other_49 ?_
      obtain ⟨rfl, rfl⟩ := jin2 h
      exact j_iret X R0 dX12_other_51
    · refine j_aload_n X 0 dX12_other_40 rfl rfl ?_
      refine j_getR (t := 93) X fg_RX12_19 ln_89 ly_89 rfl dX12_other_41 ?_
      refine j_iload_n X 3 dX12_other_44 rfl rfl ?_
      refine j_iaload X ln_93 ly_93 dX12_other_45 h (fun v4 h => ?_)
      refine j_goto (tgt := 51) X dX12_other_46 (by decide) ?_
      obtain ⟨rfl, rfl⟩ := jin2 h
      exact j_iret X R0 dX12_other_51
  · refine j_aload_n X 0 dX12_other_17 rfl rfl ?_
    refine j_getR (t := 93) X fg_RX12_19 ln_89 ly_89 rfl dX12_other_18 ?_
    refine j_iload_n X 3 dX12_other_21 rfl rfl ?_
    refine j_iconst (v := 1) X dX12_other_22 (by decide) ?_
    refine j_iadd X dX12_other_23 ?_
    refine j_iaload X ln_93 ly_93 dX12_other_24 h (fun v5 h => ?_)
    refine j_goto (tgt := 51) X dX12_other_25 (by decide) ?_
    obtain ⟨rfl, rfl⟩ := jin2 h
    exact j_iret X R0 dX12_other_51
