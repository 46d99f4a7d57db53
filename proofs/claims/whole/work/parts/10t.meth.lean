def f_X2_shorten (a0 : Int32) (a1 : Int32) (a2 : Int32) (σ : jMem) : Option (Int32 × jMem) :=
  jld σ 81 8 a1 (fun v1 =>
  if v1 = (-1 : Int32) then
  some (((0 : Int32), σ))
else
  jld σ 81 8 a0 (fun v2 =>
  jj (fun (q4 : Unit) σ5 =>
  jld σ5 81 8 a1 (fun v6 =>
  jst σ5 81 8 a0 (v6 + a2) (fun σ7 =>
  some (((1 : Int32), σ7))))) (fun k3 =>
  if v2 = (-1 : Int32) then
  k3 () σ
else
  jld σ 81 8 a0 (fun v8 =>
  jld σ 81 8 a1 (fun v9 =>
  if (v9 + a2) < v8 then
  k3 () σ
else
  some (((0 : Int32), σ)))))))
set_option maxRecDepth 100000 in
set_option maxHeartbeats 4000000 in
theorem c_X2_shorten {l : Launch} {D : va_G} {ad : Nat → Nat} {cid : Nat → ClassId} {a0 : Int32} {a1 : Int32} {a2 : Int32}  {σ : jMem} {r : Int32} {σ' : jMem} (h : f_X2_shorten a0 a1 a2 σ = some (r, σ')) : jMet l D ad cid yX2_shorten cX2_shorten 4 (some .boolean) 0 0 [.ref 80, .int a0, .int a1, .int a2] σ (some (.int r)) σ' := by
  refine jMet_of (ls0 := [some (.ref 80), some (.int a0), some (.int a1), some (.int a2)]) (by decide) (Nat.le_of_ble_eq_true rfl) rfl (fun K X R0 _ => ?_)
  unfold f_X2_shorten at h
  refine j_aload_n X 0 dX2_shorten_0 rfl rfl ?_
  refine j_getR (t := 81) X fg_RX2_9 ln_80 ly_80 rfl dX2_shorten_1 ?_
  refine j_iload_n X 2 dX2_shorten_4 rfl rfl ?_
  refine j_iaload X ln_81 ly_81 dX2_shorten_5 h (fun v1 h => ?_)
  refine j_iconst (v := -1) X dX2_shorten_6 (by decide) ?_
  refine j_icmp_eq (tgt := 37) X dX2_shorten_7 (by decide) h (fun h => ?_) (fun h => ?_)
  · refine j_iconst (v := 0) X dX2_shorten_37 (by decide) ?_
    obtain ⟨rfl, rfl⟩ := jin2 h
    exact j_zret X R0 rfl dX2_shorten_38
  · refine j_aload_n X 0 dX2_shorten_10 rfl rfl ?_
    refine j_getR (t := 81) X fg_RX2_9 ln_80 ly_80 rfl dX2_shorten_11 ?_
    refine j_iload_n X 1 dX2_shorten_14 rfl rfl ?_
    refine j_iaload X ln_81 ly_81 dX2_shorten_15 h (fun v2 h => ?_)
    refine j_iconst (v := -1) X dX2_shorten_16 (by decide) ?_
    refine j_join (pcJ := 39) (lsJ := fun q4 => [some (.ref 80), some (.int a0), some (.int a1), some (.int a2)]) (stJ := fun q4 => []) h (fun q4 σ5 h => ?_) (fun k3 hk3 h => ?_)
    · refine j_aload_n X 0 dX2_shorten_39 rfl rfl ?_
      refine j_getR (t := 81) X fg_RX2_9 ln_80 ly_80 rfl dX2_shorten_40 ?_
      refine j_iload_n X 1 dX2_shorten_43 rfl rfl ?_
      refine j_aload_n X 0 dX2_shorten_44 rfl rfl ?_
      refine j_getR (t := 81) X fg_RX2_9 ln_80 ly_80 rfl dX2_shorten_45 ?_
      refine j_iload_n X 2 dX2_shorten_48 rfl rfl ?_
      refine j_iaload X ln_81 ly_81 dX2_shorten_49 h (fun v6 h => ?_)
      refine j_iload_n X 3 dX2_shorten_50 rfl rfl ?_
      refine j_iadd X dX2_shorten_51 ?_
      refine j_iastore X ln_81 ly_81 dX2_shorten_52 h (fun σ7 h => ?_)
      refine j_iconst (v := 1) X dX2_shorten_53 (by decide) ?_
      obtain ⟨rfl, rfl⟩ := jin2 h
      exact j_zret X R0 rfl dX2_shorten_54
    · refine j_icmp_eq (tgt := 39) X dX2_shorten_17 (by decide) h (fun h => ?_) (fun h => ?_)
      · exact hk3 () σ h
      · refine j_aload_n X 0 dX2_shorten_20 rfl rfl ?_
        refine j_getR (t := 81) X fg_RX2_9 ln_80 ly_80 rfl dX2_shorten_21 ?_
        refine j_iload_n X 1 dX2_shorten_24 rfl rfl ?_
        refine j_iaload X ln_81 ly_81 dX2_shorten_25 h (fun v8 h => ?_)
        refine j_aload_n X 0 dX2_shorten_26 rfl rfl ?_
        refine j_getR (t := 81) X fg_RX2_9 ln_80 ly_80 rfl dX2_shorten_27 ?_
        refine j_iload_n X 2 dX2_shorten_30 rfl rfl ?_
        refine j_iaload X ln_81 ly_81 dX2_shorten_31 h (fun v9 h => ?_)
        refine j_iload_n X 3 dX2_shorten_32 rfl rfl ?_
        refine j_iadd X dX2_shorten_33 ?_
        refine j_icmp_gt (tgt := 39) X dX2_shorten_34 (by decide) h (fun h => ?_) (fun h => ?_)
        · exact hk3 () σ h
        · refine j_iconst (v := 0) X dX2_shorten_37 (by decide) ?_
          obtain ⟨rfl, rfl⟩ := jin2 h
          exact j_zret X R0 rfl dX2_shorten_38
