theorem ss_RX12_133 : jSiS RX12 133 yX12_kindBy cX12_kindBy 1 (some .int) 1 := ⟨tw_1021, tw_1022, tw_13, tw_1023, by decide, by decide, by decide +kernel⟩
def f_X12_readWitness  (σ : jMem) : Option jMem :=
  jbd (f_X12_kindBy (σ.1 89 15) σ) (fun v1 σ2 =>
  jld σ2 94 67 (4 : Int32) (fun v4 =>
  jj (fun (q6 : Unit) σ7 =>
  jbv (f_X12_must (1 : Int32) σ7) (fun σ8 =>
  jbd (f_X12_number (0 : Int32) (60 : Int32) σ8) (fun v10 σ11 =>
  jbv (f_X12_mustSign (44 : Int32) σ11) (fun σ13 =>
  jbd (f_X12_number (0 : Int32) (7 : Int32) σ13) (fun v15 σ16 =>
  jbv (f_X12_mustSign (59 : Int32) σ16) (fun σ18 =>
  if ¬ (σ18.1 89 16) = 0 then
  some σ18
else
  jld σ18 94 67 (4 : Int32) (fun v20 =>
  jlet (((43 : Int32) + ((4 : Int32) * v20))) (fun v21 =>
  jst σ18 94 67 v21 v1 (fun σ22 =>
  jst σ22 94 67 (v21 + (1 : Int32)) v10 (fun σ23 =>
  jst σ23 94 67 (v21 + (2 : Int32)) v15 (fun σ24 =>
  jld σ24 94 67 (4 : Int32) (fun v25 =>
  jst σ24 94 67 (4 : Int32) (v25 + (1 : Int32)) (fun σ26 =>
  some σ26))))))))))))) (fun k5 =>
  if ¬ v4 = (6 : Int32) then
  k5 () σ2
else
  jbv (f_X12_bad (3 : Int32) σ2) (fun σ27 =>
  k5 () σ27))))
set_option maxRecDepth 100000 in
set_option maxHeartbeats 4000000 in
theorem c_X12_readWitness {l : Launch} {D : va_G} {ad : Nat → Nat} {cid : Nat → ClassId}   {σ : jMem} {σ' : jMem} (h : f_X12_readWitness  σ = some σ') : jMet l D ad cid yX12_readWitness cX12_readWitness 5 none 4 89 [.ref 89] σ none σ' := by
  refine jMet_of (ls0 := [some (.ref 89), none, none, none, none]) (by decide) (Nat.le_of_ble_eq_true rfl) rfl (fun K X R0 _ => ?_)
  unfold f_X12_readWitness at h
  refine j_aload_n X 0 dX12_readWitness_0 rfl rfl ?_
  refine j_getI X fg_RX12_91 ln_89 ly_89 rfl dX12_readWitness_1 ?_
  obtain ⟨v1, σ2, hm3, h⟩ := jbd_some h
  refine j_callS (as := [.int (σ.1 89 15)]) (st := []) (st1 := [.int v1]) X ss_RX12_133 ⟨by decide, by decide⟩ rfl rfl (Nat.le_of_ble_eq_true rfl) rfl dX12_readWitness_4 jrv_i (c_X12_kindBy  hm3) rfl ?_
  refine j_istore_n (ls' := [some (.ref 89), some (.int v1), none, none, none]) X 1 dX12_readWitness_7 rfl (Nat.le_of_ble_eq_true rfl) rfl ?_
  refine j_aload_n X 0 dX12_readWitness_8 rfl rfl ?_
  refine j_getR (t := 94) X fg_RX12_22 ln_89 ly_89 rfl dX12_readWitness_9 ?_
  refine j_iconst (v := 4) X dX12_readWitness_12 (by decide) ?_
  refine j_iaload X ln_94 ly_94 dX12_readWitness_13 h (fun v4 h => ?_)
  refine j_bipush (v := 6) X dX12_readWitness_14 (by decide) ?_
  refine j_join (pcJ := 24) (lsJ := fun q6 => [some (.ref 89), some (.int v1), none, none, none]) (stJ := fun q6 => []) h (fun q6 σ7 h => ?_) (fun k5 hk5 h => ?_)
  · refine j_aload_n X 0 dX12_readWitness_24 rfl rfl ?_
    refine j_iconst (v := 1) X dX12_readWitness_25 (by decide) ?_
    obtain ⟨σ8, hm9, h⟩ := jbv_some h
    refine j_callV (as := [.int (1 : Int32)]) (st := []) (st1 := []) X ln_89 ly_89 rfl rfl sv_RX12_112 ⟨by decide, by decide⟩ rfl rfl (Nat.le_of_ble_eq_true rfl) rfl dX12_readWitness_26 jrv_v (c_X12_must  hm9) rfl ?_
    refine j_aload_n X 0 dX12_readWitness_29 rfl rfl ?_
    refine j_iconst (v := 0) X dX12_readWitness_30 (by decide) ?_
    refine j_bipush (v := 60) X dX12_readWitness_31 (by decide) ?_
    obtain ⟨v10, σ11, hm12, h⟩ := jbd_some h
    refine j_callV (as := [.int (0 : Int32), .int (60 : Int32)]) (st := []) (st1 := [.int v10]) X ln_89 ly_89 rfl rfl sv_RX12_122 ⟨by decide, by decide⟩ rfl rfl (Nat.le_of_ble_eq_true rfl) rfl dX12_readWitness_33 jrv_i (c_X12_number  hm12) rfl ?_
    refine j_istore_n (ls' := [some (.ref 89), some (.int v1), some (.int v10), none, none]) X 2 dX12_readWitness_36 rfl (Nat.le_of_ble_eq_true rfl) rfl ?_
    refine j_aload_n X 0 dX12_readWitness_37 rfl rfl ?_
    refine j_bipush (v := 44) X dX12_readWitness_38 (by decide) ?_
    obtain ⟨σ13, hm14, h⟩ := jbv_some h
    refine j_callV (as := [.int (44 : Int32)]) (st := []) (st1 := []) X ln_89 ly_89 rfl rfl sv_RX12_126 ⟨by decide, by decide⟩ rfl rfl (Nat.le_of_ble_eq_true rfl) rfl dX12_readWitness_40 jrv_v (c_X12_mustSign  hm14) rfl ?_
    refine j_aload_n X 0 dX12_readWitness_43 rfl rfl ?_
    refine j_iconst (v := 0) X dX12_readWitness_44 (by decide) ?_
    refine j_bipush (v := 7) X dX12_readWitness_45 (by decide) ?_
    obtain ⟨v15, σ16, hm17, h⟩ := jbd_some h
    refine j_callV (as := [.int (0 : Int32), .int (7 : Int32)]) (st := []) (st1 := [.int v15]) X ln_89 ly_89 rfl rfl sv_RX12_122 ⟨by decide, by decide⟩ rfl rfl (Nat.le_of_ble_eq_true rfl) rfl dX12_readWitness_47 jrv_i (c_X12_number  hm17) rfl ?_
    refine j_istore_n (ls' := [some (.ref 89), some (.int v1), some (.int v10), some (.int v15), none]) X 3 dX12_readWitness_50 rfl (Nat.le_of_ble_eq_true rfl) rfl ?_
    refine j_aload_n X 0 dX12_readWitness_51 rfl rfl ?_
    refine j_bipush (v := 59) X dX12_readWitness_52 (by decide) ?_
    obtain ⟨σ18, hm19, h⟩ := jbv_some h
    refine j_callV (as := [.int (59 : Int32)]) (st := []) (st1 := []) X ln_89 ly_89 rfl rfl sv_RX12_126 ⟨by decide, by decide⟩ rfl rfl (Nat.le_of_ble_eq_true rfl) rfl dX12_readWitness_54 jrv_v (c_X12_mustSign  hm19) rfl ?_
    refine j_aload_n X 0 dX12_readWitness_57 rfl rfl ?_
    refine j_getI X fg_RX12_78 ln_89 ly_89 rfl dX12_readWitness_58 ?_
    refine j_if_ne (tgt := 115) X dX12_readWitness_61 (by decide) h (fun h => ?_) (fun h => ?_)
    · obtain rfl := Option.some.inj h
      exact j_vret X R0 dX12_readWitness_115
    · refine j_bipush (v := 43) X dX12_readWitness_64 (by decide) ?_
      refine j_iconst (v := 4) X dX12_readWitness_66 (by decide) ?_
      refine j_aload_n X 0 dX12_readWitness_67 rfl rfl ?_
      refine j_getR (t := 94) X fg_RX12_22 ln_89 ly_89 rfl dX12_readWitness_68 ?_
      refine j_iconst (v := 4) X dX12_readWitness_71 (by decide) ?_
      refine j_iaload X ln_94 ly_94 dX12_readWitness_72 h (fun v20 h => ?_)
      refine j_imul X dX12_readWitness_73 ?_
      refine j_iadd X dX12_readWitness_74 ?_
      refine j_letI h (fun v21 h => ?_)
      refine j_istore (ls' := [some (.ref 89), some (.int v1), some (.int v10), some (.int v15), some (.int v21)]) X dX12_readWitness_75 (Nat.le_of_ble_eq_true rfl) rfl ?_
      refine j_aload_n X 0 dX12_readWitness_77 rfl rfl ?_
      refine j_getR (t := 94) X fg_RX12_22 ln_89 ly_89 rfl dX12_readWitness_78 ?_
      refine j_iload X dX12_readWitness_81 rfl ?_
      refine j_iload_n X 1 dX12_readWitness_83 rfl rfl ?_
      refine j_iastore X ln_94 ly_94 dX12_readWitness_84 h (fun σ22 h => ?_)
      refine j_aload_n X 0 dX12_readWitness_85 rfl rfl ?_
      refine j_getR (t := 94) X fg_RX12_22 ln_89 ly_89 rfl dX12_readWitness_86 ?_
      refine j_iload X dX12_readWitness_89 rfl ?_
      refine j_iconst (v := 1) X dX12_readWitness_91 (by decide) ?_
      refine j_iadd X dX12_readWitness_92 ?_
      refine j_iload_n X 2 dX12_readWitness_93 rfl rfl ?_
      refine j_iastore X ln_94 ly_94 dX12_readWitness_94 h (fun σ23 h => ?_)
      refine j_aload_n X 0 dX12_readWitness_95 rfl rfl ?_
      refine j_getR (t := 94) X fg_RX12_22 ln_89 ly_89 rfl dX12_readWitness_96 ?_
      refine j_iload X dX12_readWitness_99 rfl ?_
      refine j_iconst (v := 2) X dX12_readWitness_101 (by decide) ?_
      refine j_iadd X dX12_readWitness_102 ?_
      refine j_iload_n X 3 dX12_readWitness_103 rfl rfl ?_
      refine j_iastore X ln_94 ly_94 dX12_readWitness_104 h (fun σ24 h => ?_)
      refine j_aload_n X 0 dX12_readWitness_105 rfl rfl ?_
      refine j_getR (t := 94) X fg_RX12_22 ln_89 ly_89 rfl dX12_readWitness_106 ?_
      refine j_iconst (v := 4) X dX12_readWitness_109 (by decide) ?_
      refine j_dup2 X dX12_readWitness_110 rfl rfl ?_
      refine j_iaload X ln_94 ly_94 dX12_readWitness_111 h (fun v25 h => ?_)
      refine j_iconst (v := 1) X dX12_readWitness_112 (by decide) ?_
      refine j_iadd X dX12_readWitness_113 ?_
      refine j_iastore X ln_94 ly_94 dX12_readWitness_114 h (fun σ26 h => ?_)
      obtain rfl := Option.some.inj h
      exact j_vret X R0 dX12_readWitness_115
  · refine j_icmp_ne (tgt := 24) X dX12_readWitness_16 (by decide) h (fun h => ?_) (fun h => ?_)
    · exact hk5 () σ2 h
    · refine j_aload_n X 0 dX12_readWitness_19 rfl rfl ?_
      refine j_iconst (v := 3) X dX12_readWitness_20 (by decide) ?_
      obtain ⟨σ27, hm28, h⟩ := jbv_some h
      refine j_callV (as := [.int (3 : Int32)]) (st := []) (st1 := []) X ln_89 ly_89 rfl rfl sv_RX12_105 ⟨by decide, by decide⟩ rfl rfl (Nat.le_of_ble_eq_true rfl) rfl dX12_readWitness_21 jrv_v (c_X12_bad  hm28) rfl ?_
      exact hk5 () σ27 h
