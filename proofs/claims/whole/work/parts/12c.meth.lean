def f_X12_set (a0 : Int32) (a1 : Int32) (a2 : Int32) (σ : jMem) : Option (Int32 × jMem) :=
  jlet (jset σ 89 0 (0 : Int32)) (fun σ1 =>
  jbd (f_X12_isRow a0 σ1) (fun v2 σ3 =>
  if ¬ v2 = 0 then
  jlet (jset σ3 89 1 (0 : Int32)) (fun σ5 =>
  jld σ5 90 8 a0 (fun v6 =>
  if 0 ≤ v6 then
  jld σ5 91 8 a0 (fun v7 =>
  jbd (f_X12_in ((a1).toInt64) (0 : Int64) (((v7 - (1 : Int32))).toInt64) σ5) (fun v8 σ9 =>
  if ¬ v8 = 0 then
  jld σ9 90 8 a0 (fun v11 =>
  jj (fun (q13 : Int32) σ14 =>
  jst σ14 92 320 (((40 : Int32) * a0) + a1) q13 (fun σ15 =>
  jld σ15 92 320 (((40 : Int32) * a0) + a1) (fun v16 =>
  some ((v16, σ15))))) (fun k12 =>
  if ¬ v11 = 0 then
  jld σ9 90 8 a0 (fun v17 =>
  if ¬ v17 = (1 : Int32) then
  k12 a2 σ9
else
  k12 ((a2).toInt16.toInt32) σ9)
else
  k12 ((a2).toInt8.toInt32) σ9))
else
  jbd (f_X12_finding (2 : Int32) σ9) (fun v18 σ19 =>
  some ((v18, σ19)))))
else
  jbd (f_X12_finding (1 : Int32) σ5) (fun v21 σ22 =>
  some ((v21, σ22)))))
else
  some (((-1000001 : Int32), σ3))))
set_option maxRecDepth 100000 in
set_option maxHeartbeats 4000000 in
theorem c_X12_set {l : Launch} {D : va_G} {ad : Nat → Nat} {cid : Nat → ClassId} {a0 : Int32} {a1 : Int32} {a2 : Int32}  {σ : jMem} {r : Int32} {σ' : jMem} (h : f_X12_set a0 a1 a2 σ = some (r, σ')) : jMet l D ad cid yX12_set cX12_set 4 (some .int) 2 45 [.ref 89, .int a0, .int a1, .int a2] σ (some (.int r)) σ' := by
  refine jMet_of (ls0 := [some (.ref 89), some (.int a0), some (.int a1), some (.int a2)]) (by decide) (Nat.le_of_ble_eq_true rfl) rfl (fun K X R0 _ => ?_)
  unfold f_X12_set at h
  refine j_aload_n X 0 dX12_set_0 rfl rfl ?_
  refine j_iconst (v := 0) X dX12_set_1 (by decide) ?_
  refine j_put X fp_RX12_47 ln_89 ly_89 rfl rfl rfl dX12_set_2 h (fun σ1 h => ?_)
  refine j_iload_n X 1 dX12_set_5 rfl rfl ?_
  obtain ⟨v2, σ3, hm4, h⟩ := jbd_some h
  refine j_callS (as := [.int a0]) (st := []) (st1 := [.int v2]) X ss_RX12_61 ⟨by decide, by decide⟩ rfl rfl (Nat.le_of_ble_eq_true rfl) rfl dX12_set_6 jrv_i (c_X12_isRow  hm4) rfl ?_
  refine j_if_ne (tgt := 15) X dX12_set_9 (by decide) h (fun h => ?_) (fun h => ?_)
  · refine j_aload_n X 0 dX12_set_15 rfl rfl ?_
    refine j_iconst (v := 0) X dX12_set_16 (by decide) ?_
    refine j_put X fp_RX12_51 ln_89 ly_89 rfl rfl rfl dX12_set_17 h (fun σ5 h => ?_)
    refine j_aload_n X 0 dX12_set_20 rfl rfl ?_
    refine j_getR (t := 90) X fg_RX12_7 ln_89 ly_89 rfl dX12_set_21 ?_
    refine j_iload_n X 1 dX12_set_24 rfl rfl ?_
    refine j_iaload X ln_90 ly_90 dX12_set_25 h (fun v6 h => ?_)
    refine j_if_ge (tgt := 35) X dX12_set_26 (by decide) h (fun h => ?_) (fun h => ?_)
    · refine j_iload_n X 2 dX12_set_35 rfl rfl ?_
      refine j_i2l X dX12_set_36 ?_
      refine j_lconst (v := 0) X dX12_set_37 (by decide) ?_
      refine j_aload_n X 0 dX12_set_38 rfl rfl ?_
      refine j_getR (t := 91) X fg_RX12_13 ln_89 ly_89 rfl dX12_set_39 ?_
      refine j_iload_n X 1 dX12_set_42 rfl rfl ?_
      refine j_iaload X ln_91 ly_91 dX12_set_43 h (fun v7 h => ?_)
      refine j_iconst (v := 1) X dX12_set_44 (by decide) ?_
      refine j_isub X dX12_set_45 ?_
      refine j_i2l X dX12_set_46 ?_
      obtain ⟨v8, σ9, hm10, h⟩ := jbd_some h
      refine j_callS (as := [.long ((a1).toInt64), .long (0 : Int64), .long (((v7 - (1 : Int32))).toInt64)]) (st := []) (st1 := [.int v8]) X ss_RX12_57 ⟨by decide, by decide⟩ rfl rfl (Nat.le_of_ble_eq_true rfl) rfl dX12_set_47 jrv_i (c_X12_in  hm10) rfl ?_
      refine j_if_ne (tgt := 59) X dX12_set_50 (by decide) h (fun h => ?_) (fun h => ?_)
      · refine j_aload_n X 0 dX12_set_59 rfl rfl ?_
        refine j_getR (t := 92) X fg_RX12_16 ln_89 ly_89 rfl dX12_set_60 ?_
        refine j_bipush (v := 40) X dX12_set_63 (by decide) ?_
        refine j_iload_n X 1 dX12_set_65 rfl rfl ?_
        refine j_imul X dX12_set_66 ?_
        refine j_iload_n X 2 dX12_set_67 rfl rfl ?_
        refine j_iadd X dX12_set_68 ?_
        refine j_aload_n X 0 dX12_set_69 rfl rfl ?_
        refine j_getR (t := 90) X fg_RX12_7 ln_89 ly_89 rfl dX12_set_70 ?_
        refine j_iload_n X 1 dX12_set_73 rfl rfl ?_
        refine j_iaload X ln_90 ly_90 dX12_set_74 h (fun v11 h => ?_)
        refine j_join (pcJ := 99) (lsJ := fun q13 => [some (.ref 89), some (.int a0), some (.int a1), none]) (stJ := fun q13 => [.int q13, .int (((40 : Int32) * a0) + a1), .ref 92]) h (fun q13 σ14 h => ?_) (fun k12 hk12 h => ?_)
        · refine j_iastore X ln_92 ly_92 dX12_set_99 h (fun σ15 h => ?_)
          refine j_aload_n X 0 dX12_set_100 rfl rfl ?_
          refine j_getR (t := 92) X fg_RX12_16 ln_89 ly_89 rfl dX12_set_101 ?_
          refine j_bipush (v := 40) X dX12_set_104 (by decide) ?_
          refine j_iload_n X 1 dX12_set_106 rfl rfl ?_
          refine j_imul X dX12_set_107 ?_
          refine j_iload_n X 2 dX12_set_108 rfl rfl ?_
          refine j_iadd X dX12_set_109 ?_
          refine j_iaload X ln_92 ly_92 dX12_set_110 h (fun v16 h => ?_)
          obtain ⟨rfl, rfl⟩ := jin2 h
          exact j_iret X R0 dX12_set_111
        · refine j_if_ne (tgt := 83) X dX12_set_75 (by decide) h (fun h => ?_) (fun h => ?_)
          · refine j_aload_n X 0 dX12_set_83 rfl rfl ?_
            refine j_getR (t := 90) X fg_RX12_7 ln_89 ly_89 rfl dX12_set_84 ?_
            refine j_iload_n X 1 dX12_set_87 rfl rfl ?_
            refine j_iaload X ln_90 ly_90 dX12_set_88 h (fun v17 h => ?_)
            refine j_iconst (v := 1) X dX12_set_89 (by decide) ?_
            refine j_icmp_ne (tgt := 98) X dX12_set_90 (by decide) h (fun h => ?_) (fun h => ?_)
            · refine j_iload_n X 3 dX12_set_98 rfl rfl ?_
              exact j_sub (ls' := [some (.ref 89), some (.int a0), some (.int a1), none]) ⟨Or.inr rfl, Or.inr rfl, Or.inr rfl, Or.inl rfl, trivial⟩ (hk12 a2 σ9 h)
            · refine j_iload_n X 3 dX12_set_93 rfl rfl ?_
              refine j_i2s X dX12_set_94 ?_
              refine j_goto (tgt := 99) X dX12_set_95 (by decide) ?_
              exact j_sub (ls' := [some (.ref 89), some (.int a0), some (.int a1), none]) ⟨Or.inr rfl, Or.inr rfl, Or.inr rfl, Or.inl rfl, trivial⟩ (hk12 ((a2).toInt16.toInt32) σ9 h)
          · refine j_iload_n X 3 dX12_set_78 rfl rfl ?_
            refine j_i2b X dX12_set_79 ?_
            refine j_goto (tgt := 99) X dX12_set_80 (by decide) ?_
            exact j_sub (ls' := [some (.ref 89), some (.int a0), some (.int a1), none]) ⟨Or.inr rfl, Or.inr rfl, Or.inr rfl, Or.inl rfl, trivial⟩ (hk12 ((a2).toInt8.toInt32) σ9 h)
      · refine j_aload_n X 0 dX12_set_53 rfl rfl ?_
        refine j_iconst (v := 2) X dX12_set_54 (by decide) ?_
        obtain ⟨v18, σ19, hm20, h⟩ := jbd_some h
        refine j_callV (as := [.int (2 : Int32)]) (st := []) (st1 := [.int v18]) X ln_89 ly_89 rfl rfl sv_RX12_68 ⟨by decide, by decide⟩ rfl rfl (Nat.le_of_ble_eq_true rfl) rfl dX12_set_55 jrv_i (c_X12_finding  hm20) rfl ?_
        obtain ⟨rfl, rfl⟩ := jin2 h
        exact j_iret X R0 dX12_set_58
    · refine j_aload_n X 0 dX12_set_29 rfl rfl ?_
      refine j_iconst (v := 1) X dX12_set_30 (by decide) ?_
      obtain ⟨v21, σ22, hm23, h⟩ := jbd_some h
      refine j_callV (as := [.int (1 : Int32)]) (st := []) (st1 := [.int v21]) X ln_89 ly_89 rfl rfl sv_RX12_68 ⟨by decide, by decide⟩ rfl rfl (Nat.le_of_ble_eq_true rfl) rfl dX12_set_31 jrv_i (c_X12_finding  hm23) rfl ?_
      obtain ⟨rfl, rfl⟩ := jin2 h
      exact j_iret X R0 dX12_set_34
  · refine j_ldc (v := -1000001) X tw_948 dX12_set_12 ?_
    obtain ⟨rfl, rfl⟩ := jin2 h
    exact j_iret X R0 dX12_set_14
