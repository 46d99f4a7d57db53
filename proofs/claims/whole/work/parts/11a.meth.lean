theorem sv_RX12_119 : jSiV RX12 119 yX12_isLetter cX12_isLetter 2 (some .boolean) 1 := ⟨tw_993, tw_995, ts_24, tw_13, tw_996, by decide, by decide, by decide +kernel⟩
theorem sv_RX12_122 : jSiV RX12 122 yX12_number cX12_number 4 (some .int) 2 := ⟨tw_1005, tw_1007, ts_27, tw_13, tw_1008, by decide, by decide, by decide +kernel⟩
theorem sv_RX12_126 : jSiV RX12 126 yX12_mustSign cX12_mustSign 2 none 1 := ⟨tw_1009, tw_1011, ts_28, tw_13, tw_1012, by decide, by decide, by decide +kernel⟩
theorem sv_RX12_129 : jSiV RX12 129 yX12_isTold cX12_isTold 7 (some .boolean) 2 := ⟨tw_1017, tw_1019, ts_30, tw_13, tw_1020, by decide, by decide, by decide +kernel⟩
def f_X12_readPath  (σ : jMem) : Option jMem :=
  jld σ 94 67 (3 : Int32) (fun v1 =>
  jj (fun (q3 : Unit) σ4 =>
  jbd (f_X12_isLetter (112 : Int32) σ4) (fun v5 σ6 =>
  jbv (f_X12_must v5 σ6) (fun σ8 =>
  jbd (f_X12_number (0 : Int32) (7 : Int32) σ8) (fun v10 σ11 =>
  jbv (f_X12_mustSign (44 : Int32) σ11) (fun σ13 =>
  jj (fun (q16 : Unit) σ17 =>
  jbd (f_X12_number (0 : Int32) (7 : Int32) σ17) (fun v18 σ19 =>
  jbv (f_X12_mustSign (44 : Int32) σ19) (fun σ21 =>
  jbd (f_X12_number (1 : Int32) (9 : Int32) σ21) (fun v23 σ24 =>
  jbv (f_X12_mustSign (59 : Int32) σ24) (fun σ26 =>
  if ¬ (σ26.1 89 16) = 0 then
  some σ26
else
  jld σ26 94 67 (3 : Int32) (fun v28 =>
  jlet (((7 : Int32) + ((3 : Int32) * v28))) (fun v29 =>
  jst σ26 94 67 v29 v10 (fun σ30 =>
  jst σ30 94 67 (v29 + (1 : Int32)) v18 (fun σ31 =>
  jst σ31 94 67 (v29 + (2 : Int32)) v23 (fun σ32 =>
  jld σ32 94 67 (3 : Int32) (fun v33 =>
  jst σ32 94 67 (3 : Int32) (v33 + (1 : Int32)) (fun σ34 =>
  some σ34)))))))))))) (fun k15 =>
  if ¬ (σ13.1 89 16) = 0 then
  k15 () σ13
else
  if ¬ (σ13.1 89 14) = (3 : Int32) then
  k15 () σ13
else
  jj (fun (q36 : Unit) σ37 =>
  jbv (f_X12_bad (2 : Int32) σ37) (fun σ38 =>
  k15 () σ38)) (fun k35 =>
  if (σ13.1 89 15) = v10 then
  k35 () σ13
else
  jbd (f_X12_isTold v10 (((σ13.1 89 15)).toInt64) σ13) (fun v40 σ41 =>
  if v40 = 0 then
  k15 () σ41
else
  k35 () σ41)))))))) (fun k2 =>
  if ¬ v1 = (12 : Int32) then
  k2 () σ
else
  jbv (f_X12_bad (3 : Int32) σ) (fun σ43 =>
  k2 () σ43)))
set_option maxRecDepth 100000 in
set_option maxHeartbeats 4000000 in
theorem c_X12_readPath {l : Launch} {D : va_G} {ad : Nat → Nat} {cid : Nat → ClassId}   {σ : jMem} {σ' : jMem} (h : f_X12_readPath  σ = some σ') : jMet l D ad cid yX12_readPath cX12_readPath 5 none 4 89 [.ref 89] σ none σ' := by
  refine jMet_of (ls0 := [some (.ref 89), none, none, none, none]) (by decide) (Nat.le_of_ble_eq_true rfl) rfl (fun K X R0 _ => ?_)
  unfold f_X12_readPath at h
  refine j_aload_n X 0 dX12_readPath_0 rfl rfl ?_
  refine j_getR (t := 94) X fg_RX12_22 ln_89 ly_89 rfl dX12_readPath_1 ?_
  refine j_iconst (v := 3) X dX12_readPath_4 (by decide) ?_
  refine j_iaload X ln_94 ly_94 dX12_readPath_5 h (fun v1 h => ?_)
  refine j_bipush (v := 12) X dX12_readPath_6 (by decide) ?_
  refine j_join (pcJ := 16) (lsJ := fun q3 => [some (.ref 89), none, none, none, none]) (stJ := fun q3 => []) h (fun q3 σ4 h => ?_) (fun k2 hk2 h => ?_)
  · refine j_aload_n X 0 dX12_readPath_16 rfl rfl ?_
    refine j_aload_n X 0 dX12_readPath_17 rfl rfl ?_
    refine j_bipush (v := 112) X dX12_readPath_18 (by decide) ?_
    obtain ⟨v5, σ6, hm7, h⟩ := jbd_some h
    refine j_callV (as := [.int (112 : Int32)]) (st := [.ref 89]) (st1 := [.int v5, .ref 89]) X ln_89 ly_89 rfl rfl sv_RX12_119 ⟨by decide, by decide⟩ rfl rfl (Nat.le_of_ble_eq_true rfl) rfl dX12_readPath_20 jrv_i (c_X12_isLetter  hm7) rfl ?_
    obtain ⟨σ8, hm9, h⟩ := jbv_some h
    refine j_callV (as := [.int v5]) (st := []) (st1 := []) X ln_89 ly_89 rfl rfl sv_RX12_112 ⟨by decide, by decide⟩ rfl rfl (Nat.le_of_ble_eq_true rfl) rfl dX12_readPath_23 jrv_v (c_X12_must  hm9) rfl ?_
    refine j_aload_n X 0 dX12_readPath_26 rfl rfl ?_
    refine j_iconst (v := 0) X dX12_readPath_27 (by decide) ?_
    refine j_bipush (v := 7) X dX12_readPath_28 (by decide) ?_
    obtain ⟨v10, σ11, hm12, h⟩ := jbd_some h
    refine j_callV (as := [.int (0 : Int32), .int (7 : Int32)]) (st := []) (st1 := [.int v10]) X ln_89 ly_89 rfl rfl sv_RX12_122 ⟨by decide, by decide⟩ rfl rfl (Nat.le_of_ble_eq_true rfl) rfl dX12_readPath_30 jrv_i (c_X12_number  hm12) rfl ?_
    refine j_istore_n (ls' := [some (.ref 89), some (.int v10), none, none, none]) X 1 dX12_readPath_33 rfl (Nat.le_of_ble_eq_true rfl) rfl ?_
    refine j_aload_n X 0 dX12_readPath_34 rfl rfl ?_
    refine j_bipush (v := 44) X dX12_readPath_35 (by decide) ?_
    obtain ⟨σ13, hm14, h⟩ := jbv_some h
    refine j_callV (as := [.int (44 : Int32)]) (st := []) (st1 := []) X ln_89 ly_89 rfl rfl sv_RX12_126 ⟨by decide, by decide⟩ rfl rfl (Nat.le_of_ble_eq_true rfl) rfl dX12_readPath_37 jrv_v (c_X12_mustSign  hm14) rfl ?_
    refine j_aload_n X 0 dX12_readPath_40 rfl rfl ?_
    refine j_getI X fg_RX12_78 ln_89 ly_89 rfl dX12_readPath_41 ?_
    refine j_join (pcJ := 81) (lsJ := fun q16 => [some (.ref 89), some (.int v10), none, none, none]) (stJ := fun q16 => []) h (fun q16 σ17 h => ?_) (fun k15 hk15 h => ?_)
    · refine j_aload_n X 0 dX12_readPath_81 rfl rfl ?_
      refine j_iconst (v := 0) X dX12_readPath_82 (by decide) ?_
      refine j_bipush (v := 7) X dX12_readPath_83 (by decide) ?_
      obtain ⟨v18, σ19, hm20, h⟩ := jbd_some h
      refine j_callV (as := [.int (0 : Int32), .int (7 : Int32)]) (st := []) (st1 := [.int v18]) X ln_89 ly_89 rfl rfl sv_RX12_122 ⟨by decide, by decide⟩ rfl rfl (Nat.le_of_ble_eq_true rfl) rfl dX12_readPath_85 jrv_i (c_X12_number  hm20) rfl ?_
      refine j_istore_n (ls' := [some (.ref 89), some (.int v10), some (.int v18), none, none]) X 2 dX12_readPath_88 rfl (Nat.le_of_ble_eq_true rfl) rfl ?_
      refine j_aload_n X 0 dX12_readPath_89 rfl rfl ?_
      refine j_bipush (v := 44) X dX12_readPath_90 (by decide) ?_
      obtain ⟨σ21, hm22, h⟩ := jbv_some h
      refine j_callV (as := [.int (44 : Int32)]) (st := []) (st1 := []) X ln_89 ly_89 rfl rfl sv_RX12_126 ⟨by decide, by decide⟩ rfl rfl (Nat.le_of_ble_eq_true rfl) rfl dX12_readPath_92 jrv_v (c_X12_mustSign  hm22) rfl ?_
      refine j_aload_n X 0 dX12_readPath_95 rfl rfl ?_
      refine j_iconst (v := 1) X dX12_readPath_96 (by decide) ?_
      refine j_bipush (v := 9) X dX12_readPath_97 (by decide) ?_
      obtain ⟨v23, σ24, hm25, h⟩ := jbd_some h
      refine j_callV (as := [.int (1 : Int32), .int (9 : Int32)]) (st := []) (st1 := [.int v23]) X ln_89 ly_89 rfl rfl sv_RX12_122 ⟨by decide, by decide⟩ rfl rfl (Nat.le_of_ble_eq_true rfl) rfl dX12_readPath_99 jrv_i (c_X12_number  hm25) rfl ?_
      refine j_istore_n (ls' := [some (.ref 89), some (.int v10), some (.int v18), some (.int v23), none]) X 3 dX12_readPath_102 rfl (Nat.le_of_ble_eq_true rfl) rfl ?_
      refine j_aload_n X 0 dX12_readPath_103 rfl rfl ?_
      refine j_bipush (v := 59) X dX12_readPath_104 (by decide) ?_
      obtain ⟨σ26, hm27, h⟩ := jbv_some h
      refine j_callV (as := [.int (59 : Int32)]) (st := []) (st1 := []) X ln_89 ly_89 rfl rfl sv_RX12_126 ⟨by decide, by decide⟩ rfl rfl (Nat.le_of_ble_eq_true rfl) rfl dX12_readPath_106 jrv_v (c_X12_mustSign  hm27) rfl ?_
      refine j_aload_n X 0 dX12_readPath_109 rfl rfl ?_
      refine j_getI X fg_RX12_78 ln_89 ly_89 rfl dX12_readPath_110 ?_
      refine j_if_ne (tgt := 167) X dX12_readPath_113 (by decide) h (fun h => ?_) (fun h => ?_)
      · obtain rfl := Option.some.inj h
        exact j_vret X R0 dX12_readPath_167
      · refine j_bipush (v := 7) X dX12_readPath_116 (by decide) ?_
        refine j_iconst (v := 3) X dX12_readPath_118 (by decide) ?_
        refine j_aload_n X 0 dX12_readPath_119 rfl rfl ?_
        refine j_getR (t := 94) X fg_RX12_22 ln_89 ly_89 rfl dX12_readPath_120 ?_
        refine j_iconst (v := 3) X dX12_readPath_123 (by decide) ?_
        refine j_iaload X ln_94 ly_94 dX12_readPath_124 h (fun v28 h => ?_)
        refine j_imul X dX12_readPath_125 ?_
        refine j_iadd X dX12_readPath_126 ?_
        refine j_letI h (fun v29 h => ?_)
        refine j_istore (ls' := [some (.ref 89), some (.int v10), some (.int v18), some (.int v23), some (.int v29)]) X dX12_readPath_127 (Nat.le_of_ble_eq_true rfl) rfl ?_
        refine j_aload_n X 0 dX12_readPath_129 rfl rfl ?_
        refine j_getR (t := 94) X fg_RX12_22 ln_89 ly_89 rfl dX12_readPath_130 ?_
        refine j_iload X dX12_readPath_133 rfl ?_
        refine j_iload_n X 1 dX12_readPath_135 rfl rfl ?_
        refine j_iastore X ln_94 ly_94 dX12_readPath_136 h (fun σ30 h => ?_)
        refine j_aload_n X 0 dX12_readPath_137 rfl rfl ?_
        refine j_getR (t := 94) X fg_RX12_22 ln_89 ly_89 rfl dX12_readPath_138 ?_
        refine j_iload X dX12_readPath_141 rfl ?_
        refine j_iconst (v := 1) X dX12_readPath_143 (by decide) ?_
        refine j_iadd X dX12_readPath_144 ?_
        refine j_iload_n X 2 dX12_readPath_145 rfl rfl ?_
        refine j_iastore X ln_94 ly_94 dX12_readPath_146 h (fun σ31 h => ?_)
        refine j_aload_n X 0 dX12_readPath_147 rfl rfl ?_
        refine j_getR (t := 94) X fg_RX12_22 ln_89 ly_89 rfl dX12_readPath_148 ?_
        refine j_iload X dX12_readPath_151 rfl ?_
        refine j_iconst (v := 2) X dX12_readPath_153 (by decide) ?_
        refine j_iadd X dX12_readPath_154 ?_
        refine j_iload_n X 3 dX12_readPath_155 rfl rfl ?_
        refine j_iastore X ln_94 ly_94 dX12_readPath_156 h (fun σ32 h => ?_)
        refine j_aload_n X 0 dX12_readPath_157 rfl rfl ?_
        refine j_getR (t := 94) X fg_RX12_22 ln_89 ly_89 rfl dX12_readPath_158 ?_
        refine j_iconst (v := 3) X dX12_readPath_161 (by decide) ?_
        refine j_dup2 X dX12_readPath_162 rfl rfl ?_
        refine j_iaload X ln_94 ly_94 dX12_readPath_163 h (fun v33 h => ?_)
        refine j_iconst (v := 1) X dX12_readPath_164 (by decide) ?_
        refine j_iadd X dX12_readPath_165 ?_
        refine j_iastore X ln_94 ly_94 dX12_readPath_166 h (fun σ34 h => ?_)
        obtain rfl := Option.some.inj h
        exact j_vret X R0 dX12_readPath_167
    · refine j_if_ne (tgt := 81) X dX12_readPath_44 (by decide) h (fun h => ?_) (fun h => ?_)
      · exact hk15 () σ13 h
      · refine j_aload_n X 0 dX12_readPath_47 rfl rfl ?_
        refine j_getI X fg_RX12_102 ln_89 ly_89 rfl dX12_readPath_48 ?_
        refine j_iconst (v := 3) X dX12_readPath_51 (by decide) ?_
        refine j_icmp_ne (tgt := 81) X dX12_readPath_52 (by decide) h (fun h => ?_) (fun h => ?_)
        · exact hk15 () σ13 h
        · refine j_aload_n X 0 dX12_readPath_55 rfl rfl ?_
          refine j_getI X fg_RX12_91 ln_89 ly_89 rfl dX12_readPath_56 ?_
          refine j_iload_n X 1 dX12_readPath_59 rfl rfl ?_
          refine j_join (pcJ := 76) (lsJ := fun q36 => [some (.ref 89), some (.int v10), none, none, none]) (stJ := fun q36 => []) h (fun q36 σ37 h => ?_) (fun k35 hk35 h => ?_)
          · refine j_aload_n X 0 dX12_readPath_76 rfl rfl ?_
            refine j_iconst (v := 2) X dX12_readPath_77 (by decide) ?_
            obtain ⟨σ38, hm39, h⟩ := jbv_some h
            refine j_callV (as := [.int (2 : Int32)]) (st := []) (st1 := []) X ln_89 ly_89 rfl rfl sv_RX12_105 ⟨by decide, by decide⟩ rfl rfl (Nat.le_of_ble_eq_true rfl) rfl dX12_readPath_78 jrv_v (c_X12_bad  hm39) rfl ?_
            exact hk15 () σ38 h
          · refine j_icmp_eq (tgt := 76) X dX12_readPath_60 (by decide) h (fun h => ?_) (fun h => ?_)
            · exact hk35 () σ13 h
            · refine j_aload_n X 0 dX12_readPath_63 rfl rfl ?_
              refine j_iload_n X 1 dX12_readPath_64 rfl rfl ?_
              refine j_aload_n X 0 dX12_readPath_65 rfl rfl ?_
              refine j_getI X fg_RX12_91 ln_89 ly_89 rfl dX12_readPath_66 ?_
              refine j_i2l X dX12_readPath_69 ?_
              obtain ⟨v40, σ41, hm42, h⟩ := jbd_some h
              refine j_callV (as := [.int v10, .long (((σ13.1 89 15)).toInt64)]) (st := []) (st1 := [.int v40]) X ln_89 ly_89 rfl rfl sv_RX12_129 ⟨by decide, by decide⟩ rfl rfl (Nat.le_of_ble_eq_true rfl) rfl dX12_readPath_70 jrv_i (c_X12_isTold  hm42) rfl ?_
              refine j_if_eq (tgt := 81) X dX12_readPath_73 (by decide) h (fun h => ?_) (fun h => ?_)
              · exact hk15 () σ41 h
              · exact hk35 () σ41 h
  · refine j_icmp_ne (tgt := 16) X dX12_readPath_8 (by decide) h (fun h => ?_) (fun h => ?_)
    · exact hk2 () σ h
    · refine j_aload_n X 0 dX12_readPath_11 rfl rfl ?_
      refine j_iconst (v := 3) X dX12_readPath_12 (by decide) ?_
      obtain ⟨σ43, hm44, h⟩ := jbv_some h
      refine j_callV (as := [.int (3 : Int32)]) (st := []) (st1 := []) X ln_89 ly_89 rfl rfl sv_RX12_105 ⟨by decide, by decide⟩ rfl rfl (Nat.le_of_ble_eq_true rfl) rfl dX12_readPath_13 jrv_v (c_X12_bad  hm44) rfl ?_
      exact hk2 () σ43 h
theorem ss_RX12_133 : jSiS RX12 133 yX12_kindBy cX12_kindBy 1 (some .int) 1 := ⟨tw_1021, tw_1022, tw_13, tw_1023, by decide, by decide, by decide +kernel⟩
def f_X12_readWitness  (σ : jMem) : Option jMem :=
  jbd (f_X12_kindBy (σ.1 89 15) σ) (fun v1 σ2 =>
  jld σ2 94 67 (4 : Int32) (fun v4 =>
  jj (fun (q6 : Unit) σ7 =>
  jbv (f_X12_must (1 : Int32) σ7) (fun σ8 =>
  jbd (f_X12_number (0 : Int32) (60 : Int32) σ8) (fun v10 σ11 =>
  jbv (f_X12_mustSign (44 : Int32) σ11) (fun σ13 =>
  jbd (f_X12_number (0 : Int32) (7 : Int32) σ13) (fun v15 σ16 =>
  jbv (f_X12_mustSign (59 : Int32) σ16) (fun σ18 =>
  if ¬ (σ18.1 89 16) = 0 then
  some σ18
else
  jld σ18 94 67 (4 : Int32) (fun v20 =>
  jlet (((43 : Int32) + ((4 : Int32) * v20))) (fun v21 =>
  jst σ18 94 67 v21 v1 (fun σ22 =>
  jst σ22 94 67 (v21 + (1 : Int32)) v10 (fun σ23 =>
  jst σ23 94 67 (v21 + (2 : Int32)) v15 (fun σ24 =>
  jld σ24 94 67 (4 : Int32) (fun v25 =>
  jst σ24 94 67 (4 : Int32) (v25 + (1 : Int32)) (fun σ26 =>
  some σ26))))))))))))) (fun k5 =>
  if ¬ v4 = (6 : Int32) then
  k5 () σ2
else
  jbv (f_X12_bad (3 : Int32) σ2) (fun σ27 =>
  k5 () σ27))))
set_option maxRecDepth 100000 in
set_option maxHeartbeats 4000000 in
theorem c_X12_readWitness {l : Launch} {D : va_G} {ad : Nat → Nat} {cid : Nat → ClassId}   {σ : jMem} {σ' : jMem} (h : f_X12_readWitness  σ = some σ') : jMet l D ad cid yX12_readWitness cX12_readWitness 5 none 4 89 [.ref 89] σ none σ' := by
  refine jMet_of (ls0 := [some (.ref 89), none, none, none, none]) (by decide) (Nat.le_of_ble_eq_true rfl) rfl (fun K X R0 _ => ?_)
  unfold f_X12_readWitness at h
  refine j_aload_n X 0 dX12_readWitness_0 rfl rfl ?_
  refine j_getI X fg_RX12_91 ln_89 ly_89 rfl dX12_readWitness_1 ?_
  obtain ⟨v1, σ2, hm3, h⟩ := jbd_some h
  refine j_callS (as := [.int (σ.1 89 15)]) (st := []) (st1 := [.int v1]) X ss_RX12_133 ⟨by decide, by decide⟩ rfl rfl (Nat.le_of_ble_eq_true rfl) rfl dX12_readWitness_4 jrv_i (c_X12_kindBy  hm3) rfl ?_
  refine j_istore_n (ls' := [some (.ref 89), some (.int v1), none, none, none]) X 1 dX12_readWitness_7 rfl (Nat.le_of_ble_eq_true rfl) rfl ?_
  refine j_aload_n X 0 dX12_readWitness_8 rfl rfl ?_
  refine j_getR (t := 94) X fg_RX12_22 ln_89 ly_89 rfl dX12_readWitness_9 ?_
  refine j_iconst (v := 4) X dX12_readWitness_12 (by decide) ?_
  refine j_iaload X ln_94 ly_94 dX12_readWitness_13 h (fun v4 h => ?_)
  refine j_bipush (v := 6) X dX12_readWitness_14 (by decide) ?_
  refine j_join (pcJ := 24) (lsJ := fun q6 => [some (.ref 89), some (.int v1), none, none, none]) (stJ := fun q6 => []) h (fun q6 σ7 h => ?_) (fun k5 hk5 h => ?_)
  · refine j_aload_n X 0 dX12_readWitness_24 rfl rfl ?_
    refine j_iconst (v := 1) X dX12_readWitness_25 (by decide) ?_
    obtain ⟨σ8, hm9, h⟩ := jbv_some h
    refine j_callV (as := [.int (1 : Int32)]) (st := []) (st1 := []) X ln_89 ly_89 rfl rfl sv_RX12_112 ⟨by decide, by decide⟩ rfl rfl (Nat.le_of_ble_eq_true rfl) rfl dX12_readWitness_26 jrv_v (c_X12_must  hm9) rfl ?_
    refine j_aload_n X 0 dX12_readWitness_29 rfl rfl ?_
    refine j_iconst (v := 0) X dX12_readWitness_30 (by decide) ?_
    refine j_bipush (v := 60) X dX12_readWitness_31 (by decide) ?_
    obtain ⟨v10, σ11, hm12, h⟩ := jbd_some h
    refine j_callV (as := [.int (0 : Int32), .int (60 : Int32)]) (st := []) (st1 := [.int v10]) X ln_89 ly_89 rfl rfl sv_RX12_122 ⟨by decide, by decide⟩ rfl rfl (Nat.le_of_ble_eq_true rfl) rfl dX12_readWitness_33 jrv_i (c_X12_number  hm12) rfl ?_
    refine j_istore_n (ls' := [some (.ref 89), some (.int v1), some (.int v10), none, none]) X 2 dX12_readWitness_36 rfl (Nat.le_of_ble_eq_true rfl) rfl ?_
    refine j_aload_n X 0 dX12_readWitness_37 rfl rfl ?_
    refine j_bipush (v := 44) X dX12_readWitness_38 (by decide) ?_
    obtain ⟨σ13, hm14, h⟩ := jbv_some h
    refine j_callV (as := [.int (44 : Int32)]) (st := []) (st1 := []) X ln_89 ly_89 rfl rfl sv_RX12_126 ⟨by decide, by decide⟩ rfl rfl (Nat.le_of_ble_eq_true rfl) rfl dX12_readWitness_40 jrv_v (c_X12_mustSign  hm14) rfl ?_
    refine j_aload_n X 0 dX12_readWitness_43 rfl rfl ?_
    refine j_iconst (v := 0) X dX12_readWitness_44 (by decide) ?_
    refine j_bipush (v := 7) X dX12_readWitness_45 (by decide) ?_
    obtain ⟨v15, σ16, hm17, h⟩ := jbd_some h
    refine j_callV (as := [.int (0 : Int32), .int (7 : Int32)]) (st := []) (st1 := [.int v15]) X ln_89 ly_89 rfl rfl sv_RX12_122 ⟨by decide, by decide⟩ rfl rfl (Nat.le_of_ble_eq_true rfl) rfl dX12_readWitness_47 jrv_i (c_X12_number  hm17) rfl ?_
    refine j_istore_n (ls' := [some (.ref 89), some (.int v1), some (.int v10), some (.int v15), none]) X 3 dX12_readWitness_50 rfl (Nat.le_of_ble_eq_true rfl) rfl ?_
    refine j_aload_n X 0 dX12_readWitness_51 rfl rfl ?_
    refine j_bipush (v := 59) X dX12_readWitness_52 (by decide) ?_
    obtain ⟨σ18, hm19, h⟩ := jbv_some h
    refine j_callV (as := [.int (59 : Int32)]) (st := []) (st1 := []) X ln_89 ly_89 rfl rfl sv_RX12_126 ⟨by decide, by decide⟩ rfl rfl (Nat.le_of_ble_eq_true rfl) rfl dX12_readWitness_54 jrv_v (c_X12_mustSign  hm19) rfl ?_
    refine j_aload_n X 0 dX12_readWitness_57 rfl rfl ?_
    refine j_getI X fg_RX12_78 ln_89 ly_89 rfl dX12_readWitness_58 ?_
    refine j_if_ne (tgt := 115) X dX12_readWitness_61 (by decide) h (fun h => ?_) (fun h => ?_)
    · obtain rfl := Option.some.inj h
      exact j_vret X R0 dX12_readWitness_115
    · refine j_bipush (v := 43) X dX12_readWitness_64 (by decide) ?_
      refine j_iconst (v := 4) X dX12_readWitness_66 (by decide) ?_
      refine j_aload_n X 0 dX12_readWitness_67 rfl rfl ?_
      refine j_getR (t := 94) X fg_RX12_22 ln_89 ly_89 rfl dX12_readWitness_68 ?_
      refine j_iconst (v := 4) X dX12_readWitness_71 (by decide) ?_
      refine j_iaload X ln_94 ly_94 dX12_readWitness_72 h (fun v20 h => ?_)
      refine j_imul X dX12_readWitness_73 ?_
      refine j_iadd X dX12_readWitness_74 ?_
      refine j_letI h (fun v21 h => ?_)
      refine j_istore (ls' := [some (.ref 89), some (.int v1), some (.int v10), some (.int v15), some (.int v21)]) X dX12_readWitness_75 (Nat.le_of_ble_eq_true rfl) rfl ?_
      refine j_aload_n X 0 dX12_readWitness_77 rfl rfl ?_
      refine j_getR (t := 94) X fg_RX12_22 ln_89 ly_89 rfl dX12_readWitness_78 ?_
      refine j_iload X dX12_readWitness_81 rfl ?_
      refine j_iload_n X 1 dX12_readWitness_83 rfl rfl ?_
      refine j_iastore X ln_94 ly_94 dX12_readWitness_84 h (fun σ22 h => ?_)
      refine j_aload_n X 0 dX12_readWitness_85 rfl rfl ?_
      refine j_getR (t := 94) X fg_RX12_22 ln_89 ly_89 rfl dX12_readWitness_86 ?_
      refine j_iload X dX12_readWitness_89 rfl ?_
      refine j_iconst (v := 1) X dX12_readWitness_91 (by decide) ?_
      refine j_iadd X dX12_readWitness_92 ?_
      refine j_iload_n X 2 dX12_readWitness_93 rfl rfl ?_
      refine j_iastore X ln_94 ly_94 dX12_readWitness_94 h (fun σ23 h => ?_)
      refine j_aload_n X 0 dX12_readWitness_95 rfl rfl ?_
      refine j_getR (t := 94) X fg_RX12_22 ln_89 ly_89 rfl dX12_readWitness_96 ?_
      refine j_iload X dX12_readWitness_99 rfl ?_
      refine j_iconst (v := 2) X dX12_readWitness_101 (by decide) ?_
      refine j_iadd X dX12_readWitness_102 ?_
      refine j_iload_n X 3 dX12_readWitness_103 rfl rfl ?_
      refine j_iastore X ln_94 ly_94 dX12_readWitness_104 h (fun σ24 h => ?_)
      refine j_aload_n X 0 dX12_readWitness_105 rfl rfl ?_
      refine j_getR (t := 94) X fg_RX12_22 ln_89 ly_89 rfl dX12_readWitness_106 ?_
      refine j_iconst (v := 4) X dX12_readWitness_109 (by decide) ?_
      refine j_dup2 X dX12_readWitness_110 rfl rfl ?_
      refine j_iaload X ln_94 ly_94 dX12_readWitness_111 h (fun v25 h => ?_)
      refine j_iconst (v := 1) X dX12_readWitness_112 (by decide) ?_
      refine j_iadd X dX12_readWitness_113 ?_
      refine j_iastore X ln_94 ly_94 dX12_readWitness_114 h (fun σ26 h => ?_)
      obtain rfl := Option.some.inj h
      exact j_vret X R0 dX12_readWitness_115
  · refine j_icmp_ne (tgt := 24) X dX12_readWitness_16 (by decide) h (fun h => ?_) (fun h => ?_)
    · exact hk5 () σ2 h
    · refine j_aload_n X 0 dX12_readWitness_19 rfl rfl ?_
      refine j_iconst (v := 3) X dX12_readWitness_20 (by decide) ?_
      obtain ⟨σ27, hm28, h⟩ := jbv_some h
      refine j_callV (as := [.int (3 : Int32)]) (st := []) (st1 := []) X ln_89 ly_89 rfl rfl sv_RX12_105 ⟨by decide, by decide⟩ rfl rfl (Nat.le_of_ble_eq_true rfl) rfl dX12_readWitness_21 jrv_v (c_X12_bad  hm28) rfl ?_
      exact hk5 () σ27 h
