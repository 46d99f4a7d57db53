theorem sv_RX12_283 : jSiV RX12 283 yX12_plainSize cX12_plainSize 2 (some .int) 1 := ⟨tw_1262, tw_1264, ts_52, tw_13, tw_1265, by decide, by decide, by decide +kernel⟩
def f_X12_strangerSize (a0 : Int32) (σ : jMem) : Option (Int32 × jMem) :=
  jbd (f_X12_of 93 a0 (0 : Int32) σ) (fun v1 σ2 =>
  jj (fun (q5 : Int32) σ6 =>
  jj (fun (q8 : Unit) σ9 =>
  jbv (f_X12_began (13 : Int32) σ9) (fun σ10 =>
  jbd (f_X12_plainSize a0 σ10) (fun v12 σ13 =>
  jlet ((v12 - (100 : Int32))) (fun v15 =>
  if q5 = 0 then
  some ((v15, σ13))
else
  some ((((2 : Int32) * v15), σ13)))))) (fun k7 =>
  if q5 = 0 then
  k7 () σ6
else
  jbv (f_X12_began (14 : Int32) σ6) (fun σ16 =>
  k7 () σ16))) (fun k4 =>
  if ¬ v1 = (5 : Int32) then
  k4 (0 : Int32) σ2
else
  k4 (1 : Int32) σ2))
set_option maxRecDepth 100000 in
set_option maxHeartbeats 4000000 in
theorem c_X12_strangerSize {l : Launch} {D : va_G} {ad : Nat → Nat} {cid : Nat → ClassId} {a0 : Int32}  {σ : jMem} {r : Int32} {σ' : jMem} (h : f_X12_strangerSize a0 σ = some (r, σ')) : jMet l D ad cid yX12_strangerSize cX12_strangerSize 4 (some .int) 4 85 [.ref 89, .int a0] σ (some (.int r)) σ' := by
  refine jMet_of (ls0 := [some (.ref 89), some (.int a0), none, none]) (by decide) (Nat.le_of_ble_eq_true rfl) rfl (fun K X R0 _ => ?_)
  unfold f_X12_strangerSize at h
  refine j_aload_n X 0 dX12_strangerSize_0 rfl rfl ?_
  refine j_getR (t := 93) X fg_RX12_19 ln_89 ly_89 rfl dX12_strangerSize_1 ?_
  refine j_iload_n X 1 dX12_strangerSize_4 rfl rfl ?_
  refine j_iconst (v := 0) X dX12_strangerSize_5 (by decide) ?_
  obtain ⟨v1, σ2, hm3, h⟩ := jbd_some h
  refine j_callS (as := [.ref 93, .int a0, .int (0 : Int32)]) (st := []) (st1 := [.int v1]) X ss_RX12_183 ⟨by decide, by decide⟩ rfl rfl (Nat.le_of_ble_eq_true rfl) rfl dX12_strangerSize_6 jrv_i (c_X12_of ⟨ln_93, ly_93⟩ hm3) rfl ?_
  refine j_iconst (v := 5) X dX12_strangerSize_9 (by decide) ?_
  refine j_join (pcJ := 18) (lsJ := fun q5 => [some (.ref 89), some (.int a0), none, none]) (stJ := fun q5 => [.int q5]) h (fun q5 σ6 h => ?_) (fun k4 hk4 h => ?_)
  · refine j_istore_n (ls' := [some (.ref 89), some (.int a0), some (.int q5), none]) X 2 dX12_strangerSize_18 rfl (Nat.le_of_ble_eq_true rfl) rfl ?_
    refine j_iload_n X 2 dX12_strangerSize_19 rfl rfl ?_
    refine j_join (pcJ := 29) (lsJ := fun q8 => [some (.ref 89), some (.int a0), some (.int q5), none]) (stJ := fun q8 => []) h (fun q8 σ9 h => ?_) (fun k7 hk7 h => ?_)
    · refine j_aload_n X 0 dX12_strangerSize_29 rfl rfl ?_
      refine j_bipush (v := 13) X dX12_strangerSize_30 (by decide) ?_
      obtain ⟨σ10, hm11, h⟩ := jbv_some h
      refine j_callV (as := [.int (13 : Int32)]) (st := []) (st1 := []) X ln_89 ly_89 rfl rfl sv_RX12_280 ⟨by decide, by decide⟩ rfl rfl (Nat.le_of_ble_eq_true rfl) rfl dX12_strangerSize_32 jrv_v (c_X12_began  hm11) rfl ?_
      refine j_aload_n X 0 dX12_strangerSize_35 rfl rfl ?_
      refine j_iload_n X 1 dX12_strangerSize_36 rfl rfl ?_
      obtain ⟨v12, σ13, hm14, h⟩ := jbd_some h
      refine j_callV (as := [.int a0]) (st := []) (st1 := [.int v12]) X ln_89 ly_89 rfl rfl sv_RX12_283 ⟨by decide, by decide⟩ rfl rfl (Nat.le_of_ble_eq_true rfl) rfl dX12_strangerSize_37 jrv_i (c_X12_plainSize  hm14) rfl ?_
      refine j_bipush (v := 100) X dX12_strangerSize_40 (by decide) ?_
      refine j_isub X dX12_strangerSize_42 ?_
      refine j_letI h (fun v15 h => ?_)
      refine j_istore_n (ls' := [some (.ref 89), some (.int a0), some (.int q5), some (.int v15)]) X 3 dX12_strangerSize_43 rfl (Nat.le_of_ble_eq_true rfl) rfl ?_
      refine j_iload_n X 2 dX12_strangerSize_44 rfl rfl ?_
      refine j_if_eq (tgt := 54) X dX12_strangerSize_45 (by decide) h (fun h => ?_) (fun h => ?_)
      · refine j_iload_n X 3 dX12_strangerSize_54 rfl rfl ?_
        obtain ⟨rfl, rfl⟩ := jin2 h
        exact j_iret X R0 dX12_strangerSize_55
      · refine j_iconst (v := 2) X dX12_strangerSize_48 (by decide) ?_
        refine j_iload_n X 3 dX12_strangerSize_49 rfl rfl ?_
        refine j_imul X dX12_strangerSize_50 ?_
        refine j_goto (tgt := 55) X dX12_strangerSize_51 (by decide) ?_
        obtain ⟨rfl, rfl⟩ := jin2 h
        exact j_iret X R0 dX12_strangerSize_55
    · refine j_if_eq (tgt := 29) X dX12_strangerSize_20 (by decide) h (fun h => ?_) (fun h => ?_)
      · exact hk7 () σ6 h
      · refine j_aload_n X 0 dX12_strangerSize_23 rfl rfl ?_
        refine j_bipush (v := 14) X dX12_strangerSize_24 (by decide) ?_
        obtain ⟨σ16, hm17, h⟩ := jbv_some h
        refine j_callV (as := [.int (14 : Int32)]) (st := []) (st1 := []) X ln_89 ly_89 rfl rfl sv_RX12_280 ⟨by decide, by decide⟩ rfl rfl (Nat.le_of_ble_eq_true rfl) rfl dX12_strangerSize_26 jrv_v (c_X12_began  hm17) rfl ?_
        exact hk7 () σ16 h
  · refine j_icmp_ne (tgt := 17) X dX12_strangerSize_10 (by decide) h (fun h => ?_) (fun h => ?_)
    · refine j_iconst (v := 0) X dX12_strangerSize_17 (by decide) ?_
      exact hk4 (0 : Int32) σ2 h
    · refine j_iconst (v := 1) X dX12_strangerSize_13 (by decide) ?_
      refine j_goto (tgt := 18) X dX12_strangerSize_14 (by decide) ?_
      exact hk4 (1 : Int32) σ2 h
theorem sv_RX12_286 : jSiV RX12 286 yX12_strangerSize cX12_strangerSize 4 (some .int) 1 := ⟨tw_1254, tw_1256, ts_50, tw_13, tw_1257, by decide, by decide, by decide +kernel⟩
def f_X12_markOf (a0 : Int32) (σ : jMem) : Option (Int32 × jMem) :=
  jbd (f_X12_of 93 a0 (0 : Int32) σ) (fun v1 σ2 =>
  if v1 < (4 : Int32) then
  jj (fun (q5 : Unit) σ6 =>
  jbv (f_X12_began (21 : Int32) σ6) (fun σ7 =>
  jbv (f_X12_began (20 : Int32) σ7) (fun σ9 =>
  jbd (f_X12_of 93 a0 (1 : Int32) σ9) (fun v11 σ12 =>
  jlet ((a0 + v11)) (fun v14 =>
  if ¬ v1 = (1 : Int32) then
  if ¬ v1 = (3 : Int32) then
  some ((((2 : Int32) * v14), σ12))
else
  some (((v14 - (1000 : Int32)), σ12))
else
  some ((v14, σ12))))))) (fun k4 =>
  if v1 = (1 : Int32) then
  k4 () σ2
else
  jj (fun (q16 : Int32) σ17 =>
  jbv (f_X12_began q16 σ17) (fun σ18 =>
  k4 () σ18)) (fun k15 =>
  if ¬ v1 = (3 : Int32) then
  k15 (24 : Int32) σ2
else
  k15 (22 : Int32) σ2))
else
  jbv (f_X12_began (23 : Int32) σ2) (fun σ20 =>
  jbv (f_X12_began (20 : Int32) σ20) (fun σ22 =>
  jbd (f_X12_strangerSize a0 σ22) (fun v24 σ25 =>
  some (((a0 - v24), σ25))))))
set_option maxRecDepth 100000 in
set_option maxHeartbeats 4000000 in
theorem c_X12_markOf {l : Launch} {D : va_G} {ad : Nat → Nat} {cid : Nat → ClassId} {a0 : Int32}  {σ : jMem} {r : Int32} {σ' : jMem} (h : f_X12_markOf a0 σ = some (r, σ')) : jMet l D ad cid yX12_markOf cX12_markOf 4 (some .int) 5 108 [.ref 89, .int a0] σ (some (.int r)) σ' := by
  refine jMet_of (ls0 := [some (.ref 89), some (.int a0), none, none]) (by decide) (Nat.le_of_ble_eq_true rfl) rfl (fun K X R0 _ => ?_)
  unfold f_X12_markOf at h
  refine j_aload_n X 0 dX12_markOf_0 rfl rfl ?_
  refine j_getR (t := 93) X fg_RX12_19 ln_89 ly_89 rfl dX12_markOf_1 ?_
  refine j_iload_n X 1 dX12_markOf_4 rfl rfl ?_
  refine j_iconst (v := 0) X dX12_markOf_5 (by decide) ?_
  obtain ⟨v1, σ2, hm3, h⟩ := jbd_some h
  refine j_callS (as := [.ref 93, .int a0, .int (0 : Int32)]) (st := []) (st1 := [.int v1]) X ss_RX12_183 ⟨by decide, by decide⟩ rfl rfl (Nat.le_of_ble_eq_true rfl) rfl dX12_markOf_6 jrv_i (c_X12_of ⟨ln_93, ly_93⟩ hm3) rfl ?_
  refine j_istore_n (ls' := [some (.ref 89), some (.int a0), some (.int v1), none]) X 2 dX12_markOf_9 rfl (Nat.le_of_ble_eq_true rfl) rfl ?_
  refine j_iload_n X 2 dX12_markOf_10 rfl rfl ?_
  refine j_iconst (v := 4) X dX12_markOf_11 (by decide) ?_
  refine j_icmp_lt (tgt := 35) X dX12_markOf_12 (by decide) h (fun h => ?_) (fun h => ?_)
  · refine j_iload_n X 2 dX12_markOf_35 rfl rfl ?_
    refine j_iconst (v := 1) X dX12_markOf_36 (by decide) ?_
    refine j_join (pcJ := 56) (lsJ := fun q5 => [some (.ref 89), some (.int a0), some (.int v1), none]) (stJ := fun q5 => []) h (fun q5 σ6 h => ?_) (fun k4 hk4 h => ?_)
    · refine j_aload_n X 0 dX12_markOf_56 rfl rfl ?_
      refine j_bipush (v := 21) X dX12_markOf_57 (by decide) ?_
      obtain ⟨σ7, hm8, h⟩ := jbv_some h
      refine j_callV (as := [.int (21 : Int32)]) (st := []) (st1 := []) X ln_89 ly_89 rfl rfl sv_RX12_280 ⟨by decide, by decide⟩ rfl rfl (Nat.le_of_ble_eq_true rfl) rfl dX12_markOf_59 jrv_v (c_X12_began  hm8) rfl ?_
      refine j_aload_n X 0 dX12_markOf_62 rfl rfl ?_
      refine j_bipush (v := 20) X dX12_markOf_63 (by decide) ?_
      obtain ⟨σ9, hm10, h⟩ := jbv_some h
      refine j_callV (as := [.int (20 : Int32)]) (st := []) (st1 := []) X ln_89 ly_89 rfl rfl sv_RX12_280 ⟨by decide, by decide⟩ rfl rfl (Nat.le_of_ble_eq_true rfl) rfl dX12_markOf_65 jrv_v (c_X12_began  hm10) rfl ?_
      refine j_iload_n X 1 dX12_markOf_68 rfl rfl ?_
      refine j_aload_n X 0 dX12_markOf_69 rfl rfl ?_
      refine j_getR (t := 93) X fg_RX12_19 ln_89 ly_89 rfl dX12_markOf_70 ?_
      refine j_iload_n X 1 dX12_markOf_73 rfl rfl ?_
      refine j_iconst (v := 1) X dX12_markOf_74 (by decide) ?_
      obtain ⟨v11, σ12, hm13, h⟩ := jbd_some h
      refine j_callS (as := [.ref 93, .int a0, .int (1 : Int32)]) (st := [.int a0]) (st1 := [.int v11, .int a0]) X ss_RX12_183 ⟨by decide, by decide⟩ rfl rfl (Nat.le_of_ble_eq_true rfl) rfl dX12_markOf_75 jrv_i (c_X12_of ⟨ln_93, ly_93⟩ hm13) rfl ?_
      refine j_iadd X dX12_markOf_78 ?_
      refine j_letI h (fun v14 h => ?_)
      refine j_istore_n (ls' := [some (.ref 89), some (.int a0), some (.int v1), some (.int v14)]) X 3 dX12_markOf_79 rfl (Nat.le_of_ble_eq_true rfl) rfl ?_
      refine j_iload_n X 2 dX12_markOf_80 rfl rfl ?_
      refine j_iconst (v := 1) X dX12_markOf_81 (by decide) ?_
      refine j_icmp_ne (tgt := 89) X dX12_markOf_82 (by decide) h (fun h => ?_) (fun h => ?_)
      · refine j_iload_n X 2 dX12_markOf_89 rfl rfl ?_
        refine j_iconst (v := 3) X dX12_markOf_90 (by decide) ?_
        refine j_icmp_ne (tgt := 102) X dX12_markOf_91 (by decide) h (fun h => ?_) (fun h => ?_)
        · refine j_iconst (v := 2) X dX12_markOf_102 (by decide) ?_
          refine j_iload_n X 3 dX12_markOf_103 rfl rfl ?_
          refine j_imul X dX12_markOf_104 ?_
          obtain ⟨rfl, rfl⟩ := jin2 h
          exact j_iret X R0 dX12_markOf_105
        · refine j_iload_n X 3 dX12_markOf_94 rfl rfl ?_
          refine j_sipush (v := 1000) X dX12_markOf_95 (by decide) ?_
          refine j_isub X dX12_markOf_98 ?_
          refine j_goto (tgt := 105) X dX12_markOf_99 (by decide) ?_
          obtain ⟨rfl, rfl⟩ := jin2 h
          exact j_iret X R0 dX12_markOf_105
      · refine j_iload_n X 3 dX12_markOf_85 rfl rfl ?_
        refine j_goto (tgt := 105) X dX12_markOf_86 (by decide) ?_
        obtain ⟨rfl, rfl⟩ := jin2 h
        exact j_iret X R0 dX12_markOf_105
    · refine j_icmp_eq (tgt := 56) X dX12_markOf_37 (by decide) h (fun h => ?_) (fun h => ?_)
      · exact hk4 () σ2 h
      · refine j_aload_n X 0 dX12_markOf_40 rfl rfl ?_
        refine j_iload_n X 2 dX12_markOf_41 rfl rfl ?_
        refine j_iconst (v := 3) X dX12_markOf_42 (by decide) ?_
        refine j_join (pcJ := 53) (lsJ := fun q16 => [some (.ref 89), some (.int a0), some (.int v1), none]) (stJ := fun q16 => [.int q16, .ref 89]) h (fun q16 σ17 h => ?_) (fun k15 hk15 h => ?_)
        · obtain ⟨σ18, hm19, h⟩ := jbv_some h
          refine j_callV (as := [.int q16]) (st := []) (st1 := []) X ln_89 ly_89 rfl rfl sv_RX12_280 ⟨by decide, by decide⟩ rfl rfl (Nat.le_of_ble_eq_true rfl) rfl dX12_markOf_53 jrv_v (c_X12_began  hm19) rfl ?_
          exact hk4 () σ18 h
        · refine j_icmp_ne (tgt := 51) X dX12_markOf_43 (by decide) h (fun h => ?_) (fun h => ?_)
          · refine j_bipush (v := 24) X dX12_markOf_51 (by decide) ?_
            exact hk15 (24 : Int32) σ2 h
          · refine j_bipush (v := 22) X dX12_markOf_46 (by decide) ?_
            refine j_goto (tgt := 53) X dX12_markOf_48 (by decide) ?_
            exact hk15 (22 : Int32) σ2 h
  · refine j_aload_n X 0 dX12_markOf_15 rfl rfl ?_
    refine j_bipush (v := 23) X dX12_markOf_16 (by decide) ?_
    obtain ⟨σ20, hm21, h⟩ := jbv_some h
    refine j_callV (as := [.int (23 : Int32)]) (st := []) (st1 := []) X ln_89 ly_89 rfl rfl sv_RX12_280 ⟨by decide, by decide⟩ rfl rfl (Nat.le_of_ble_eq_true rfl) rfl dX12_markOf_18 jrv_v (c_X12_began  hm21) rfl ?_
    refine j_aload_n X 0 dX12_markOf_21 rfl rfl ?_
    refine j_bipush (v := 20) X dX12_markOf_22 (by decide) ?_
    obtain ⟨σ22, hm23, h⟩ := jbv_some h
    refine j_callV (as := [.int (20 : Int32)]) (st := []) (st1 := []) X ln_89 ly_89 rfl rfl sv_RX12_280 ⟨by decide, by decide⟩ rfl rfl (Nat.le_of_ble_eq_true rfl) rfl dX12_markOf_24 jrv_v (c_X12_began  hm23) rfl ?_
    refine j_iload_n X 1 dX12_markOf_27 rfl rfl ?_
    refine j_aload_n X 0 dX12_markOf_28 rfl rfl ?_
    refine j_iload_n X 1 dX12_markOf_29 rfl rfl ?_
    obtain ⟨v24, σ25, hm26, h⟩ := jbd_some h
    refine j_callV (as := [.int a0]) (st := [.int a0]) (st1 := [.int v24, .int a0]) X ln_89 ly_89 rfl rfl sv_RX12_286 ⟨by decide, by decide⟩ rfl rfl (Nat.le_of_ble_eq_true rfl) rfl dX12_markOf_30 jrv_i (c_X12_strangerSize  hm26) rfl ?_
    refine j_isub X dX12_markOf_33 ?_
    obtain ⟨rfl, rfl⟩ := jin2 h
    exact j_iret X R0 dX12_markOf_34
