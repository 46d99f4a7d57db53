theorem sv_RX9_55 : jSiV RX9 55 yX9_takes cX9_takes 2 (some .boolean) 1 := ⟨tw_401, tw_403, ts_5, tw_3, tw_404, by decide, by decide, by decide +kernel⟩
theorem sv_RX9_58 : jSiV RX9 58 yX9_isNumber cX9_isNumber 3 (some .boolean) 2 := ⟨tw_409, tw_411, ts_7, tw_3, tw_412, by decide, by decide, by decide +kernel⟩
theorem sv_RX9_74 : jSiV RX9 74 yX5_isJoined cX5_isJoined 3 (some .boolean) 2 := ⟨tw_417, tw_418, tw_419, tw_10, tw_420, by decide, by decide, by decide +kernel⟩
theorem sv_RX9_77 : jSiV RX9 77 yX5_addPath cX5_addPath 4 none 3 := ⟨tw_425, tw_426, tw_427, tw_10, tw_428, by decide, by decide, by decide +kernel⟩
def f_X9_readPath (a0 : Nat) (σ : jMem) : Option (Int32 × jMem) :=
  jj (fun (q2 : Unit) σ3 =>
  jbd (f_X9_takes (112 : Int32) σ3) (fun v4 σ5 =>
  if v4 = 0 then
  some (((0 : Int32), σ5))
else
  jbd (f_X9_isNumber (0 : Int32) (7 : Int32) σ5) (fun v7 σ8 =>
  if ¬ v7 = 0 then
  jlet ((σ8.1 13 6)) (fun v10 =>
  jbv (f_X9_take  σ8) (fun σ11 =>
  jbd (f_X9_takes (44 : Int32) σ11) (fun v13 σ14 =>
  if v13 = 0 then
  some (((0 : Int32), σ14))
else
  jbd (f_X9_isNumber (0 : Int32) (7 : Int32) σ14) (fun v16 σ17 =>
  if ¬ v16 = 0 then
  jlet ((σ17.1 13 6)) (fun v19 =>
  jj (fun (q21 : Unit) σ22 =>
  jbd (f_X9_fails (2 : Int32) σ22) (fun v23 σ24 =>
  jck (jisb v23 = true) (some ((v23, σ24))))) (fun k20 =>
  if v10 = v19 then
  k20 () σ17
else
  jbd (f_X5_isJoined a0 v10 v19 σ17) (fun v27 σ28 =>
  if v27 = 0 then
  jbv (f_X9_take  σ28) (fun σ30 =>
  jbd (f_X9_takes (44 : Int32) σ30) (fun v32 σ33 =>
  if v32 = 0 then
  some (((0 : Int32), σ33))
else
  jbd (f_X9_isNumber (1 : Int32) (9 : Int32) σ33) (fun v35 σ36 =>
  if ¬ v35 = 0 then
  jbv (f_X5_addPath a0 v10 v19 (σ36.1 13 6) σ36) (fun σ38 =>
  jbv (f_X9_take  σ38) (fun σ40 =>
  jbd (f_X9_takes (59 : Int32) σ40) (fun v42 σ43 =>
  jck (jisb v42 = true) (some ((v42, σ43))))))
else
  some (((0 : Int32), σ36)))))
else
  k20 () σ28)))
else
  some (((0 : Int32), σ17))))))
else
  some (((0 : Int32), σ8))))) (fun k1 =>
  if ¬ (σ.1 13 5) = (112 : Int32) then
  k1 () σ
else
  if (σ.1 a0 5) < (12 : Int32) then
  k1 () σ
else
  jbd (f_X9_fails (3 : Int32) σ) (fun v46 σ47 =>
  jck (jisb v46 = true) (some ((v46, σ47)))))
set_option maxRecDepth 100000 in
set_option maxHeartbeats 4000000 in
theorem c_X9_readPath {l : Launch} {D : va_G} {ad : Nat → Nat} {cid : Nat → ClassId} {a0 : Nat} (ha0 : jisP a0) {σ : jMem} {r : Int32} {σ' : jMem} (h : f_X9_readPath a0 σ = some (r, σ')) : jMet l D ad cid yX9_readPath cX9_readPath 4 (some .boolean) 4 82 [.ref 13, .ref a0] σ (some (.int r)) σ' := by
  refine jMet_of (ls0 := [some (.ref 13), some (.ref a0), none, none]) (by decide) (Nat.le_of_ble_eq_true rfl) rfl (fun K X R0 _ => ?_)
  unfold f_X9_readPath at h
  refine j_aload_n X 0 dX9_readPath_0 rfl rfl ?_
  refine j_getI X fg_RX9_34 ln_13 ly_13 rfl dX9_readPath_1 ?_
  refine j_bipush (v := 112) X dX9_readPath_4 (by decide) ?_
  refine j_join (pcJ := 24) (lsJ := fun q2 => [some (.ref 13), some (.ref a0), none, none]) (stJ := fun q2 => []) h (fun q2 σ3 h => ?_) (fun k1 hk1 h => ?_)
  · refine j_aload_n X 0 dX9_readPath_24 rfl rfl ?_
    refine j_bipush (v := 112) X dX9_readPath_25 (by decide) ?_
    obtain ⟨v4, σ5, hm6, h⟩ := jbd_some h
    refine j_callV (as := [.int (112 : Int32)]) (st := []) (st1 := [.int v4]) X ln_13 ly_13 rfl rfl sv_RX9_55 ⟨by decide, by decide⟩ rfl rfl (Nat.le_of_ble_eq_true rfl) rfl dX9_readPath_27 jrv_i (c_X9_takes  hm6) rfl ?_
    refine j_if_eq (tgt := 43) X dX9_readPath_30 (by decide) h (fun h => ?_) (fun h => ?_)
    · refine j_iconst (v := 0) X dX9_readPath_43 (by decide) ?_
      obtain ⟨rfl, rfl⟩ := jin2 h
      exact j_zret X R0 rfl dX9_readPath_44
    · refine j_aload_n X 0 dX9_readPath_33 rfl rfl ?_
      refine j_iconst (v := 0) X dX9_readPath_34 (by decide) ?_
      refine j_bipush (v := 7) X dX9_readPath_35 (by decide) ?_
      obtain ⟨v7, σ8, hm9, h⟩ := jbd_some h
      refine j_callV (as := [.int (0 : Int32), .int (7 : Int32)]) (st := []) (st1 := [.int v7]) X ln_13 ly_13 rfl rfl sv_RX9_58 ⟨by decide, by decide⟩ rfl rfl (Nat.le_of_ble_eq_true rfl) rfl dX9_readPath_37 jrv_i (c_X9_isNumber  hm9) rfl ?_
      refine j_if_ne (tgt := 45) X dX9_readPath_40 (by decide) h (fun h => ?_) (fun h => ?_)
      · refine j_aload_n X 0 dX9_readPath_45 rfl rfl ?_
        refine j_getI X fg_RX9_62 ln_13 ly_13 rfl dX9_readPath_46 ?_
        refine j_letI h (fun v10 h => ?_)
        refine j_istore_n (ls' := [some (.ref 13), some (.ref a0), some (.int v10), none]) X 2 dX9_readPath_49 rfl (Nat.le_of_ble_eq_true rfl) rfl ?_
        refine j_aload_n X 0 dX9_readPath_50 rfl rfl ?_
        obtain ⟨σ11, hm12, h⟩ := jbv_some h
        refine j_callV (as := []) (st := []) (st1 := []) X ln_13 ly_13 rfl rfl sv_RX9_27 ⟨by decide, by decide⟩ rfl rfl (Nat.le_of_ble_eq_true rfl) rfl dX9_readPath_51 jrv_v (c_X9_take  hm12) rfl ?_
        refine j_aload_n X 0 dX9_readPath_54 rfl rfl ?_
        refine j_bipush (v := 44) X dX9_readPath_55 (by decide) ?_
        obtain ⟨v13, σ14, hm15, h⟩ := jbd_some h
        refine j_callV (as := [.int (44 : Int32)]) (st := []) (st1 := [.int v13]) X ln_13 ly_13 rfl rfl sv_RX9_55 ⟨by decide, by decide⟩ rfl rfl (Nat.le_of_ble_eq_true rfl) rfl dX9_readPath_57 jrv_i (c_X9_takes  hm15) rfl ?_
        refine j_if_eq (tgt := 73) X dX9_readPath_60 (by decide) h (fun h => ?_) (fun h => ?_)
        · refine j_iconst (v := 0) X dX9_readPath_73 (by decide) ?_
          obtain ⟨rfl, rfl⟩ := jin2 h
          exact j_zret X R0 rfl dX9_readPath_74
        · refine j_aload_n X 0 dX9_readPath_63 rfl rfl ?_
          refine j_iconst (v := 0) X dX9_readPath_64 (by decide) ?_
          refine j_bipush (v := 7) X dX9_readPath_65 (by decide) ?_
          obtain ⟨v16, σ17, hm18, h⟩ := jbd_some h
          refine j_callV (as := [.int (0 : Int32), .int (7 : Int32)]) (st := []) (st1 := [.int v16]) X ln_13 ly_13 rfl rfl sv_RX9_58 ⟨by decide, by decide⟩ rfl rfl (Nat.le_of_ble_eq_true rfl) rfl dX9_readPath_67 jrv_i (c_X9_isNumber  hm18) rfl ?_
          refine j_if_ne (tgt := 75) X dX9_readPath_70 (by decide) h (fun h => ?_) (fun h => ?_)
          · refine j_aload_n X 0 dX9_readPath_75 rfl rfl ?_
            refine j_getI X fg_RX9_62 ln_13 ly_13 rfl dX9_readPath_76 ?_
            refine j_letI h (fun v19 h => ?_)
            refine j_istore_n (ls' := [some (.ref 13), some (.ref a0), some (.int v10), some (.int v19)]) X 3 dX9_readPath_79 rfl (Nat.le_of_ble_eq_true rfl) rfl ?_
            refine j_iload_n X 2 dX9_readPath_80 rfl rfl ?_
            refine j_iload_n X 3 dX9_readPath_81 rfl rfl ?_
            refine j_join (pcJ := 94) (lsJ := fun q21 => [some (.ref 13), none, none, none]) (stJ := fun q21 => []) h (fun q21 σ22 h => ?_) (fun k20 hk20 h => ?_)
            · refine j_aload_n X 0 dX9_readPath_94 rfl rfl ?_
              refine j_iconst (v := 2) X dX9_readPath_95 (by decide) ?_
              obtain ⟨v23, σ24, hm25, h⟩ := jbd_some h
              refine j_callV (as := [.int (2 : Int32)]) (st := []) (st1 := [.int v23]) X ln_13 ly_13 rfl rfl sv_RX9_47 ⟨by decide, by decide⟩ rfl rfl (Nat.le_of_ble_eq_true rfl) rfl dX9_readPath_96 jrv_i (c_X9_fails  hm25) rfl ?_
              obtain ⟨hc26, h⟩ := jck_some h
              obtain ⟨rfl, rfl⟩ := jin2 h
              exact j_zret X R0 hc26 dX9_readPath_99
            · refine j_icmp_eq (tgt := 94) X dX9_readPath_82 (by decide) h (fun h => ?_) (fun h => ?_)
              · exact j_sub (ls' := [some (.ref 13), none, none, none]) ⟨Or.inr rfl, Or.inl rfl, Or.inl rfl, Or.inl rfl, trivial⟩ (hk20 () σ17 h)
              · refine j_aload_n X 1 dX9_readPath_85 rfl rfl ?_
                refine j_iload_n X 2 dX9_readPath_86 rfl rfl ?_
                refine j_iload_n X 3 dX9_readPath_87 rfl rfl ?_
                obtain ⟨v27, σ28, hm29, h⟩ := jbd_some h
                refine j_callV (as := [.int v10, .int v19]) (st := []) (st1 := [.int v27]) X (jp_lt ha0) (jp_ly ha0) rfl rfl sv_RX9_74 ⟨by decide, by decide⟩ rfl rfl (Nat.le_of_ble_eq_true rfl) rfl dX9_readPath_88 jrv_i (c_X5_isJoined ha0 hm29) rfl ?_
                refine j_if_eq (tgt := 100) X dX9_readPath_91 (by decide) h (fun h => ?_) (fun h => ?_)
                · refine j_aload_n X 0 dX9_readPath_100 rfl rfl ?_
                  obtain ⟨σ30, hm31, h⟩ := jbv_some h
                  refine j_callV (as := []) (st := []) (st1 := []) X ln_13 ly_13 rfl rfl sv_RX9_27 ⟨by decide, by decide⟩ rfl rfl (Nat.le_of_ble_eq_true rfl) rfl dX9_readPath_101 jrv_v (c_X9_take  hm31) rfl ?_
                  refine j_aload_n X 0 dX9_readPath_104 rfl rfl ?_
                  refine j_bipush (v := 44) X dX9_readPath_105 (by decide) ?_
                  obtain ⟨v32, σ33, hm34, h⟩ := jbd_some h
                  refine j_callV (as := [.int (44 : Int32)]) (st := []) (st1 := [.int v32]) X ln_13 ly_13 rfl rfl sv_RX9_55 ⟨by decide, by decide⟩ rfl rfl (Nat.le_of_ble_eq_true rfl) rfl dX9_readPath_107 jrv_i (c_X9_takes  hm34) rfl ?_
                  refine j_if_eq (tgt := 123) X dX9_readPath_110 (by decide) h (fun h => ?_) (fun h => ?_)
                  · refine j_iconst (v := 0) X dX9_readPath_123 (by decide) ?_
                    obtain ⟨rfl, rfl⟩ := jin2 h
                    exact j_zret X R0 rfl dX9_readPath_124
                  · refine j_aload_n X 0 dX9_readPath_113 rfl rfl ?_
                    refine j_iconst (v := 1) X dX9_readPath_114 (by decide) ?_
                    refine j_bipush (v := 9) X dX9_readPath_115 (by decide) ?_
                    obtain ⟨v35, σ36, hm37, h⟩ := jbd_some h
                    refine j_callV (as := [.int (1 : Int32), .int (9 : Int32)]) (st := []) (st1 := [.int v35]) X ln_13 ly_13 rfl rfl sv_RX9_58 ⟨by decide, by decide⟩ rfl rfl (Nat.le_of_ble_eq_true rfl) rfl dX9_readPath_117 jrv_i (c_X9_isNumber  hm37) rfl ?_
                    refine j_if_ne (tgt := 125) X dX9_readPath_120 (by decide) h (fun h => ?_) (fun h => ?_)
                    · refine j_aload_n X 1 dX9_readPath_125 rfl rfl ?_
                      refine j_iload_n X 2 dX9_readPath_126 rfl rfl ?_
                      refine j_iload_n X 3 dX9_readPath_127 rfl rfl ?_
                      refine j_aload_n X 0 dX9_readPath_128 rfl rfl ?_
                      refine j_getI X fg_RX9_62 ln_13 ly_13 rfl dX9_readPath_129 ?_
                      obtain ⟨σ38, hm39, h⟩ := jbv_some h
                      refine j_callV (as := [.int v10, .int v19, .int (σ36.1 13 6)]) (st := []) (st1 := []) X (jp_lt ha0) (jp_ly ha0) rfl rfl sv_RX9_77 ⟨by decide, by decide⟩ rfl rfl (Nat.le_of_ble_eq_true rfl) rfl dX9_readPath_132 jrv_v (c_X5_addPath ha0 hm39) rfl ?_
                      refine j_aload_n X 0 dX9_readPath_135 rfl rfl ?_
                      obtain ⟨σ40, hm41, h⟩ := jbv_some h
                      refine j_callV (as := []) (st := []) (st1 := []) X ln_13 ly_13 rfl rfl sv_RX9_27 ⟨by decide, by decide⟩ rfl rfl (Nat.le_of_ble_eq_true rfl) rfl dX9_readPath_136 jrv_v (c_X9_take  hm41) rfl ?_
                      refine j_aload_n X 0 dX9_readPath_139 rfl rfl ?_
                      refine j_bipush (v := 59) X dX9_readPath_140 (by decide) ?_
                      obtain ⟨v42, σ43, hm44, h⟩ := jbd_some h
                      refine j_callV (as := [.int (59 : Int32)]) (st := []) (st1 := [.int v42]) X ln_13 ly_13 rfl rfl sv_RX9_55 ⟨by decide, by decide⟩ rfl rfl (Nat.le_of_ble_eq_true rfl) rfl dX9_readPath_142 jrv_i (c_X9_takes  hm44) rfl ?_
                      obtain ⟨hc45, h⟩ := jck_some h
                      obtain ⟨rfl, rfl⟩ := jin2 h
                      exact j_zret X R0 hc45 dX9_readPath_145
                    · refine j_iconst (v := 0) X dX9_readPath_123 (by decide) ?_
                      obtain ⟨rfl, rfl⟩ := jin2 h
                      exact j_zret X R0 rfl dX9_readPath_124
                · exact j_sub (ls' := [some (.ref 13), none, none, none]) ⟨Or.inr rfl, Or.inl rfl, Or.inl rfl, Or.inl rfl, trivial⟩ (hk20 () σ28 h)
          · refine j_iconst (v := 0) X dX9_readPath_73 (by decide) ?_
            obtain ⟨rfl, rfl⟩ := jin2 h
            exact j_zret X R0 rfl dX9_readPath_74
      · refine j_iconst (v := 0) X dX9_readPath_43 (by decide) ?_
        obtain ⟨rfl, rfl⟩ := jin2 h
        exact j_zret X R0 rfl dX9_readPath_44
  · refine j_icmp_ne (tgt := 24) X dX9_readPath_6 (by decide) h (fun h => ?_) (fun h => ?_)
    · exact hk1 () σ h
    · refine j_aload_n X 1 dX9_readPath_9 rfl rfl ?_
      refine j_getI X fg_RX9_71 (jp_lt ha0) (jp_ly ha0) rfl dX9_readPath_10 ?_
      refine j_bipush (v := 12) X dX9_readPath_13 (by decide) ?_
      refine j_icmp_lt (tgt := 24) X dX9_readPath_15 (by decide) h (fun h => ?_) (fun h => ?_)
      · exact hk1 () σ h
      · refine j_aload_n X 0 dX9_readPath_18 rfl rfl ?_
        refine j_iconst (v := 3) X dX9_readPath_19 (by decide) ?_
        obtain ⟨v46, σ47, hm48, h⟩ := jbd_some h
        refine j_callV (as := [.int (3 : Int32)]) (st := []) (st1 := [.int v46]) X ln_13 ly_13 rfl rfl sv_RX9_47 ⟨by decide, by decide⟩ rfl rfl (Nat.le_of_ble_eq_true rfl) rfl dX9_readPath_20 jrv_i (c_X9_fails  hm48) rfl ?_
        obtain ⟨hc49, h⟩ := jck_some h
        obtain ⟨rfl, rfl⟩ := jin2 h
        exact j_zret X R0 hc49 dX9_readPath_23
