theorem sv_RX9_55 : jSiV RX9 55 yX9_takes cX9_takes 2 (some .boolean) 1 := ⟨tw_401, tw_403, ts_5, tw_3, tw_404, by decide, by decide, by decide +kernel⟩
theorem sv_RX9_58 : jSiV RX9 58 yX9_isNumber cX9_isNumber 3 (some .boolean) 2 := ⟨tw_409, tw_411, ts_7, tw_3, tw_412, by decide, by decide, by decide +kernel⟩
theorem sv_RX9_74 : jSiV RX9 74 yX5_isJoined cX5_isJoined 3 (some .boolean) 2 := ⟨tw_417, tw_418, tw_419, tw_10, tw_420, by decide, by decide, by decide +kernel⟩
theorem sv_RX9_77 : jSiV RX9 77 yX5_addPath cX5_addPath 4 none 3 := ⟨tw_425, tw_426, tw_427, tw_10, tw_428, by decide, by decide, by decide +kernel⟩
def f_X9_readPath (a0 : Nat) (σ : jMem) : Option (Int32 × jMem) :=
  jj (fun (q2 : Unit) σ3 =>
  jbd (f_X9_takes (112 : Int32) σ3) (fun v4 σ5 =>
  if v4 = 0 then
  some (((0 : Int32), σ5))
else
  jbd (f_X9_isNumber (0 : Int32) (7 : Int32) σ5) (fun v7 σ8 =>
  if ¬ v7 = 0 then
  jlet ((σ8.1 13 6)) (fun v10 =>
  jbv (f_X9_take  σ8) (fun σ11 =>
  jbd (f_X9_takes (44 : Int32) σ11) (fun v13 σ14 =>
  if v13 = 0 then
  some (((0 : Int32), σ14))
else
  jbd (f_X9_isNumber (0 : Int32) (7 : Int32) σ14) (fun v16 σ17 =>
  if ¬ v16 = 0 then
  jlet ((σ17.1 13 6)) (fun v19 =>
  jj (fun (q21 : Unit) σ22 =>
  jbd (f_X9_fails (2 : Int32) σ22) (fun v23 σ24 =>
  jck (jisb v23 = true) (some ((v23, σ24))))) (fun k20 =>
  if v10 = v19 then
  k20 () σ17
else
  jbd (f_X5_isJoined a0 v10 v19 σ17) (fun v27 σ28 =>
  if v27 = 0 then
  jbv (f_X9_take  σ28) (fun σ30 =>
  jbd (f_X9_takes (44 : Int32) σ30) (fun v32 σ33 =>
  if v32 = 0 then
  some (((0 : Int32), σ33))
else
  jbd (f_X9_isNumber (1 : Int32) (9 : Int32) σ33) (fun v35 σ36 =>
  if ¬ v35 = 0 then
  jbv (f_X5_addPath a0 v10 v19 (σ36.1 13 6) σ36) (fun σ38 =>
  jbv (f_X9_take  σ38) (fun σ40 =>
  jbd (f_X9_takes (59 : Int32) σ40) (fun v42 σ43 =>
  jck (jisb v42 = true) (some ((v42, σ43))))))
else
  some (((0 : Int32), σ36)))))
else
  k20 () σ28)))
else
  some (((0 : Int32), σ17))))))
else
  some (((0 : Int32), σ8))))) (fun k1 =>
  if ¬ (σ.1 13 5) = (112 : Int32) then
  k1 () σ
else
  if (σ.1 a0 5) < (12 : Int32) then
  k1 () σ
else
  jbd (f_X9_fails (3 : Int32) σ) (fun v46 σ47 =>
  jck (jisb v46 = true) (some ((v46, σ47)))))
set_option maxRecDepth 100000 in
set_option maxHeartbeats 4000000 in
theorem c_X9_readPath {l : Launch} {D : va_G} {ad : Nat → Nat} {cid : Nat → ClassId} {a0 : Nat} (ha0 : jisP a0) {σ : jMem} {r : Int32} {σ' : jMem} (h : f_X9_readPath a0 σ = some (r, σ')) : jMet l D ad cid yX9_readPath cX9_readPath 4 (some .boolean) 4 82 [.ref 13, .ref a0] σ (some (.int r)) σ' := by
  refine jMet_of (ls0 := [some (.ref 13), some (.ref a0), none, none]) (by decide) (Nat.le_of_ble_eq_true rfl) rfl (fun K X R0 _ => ?_)
  unfold f_X9_readPath at h
  refine j_aload_n X 0 dX9_readPath_0 rfl rfl ?_
  refine j_getI X fg_RX9_34 ln_13 ly_13 rfl dX9_readPath_1 ?_
  refine j_bipush (v := 112) X dX9_readPath_4 (by decide) ?_
  refine j_join (pcJ := 24) (lsJ := fun q2 => [some (.ref 13), some (.ref a0), none, none]) (stJ := fun q2 => []) h (fun q2 σ3 h => ?_) (fun k1 hk1 h => ?_)
  · refine j_aload_n X 0 dX9_readPath_24 rfl rfl ?_
    refine j_bipush (v := 112) X dX9_readPath_25 (by decide) ?_
    obtain ⟨v4, σ5, hm6, h⟩ := jbd_some h
    refine j_callV (as := [.int (112 : Int32)]) (st := []) (st1 := [.int v4]) X ln_13 ly_13 rfl rfl sv_RX9_55 ⟨by decide, by decide⟩ rfl rfl (Nat.le_of_ble_eq_true rfl) rfl dX9_readPath_27 jrv_i (c_X9_takes  hm6) rfl ?_
    refine j_if_eq (tgt := 43) X dX9_readPath_30 (by decide) h (fun h => ?_) (fun h => ?_)
    · refine j_iconst (v := 0) X dX9_readPath_43 (by decide) ?_
      obtain ⟨rfl, rfl⟩ := jin2 h
      exact j_zret X R0 rfl dX9_readPath_44
    · refine j_aload_n X 0 dX9_readPath_33 rfl rfl ?_
      refine j_iconst (v := 0) X dX9_readPath_34 (by decide) ?_
      refine j_bipush (v := 7) X dX9_readPath_35 (by decide) ?_
      obtain ⟨v7, σ8, hm9, h⟩ := jbd_some h
      refine j_callV (as := [.int (0 : Int32), .int (7 : Int32)]) (st := []) (st1 := [.int v7]) X ln_13 ly_13 rfl rfl sv_RX9_58 ⟨by decide, by decide⟩ rfl rfl (Nat.le_of_ble_eq_true rfl) rfl dX9_readPath_37 jrv_i (c_X9_isNumber  hm9) rfl ?_
      refine j_if_ne (tgt := 45) X dX9_readPath_40 (by decide) h (fun h => ?_) (fun h => ?_)
      · refine j_aload_n X 0 dX9_readPath_45 rfl rfl ?_
        refine j_getI X fg_RX9_62 ln_13 ly_13 rfl dX9_readPath_46 ?_
        refine j_letI h (fun v10 h => ?_)
        refine j_istore_n (ls' := [some (.ref 13), some (.ref a0), some (.int v10), none]) X 2 dX9_readPath_49 rfl (Nat.le_of_ble_eq_true rfl) rfl ?_
        refine j_aload_n X 0 dX9_readPath_50 rfl rfl ?_
        obtain ⟨σ11, hm12, h⟩ := jbv_some h
        refine j_callV (as := []) (st := []) (st1 := []) X ln_13 ly_13 rfl rfl sv_RX9_27 ⟨by decide, by decide⟩ rfl rfl (Nat.le_of_ble_eq_true rfl) rfl dX9_readPath_51 jrv_v (c_X9_take  hm12) rfl ?_
        refine j_aload_n X 0 dX9_readPath_54 rfl rfl ?_
        refine j_bipush (v := 44) X dX9_readPath_55 (by decide) ?_
        obtain ⟨v13, σ14, hm15, h⟩ := jbd_some h
        refine j_callV (as := [.int (44 : Int32)]) (st := []) (st1 := [.int v13]) X ln_13 ly_13 rfl rfl sv_RX9_55 ⟨by decide, by decide⟩ rfl rfl (Nat.le_of_ble_eq_true rfl) rfl dX9_readPath_57 jrv_i (c_X9_takes  hm15) rfl ?_
        refine j_if_eq (tgt := 73) X dX9_readPath_60 (by decide) h (fun h => ?_) (fun h => ?_)
        · refine j_iconst (v := 0) X dX9_readPath_73 (by decide) ?_
          obtain ⟨rfl, rfl⟩ := jin2 h
          exact j_zret X R0 rfl dX9_readPath_74
        · refine j_aload_n X 0 dX9_readPath_63 rfl rfl ?_
          refine j_iconst (v := 0) X dX9_readPath_64 (by decide) ?_
          refine j_bipush (v := 7) X dX9_readPath_65 (by decide) ?_
          obtain ⟨v16, σ17, hm18, h⟩ := jbd_some h
          refine j_callV (as := [.int (0 : Int32), .int (7 : Int32)]) (st := []) (st1 := [.int v16]) X ln_13 ly_13 rfl rfl sv_RX9_58 ⟨by decide, by decide⟩ rfl rfl (Nat.le_of_ble_eq_true rfl) rfl dX9_readPath_67 jrv_i (c_X9_isNumber  hm18) rfl ?_
          refine j_if_ne (tgt := 75) X dX9_readPath_70 (by decide) h (fun h => ?_) (fun h => ?_)
          · refine j_aload_n X 0 dX9_readPath_75 rfl rfl ?_
            refine j_getI X fg_RX9_62 ln_13 ly_13 rfl dX9_readPath_76 ?_
            refine j_letI h (fun v19 h => ?_)
            refine j_istore_n (ls' := [some (.ref 13), some (.ref a0), some (.int v10), some (.int v19)]) X 3 dX9_readPath_79 rfl (Nat.le_of_ble_eq_true rfl) rfl ?_
            refine j_iload_n X 2 dX9_readPath_80 rfl rfl ?_
            refine j_iload_n X 3 dX9_readPath_81 rfl rfl ?_
            refine j_join (pcJ := 94) (lsJ := fun q21 => [some (.ref 13), none, none, none]) (stJ := fun q21 => []) h (fun q21 σ22 h => ?_) (fun k20 hk20 h => ?_)
            · refine j_aload_n X 0 dX9_readPath_94 rfl rfl ?_
              refine j_iconst (v := 2) X dX9_readPath_95 (by decide) ?_
              obtain ⟨v23, σ24, hm25, h⟩ := jbd_some h
              refine j_callV (as := [.int (2 : Int32)]) (st := []) (st1 := [.int v23]) X ln_13 ly_13 rfl rfl sv_RX9_47 ⟨by decide, by decide⟩ rfl rfl (Nat.le_of_ble_eq_true rfl) rfl dX9_readPath_96 jrv_i (c_X9_fails  hm25) rfl ?_
              obtain ⟨hc26, h⟩ := jck_some h
              obtain ⟨rfl, rfl⟩ := jin2 h
              exact j_zret X R0 hc26 dX9_readPath_99
            · refine j_icmp_eq (tgt := 94) X dX9_readPath_82 (by decide) h (fun h => ?_) (fun h => ?_)
              · exact j_sub (ls' := [some (.ref 13), none, none, none]) ⟨Or.inr rfl, Or.inl rfl, Or.inl rfl, Or.inl rfl, trivial⟩ (hk20 () σ17 h)
              · refine j_aload_n X 1 dX9_readPath_85 rfl rfl ?_
                refine j_iload_n X 2 dX9_readPath_86 rfl rfl ?_
                refine j_iload_n X 3 dX9_readPath_87 rfl rfl ?_
                obtain ⟨v27, σ28, hm29, h⟩ := jbd_some h
                refine j_callV (as := [.int v10, .int v19]) (st := []) (st1 := [.int v27]) X (jp_lt ha0) (jp_ly ha0) rfl rfl sv_RX9_74 ⟨by decide, by decide⟩ rfl rfl (Nat.le_of_ble_eq_true rfl) rfl dX9_readPath_88 jrv_i (c_X5_isJoined ha0 hm29) rfl ?_
                refine j_if_eq (tgt := 100) X dX9_readPath_91 (by decide) h (fun h => ?_) (fun h => ?_)
                · refine j_aload_n X 0 dX9_readPath_100 rfl rfl ?_
                  obtain ⟨σ30, hm31, h⟩ := jbv_some h
                  refine j_callV (as := []) (st := []) (st1 := []) X ln_13 ly_13 rfl rfl sv_RX9_27 ⟨by decide, by decide⟩ rfl rfl (Nat.le_of_ble_eq_true rfl) rfl dX9_readPath_101 jrv_v (c_X9_take  hm31) rfl ?_
                  refine j_aload_n X 0 dX9_readPath_104 rfl rfl ?_
                  refine j_bipush (v := 44) X dX9_readPath_105 (by decide) ?_
                  obtain ⟨v32, σ33, hm34, h⟩ := jbd_some h
                  refine j_callV (as := [.int (44 : Int32)]) (st := []) (st1 := [.int v32]) X ln_13 ly_13 rfl rfl sv_RX9_55 ⟨by decide, by decide⟩ rfl rfl (Nat.le_of_ble_eq_true rfl) rfl dX9_readPath_107 jrv_i (c_X9_takes  hm34) rfl ?_
                  refine j_if_eq (tgt := 123) X dX9_readPath_110 (by decide) h (fun h => ?_) (fun h => ?_)
                  · refine j_iconst (v := 0) X dX9_readPath_123 (by decide) ?_
                    obtain ⟨rfl, rfl⟩ := jin2 h
                    exact j_zret X R0 rfl dX9_readPath_124
                  · refine j_aload_n X 0 dX9_readPath_113 rfl rfl ?_
                    refine j_iconst (v := 1) X dX9_readPath_114 (by decide) ?_
                    refine j_bipush (v := 9) X dX9_readPath_115 (by decide) ?_
                    obtain ⟨v35, σ36, hm37, h⟩ := jbd_some h
                    refine j_callV (as := [.int (1 : Int32), .int (9 : Int32)]) (st := []) (st1 := [.int v35]) X ln_13 ly_13 rfl rfl sv_RX9_58 ⟨by decide, by decide⟩ rfl rfl (Nat.le_of_ble_eq_true rfl) rfl dX9_readPath_117 jrv_i (c_X9_isNumber  hm37) rfl ?_
                    refine j_if_ne (tgt := 125) X dX9_readPath_120 (by decide) h (fun h => ?_) (fun h => ?_)
                    · refine j_aload_n X 1 dX9_readPath_125 rfl rfl ?_
                      refine j_iload_n X 2 dX9_readPath_126 rfl rfl ?_
                      refine j_iload_n X 3 dX9_readPath_127 rfl rfl ?_
                      refine j_aload_n X 0 dX9_readPath_128 rfl rfl ?_
                      refine j_getI X fg_RX9_62 ln_13 ly_13 rfl dX9_readPath_129 ?_
                      obtain ⟨σ38, hm39, h⟩ := jbv_some h
                      refine j_callV (as := [.int v10, .int v19, .int (σ36.1 13 6)]) (st := []) (st1 := []) X (jp_lt ha0) (jp_ly ha0) rfl rfl sv_RX9_77 ⟨by decide, by decide⟩ rfl rfl (Nat.le_of_ble_eq_true rfl) rfl dX9_readPath_132 jrv_v (c_X5_addPath ha0 hm39) rfl ?_
                      refine j_aload_n X 0 dX9_readPath_135 rfl rfl ?_
                      obtain ⟨σ40, hm41, h⟩ := jbv_some h
                      refine j_callV (as := []) (st := []) (st1 := []) X ln_13 ly_13 rfl rfl sv_RX9_27 ⟨by decide, by decide⟩ rfl rfl (Nat.le_of_ble_eq_true rfl) rfl dX9_readPath_136 jrv_v (c_X9_take  hm41) rfl ?_
                      refine j_aload_n X 0 dX9_readPath_139 rfl rfl ?_
                      refine j_bipush (v := 59) X dX9_readPath_140 (by decide) ?_
                      obtain ⟨v42, σ43, hm44, h⟩ := jbd_some h
                      refine j_callV (as := [.int (59 : Int32)]) (st := []) (st1 := [.int v42]) X ln_13 ly_13 rfl rfl sv_RX9_55 ⟨by decide, by decide⟩ rfl rfl (Nat.le_of_ble_eq_true rfl) rfl dX9_readPath_142 jrv_i (c_X9_takes  hm44) rfl ?_
                      obtain ⟨hc45, h⟩ := jck_some h
                      obtain ⟨rfl, rfl⟩ := jin2 h
                      exact j_zret X R0 hc45 dX9_readPath_145
                    · refine j_iconst (v := 0) X dX9_readPath_123 (by decide) ?_
                      obtain ⟨rfl, rfl⟩ := jin2 h
                      exact j_zret X R0 rfl dX9_readPath_124
                · exact j_sub (ls' := [some (.ref 13), none, none, none]) ⟨Or.inr rfl, Or.inl rfl, Or.inl rfl, Or.inl rfl, trivial⟩ (hk20 () σ28 h)
          · refine j_iconst (v := 0) X dX9_readPath_73 (by decide) ?_
            obtain ⟨rfl, rfl⟩ := jin2 h
            exact j_zret X R0 rfl dX9_readPath_74
      · refine j_iconst (v := 0) X dX9_readPath_43 (by decide) ?_
        obtain ⟨rfl, rfl⟩ := jin2 h
        exact j_zret X R0 rfl dX9_readPath_44
  · refine j_icmp_ne (tgt := 24) X dX9_readPath_6 (by decide) h (fun h => ?_) (fun h => ?_)
    · exact hk1 () σ h
    · refine j_aload_n X 1 dX9_readPath_9 rfl rfl ?_
      refine j_getI X fg_RX9_71 (jp_lt ha0) (jp_ly ha0) rfl dX9_readPath_10 ?_
      refine j_bipush (v := 12) X dX9_readPath_13 (by decide) ?_
      refine j_icmp_lt (tgt := 24) X dX9_readPath_15 (by decide) h (fun h => ?_) (fun h => ?_)
      · exact hk1 () σ h
      · refine j_aload_n X 0 dX9_readPath_18 rfl rfl ?_
        refine j_iconst (v := 3) X dX9_readPath_19 (by decide) ?_
        obtain ⟨v46, σ47, hm48, h⟩ := jbd_some h
        refine j_callV (as := [.int (3 : Int32)]) (st := []) (st1 := [.int v46]) X ln_13 ly_13 rfl rfl sv_RX9_47 ⟨by decide, by decide⟩ rfl rfl (Nat.le_of_ble_eq_true rfl) rfl dX9_readPath_20 jrv_i (c_X9_fails  hm48) rfl ?_
        obtain ⟨hc49, h⟩ := jck_some h
        obtain ⟨rfl, rfl⟩ := jin2 h
        exact j_zret X R0 hc49 dX9_readPath_23
def f_X5_addWitness (k : Nat) (a0 : Int32) (a1 : Int32) (a2 : Int32) (σ : jMem) : Option jMem :=
  jst σ (k + 4) 6 (σ.1 k 6) a0 (fun σ1 =>
  jst σ1 (k + 6) 6 (σ1.1 k 6) a1 (fun σ2 =>
  jst σ2 (k + 5) 6 (σ2.1 k 6) a2 (fun σ3 =>
  jst σ3 (k + 7) 6 (σ3.1 k 6) (0 : Int32) (fun σ4 =>
  jlet (jset σ4 k 6 ((σ4.1 k 6) + (1 : Int32))) (fun σ5 =>
  some σ5)))))
set_option maxRecDepth 100000 in
set_option maxHeartbeats 4000000 in
theorem c_X5_addWitness {l : Launch} {D : va_G} {ad : Nat → Nat} {cid : Nat → ClassId} {k : Nat} {a0 : Int32} {a1 : Int32} {a2 : Int32} (hk : jisP k) {σ : jMem} {σ' : jMem} (h : f_X5_addWitness k a0 a1 a2 σ = some σ') : jMet l D ad cid yX5_addWitness cX5_addWitness 4 none 0 0 [.ref k, .int a0, .int a1, .int a2] σ none σ' := by
  refine jMet_of (ls0 := [some (.ref k), some (.int a0), some (.int a1), some (.int a2)]) (by decide) (Nat.le_of_ble_eq_true rfl) rfl (fun K X R0 _ => ?_)
  unfold f_X5_addWitness at h
  refine j_aload_n X 0 dX5_addWitness_0 rfl rfl ?_
  refine j_getR (t := (k + 4)) X fg_RX5_25 (jp_lt hk) (jp_ly hk) rfl dX5_addWitness_1 ?_
  refine j_aload_n X 0 dX5_addWitness_4 rfl rfl ?_
  refine j_getI X fg_RX5_44 (jp_lt hk) (jp_ly hk) rfl dX5_addWitness_5 ?_
  refine j_iload_n X 1 dX5_addWitness_8 rfl rfl ?_
  refine j_iastore X (jp_lt4 hk) (jp_ly4 hk) dX5_addWitness_9 h (fun σ1 h => ?_)
  refine j_aload_n X 0 dX5_addWitness_10 rfl rfl ?_
  refine j_getR (t := (k + 6)) X fg_RX5_31 (jp_lt hk) (jp_ly hk) rfl dX5_addWitness_11 ?_
  refine j_aload_n X 0 dX5_addWitness_14 rfl rfl ?_
  refine j_getI X fg_RX5_44 (jp_lt hk) (jp_ly hk) rfl dX5_addWitness_15 ?_
  refine j_iload_n X 2 dX5_addWitness_18 rfl rfl ?_
  refine j_iastore X (jp_lt6 hk) (jp_ly6 hk) dX5_addWitness_19 h (fun σ2 h => ?_)
  refine j_aload_n X 0 dX5_addWitness_20 rfl rfl ?_
  refine j_getR (t := (k + 5)) X fg_RX5_28 (jp_lt hk) (jp_ly hk) rfl dX5_addWitness_21 ?_
  refine j_aload_n X 0 dX5_addWitness_24 rfl rfl ?_
  refine j_getI X fg_RX5_44 (jp_lt hk) (jp_ly hk) rfl dX5_addWitness_25 ?_
  refine j_iload_n X 3 dX5_addWitness_28 rfl rfl ?_
  refine j_iastore X (jp_lt5 hk) (jp_ly5 hk) dX5_addWitness_29 h (fun σ3 h => ?_)
  refine j_aload_n X 0 dX5_addWitness_30 rfl rfl ?_
  refine j_getR (t := (k + 7)) X fg_RX5_34 (jp_lt hk) (jp_ly hk) rfl dX5_addWitness_31 ?_
  refine j_aload_n X 0 dX5_addWitness_34 rfl rfl ?_
  refine j_getI X fg_RX5_44 (jp_lt hk) (jp_ly hk) rfl dX5_addWitness_35 ?_
  refine j_iconst (v := 0) X dX5_addWitness_38 (by decide) ?_
  refine j_iastore X (jp_lt7 hk) (jp_ly7 hk) dX5_addWitness_39 h (fun σ4 h => ?_)
  refine j_aload_n X 0 dX5_addWitness_40 rfl rfl ?_
  refine j_dup X dX5_addWitness_41 rfl ?_
  refine j_getI X fg_RX5_44 (jp_lt hk) (jp_ly hk) rfl dX5_addWitness_42 ?_
  refine j_iconst (v := 1) X dX5_addWitness_45 (by decide) ?_
  refine j_iadd X dX5_addWitness_46 ?_
  refine j_put X fp_RX5_44 (jp_lt hk) (jp_ly hk) rfl rfl rfl dX5_addWitness_47 h (fun σ5 h => ?_)
  obtain rfl := Option.some.inj h
  exact j_vret X R0 dX5_addWitness_50
def f_X9_sortOf (a0 : Int32) (σ : jMem) : Option (Int32 × jMem) :=
  if a0 = 99 then
  some (((2 : Int32), σ))
else
  if a0 = 102 then
  some (((3 : Int32), σ))
else
  if a0 = 109 then
  some (((5 : Int32), σ))
else
  if a0 = 110 then
  some (((1 : Int32), σ))
else
  if a0 = 115 then
  some (((4 : Int32), σ))
else
  some (((0 : Int32), σ))
set_option maxRecDepth 100000 in
set_option maxHeartbeats 4000000 in
theorem c_X9_sortOf {l : Launch} {D : va_G} {ad : Nat → Nat} {cid : Nat → ClassId} {a0 : Int32}  {σ : jMem} {r : Int32} {σ' : jMem} (h : f_X9_sortOf a0 σ = some (r, σ')) : jMet l D ad cid yX9_sortOf cX9_sortOf 1 (some .int) 0 0 [.int a0] σ (some (.int r)) σ' := by
  refine jMet_of (ls0 := [some (.int a0)]) (by decide) (Nat.le_of_ble_eq_true rfl) rfl (fun K X R0 _ => ?_)
  unfold f_X9_sortOf at h
  refine j_iload_n X 0 dX9_sortOf_0 rfl rfl ?_
  by_cases hs1 : a0 = 99
  · rw [if_pos hs1] at h
    refine j_look (off := 53) (tgt := 54) X dX9_sortOf_1 (by decide) (by rw [hs1] <;> rfl) (by decide) ?_
    refine j_iconst (v := 2) X dX9_sortOf_54 (by decide) ?_
    obtain ⟨rfl, rfl⟩ := jin2 h
    exact j_iret X R0 dX9_sortOf_55
  · rw [if_neg hs1] at h
    by_cases hs2 : a0 = 102
    · rw [if_pos hs2] at h
      refine j_look (off := 55) (tgt := 56) X dX9_sortOf_1 (by decide) (by rw [hs2] <;> rfl) (by decide) ?_
      refine j_iconst (v := 3) X dX9_sortOf_56 (by decide) ?_
      obtain ⟨rfl, rfl⟩ := jin2 h
      exact j_iret X R0 dX9_sortOf_57
    · rw [if_neg hs2] at h
      by_cases hs3 : a0 = 109
      · rw [if_pos hs3] at h
        refine j_look (off := 59) (tgt := 60) X dX9_sortOf_1 (by decide) (by rw [hs3] <;> rfl) (by decide) ?_
        refine j_iconst (v := 5) X dX9_sortOf_60 (by decide) ?_
        obtain ⟨rfl, rfl⟩ := jin2 h
        exact j_iret X R0 dX9_sortOf_61
      · rw [if_neg hs3] at h
        by_cases hs4 : a0 = 110
        · rw [if_pos hs4] at h
          refine j_look (off := 51) (tgt := 52) X dX9_sortOf_1 (by decide) (by rw [hs4] <;> rfl) (by decide) ?_
          refine j_iconst (v := 1) X dX9_sortOf_52 (by decide) ?_
          obtain ⟨rfl, rfl⟩ := jin2 h
          exact j_iret X R0 dX9_sortOf_53
        · rw [if_neg hs4] at h
          by_cases hs5 : a0 = 115
          · rw [if_pos hs5] at h
            refine j_look (off := 57) (tgt := 58) X dX9_sortOf_1 (by decide) (by rw [hs5] <;> rfl) (by decide) ?_
            refine j_iconst (v := 4) X dX9_sortOf_58 (by decide) ?_
            obtain ⟨rfl, rfl⟩ := jin2 h
            exact j_iret X R0 dX9_sortOf_59
          · rw [if_neg hs5] at h
            refine j_look (off := 61) (tgt := 62) X dX9_sortOf_1 (by decide) (by show Op.lookupswitch.offset [(99, 53), (102, 55), (109, 59), (110, 51), (115, 57)] _ _ = _; rw [lv_osw hs1 (by decide), lv_osw hs2 (by decide), lv_osw hs3 (by decide), lv_osw hs4 (by decide), lv_osw hs5 (by decide)] <;> rfl) (by decide) ?_
            refine j_iconst (v := 0) X dX9_sortOf_62 (by decide) ?_
            obtain ⟨rfl, rfl⟩ := jin2 h
            exact j_iret X R0 dX9_sortOf_63
theorem ss_RX9_40 : jSiS RX9 40 yX9_sortOf cX9_sortOf 1 (some .int) 1 := ⟨tw_429, tw_430, tw_3, tw_431, by decide, by decide, by decide +kernel⟩
theorem sv_RX9_84 : jSiV RX9 84 yX5_addWitness cX5_addWitness 4 none 3 := ⟨tw_436, tw_437, tw_438, tw_10, tw_439, by decide, by decide, by decide +kernel⟩
def f_X9_readWitness (a0 : Nat) (σ : jMem) : Option (Int32 × jMem) :=
  if (σ.1 a0 6) < (6 : Int32) then
  jbd (f_X9_sortOf (σ.1 13 5) σ) (fun v1 σ2 =>
  jbv (f_X9_take  σ2) (fun σ4 =>
  jbd (f_X9_isNumber (0 : Int32) (60 : Int32) σ4) (fun v6 σ7 =>
  if ¬ v6 = 0 then
  jlet ((σ7.1 13 6)) (fun v9 =>
  jbv (f_X9_take  σ7) (fun σ10 =>
  jbd (f_X9_takes (44 : Int32) σ10) (fun v12 σ13 =>
  if v12 = 0 then
  some (((0 : Int32), σ13))
else
  jbd (f_X9_isNumber (0 : Int32) (7 : Int32) σ13) (fun v15 σ16 =>
  if ¬ v15 = 0 then
  jbv (f_X5_addWitness a0 v1 v9 (σ16.1 13 6) σ16) (fun σ18 =>
  jbv (f_X9_take  σ18) (fun σ20 =>
  jbd (f_X9_takes (59 : Int32) σ20) (fun v22 σ23 =>
  jck (jisb v22 = true) (some ((v22, σ23))))))
else
  some (((0 : Int32), σ16))))))
else
  some (((0 : Int32), σ7)))))
else
  jbd (f_X9_fails (3 : Int32) σ) (fun v26 σ27 =>
  jck (jisb v26 = true) (some ((v26, σ27))))
set_option maxRecDepth 100000 in
set_option maxHeartbeats 4000000 in
theorem c_X9_readWitness {l : Launch} {D : va_G} {ad : Nat → Nat} {cid : Nat → ClassId} {a0 : Nat} (ha0 : jisP a0) {σ : jMem} {r : Int32} {σ' : jMem} (h : f_X9_readWitness a0 σ = some (r, σ')) : jMet l D ad cid yX9_readWitness cX9_readWitness 4 (some .boolean) 4 82 [.ref 13, .ref a0] σ (some (.int r)) σ' := by
  refine jMet_of (ls0 := [some (.ref 13), some (.ref a0), none, none]) (by decide) (Nat.le_of_ble_eq_true rfl) rfl (fun K X R0 _ => ?_)
  unfold f_X9_readWitness at h
  refine j_aload_n X 1 dX9_readWitness_0 rfl rfl ?_
  refine j_getI X fg_RX9_81 (jp_lt ha0) (jp_ly ha0) rfl dX9_readWitness_1 ?_
  refine j_bipush (v := 6) X dX9_readWitness_4 (by decide) ?_
  refine j_icmp_lt (tgt := 15) X dX9_readWitness_6 (by decide) h (fun h => ?_) (fun h => ?_)
  · refine j_aload_n X 0 dX9_readWitness_15 rfl rfl ?_
    refine j_getI X fg_RX9_34 ln_13 ly_13 rfl dX9_readWitness_16 ?_
    obtain ⟨v1, σ2, hm3, h⟩ := jbd_some h
    refine j_callS (as := [.int (σ.1 13 5)]) (st := []) (st1 := [.int v1]) X ss_RX9_40 ⟨by decide, by decide⟩ rfl rfl (Nat.le_of_ble_eq_true rfl) rfl dX9_readWitness_19 jrv_i (c_X9_sortOf  hm3) rfl ?_
    refine j_istore_n (ls' := [some (.ref 13), some (.ref a0), some (.int v1), none]) X 2 dX9_readWitness_22 rfl (Nat.le_of_ble_eq_true rfl) rfl ?_
    refine j_aload_n X 0 dX9_readWitness_23 rfl rfl ?_
    obtain ⟨σ4, hm5, h⟩ := jbv_some h
    refine j_callV (as := []) (st := []) (st1 := []) X ln_13 ly_13 rfl rfl sv_RX9_27 ⟨by decide, by decide⟩ rfl rfl (Nat.le_of_ble_eq_true rfl) rfl dX9_readWitness_24 jrv_v (c_X9_take  hm5) rfl ?_
    refine j_aload_n X 0 dX9_readWitness_27 rfl rfl ?_
    refine j_iconst (v := 0) X dX9_readWitness_28 (by decide) ?_
    refine j_bipush (v := 60) X dX9_readWitness_29 (by decide) ?_
    obtain ⟨v6, σ7, hm8, h⟩ := jbd_some h
    refine j_callV (as := [.int (0 : Int32), .int (60 : Int32)]) (st := []) (st1 := [.int v6]) X ln_13 ly_13 rfl rfl sv_RX9_58 ⟨by decide, by decide⟩ rfl rfl (Nat.le_of_ble_eq_true rfl) rfl dX9_readWitness_31 jrv_i (c_X9_isNumber  hm8) rfl ?_
    refine j_if_ne (tgt := 39) X dX9_readWitness_34 (by decide) h (fun h => ?_) (fun h => ?_)
    · refine j_aload_n X 0 dX9_readWitness_39 rfl rfl ?_
      refine j_getI X fg_RX9_62 ln_13 ly_13 rfl dX9_readWitness_40 ?_
      refine j_letI h (fun v9 h => ?_)
      refine j_istore_n (ls' := [some (.ref 13), some (.ref a0), some (.int v1), some (.int v9)]) X 3 dX9_readWitness_43 rfl (Nat.le_of_ble_eq_true rfl) rfl ?_
      refine j_aload_n X 0 dX9_readWitness_44 rfl rfl ?_
      obtain ⟨σ10, hm11, h⟩ := jbv_some h
      refine j_callV (as := []) (st := []) (st1 := []) X ln_13 ly_13 rfl rfl sv_RX9_27 ⟨by decide, by decide⟩ rfl rfl (Nat.le_of_ble_eq_true rfl) rfl dX9_readWitness_45 jrv_v (c_X9_take  hm11) rfl ?_
      refine j_aload_n X 0 dX9_readWitness_48 rfl rfl ?_
      refine j_bipush (v := 44) X dX9_readWitness_49 (by decide) ?_
      obtain ⟨v12, σ13, hm14, h⟩ := jbd_some h
      refine j_callV (as := [.int (44 : Int32)]) (st := []) (st1 := [.int v12]) X ln_13 ly_13 rfl rfl sv_RX9_55 ⟨by decide, by decide⟩ rfl rfl (Nat.le_of_ble_eq_true rfl) rfl dX9_readWitness_51 jrv_i (c_X9_takes  hm14) rfl ?_
      refine j_if_eq (tgt := 67) X dX9_readWitness_54 (by decide) h (fun h => ?_) (fun h => ?_)
      · refine j_iconst (v := 0) X dX9_readWitness_67 (by decide) ?_
        obtain ⟨rfl, rfl⟩ := jin2 h
        exact j_zret X R0 rfl dX9_readWitness_68
      · refine j_aload_n X 0 dX9_readWitness_57 rfl rfl ?_
        refine j_iconst (v := 0) X dX9_readWitness_58 (by decide) ?_
        refine j_bipush (v := 7) X dX9_readWitness_59 (by decide) ?_
        obtain ⟨v15, σ16, hm17, h⟩ := jbd_some h
        refine j_callV (as := [.int (0 : Int32), .int (7 : Int32)]) (st := []) (st1 := [.int v15]) X ln_13 ly_13 rfl rfl sv_RX9_58 ⟨by decide, by decide⟩ rfl rfl (Nat.le_of_ble_eq_true rfl) rfl dX9_readWitness_61 jrv_i (c_X9_isNumber  hm17) rfl ?_
        refine j_if_ne (tgt := 69) X dX9_readWitness_64 (by decide) h (fun h => ?_) (fun h => ?_)
        · refine j_aload_n X 1 dX9_readWitness_69 rfl rfl ?_
          refine j_iload_n X 2 dX9_readWitness_70 rfl rfl ?_
          refine j_iload_n X 3 dX9_readWitness_71 rfl rfl ?_
          refine j_aload_n X 0 dX9_readWitness_72 rfl rfl ?_
          refine j_getI X fg_RX9_62 ln_13 ly_13 rfl dX9_readWitness_73 ?_
          obtain ⟨σ18, hm19, h⟩ := jbv_some h
          refine j_callV (as := [.int v1, .int v9, .int (σ16.1 13 6)]) (st := []) (st1 := []) X (jp_lt ha0) (jp_ly ha0) rfl rfl sv_RX9_84 ⟨by decide, by decide⟩ rfl rfl (Nat.le_of_ble_eq_true rfl) rfl dX9_readWitness_76 jrv_v (c_X5_addWitness ha0 hm19) rfl ?_
          refine j_aload_n X 0 dX9_readWitness_79 rfl rfl ?_
          obtain ⟨σ20, hm21, h⟩ := jbv_some h
          refine j_callV (as := []) (st := []) (st1 := []) X ln_13 ly_13 rfl rfl sv_RX9_27 ⟨by decide, by decide⟩ rfl rfl (Nat.le_of_ble_eq_true rfl) rfl dX9_readWitness_80 jrv_v (c_X9_take  hm21) rfl ?_
          refine j_aload_n X 0 dX9_readWitness_83 rfl rfl ?_
          refine j_bipush (v := 59) X dX9_readWitness_84 (by decide) ?_
          obtain ⟨v22, σ23, hm24, h⟩ := jbd_some h
          refine j_callV (as := [.int (59 : Int32)]) (st := []) (st1 := [.int v22]) X ln_13 ly_13 rfl rfl sv_RX9_55 ⟨by decide, by decide⟩ rfl rfl (Nat.le_of_ble_eq_true rfl) rfl dX9_readWitness_86 jrv_i (c_X9_takes  hm24) rfl ?_
          obtain ⟨hc25, h⟩ := jck_some h
          obtain ⟨rfl, rfl⟩ := jin2 h
          exact j_zret X R0 hc25 dX9_readWitness_89
        · refine j_iconst (v := 0) X dX9_readWitness_67 (by decide) ?_
          obtain ⟨rfl, rfl⟩ := jin2 h
          exact j_zret X R0 rfl dX9_readWitness_68
    · refine j_iconst (v := 0) X dX9_readWitness_37 (by decide) ?_
      obtain ⟨rfl, rfl⟩ := jin2 h
      exact j_zret X R0 rfl dX9_readWitness_38
  · refine j_aload_n X 0 dX9_readWitness_9 rfl rfl ?_
    refine j_iconst (v := 3) X dX9_readWitness_10 (by decide) ?_
    obtain ⟨v26, σ27, hm28, h⟩ := jbd_some h
    refine j_callV (as := [.int (3 : Int32)]) (st := []) (st1 := [.int v26]) X ln_13 ly_13 rfl rfl sv_RX9_47 ⟨by decide, by decide⟩ rfl rfl (Nat.le_of_ble_eq_true rfl) rfl dX9_readWitness_11 jrv_i (c_X9_fails  hm28) rfl ?_
    obtain ⟨hc29, h⟩ := jck_some h
    obtain ⟨rfl, rfl⟩ := jin2 h
    exact j_zret X R0 hc29 dX9_readWitness_14
