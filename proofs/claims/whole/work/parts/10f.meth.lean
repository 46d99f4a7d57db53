def f_X5_become (k : Nat) (a0 : Nat) (σ : jMem) : Option jMem :=
  jck (jisb (σ.1 a0 1) = true) (
  jlet (jset σ k 1 (σ.1 a0 1)) (fun σ1 =>
  jlet (jset σ1 k 2 (σ1.1 a0 2)) (fun σ2 =>
  jlet (jset σ2 k 3 (σ2.1 a0 3)) (fun σ3 =>
  jlet (jset σ3 k 4 (σ3.1 a0 4)) (fun σ4 =>
  jlet (jset σ4 k 5 (σ4.1 a0 5)) (fun σ5 =>
  jlet (jset σ5 k 6 (σ5.1 a0 6)) (fun σ6 =>
  jlet (jset σ6 k 7 (σ6.1 a0 7)) (fun σ7 =>
  jcp σ7 (a0 + 1) 12 (0 : Int32) (k + 1) 12 (0 : Int32) (12 : Int32) (fun σ8 =>
  jcp σ8 (a0 + 2) 12 (0 : Int32) (k + 2) 12 (0 : Int32) (12 : Int32) (fun σ9 =>
  jcp σ9 (a0 + 3) 12 (0 : Int32) (k + 3) 12 (0 : Int32) (12 : Int32) (fun σ10 =>
  jcp σ10 (a0 + 4) 6 (0 : Int32) (k + 4) 6 (0 : Int32) (6 : Int32) (fun σ11 =>
  jcp σ11 (a0 + 5) 6 (0 : Int32) (k + 5) 6 (0 : Int32) (6 : Int32) (fun σ12 =>
  jcp σ12 (a0 + 6) 6 (0 : Int32) (k + 6) 6 (0 : Int32) (6 : Int32) (fun σ13 =>
  jcp σ13 (a0 + 7) 6 (0 : Int32) (k + 7) 6 (0 : Int32) (6 : Int32) (fun σ14 =>
  some σ14)))))))))))))))
set_option maxRecDepth 100000 in
set_option maxHeartbeats 4000000 in
theorem c_X5_become {l : Launch} {D : va_G} {ad : Nat → Nat} {cid : Nat → ClassId} {k : Nat} {a0 : Nat} (hk : jisP k) (ha0 : jisP a0) {σ : jMem} {σ' : jMem} (h : f_X5_become k a0 σ = some σ') : jMet l D ad cid yX5_become cX5_become 2 none 1 36 [.ref k, .ref a0] σ none σ' := by
  refine jMet_of (ls0 := [some (.ref k), some (.ref a0)]) (by decide) (Nat.le_of_ble_eq_true rfl) rfl (fun K X R0 _ => ?_)
  unfold f_X5_become at h
  refine j_aload_n X 0 dX5_become_0 rfl rfl ?_
  refine j_aload_n X 1 dX5_become_1 rfl rfl ?_
  refine j_getI X fg_RX5_50 (jp_lt ha0) (jp_ly ha0) rfl dX5_become_2 ?_
  obtain ⟨hc15, h⟩ := jck_some h
  refine j_put X fp_RX5_50 (jp_lt hk) (jp_ly hk) rfl (jisb_n hc15) (jisb_f hc15) dX5_become_5 h (fun σ1 h => ?_)
  refine j_aload_n X 0 dX5_become_8 rfl rfl ?_
  refine j_aload_n X 1 dX5_become_9 rfl rfl ?_
  refine j_getI X fg_RX5_54 (jp_lt ha0) (jp_ly ha0) rfl dX5_become_10 ?_
  refine j_put X fp_RX5_54 (jp_lt hk) (jp_ly hk) rfl rfl rfl dX5_become_13 h (fun σ2 h => ?_)
  refine j_aload_n X 0 dX5_become_16 rfl rfl ?_
  refine j_aload_n X 1 dX5_become_17 rfl rfl ?_
  refine j_getI X fg_RX5_57 (jp_lt ha0) (jp_ly ha0) rfl dX5_become_18 ?_
  refine j_put X fp_RX5_57 (jp_lt hk) (jp_ly hk) rfl rfl rfl dX5_become_21 h (fun σ3 h => ?_)
  refine j_aload_n X 0 dX5_become_24 rfl rfl ?_
  refine j_aload_n X 1 dX5_become_25 rfl rfl ?_
  refine j_getI X fg_RX5_37 (jp_lt ha0) (jp_ly ha0) rfl dX5_become_26 ?_
  refine j_put X fp_RX5_37 (jp_lt hk) (jp_ly hk) rfl rfl rfl dX5_become_29 h (fun σ4 h => ?_)
  refine j_aload_n X 0 dX5_become_32 rfl rfl ?_
  refine j_aload_n X 1 dX5_become_33 rfl rfl ?_
  refine j_getI X fg_RX5_41 (jp_lt ha0) (jp_ly ha0) rfl dX5_become_34 ?_
  refine j_put X fp_RX5_41 (jp_lt hk) (jp_ly hk) rfl rfl rfl dX5_become_37 h (fun σ5 h => ?_)
  refine j_aload_n X 0 dX5_become_40 rfl rfl ?_
  refine j_aload_n X 1 dX5_become_41 rfl rfl ?_
  refine j_getI X fg_RX5_44 (jp_lt ha0) (jp_ly ha0) rfl dX5_become_42 ?_
  refine j_put X fp_RX5_44 (jp_lt hk) (jp_ly hk) rfl rfl rfl dX5_become_45 h (fun σ6 h => ?_)
  refine j_aload_n X 0 dX5_become_48 rfl rfl ?_
  refine j_aload_n X 1 dX5_become_49 rfl rfl ?_
  refine j_getI X fg_RX5_47 (jp_lt ha0) (jp_ly ha0) rfl dX5_become_50 ?_
  refine j_put X fp_RX5_47 (jp_lt hk) (jp_ly hk) rfl rfl rfl dX5_become_53 h (fun σ7 h => ?_)
  refine j_aload_n X 1 dX5_become_56 rfl rfl ?_
  refine j_getR (t := (a0 + 1)) X fg_RX5_15 (jp_lt ha0) (jp_ly ha0) rfl dX5_become_57 ?_
  refine j_iconst (v := 0) X dX5_become_60 (by decide) ?_
  refine j_aload_n X 0 dX5_become_61 rfl rfl ?_
  refine j_getR (t := (k + 1)) X fg_RX5_15 (jp_lt hk) (jp_ly hk) rfl dX5_become_62 ?_
  refine j_iconst (v := 0) X dX5_become_65 (by decide) ?_
  refine j_bipush (v := 12) X dX5_become_66 (by decide) ?_
  refine j_copy X tw_445 tw_360 tw_359 tw_14 rfl (jp_lt1 ha0) (jp_ly1 ha0) (jp_lt1 hk) (jp_ly1 hk) (Nat.le_of_ble_eq_true rfl) (Nat.le_of_ble_eq_true rfl) dX5_become_68 h (fun σ8 h => ?_)
  refine j_aload_n X 1 dX5_become_71 rfl rfl ?_
  refine j_getR (t := (a0 + 2)) X fg_RX5_19 (jp_lt ha0) (jp_ly ha0) rfl dX5_become_72 ?_
  refine j_iconst (v := 0) X dX5_become_75 (by decide) ?_
  refine j_aload_n X 0 dX5_become_76 rfl rfl ?_
  refine j_getR (t := (k + 2)) X fg_RX5_19 (jp_lt hk) (jp_ly hk) rfl dX5_become_77 ?_
  refine j_iconst (v := 0) X dX5_become_80 (by decide) ?_
  refine j_bipush (v := 12) X dX5_become_81 (by decide) ?_
  refine j_copy X tw_445 tw_360 tw_359 tw_14 rfl (jp_lt2 ha0) (jp_ly2 ha0) (jp_lt2 hk) (jp_ly2 hk) (Nat.le_of_ble_eq_true rfl) (Nat.le_of_ble_eq_true rfl) dX5_become_83 h (fun σ9 h => ?_)
  refine j_aload_n X 1 dX5_become_86 rfl rfl ?_
  refine j_getR (t := (a0 + 3)) X fg_RX5_22 (jp_lt ha0) (jp_ly ha0) rfl dX5_become_87 ?_
  refine j_iconst (v := 0) X dX5_become_90 (by decide) ?_
  refine j_aload_n X 0 dX5_become_91 rfl rfl ?_
  refine j_getR (t := (k + 3)) X fg_RX5_22 (jp_lt hk) (jp_ly hk) rfl dX5_become_92 ?_
  refine j_iconst (v := 0) X dX5_become_95 (by decide) ?_
  refine j_bipush (v := 12) X dX5_become_96 (by decide) ?_
  refine j_copy X tw_445 tw_360 tw_359 tw_14 rfl (jp_lt3 ha0) (jp_ly3 ha0) (jp_lt3 hk) (jp_ly3 hk) (Nat.le_of_ble_eq_true rfl) (Nat.le_of_ble_eq_true rfl) dX5_become_98 h (fun σ10 h => ?_)
  refine j_aload_n X 1 dX5_become_101 rfl rfl ?_
  refine j_getR (t := (a0 + 4)) X fg_RX5_25 (jp_lt ha0) (jp_ly ha0) rfl dX5_become_102 ?_
  refine j_iconst (v := 0) X dX5_become_105 (by decide) ?_
  refine j_aload_n X 0 dX5_become_106 rfl rfl ?_
  refine j_getR (t := (k + 4)) X fg_RX5_25 (jp_lt hk) (jp_ly hk) rfl dX5_become_107 ?_
  refine j_iconst (v := 0) X dX5_become_110 (by decide) ?_
  refine j_bipush (v := 6) X dX5_become_111 (by decide) ?_
  refine j_copy X tw_445 tw_360 tw_359 tw_14 rfl (jp_lt4 ha0) (jp_ly4 ha0) (jp_lt4 hk) (jp_ly4 hk) (Nat.le_of_ble_eq_true rfl) (Nat.le_of_ble_eq_true rfl) dX5_become_113 h (fun σ11 h => ?_)
  refine j_aload_n X 1 dX5_become_116 rfl rfl ?_
  refine j_getR (t := (a0 + 5)) X fg_RX5_28 (jp_lt ha0) (jp_ly ha0) rfl dX5_become_117 ?_
  refine j_iconst (v := 0) X dX5_become_120 (by decide) ?_
  refine j_aload_n X 0 dX5_become_121 rfl rfl ?_
  refine j_getR (t := (k + 5)) X fg_RX5_28 (jp_lt hk) (jp_ly hk) rfl dX5_become_122 ?_
  refine j_iconst (v := 0) X dX5_become_125 (by decide) ?_
  refine j_bipush (v := 6) X dX5_become_126 (by decide) ?_
  refine j_copy X tw_445 tw_360 tw_359 tw_14 rfl (jp_lt5 ha0) (jp_ly5 ha0) (jp_lt5 hk) (jp_ly5 hk) (Nat.le_of_ble_eq_true rfl) (Nat.le_of_ble_eq_true rfl) dX5_become_128 h (fun σ12 h => ?_)
  refine j_aload_n X 1 dX5_become_131 rfl rfl ?_
  refine j_getR (t := (a0 + 6)) X fg_RX5_31 (jp_lt ha0) (jp_ly ha0) rfl dX5_become_132 ?_
  refine j_iconst (v := 0) X dX5_become_135 (by decide) ?_
  refine j_aload_n X 0 dX5_become_136 rfl rfl ?_
  refine j_getR (t := (k + 6)) X fg_RX5_31 (jp_lt hk) (jp_ly hk) rfl dX5_become_137 ?_
  refine j_iconst (v := 0) X dX5_become_140 (by decide) ?_
  refine j_bipush (v := 6) X dX5_become_141 (by decide) ?_
  refine j_copy X tw_445 tw_360 tw_359 tw_14 rfl (jp_lt6 ha0) (jp_ly6 ha0) (jp_lt6 hk) (jp_ly6 hk) (Nat.le_of_ble_eq_true rfl) (Nat.le_of_ble_eq_true rfl) dX5_become_143 h (fun σ13 h => ?_)
  refine j_aload_n X 1 dX5_become_146 rfl rfl ?_
  refine j_getR (t := (a0 + 7)) X fg_RX5_34 (jp_lt ha0) (jp_ly ha0) rfl dX5_become_147 ?_
  refine j_iconst (v := 0) X dX5_become_150 (by decide) ?_
  refine j_aload_n X 0 dX5_become_151 rfl rfl ?_
  refine j_getR (t := (k + 7)) X fg_RX5_34 (jp_lt hk) (jp_ly hk) rfl dX5_become_152 ?_
  refine j_iconst (v := 0) X dX5_become_155 (by decide) ?_
  refine j_bipush (v := 6) X dX5_become_156 (by decide) ?_
  refine j_copy X tw_445 tw_360 tw_359 tw_14 rfl (jp_lt7 ha0) (jp_ly7 ha0) (jp_lt7 hk) (jp_ly7 hk) (Nat.le_of_ble_eq_true rfl) (Nat.le_of_ble_eq_true rfl) dX5_become_158 h (fun σ14 h => ?_)
  obtain rfl := Option.some.inj h
  exact j_vret X R0 dX5_become_161
def f_X9_fails (a0 : Int32) (σ : jMem) : Option (Int32 × jMem) :=
  jlet (jset σ 13 2 a0) (fun σ1 =>
  jlet (jset σ1 13 3 (σ1.1 13 4)) (fun σ2 =>
  some (((0 : Int32), σ2))))
set_option maxRecDepth 100000 in
set_option maxHeartbeats 4000000 in
theorem c_X9_fails {l : Launch} {D : va_G} {ad : Nat → Nat} {cid : Nat → ClassId} {a0 : Int32}  {σ : jMem} {r : Int32} {σ' : jMem} (h : f_X9_fails a0 σ = some (r, σ')) : jMet l D ad cid yX9_fails cX9_fails 2 (some .boolean) 0 0 [.ref 13, .int a0] σ (some (.int r)) σ' := by
  refine jMet_of (ls0 := [some (.ref 13), some (.int a0)]) (by decide) (Nat.le_of_ble_eq_true rfl) rfl (fun K X R0 _ => ?_)
  unfold f_X9_fails at h
  refine j_aload_n X 0 dX9_fails_0 rfl rfl ?_
  refine j_iload_n X 1 dX9_fails_1 rfl rfl ?_
  refine j_put X fp_RX9_87 ln_13 ly_13 rfl rfl rfl dX9_fails_2 h (fun σ1 h => ?_)
  refine j_aload_n X 0 dX9_fails_5 rfl rfl ?_
  refine j_aload_n X 0 dX9_fails_6 rfl rfl ?_
  refine j_getI X fg_RX9_90 ln_13 ly_13 rfl dX9_fails_7 ?_
  refine j_put X fp_RX9_93 ln_13 ly_13 rfl rfl rfl dX9_fails_10 h (fun σ2 h => ?_)
  refine j_iconst (v := 0) X dX9_fails_13 (by decide) ?_
  obtain ⟨rfl, rfl⟩ := jin2 h
  exact j_zret X R0 rfl dX9_fails_14
def f_X9_isFigure (a0 : Int32) (σ : jMem) : Option (Int32 × jMem) :=
  if a0 < (48 : Int32) then
  some (((0 : Int32), σ))
else
  if (57 : Int32) < a0 then
  some (((0 : Int32), σ))
else
  some (((1 : Int32), σ))
set_option maxRecDepth 100000 in
set_option maxHeartbeats 4000000 in
theorem c_X9_isFigure {l : Launch} {D : va_G} {ad : Nat → Nat} {cid : Nat → ClassId} {a0 : Int32}  {σ : jMem} {r : Int32} {σ' : jMem} (h : f_X9_isFigure a0 σ = some (r, σ')) : jMet l D ad cid yX9_isFigure cX9_isFigure 1 (some .boolean) 0 0 [.int a0] σ (some (.int r)) σ' := by
  refine jMet_of (ls0 := [some (.int a0)]) (by decide) (Nat.le_of_ble_eq_true rfl) rfl (fun K X R0 _ => ?_)
  unfold f_X9_isFigure at h
  refine j_iload_n X 0 dX9_isFigure_0 rfl rfl ?_
  refine j_bipush (v := 48) X dX9_isFigure_1 (by decide) ?_
  refine j_icmp_lt (tgt := 16) X dX9_isFigure_3 (by decide) h (fun h => ?_) (fun h => ?_)
  · refine j_iconst (v := 0) X dX9_isFigure_16 (by decide) ?_
    obtain ⟨rfl, rfl⟩ := jin2 h
    exact j_zret X R0 rfl dX9_isFigure_17
  · refine j_iload_n X 0 dX9_isFigure_6 rfl rfl ?_
    refine j_bipush (v := 57) X dX9_isFigure_7 (by decide) ?_
    refine j_icmp_gt (tgt := 16) X dX9_isFigure_9 (by decide) h (fun h => ?_) (fun h => ?_)
    · refine j_iconst (v := 0) X dX9_isFigure_16 (by decide) ?_
      obtain ⟨rfl, rfl⟩ := jin2 h
      exact j_zret X R0 rfl dX9_isFigure_17
    · refine j_iconst (v := 1) X dX9_isFigure_12 (by decide) ?_
      refine j_goto (tgt := 17) X dX9_isFigure_13 (by decide) ?_
      obtain ⟨rfl, rfl⟩ := jin2 h
      exact j_zret X R0 rfl dX9_isFigure_17
