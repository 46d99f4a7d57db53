def vf_X10_mark (w : Nat)  (σ : jMem) : Option (Int32 × jMem) :=
  if w = 16 then f_X10_mark 16  σ else
  if w = 17 then f_X4_mark 17  σ else
  if w = 18 then f_X1_mark 18  σ else
  if w = 19 then f_X3_mark 19  σ else
  if w = 20 then f_X8_mark 20  σ else
  if w = 21 then f_X8_mark 21  σ else
  none
theorem su_RX11_334_16 : jSiU RX11 334 RX10 yX10_mark yX10_mark cX10_mark 2 (some .int) 1 := ⟨tw_826, tw_1284, tw_810, ⟨_, _, _, tw_811⟩, tw_1293, tw_810, tw_4, tw_811, by decide, by decide, by decide +kernel⟩
theorem su_RX11_334_17 : jSiU RX11 334 RX4 yX10_mark yX4_mark cX4_mark 2 (some .int) 1 := ⟨tw_826, tw_1284, tw_810, ⟨_, _, _, tw_811⟩, tw_1288, tw_796, tw_5, tw_808, by decide, by decide, by decide +kernel⟩
theorem su_RX11_334_18 : jSiU RX11 334 RX1 yX10_mark yX1_mark cX1_mark 2 (some .int) 1 := ⟨tw_826, tw_1284, tw_810, ⟨_, _, _, tw_811⟩, tw_1286, tw_800, tw_6, tw_801, by decide, by decide, by decide +kernel⟩
theorem su_RX11_334_19 : jSiU RX11 334 RX3 yX10_mark yX3_mark cX3_mark 2 (some .int) 1 := ⟨tw_826, tw_1284, tw_810, ⟨_, _, _, tw_811⟩, tw_1287, tw_804, tw_7, tw_805, by decide, by decide, by decide +kernel⟩
theorem su_RX11_334_20 : jSiU RX11 334 RX8 yX10_mark yX8_mark cX8_mark 3 (some .int) 1 := ⟨tw_826, tw_1284, tw_810, ⟨_, _, _, tw_811⟩, tw_1292, tw_827, tw_8, tw_828, by decide, by decide, by decide +kernel⟩
theorem su_RX11_334_21 : jSiU RX11 334 RX7 yX10_mark yX8_mark cX8_mark 3 (some .int) 1 := ⟨tw_826, tw_1284, tw_810, ⟨_, _, _, tw_811⟩, tw_1289, tw_827, tw_8, tw_828, by decide, by decide, by decide +kernel⟩
set_option maxRecDepth 100000 in
theorem vs_X11_ask_106 {K : jK} (X : JX K cX11_ask 4 RX11 6 127) {w : Nat} (hw : 16 ≤ w ∧ w ≤ 21)   {ls : List (Option Value)} {st : List Value} {σ σ' : jMem} {v : Int32} (hnl : ls.length = 4) (h8 : (st.map fun v => v.category).sum ≤ 8) (hm : vf_X10_mark w  σ = some (v, σ')) (kk : J K (106 + 3) ls (.int v :: st) σ') : J K 106 ls (.ref 86 :: .ref w :: st) σ := by
  rcases (show w = 16 ∨ w = 17 ∨ w = 18 ∨ w = 19 ∨ w = 20 ∨ w = 21 by omega) with rfl | rfl | rfl | rfl | rfl | rfl
  · exact j_callU (as := [.ref 86]) (st := st) (st1 := .int v :: st) X ln_16 ly_16 rfl su_RX11_334_16 ⟨by decide, by decide⟩ rfl rfl h8 hnl dX11_ask_106 jrv_i (c_X10_mark (by decide)  hm) rfl kk
  · exact j_callU (as := [.ref 86]) (st := st) (st1 := .int v :: st) X ln_17 ly_17 rfl su_RX11_334_17 ⟨by decide, by decide⟩ rfl rfl h8 hnl dX11_ask_106 jrv_i (c_X4_mark (by decide)  hm) rfl kk
  · exact j_callU (as := [.ref 86]) (st := st) (st1 := .int v :: st) X ln_18 ly_18 rfl su_RX11_334_18 ⟨by decide, by decide⟩ rfl rfl h8 hnl dX11_ask_106 jrv_i (c_X1_mark (by decide)  hm) rfl kk
  · exact j_callU (as := [.ref 86]) (st := st) (st1 := .int v :: st) X ln_19 ly_19 rfl su_RX11_334_19 ⟨by decide, by decide⟩ rfl rfl h8 hnl dX11_ask_106 jrv_i (c_X3_mark (by decide)  hm) rfl kk
  · exact j_callU (as := [.ref 86]) (st := st) (st1 := .int v :: st) X ln_20 ly_20 rfl su_RX11_334_20 ⟨by decide, by decide⟩ rfl rfl h8 hnl dX11_ask_106 jrv_i (c_X8_mark (by decide)  hm) rfl kk
  · exact j_callU (as := [.ref 86]) (st := st) (st1 := .int v :: st) X ln_21 ly_21 rfl su_RX11_334_21 ⟨by decide, by decide⟩ rfl rfl h8 hnl dX11_ask_106 jrv_i (c_X8_mark (by decide)  hm) rfl kk
def vf_X10_size (w : Nat)  (σ : jMem) : Option (Int32 × jMem) :=
  if w = 16 then f_X10_size 16  σ else
  if w = 17 then f_X4_size 17  σ else
  if w = 18 then f_X1_size 18  σ else
  if w = 19 then f_X4_size 19  σ else
  if w = 20 then f_X8_size 20  σ else
  if w = 21 then f_X7_size 21  σ else
  none
theorem su_RX11_331_16 : jSiU RX11 331 RX10 yX10_size yX10_size cX10_size 2 (some .int) 1 := ⟨tw_779, tw_782, tw_780, ⟨_, _, _, tw_825⟩, tw_781, tw_780, tw_4, tw_825, by decide, by decide, by decide +kernel⟩
theorem su_RX11_331_17 : jSiU RX11 331 RX4 yX10_size yX4_size cX4_size 3 (some .int) 1 := ⟨tw_779, tw_782, tw_780, ⟨_, _, _, tw_825⟩, tw_814, tw_791, tw_5, tw_792, by decide, by decide, by decide +kernel⟩
theorem su_RX11_331_18 : jSiU RX11 331 RX1 yX10_size yX1_size cX1_size 2 (some .int) 1 := ⟨tw_779, tw_782, tw_780, ⟨_, _, _, tw_825⟩, tw_783, tw_784, tw_6, tw_785, by decide, by decide, by decide +kernel⟩
theorem su_RX11_331_19 : jSiU RX11 331 RX3 yX10_size yX4_size cX4_size 3 (some .int) 1 := ⟨tw_779, tw_782, tw_780, ⟨_, _, _, tw_825⟩, tw_813, tw_791, tw_5, tw_792, by decide, by decide, by decide +kernel⟩
theorem su_RX11_331_20 : jSiU RX11 331 RX8 yX10_size yX8_size cX8_size 2 (some .int) 1 := ⟨tw_779, tw_782, tw_780, ⟨_, _, _, tw_825⟩, tw_824, tw_820, tw_8, tw_821, by decide, by decide, by decide +kernel⟩
theorem su_RX11_331_21 : jSiU RX11 331 RX7 yX10_size yX7_size cX7_size 2 (some .int) 1 := ⟨tw_779, tw_782, tw_780, ⟨_, _, _, tw_825⟩, tw_815, tw_816, tw_9, tw_817, by decide, by decide, by decide +kernel⟩
set_option maxRecDepth 100000 in
theorem vs_X11_ask_95 {K : jK} (X : JX K cX11_ask 4 RX11 6 127) {w : Nat} (hw : 16 ≤ w ∧ w ≤ 21)   {ls : List (Option Value)} {st : List Value} {σ σ' : jMem} {v : Int32} (hnl : ls.length = 4) (h8 : (st.map fun v => v.category).sum ≤ 8) (hm : vf_X10_size w  σ = some (v, σ')) (kk : J K (95 + 3) ls (.int v :: st) σ') : J K 95 ls (.ref 86 :: .ref w :: st) σ := by
  rcases (show w = 16 ∨ w = 17 ∨ w = 18 ∨ w = 19 ∨ w = 20 ∨ w = 21 by omega) with rfl | rfl | rfl | rfl | rfl | rfl
  · exact j_callU (as := [.ref 86]) (st := st) (st1 := .int v :: st) X ln_16 ly_16 rfl su_RX11_331_16 ⟨by decide, by decide⟩ rfl rfl h8 hnl dX11_ask_95 jrv_i (c_X10_size (by decide)  hm) rfl kk
  · exact j_callU (as := [.ref 86]) (st := st) (st1 := .int v :: st) X ln_17 ly_17 rfl su_RX11_331_17 ⟨by decide, by decide⟩ rfl rfl h8 hnl dX11_ask_95 jrv_i (c_X4_size (by decide)  hm) rfl kk
  · exact j_callU (as := [.ref 86]) (st := st) (st1 := .int v :: st) X ln_18 ly_18 rfl su_RX11_331_18 ⟨by decide, by decide⟩ rfl rfl h8 hnl dX11_ask_95 jrv_i (c_X1_size (by decide)  hm) rfl kk
  · exact j_callU (as := [.ref 86]) (st := st) (st1 := .int v :: st) X ln_19 ly_19 rfl su_RX11_331_19 ⟨by decide, by decide⟩ rfl rfl h8 hnl dX11_ask_95 jrv_i (c_X4_size (by decide)  hm) rfl kk
  · exact j_callU (as := [.ref 86]) (st := st) (st1 := .int v :: st) X ln_20 ly_20 rfl su_RX11_331_20 ⟨by decide, by decide⟩ rfl rfl h8 hnl dX11_ask_95 jrv_i (c_X8_size (by decide)  hm) rfl kk
  · exact j_callU (as := [.ref 86]) (st := st) (st1 := .int v :: st) X ln_21 ly_21 rfl su_RX11_331_21 ⟨by decide, by decide⟩ rfl rfl h8 hnl dX11_ask_95 jrv_i (c_X7_size (by decide)  hm) rfl kk
def f_X11_ask (a0 : Int32) (a1 : Int32) (σ : jMem) : Option (Int32 × jMem) :=
  jbd (f_X5_hasWitness 22 a0 σ) (fun v1 σ2 =>
  if v1 = 0 then
  some (((-1000001 : Int32), σ2))
else
  jbd (f_X11_isOneOfTwo a1 σ2) (fun v4 σ5 =>
  if ¬ v4 = 0 then
  jlet (jset σ5 86 0 a0) (fun σ7 =>
  jld σ7 28 6 a0 (fun v8 =>
  jlet (jset σ7 86 1 v8) (fun σ9 =>
  jbd (f_X5_swears 22 a0 σ9) (fun v10 σ11 =>
  jbd (f_J6_bitCount_0f7a4 v10 σ11) (fun v13 σ14 =>
  jlet (jset σ14 86 2 v13) (fun σ16 =>
  jlet (jset σ16 86 3 (0 : Int32)) (fun σ17 =>
  jld σ17 26 6 a0 (fun v18 =>
  jldr 6 16 1 v18 (fun k19 =>
  if ¬ a1 = 0 then
  jbd (vf_X10_mark k19  σ17) (fun v20 σ21 =>
  some ((v20, σ21)))
else
  jbd (vf_X10_size k19  σ17) (fun v23 σ24 =>
  some ((v23, σ24))))))))))))
else
  some (((-1000001 : Int32), σ5))))
set_option maxRecDepth 100000 in
set_option maxHeartbeats 4000000 in
theorem c_X11_ask {l : Launch} {D : va_G} {ad : Nat → Nat} {cid : Nat → ClassId} {a0 : Int32} {a1 : Int32}  {σ : jMem} {r : Int32} {σ' : jMem} (h : f_X11_ask a0 a1 σ = some (r, σ')) : jMet l D ad cid yX11_ask cX11_ask 4 (some .int) 6 127 [.ref 0, .int a0, .int a1] σ (some (.int r)) σ' := by
  refine jMet_of (ls0 := [some (.ref 0), some (.int a0), some (.int a1), none]) (by decide) (Nat.le_of_ble_eq_true rfl) rfl (fun K X R0 _ => ?_)
  unfold f_X11_ask at h
  refine j_aload_n X 0 dX11_ask_0 rfl rfl ?_
  refine j_getR (t := 22) X fg_RX11_50 ln_0 ly_0 rfl dX11_ask_1 ?_
  refine j_iload_n X 1 dX11_ask_4 rfl rfl ?_
  obtain ⟨v1, σ2, hm3, h⟩ := jbd_some h
  refine j_callV (as := [.int a0]) (st := []) (st1 := [.int v1]) X ln_22 ly_22 rfl rfl sv_RX11_214 ⟨by decide, by decide⟩ rfl rfl (Nat.le_of_ble_eq_true rfl) rfl dX11_ask_5 jrv_i (c_X5_hasWitness jisP_22 hm3) rfl ?_
  refine j_if_eq (tgt := 18) X dX11_ask_8 (by decide) h (fun h => ?_) (fun h => ?_)
  · refine j_ldc (v := -1000001) X tw_318 dX11_ask_18 ?_
    obtain ⟨rfl, rfl⟩ := jin2 h
    exact j_iret X R0 dX11_ask_20
  · refine j_iload_n X 2 dX11_ask_11 rfl rfl ?_
    obtain ⟨v4, σ5, hm6, h⟩ := jbd_some h
    refine j_callS (as := [.int a1]) (st := []) (st1 := [.int v4]) X ss_RX11_204 ⟨by decide, by decide⟩ rfl rfl (Nat.le_of_ble_eq_true rfl) rfl dX11_ask_12 jrv_i (c_X11_isOneOfTwo  hm6) rfl ?_
    refine j_if_ne (tgt := 21) X dX11_ask_15 (by decide) h (fun h => ?_) (fun h => ?_)
    · refine j_aload_n X 0 dX11_ask_21 rfl rfl ?_
      refine j_getR (t := 86) X fg_RX11_76 ln_0 ly_0 rfl dX11_ask_22 ?_
      refine j_iload_n X 1 dX11_ask_25 rfl rfl ?_
      refine j_put X fp_RX11_320 ln_86 ly_86 rfl rfl rfl dX11_ask_26 h (fun σ7 h => ?_)
      refine j_aload_n X 0 dX11_ask_29 rfl rfl ?_
      refine j_getR (t := 86) X fg_RX11_76 ln_0 ly_0 rfl dX11_ask_30 ?_
      refine j_aload_n X 0 dX11_ask_33 rfl rfl ?_
      refine j_getR (t := 22) X fg_RX11_50 ln_0 ly_0 rfl dX11_ask_34 ?_
      refine j_getR (t := 28) X fg_RX11_220 ln_22 ly_22 rfl dX11_ask_37 ?_
      refine j_iload_n X 1 dX11_ask_40 rfl rfl ?_
      refine j_iaload X ln_28 ly_28 dX11_ask_41 h (fun v8 h => ?_)
      refine j_put X fp_RX11_323 ln_86 ly_86 rfl rfl rfl dX11_ask_42 h (fun σ9 h => ?_)
      refine j_aload_n X 0 dX11_ask_45 rfl rfl ?_
      refine j_getR (t := 86) X fg_RX11_76 ln_0 ly_0 rfl dX11_ask_46 ?_
      refine j_aload_n X 0 dX11_ask_49 rfl rfl ?_
      refine j_getR (t := 22) X fg_RX11_50 ln_0 ly_0 rfl dX11_ask_50 ?_
      refine j_iload_n X 1 dX11_ask_53 rfl rfl ?_
      obtain ⟨v10, σ11, hm12, h⟩ := jbd_some h
      refine j_callV (as := [.int a0]) (st := [.ref 86]) (st1 := [.int v10, .ref 86]) X ln_22 ly_22 rfl rfl sv_RX11_229 ⟨by decide, by decide⟩ rfl rfl (Nat.le_of_ble_eq_true rfl) rfl dX11_ask_54 jrv_i (c_X5_swears jisP_22 hm12) rfl ?_
      obtain ⟨v13, σ14, hm15, h⟩ := jbd_some h
      refine j_callS (as := [.int v10]) (st := [.ref 86]) (st1 := [.int v13, .ref 86]) X ss_RX11_265 ⟨by decide, by decide⟩ rfl rfl (Nat.le_of_ble_eq_true rfl) rfl dX11_ask_57 jrv_i (c_J6_bitCount_0f7a4  hm15) rfl ?_
      refine j_put X fp_RX11_326 ln_86 ly_86 rfl rfl rfl dX11_ask_60 h (fun σ16 h => ?_)
      refine j_aload_n X 0 dX11_ask_63 rfl rfl ?_
      refine j_getR (t := 86) X fg_RX11_76 ln_0 ly_0 rfl dX11_ask_64 ?_
      refine j_iconst (v := 0) X dX11_ask_67 (by decide) ?_
      refine j_put X fp_RX11_328 ln_86 ly_86 rfl rfl rfl dX11_ask_68 h (fun σ17 h => ?_)
      refine j_aload_n X 0 dX11_ask_71 rfl rfl ?_
      refine j_getR (t := 15) X fg_RX11_25 ln_0 ly_0 rfl dX11_ask_72 ?_
      refine j_aload_n X 0 dX11_ask_75 rfl rfl ?_
      refine j_getR (t := 22) X fg_RX11_50 ln_0 ly_0 rfl dX11_ask_76 ?_
      refine j_getR (t := 26) X fg_RX11_313 ln_22 ly_22 rfl dX11_ask_79 ?_
      refine j_iload_n X 1 dX11_ask_82 rfl rfl ?_
      refine j_iaload X ln_26 ly_26 dX11_ask_83 h (fun v18 h => ?_)
      refine j_aaload X ln_15 ly_15 (Or.inl rfl) dX11_ask_84 h (fun k19 qk19 h => ?_)
      have hk19 := jrow6 qk19
      refine j_astore_n (ls' := [some (.ref 0), some (.int a0), some (.int a1), some (.ref k19)]) X 3 dX11_ask_85 rfl (Nat.le_of_ble_eq_true rfl) rfl ?_
      refine j_iload_n X 2 dX11_ask_86 rfl rfl ?_
      refine j_if_ne (tgt := 101) X dX11_ask_87 (by decide) h (fun h => ?_) (fun h => ?_)
      · refine j_aload_n X 3 dX11_ask_101 rfl rfl ?_
        refine j_aload_n X 0 dX11_ask_102 rfl rfl ?_
        refine j_getR (t := 86) X fg_RX11_76 ln_0 ly_0 rfl dX11_ask_103 ?_
        obtain ⟨v20, σ21, hm22, h⟩ := jbd_some h
        refine vs_X11_ask_106 (st := []) X hk19  rfl (Nat.le_of_ble_eq_true rfl) hm22 ?_
        obtain ⟨rfl, rfl⟩ := jin2 h
        exact j_iret X R0 dX11_ask_109
      · refine j_aload_n X 3 dX11_ask_90 rfl rfl ?_
        refine j_aload_n X 0 dX11_ask_91 rfl rfl ?_
        refine j_getR (t := 86) X fg_RX11_76 ln_0 ly_0 rfl dX11_ask_92 ?_
        obtain ⟨v23, σ24, hm25, h⟩ := jbd_some h
        refine vs_X11_ask_95 (st := []) X hk19  rfl (Nat.le_of_ble_eq_true rfl) hm25 ?_
        refine j_goto (tgt := 109) X dX11_ask_98 (by decide) ?_
        obtain ⟨rfl, rfl⟩ := jin2 h
        exact j_iret X R0 dX11_ask_109
    · refine j_ldc (v := -1000001) X tw_318 dX11_ask_18 ?_
      obtain ⟨rfl, rfl⟩ := jin2 h
      exact j_iret X R0 dX11_ask_20
