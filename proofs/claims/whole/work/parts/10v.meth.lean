def vf_X10_mark (w : Nat)  (σ : jMem) : Option (Int32 × jMem) :=
  if w = 16 then f_X10_mark 16  σ else
  if w = 17 then f_X4_mark 17  σ else
  if w = 18 then f_X1_mark 18  σ else
  if w = 19 then f_X3_mark 19  σ else
  if w = 20 then f_X8_mark 20  σ else
  if w = 21 then f_X8_mark 21  σ else
  none
theorem su_RX11_334_16 : jSiU RX11 334 RX10 yX10_mark yX10_mark cX10_mark 2 (some .int) 1 := ⟨tw_826, tw_1284, tw_810, ⟨_, _, _, tw_811⟩, tw_1293, tw_810, tw_4, tw_811, by decide, by decide, by decide +kernel⟩
theorem su_RX11_334_17 : jSiU RX11 334 RX4 yX10_mark yX4_mark cX4_mark 2 (some .int) 1 := ⟨tw_826, tw_1284, tw_810, ⟨_, _, _, tw_811⟩, tw_1288, tw_796, tw_5, tw_808, by decide, by decide, by decide +kernel⟩
theorem su_RX11_334_18 : jSiU RX11 334 RX1 yX10_mark yX1_mark cX1_mark 2 (some .int) 1 := ⟨tw_826, tw_1284, tw_810, ⟨_, _, _, tw_811⟩, tw_1286, tw_800, tw_6, tw_801, by decide, by decide, by decide +kernel⟩
theorem su_RX11_334_19 : jSiU RX11 334 RX3 yX10_mark yX3_mark cX3_mark 2 (some .int) 1 := ⟨tw_826, tw_1284, tw_810, ⟨_, _, _, tw_811⟩, tw_1287, tw_804, tw_7, tw_805, by decide, by decide, by decide +kernel⟩
theorem su_RX11_334_20 : jSiU RX11 334 RX8 yX10_mark yX8_mark cX8_mark 3 (some .int) 1 := ⟨tw_826, tw_1284, tw_810, ⟨_, _, _, tw_811⟩, tw_1292, tw_827, tw_8, tw_828, by decide, by decide, by decide +kernel⟩
theorem su_RX11_334_21 : jSiU RX11 334 RX7 yX10_mark yX8_mark cX8_mark 3 (some .int) 1 := ⟨tw_826, tw_1284, tw_810, ⟨_, _, _, tw_811⟩, tw_1289, tw_827, tw_8, tw_828, by decide, by decide, by decide +kernel⟩
set_option maxRecDepth 100000 in
theorem vs_X11_ask_106 {K : jK} (X : JX K cX11_ask 4 RX11 6 127) {w : Nat} (hw : 16 ≤ w ∧ w ≤ 21)   {ls : List (Option Value)} {st : List Value} {σ σ' : jMem} {v : Int32} (hnl : ls.length = 4) (h8 : (st.map fun v => v.category).sum ≤ 8) (hm : vf_X10_mark w  σ = some (v, σ')) (kk : J K (106 + 3) ls (.int v :: st) σ') : J K 106 ls (.ref 86 :: .ref w :: st) σ := by
  rcases (show w = 16 ∨ w = 17 ∨ w = 18 ∨ w = 19 ∨ w = 20 ∨ w = 21 by omega) with rfl | rfl | rfl | rfl | rfl | rfl
  · exact j_callU (as := [.ref 86]) (st := st) (st1 := .int v :: st) X ln_16 ly_16 rfl su_RX11_334_16 ⟨by decide, by decide⟩ rfl rfl h8 hnl dX11_ask_106 jrv_i (c_X10_mark (by decide)  hm) rfl kk
  · exact j_callU (as := [.ref 86]) (st := st) (st1 := .int v :: st) X ln_17 ly_17 rfl su_RX11_334_17 ⟨by decide, by decide⟩ rfl rfl h8 hnl dX11_ask_106 jrv_i (c_X4_mark (by decide)  hm) rfl kk
  · exact j_callU (as := [.ref 86]) (st := st) (st1 := .int v :: st) X ln_18 ly_18 rfl su_RX11_334_18 ⟨by decide, by decide⟩ rfl rfl h8 hnl dX11_ask_106 jrv_i (c_X1_mark (by decide)  hm) rfl kk
  · exact j_callU (as := [.ref 86]) (st := st) (st1 := .int v :: st) X ln_19 ly_19 rfl su_RX11_334_19 ⟨by decide, by decide⟩ rfl rfl h8 hnl dX11_ask_106 jrv_i (c_X3_mark (by decide)  hm) rfl kk
  · exact j_callU (as := [.ref 86]) (st := st) (st1 := .int v :: st) X ln_20 ly_20 rfl su_RX11_334_20 ⟨by decide, by decide⟩ rfl rfl h8 hnl dX11_ask_106 jrv_i (c_X8_mark (by decide)  hm) rfl kk
  · exact j_callU (as := [.ref 86]) (st := st) (st1 := .int v :: st) X ln_21 ly_21 rfl su_RX11_334_21 ⟨by decide, by decide⟩ rfl rfl h8 hnl dX11_ask_106 jrv_i (c_X8_mark (by decide)  hm) rfl kk
def vf_X10_size (w : Nat)  (σ : jMem) : Option (Int32 × jMem) :=
  if w = 16 then f_X10_size 16  σ else
  if w = 17 then f_X4_size 17  σ else
  if w = 18 then f_X1_size 18  σ else
  if w = 19 then f_X4_size 19  σ else
  if w = 20 then f_X8_size 20  σ else
  if w = 21 then f_X7_size 21  σ else
  none
theorem su_RX11_331_16 : jSiU RX11 331 RX10 yX10_size yX10_size cX10_size 2 (some .int) 1 := ⟨tw_779, tw_782, tw_780, ⟨_, _, _, tw_825⟩, tw_781, tw_780, tw_4, tw_825, by decide, by decide, by decide +kernel⟩
theorem su_RX11_331_17 : jSiU RX11 331 RX4 yX10_size yX4_size cX4_size 3 (some .int) 1 := ⟨tw_779, tw_782, tw_780, ⟨_, _, _, tw_825⟩, tw_814, tw_791, tw_5, tw_792, by decide, by decide, by decide +kernel⟩
theorem su_RX11_331_18 : jSiU RX11 331 RX1 yX10_size yX1_size cX1_size 2 (some .int) 1 := ⟨tw_779, tw_782, tw_780, ⟨_, _, _, tw_825⟩, tw_783, tw_784, tw_6, tw_785, by decide, by decide, by decide +kernel⟩
theorem su_RX11_331_19 : jSiU RX11 331 RX3 yX10_size yX4_size cX4_size 3 (some .int) 1 := ⟨tw_779, tw_782, tw_780, ⟨_, _, _, tw_825⟩, tw_813, tw_791, tw_5, tw_792, by decide, by decide, by decide +kernel⟩
theorem su_RX11_331_20 : jSiU RX11 331 RX8 yX10_size yX8_size cX8_size 2 (some .int) 1 := ⟨tw_779, tw_782, tw_780, ⟨_, _, _, tw_825⟩, tw_824, tw_820, tw_8, tw_821, by decide, by decide, by decide +kernel⟩
theorem su_RX11_331_21 : jSiU RX11 331 RX7 yX10_size yX7_size cX7_size 2 (some .int) 1 := ⟨tw_779, tw_782, tw_780, ⟨_, _, _, tw_825⟩, tw_815, tw_816, tw_9, tw_817, by decide, by decide, by decide +kernel⟩
set_option maxRecDepth 100000 in
theorem vs_X11_ask_95 {K : jK} (X : JX K cX11_ask 4 RX11 6 127) {w : Nat} (hw : 16 ≤ w ∧ w ≤ 21)   {ls : List (Option Value)} {st : List Value} {σ σ' : jMem} {v : Int32} (hnl : ls.length = 4) (h8 : (st.map fun v => v.category).sum ≤ 8) (hm : vf_X10_size w  σ = some (v, σ')) (kk : J K (95 + 3) ls (.int v :: st) σ') : J K 95 ls (.ref 86 :: .ref w :: st) σ := by
  rcases (show w = 16 ∨ w = 17 ∨ w = 18 ∨ w = 19 ∨ w = 20 ∨ w = 21 by omega) with rfl | rfl | rfl | rfl | rfl | rfl
  · exact j_callU (as := [.ref 86]) (st := st) (st1 := .int v :: st) X ln_16 ly_16 rfl su_RX11_331_16 ⟨by decide, by decide⟩ rfl rfl h8 hnl dX11_ask_95 jrv_i (c_X10_size (by decide)  hm) rfl kk
  · exact j_callU (as := [.ref 86]) (st := st) (st1 := .int v :: st) X ln_17 ly_17 rfl su_RX11_331_17 ⟨by decide, by decide⟩ rfl rfl h8 hnl dX11_ask_95 jrv_i (c_X4_size (by decide)  hm) rfl kk
  · exact j_callU (as := [.ref 86]) (st := st) (st1 := .int v :: st) X ln_18 ly_18 rfl su_RX11_331_18 ⟨by decide, by decide⟩ rfl rfl h8 hnl dX11_ask_95 jrv_i (c_X1_size (by decide)  hm) rfl kk
  · exact j_callU (as := [.ref 86]) (st := st) (st1 := .int v :: st) X ln_19 ly_19 rfl su_RX11_331_19 ⟨by decide, by decide⟩ rfl rfl h8 hnl dX11_ask_95 jrv_i (c_X4_size (by decide)  hm) rfl kk
  · exact j_callU (as := [.ref 86]) (st := st) (st1 := .int v :: st) X ln_20 ly_20 rfl su_RX11_331_20 ⟨by decide, by decide⟩ rfl rfl h8 hnl dX11_ask_95 jrv_i (c_X8_size (by decide)  hm) rfl kk
  · exact j_callU (as := [.ref 86]) (st := st) (st1 := .int v :: st) X ln_21 ly_21 rfl su_RX11_331_21 ⟨by decide, by decide⟩ rfl rfl h8 hnl dX11_ask_95 jrv_i (c_X7_size (by decide)  hm) rfl kk
def f_X11_ask (a0 : Int32) (a1 : Int32) (σ : jMem) : Option (Int32 × jMem) :=
  jbd (f_X5_hasWitness 22 a0 σ) (fun v1 σ2 =>
  if v1 = 0 then
  some (((-1000001 : Int32), σ2))
else
  jbd (f_X11_isOneOfTwo a1 σ2) (fun v4 σ5 =>
  if ¬ v4 = 0 then
  jlet (jset σ5 86 0 a0) (fun σ7 =>
  jld σ7 28 6 a0 (fun v8 =>
  jlet (jset σ7 86 1 v8) (fun σ9 =>
  jbd (f_X5_swears 22 a0 σ9) (fun v10 σ11 =>
  jbd (f_J6_bitCount_0f7a4 v10 σ11) (fun v13 σ14 =>
  jlet (jset σ14 86 2 v13) (fun σ16 =>
  jlet (jset σ16 86 3 (0 : Int32)) (fun σ17 =>
  jld σ17 26 6 a0 (fun v18 =>
  jldr 6 16 1 v18 (fun k19 =>
  if ¬ a1 = 0 then
  jbd (vf_X10_mark k19  σ17) (fun v20 σ21 =>
  some ((v20, σ21)))
else
  jbd (vf_X10_size k19  σ17) (fun v23 σ24 =>
  some ((v23, σ24))))))))))))
else
  some (((-1000001 : Int32), σ5))))
set_option maxRecDepth 100000 in
set_option maxHeartbeats 4000000 in
theorem c_X11_ask {l : Launch} {D : va_G} {ad : Nat → Nat} {cid : Nat → ClassId} {a0 : Int32} {a1 : Int32}  {σ : jMem} {r : Int32} {σ' : jMem} (h : f_X11_ask a0 a1 σ = some (r, σ')) : jMet l D ad cid yX11_ask cX11_ask 4 (some .int) 6 127 [.ref 0, .int a0, .int a1] σ (some (.int r)) σ' := by
  refine jMet_of (ls0 := [some (.ref 0), some (.int a0), some (.int a1), none]) (by decide) (Nat.le_of_ble_eq_true rfl) rfl (fun K X R0 _ => ?_)
  unfold f_X11_ask at h
  refine j_aload_n X 0 dX11_ask_0 rfl rfl ?_
  refine j_getR (t := 22) X fg_RX11_50 ln_0 ly_0 rfl dX11_ask_1 ?_
  refine j_iload_n X 1 dX11_ask_4 rfl rfl ?_
  obtain ⟨v1, σ2, hm3, h⟩ := jbd_some h
  refine j_callV (as := [.int a0]) (st := []) (st1 := [.int v1]) X ln_22 ly_22 rfl rfl sv_RX11_214 ⟨by decide, by decide⟩ rfl rfl (Nat.le_of_ble_eq_true rfl) rfl dX11_ask_5 jrv_i (c_X5_hasWitness jisP_22 hm3) rfl ?_
  refine j_if_eq (tgt := 18) X dX11_ask_8 (by decide) h (fun h => ?_) (fun h => ?_)
  · refine j_ldc (v := -1000001) X tw_318 dX11_ask_18 ?_
    obtain ⟨rfl, rfl⟩ := jin2 h
    exact j_iret X R0 dX11_ask_20
  · refine j_iload_n X 2 dX11_ask_11 rfl rfl ?_
    obtain ⟨v4, σ5, hm6, h⟩ := jbd_some h
    refine j_callS (as := [.int a1]) (st := []) (st1 := [.int v4]) X ss_RX11_204 ⟨by decide, by decide⟩ rfl rfl (Nat.le_of_ble_eq_true rfl) rfl dX11_ask_12 jrv_i (c_X11_isOneOfTwo  hm6) rfl ?_
    refine j_if_ne (tgt := 21) X dX11_ask_15 (by decide) h (fun h => ?_) (fun h => ?_)
    · refine j_aload_n X 0 dX11_ask_21 rfl rfl ?_
      refine j_getR (t := 86) X fg_RX11_76 ln_0 ly_0 rfl dX11_ask_22 ?_
      refine j_iload_n X 1 dX11_ask_25 rfl rfl ?_
      refine j_put X fp_RX11_320 ln_86 ly_86 rfl rfl rfl dX11_ask_26 h (fun σ7 h => ?_)
      refine j_aload_n X 0 dX11_ask_29 rfl rfl ?_
      refine j_getR (t := 86) X fg_RX11_76 ln_0 ly_0 rfl dX11_ask_30 ?_
      refine j_aload_n X 0 dX11_ask_33 rfl rfl ?_
      refine j_getR (t := 22) X fg_RX11_50 ln_0 ly_0 rfl dX11_ask_34 ?_
      refine j_getR (t := 28) X fg_RX11_220 ln_22 ly_22 rfl dX11_ask_37 ?_
      refine j_iload_n X 1 dX11_ask_40 rfl rfl ?_
      refine j_iaload X ln_28 ly_28 dX11_ask_41 h (fun v8 h => ?_)
      refine j_put X fp_RX11_323 ln_86 ly_86 rfl rfl rfl dX11_ask_42 h (fun σ9 h => ?_)
      refine j_aload_n X 0 dX11_ask_45 rfl rfl ?_
      refine j_getR (t := 86) X fg_RX11_76 ln_0 ly_0 rfl dX11_ask_46 ?_
      refine j_aload_n X 0 dX11_ask_49 rfl rfl ?_
      refine j_getR (t := 22) X fg_RX11_50 ln_0 ly_0 rfl dX11_ask_50 ?_
      refine j_iload_n X 1 dX11_ask_53 rfl rfl ?_
      obtain ⟨v10, σ11, hm12, h⟩ := jbd_some h
      refine j_callV (as := [.int a0]) (st := [.ref 86]) (st1 := [.int v10, .ref 86]) X ln_22 ly_22 rfl rfl sv_RX11_229 ⟨by decide, by decide⟩ rfl rfl (Nat.le_of_ble_eq_true rfl) rfl dX11_ask_54 jrv_i (c_X5_swears jisP_22 hm12) rfl ?_
      obtain ⟨v13, σ14, hm15, h⟩ := jbd_some h
      refine j_callS (as := [.int v10]) (st := [.ref 86]) (st1 := [.int v13, .ref 86]) X ss_RX11_265 ⟨by decide, by decide⟩ rfl rfl (Nat.le_of_ble_eq_true rfl) rfl dX11_ask_57 jrv_i (c_J6_bitCount_0f7a4  hm15) rfl ?_
      refine j_put X fp_RX11_326 ln_86 ly_86 rfl rfl rfl dX11_ask_60 h (fun σ16 h => ?_)
      refine j_aload_n X 0 dX11_ask_63 rfl rfl ?_
      refine j_getR (t := 86) X fg_RX11_76 ln_0 ly_0 rfl dX11_ask_64 ?_
      refine j_iconst (v := 0) X dX11_ask_67 (by decide) ?_
      refine j_put X fp_RX11_328 ln_86 ly_86 rfl rfl rfl dX11_ask_68 h (fun σ17 h => ?_)
      refine j_aload_n X 0 dX11_ask_71 rfl rfl ?_
      refine j_getR (t := 15) X fg_RX11_25 ln_0 ly_0 rfl dX11_ask_72 ?_
      refine j_aload_n X 0 dX11_ask_75 rfl rfl ?_
      refine j_getR (t := 22) X fg_RX11_50 ln_0 ly_0 rfl dX11_ask_76 ?_
      refine j_getR (t := 26) X fg_RX11_313 ln_22 ly_22 rfl dX11_ask_79 ?_
      refine j_iload_n X 1 dX11_ask_82 rfl rfl ?_
      refine j_iaload X ln_26 ly_26 dX11_ask_83 h (fun v18 h => ?_)
      refine j_aaload X ln_15 ly_15 (Or.inl rfl) dX11_ask_84 h (fun k19 qk19 h => ?_)
      have hk19 := jrow6 qk19
      refine j_astore_n (ls' := [some (.ref 0), some (.int a0), some (.int a1), some (.ref k19)]) X 3 dX11_ask_85 rfl (Nat.le_of_ble_eq_true rfl) rfl ?_
      refine j_iload_n X 2 dX11_ask_86 rfl rfl ?_
      refine j_if_ne (tgt := 101) X dX11_ask_87 (by decide) h (fun h => ?_) (fun h => ?_)
      · refine j_aload_n X 3 dX11_ask_101 rfl rfl ?_
        refine j_aload_n X 0 dX11_ask_102 rfl rfl ?_
        refine j_getR (t := 86) X fg_RX11_76 ln_0 ly_0 rfl dX11_ask_103 ?_
        obtain ⟨v20, σ21, hm22, h⟩ := jbd_some h
        refine vs_X11_ask_106 (st := []) X hk19  rfl (Nat.le_of_ble_eq_true rfl) hm22 ?_
        obtain ⟨rfl, rfl⟩ := jin2 h
        exact j_iret X R0 dX11_ask_109
      · refine j_aload_n X 3 dX11_ask_90 rfl rfl ?_
        refine j_aload_n X 0 dX11_ask_91 rfl rfl ?_
        refine j_getR (t := 86) X fg_RX11_76 ln_0 ly_0 rfl dX11_ask_92 ?_
        obtain ⟨v23, σ24, hm25, h⟩ := jbd_some h
        refine vs_X11_ask_95 (st := []) X hk19  rfl (Nat.le_of_ble_eq_true rfl) hm25 ?_
        refine j_goto (tgt := 109) X dX11_ask_98 (by decide) ?_
        obtain ⟨rfl, rfl⟩ := jin2 h
        exact j_iret X R0 dX11_ask_109
    · refine j_ldc (v := -1000001) X tw_318 dX11_ask_18 ?_
      obtain ⟨rfl, rfl⟩ := jin2 h
      exact j_iret X R0 dX11_ask_20
def f_X11_trace (a0 : Int32) (σ : jMem) : Option (Int32 × jMem) :=
  if a0 < 0 then
  some (((-1000000 : Int32), σ))
else
  if (σ.1 86 3) ≤ a0 then
  some (((-1000000 : Int32), σ))
else
  jld σ 87 16 a0 (fun v1 =>
  some ((v1, σ)))
set_option maxRecDepth 100000 in
set_option maxHeartbeats 4000000 in
theorem c_X11_trace {l : Launch} {D : va_G} {ad : Nat → Nat} {cid : Nat → ClassId} {a0 : Int32}  {σ : jMem} {r : Int32} {σ' : jMem} (h : f_X11_trace a0 σ = some (r, σ')) : jMet l D ad cid yX11_trace cX11_trace 2 (some .int) 0 0 [.ref 0, .int a0] σ (some (.int r)) σ' := by
  refine jMet_of (ls0 := [some (.ref 0), some (.int a0)]) (by decide) (Nat.le_of_ble_eq_true rfl) rfl (fun K X R0 _ => ?_)
  unfold f_X11_trace at h
  refine j_iload_n X 1 dX11_trace_0 rfl rfl ?_
  refine j_if_lt (tgt := 27) X dX11_trace_1 (by decide) h (fun h => ?_) (fun h => ?_)
  · refine j_ldc (v := -1000000) X tw_646 dX11_trace_27 ?_
    obtain ⟨rfl, rfl⟩ := jin2 h
    exact j_iret X R0 dX11_trace_29
  · refine j_iload_n X 1 dX11_trace_4 rfl rfl ?_
    refine j_aload_n X 0 dX11_trace_5 rfl rfl ?_
    refine j_getR (t := 86) X fg_RX11_76 ln_0 ly_0 rfl dX11_trace_6 ?_
    refine j_getI X fg_RX11_328 ln_86 ly_86 rfl dX11_trace_9 ?_
    refine j_icmp_ge (tgt := 27) X dX11_trace_12 (by decide) h (fun h => ?_) (fun h => ?_)
    · refine j_ldc (v := -1000000) X tw_646 dX11_trace_27 ?_
      obtain ⟨rfl, rfl⟩ := jin2 h
      exact j_iret X R0 dX11_trace_29
    · refine j_aload_n X 0 dX11_trace_15 rfl rfl ?_
      refine j_getR (t := 86) X fg_RX11_76 ln_0 ly_0 rfl dX11_trace_16 ?_
      refine j_getR (t := 87) X fg_RX11_337 ln_86 ly_86 rfl dX11_trace_19 ?_
      refine j_iload_n X 1 dX11_trace_22 rfl rfl ?_
      refine j_iaload X ln_87 ly_87 dX11_trace_23 h (fun v1 h => ?_)
      refine j_goto (tgt := 29) X dX11_trace_24 (by decide) ?_
      obtain ⟨rfl, rfl⟩ := jin2 h
      exact j_iret X R0 dX11_trace_29
def X6_standing_L4_b  (rec : Int32 × Int32 → jMem → Option ((Int32) × jMem)) (x1 : Int32) (x2 : Int32) (σ : jMem) : Option ((Int32) × jMem) :=
  if (8 : Int32) ≤ x2 then
  some (x1, σ)
else
  jbd (f_X6_isMissing x2 σ) (fun v1 σ2 =>
  if ¬ v1 = 0 then
  rec (x1, (x2 + 1)) σ2
else
  rec ((x1 + 1), (x2 + 1)) σ2)
def X6_standing_L4  : Nat → Int32 × Int32 → jMem → Option ((Int32) × jMem) := jloop (fun rec s σ => X6_standing_L4_b  rec s.1 s.2 σ)
set_option maxRecDepth 100000 in
set_option maxHeartbeats 4000000 in
theorem X6_standing_L4_bok {K : jK} (X : JX K cX6_standing 3 RX6 1 21)   {rec : Int32 × Int32 → jMem → Option ((Int32) × jMem)} (ih : ∀ (s : Int32 × Int32) (σ : jMem) (o : (Int32) × jMem), rec s σ = some o → (J K 27 [none, some (.int o.1), none] [] o.2) → J K 4 [some (.ref 1), some (.int s.1), some (.int s.2)] [] σ) : ∀ (x1 : Int32) (x2 : Int32) (σ : jMem) (o : (Int32) × jMem), X6_standing_L4_b  rec x1 x2 σ = some o → (J K 27 [none, some (.int o.1), none] [] o.2) → J K 4 [some (.ref 1), some (.int x1), some (.int x2)] [] σ := by
  intro x1 x2 σ o h kk
  unfold X6_standing_L4_b at h
  refine j_iload_n X 2 dX6_standing_4 rfl rfl ?_
  refine j_bipush (v := 8) X dX6_standing_5 (by decide) ?_
  refine j_icmp_ge (tgt := 27) X dX6_standing_7 (by decide) h (fun h => ?_) (fun h => ?_)
  · obtain rfl := Option.some.inj h
    exact j_sub (ls' := [none, some (.int x1), none]) ⟨Or.inl rfl, Or.inr rfl, Or.inl rfl, trivial⟩ kk
  · refine j_aload_n X 0 dX6_standing_10 rfl rfl ?_
    refine j_iload_n X 2 dX6_standing_11 rfl rfl ?_
    obtain ⟨v1, σ2, hm3, h⟩ := jbd_some h
    refine j_callV (as := [.int x2]) (st := []) (st1 := [.int v1]) X ln_1 ly_1 rfl rfl sv_RX6_23 ⟨by decide, by decide⟩ rfl rfl (Nat.le_of_ble_eq_true rfl) rfl dX6_standing_12 jrv_i (c_X6_isMissing  hm3) rfl ?_
    refine j_if_ne (tgt := 21) X dX6_standing_15 (by decide) h (fun h => ?_) (fun h => ?_)
    · refine j_iinc (v := (x2 + 1)) (ls' := [some (.ref 1), some (.int x1), some (.int (x2 + 1))]) X dX6_standing_21 rfl rfl (Nat.le_of_ble_eq_true rfl) rfl ?_
      refine j_goto (tgt := 4) X dX6_standing_24 (by decide) ?_
      exact ih (x1, (x2 + 1)) σ2 _ h kk
    · refine j_iinc (v := (x1 + 1)) (ls' := [some (.ref 1), some (.int (x1 + 1)), some (.int x2)]) X dX6_standing_18 rfl rfl (Nat.le_of_ble_eq_true rfl) rfl ?_
      refine j_iinc (v := (x2 + 1)) (ls' := [some (.ref 1), some (.int (x1 + 1)), some (.int (x2 + 1))]) X dX6_standing_21 rfl rfl (Nat.le_of_ble_eq_true rfl) rfl ?_
      refine j_goto (tgt := 4) X dX6_standing_24 (by decide) ?_
      exact ih ((x1 + 1), (x2 + 1)) σ2 _ h kk
theorem X6_standing_L4_ok {K : jK} (X : JX K cX6_standing 3 RX6 1 21)   : ∀ (n : Nat) (s : Int32 × Int32) (σ : jMem) (o : (Int32) × jMem), X6_standing_L4  n s σ = some o → (J K 27 [none, some (.int o.1), none] [] o.2) → J K 4 [some (.ref 1), some (.int s.1), some (.int s.2)] [] σ := by
  intro n
  induction n with
  | zero => intro s σ o h; cases h
  | succ n ih => intro s σ o h; exact X6_standing_L4_bok X  ih (s.1) (s.2) σ o h
def f_X6_standing  (σ : jMem) : Option (Int32 × jMem) :=
  jbd (X6_standing_L4  jFU ((0 : Int32), (0 : Int32)) σ) (fun q4 σ5 =>
  some ((q4, σ5)))
set_option maxRecDepth 100000 in
set_option maxHeartbeats 4000000 in
theorem c_X6_standing {l : Launch} {D : va_G} {ad : Nat → Nat} {cid : Nat → ClassId}   {σ : jMem} {r : Int32} {σ' : jMem} (h : f_X6_standing  σ = some (r, σ')) : jMet l D ad cid yX6_standing cX6_standing 3 (some .int) 1 21 [.ref 1] σ (some (.int r)) σ' := by
  refine jMet_of (ls0 := [some (.ref 1), none, none]) (by decide) (Nat.le_of_ble_eq_true rfl) rfl (fun K X R0 _ => ?_)
  unfold f_X6_standing at h
  refine j_iconst (v := 0) X dX6_standing_0 (by decide) ?_
  refine j_istore_n (ls' := [some (.ref 1), some (.int (0 : Int32)), none]) X 1 dX6_standing_1 rfl (Nat.le_of_ble_eq_true rfl) rfl ?_
  refine j_iconst (v := 0) X dX6_standing_2 (by decide) ?_
  refine j_istore_n (ls' := [some (.ref 1), some (.int (0 : Int32)), some (.int (0 : Int32))]) X 2 dX6_standing_3 rfl (Nat.le_of_ble_eq_true rfl) rfl ?_
  obtain ⟨q4, σ5, hL6, h⟩ := jbd_some h
  refine X6_standing_L4_ok X  jFU ((0 : Int32), (0 : Int32)) σ _ hL6 ?_
  refine j_iload_n X 1 dX6_standing_27 rfl rfl ?_
  obtain ⟨rfl, rfl⟩ := jin2 h
  exact j_iret X R0 dX6_standing_28
theorem sv_RX11_340 : jSiV RX11 340 yX6_standing cX6_standing 3 (some .int) 0 := ⟨tw_839, tw_840, tw_841, tw_2, tw_842, by decide, by decide, by decide +kernel⟩
def f_X11_count (a0 : Int32) (σ : jMem) : Option (Int32 × jMem) :=
  if a0 = 0 then
  jbd (f_X6_standing  σ) (fun v2 σ3 =>
  some ((v2, σ3)))
else
  if a0 = 1 then
  some (((σ.1 22 5), σ))
else
  if a0 = 2 then
  some (((σ.1 22 6), σ))
else
  if a0 = 3 then
  some (((σ.1 22 4), σ))
else
  if a0 = 4 then
  jbd (f_X5_ways 22 σ) (fun v9 σ10 =>
  jbd (f_J6_bitCount_0f7a4 v9 σ10) (fun v12 σ13 =>
  some ((v12, σ13))))
else
  if a0 = 5 then
  some (((σ.1 22 3), σ))
else
  if a0 = 6 then
  some (((σ.1 0 7), σ))
else
  if a0 = 7 then
  some (((σ.1 13 1), σ))
else
  some (((-1000001 : Int32), σ))
set_option maxRecDepth 100000 in
set_option maxHeartbeats 4000000 in
theorem c_X11_count {l : Launch} {D : va_G} {ad : Nat → Nat} {cid : Nat → ClassId} {a0 : Int32}  {σ : jMem} {r : Int32} {σ' : jMem} (h : f_X11_count a0 σ = some (r, σ')) : jMet l D ad cid yX11_count cX11_count 2 (some .int) 5 106 [.ref 0, .int a0] σ (some (.int r)) σ' := by
  refine jMet_of (ls0 := [some (.ref 0), some (.int a0)]) (by decide) (Nat.le_of_ble_eq_true rfl) rfl (fun K X R0 _ => ?_)
  unfold f_X11_count at h
  refine j_iload_n X 1 dX11_count_0 rfl rfl ?_
  by_cases hs1 : a0 = 0
  · rw [if_pos hs1] at h
    refine j_tab (tgt := 48) X dX11_count_1 0 hs1 (by decide) (by decide) rfl (by decide) ?_
    refine j_aload_n X 0 dX11_count_48 rfl rfl ?_
    refine j_getR (t := 1) X fg_RX11_10 ln_0 ly_0 rfl dX11_count_49 ?_
    obtain ⟨v2, σ3, hm4, h⟩ := jbd_some h
    refine j_callV (as := []) (st := []) (st1 := [.int v2]) X ln_1 ly_1 rfl rfl sv_RX11_340 ⟨by decide, by decide⟩ rfl rfl (Nat.le_of_ble_eq_true rfl) rfl dX11_count_52 jrv_i (c_X6_standing  hm4) rfl ?_
    obtain ⟨rfl, rfl⟩ := jin2 h
    exact j_iret X R0 dX11_count_55
  · rw [if_neg hs1] at h
    by_cases hs5 : a0 = 1
    · rw [if_pos hs5] at h
      refine j_tab (tgt := 56) X dX11_count_1 1 hs5 (by decide) (by decide) rfl (by decide) ?_
      refine j_aload_n X 0 dX11_count_56 rfl rfl ?_
      refine j_getR (t := 22) X fg_RX11_50 ln_0 ly_0 rfl dX11_count_57 ?_
      refine j_getI X fg_RX11_153 ln_22 ly_22 rfl dX11_count_60 ?_
      obtain ⟨rfl, rfl⟩ := jin2 h
      exact j_iret X R0 dX11_count_63
    · rw [if_neg hs5] at h
      by_cases hs6 : a0 = 2
      · rw [if_pos hs6] at h
        refine j_tab (tgt := 64) X dX11_count_1 2 hs6 (by decide) (by decide) rfl (by decide) ?_
        refine j_aload_n X 0 dX11_count_64 rfl rfl ?_
        refine j_getR (t := 22) X fg_RX11_50 ln_0 ly_0 rfl dX11_count_65 ?_
        refine j_getI X fg_RX11_273 ln_22 ly_22 rfl dX11_count_68 ?_
        obtain ⟨rfl, rfl⟩ := jin2 h
        exact j_iret X R0 dX11_count_71
      · rw [if_neg hs6] at h
        by_cases hs7 : a0 = 3
        · rw [if_pos hs7] at h
          refine j_tab (tgt := 72) X dX11_count_1 3 hs7 (by decide) (by decide) rfl (by decide) ?_
          refine j_aload_n X 0 dX11_count_72 rfl rfl ?_
          refine j_getR (t := 22) X fg_RX11_50 ln_0 ly_0 rfl dX11_count_73 ?_
          refine j_getI X fg_RX11_192 ln_22 ly_22 rfl dX11_count_76 ?_
          obtain ⟨rfl, rfl⟩ := jin2 h
          exact j_iret X R0 dX11_count_79
        · rw [if_neg hs7] at h
          by_cases hs8 : a0 = 4
          · rw [if_pos hs8] at h
            refine j_tab (tgt := 80) X dX11_count_1 4 hs8 (by decide) (by decide) rfl (by decide) ?_
            refine j_aload_n X 0 dX11_count_80 rfl rfl ?_
            refine j_getR (t := 22) X fg_RX11_50 ln_0 ly_0 rfl dX11_count_81 ?_
            obtain ⟨v9, σ10, hm11, h⟩ := jbd_some h
            refine j_callV (as := []) (st := []) (st1 := [.int v9]) X ln_22 ly_22 rfl rfl sv_RX11_188 ⟨by decide, by decide⟩ rfl rfl (Nat.le_of_ble_eq_true rfl) rfl dX11_count_84 jrv_i (c_X5_ways jisP_22 hm11) rfl ?_
            obtain ⟨v12, σ13, hm14, h⟩ := jbd_some h
            refine j_callS (as := [.int v9]) (st := []) (st1 := [.int v12]) X ss_RX11_265 ⟨by decide, by decide⟩ rfl rfl (Nat.le_of_ble_eq_true rfl) rfl dX11_count_87 jrv_i (c_J6_bitCount_0f7a4  hm14) rfl ?_
            obtain ⟨rfl, rfl⟩ := jin2 h
            exact j_iret X R0 dX11_count_90
          · rw [if_neg hs8] at h
            by_cases hs15 : a0 = 5
            · rw [if_pos hs15] at h
              refine j_tab (tgt := 91) X dX11_count_1 5 hs15 (by decide) (by decide) rfl (by decide) ?_
              refine j_aload_n X 0 dX11_count_91 rfl rfl ?_
              refine j_getR (t := 22) X fg_RX11_50 ln_0 ly_0 rfl dX11_count_92 ?_
              refine j_getI X fg_RX11_343 ln_22 ly_22 rfl dX11_count_95 ?_
              obtain ⟨rfl, rfl⟩ := jin2 h
              exact j_iret X R0 dX11_count_98
            · rw [if_neg hs15] at h
              by_cases hs16 : a0 = 6
              · rw [if_pos hs16] at h
                refine j_tab (tgt := 99) X dX11_count_1 6 hs16 (by decide) (by decide) rfl (by decide) ?_
                refine j_aload_n X 0 dX11_count_99 rfl rfl ?_
                refine j_getI X fg_RX11_159 ln_0 ly_0 rfl dX11_count_100 ?_
                obtain ⟨rfl, rfl⟩ := jin2 h
                exact j_iret X R0 dX11_count_103
              · rw [if_neg hs16] at h
                by_cases hs17 : a0 = 7
                · rw [if_pos hs17] at h
                  refine j_tab (tgt := 104) X dX11_count_1 7 hs17 (by decide) (by decide) rfl (by decide) ?_
                  refine j_aload_n X 0 dX11_count_104 rfl rfl ?_
                  refine j_getR (t := 13) X fg_RX11_19 ln_0 ly_0 rfl dX11_count_105 ?_
                  refine j_getI X fg_RX11_129 ln_13 ly_13 rfl dX11_count_108 ?_
                  obtain ⟨rfl, rfl⟩ := jin2 h
                  exact j_iret X R0 dX11_count_111
                · rw [if_neg hs17] at h
                  refine j_tabo (tgt := 112) X dX11_count_1 (by have w0 := lv_neT (a := 0) hs1 (by decide); have w1 := lv_neT (a := 1) hs5 (by decide); have w2 := lv_neT (a := 2) hs6 (by decide); have w3 := lv_neT (a := 3) hs7 (by decide); have w4 := lv_neT (a := 4) hs8 (by decide); have w5 := lv_neT (a := 5) hs15 (by decide); have w6 := lv_neT (a := 6) hs16 (by decide); have w7 := lv_neT (a := 7) hs17 (by decide); omega) (by decide) ?_
                  refine j_ldc (v := -1000001) X tw_318 dX11_count_112 ?_
                  obtain ⟨rfl, rfl⟩ := jin2 h
                  exact j_iret X R0 dX11_count_114
def f_X11_status  (σ : jMem) : Option (Int32 × jMem) :=
  some (((σ.1 0 12), σ))
set_option maxRecDepth 100000 in
set_option maxHeartbeats 4000000 in
theorem c_X11_status {l : Launch} {D : va_G} {ad : Nat → Nat} {cid : Nat → ClassId}   {σ : jMem} {r : Int32} {σ' : jMem} (h : f_X11_status  σ = some (r, σ')) : jMet l D ad cid yX11_status cX11_status 1 (some .int) 0 0 [.ref 0] σ (some (.int r)) σ' := by
  refine jMet_of (ls0 := [some (.ref 0)]) (by decide) (Nat.le_of_ble_eq_true rfl) rfl (fun K X R0 _ => ?_)
  unfold f_X11_status at h
  refine j_aload_n X 0 dX11_status_0 rfl rfl ?_
  refine j_getI X fg_RX11_346 ln_0 ly_0 rfl dX11_status_1 ?_
  obtain ⟨rfl, rfl⟩ := jin2 h
  exact j_iret X R0 dX11_status_4
def f_X12_in (a0 : Int64) (a1 : Int64) (a2 : Int64) (σ : jMem) : Option (Int32 × jMem) :=
  if (lg_cmp a0 a1) < 0 then
  some (((0 : Int32), σ))
else
  if 0 < (lg_cmp a0 a2) then
  some (((0 : Int32), σ))
else
  some (((1 : Int32), σ))
set_option maxRecDepth 100000 in
set_option maxHeartbeats 4000000 in
theorem c_X12_in {l : Launch} {D : va_G} {ad : Nat → Nat} {cid : Nat → ClassId} {a0 : Int64} {a1 : Int64} {a2 : Int64}  {σ : jMem} {r : Int32} {σ' : jMem} (h : f_X12_in a0 a1 a2 σ = some (r, σ')) : jMet l D ad cid yX12_in cX12_in 6 (some .boolean) 0 0 [.long a0, .long a1, .long a2] σ (some (.int r)) σ' := by
  refine jMet_of (ls0 := [some (.long a0), none, some (.long a1), none, some (.long a2), none]) (by decide) (Nat.le_of_ble_eq_true rfl) rfl (fun K X R0 _ => ?_)
  unfold f_X12_in at h
  refine j_lload_n X 0 dX12_in_0 rfl rfl ?_
  refine j_lload_n X 2 dX12_in_1 rfl rfl ?_
  refine j_lcmp X dX12_in_2 ?_
  refine j_if_lt (tgt := 17) X dX12_in_3 (by decide) h (fun h => ?_) (fun h => ?_)
  · refine j_iconst (v := 0) X dX12_in_17 (by decide) ?_
    obtain ⟨rfl, rfl⟩ := jin2 h
    exact j_zret X R0 rfl dX12_in_18
  · refine j_lload_n X 0 dX12_in_6 rfl rfl ?_
    refine j_lload X dX12_in_7 rfl ?_
    refine j_lcmp X dX12_in_9 ?_
    refine j_if_gt (tgt := 17) X dX12_in_10 (by decide) h (fun h => ?_) (fun h => ?_)
    · refine j_iconst (v := 0) X dX12_in_17 (by decide) ?_
      obtain ⟨rfl, rfl⟩ := jin2 h
      exact j_zret X R0 rfl dX12_in_18
    · refine j_iconst (v := 1) X dX12_in_13 (by decide) ?_
      refine j_goto (tgt := 18) X dX12_in_14 (by decide) ?_
      obtain ⟨rfl, rfl⟩ := jin2 h
      exact j_zret X R0 rfl dX12_in_18
def f_X12_finding (a0 : Int32) (σ : jMem) : Option (Int32 × jMem) :=
  jlet (jset σ 89 1 a0) (fun σ1 =>
  some ((((-1000010 : Int32) - a0), σ1)))
set_option maxRecDepth 100000 in
set_option maxHeartbeats 4000000 in
theorem c_X12_finding {l : Launch} {D : va_G} {ad : Nat → Nat} {cid : Nat → ClassId} {a0 : Int32}  {σ : jMem} {r : Int32} {σ' : jMem} (h : f_X12_finding a0 σ = some (r, σ')) : jMet l D ad cid yX12_finding cX12_finding 2 (some .int) 0 0 [.ref 89, .int a0] σ (some (.int r)) σ' := by
  refine jMet_of (ls0 := [some (.ref 89), some (.int a0)]) (by decide) (Nat.le_of_ble_eq_true rfl) rfl (fun K X R0 _ => ?_)
  unfold f_X12_finding at h
  refine j_aload_n X 0 dX12_finding_0 rfl rfl ?_
  refine j_iload_n X 1 dX12_finding_1 rfl rfl ?_
  refine j_put X fp_RX12_51 ln_89 ly_89 rfl rfl rfl dX12_finding_2 h (fun σ1 h => ?_)
  refine j_ldc (v := -1000010) X tw_953 dX12_finding_5 ?_
  refine j_iload_n X 1 dX12_finding_7 rfl rfl ?_
  refine j_isub X dX12_finding_8 ?_
  obtain ⟨rfl, rfl⟩ := jin2 h
  exact j_iret X R0 dX12_finding_9
theorem ss_RX12_57 : jSiS RX12 57 yX12_in cX12_in 6 (some .boolean) 3 := ⟨tw_944, tw_945, tw_13, tw_946, by decide, by decide, by decide +kernel⟩
def f_X12_isRow (a0 : Int32) (σ : jMem) : Option (Int32 × jMem) :=
  jbd (f_X12_in ((a0).toInt64) (0 : Int64) (7 : Int64) σ) (fun v1 σ2 =>
  jck (jisb v1 = true) (some ((v1, σ2))))
set_option maxRecDepth 100000 in
set_option maxHeartbeats 4000000 in
theorem c_X12_isRow {l : Launch} {D : va_G} {ad : Nat → Nat} {cid : Nat → ClassId} {a0 : Int32}  {σ : jMem} {r : Int32} {σ' : jMem} (h : f_X12_isRow a0 σ = some (r, σ')) : jMet l D ad cid yX12_isRow cX12_isRow 1 (some .boolean) 1 25 [.int a0] σ (some (.int r)) σ' := by
  refine jMet_of (ls0 := [some (.int a0)]) (by decide) (Nat.le_of_ble_eq_true rfl) rfl (fun K X R0 _ => ?_)
  unfold f_X12_isRow at h
  refine j_iload_n X 0 dX12_isRow_0 rfl rfl ?_
  refine j_i2l X dX12_isRow_1 ?_
  refine j_lconst (v := 0) X dX12_isRow_2 (by decide) ?_
  refine j_ldc2_w (v := 7) X tw_943 dX12_isRow_3 ?_
  obtain ⟨v1, σ2, hm3, h⟩ := jbd_some h
  refine j_callS (as := [.long ((a0).toInt64), .long (0 : Int64), .long (7 : Int64)]) (st := []) (st1 := [.int v1]) X ss_RX12_57 ⟨by decide, by decide⟩ rfl rfl (Nat.le_of_ble_eq_true rfl) rfl dX12_isRow_6 jrv_i (c_X12_in  hm3) rfl ?_
  obtain ⟨hc4, h⟩ := jck_some h
  obtain ⟨rfl, rfl⟩ := jin2 h
  exact j_zret X R0 hc4 dX12_isRow_9
