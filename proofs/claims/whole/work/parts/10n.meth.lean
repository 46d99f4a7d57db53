theorem sv_RX11_138 : jSiV RX11 138 yX9_read cX9_read 3 (some .boolean) 1 := ⟨tw_378, tw_379, tw_380, tw_3, tw_381, by decide, by decide, by decide +kernel⟩
theorem sv_RX11_146 : jSiV RX11 146 yX5_become cX5_become 2 none 1 := ⟨tw_441, tw_442, tw_443, tw_10, tw_444, by decide, by decide, by decide +kernel⟩
theorem sv_RX11_150 : jSiV RX11 150 yX11_forgetActs cX11_forgetActs 1 none 0 := ⟨tw_446, tw_448, ts_10, tw_1, tw_449, by decide, by decide, by decide +kernel⟩
def f_X11_parish  (σ : jMem) : Option (Int32 × jMem) :=
  jbd (f_X9_read 30 σ) (fun v1 σ2 =>
  jlet (jset σ2 13 1 (0 : Int32)) (fun σ4 =>
  if ¬ v1 = 0 then
  jbv (f_X5_become 22 30 σ4) (fun σ5 =>
  jbv (f_X11_forgetActs  σ5) (fun σ7 =>
  some (((σ7.1 22 5), σ7))))
else
  some ((((-1000100 : Int32) - (σ4.1 13 3)), σ4))))
set_option maxRecDepth 100000 in
set_option maxHeartbeats 4000000 in
theorem c_X11_parish {l : Launch} {D : va_G} {ad : Nat → Nat} {cid : Nat → ClassId}   {σ : jMem} {r : Int32} {σ' : jMem} (h : f_X11_parish  σ = some (r, σ')) : jMet l D ad cid yX11_parish cX11_parish 2 (some .int) 6 127 [.ref 0] σ (some (.int r)) σ' := by
  refine jMet_of (ls0 := [some (.ref 0), none]) (by decide) (Nat.le_of_ble_eq_true rfl) rfl (fun K X R0 _ => ?_)
  unfold f_X11_parish at h
  refine j_aload_n X 0 dX11_parish_0 rfl rfl ?_
  refine j_getR (t := 13) X fg_RX11_19 ln_0 ly_0 rfl dX11_parish_1 ?_
  refine j_aload_n X 0 dX11_parish_4 rfl rfl ?_
  refine j_getR (t := 30) X fg_RX11_54 ln_0 ly_0 rfl dX11_parish_5 ?_
  obtain ⟨v1, σ2, hm3, h⟩ := jbd_some h
  refine j_callV (as := [.ref 30]) (st := []) (st1 := [.int v1]) X ln_13 ly_13 rfl rfl sv_RX11_138 ⟨by decide, by decide⟩ rfl rfl (Nat.le_of_ble_eq_true rfl) rfl dX11_parish_8 jrv_i (c_X9_read jisP_30 hm3) rfl ?_
  refine j_istore_n (ls' := [some (.ref 0), some (.int v1)]) X 1 dX11_parish_11 rfl (Nat.le_of_ble_eq_true rfl) rfl ?_
  refine j_aload_n X 0 dX11_parish_12 rfl rfl ?_
  refine j_getR (t := 13) X fg_RX11_19 ln_0 ly_0 rfl dX11_parish_13 ?_
  refine j_iconst (v := 0) X dX11_parish_16 (by decide) ?_
  refine j_put X fp_RX11_129 ln_13 ly_13 rfl rfl rfl dX11_parish_17 h (fun σ4 h => ?_)
  refine j_iload_n X 1 dX11_parish_20 rfl rfl ?_
  refine j_if_ne (tgt := 35) X dX11_parish_21 (by decide) h (fun h => ?_) (fun h => ?_)
  · refine j_aload_n X 0 dX11_parish_35 rfl rfl ?_
    refine j_getR (t := 22) X fg_RX11_50 ln_0 ly_0 rfl dX11_parish_36 ?_
    refine j_aload_n X 0 dX11_parish_39 rfl rfl ?_
    refine j_getR (t := 30) X fg_RX11_54 ln_0 ly_0 rfl dX11_parish_40 ?_
    obtain ⟨σ5, hm6, h⟩ := jbv_some h
    refine j_callV (as := [.ref 30]) (st := []) (st1 := []) X ln_22 ly_22 rfl rfl sv_RX11_146 ⟨by decide, by decide⟩ rfl rfl (Nat.le_of_ble_eq_true rfl) rfl dX11_parish_43 jrv_v (c_X5_become jisP_22 jisP_30 hm6) rfl ?_
    refine j_aload_n X 0 dX11_parish_46 rfl rfl ?_
    obtain ⟨σ7, hm8, h⟩ := jbv_some h
    refine j_callV (as := []) (st := []) (st1 := []) X ln_0 ly_0 rfl rfl sv_RX11_150 ⟨by decide, by decide⟩ rfl rfl (Nat.le_of_ble_eq_true rfl) rfl dX11_parish_47 jrv_v (c_X11_forgetActs  hm8) rfl ?_
    refine j_aload_n X 0 dX11_parish_50 rfl rfl ?_
    refine j_getR (t := 22) X fg_RX11_50 ln_0 ly_0 rfl dX11_parish_51 ?_
    refine j_getI X fg_RX11_153 ln_22 ly_22 rfl dX11_parish_54 ?_
    obtain ⟨rfl, rfl⟩ := jin2 h
    exact j_iret X R0 dX11_parish_57
  · refine j_ldc (v := -1000100) X tw_440 dX11_parish_24 ?_
    refine j_aload_n X 0 dX11_parish_26 rfl rfl ?_
    refine j_getR (t := 13) X fg_RX11_19 ln_0 ly_0 rfl dX11_parish_27 ?_
    refine j_getI X fg_RX11_143 ln_13 ly_13 rfl dX11_parish_30 ?_
    refine j_isub X dX11_parish_33 ?_
    obtain ⟨rfl, rfl⟩ := jin2 h
    exact j_iret X R0 dX11_parish_34
def f_X11_fault  (σ : jMem) : Option (Int32 × jMem) :=
  some (((σ.1 13 2), σ))
set_option maxRecDepth 100000 in
set_option maxHeartbeats 4000000 in
theorem c_X11_fault {l : Launch} {D : va_G} {ad : Nat → Nat} {cid : Nat → ClassId}   {σ : jMem} {r : Int32} {σ' : jMem} (h : f_X11_fault  σ = some (r, σ')) : jMet l D ad cid yX11_fault cX11_fault 1 (some .int) 0 0 [.ref 0] σ (some (.int r)) σ' := by
  refine jMet_of (ls0 := [some (.ref 0)]) (by decide) (Nat.le_of_ble_eq_true rfl) rfl (fun K X R0 _ => ?_)
  unfold f_X11_fault at h
  refine j_aload_n X 0 dX11_fault_0 rfl rfl ?_
  refine j_getR (t := 13) X fg_RX11_19 ln_0 ly_0 rfl dX11_fault_1 ?_
  refine j_getI X fg_RX11_156 ln_13 ly_13 rfl dX11_fault_4 ?_
  obtain ⟨rfl, rfl⟩ := jin2 h
  exact j_iret X R0 dX11_fault_7
def f_X5_load (k : Nat) (a0 : Nat) (σ : jMem) : Option jMem :=
  jld σ a0 14 (0 : Int32) (fun v1 =>
  jlet (jset σ k 4 v1) (fun σ2 =>
  jld σ2 a0 14 (1 : Int32) (fun v3 =>
  jlet (jset σ2 k 7 v3) (fun σ4 =>
  jcp σ4 a0 14 (2 : Int32) (k + 6) 6 (0 : Int32) (6 : Int32) (fun σ5 =>
  jcp σ5 a0 14 (8 : Int32) (k + 7) 6 (0 : Int32) (6 : Int32) (fun σ6 =>
  some σ6))))))
set_option maxRecDepth 100000 in
set_option maxHeartbeats 4000000 in
theorem c_X5_load {l : Launch} {D : va_G} {ad : Nat → Nat} {cid : Nat → ClassId} {k : Nat} {a0 : Nat} (hk : jisP k) (ha0 : a0 < jN ∧ jL a0 = (1, 14, [])) {σ : jMem} {σ' : jMem} (h : f_X5_load k a0 σ = some σ') : jMet l D ad cid yX5_load cX5_load 2 none 1 36 [.ref k, .ref a0] σ none σ' := by
  refine jMet_of (ls0 := [some (.ref k), some (.ref a0)]) (by decide) (Nat.le_of_ble_eq_true rfl) rfl (fun K X R0 _ => ?_)
  unfold f_X5_load at h
  refine j_aload_n X 0 dX5_load_0 rfl rfl ?_
  refine j_aload_n X 1 dX5_load_1 rfl rfl ?_
  refine j_iconst (v := 0) X dX5_load_2 (by decide) ?_
  refine j_iaload X ha0.1 ha0.2 dX5_load_3 h (fun v1 h => ?_)
  refine j_put X fp_RX5_37 (jp_lt hk) (jp_ly hk) rfl rfl rfl dX5_load_4 h (fun σ2 h => ?_)
  refine j_aload_n X 0 dX5_load_7 rfl rfl ?_
  refine j_aload_n X 1 dX5_load_8 rfl rfl ?_
  refine j_iconst (v := 1) X dX5_load_9 (by decide) ?_
  refine j_iaload X ha0.1 ha0.2 dX5_load_10 h (fun v3 h => ?_)
  refine j_put X fp_RX5_47 (jp_lt hk) (jp_ly hk) rfl rfl rfl dX5_load_11 h (fun σ4 h => ?_)
  refine j_aload_n X 1 dX5_load_14 rfl rfl ?_
  refine j_iconst (v := 2) X dX5_load_15 (by decide) ?_
  refine j_aload_n X 0 dX5_load_16 rfl rfl ?_
  refine j_getR (t := (k + 6)) X fg_RX5_31 (jp_lt hk) (jp_ly hk) rfl dX5_load_17 ?_
  refine j_iconst (v := 0) X dX5_load_20 (by decide) ?_
  refine j_bipush (v := 6) X dX5_load_21 (by decide) ?_
  refine j_copy X tw_445 tw_360 tw_359 tw_14 rfl ha0.1 ha0.2 (jp_lt6 hk) (jp_ly6 hk) (Nat.le_of_ble_eq_true rfl) (Nat.le_of_ble_eq_true rfl) dX5_load_23 h (fun σ5 h => ?_)
  refine j_aload_n X 1 dX5_load_26 rfl rfl ?_
  refine j_bipush (v := 8) X dX5_load_27 (by decide) ?_
  refine j_aload_n X 0 dX5_load_29 rfl rfl ?_
  refine j_getR (t := (k + 7)) X fg_RX5_34 (jp_lt hk) (jp_ly hk) rfl dX5_load_30 ?_
  refine j_iconst (v := 0) X dX5_load_33 (by decide) ?_
  refine j_bipush (v := 6) X dX5_load_34 (by decide) ?_
  refine j_copy X tw_445 tw_360 tw_359 tw_14 rfl ha0.1 ha0.2 (jp_lt7 hk) (jp_ly7 hk) (Nat.le_of_ble_eq_true rfl) (Nat.le_of_ble_eq_true rfl) dX5_load_36 h (fun σ6 h => ?_)
  obtain rfl := Option.some.inj h
  exact j_vret X R0 dX5_load_39
theorem sv_RX11_166 : jSiV RX11 166 yX5_load cX5_load 2 none 1 := ⟨tw_459, tw_460, tw_461, tw_10, tw_462, by decide, by decide, by decide +kernel⟩
def f_X11_undo  (σ : jMem) : Option (Int32 × jMem) :=
  if ¬ (σ.1 0 7) = 0 then
  jlet (jset σ 0 8 ((((σ.1 0 8) + (24 : Int32)) - (1 : Int32)) - (((σ.1 0 8) + (24 : Int32)) - (1 : Int32)) / (24 : Int32) * (24 : Int32))) (fun σ1 =>
  jlet (jset σ1 0 7 ((σ1.1 0 7) - (1 : Int32))) (fun σ2 =>
  jldr 24 56 1 (σ2.1 0 8) (fun k3 =>
  jbv (f_X5_load 22 k3 σ2) (fun σ4 =>
  some (((σ4.1 0 7), σ4))))))
else
  some (((-1000002 : Int32), σ))
set_option maxRecDepth 100000 in
set_option maxHeartbeats 4000000 in
theorem c_X11_undo {l : Launch} {D : va_G} {ad : Nat → Nat} {cid : Nat → ClassId}   {σ : jMem} {r : Int32} {σ' : jMem} (h : f_X11_undo  σ = some (r, σ')) : jMet l D ad cid yX11_undo cX11_undo 1 (some .int) 2 57 [.ref 0] σ (some (.int r)) σ' := by
  refine jMet_of (ls0 := [some (.ref 0)]) (by decide) (Nat.le_of_ble_eq_true rfl) rfl (fun K X R0 _ => ?_)
  unfold f_X11_undo at h
  refine j_aload_n X 0 dX11_undo_0 rfl rfl ?_
  refine j_getI X fg_RX11_159 ln_0 ly_0 rfl dX11_undo_1 ?_
  refine j_if_ne (tgt := 10) X dX11_undo_4 (by decide) h (fun h => ?_) (fun h => ?_)
  · refine j_aload_n X 0 dX11_undo_10 rfl rfl ?_
    refine j_aload_n X 0 dX11_undo_11 rfl rfl ?_
    refine j_getI X fg_RX11_163 ln_0 ly_0 rfl dX11_undo_12 ?_
    refine j_bipush (v := 24) X dX11_undo_15 (by decide) ?_
    refine j_iadd X dX11_undo_17 ?_
    refine j_iconst (v := 1) X dX11_undo_18 (by decide) ?_
    refine j_isub X dX11_undo_19 ?_
    refine j_bipush (v := 24) X dX11_undo_20 (by decide) ?_
    refine j_irem X dX11_undo_22 (by decide) ?_
    refine j_put X fp_RX11_163 ln_0 ly_0 rfl rfl rfl dX11_undo_23 h (fun σ1 h => ?_)
    refine j_aload_n X 0 dX11_undo_26 rfl rfl ?_
    refine j_dup X dX11_undo_27 rfl ?_
    refine j_getI X fg_RX11_159 ln_0 ly_0 rfl dX11_undo_28 ?_
    refine j_iconst (v := 1) X dX11_undo_31 (by decide) ?_
    refine j_isub X dX11_undo_32 ?_
    refine j_put X fp_RX11_159 ln_0 ly_0 rfl rfl rfl dX11_undo_33 h (fun σ2 h => ?_)
    refine j_aload_n X 0 dX11_undo_36 rfl rfl ?_
    refine j_getR (t := 22) X fg_RX11_50 ln_0 ly_0 rfl dX11_undo_37 ?_
    refine j_aload_n X 0 dX11_undo_40 rfl rfl ?_
    refine j_getR (t := 55) X fg_RX11_63 ln_0 ly_0 rfl dX11_undo_41 ?_
    refine j_aload_n X 0 dX11_undo_44 rfl rfl ?_
    refine j_getI X fg_RX11_163 ln_0 ly_0 rfl dX11_undo_45 ?_
    refine j_aaload X ln_55 ly_55 (Or.inr (Or.inr rfl)) dX11_undo_48 h (fun k3 qk3 h => ?_)
    have hk3 := jrow24 qk3
    obtain ⟨σ4, hm5, h⟩ := jbv_some h
    refine j_callV (as := [.ref k3]) (st := []) (st1 := []) X ln_22 ly_22 rfl rfl sv_RX11_166 ⟨by decide, by decide⟩ rfl rfl (Nat.le_of_ble_eq_true rfl) rfl dX11_undo_49 jrv_v (c_X5_load jisP_22 ⟨hk3.1, hk3.2⟩ hm5) rfl ?_
    refine j_aload_n X 0 dX11_undo_52 rfl rfl ?_
    refine j_getI X fg_RX11_159 ln_0 ly_0 rfl dX11_undo_53 ?_
    obtain ⟨rfl, rfl⟩ := jin2 h
    exact j_iret X R0 dX11_undo_56
  · refine j_ldc (v := -1000002) X tw_458 dX11_undo_7 ?_
    obtain ⟨rfl, rfl⟩ := jin2 h
    exact j_iret X R0 dX11_undo_9
def f_X10_span (w : Nat) (a0 : Int32) (σ : jMem) : Option (Int32 × jMem) :=
  some ((a0, σ))
set_option maxRecDepth 100000 in
set_option maxHeartbeats 4000000 in
theorem c_X10_span {l : Launch} {D : va_G} {ad : Nat → Nat} {cid : Nat → ClassId} {w : Nat} {a0 : Int32} (hw : 16 ≤ w ∧ w ≤ 21) {σ : jMem} {r : Int32} {σ' : jMem} (h : f_X10_span w a0 σ = some (r, σ')) : jMet l D ad cid yX10_span cX10_span 2 (some .int) 0 0 [.ref w, .int a0] σ (some (.int r)) σ' := by
  refine jMet_of (ls0 := [some (.ref w), some (.int a0)]) (by decide) (Nat.le_of_ble_eq_true rfl) rfl (fun K X R0 _ => ?_)
  unfold f_X10_span at h
  refine j_iload_n X 1 dX10_span_0 rfl rfl ?_
  obtain ⟨rfl, rfl⟩ := jin2 h
  exact j_iret X R0 dX10_span_1
def f_X1_span (w : Nat) (a0 : Int32) (σ : jMem) : Option (Int32 × jMem) :=
  some (((a0 + (9 : Int32)), σ))
set_option maxRecDepth 100000 in
set_option maxHeartbeats 4000000 in
theorem c_X1_span {l : Launch} {D : va_G} {ad : Nat → Nat} {cid : Nat → ClassId} {w : Nat} {a0 : Int32} (hw : 18 ≤ w ∧ w ≤ 18) {σ : jMem} {r : Int32} {σ' : jMem} (h : f_X1_span w a0 σ = some (r, σ')) : jMet l D ad cid yX1_span cX1_span 2 (some .int) 0 0 [.ref w, .int a0] σ (some (.int r)) σ' := by
  refine jMet_of (ls0 := [some (.ref w), some (.int a0)]) (by decide) (Nat.le_of_ble_eq_true rfl) rfl (fun K X R0 _ => ?_)
  unfold f_X1_span at h
  refine j_iload_n X 1 dX1_span_0 rfl rfl ?_
  refine j_bipush (v := 9) X dX1_span_1 (by decide) ?_
  refine j_iadd X dX1_span_3 ?_
  obtain ⟨rfl, rfl⟩ := jin2 h
  exact j_iret X R0 dX1_span_4
