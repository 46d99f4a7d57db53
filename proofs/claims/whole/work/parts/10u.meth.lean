def f_X0_begin (a0 : Int32) (σ : jMem) : Option jMem :=
  if (16 : Int32) ≤ (σ.1 86 3) then
  some σ
else
  jst σ 87 16 (σ.1 86 3) a0 (fun σ1 =>
  jlet (jset σ1 86 3 ((σ1.1 86 3) + (1 : Int32))) (fun σ2 =>
  some σ2))
set_option maxRecDepth 100000 in
set_option maxHeartbeats 4000000 in
theorem c_X0_begin {l : Launch} {D : va_G} {ad : Nat → Nat} {cid : Nat → ClassId} {a0 : Int32}  {σ : jMem} {σ' : jMem} (h : f_X0_begin a0 σ = some σ') : jMet l D ad cid yX0_begin cX0_begin 2 none 0 0 [.ref 86, .int a0] σ none σ' := by
  refine jMet_of (ls0 := [some (.ref 86), some (.int a0)]) (by decide) (Nat.le_of_ble_eq_true rfl) rfl (fun K X R0 _ => ?_)
  unfold f_X0_begin at h
  refine j_aload_n X 0 dX0_begin_0 rfl rfl ?_
  refine j_getI X fg_RX0_15 ln_86 ly_86 rfl dX0_begin_1 ?_
  refine j_bipush (v := 16) X dX0_begin_4 (by decide) ?_
  refine j_icmp_ge (tgt := 29) X dX0_begin_6 (by decide) h (fun h => ?_) (fun h => ?_)
  · obtain rfl := Option.some.inj h
    exact j_vret X R0 dX0_begin_29
  · refine j_aload_n X 0 dX0_begin_9 rfl rfl ?_
    refine j_getR (t := 87) X fg_RX0_9 ln_86 ly_86 rfl dX0_begin_10 ?_
    refine j_aload_n X 0 dX0_begin_13 rfl rfl ?_
    refine j_getI X fg_RX0_15 ln_86 ly_86 rfl dX0_begin_14 ?_
    refine j_iload_n X 1 dX0_begin_17 rfl rfl ?_
    refine j_iastore X ln_87 ly_87 dX0_begin_18 h (fun σ1 h => ?_)
    refine j_aload_n X 0 dX0_begin_19 rfl rfl ?_
    refine j_dup X dX0_begin_20 rfl ?_
    refine j_getI X fg_RX0_15 ln_86 ly_86 rfl dX0_begin_21 ?_
    refine j_iconst (v := 1) X dX0_begin_24 (by decide) ?_
    refine j_iadd X dX0_begin_25 ?_
    refine j_put X fp_RX0_15 ln_86 ly_86 rfl rfl rfl dX0_begin_26 h (fun σ2 h => ?_)
    obtain rfl := Option.some.inj h
    exact j_vret X R0 dX0_begin_29
theorem sv_RX10_7 : jSiV RX10 7 yX0_begin cX0_begin 2 none 1 := ⟨tw_812, tw_787, tw_788, tw_12, tw_789, by decide, by decide, by decide +kernel⟩
def f_X10_mark (w : Nat) (σ : jMem) : Option (Int32 × jMem) :=
  jbv (f_X0_begin (20 : Int32) σ) (fun σ1 =>
  some (((σ1.1 86 0), σ1)))
set_option maxRecDepth 100000 in
set_option maxHeartbeats 4000000 in
theorem c_X10_mark {l : Launch} {D : va_G} {ad : Nat → Nat} {cid : Nat → ClassId} {w : Nat} (hw : 16 ≤ w ∧ w ≤ 21) {σ : jMem} {r : Int32} {σ' : jMem} (h : f_X10_mark w σ = some (r, σ')) : jMet l D ad cid yX10_mark cX10_mark 2 (some .int) 1 21 [.ref w, .ref 86] σ (some (.int r)) σ' := by
  refine jMet_of (ls0 := [some (.ref w), some (.ref 86)]) (by decide) (Nat.le_of_ble_eq_true rfl) rfl (fun K X R0 _ => ?_)
  unfold f_X10_mark at h
  refine j_aload_n X 1 dX10_mark_0 rfl rfl ?_
  refine j_bipush (v := 20) X dX10_mark_1 (by decide) ?_
  obtain ⟨σ1, hm2, h⟩ := jbv_some h
  refine j_callV (as := [.int (20 : Int32)]) (st := []) (st1 := []) X ln_86 ly_86 rfl rfl sv_RX10_7 ⟨by decide, by decide⟩ rfl rfl (Nat.le_of_ble_eq_true rfl) rfl dX10_mark_3 jrv_v (c_X0_begin  hm2) rfl ?_
  refine j_aload_n X 1 dX10_mark_6 rfl rfl ?_
  refine j_getI X fg_RX10_17 ln_86 ly_86 rfl dX10_mark_7 ?_
  obtain ⟨rfl, rfl⟩ := jin2 h
  exact j_iret X R0 dX10_mark_10
theorem sp_RX4_34 : jSiP RX4 34 yX10_mark cX10_mark 2 (some .int) 1 := ⟨tw_809, tw_1284, tw_95, tw_810, tw_4, tw_811, by decide, by decide +kernel⟩
theorem sv_RX4_19 : jSiV RX4 19 yX0_begin cX0_begin 2 none 1 := ⟨tw_793, tw_787, tw_788, tw_12, tw_789, by decide, by decide, by decide +kernel⟩
def f_X4_mark (w : Nat) (σ : jMem) : Option (Int32 × jMem) :=
  jbv (f_X0_begin (21 : Int32) σ) (fun σ1 =>
  jbd (f_X10_mark w σ1) (fun v3 σ4 =>
  some (((v3 + (σ4.1 86 1)), σ4))))
set_option maxRecDepth 100000 in
set_option maxHeartbeats 4000000 in
theorem c_X4_mark {l : Launch} {D : va_G} {ad : Nat → Nat} {cid : Nat → ClassId} {w : Nat} (hw : 17 ≤ w ∧ w ≤ 19) {σ : jMem} {r : Int32} {σ' : jMem} (h : f_X4_mark w σ = some (r, σ')) : jMet l D ad cid yX4_mark cX4_mark 2 (some .int) 2 42 [.ref w, .ref 86] σ (some (.int r)) σ' := by
  refine jMet_of (ls0 := [some (.ref w), some (.ref 86)]) (by decide) (Nat.le_of_ble_eq_true rfl) rfl (fun K X R0 _ => ?_)
  unfold f_X4_mark at h
  refine j_aload_n X 1 dX4_mark_0 rfl rfl ?_
  refine j_bipush (v := 21) X dX4_mark_1 (by decide) ?_
  obtain ⟨σ1, hm2, h⟩ := jbv_some h
  refine j_callV (as := [.int (21 : Int32)]) (st := []) (st1 := []) X ln_86 ly_86 rfl rfl sv_RX4_19 ⟨by decide, by decide⟩ rfl rfl (Nat.le_of_ble_eq_true rfl) rfl dX4_mark_3 jrv_v (c_X0_begin  hm2) rfl ?_
  refine j_aload_n X 0 dX4_mark_6 rfl rfl ?_
  refine j_aload_n X 1 dX4_mark_7 rfl rfl ?_
  obtain ⟨v3, σ4, hm5, h⟩ := jbd_some h
  obtain ⟨z6i, z6q, z61, z62⟩ := jw_cls (by omega : 16 ≤ w ∧ w ≤ 21)
  refine j_callP (as := [.ref 86]) (st := []) (st1 := [.int v3]) X (jw_lt hw) z61 z62 sp_RX4_34 ⟨by decide, by decide⟩ rfl rfl (Nat.le_of_ble_eq_true rfl) rfl dX4_mark_8 jrv_i (c_X10_mark (by omega : 16 ≤ w ∧ w ≤ 21) hm5) rfl ?_
  refine j_aload_n X 1 dX4_mark_11 rfl rfl ?_
  refine j_getI X fg_RX4_35 ln_86 ly_86 rfl dX4_mark_12 ?_
  refine j_iadd X dX4_mark_15 ?_
  obtain ⟨rfl, rfl⟩ := jin2 h
  exact j_iret X R0 dX4_mark_16
theorem sp_RX1_32 : jSiP RX1 32 yX4_mark cX4_mark 2 (some .int) 1 := ⟨tw_802, tw_798, tw_102, tw_796, tw_5, tw_808, by decide, by decide +kernel⟩
theorem sv_RX1_22 : jSiV RX1 22 yX0_begin cX0_begin 2 none 1 := ⟨tw_786, tw_787, tw_788, tw_12, tw_789, by decide, by decide, by decide +kernel⟩
def f_X1_mark (w : Nat) (σ : jMem) : Option (Int32 × jMem) :=
  jbv (f_X0_begin (24 : Int32) σ) (fun σ1 =>
  jbd (f_X4_mark w σ1) (fun v3 σ4 =>
  some ((((2 : Int32) * v3), σ4))))
set_option maxRecDepth 100000 in
set_option maxHeartbeats 4000000 in
theorem c_X1_mark {l : Launch} {D : va_G} {ad : Nat → Nat} {cid : Nat → ClassId} {w : Nat} (hw : 18 ≤ w ∧ w ≤ 18) {σ : jMem} {r : Int32} {σ' : jMem} (h : f_X1_mark w σ = some (r, σ')) : jMet l D ad cid yX1_mark cX1_mark 2 (some .int) 3 63 [.ref w, .ref 86] σ (some (.int r)) σ' := by
  refine jMet_of (ls0 := [some (.ref w), some (.ref 86)]) (by decide) (Nat.le_of_ble_eq_true rfl) rfl (fun K X R0 _ => ?_)
  unfold f_X1_mark at h
  refine j_aload_n X 1 dX1_mark_0 rfl rfl ?_
  refine j_bipush (v := 24) X dX1_mark_1 (by decide) ?_
  obtain ⟨σ1, hm2, h⟩ := jbv_some h
  refine j_callV (as := [.int (24 : Int32)]) (st := []) (st1 := []) X ln_86 ly_86 rfl rfl sv_RX1_22 ⟨by decide, by decide⟩ rfl rfl (Nat.le_of_ble_eq_true rfl) rfl dX1_mark_3 jrv_v (c_X0_begin  hm2) rfl ?_
  refine j_iconst (v := 2) X dX1_mark_6 (by decide) ?_
  refine j_aload_n X 0 dX1_mark_7 rfl rfl ?_
  refine j_aload_n X 1 dX1_mark_8 rfl rfl ?_
  obtain ⟨v3, σ4, hm5, h⟩ := jbd_some h
  obtain ⟨z6i, z6q, z61, z62⟩ := jw_cls (by omega : 16 ≤ w ∧ w ≤ 21)
  refine j_callP (as := [.ref 86]) (st := [.int (2 : Int32)]) (st1 := [.int v3, .int (2 : Int32)]) X (jw_lt hw) z61 z62 sp_RX1_32 ⟨by decide, by decide⟩ rfl rfl (Nat.le_of_ble_eq_true rfl) rfl dX1_mark_9 jrv_i (c_X4_mark (by omega : 17 ≤ w ∧ w ≤ 19) hm5) rfl ?_
  refine j_imul X dX1_mark_12 ?_
  obtain ⟨rfl, rfl⟩ := jin2 h
  exact j_iret X R0 dX1_mark_13
theorem sp_RX3_27 : jSiP RX3 27 yX4_mark cX4_mark 2 (some .int) 1 := ⟨tw_807, tw_798, tw_109, tw_796, tw_5, tw_808, by decide, by decide +kernel⟩
theorem sv_RX3_21 : jSiV RX3 21 yX0_begin cX0_begin 2 none 1 := ⟨tw_806, tw_787, tw_788, tw_12, tw_789, by decide, by decide, by decide +kernel⟩
def f_X3_mark (w : Nat) (σ : jMem) : Option (Int32 × jMem) :=
  jbv (f_X0_begin (22 : Int32) σ) (fun σ1 =>
  jbd (f_X4_mark w σ1) (fun v3 σ4 =>
  some (((v3 - (1000 : Int32)), σ4))))
set_option maxRecDepth 100000 in
set_option maxHeartbeats 4000000 in
theorem c_X3_mark {l : Launch} {D : va_G} {ad : Nat → Nat} {cid : Nat → ClassId} {w : Nat} (hw : 19 ≤ w ∧ w ≤ 19) {σ : jMem} {r : Int32} {σ' : jMem} (h : f_X3_mark w σ = some (r, σ')) : jMet l D ad cid yX3_mark cX3_mark 2 (some .int) 3 63 [.ref w, .ref 86] σ (some (.int r)) σ' := by
  refine jMet_of (ls0 := [some (.ref w), some (.ref 86)]) (by decide) (Nat.le_of_ble_eq_true rfl) rfl (fun K X R0 _ => ?_)
  unfold f_X3_mark at h
  refine j_aload_n X 1 dX3_mark_0 rfl rfl ?_
  refine j_bipush (v := 22) X dX3_mark_1 (by decide) ?_
  obtain ⟨σ1, hm2, h⟩ := jbv_some h
  refine j_callV (as := [.int (22 : Int32)]) (st := []) (st1 := []) X ln_86 ly_86 rfl rfl sv_RX3_21 ⟨by decide, by decide⟩ rfl rfl (Nat.le_of_ble_eq_true rfl) rfl dX3_mark_3 jrv_v (c_X0_begin  hm2) rfl ?_
  refine j_aload_n X 0 dX3_mark_6 rfl rfl ?_
  refine j_aload_n X 1 dX3_mark_7 rfl rfl ?_
  obtain ⟨v3, σ4, hm5, h⟩ := jbd_some h
  obtain ⟨z6i, z6q, z61, z62⟩ := jw_cls (by omega : 16 ≤ w ∧ w ≤ 21)
  refine j_callP (as := [.ref 86]) (st := []) (st1 := [.int v3]) X (jw_lt hw) z61 z62 sp_RX3_27 ⟨by decide, by decide⟩ rfl rfl (Nat.le_of_ble_eq_true rfl) rfl dX3_mark_8 jrv_i (c_X4_mark (by omega : 17 ≤ w ∧ w ≤ 19) hm5) rfl ?_
  refine j_sipush (v := 1000) X dX3_mark_11 (by decide) ?_
  refine j_isub X dX3_mark_14 ?_
  obtain ⟨rfl, rfl⟩ := jin2 h
  exact j_iret X R0 dX3_mark_15
def f_X10_size (w : Nat) (σ : jMem) : Option (Int32 × jMem) :=
  jbv (f_X0_begin (10 : Int32) σ) (fun σ1 =>
  some (((σ1.1 86 2), σ1)))
set_option maxRecDepth 100000 in
set_option maxHeartbeats 4000000 in
theorem c_X10_size {l : Launch} {D : va_G} {ad : Nat → Nat} {cid : Nat → ClassId} {w : Nat} (hw : 16 ≤ w ∧ w ≤ 21) {σ : jMem} {r : Int32} {σ' : jMem} (h : f_X10_size w σ = some (r, σ')) : jMet l D ad cid yX10_size cX10_size 2 (some .int) 1 21 [.ref w, .ref 86] σ (some (.int r)) σ' := by
  refine jMet_of (ls0 := [some (.ref w), some (.ref 86)]) (by decide) (Nat.le_of_ble_eq_true rfl) rfl (fun K X R0 _ => ?_)
  unfold f_X10_size at h
  refine j_aload_n X 1 dX10_size_0 rfl rfl ?_
  refine j_bipush (v := 10) X dX10_size_1 (by decide) ?_
  obtain ⟨σ1, hm2, h⟩ := jbv_some h
  refine j_callV (as := [.int (10 : Int32)]) (st := []) (st1 := []) X ln_86 ly_86 rfl rfl sv_RX10_7 ⟨by decide, by decide⟩ rfl rfl (Nat.le_of_ble_eq_true rfl) rfl dX10_size_3 jrv_v (c_X0_begin  hm2) rfl ?_
  refine j_aload_n X 1 dX10_size_6 rfl rfl ?_
  refine j_getI X fg_RX10_13 ln_86 ly_86 rfl dX10_size_7 ?_
  obtain ⟨rfl, rfl⟩ := jin2 h
  exact j_iret X R0 dX10_size_10
theorem sp_RX8_19 : jSiP RX8 19 yX10_size cX10_size 2 (some .int) 1 := ⟨tw_823, tw_782, tw_116, tw_780, tw_4, tw_825, by decide, by decide +kernel⟩
theorem sv_RX8_13 : jSiV RX8 13 yX0_begin cX0_begin 2 none 1 := ⟨tw_822, tw_787, tw_788, tw_12, tw_789, by decide, by decide, by decide +kernel⟩
def f_X8_size (w : Nat) (σ : jMem) : Option (Int32 × jMem) :=
  jbv (f_X0_begin (13 : Int32) σ) (fun σ1 =>
  jbd (f_X10_size w σ1) (fun v3 σ4 =>
  some (((v3 - (100 : Int32)), σ4))))
set_option maxRecDepth 100000 in
set_option maxHeartbeats 4000000 in
theorem c_X8_size {l : Launch} {D : va_G} {ad : Nat → Nat} {cid : Nat → ClassId} {w : Nat} (hw : 20 ≤ w ∧ w ≤ 21) {σ : jMem} {r : Int32} {σ' : jMem} (h : f_X8_size w σ = some (r, σ')) : jMet l D ad cid yX8_size cX8_size 2 (some .int) 2 42 [.ref w, .ref 86] σ (some (.int r)) σ' := by
  refine jMet_of (ls0 := [some (.ref w), some (.ref 86)]) (by decide) (Nat.le_of_ble_eq_true rfl) rfl (fun K X R0 _ => ?_)
  unfold f_X8_size at h
  refine j_aload_n X 1 dX8_size_0 rfl rfl ?_
  refine j_bipush (v := 13) X dX8_size_1 (by decide) ?_
  obtain ⟨σ1, hm2, h⟩ := jbv_some h
  refine j_callV (as := [.int (13 : Int32)]) (st := []) (st1 := []) X ln_86 ly_86 rfl rfl sv_RX8_13 ⟨by decide, by decide⟩ rfl rfl (Nat.le_of_ble_eq_true rfl) rfl dX8_size_3 jrv_v (c_X0_begin  hm2) rfl ?_
  refine j_aload_n X 0 dX8_size_6 rfl rfl ?_
  refine j_aload_n X 1 dX8_size_7 rfl rfl ?_
  obtain ⟨v3, σ4, hm5, h⟩ := jbd_some h
  obtain ⟨z6i, z6q, z61, z62⟩ := jw_cls (by omega : 16 ≤ w ∧ w ≤ 21)
  refine j_callP (as := [.ref 86]) (st := []) (st1 := [.int v3]) X (jw_lt hw) z61 z62 sp_RX8_19 ⟨by decide, by decide⟩ rfl rfl (Nat.le_of_ble_eq_true rfl) rfl dX8_size_8 jrv_i (c_X10_size (by omega : 16 ≤ w ∧ w ≤ 21) hm5) rfl ?_
  refine j_bipush (v := 100) X dX8_size_11 (by decide) ?_
  refine j_isub X dX8_size_13 ?_
  obtain ⟨rfl, rfl⟩ := jin2 h
  exact j_iret X R0 dX8_size_14
theorem sp_RX7_19 : jSiP RX7 19 yX8_size cX8_size 2 (some .int) 1 := ⟨tw_819, tw_1285, tw_123, tw_820, tw_8, tw_821, by decide, by decide +kernel⟩
theorem sv_RX7_13 : jSiV RX7 13 yX0_begin cX0_begin 2 none 1 := ⟨tw_818, tw_787, tw_788, tw_12, tw_789, by decide, by decide, by decide +kernel⟩
def f_X7_size (w : Nat) (σ : jMem) : Option (Int32 × jMem) :=
  jbv (f_X0_begin (14 : Int32) σ) (fun σ1 =>
  jbd (f_X8_size w σ1) (fun v3 σ4 =>
  some ((((2 : Int32) * v3), σ4))))
set_option maxRecDepth 100000 in
set_option maxHeartbeats 4000000 in
theorem c_X7_size {l : Launch} {D : va_G} {ad : Nat → Nat} {cid : Nat → ClassId} {w : Nat} (hw : 21 ≤ w ∧ w ≤ 21) {σ : jMem} {r : Int32} {σ' : jMem} (h : f_X7_size w σ = some (r, σ')) : jMet l D ad cid yX7_size cX7_size 2 (some .int) 3 63 [.ref w, .ref 86] σ (some (.int r)) σ' := by
  refine jMet_of (ls0 := [some (.ref w), some (.ref 86)]) (by decide) (Nat.le_of_ble_eq_true rfl) rfl (fun K X R0 _ => ?_)
  unfold f_X7_size at h
  refine j_aload_n X 1 dX7_size_0 rfl rfl ?_
  refine j_bipush (v := 14) X dX7_size_1 (by decide) ?_
  obtain ⟨σ1, hm2, h⟩ := jbv_some h
  refine j_callV (as := [.int (14 : Int32)]) (st := []) (st1 := []) X ln_86 ly_86 rfl rfl sv_RX7_13 ⟨by decide, by decide⟩ rfl rfl (Nat.le_of_ble_eq_true rfl) rfl dX7_size_3 jrv_v (c_X0_begin  hm2) rfl ?_
  refine j_iconst (v := 2) X dX7_size_6 (by decide) ?_
  refine j_aload_n X 0 dX7_size_7 rfl rfl ?_
  refine j_aload_n X 1 dX7_size_8 rfl rfl ?_
  obtain ⟨v3, σ4, hm5, h⟩ := jbd_some h
  obtain ⟨z6i, z6q, z61, z62⟩ := jw_cls (by omega : 16 ≤ w ∧ w ≤ 21)
  refine j_callP (as := [.ref 86]) (st := [.int (2 : Int32)]) (st1 := [.int v3, .int (2 : Int32)]) X (jw_lt hw) z61 z62 sp_RX7_19 ⟨by decide, by decide⟩ rfl rfl (Nat.le_of_ble_eq_true rfl) rfl dX7_size_9 jrv_i (c_X8_size (by omega : 20 ≤ w ∧ w ≤ 21) hm5) rfl ?_
  refine j_imul X dX7_size_12 ?_
  obtain ⟨rfl, rfl⟩ := jin2 h
  exact j_iret X R0 dX7_size_13
theorem sp_RX8_23 : jSiP RX8 23 yX10_mark cX10_mark 2 (some .int) 1 := ⟨tw_829, tw_1284, tw_116, tw_810, tw_4, tw_811, by decide, by decide +kernel⟩
def vf_X8_size (w : Nat)  (σ : jMem) : Option (Int32 × jMem) :=
  if w = 20 then f_X8_size 20  σ else
  if w = 21 then f_X7_size 21  σ else
  none
theorem su_RX8_26_20 : jSiU RX8 26 RX8 yX8_size yX8_size cX8_size 2 (some .int) 1 := ⟨tw_830, tw_1285, tw_820, ⟨_, _, _, tw_821⟩, tw_1291, tw_820, tw_8, tw_821, by decide, by decide, by decide +kernel⟩
theorem su_RX8_26_21 : jSiU RX8 26 RX7 yX8_size yX7_size cX7_size 2 (some .int) 1 := ⟨tw_830, tw_1285, tw_820, ⟨_, _, _, tw_821⟩, tw_1290, tw_816, tw_9, tw_817, by decide, by decide, by decide +kernel⟩
set_option maxRecDepth 100000 in
theorem vs_X8_mark_15 {K : jK} (X : JX K cX8_mark 3 RX8 4 84) {w : Nat} (hw : 20 ≤ w ∧ w ≤ 21)   {ls : List (Option Value)} {st : List Value} {σ σ' : jMem} {v : Int32} (hnl : ls.length = 3) (h8 : (st.map fun v => v.category).sum ≤ 8) (hm : vf_X8_size w  σ = some (v, σ')) (kk : J K (15 + 3) ls (.int v :: st) σ') : J K 15 ls (.ref 86 :: .ref w :: st) σ := by
  rcases (show w = 20 ∨ w = 21 by omega) with rfl | rfl
  · exact j_callU (as := [.ref 86]) (st := st) (st1 := .int v :: st) X ln_20 ly_20 rfl su_RX8_26_20 ⟨by decide, by decide⟩ rfl rfl h8 hnl dX8_mark_15 jrv_i (c_X8_size (by decide)  hm) rfl kk
  · exact j_callU (as := [.ref 86]) (st := st) (st1 := .int v :: st) X ln_21 ly_21 rfl su_RX8_26_21 ⟨by decide, by decide⟩ rfl rfl h8 hnl dX8_mark_15 jrv_i (c_X7_size (by decide)  hm) rfl kk
def f_X8_mark (w : Nat) (σ : jMem) : Option (Int32 × jMem) :=
  jbv (f_X0_begin (23 : Int32) σ) (fun σ1 =>
  jbd (f_X10_mark w σ1) (fun v3 σ4 =>
  jbd (vf_X8_size w  σ4) (fun v6 σ7 =>
  some (((v3 - v6), σ7)))))
set_option maxRecDepth 100000 in
set_option maxHeartbeats 4000000 in
theorem c_X8_mark {l : Launch} {D : va_G} {ad : Nat → Nat} {cid : Nat → ClassId} {w : Nat} (hw : 20 ≤ w ∧ w ≤ 21) {σ : jMem} {r : Int32} {σ' : jMem} (h : f_X8_mark w σ = some (r, σ')) : jMet l D ad cid yX8_mark cX8_mark 3 (some .int) 4 84 [.ref w, .ref 86] σ (some (.int r)) σ' := by
  refine jMet_of (ls0 := [some (.ref w), some (.ref 86), none]) (by decide) (Nat.le_of_ble_eq_true rfl) rfl (fun K X R0 _ => ?_)
  unfold f_X8_mark at h
  refine j_aload_n X 1 dX8_mark_0 rfl rfl ?_
  refine j_bipush (v := 23) X dX8_mark_1 (by decide) ?_
  obtain ⟨σ1, hm2, h⟩ := jbv_some h
  refine j_callV (as := [.int (23 : Int32)]) (st := []) (st1 := []) X ln_86 ly_86 rfl rfl sv_RX8_13 ⟨by decide, by decide⟩ rfl rfl (Nat.le_of_ble_eq_true rfl) rfl dX8_mark_3 jrv_v (c_X0_begin  hm2) rfl ?_
  refine j_aload_n X 0 dX8_mark_6 rfl rfl ?_
  refine j_aload_n X 1 dX8_mark_7 rfl rfl ?_
  obtain ⟨v3, σ4, hm5, h⟩ := jbd_some h
  obtain ⟨z9i, z9q, z91, z92⟩ := jw_cls (by omega : 16 ≤ w ∧ w ≤ 21)
  refine j_callP (as := [.ref 86]) (st := []) (st1 := [.int v3]) X (jw_lt hw) z91 z92 sp_RX8_23 ⟨by decide, by decide⟩ rfl rfl (Nat.le_of_ble_eq_true rfl) rfl dX8_mark_8 jrv_i (c_X10_mark (by omega : 16 ≤ w ∧ w ≤ 21) hm5) rfl ?_
  refine j_istore_n (ls' := [some (.ref w), some (.ref 86), some (.int v3)]) X 2 dX8_mark_11 rfl (Nat.le_of_ble_eq_true rfl) rfl ?_
  refine j_iload_n X 2 dX8_mark_12 rfl rfl ?_
  refine j_aload_n X 0 dX8_mark_13 rfl rfl ?_
  refine j_aload_n X 1 dX8_mark_14 rfl rfl ?_
  obtain ⟨v6, σ7, hm8, h⟩ := jbd_some h
  refine vs_X8_mark_15 (st := [.int v3]) X hw  rfl (Nat.le_of_ble_eq_true rfl) hm8 ?_
  refine j_isub X dX8_mark_18 ?_
  obtain ⟨rfl, rfl⟩ := jin2 h
  exact j_iret X R0 dX8_mark_19
theorem sp_RX4_25 : jSiP RX4 25 yX10_size cX10_size 2 (some .int) 1 := ⟨tw_794, tw_782, tw_95, tw_780, tw_4, tw_825, by decide, by decide +kernel⟩
def vf_X4_mark (w : Nat)  (σ : jMem) : Option (Int32 × jMem) :=
  if w = 17 then f_X4_mark 17  σ else
  if w = 18 then f_X1_mark 18  σ else
  if w = 19 then f_X3_mark 19  σ else
  none
theorem su_RX4_29_17 : jSiU RX4 29 RX4 yX4_mark yX4_mark cX4_mark 2 (some .int) 1 := ⟨tw_795, tw_798, tw_796, ⟨_, _, _, tw_808⟩, tw_797, tw_796, tw_5, tw_808, by decide, by decide, by decide +kernel⟩
theorem su_RX4_29_18 : jSiU RX4 29 RX1 yX4_mark yX1_mark cX1_mark 2 (some .int) 1 := ⟨tw_795, tw_798, tw_796, ⟨_, _, _, tw_808⟩, tw_799, tw_800, tw_6, tw_801, by decide, by decide, by decide +kernel⟩
theorem su_RX4_29_19 : jSiU RX4 29 RX3 yX4_mark yX3_mark cX3_mark 2 (some .int) 1 := ⟨tw_795, tw_798, tw_796, ⟨_, _, _, tw_808⟩, tw_803, tw_804, tw_7, tw_805, by decide, by decide, by decide +kernel⟩
set_option maxRecDepth 100000 in
theorem vs_X4_size_15 {K : jK} (X : JX K cX4_size 3 RX4 4 84) {w : Nat} (hw : 17 ≤ w ∧ w ≤ 19)   {ls : List (Option Value)} {st : List Value} {σ σ' : jMem} {v : Int32} (hnl : ls.length = 3) (h8 : (st.map fun v => v.category).sum ≤ 8) (hm : vf_X4_mark w  σ = some (v, σ')) (kk : J K (15 + 3) ls (.int v :: st) σ') : J K 15 ls (.ref 86 :: .ref w :: st) σ := by
  rcases (show w = 17 ∨ w = 18 ∨ w = 19 by omega) with rfl | rfl | rfl
  · exact j_callU (as := [.ref 86]) (st := st) (st1 := .int v :: st) X ln_17 ly_17 rfl su_RX4_29_17 ⟨by decide, by decide⟩ rfl rfl h8 hnl dX4_size_15 jrv_i (c_X4_mark (by decide)  hm) rfl kk
  · exact j_callU (as := [.ref 86]) (st := st) (st1 := .int v :: st) X ln_18 ly_18 rfl su_RX4_29_18 ⟨by decide, by decide⟩ rfl rfl h8 hnl dX4_size_15 jrv_i (c_X1_mark (by decide)  hm) rfl kk
  · exact j_callU (as := [.ref 86]) (st := st) (st1 := .int v :: st) X ln_19 ly_19 rfl su_RX4_29_19 ⟨by decide, by decide⟩ rfl rfl h8 hnl dX4_size_15 jrv_i (c_X3_mark (by decide)  hm) rfl kk
def f_X4_size (w : Nat) (σ : jMem) : Option (Int32 × jMem) :=
  jbv (f_X0_begin (11 : Int32) σ) (fun σ1 =>
  jbd (f_X10_size w σ1) (fun v3 σ4 =>
  jbd (vf_X4_mark w  σ4) (fun v6 σ7 =>
  some (((v3 + v6), σ7)))))
set_option maxRecDepth 100000 in
set_option maxHeartbeats 4000000 in
theorem c_X4_size {l : Launch} {D : va_G} {ad : Nat → Nat} {cid : Nat → ClassId} {w : Nat} (hw : 17 ≤ w ∧ w ≤ 19) {σ : jMem} {r : Int32} {σ' : jMem} (h : f_X4_size w σ = some (r, σ')) : jMet l D ad cid yX4_size cX4_size 3 (some .int) 4 84 [.ref w, .ref 86] σ (some (.int r)) σ' := by
  refine jMet_of (ls0 := [some (.ref w), some (.ref 86), none]) (by decide) (Nat.le_of_ble_eq_true rfl) rfl (fun K X R0 _ => ?_)
  unfold f_X4_size at h
  refine j_aload_n X 1 dX4_size_0 rfl rfl ?_
  refine j_bipush (v := 11) X dX4_size_1 (by decide) ?_
  obtain ⟨σ1, hm2, h⟩ := jbv_some h
  refine j_callV (as := [.int (11 : Int32)]) (st := []) (st1 := []) X ln_86 ly_86 rfl rfl sv_RX4_19 ⟨by decide, by decide⟩ rfl rfl (Nat.le_of_ble_eq_true rfl) rfl dX4_size_3 jrv_v (c_X0_begin  hm2) rfl ?_
  refine j_aload_n X 0 dX4_size_6 rfl rfl ?_
  refine j_aload_n X 1 dX4_size_7 rfl rfl ?_
  obtain ⟨v3, σ4, hm5, h⟩ := jbd_some h
  obtain ⟨z9i, z9q, z91, z92⟩ := jw_cls (by omega : 16 ≤ w ∧ w ≤ 21)
  refine j_callP (as := [.ref 86]) (st := []) (st1 := [.int v3]) X (jw_lt hw) z91 z92 sp_RX4_25 ⟨by decide, by decide⟩ rfl rfl (Nat.le_of_ble_eq_true rfl) rfl dX4_size_8 jrv_i (c_X10_size (by omega : 16 ≤ w ∧ w ≤ 21) hm5) rfl ?_
  refine j_istore_n (ls' := [some (.ref w), some (.ref 86), some (.int v3)]) X 2 dX4_size_11 rfl (Nat.le_of_ble_eq_true rfl) rfl ?_
  refine j_iload_n X 2 dX4_size_12 rfl rfl ?_
  refine j_aload_n X 0 dX4_size_13 rfl rfl ?_
  refine j_aload_n X 1 dX4_size_14 rfl rfl ?_
  obtain ⟨v6, σ7, hm8, h⟩ := jbd_some h
  refine vs_X4_size_15 (st := [.int v3]) X hw  rfl (Nat.le_of_ble_eq_true rfl) hm8 ?_
  refine j_iadd X dX4_size_18 ?_
  obtain ⟨rfl, rfl⟩ := jin2 h
  exact j_iret X R0 dX4_size_19
theorem sp_RX1_28 : jSiP RX1 28 yX4_size cX4_size 3 (some .int) 1 := ⟨tw_790, tw_1283, tw_102, tw_791, tw_5, tw_792, by decide, by decide +kernel⟩
def f_X1_size (w : Nat) (σ : jMem) : Option (Int32 × jMem) :=
  jbv (f_X0_begin (12 : Int32) σ) (fun σ1 =>
  jbd (f_X4_size w σ1) (fun v3 σ4 =>
  some (((-v3), σ4))))
set_option maxRecDepth 100000 in
set_option maxHeartbeats 4000000 in
theorem c_X1_size {l : Launch} {D : va_G} {ad : Nat → Nat} {cid : Nat → ClassId} {w : Nat} (hw : 18 ≤ w ∧ w ≤ 18) {σ : jMem} {r : Int32} {σ' : jMem} (h : f_X1_size w σ = some (r, σ')) : jMet l D ad cid yX1_size cX1_size 2 (some .int) 5 106 [.ref w, .ref 86] σ (some (.int r)) σ' := by
  refine jMet_of (ls0 := [some (.ref w), some (.ref 86)]) (by decide) (Nat.le_of_ble_eq_true rfl) rfl (fun K X R0 _ => ?_)
  unfold f_X1_size at h
  refine j_aload_n X 1 dX1_size_0 rfl rfl ?_
  refine j_bipush (v := 12) X dX1_size_1 (by decide) ?_
  obtain ⟨σ1, hm2, h⟩ := jbv_some h
  refine j_callV (as := [.int (12 : Int32)]) (st := []) (st1 := []) X ln_86 ly_86 rfl rfl sv_RX1_22 ⟨by decide, by decide⟩ rfl rfl (Nat.le_of_ble_eq_true rfl) rfl dX1_size_3 jrv_v (c_X0_begin  hm2) rfl ?_
  refine j_aload_n X 0 dX1_size_6 rfl rfl ?_
  refine j_aload_n X 1 dX1_size_7 rfl rfl ?_
  obtain ⟨v3, σ4, hm5, h⟩ := jbd_some h
  obtain ⟨z6i, z6q, z61, z62⟩ := jw_cls (by omega : 16 ≤ w ∧ w ≤ 21)
  refine j_callP (as := [.ref 86]) (st := []) (st1 := [.int v3]) X (jw_lt hw) z61 z62 sp_RX1_28 ⟨by decide, by decide⟩ rfl rfl (Nat.le_of_ble_eq_true rfl) rfl dX1_size_8 jrv_i (c_X4_size (by omega : 17 ≤ w ∧ w ≤ 19) hm5) rfl ?_
  refine j_ineg X dX1_size_11 ?_
  obtain ⟨rfl, rfl⟩ := jin2 h
  exact j_iret X R0 dX1_size_12
