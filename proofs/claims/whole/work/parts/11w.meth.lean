theorem ss_RX11_316 : jSiS RX11 316 yX11_isOfKind cX11_isOfKind 2 (some .boolean) 2 := ⟨tw_772, tw_773, tw_1, tw_774, by decide, by decide, by decide +kernel⟩
def f_X11_as (a0 : Int32) (a1 : Int32) (σ : jMem) : Option (Int32 × jMem) :=
  jbd (f_X5_hasWitness 22 a0 σ) (fun v1 σ2 =>
  if v1 = 0 then
  some (((-1000001 : Int32), σ2))
else
  if a1 < 0 then
  some (((-1000001 : Int32), σ2))
else
  if a1 < (6 : Int32) then
  jld σ2 26 6 a0 (fun v4 =>
  jldr 6 16 1 v4 (fun k5 =>
  jbd (f_X11_isOfKind k5 a1 σ2) (fun v6 σ7 =>
  if v6 = 0 then
  jbd (f_X11_found (3 : Int32) σ7) (fun v9 σ10 =>
  some ((v9, σ10)))
else
  jbd (f_X11_unfound a0 σ7) (fun v12 σ13 =>
  some ((v12, σ13))))))
else
  some (((-1000001 : Int32), σ2)))
set_option maxRecDepth 100000 in
set_option maxHeartbeats 4000000 in
theorem c_X11_as {l : Launch} {D : va_G} {ad : Nat → Nat} {cid : Nat → ClassId} {a0 : Int32} {a1 : Int32}  {σ : jMem} {r : Int32} {σ' : jMem} (h : f_X11_as a0 a1 σ = some (r, σ')) : jMet l D ad cid yX11_as cX11_as 3 (some .int) 1 21 [.ref 0, .int a0, .int a1] σ (some (.int r)) σ' := by
  refine jMet_of (ls0 := [some (.ref 0), some (.int a0), some (.int a1)]) (by decide) (Nat.le_of_ble_eq_true rfl) rfl (fun K X R0 _ => ?_)
  unfold f_X11_as at h
  refine j_aload_n X 0 dX11_as_0 rfl rfl ?_
  refine j_getR (t := 22) X fg_RX11_50 ln_0 ly_0 rfl dX11_as_1 ?_
  refine j_iload_n X 1 dX11_as_4 rfl rfl ?_
  obtain ⟨v1, σ2, hm3, h⟩ := jbd_some h
  refine j_callV (as := [.int a0]) (st := []) (st1 := [.int v1]) X ln_22 ly_22 rfl rfl sv_RX11_214 ⟨by decide, by decide⟩ rfl rfl (Nat.le_of_ble_eq_true rfl) rfl dX11_as_5 jrv_i (c_X5_hasWitness jisP_22 hm3) rfl ?_
  refine j_if_eq (tgt := 21) X dX11_as_8 (by decide) h (fun h => ?_) (fun h => ?_)
  · refine j_ldc (v := -1000001) X tw_318 dX11_as_21 ?_
    obtain ⟨rfl, rfl⟩ := jin2 h
    exact j_iret X R0 dX11_as_23
  · refine j_iload_n X 2 dX11_as_11 rfl rfl ?_
    refine j_if_lt (tgt := 21) X dX11_as_12 (by decide) h (fun h => ?_) (fun h => ?_)
    · refine j_ldc (v := -1000001) X tw_318 dX11_as_21 ?_
      obtain ⟨rfl, rfl⟩ := jin2 h
      exact j_iret X R0 dX11_as_23
    · refine j_iload_n X 2 dX11_as_15 rfl rfl ?_
      refine j_bipush (v := 6) X dX11_as_16 (by decide) ?_
      refine j_icmp_lt (tgt := 24) X dX11_as_18 (by decide) h (fun h => ?_) (fun h => ?_)
      · refine j_aload_n X 0 dX11_as_24 rfl rfl ?_
        refine j_getR (t := 15) X fg_RX11_25 ln_0 ly_0 rfl dX11_as_25 ?_
        refine j_aload_n X 0 dX11_as_28 rfl rfl ?_
        refine j_getR (t := 22) X fg_RX11_50 ln_0 ly_0 rfl dX11_as_29 ?_
        refine j_getR (t := 26) X fg_RX11_313 ln_22 ly_22 rfl dX11_as_32 ?_
        refine j_iload_n X 1 dX11_as_35 rfl rfl ?_
        refine j_iaload X ln_26 ly_26 dX11_as_36 h (fun v4 h => ?_)
        refine j_aaload X ln_15 ly_15 (Or.inl rfl) dX11_as_37 h (fun k5 qk5 h => ?_)
        have hk5 := jrow6 qk5
        refine j_iload_n X 2 dX11_as_38 rfl rfl ?_
        obtain ⟨v6, σ7, hm8, h⟩ := jbd_some h
        refine j_callS (as := [.ref k5, .int a1]) (st := []) (st1 := [.int v6]) X ss_RX11_316 ⟨by decide, by decide⟩ rfl rfl (Nat.le_of_ble_eq_true rfl) rfl dX11_as_39 jrv_i (c_X11_isOfKind (by omega : 16 ≤ k5 ∧ k5 ≤ 21) hm8) rfl ?_
        refine j_if_eq (tgt := 53) X dX11_as_42 (by decide) h (fun h => ?_) (fun h => ?_)
        · refine j_aload_n X 0 dX11_as_53 rfl rfl ?_
          refine j_iconst (v := 3) X dX11_as_54 (by decide) ?_
          obtain ⟨v9, σ10, hm11, h⟩ := jbd_some h
          refine j_callV (as := [.int (3 : Int32)]) (st := []) (st1 := [.int v9]) X ln_0 ly_0 rfl rfl sv_RX11_89 ⟨by decide, by decide⟩ rfl rfl (Nat.le_of_ble_eq_true rfl) rfl dX11_as_55 jrv_i (c_X11_found  hm11) rfl ?_
          obtain ⟨rfl, rfl⟩ := jin2 h
          exact j_iret X R0 dX11_as_58
        · refine j_aload_n X 0 dX11_as_45 rfl rfl ?_
          refine j_iload_n X 1 dX11_as_46 rfl rfl ?_
          obtain ⟨v12, σ13, hm14, h⟩ := jbd_some h
          refine j_callV (as := [.int a0]) (st := []) (st1 := [.int v12]) X ln_0 ly_0 rfl rfl sv_RX11_97 ⟨by decide, by decide⟩ rfl rfl (Nat.le_of_ble_eq_true rfl) rfl dX11_as_47 jrv_i (c_X11_unfound  hm14) rfl ?_
          refine j_goto (tgt := 58) X dX11_as_50 (by decide) ?_
          obtain ⟨rfl, rfl⟩ := jin2 h
          exact j_iret X R0 dX11_as_58
      · refine j_ldc (v := -1000001) X tw_318 dX11_as_21 ?_
        obtain ⟨rfl, rfl⟩ := jin2 h
        exact j_iret X R0 dX11_as_23
def f_X0_begin (a0 : Int32) (σ : jMem) : Option jMem :=
  if (16 : Int32) ≤ (σ.1 86 3) then
  some σ
else
  jst σ 87 16 (σ.1 86 3) a0 (fun σ1 =>
  jlet (jset σ1 86 3 ((σ1.1 86 3) + (1 : Int32))) (fun σ2 =>
  some σ2))
set_option maxRecDepth 100000 in
set_option maxHeartbeats 4000000 in
theorem c_X0_begin {l : Launch} {D : va_G} {ad : Nat → Nat} {cid : Nat → ClassId} {a0 : Int32}  {σ : jMem} {σ' : jMem} (h : f_X0_begin a0 σ = some σ') : jMet l D ad cid yX0_begin cX0_begin 2 none 0 0 [.ref 86, .int a0] σ none σ' := by
  refine jMet_of (ls0 := [some (.ref 86), some (.int a0)]) (by decide) (Nat.le_of_ble_eq_true rfl) rfl (fun K X R0 _ => ?_)
  unfold f_X0_begin at h
  refine j_aload_n X 0 dX0_begin_0 rfl rfl ?_
  refine j_getI X fg_RX0_15 ln_86 ly_86 rfl dX0_begin_1 ?_
  refine j_bipush (v := 16) X dX0_begin_4 (by decide) ?_
  refine j_icmp_ge (tgt := 29) X dX0_begin_6 (by decide) h (fun h => ?_) (fun h => ?_)
  · obtain rfl := Option.some.inj h
    exact j_vret X R0 dX0_begin_29
  · refine j_aload_n X 0 dX0_begin_9 rfl rfl ?_
    refine j_getR (t := 87) X fg_RX0_9 ln_86 ly_86 rfl dX0_begin_10 ?_
    refine j_aload_n X 0 dX0_begin_13 rfl rfl ?_
    refine j_getI X fg_RX0_15 ln_86 ly_86 rfl dX0_begin_14 ?_
    refine j_iload_n X 1 dX0_begin_17 rfl rfl ?_
    refine j_iastore X ln_87 ly_87 dX0_begin_18 h (fun σ1 h => ?_)
    refine j_aload_n X 0 dX0_begin_19 rfl rfl ?_
    refine j_dup X dX0_begin_20 rfl ?_
    refine j_getI X fg_RX0_15 ln_86 ly_86 rfl dX0_begin_21 ?_
    refine j_iconst (v := 1) X dX0_begin_24 (by decide) ?_
    refine j_iadd X dX0_begin_25 ?_
    refine j_put X fp_RX0_15 ln_86 ly_86 rfl rfl rfl dX0_begin_26 h (fun σ2 h => ?_)
    obtain rfl := Option.some.inj h
    exact j_vret X R0 dX0_begin_29
theorem sv_RX10_7 : jSiV RX10 7 yX0_begin cX0_begin 2 none 1 := ⟨tw_812, tw_787, tw_788, tw_12, tw_789, by decide, by decide, by decide +kernel⟩
def f_X10_mark (w : Nat) (σ : jMem) : Option (Int32 × jMem) :=
  jbv (f_X0_begin (20 : Int32) σ) (fun σ1 =>
  some (((σ1.1 86 0), σ1)))
set_option maxRecDepth 100000 in
set_option maxHeartbeats 4000000 in
theorem c_X10_mark {l : Launch} {D : va_G} {ad : Nat → Nat} {cid : Nat → ClassId} {w : Nat} (hw : 16 ≤ w ∧ w ≤ 21) {σ : jMem} {r : Int32} {σ' : jMem} (h : f_X10_mark w σ = some (r, σ')) : jMet l D ad cid yX10_mark cX10_mark 2 (some .int) 1 21 [.ref w, .ref 86] σ (some (.int r)) σ' := by
  refine jMet_of (ls0 := [some (.ref w), some (.ref 86)]) (by decide) (Nat.le_of_ble_eq_true rfl) rfl (fun K X R0 _ => ?_)
  unfold f_X10_mark at h
  refine j_aload_n X 1 dX10_mark_0 rfl rfl ?_
  refine j_bipush (v := 20) X dX10_mark_1 (by decide) ?_
  obtain ⟨σ1, hm2, h⟩ := jbv_some h
  refine j_callV (as := [.int (20 : Int32)]) (st := []) (st1 := []) X ln_86 ly_86 rfl rfl sv_RX10_7 ⟨by decide, by decide⟩ rfl rfl (Nat.le_of_ble_eq_true rfl) rfl dX10_mark_3 jrv_v (c_X0_begin  hm2) rfl ?_
  refine j_aload_n X 1 dX10_mark_6 rfl rfl ?_
  refine j_getI X fg_RX10_17 ln_86 ly_86 rfl dX10_mark_7 ?_
  obtain ⟨rfl, rfl⟩ := jin2 h
  exact j_iret X R0 dX10_mark_10
theorem sp_RX4_34 : jSiP RX4 34 yX10_mark cX10_mark 2 (some .int) 1 := ⟨tw_809, tw_1284, tw_95, tw_810, tw_4, tw_811, by decide, by decide +kernel⟩
theorem sv_RX4_19 : jSiV RX4 19 yX0_begin cX0_begin 2 none 1 := ⟨tw_793, tw_787, tw_788, tw_12, tw_789, by decide, by decide, by decide +kernel⟩
def f_X4_mark (w : Nat) (σ : jMem) : Option (Int32 × jMem) :=
  jbv (f_X0_begin (21 : Int32) σ) (fun σ1 =>
  jbd (f_X10_mark w σ1) (fun v3 σ4 =>
  some (((v3 + (σ4.1 86 1)), σ4))))
set_option maxRecDepth 100000 in
set_option maxHeartbeats 4000000 in
theorem c_X4_mark {l : Launch} {D : va_G} {ad : Nat → Nat} {cid : Nat → ClassId} {w : Nat} (hw : 17 ≤ w ∧ w ≤ 19) {σ : jMem} {r : Int32} {σ' : jMem} (h : f_X4_mark w σ = some (r, σ')) : jMet l D ad cid yX4_mark cX4_mark 2 (some .int) 2 42 [.ref w, .ref 86] σ (some (.int r)) σ' := by
  refine jMet_of (ls0 := [some (.ref w), some (.ref 86)]) (by decide) (Nat.le_of_ble_eq_true rfl) rfl (fun K X R0 _ => ?_)
  unfold f_X4_mark at h
  refine j_aload_n X 1 dX4_mark_0 rfl rfl ?_
  refine j_bipush (v := 21) X dX4_mark_1 (by decide) ?_
  obtain ⟨σ1, hm2, h⟩ := jbv_some h
  refine j_callV (as := [.int (21 : Int32)]) (st := []) (st1 := []) X ln_86 ly_86 rfl rfl sv_RX4_19 ⟨by decide, by decide⟩ rfl rfl (Nat.le_of_ble_eq_true rfl) rfl dX4_mark_3 jrv_v (c_X0_begin  hm2) rfl ?_
  refine j_aload_n X 0 dX4_mark_6 rfl rfl ?_
  refine j_aload_n X 1 dX4_mark_7 rfl rfl ?_
  obtain ⟨v3, σ4, hm5, h⟩ := jbd_some h
  obtain ⟨z6i, z6q, z61, z62⟩ := jw_cls (by omega : 16 ≤ w ∧ w ≤ 21)
  refine j_callP (as := [.ref 86]) (st := []) (st1 := [.int v3]) X (jw_lt hw) z61 z62 sp_RX4_34 ⟨by decide, by decide⟩ rfl rfl (Nat.le_of_ble_eq_true rfl) rfl dX4_mark_8 jrv_i (c_X10_mark (by omega : 16 ≤ w ∧ w ≤ 21) hm5) rfl ?_
  refine j_aload_n X 1 dX4_mark_11 rfl rfl ?_
  refine j_getI X fg_RX4_35 ln_86 ly_86 rfl dX4_mark_12 ?_
  refine j_iadd X dX4_mark_15 ?_
  obtain ⟨rfl, rfl⟩ := jin2 h
  exact j_iret X R0 dX4_mark_16
theorem sp_RX1_32 : jSiP RX1 32 yX4_mark cX4_mark 2 (some .int) 1 := ⟨tw_802, tw_798, tw_102, tw_796, tw_5, tw_808, by decide, by decide +kernel⟩
theorem sv_RX1_22 : jSiV RX1 22 yX0_begin cX0_begin 2 none 1 := ⟨tw_786, tw_787, tw_788, tw_12, tw_789, by decide, by decide, by decide +kernel⟩
def f_X1_mark (w : Nat) (σ : jMem) : Option (Int32 × jMem) :=
  jbv (f_X0_begin (24 : Int32) σ) (fun σ1 =>
  jbd (f_X4_mark w σ1) (fun v3 σ4 =>
  some ((((2 : Int32) * v3), σ4))))
set_option maxRecDepth 100000 in
set_option maxHeartbeats 4000000 in
theorem c_X1_mark {l : Launch} {D : va_G} {ad : Nat → Nat} {cid : Nat → ClassId} {w : Nat} (hw : 18 ≤ w ∧ w ≤ 18) {σ : jMem} {r : Int32} {σ' : jMem} (h : f_X1_mark w σ = some (r, σ')) : jMet l D ad cid yX1_mark cX1_mark 2 (some .int) 3 63 [.ref w, .ref 86] σ (some (.int r)) σ' := by
  refine jMet_of (ls0 := [some (.ref w), some (.ref 86)]) (by decide) (Nat.le_of_ble_eq_true rfl) rfl (fun K X R0 _ => ?_)
  unfold f_X1_mark at h
  refine j_aload_n X 1 dX1_mark_0 rfl rfl ?_
  refine j_bipush (v := 24) X dX1_mark_1 (by decide) ?_
  obtain ⟨σ1, hm2, h⟩ := jbv_some h
  refine j_callV (as := [.int (24 : Int32)]) (st := []) (st1 := []) X ln_86 ly_86 rfl rfl sv_RX1_22 ⟨by decide, by decide⟩ rfl rfl (Nat.le_of_ble_eq_true rfl) rfl dX1_mark_3 jrv_v (c_X0_begin  hm2) rfl ?_
  refine j_iconst (v := 2) X dX1_mark_6 (by decide) ?_
  refine j_aload_n X 0 dX1_mark_7 rfl rfl ?_
  refine j_aload_n X 1 dX1_mark_8 rfl rfl ?_
  obtain ⟨v3, σ4, hm5, h⟩ := jbd_some h
  obtain ⟨z6i, z6q, z61, z62⟩ := jw_cls (by omega : 16 ≤ w ∧ w ≤ 21)
  refine j_callP (as := [.ref 86]) (st := [.int (2 : Int32)]) (st1 := [.int v3, .int (2 : Int32)]) X (jw_lt hw) z61 z62 sp_RX1_32 ⟨by decide, by decide⟩ rfl rfl (Nat.le_of_ble_eq_true rfl) rfl dX1_mark_9 jrv_i (c_X4_mark (by omega : 17 ≤ w ∧ w ≤ 19) hm5) rfl ?_
  refine j_imul X dX1_mark_12 ?_
  obtain ⟨rfl, rfl⟩ := jin2 h
  exact j_iret X R0 dX1_mark_13
theorem sp_RX3_27 : jSiP RX3 27 yX4_mark cX4_mark 2 (some .int) 1 := ⟨tw_807, tw_798, tw_109, tw_796, tw_5, tw_808, by decide, by decide +kernel⟩
theorem sv_RX3_21 : jSiV RX3 21 yX0_begin cX0_begin 2 none 1 := ⟨tw_806, tw_787, tw_788, tw_12, tw_789, by decide, by decide, by decide +kernel⟩
def f_X3_mark (w : Nat) (σ : jMem) : Option (Int32 × jMem) :=
  jbv (f_X0_begin (22 : Int32) σ) (fun σ1 =>
  jbd (f_X4_mark w σ1) (fun v3 σ4 =>
  some (((v3 - (1000 : Int32)), σ4))))
set_option maxRecDepth 100000 in
set_option maxHeartbeats 4000000 in
theorem c_X3_mark {l : Launch} {D : va_G} {ad : Nat → Nat} {cid : Nat → ClassId} {w : Nat} (hw : 19 ≤ w ∧ w ≤ 19) {σ : jMem} {r : Int32} {σ' : jMem} (h : f_X3_mark w σ = some (r, σ')) : jMet l D ad cid yX3_mark cX3_mark 2 (some .int) 3 63 [.ref w, .ref 86] σ (some (.int r)) σ' := by
  refine jMet_of (ls0 := [some (.ref w), some (.ref 86)]) (by decide) (Nat.le_of_ble_eq_true rfl) rfl (fun K X R0 _ => ?_)
  unfold f_X3_mark at h
  refine j_aload_n X 1 dX3_mark_0 rfl rfl ?_
  refine j_bipush (v := 22) X dX3_mark_1 (by decide) ?_
  obtain ⟨σ1, hm2, h⟩ := jbv_some h
  refine j_callV (as := [.int (22 : Int32)]) (st := []) (st1 := []) X ln_86 ly_86 rfl rfl sv_RX3_21 ⟨by decide, by decide⟩ rfl rfl (Nat.le_of_ble_eq_true rfl) rfl dX3_mark_3 jrv_v (c_X0_begin  hm2) rfl ?_
  refine j_aload_n X 0 dX3_mark_6 rfl rfl ?_
  refine j_aload_n X 1 dX3_mark_7 rfl rfl ?_
  obtain ⟨v3, σ4, hm5, h⟩ := jbd_some h
  obtain ⟨z6i, z6q, z61, z62⟩ := jw_cls (by omega : 16 ≤ w ∧ w ≤ 21)
  refine j_callP (as := [.ref 86]) (st := []) (st1 := [.int v3]) X (jw_lt hw) z61 z62 sp_RX3_27 ⟨by decide, by decide⟩ rfl rfl (Nat.le_of_ble_eq_true rfl) rfl dX3_mark_8 jrv_i (c_X4_mark (by omega : 17 ≤ w ∧ w ≤ 19) hm5) rfl ?_
  refine j_sipush (v := 1000) X dX3_mark_11 (by decide) ?_
  refine j_isub X dX3_mark_14 ?_
  obtain ⟨rfl, rfl⟩ := jin2 h
  exact j_iret X R0 dX3_mark_15
