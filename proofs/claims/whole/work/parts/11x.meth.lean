def f_X10_size (w : Nat) (σ : jMem) : Option (Int32 × jMem) :=
  jbv (f_X0_begin (10 : Int32) σ) (fun σ1 =>
  some (((σ1.1 86 2), σ1)))
set_option maxRecDepth 100000 in
set_option maxHeartbeats 4000000 in
theorem c_X10_size {l : Launch} {D : va_G} {ad : Nat → Nat} {cid : Nat → ClassId} {w : Nat} (hw : 16 ≤ w ∧ w ≤ 21) {σ : jMem} {r : Int32} {σ' : jMem} (h : f_X10_size w σ = some (r, σ')) : jMet l D ad cid yX10_size cX10_size 2 (some .int) 1 21 [.ref w, .ref 86] σ (some (.int r)) σ' := by
  refine jMet_of (ls0 := [some (.ref w), some (.ref 86)]) (by decide) (Nat.le_of_ble_eq_true rfl) rfl (fun K X R0 _ => ?_)
  unfold f_X10_size at h
  refine j_aload_n X 1 dX10_size_0 rfl rfl ?_
  refine j_bipush (v := 10) X dX10_size_1 (by decide) ?_
  obtain ⟨σ1, hm2, h⟩ := jbv_some h
  refine j_callV (as := [.int (10 : Int32)]) (st := []) (st1 := []) X ln_86 ly_86 rfl rfl sv_RX10_7 ⟨by decide, by decide⟩ rfl rfl (Nat.le_of_ble_eq_true rfl) rfl dX10_size_3 jrv_v (c_X0_begin  hm2) rfl ?_
  refine j_aload_n X 1 dX10_size_6 rfl rfl ?_
  refine j_getI X fg_RX10_13 ln_86 ly_86 rfl dX10_size_7 ?_
  obtain ⟨rfl, rfl⟩ := jin2 h
  exact j_iret X R0 dX10_size_10
theorem sp_RX8_19 : jSiP RX8 19 yX10_size cX10_size 2 (some .int) 1 := ⟨tw_823, tw_782, tw_116, tw_780, tw_4, tw_825, by decide, by decide +kernel⟩
theorem sv_RX8_13 : jSiV RX8 13 yX0_begin cX0_begin 2 none 1 := ⟨tw_822, tw_787, tw_788, tw_12, tw_789, by decide, by decide, by decide +kernel⟩
def f_X8_size (w : Nat) (σ : jMem) : Option (Int32 × jMem) :=
  jbv (f_X0_begin (13 : Int32) σ) (fun σ1 =>
  jbd (f_X10_size w σ1) (fun v3 σ4 =>
  some (((v3 - (100 : Int32)), σ4))))
set_option maxRecDepth 100000 in
set_option maxHeartbeats 4000000 in
theorem c_X8_size {l : Launch} {D : va_G} {ad : Nat → Nat} {cid : Nat → ClassId} {w : Nat} (hw : 20 ≤ w ∧ w ≤ 21) {σ : jMem} {r : Int32} {σ' : jMem} (h : f_X8_size w σ = some (r, σ')) : jMet l D ad cid yX8_size cX8_size 2 (some .int) 2 42 [.ref w, .ref 86] σ (some (.int r)) σ' := by
  refine jMet_of (ls0 := [some (.ref w), some (.ref 86)]) (by decide) (Nat.le_of_ble_eq_true rfl) rfl (fun K X R0 _ => ?_)
  unfold f_X8_size at h
  refine j_aload_n X 1 dX8_size_0 rfl rfl ?_
  refine j_bipush (v := 13) X dX8_size_1 (by decide) ?_
  obtain ⟨σ1, hm2, h⟩ := jbv_some h
  refine j_callV (as := [.int (13 : Int32)]) (st := []) (st1 := []) X ln_86 ly_86 rfl rfl sv_RX8_13 ⟨by decide, by decide⟩ rfl rfl (Nat.le_of_ble_eq_true rfl) rfl dX8_size_3 jrv_v (c_X0_begin  hm2) rfl ?_
  refine j_aload_n X 0 dX8_size_6 rfl rfl ?_
  refine j_aload_n X 1 dX8_size_7 rfl rfl ?_
  obtain ⟨v3, σ4, hm5, h⟩ := jbd_some h
  obtain ⟨z6i, z6q, z61, z62⟩ := jw_cls (by omega : 16 ≤ w ∧ w ≤ 21)
  refine j_callP (as := [.ref 86]) (st := []) (st1 := [.int v3]) X (jw_lt hw) z61 z62 sp_RX8_19 ⟨by decide, by decide⟩ rfl rfl (Nat.le_of_ble_eq_true rfl) rfl dX8_size_8 jrv_i (c_X10_size (by omega : 16 ≤ w ∧ w ≤ 21) hm5) rfl ?_
  refine j_bipush (v := 100) X dX8_size_11 (by decide) ?_
  refine j_isub X dX8_size_13 ?_
  obtain ⟨rfl, rfl⟩ := jin2 h
  exact j_iret X R0 dX8_size_14
theorem sp_RX7_19 : jSiP RX7 19 yX8_size cX8_size 2 (some .int) 1 := ⟨tw_819, tw_1285, tw_123, tw_820, tw_8, tw_821, by decide, by decide +kernel⟩
theorem sv_RX7_13 : jSiV RX7 13 yX0_begin cX0_begin 2 none 1 := ⟨tw_818, tw_787, tw_788, tw_12, tw_789, by decide, by decide, by decide +kernel⟩
def f_X7_size (w : Nat) (σ : jMem) : Option (Int32 × jMem) :=
  jbv (f_X0_begin (14 : Int32) σ) (fun σ1 =>
  jbd (f_X8_size w σ1) (fun v3 σ4 =>
  some ((((2 : Int32) * v3), σ4))))
set_option maxRecDepth 100000 in
set_option maxHeartbeats 4000000 in
theorem c_X7_size {l : Launch} {D : va_G} {ad : Nat → Nat} {cid : Nat → ClassId} {w : Nat} (hw : 21 ≤ w ∧ w ≤ 21) {σ : jMem} {r : Int32} {σ' : jMem} (h : f_X7_size w σ = some (r, σ')) : jMet l D ad cid yX7_size cX7_size 2 (some .int) 3 63 [.ref w, .ref 86] σ (some (.int r)) σ' := by
  refine jMet_of (ls0 := [some (.ref w), some (.ref 86)]) (by decide) (Nat.le_of_ble_eq_true rfl) rfl (fun K X R0 _ => ?_)
  unfold f_X7_size at h
  refine j_aload_n X 1 dX7_size_0 rfl rfl ?_
  refine j_bipush (v := 14) X dX7_size_1 (by decide) ?_
  obtain ⟨σ1, hm2, h⟩ := jbv_some h
  refine j_callV (as := [.int (14 : Int32)]) (st := []) (st1 := []) X ln_86 ly_86 rfl rfl sv_RX7_13 ⟨by decide, by decide⟩ rfl rfl (Nat.le_of_ble_eq_true rfl) rfl dX7_size_3 jrv_v (c_X0_begin  hm2) rfl ?_
  refine j_iconst (v := 2) X dX7_size_6 (by decide) ?_
  refine j_aload_n X 0 dX7_size_7 rfl rfl ?_
  refine j_aload_n X 1 dX7_size_8 rfl rfl ?_
  obtain ⟨v3, σ4, hm5, h⟩ := jbd_some h
  obtain ⟨z6i, z6q, z61, z62⟩ := jw_cls (by omega : 16 ≤ w ∧ w ≤ 21)
  refine j_callP (as := [.ref 86]) (st := [.int (2 : Int32)]) (st1 := [.int v3, .int (2 : Int32)]) X (jw_lt hw) z61 z62 sp_RX7_19 ⟨by decide, by decide⟩ rfl rfl (Nat.le_of_ble_eq_true rfl) rfl dX7_size_9 jrv_i (c_X8_size (by omega : 20 ≤ w ∧ w ≤ 21) hm5) rfl ?_
  refine j_imul X dX7_size_12 ?_
  obtain ⟨rfl, rfl⟩ := jin2 h
  exact j_iret X R0 dX7_size_13
theorem sp_RX8_23 : jSiP RX8 23 yX10_mark cX10_mark 2 (some .int) 1 := ⟨tw_829, tw_1284, tw_116, tw_810, tw_4, tw_811, by decide, by decide +kernel⟩
def vf_X8_size (w : Nat)  (σ : jMem) : Option (Int32 × jMem) :=
  if w = 20 then f_X8_size 20  σ else
  if w = 21 then f_X7_size 21  σ else
  none
theorem su_RX8_26_20 : jSiU RX8 26 RX8 yX8_size yX8_size cX8_size 2 (some .int) 1 := ⟨tw_830, tw_1285, tw_820, ⟨_, _, _, tw_821⟩, tw_1291, tw_820, tw_8, tw_821, by decide, by decide, by decide +kernel⟩
theorem su_RX8_26_21 : jSiU RX8 26 RX7 yX8_size yX7_size cX7_size 2 (some .int) 1 := ⟨tw_830, tw_1285, tw_820, ⟨_, _, _, tw_821⟩, tw_1290, tw_816, tw_9, tw_817, by decide, by decide, by decide +kernel⟩
set_option maxRecDepth 100000 in
theorem vs_X8_mark_15 {K : jK} (X : JX K cX8_mark 3 RX8 4 84) {w : Nat} (hw : 20 ≤ w ∧ w ≤ 21)   {ls : List (Option Value)} {st : List Value} {σ σ' : jMem} {v : Int32} (hnl : ls.length = 3) (h8 : (st.map fun v => v.category).sum ≤ 8) (hm : vf_X8_size w  σ = some (v, σ')) (kk : J K (15 + 3) ls (.int v :: st) σ') : J K 15 ls (.ref 86 :: .ref w :: st) σ := by
  rcases (show w = 20 ∨ w = 21 by omega) with rfl | rfl
  · exact j_callU (as := [.ref 86]) (st := st) (st1 := .int v :: st) X ln_20 ly_20 rfl su_RX8_26_20 ⟨by decide, by decide⟩ rfl rfl h8 hnl dX8_mark_15 jrv_i (c_X8_size (by decide)  hm) rfl kk
  · exact j_callU (as := [.ref 86]) (st := st) (st1 := .int v :: st) X ln_21 ly_21 rfl su_RX8_26_21 ⟨by decide, by decide⟩ rfl rfl h8 hnl dX8_mark_15 jrv_i (c_X7_size (by decide)  hm) rfl kk
def f_X8_mark (w : Nat) (σ : jMem) : Option (Int32 × jMem) :=
  jbv (f_X0_begin (23 : Int32) σ) (fun σ1 =>
  jbd (f_X10_mark w σ1) (fun v3 σ4 =>
  jbd (vf_X8_size w  σ4) (fun v6 σ7 =>
  some (((v3 - v6), σ7)))))
set_option maxRecDepth 100000 in
set_option maxHeartbeats 4000000 in
theorem c_X8_mark {l : Launch} {D : va_G} {ad : Nat → Nat} {cid : Nat → ClassId} {w : Nat} (hw : 20 ≤ w ∧ w ≤ 21) {σ : jMem} {r : Int32} {σ' : jMem} (h : f_X8_mark w σ = some (r, σ')) : jMet l D ad cid yX8_mark cX8_mark 3 (some .int) 4 84 [.ref w, .ref 86] σ (some (.int r)) σ' := by
  refine jMet_of (ls0 := [some (.ref w), some (.ref 86), none]) (by decide) (Nat.le_of_ble_eq_true rfl) rfl (fun K X R0 _ => ?_)
  unfold f_X8_mark at h
  refine j_aload_n X 1 dX8_mark_0 rfl rfl ?_
  refine j_bipush (v := 23) X dX8_mark_1 (by decide) ?_
  obtain ⟨σ1, hm2, h⟩ := jbv_some h
  refine j_callV (as := [.int (23 : Int32)]) (st := []) (st1 := []) X ln_86 ly_86 rfl rfl sv_RX8_13 ⟨by decide, by decide⟩ rfl rfl (Nat.le_of_ble_eq_true rfl) rfl dX8_mark_3 jrv_v (c_X0_begin  hm2) rfl ?_
  refine j_aload_n X 0 dX8_mark_6 rfl rfl ?_
  refine j_aload_n X 1 dX8_mark_7 rfl rfl ?_
  obtain ⟨v3, σ4, hm5, h⟩ := jbd_some h
  obtain ⟨z9i, z9q, z91, z92⟩ := jw_cls (by omega : 16 ≤ w ∧ w ≤ 21)
  refine j_callP (as := [.ref 86]) (st := []) (st1 := [.int v3]) X (jw_lt hw) z91 z92 sp_RX8_23 ⟨by decide, by decide⟩ rfl rfl (Nat.le_of_ble_eq_true rfl) rfl dX8_mark_8 jrv_i (c_X10_mark (by omega : 16 ≤ w ∧ w ≤ 21) hm5) rfl ?_
  refine j_istore_n (ls' := [some (.ref w), some (.ref 86), some (.int v3)]) X 2 dX8_mark_11 rfl (Nat.le_of_ble_eq_true rfl) rfl ?_
  refine j_iload_n X 2 dX8_mark_12 rfl rfl ?_
  refine j_aload_n X 0 dX8_mark_13 rfl rfl ?_
  refine j_aload_n X 1 dX8_mark_14 rfl rfl ?_
  obtain ⟨v6, σ7, hm8, h⟩ := jbd_some h
  refine vs_X8_mark_15 (st := [.int v3]) X hw  rfl (Nat.le_of_ble_eq_true rfl) hm8 ?_
  refine j_isub X dX8_mark_18 ?_
  obtain ⟨rfl, rfl⟩ := jin2 h
  exact j_iret X R0 dX8_mark_19
theorem sp_RX4_25 : jSiP RX4 25 yX10_size cX10_size 2 (some .int) 1 := ⟨tw_794, tw_782, tw_95, tw_780, tw_4, tw_825, by decide, by decide +kernel⟩
def vf_X4_mark (w : Nat)  (σ : jMem) : Option (Int32 × jMem) :=
  if w = 17 then f_X4_mark 17  σ else
  if w = 18 then f_X1_mark 18  σ else
  if w = 19 then f_X3_mark 19  σ else
  none
theorem su_RX4_29_17 : jSiU RX4 29 RX4 yX4_mark yX4_mark cX4_mark 2 (some .int) 1 := ⟨tw_795, tw_798, tw_796, ⟨_, _, _, tw_808⟩, tw_797, tw_796, tw_5, tw_808, by decide, by decide, by decide +kernel⟩
theorem su_RX4_29_18 : jSiU RX4 29 RX1 yX4_mark yX1_mark cX1_mark 2 (some .int) 1 := ⟨tw_795, tw_798, tw_796, ⟨_, _, _, tw_808⟩, tw_799, tw_800, tw_6, tw_801, by decide, by decide, by decide +kernel⟩
theorem su_RX4_29_19 : jSiU RX4 29 RX3 yX4_mark yX3_mark cX3_mark 2 (some .int) 1 := ⟨tw_795, tw_798, tw_796, ⟨_, _, _, tw_808⟩, tw_803, tw_804, tw_7, tw_805, by decide, by decide, by decide +kernel⟩
set_option maxRecDepth 100000 in
theorem vs_X4_size_15 {K : jK} (X : JX K cX4_size 3 RX4 4 84) {w : Nat} (hw : 17 ≤ w ∧ w ≤ 19)   {ls : List (Option Value)} {st : List Value} {σ σ' : jMem} {v : Int32} (hnl : ls.length = 3) (h8 : (st.map fun v => v.category).sum ≤ 8) (hm : vf_X4_mark w  σ = some (v, σ')) (kk : J K (15 + 3) ls (.int v :: st) σ') : J K 15 ls (.ref 86 :: .ref w :: st) σ := by
  rcases (show w = 17 ∨ w = 18 ∨ w = 19 by omega) with rfl | rfl | rfl
  · exact j_callU (as := [.ref 86]) (st := st) (st1 := .int v :: st) X ln_17 ly_17 rfl su_RX4_29_17 ⟨by decide, by decide⟩ rfl rfl h8 hnl dX4_size_15 jrv_i (c_X4_mark (by decide)  hm) rfl kk
  · exact j_callU (as := [.ref 86]) (st := st) (st1 := .int v :: st) X ln_18 ly_18 rfl su_RX4_29_18 ⟨by decide, by decide⟩ rfl rfl h8 hnl dX4_size_15 jrv_i (c_X1_mark (by decide)  hm) rfl kk
  · exact j_callU (as := [.ref 86]) (st := st) (st1 := .int v :: st) X ln_19 ly_19 rfl su_RX4_29_19 ⟨by decide, by decide⟩ rfl rfl h8 hnl dX4_size_15 jrv_i (c_X3_mark (by decide)  hm) rfl kk
def f_X4_size (w : Nat) (σ : jMem) : Option (Int32 × jMem) :=
  jbv (f_X0_begin (11 : Int32) σ) (fun σ1 =>
  jbd (f_X10_size w σ1) (fun v3 σ4 =>
  jbd (vf_X4_mark w  σ4) (fun v6 σ7 =>
  some (((v3 + v6), σ7)))))
set_option maxRecDepth 100000 in
set_option maxHeartbeats 4000000 in
theorem c_X4_size {l : Launch} {D : va_G} {ad : Nat → Nat} {cid : Nat → ClassId} {w : Nat} (hw : 17 ≤ w ∧ w ≤ 19) {σ : jMem} {r : Int32} {σ' : jMem} (h : f_X4_size w σ = some (r, σ')) : jMet l D ad cid yX4_size cX4_size 3 (some .int) 4 84 [.ref w, .ref 86] σ (some (.int r)) σ' := by
  refine jMet_of (ls0 := [some (.ref w), some (.ref 86), none]) (by decide) (Nat.le_of_ble_eq_true rfl) rfl (fun K X R0 _ => ?_)
  unfold f_X4_size at h
  refine j_aload_n X 1 dX4_size_0 rfl rfl ?_
  refine j_bipush (v := 11) X dX4_size_1 (by decide) ?_
  obtain ⟨σ1, hm2, h⟩ := jbv_some h
  refine j_callV (as := [.int (11 : Int32)]) (st := []) (st1 := []) X ln_86 ly_86 rfl rfl sv_RX4_19 ⟨by decide, by decide⟩ rfl rfl (Nat.le_of_ble_eq_true rfl) rfl dX4_size_3 jrv_v (c_X0_begin  hm2) rfl ?_
  refine j_aload_n X 0 dX4_size_6 rfl rfl ?_
  refine j_aload_n X 1 dX4_size_7 rfl rfl ?_
  obtain ⟨v3, σ4, hm5, h⟩ := jbd_some h
  obtain ⟨z9i, z9q, z91, z92⟩ := jw_cls (by omega : 16 ≤ w ∧ w ≤ 21)
  refine j_callP (as := [.ref 86]) (st := []) (st1 := [.int v3]) X (jw_lt hw) z91 z92 sp_RX4_25 ⟨by decide, by decide⟩ rfl rfl (Nat.le_of_ble_eq_true rfl) rfl dX4_size_8 jrv_i (c_X10_size (by omega : 16 ≤ w ∧ w ≤ 21) hm5) rfl ?_
  refine j_istore_n (ls' := [some (.ref w), some (.ref 86), some (.int v3)]) X 2 dX4_size_11 rfl (Nat.le_of_ble_eq_true rfl) rfl ?_
  refine j_iload_n X 2 dX4_size_12 rfl rfl ?_
  refine j_aload_n X 0 dX4_size_13 rfl rfl ?_
  refine j_aload_n X 1 dX4_size_14 rfl rfl ?_
  obtain ⟨v6, σ7, hm8, h⟩ := jbd_some h
  refine vs_X4_size_15 (st := [.int v3]) X hw  rfl (Nat.le_of_ble_eq_true rfl) hm8 ?_
  refine j_iadd X dX4_size_18 ?_
  obtain ⟨rfl, rfl⟩ := jin2 h
  exact j_iret X R0 dX4_size_19
