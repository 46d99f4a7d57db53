theorem sv_RX5_90 : jSiV RX5 90 yX5_sworn cX5_sworn 4 (some .int) 1 := ⟨tw_565, tw_566, tw_567, tw_10, tw_568, by decide, by decide, by decide +kernel⟩
def f_X5_ways (k : Nat) (σ : jMem) : Option (Int32 × jMem) :=
  jbd (f_X5_sworn k (((1 : Int32) <<< ((σ.1 k 6) &&& 31)) - (1 : Int32)) σ) (fun v1 σ2 =>
  some ((v1, σ2)))
set_option maxRecDepth 100000 in
set_option maxHeartbeats 4000000 in
theorem c_X5_ways {l : Launch} {D : va_G} {ad : Nat → Nat} {cid : Nat → ClassId} {k : Nat} (hk : jisP k) {σ : jMem} {r : Int32} {σ' : jMem} (h : f_X5_ways k σ = some (r, σ')) : jMet l D ad cid yX5_ways cX5_ways 1 (some .int) 4 86 [.ref k] σ (some (.int r)) σ' := by
  refine jMet_of (ls0 := [some (.ref k)]) (by decide) (Nat.le_of_ble_eq_true rfl) rfl (fun K X R0 _ => ?_)
  unfold f_X5_ways at h
  refine j_aload_n X 0 dX5_ways_0 rfl rfl ?_
  refine j_iconst (v := 1) X dX5_ways_1 (by decide) ?_
  refine j_aload_n X 0 dX5_ways_2 rfl rfl ?_
  refine j_getI X fg_RX5_44 (jp_lt hk) (jp_ly hk) rfl dX5_ways_3 ?_
  refine j_ishl X dX5_ways_6 ?_
  refine j_iconst (v := 1) X dX5_ways_7 (by decide) ?_
  refine j_isub X dX5_ways_8 ?_
  obtain ⟨v1, σ2, hm3, h⟩ := jbd_some h
  refine j_callV (as := [.int (((1 : Int32) <<< ((σ.1 k 6) &&& 31)) - (1 : Int32))]) (st := []) (st1 := [.int v1]) X (jp_lt hk) (jp_ly hk) rfl rfl sv_RX5_90 ⟨by decide, by decide⟩ rfl rfl (Nat.le_of_ble_eq_true rfl) rfl dX5_ways_9 jrv_i (c_X5_sworn hk hm3) rfl ?_
  obtain ⟨rfl, rfl⟩ := jin2 h
  exact j_iret X R0 dX5_ways_12
def f_X10_sees (w : Nat) (a0 : Nat) (a1 : Int32) (σ : jMem) : Option (Int32 × jMem) :=
  some (((0 : Int32), σ))
set_option maxRecDepth 100000 in
set_option maxHeartbeats 4000000 in
theorem c_X10_sees {l : Launch} {D : va_G} {ad : Nat → Nat} {cid : Nat → ClassId} {w : Nat} {a0 : Nat} {a1 : Int32} (hw : 16 ≤ w ∧ w ≤ 21) (ha0 : jisP a0) {σ : jMem} {r : Int32} {σ' : jMem} (h : f_X10_sees w a0 a1 σ = some (r, σ')) : jMet l D ad cid yX10_sees cX10_sees 4 (some .int) 0 0 [.ref w, .ref a0, .int a1, .ref 80] σ (some (.int r)) σ' := by
  refine jMet_of (ls0 := [some (.ref w), some (.ref a0), some (.int a1), some (.ref 80)]) (by decide) (Nat.le_of_ble_eq_true rfl) rfl (fun K X R0 _ => ?_)
  unfold f_X10_sees at h
  refine j_iconst (v := 0) X dX10_sees_0 (by decide) ?_
  obtain ⟨rfl, rfl⟩ := jin2 h
  exact j_iret X R0 dX10_sees_1
theorem sv_RX4_13 : jSiV RX4 13 yX5_pathsAt cX5_pathsAt 4 (some .int) 1 := ⟨tw_547, tw_422, tw_423, tw_10, tw_424, by decide, by decide, by decide +kernel⟩
def f_X4_sees (w : Nat) (a0 : Nat) (a1 : Int32) (σ : jMem) : Option (Int32 × jMem) :=
  jbd (f_X5_pathsAt a0 a1 σ) (fun v1 σ2 =>
  some ((((σ.1 80 1) &&& v1), σ2)))
set_option maxRecDepth 100000 in
set_option maxHeartbeats 4000000 in
theorem c_X4_sees {l : Launch} {D : va_G} {ad : Nat → Nat} {cid : Nat → ClassId} {w : Nat} {a0 : Nat} {a1 : Int32} (hw : 17 ≤ w ∧ w ≤ 19) (ha0 : jisP a0) {σ : jMem} {r : Int32} {σ' : jMem} (h : f_X4_sees w a0 a1 σ = some (r, σ')) : jMet l D ad cid yX4_sees cX4_sees 4 (some .int) 1 23 [.ref w, .ref a0, .int a1, .ref 80] σ (some (.int r)) σ' := by
  refine jMet_of (ls0 := [some (.ref w), some (.ref a0), some (.int a1), some (.ref 80)]) (by decide) (Nat.le_of_ble_eq_true rfl) rfl (fun K X R0 _ => ?_)
  unfold f_X4_sees at h
  refine j_aload_n X 3 dX4_sees_0 rfl rfl ?_
  refine j_getI X fg_RX4_7 ln_80 ly_80 rfl dX4_sees_1 ?_
  refine j_aload_n X 1 dX4_sees_4 rfl rfl ?_
  refine j_iload_n X 2 dX4_sees_5 rfl rfl ?_
  obtain ⟨v1, σ2, hm3, h⟩ := jbd_some h
  refine j_callV (as := [.int a1]) (st := [.int (σ.1 80 1)]) (st1 := [.int v1, .int (σ.1 80 1)]) X (jp_lt ha0) (jp_ly ha0) rfl rfl sv_RX4_13 ⟨by decide, by decide⟩ rfl rfl (Nat.le_of_ble_eq_true rfl) rfl dX4_sees_6 jrv_i (c_X5_pathsAt ha0 hm3) rfl ?_
  refine j_iand X dX4_sees_9 ?_
  obtain ⟨rfl, rfl⟩ := jin2 h
  exact j_iret X R0 dX4_sees_10
theorem sp_RX1_7 : jSiP RX1 7 yX4_sees cX4_sees 4 (some .int) 3 := ⟨tw_544, tw_1282, tw_102, tw_545, tw_5, tw_546, by decide, by decide +kernel⟩
def f_X1_sees (w : Nat) (a0 : Nat) (a1 : Int32) (σ : jMem) : Option (Int32 × jMem) :=
  jbd (f_X4_sees w a0 a1 σ) (fun v1 σ2 =>
  jj (fun (q5 : Int32) σ6 =>
  if q5 = 0 then
  some (((0 : Int32), σ6))
else
  some (((σ6.1 80 1), σ6))) (fun k4 =>
  jj (fun (q8 : Unit) σ9 =>
  k4 (1 : Int32) σ9) (fun k7 =>
  if ¬ v1 = 0 then
  k7 () σ2
else
  if ¬ a1 = (σ2.1 a0 2) then
  k4 (0 : Int32) σ2
else
  k7 () σ2)))
set_option maxRecDepth 100000 in
set_option maxHeartbeats 4000000 in
theorem c_X1_sees {l : Launch} {D : va_G} {ad : Nat → Nat} {cid : Nat → ClassId} {w : Nat} {a0 : Nat} {a1 : Int32} (hw : 18 ≤ w ∧ w ≤ 18) (ha0 : jisP a0) {σ : jMem} {r : Int32} {σ' : jMem} (h : f_X1_sees w a0 a1 σ = some (r, σ')) : jMet l D ad cid yX1_sees cX1_sees 5 (some .int) 2 46 [.ref w, .ref a0, .int a1, .ref 80] σ (some (.int r)) σ' := by
  refine jMet_of (ls0 := [some (.ref w), some (.ref a0), some (.int a1), some (.ref 80), none]) (by decide) (Nat.le_of_ble_eq_true rfl) rfl (fun K X R0 _ => ?_)
  unfold f_X1_sees at h
  refine j_aload_n X 0 dX1_sees_0 rfl rfl ?_
  refine j_aload_n X 1 dX1_sees_1 rfl rfl ?_
  refine j_iload_n X 2 dX1_sees_2 rfl rfl ?_
  refine j_aload_n X 3 dX1_sees_3 rfl rfl ?_
  obtain ⟨v1, σ2, hm3, h⟩ := jbd_some h
  obtain ⟨z10i, z10q, z101, z102⟩ := jw_cls (by omega : 16 ≤ w ∧ w ≤ 21)
  refine j_callP (as := [.ref a0, .int a1, .ref 80]) (st := []) (st1 := [.int v1]) X (jw_lt hw) z101 z102 sp_RX1_7 ⟨by decide, by decide⟩ rfl rfl (Nat.le_of_ble_eq_true rfl) rfl dX1_sees_4 jrv_i (c_X4_sees (by omega : 17 ≤ w ∧ w ≤ 19) ha0 hm3) rfl ?_
  refine j_join (pcJ := 23) (lsJ := fun q5 => [none, none, none, some (.ref 80), none]) (stJ := fun q5 => [.int q5]) h (fun q5 σ6 h => ?_) (fun k4 hk4 h => ?_)
  · refine j_istore (ls' := [none, none, none, some (.ref 80), some (.int q5)]) X dX1_sees_23 (Nat.le_of_ble_eq_true rfl) rfl ?_
    refine j_iload X dX1_sees_25 rfl ?_
    refine j_if_eq (tgt := 37) X dX1_sees_27 (by decide) h (fun h => ?_) (fun h => ?_)
    · refine j_iconst (v := 0) X dX1_sees_37 (by decide) ?_
      obtain ⟨rfl, rfl⟩ := jin2 h
      exact j_iret X R0 dX1_sees_38
    · refine j_aload_n X 3 dX1_sees_30 rfl rfl ?_
      refine j_getI X fg_RX1_17 ln_80 ly_80 rfl dX1_sees_31 ?_
      refine j_goto (tgt := 38) X dX1_sees_34 (by decide) ?_
      obtain ⟨rfl, rfl⟩ := jin2 h
      exact j_iret X R0 dX1_sees_38
  · refine j_join (pcJ := 18) (lsJ := fun q8 => [none, none, none, some (.ref 80), none]) (stJ := fun q8 => []) h (fun q8 σ9 h => ?_) (fun k7 hk7 h => ?_)
    · refine j_iconst (v := 1) X dX1_sees_18 (by decide) ?_
      refine j_goto (tgt := 23) X dX1_sees_19 (by decide) ?_
      exact hk4 (1 : Int32) σ9 h
    · refine j_if_ne (tgt := 18) X dX1_sees_7 (by decide) h (fun h => ?_) (fun h => ?_)
      · exact j_sub (ls' := [none, none, none, some (.ref 80), none]) ⟨Or.inl rfl, Or.inl rfl, Or.inl rfl, Or.inr rfl, Or.inl rfl, trivial⟩ (hk7 () σ2 h)
      · refine j_iload_n X 2 dX1_sees_10 rfl rfl ?_
        refine j_aload_n X 1 dX1_sees_11 rfl rfl ?_
        refine j_getI X fg_RX1_11 (jp_lt ha0) (jp_ly ha0) rfl dX1_sees_12 ?_
        refine j_icmp_ne (tgt := 22) X dX1_sees_15 (by decide) h (fun h => ?_) (fun h => ?_)
        · refine j_iconst (v := 0) X dX1_sees_22 (by decide) ?_
          exact j_sub (ls' := [none, none, none, some (.ref 80), none]) ⟨Or.inl rfl, Or.inl rfl, Or.inl rfl, Or.inr rfl, Or.inl rfl, trivial⟩ (hk4 (0 : Int32) σ2 h)
        · exact j_sub (ls' := [none, none, none, some (.ref 80), none]) ⟨Or.inl rfl, Or.inl rfl, Or.inl rfl, Or.inr rfl, Or.inl rfl, trivial⟩ (hk7 () σ2 h)
theorem sp_RX3_17 : jSiP RX3 17 yX4_sees cX4_sees 4 (some .int) 3 := ⟨tw_552, tw_1282, tw_109, tw_545, tw_5, tw_546, by decide, by decide +kernel⟩
theorem sv_RX3_7 : jSiV RX3 7 yX5_pathsAt cX5_pathsAt 4 (some .int) 1 := ⟨tw_551, tw_422, tw_423, tw_10, tw_424, by decide, by decide, by decide +kernel⟩
def f_X3_sees (w : Nat) (a0 : Nat) (a1 : Int32) (σ : jMem) : Option (Int32 × jMem) :=
  jbd (f_X5_pathsAt a0 a1 σ) (fun v1 σ2 =>
  jj (fun (q5 : Int32) σ6 =>
  if q5 = 0 then
  jbd (f_X4_sees w a0 a1 σ6) (fun v7 σ8 =>
  some ((v7, σ8)))
else
  some (((0 : Int32), σ6))) (fun k4 =>
  if (v1 &&& (σ2.1 a0 7)) = 0 then
  k4 (0 : Int32) σ2
else
  k4 (1 : Int32) σ2))
set_option maxRecDepth 100000 in
set_option maxHeartbeats 4000000 in
theorem c_X3_sees {l : Launch} {D : va_G} {ad : Nat → Nat} {cid : Nat → ClassId} {w : Nat} {a0 : Nat} {a1 : Int32} (hw : 19 ≤ w ∧ w ≤ 19) (ha0 : jisP a0) {σ : jMem} {r : Int32} {σ' : jMem} (h : f_X3_sees w a0 a1 σ = some (r, σ')) : jMet l D ad cid yX3_sees cX3_sees 5 (some .int) 2 46 [.ref w, .ref a0, .int a1, .ref 80] σ (some (.int r)) σ' := by
  refine jMet_of (ls0 := [some (.ref w), some (.ref a0), some (.int a1), some (.ref 80), none]) (by decide) (Nat.le_of_ble_eq_true rfl) rfl (fun K X R0 _ => ?_)
  unfold f_X3_sees at h
  refine j_aload_n X 1 dX3_sees_0 rfl rfl ?_
  refine j_iload_n X 2 dX3_sees_1 rfl rfl ?_
  obtain ⟨v1, σ2, hm3, h⟩ := jbd_some h
  refine j_callV (as := [.int a1]) (st := []) (st1 := [.int v1]) X (jp_lt ha0) (jp_ly ha0) rfl rfl sv_RX3_7 ⟨by decide, by decide⟩ rfl rfl (Nat.le_of_ble_eq_true rfl) rfl dX3_sees_2 jrv_i (c_X5_pathsAt ha0 hm3) rfl ?_
  refine j_aload_n X 1 dX3_sees_5 rfl rfl ?_
  refine j_getI X fg_RX3_13 (jp_lt ha0) (jp_ly ha0) rfl dX3_sees_6 ?_
  refine j_iand X dX3_sees_9 ?_
  refine j_join (pcJ := 18) (lsJ := fun q5 => [some (.ref w), some (.ref a0), some (.int a1), some (.ref 80), none]) (stJ := fun q5 => [.int q5]) h (fun q5 σ6 h => ?_) (fun k4 hk4 h => ?_)
  · refine j_istore (ls' := [some (.ref w), some (.ref a0), some (.int a1), some (.ref 80), some (.int q5)]) X dX3_sees_18 (Nat.le_of_ble_eq_true rfl) rfl ?_
    refine j_iload X dX3_sees_20 rfl ?_
    refine j_if_eq (tgt := 29) X dX3_sees_22 (by decide) h (fun h => ?_) (fun h => ?_)
    · refine j_aload_n X 0 dX3_sees_29 rfl rfl ?_
      refine j_aload_n X 1 dX3_sees_30 rfl rfl ?_
      refine j_iload_n X 2 dX3_sees_31 rfl rfl ?_
      refine j_aload_n X 3 dX3_sees_32 rfl rfl ?_
      obtain ⟨v7, σ8, hm9, h⟩ := jbd_some h
      obtain ⟨z10i, z10q, z101, z102⟩ := jw_cls (by omega : 16 ≤ w ∧ w ≤ 21)
      refine j_callP (as := [.ref a0, .int a1, .ref 80]) (st := []) (st1 := [.int v7]) X (jw_lt hw) z101 z102 sp_RX3_17 ⟨by decide, by decide⟩ rfl rfl (Nat.le_of_ble_eq_true rfl) rfl dX3_sees_33 jrv_i (c_X4_sees (by omega : 17 ≤ w ∧ w ≤ 19) ha0 hm9) rfl ?_
      obtain ⟨rfl, rfl⟩ := jin2 h
      exact j_iret X R0 dX3_sees_36
    · refine j_iconst (v := 0) X dX3_sees_25 (by decide) ?_
      refine j_goto (tgt := 36) X dX3_sees_26 (by decide) ?_
      obtain ⟨rfl, rfl⟩ := jin2 h
      exact j_iret X R0 dX3_sees_36
  · refine j_if_eq (tgt := 17) X dX3_sees_10 (by decide) h (fun h => ?_) (fun h => ?_)
    · refine j_iconst (v := 0) X dX3_sees_17 (by decide) ?_
      exact hk4 (0 : Int32) σ2 h
    · refine j_iconst (v := 1) X dX3_sees_13 (by decide) ?_
      refine j_goto (tgt := 18) X dX3_sees_14 (by decide) ?_
      exact hk4 (1 : Int32) σ2 h
def f_X8_sees (w : Nat) (a0 : Nat) (a1 : Int32) (σ : jMem) : Option (Int32 × jMem) :=
  some (((σ.1 80 1), σ))
set_option maxRecDepth 100000 in
set_option maxHeartbeats 4000000 in
theorem c_X8_sees {l : Launch} {D : va_G} {ad : Nat → Nat} {cid : Nat → ClassId} {w : Nat} {a0 : Nat} {a1 : Int32} (hw : 20 ≤ w ∧ w ≤ 21) (ha0 : jisP a0) {σ : jMem} {r : Int32} {σ' : jMem} (h : f_X8_sees w a0 a1 σ = some (r, σ')) : jMet l D ad cid yX8_sees cX8_sees 4 (some .int) 0 0 [.ref w, .ref a0, .int a1, .ref 80] σ (some (.int r)) σ' := by
  refine jMet_of (ls0 := [some (.ref w), some (.ref a0), some (.int a1), some (.ref 80)]) (by decide) (Nat.le_of_ble_eq_true rfl) rfl (fun K X R0 _ => ?_)
  unfold f_X8_sees at h
  refine j_aload_n X 3 dX8_sees_0 rfl rfl ?_
  refine j_getI X fg_RX8_7 ln_80 ly_80 rfl dX8_sees_1 ?_
  obtain ⟨rfl, rfl⟩ := jin2 h
  exact j_iret X R0 dX8_sees_4
def f_X7_sees (w : Nat) (a0 : Nat) (a1 : Int32) (σ : jMem) : Option (Int32 × jMem) :=
  some (((σ.1 80 2), σ))
set_option maxRecDepth 100000 in
set_option maxHeartbeats 4000000 in
theorem c_X7_sees {l : Launch} {D : va_G} {ad : Nat → Nat} {cid : Nat → ClassId} {w : Nat} {a0 : Nat} {a1 : Int32} (hw : 21 ≤ w ∧ w ≤ 21) (ha0 : jisP a0) {σ : jMem} {r : Int32} {σ' : jMem} (h : f_X7_sees w a0 a1 σ = some (r, σ')) : jMet l D ad cid yX7_sees cX7_sees 4 (some .int) 0 0 [.ref w, .ref a0, .int a1, .ref 80] σ (some (.int r)) σ' := by
  refine jMet_of (ls0 := [some (.ref w), some (.ref a0), some (.int a1), some (.ref 80)]) (by decide) (Nat.le_of_ble_eq_true rfl) rfl (fun K X R0 _ => ?_)
  unfold f_X7_sees at h
  refine j_aload_n X 3 dX7_sees_0 rfl rfl ?_
  refine j_getI X fg_RX7_7 ln_80 ly_80 rfl dX7_sees_1 ?_
  obtain ⟨rfl, rfl⟩ := jin2 h
  exact j_iret X R0 dX7_sees_4
