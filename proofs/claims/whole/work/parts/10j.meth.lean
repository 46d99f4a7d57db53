theorem sv_RX5_70 : jSiV RX5 70 yX5_allPaths cX5_allPaths 1 (some .int) 0 := ⟨tw_478, tw_479, tw_480, tw_10, tw_481, by decide, by decide, by decide +kernel⟩
def f_X5_open (k : Nat) (σ : jMem) : Option (Int32 × jMem) :=
  jbd (f_X5_allPaths k σ) (fun v1 σ2 =>
  some (((v1 &&& ((σ2.1 k 7) ^^^ (-1 : Int32))), σ2)))
set_option maxRecDepth 100000 in
set_option maxHeartbeats 4000000 in
theorem c_X5_open {l : Launch} {D : va_G} {ad : Nat → Nat} {cid : Nat → ClassId} {k : Nat} (hk : jisP k) {σ : jMem} {r : Int32} {σ' : jMem} (h : f_X5_open k σ = some (r, σ')) : jMet l D ad cid yX5_open cX5_open 1 (some .int) 1 20 [.ref k] σ (some (.int r)) σ' := by
  refine jMet_of (ls0 := [some (.ref k)]) (by decide) (Nat.le_of_ble_eq_true rfl) rfl (fun K X R0 _ => ?_)
  unfold f_X5_open at h
  refine j_aload_n X 0 dX5_open_0 rfl rfl ?_
  obtain ⟨v1, σ2, hm3, h⟩ := jbd_some h
  refine j_callV (as := []) (st := []) (st1 := [.int v1]) X (jp_lt hk) (jp_ly hk) rfl rfl sv_RX5_70 ⟨by decide, by decide⟩ rfl rfl (Nat.le_of_ble_eq_true rfl) rfl dX5_open_1 jrv_i (c_X5_allPaths hk hm3) rfl ?_
  refine j_aload_n X 0 dX5_open_4 rfl rfl ?_
  refine j_getI X fg_RX5_47 (jp_lt hk) (jp_ly hk) rfl dX5_open_5 ?_
  refine j_iconst (v := -1) X dX5_open_8 (by decide) ?_
  refine j_ixor X dX5_open_9 ?_
  refine j_iand X dX5_open_10 ?_
  obtain ⟨rfl, rfl⟩ := jin2 h
  exact j_iret X R0 dX5_open_11
theorem sv_RX2_36 : jSiV RX2 36 yX5_open cX5_open 1 (some .int) 0 := ⟨tw_474, tw_475, tw_476, tw_10, tw_477, by decide, by decide, by decide +kernel⟩
theorem sv_RX2_40 : jSiV RX2 40 yX2_carry cX2_carry 8 (some .boolean) 3 := ⟨tw_482, tw_483, tw_484, tw_11, tw_485, by decide, by decide, by decide +kernel⟩
def f_X2_isBurial (a0 : Nat) (a1 : Int32) (σ : jMem) : Option (Int32 × jMem) :=
  if a1 = (σ.1 a0 2) then
  some (((0 : Int32), σ))
else
  jbd (f_X5_open a0 σ) (fun v1 σ2 =>
  jbd (f_X2_carry a0 v1 a1 σ2) (fun v4 σ5 =>
  if v4 = 0 then
  some (((0 : Int32), σ5))
else
  some (((1 : Int32), σ5))))
set_option maxRecDepth 100000 in
set_option maxHeartbeats 4000000 in
theorem c_X2_isBurial {l : Launch} {D : va_G} {ad : Nat → Nat} {cid : Nat → ClassId} {a0 : Nat} {a1 : Int32} (ha0 : jisP a0) {σ : jMem} {r : Int32} {σ' : jMem} (h : f_X2_isBurial a0 a1 σ = some (r, σ')) : jMet l D ad cid yX2_isBurial cX2_isBurial 3 (some .boolean) 3 75 [.ref 80, .ref a0, .int a1] σ (some (.int r)) σ' := by
  refine jMet_of (ls0 := [some (.ref 80), some (.ref a0), some (.int a1)]) (by decide) (Nat.le_of_ble_eq_true rfl) rfl (fun K X R0 _ => ?_)
  unfold f_X2_isBurial at h
  refine j_iload_n X 2 dX2_isBurial_0 rfl rfl ?_
  refine j_aload_n X 1 dX2_isBurial_1 rfl rfl ?_
  refine j_getI X fg_RX2_30 (jp_lt ha0) (jp_ly ha0) rfl dX2_isBurial_2 ?_
  refine j_icmp_eq (tgt := 25) X dX2_isBurial_5 (by decide) h (fun h => ?_) (fun h => ?_)
  · refine j_iconst (v := 0) X dX2_isBurial_25 (by decide) ?_
    obtain ⟨rfl, rfl⟩ := jin2 h
    exact j_zret X R0 rfl dX2_isBurial_26
  · refine j_aload_n X 0 dX2_isBurial_8 rfl rfl ?_
    refine j_aload_n X 1 dX2_isBurial_9 rfl rfl ?_
    refine j_aload_n X 1 dX2_isBurial_10 rfl rfl ?_
    obtain ⟨v1, σ2, hm3, h⟩ := jbd_some h
    refine j_callV (as := []) (st := [.ref a0, .ref 80]) (st1 := [.int v1, .ref a0, .ref 80]) X (jp_lt ha0) (jp_ly ha0) rfl rfl sv_RX2_36 ⟨by decide, by decide⟩ rfl rfl (Nat.le_of_ble_eq_true rfl) rfl dX2_isBurial_11 jrv_i (c_X5_open ha0 hm3) rfl ?_
    refine j_iload_n X 2 dX2_isBurial_14 rfl rfl ?_
    obtain ⟨v4, σ5, hm6, h⟩ := jbd_some h
    refine j_callV (as := [.ref a0, .int v1, .int a1]) (st := []) (st1 := [.int v4]) X ln_80 ly_80 rfl rfl sv_RX2_40 ⟨by decide, by decide⟩ rfl rfl (Nat.le_of_ble_eq_true rfl) rfl dX2_isBurial_15 jrv_i (c_X2_carry ha0 hm6) rfl ?_
    refine j_if_eq (tgt := 25) X dX2_isBurial_18 (by decide) h (fun h => ?_) (fun h => ?_)
    · refine j_iconst (v := 0) X dX2_isBurial_25 (by decide) ?_
      obtain ⟨rfl, rfl⟩ := jin2 h
      exact j_zret X R0 rfl dX2_isBurial_26
    · refine j_iconst (v := 1) X dX2_isBurial_21 (by decide) ?_
      refine j_goto (tgt := 26) X dX2_isBurial_22 (by decide) ?_
      obtain ⟨rfl, rfl⟩ := jin2 h
      exact j_zret X R0 rfl dX2_isBurial_26
def f_X11_isField (a0 : Int32) (σ : jMem) : Option (Int32 × jMem) :=
  if a0 < 0 then
  some (((0 : Int32), σ))
else
  if (8 : Int32) ≤ a0 then
  some (((0 : Int32), σ))
else
  some (((1 : Int32), σ))
set_option maxRecDepth 100000 in
set_option maxHeartbeats 4000000 in
theorem c_X11_isField {l : Launch} {D : va_G} {ad : Nat → Nat} {cid : Nat → ClassId} {a0 : Int32}  {σ : jMem} {r : Int32} {σ' : jMem} (h : f_X11_isField a0 σ = some (r, σ')) : jMet l D ad cid yX11_isField cX11_isField 1 (some .boolean) 0 0 [.int a0] σ (some (.int r)) σ' := by
  refine jMet_of (ls0 := [some (.int a0)]) (by decide) (Nat.le_of_ble_eq_true rfl) rfl (fun K X R0 _ => ?_)
  unfold f_X11_isField at h
  refine j_iload_n X 0 dX11_isField_0 rfl rfl ?_
  refine j_if_lt (tgt := 14) X dX11_isField_1 (by decide) h (fun h => ?_) (fun h => ?_)
  · refine j_iconst (v := 0) X dX11_isField_14 (by decide) ?_
    obtain ⟨rfl, rfl⟩ := jin2 h
    exact j_zret X R0 rfl dX11_isField_15
  · refine j_iload_n X 0 dX11_isField_4 rfl rfl ?_
    refine j_bipush (v := 8) X dX11_isField_5 (by decide) ?_
    refine j_icmp_ge (tgt := 14) X dX11_isField_7 (by decide) h (fun h => ?_) (fun h => ?_)
    · refine j_iconst (v := 0) X dX11_isField_14 (by decide) ?_
      obtain ⟨rfl, rfl⟩ := jin2 h
      exact j_zret X R0 rfl dX11_isField_15
    · refine j_iconst (v := 1) X dX11_isField_10 (by decide) ?_
      refine j_goto (tgt := 15) X dX11_isField_11 (by decide) ?_
      obtain ⟨rfl, rfl⟩ := jin2 h
      exact j_zret X R0 rfl dX11_isField_15
theorem ss_RX11_174 : jSiS RX11 174 yX11_isField cX11_isField 1 (some .boolean) 1 := ⟨tw_467, tw_468, tw_1, tw_469, by decide, by decide, by decide +kernel⟩
theorem sv_RX11_177 : jSiV RX11 177 yX2_isBurial cX2_isBurial 3 (some .boolean) 2 := ⟨tw_470, tw_471, tw_472, tw_11, tw_473, by decide, by decide, by decide +kernel⟩
theorem sv_RX11_181 : jSiV RX11 181 yX11_keepAct cX11_keepAct 1 none 0 := ⟨tw_502, tw_504, ts_14, tw_1, tw_505, by decide, by decide, by decide +kernel⟩
theorem sv_RX11_184 : jSiV RX11 184 yX5_see cX5_see 3 none 1 := ⟨tw_513, tw_514, tw_515, tw_10, tw_516, by decide, by decide, by decide +kernel⟩
theorem sv_RX11_188 : jSiV RX11 188 yX5_ways cX5_ways 1 (some .int) 0 := ⟨tw_561, tw_562, tw_563, tw_10, tw_564, by decide, by decide, by decide +kernel⟩
def f_X11_bury (a0 : Int32) (σ : jMem) : Option (Int32 × jMem) :=
  if ¬ (σ.1 22 1) = 0 then
  jbd (f_X11_isField a0 σ) (fun v1 σ2 =>
  if ¬ v1 = 0 then
  jbd (f_X2_isBurial 22 a0 σ2) (fun v4 σ5 =>
  if ¬ v4 = 0 then
  jbv (f_X11_keepAct  σ5) (fun σ7 =>
  jbv (f_X5_see 22 σ7) (fun σ9 =>
  jbd (f_X5_ways 22 σ9) (fun v11 σ12 =>
  some ((v11, σ12)))))
else
  some (((-1000002 : Int32), σ5)))
else
  some (((-1000001 : Int32), σ2)))
else
  some (((-1000002 : Int32), σ))
set_option maxRecDepth 100000 in
set_option maxHeartbeats 4000000 in
theorem c_X11_bury {l : Launch} {D : va_G} {ad : Nat → Nat} {cid : Nat → ClassId} {a0 : Int32}  {σ : jMem} {r : Int32} {σ' : jMem} (h : f_X11_bury a0 σ = some (r, σ')) : jMet l D ad cid yX11_bury cX11_bury 2 (some .int) 5 114 [.ref 0, .int a0] σ (some (.int r)) σ' := by
  refine jMet_of (ls0 := [some (.ref 0), some (.int a0)]) (by decide) (Nat.le_of_ble_eq_true rfl) rfl (fun K X R0 _ => ?_)
  unfold f_X11_bury at h
  refine j_aload_n X 0 dX11_bury_0 rfl rfl ?_
  refine j_getR (t := 22) X fg_RX11_50 ln_0 ly_0 rfl dX11_bury_1 ?_
  refine j_getI X fg_RX11_170 ln_22 ly_22 rfl dX11_bury_4 ?_
  refine j_if_ne (tgt := 13) X dX11_bury_7 (by decide) h (fun h => ?_) (fun h => ?_)
  · refine j_iload_n X 1 dX11_bury_13 rfl rfl ?_
    obtain ⟨v1, σ2, hm3, h⟩ := jbd_some h
    refine j_callS (as := [.int a0]) (st := []) (st1 := [.int v1]) X ss_RX11_174 ⟨by decide, by decide⟩ rfl rfl (Nat.le_of_ble_eq_true rfl) rfl dX11_bury_14 jrv_i (c_X11_isField  hm3) rfl ?_
    refine j_if_ne (tgt := 23) X dX11_bury_17 (by decide) h (fun h => ?_) (fun h => ?_)
    · refine j_aload_n X 0 dX11_bury_23 rfl rfl ?_
      refine j_getR (t := 80) X fg_RX11_69 ln_0 ly_0 rfl dX11_bury_24 ?_
      refine j_aload_n X 0 dX11_bury_27 rfl rfl ?_
      refine j_getR (t := 22) X fg_RX11_50 ln_0 ly_0 rfl dX11_bury_28 ?_
      refine j_iload_n X 1 dX11_bury_31 rfl rfl ?_
      obtain ⟨v4, σ5, hm6, h⟩ := jbd_some h
      refine j_callV (as := [.ref 22, .int a0]) (st := []) (st1 := [.int v4]) X ln_80 ly_80 rfl rfl sv_RX11_177 ⟨by decide, by decide⟩ rfl rfl (Nat.le_of_ble_eq_true rfl) rfl dX11_bury_32 jrv_i (c_X2_isBurial jisP_22 hm6) rfl ?_
      refine j_if_ne (tgt := 41) X dX11_bury_35 (by decide) h (fun h => ?_) (fun h => ?_)
      · refine j_aload_n X 0 dX11_bury_41 rfl rfl ?_
        obtain ⟨σ7, hm8, h⟩ := jbv_some h
        refine j_callV (as := []) (st := []) (st1 := []) X ln_0 ly_0 rfl rfl sv_RX11_181 ⟨by decide, by decide⟩ rfl rfl (Nat.le_of_ble_eq_true rfl) rfl dX11_bury_42 jrv_v (c_X11_keepAct  hm8) rfl ?_
        refine j_aload_n X 0 dX11_bury_45 rfl rfl ?_
        refine j_getR (t := 22) X fg_RX11_50 ln_0 ly_0 rfl dX11_bury_46 ?_
        refine j_aload_n X 0 dX11_bury_49 rfl rfl ?_
        refine j_getR (t := 80) X fg_RX11_69 ln_0 ly_0 rfl dX11_bury_50 ?_
        obtain ⟨σ9, hm10, h⟩ := jbv_some h
        refine j_callV (as := [.ref 80]) (st := []) (st1 := []) X ln_22 ly_22 rfl rfl sv_RX11_184 ⟨by decide, by decide⟩ rfl rfl (Nat.le_of_ble_eq_true rfl) rfl dX11_bury_53 jrv_v (c_X5_see jisP_22 hm10) rfl ?_
        refine j_aload_n X 0 dX11_bury_56 rfl rfl ?_
        refine j_getR (t := 22) X fg_RX11_50 ln_0 ly_0 rfl dX11_bury_57 ?_
        obtain ⟨v11, σ12, hm13, h⟩ := jbd_some h
        refine j_callV (as := []) (st := []) (st1 := [.int v11]) X ln_22 ly_22 rfl rfl sv_RX11_188 ⟨by decide, by decide⟩ rfl rfl (Nat.le_of_ble_eq_true rfl) rfl dX11_bury_60 jrv_i (c_X5_ways jisP_22 hm13) rfl ?_
        obtain ⟨rfl, rfl⟩ := jin2 h
        exact j_iret X R0 dX11_bury_63
      · refine j_ldc (v := -1000002) X tw_458 dX11_bury_38 ?_
        obtain ⟨rfl, rfl⟩ := jin2 h
        exact j_iret X R0 dX11_bury_40
    · refine j_ldc (v := -1000001) X tw_318 dX11_bury_20 ?_
      obtain ⟨rfl, rfl⟩ := jin2 h
      exact j_iret X R0 dX11_bury_22
  · refine j_ldc (v := -1000002) X tw_458 dX11_bury_10 ?_
    obtain ⟨rfl, rfl⟩ := jin2 h
    exact j_iret X R0 dX11_bury_12
def f_X10_keeps (w : Nat) (a0 : Int32) (a1 : Int32) (σ : jMem) : Option (Int32 × jMem) :=
  some ((a0, σ))
set_option maxRecDepth 100000 in
set_option maxHeartbeats 4000000 in
theorem c_X10_keeps {l : Launch} {D : va_G} {ad : Nat → Nat} {cid : Nat → ClassId} {w : Nat} {a0 : Int32} {a1 : Int32} (hw : 16 ≤ w ∧ w ≤ 21) {σ : jMem} {r : Int32} {σ' : jMem} (h : f_X10_keeps w a0 a1 σ = some (r, σ')) : jMet l D ad cid yX10_keeps cX10_keeps 3 (some .int) 0 0 [.ref w, .int a0, .int a1] σ (some (.int r)) σ' := by
  refine jMet_of (ls0 := [some (.ref w), some (.int a0), some (.int a1)]) (by decide) (Nat.le_of_ble_eq_true rfl) rfl (fun K X R0 _ => ?_)
  unfold f_X10_keeps at h
  refine j_iload_n X 1 dX10_keeps_0 rfl rfl ?_
  obtain ⟨rfl, rfl⟩ := jin2 h
  exact j_iret X R0 dX10_keeps_1
def f_X8_keeps (w : Nat) (a0 : Int32) (a1 : Int32) (σ : jMem) : Option (Int32 × jMem) :=
  if ¬ (a1 - a1 / (3 : Int32) * (3 : Int32)) = (2 : Int32) then
  some ((a0, σ))
else
  some (((0 : Int32), σ))
set_option maxRecDepth 100000 in
set_option maxHeartbeats 4000000 in
theorem c_X8_keeps {l : Launch} {D : va_G} {ad : Nat → Nat} {cid : Nat → ClassId} {w : Nat} {a0 : Int32} {a1 : Int32} (hw : 20 ≤ w ∧ w ≤ 21) {σ : jMem} {r : Int32} {σ' : jMem} (h : f_X8_keeps w a0 a1 σ = some (r, σ')) : jMet l D ad cid yX8_keeps cX8_keeps 3 (some .int) 0 0 [.ref w, .int a0, .int a1] σ (some (.int r)) σ' := by
  refine jMet_of (ls0 := [some (.ref w), some (.int a0), some (.int a1)]) (by decide) (Nat.le_of_ble_eq_true rfl) rfl (fun K X R0 _ => ?_)
  unfold f_X8_keeps at h
  refine j_iload_n X 2 dX8_keeps_0 rfl rfl ?_
  refine j_iconst (v := 3) X dX8_keeps_1 (by decide) ?_
  refine j_irem X dX8_keeps_2 (by decide) ?_
  refine j_iconst (v := 2) X dX8_keeps_3 (by decide) ?_
  refine j_icmp_ne (tgt := 11) X dX8_keeps_4 (by decide) h (fun h => ?_) (fun h => ?_)
  · refine j_iload_n X 1 dX8_keeps_11 rfl rfl ?_
    obtain ⟨rfl, rfl⟩ := jin2 h
    exact j_iret X R0 dX8_keeps_12
  · refine j_iconst (v := 0) X dX8_keeps_7 (by decide) ?_
    refine j_goto (tgt := 12) X dX8_keeps_8 (by decide) ?_
    obtain ⟨rfl, rfl⟩ := jin2 h
    exact j_iret X R0 dX8_keeps_12
def f_X7_keeps (w : Nat) (a0 : Int32) (a1 : Int32) (σ : jMem) : Option (Int32 × jMem) :=
  some (((a0 &&& (a0 - (1 : Int32))), σ))
set_option maxRecDepth 100000 in
set_option maxHeartbeats 4000000 in
theorem c_X7_keeps {l : Launch} {D : va_G} {ad : Nat → Nat} {cid : Nat → ClassId} {w : Nat} {a0 : Int32} {a1 : Int32} (hw : 21 ≤ w ∧ w ≤ 21) {σ : jMem} {r : Int32} {σ' : jMem} (h : f_X7_keeps w a0 a1 σ = some (r, σ')) : jMet l D ad cid yX7_keeps cX7_keeps 3 (some .int) 0 0 [.ref w, .int a0, .int a1] σ (some (.int r)) σ' := by
  refine jMet_of (ls0 := [some (.ref w), some (.int a0), some (.int a1)]) (by decide) (Nat.le_of_ble_eq_true rfl) rfl (fun K X R0 _ => ?_)
  unfold f_X7_keeps at h
  refine j_iload_n X 1 dX7_keeps_0 rfl rfl ?_
  refine j_iload_n X 1 dX7_keeps_1 rfl rfl ?_
  refine j_iconst (v := 1) X dX7_keeps_2 (by decide) ?_
  refine j_isub X dX7_keeps_3 ?_
  refine j_iand X dX7_keeps_4 ?_
  obtain ⟨rfl, rfl⟩ := jin2 h
  exact j_iret X R0 dX7_keeps_5
def vf_X10_keeps (w : Nat) (a0 : Int32) (a1 : Int32) (σ : jMem) : Option (Int32 × jMem) :=
  if w = 16 then f_X10_keeps 16 a0 a1 σ else
  if w = 17 then f_X10_keeps 17 a0 a1 σ else
  if w = 18 then f_X10_keeps 18 a0 a1 σ else
  if w = 19 then f_X10_keeps 19 a0 a1 σ else
  if w = 20 then f_X8_keeps 20 a0 a1 σ else
  if w = 21 then f_X7_keeps 21 a0 a1 σ else
  none
theorem su_RX5_101_16 : jSiU RX5 101 RX10 yX10_keeps yX10_keeps cX10_keeps 3 (some .int) 2 := ⟨tw_582, tw_585, tw_583, ⟨_, _, _, tw_595⟩, tw_584, tw_583, tw_4, tw_595, by decide, by decide, by decide +kernel⟩
theorem su_RX5_101_17 : jSiU RX5 101 RX4 yX10_keeps yX10_keeps cX10_keeps 3 (some .int) 2 := ⟨tw_582, tw_585, tw_583, ⟨_, _, _, tw_595⟩, tw_588, tw_583, tw_4, tw_595, by decide, by decide, by decide +kernel⟩
theorem su_RX5_101_18 : jSiU RX5 101 RX1 yX10_keeps yX10_keeps cX10_keeps 3 (some .int) 2 := ⟨tw_582, tw_585, tw_583, ⟨_, _, _, tw_595⟩, tw_586, tw_583, tw_4, tw_595, by decide, by decide, by decide +kernel⟩
theorem su_RX5_101_19 : jSiU RX5 101 RX3 yX10_keeps yX10_keeps cX10_keeps 3 (some .int) 2 := ⟨tw_582, tw_585, tw_583, ⟨_, _, _, tw_595⟩, tw_587, tw_583, tw_4, tw_595, by decide, by decide, by decide +kernel⟩
theorem su_RX5_101_20 : jSiU RX5 101 RX8 yX10_keeps yX8_keeps cX8_keeps 3 (some .int) 2 := ⟨tw_582, tw_585, tw_583, ⟨_, _, _, tw_595⟩, tw_592, tw_593, tw_8, tw_594, by decide, by decide, by decide +kernel⟩
theorem su_RX5_101_21 : jSiU RX5 101 RX7 yX10_keeps yX7_keeps cX7_keeps 3 (some .int) 2 := ⟨tw_582, tw_585, tw_583, ⟨_, _, _, tw_595⟩, tw_589, tw_590, tw_9, tw_591, by decide, by decide, by decide +kernel⟩
set_option maxRecDepth 100000 in
theorem vs_X5_pass_54 {K : jK} (X : JX K cX5_pass 2 RX5 2 42) {w : Nat} (hw : 16 ≤ w ∧ w ≤ 21) {a0 : Int32} {a1 : Int32}  {ls : List (Option Value)} {st : List Value} {σ σ' : jMem} {v : Int32} (hnl : ls.length = 2) (h8 : (st.map fun v => v.category).sum ≤ 8) (hm : vf_X10_keeps w a0 a1 σ = some (v, σ')) (kk : J K (54 + 3) ls (.int v :: st) σ') : J K 54 ls (.int a1 :: .int a0 :: .ref w :: st) σ := by
  rcases (show w = 16 ∨ w = 17 ∨ w = 18 ∨ w = 19 ∨ w = 20 ∨ w = 21 by omega) with rfl | rfl | rfl | rfl | rfl | rfl
  · exact j_callU (as := [.int a0, .int a1]) (st := st) (st1 := .int v :: st) X ln_16 ly_16 rfl su_RX5_101_16 ⟨by decide, by decide⟩ rfl rfl h8 hnl dX5_pass_54 jrv_i (c_X10_keeps (by decide)  hm) rfl kk
  · exact j_callU (as := [.int a0, .int a1]) (st := st) (st1 := .int v :: st) X ln_17 ly_17 rfl su_RX5_101_17 ⟨by decide, by decide⟩ rfl rfl h8 hnl dX5_pass_54 jrv_i (c_X10_keeps (by decide)  hm) rfl kk
  · exact j_callU (as := [.int a0, .int a1]) (st := st) (st1 := .int v :: st) X ln_18 ly_18 rfl su_RX5_101_18 ⟨by decide, by decide⟩ rfl rfl h8 hnl dX5_pass_54 jrv_i (c_X10_keeps (by decide)  hm) rfl kk
  · exact j_callU (as := [.int a0, .int a1]) (st := st) (st1 := .int v :: st) X ln_19 ly_19 rfl su_RX5_101_19 ⟨by decide, by decide⟩ rfl rfl h8 hnl dX5_pass_54 jrv_i (c_X10_keeps (by decide)  hm) rfl kk
  · exact j_callU (as := [.int a0, .int a1]) (st := st) (st1 := .int v :: st) X ln_20 ly_20 rfl su_RX5_101_20 ⟨by decide, by decide⟩ rfl rfl h8 hnl dX5_pass_54 jrv_i (c_X8_keeps (by decide)  hm) rfl kk
  · exact j_callU (as := [.int a0, .int a1]) (st := st) (st1 := .int v :: st) X ln_21 ly_21 rfl su_RX5_101_21 ⟨by decide, by decide⟩ rfl rfl h8 hnl dX5_pass_54 jrv_i (c_X7_keeps (by decide)  hm) rfl kk
def X5_pass_L2_b (p0 : Nat) (rec : Int32 → jMem → Option ((Unit) × jMem)) (x1 : Int32) (σ : jMem) : Option ((Unit) × jMem) :=
  if (σ.1 p0 6) ≤ x1 then
  some ((), σ)
else
  jbd (f_X5_isAlive p0 x1 σ) (fun v1 σ2 =>
  jj (fun (q5 : Unit) σ6 =>
  jld σ6 (p0 + 4) 6 x1 (fun v7 =>
  jldr 6 16 1 v7 (fun k8 =>
  jld σ6 (p0 + 7) 6 x1 (fun v9 =>
  jbd (vf_X10_keeps k8 v9 (σ6.1 p0 4) σ6) (fun v10 σ11 =>
  jst σ11 (p0 + 7) 6 x1 v10 (fun σ13 =>
  rec (x1 + 1) σ13)))))) (fun k4 =>
  if v1 = 0 then
  k4 () σ2
else
  jld σ2 (p0 + 6) 6 x1 (fun v14 =>
  jst σ2 (p0 + 6) 6 x1 (v14 + (1 : Int32)) (fun σ15 =>
  k4 () σ15))))
def X5_pass_L2 (p0 : Nat) : Nat → Int32 → jMem → Option ((Unit) × jMem) := jloop (fun rec s σ => X5_pass_L2_b p0 rec s σ)
set_option maxRecDepth 100000 in
set_option maxHeartbeats 4000000 in
theorem X5_pass_L2_bok {K : jK} (X : JX K cX5_pass 2 RX5 2 42) {p0 : Nat} (hp0 : jisP p0) {rec : Int32 → jMem → Option ((Unit) × jMem)} (ih : ∀ (s : Int32) (σ : jMem) (o : (Unit) × jMem), rec s σ = some o → (J K 64 [some (.ref p0), none] [] o.2) → J K 2 [some (.ref p0), some (.int s)] [] σ) : ∀ (x1 : Int32) (σ : jMem) (o : (Unit) × jMem), X5_pass_L2_b p0 rec x1 σ = some o → (J K 64 [some (.ref p0), none] [] o.2) → J K 2 [some (.ref p0), some (.int x1)] [] σ := by
  intro x1 σ o h kk
  unfold X5_pass_L2_b at h
  refine j_iload_n X 1 dX5_pass_2 rfl rfl ?_
  refine j_aload_n X 0 dX5_pass_3 rfl rfl ?_
  refine j_getI X fg_RX5_44 (jp_lt hp0) (jp_ly hp0) rfl dX5_pass_4 ?_
  refine j_icmp_ge (tgt := 64) X dX5_pass_7 (by decide) h (fun h => ?_) (fun h => ?_)
  · obtain rfl := Option.some.inj h
    exact j_sub (ls' := [some (.ref p0), none]) ⟨Or.inr rfl, Or.inl rfl, trivial⟩ kk
  · refine j_aload_n X 0 dX5_pass_10 rfl rfl ?_
    refine j_iload_n X 1 dX5_pass_11 rfl rfl ?_
    obtain ⟨v1, σ2, hm3, h⟩ := jbd_some h
    refine j_callV (as := [.int x1]) (st := []) (st1 := [.int v1]) X (jp_lt hp0) (jp_ly hp0) rfl rfl sv_RX5_79 ⟨by decide, by decide⟩ rfl rfl (Nat.le_of_ble_eq_true rfl) rfl dX5_pass_12 jrv_i (c_X5_isAlive hp0 hm3) rfl ?_
    refine j_join (pcJ := 28) (lsJ := fun q5 => [some (.ref p0), some (.int x1)]) (stJ := fun q5 => []) h (fun q5 σ6 h => ?_) (fun k4 hk4 h => ?_)
    · refine j_aload_n X 0 dX5_pass_28 rfl rfl ?_
      refine j_getR (t := (p0 + 7)) X fg_RX5_34 (jp_lt hp0) (jp_ly hp0) rfl dX5_pass_29 ?_
      refine j_iload_n X 1 dX5_pass_32 rfl rfl ?_
      refine j_aload_n X 0 dX5_pass_33 rfl rfl ?_
      refine j_getR (t := 15) X fg_RX5_9 (jp_lt hp0) (jp_ly hp0) rfl dX5_pass_34 ?_
      refine j_aload_n X 0 dX5_pass_37 rfl rfl ?_
      refine j_getR (t := (p0 + 4)) X fg_RX5_25 (jp_lt hp0) (jp_ly hp0) rfl dX5_pass_38 ?_
      refine j_iload_n X 1 dX5_pass_41 rfl rfl ?_
      refine j_iaload X (jp_lt4 hp0) (jp_ly4 hp0) dX5_pass_42 h (fun v7 h => ?_)
      refine j_aaload X ln_15 ly_15 (Or.inl rfl) dX5_pass_43 h (fun k8 qk8 h => ?_)
      have hk8 := jrow6 qk8
      refine j_aload_n X 0 dX5_pass_44 rfl rfl ?_
      refine j_getR (t := (p0 + 7)) X fg_RX5_34 (jp_lt hp0) (jp_ly hp0) rfl dX5_pass_45 ?_
      refine j_iload_n X 1 dX5_pass_48 rfl rfl ?_
      refine j_iaload X (jp_lt7 hp0) (jp_ly7 hp0) dX5_pass_49 h (fun v9 h => ?_)
      refine j_aload_n X 0 dX5_pass_50 rfl rfl ?_
      refine j_getI X fg_RX5_37 (jp_lt hp0) (jp_ly hp0) rfl dX5_pass_51 ?_
      obtain ⟨v10, σ11, hm12, h⟩ := jbd_some h
      refine vs_X5_pass_54 (st := [.int x1, .ref (p0 + 7)]) X hk8  rfl (Nat.le_of_ble_eq_true rfl) hm12 ?_
      refine j_iastore X (jp_lt7 hp0) (jp_ly7 hp0) dX5_pass_57 h (fun σ13 h => ?_)
      refine j_iinc (v := (x1 + 1)) (ls' := [some (.ref p0), some (.int (x1 + 1))]) X dX5_pass_58 rfl rfl (Nat.le_of_ble_eq_true rfl) rfl ?_
      refine j_goto (tgt := 2) X dX5_pass_61 (by decide) ?_
      exact ih (x1 + 1) σ13 _ h kk
    · refine j_if_eq (tgt := 28) X dX5_pass_15 (by decide) h (fun h => ?_) (fun h => ?_)
      · exact hk4 () σ2 h
      · refine j_aload_n X 0 dX5_pass_18 rfl rfl ?_
        refine j_getR (t := (p0 + 6)) X fg_RX5_31 (jp_lt hp0) (jp_ly hp0) rfl dX5_pass_19 ?_
        refine j_iload_n X 1 dX5_pass_22 rfl rfl ?_
        refine j_dup2 X dX5_pass_23 rfl rfl ?_
        refine j_iaload X (jp_lt6 hp0) (jp_ly6 hp0) dX5_pass_24 h (fun v14 h => ?_)
        refine j_iconst (v := 1) X dX5_pass_25 (by decide) ?_
        refine j_iadd X dX5_pass_26 ?_
        refine j_iastore X (jp_lt6 hp0) (jp_ly6 hp0) dX5_pass_27 h (fun σ15 h => ?_)
        exact hk4 () σ15 h
theorem X5_pass_L2_ok {K : jK} (X : JX K cX5_pass 2 RX5 2 42) {p0 : Nat} (hp0 : jisP p0) : ∀ (n : Nat) (s : Int32) (σ : jMem) (o : (Unit) × jMem), X5_pass_L2 p0 n s σ = some o → (J K 64 [some (.ref p0), none] [] o.2) → J K 2 [some (.ref p0), some (.int s)] [] σ := by
  intro n
  induction n with
  | zero => intro s σ o h; cases h
  | succ n ih => intro s σ o h; exact X5_pass_L2_bok X hp0 ih (s) σ o h
def f_X5_pass (k : Nat) (σ : jMem) : Option jMem :=
  jbd (X5_pass_L2 (k) jFU (0 : Int32) σ) (fun q16 σ17 =>
  jlet (jset σ17 k 4 ((σ17.1 k 4) + (1 : Int32))) (fun σ18 =>
  some σ18))
set_option maxRecDepth 100000 in
set_option maxHeartbeats 4000000 in
theorem c_X5_pass {l : Launch} {D : va_G} {ad : Nat → Nat} {cid : Nat → ClassId} {k : Nat} (hk : jisP k) {σ : jMem} {σ' : jMem} (h : f_X5_pass k σ = some σ') : jMet l D ad cid yX5_pass cX5_pass 2 none 2 42 [.ref k] σ none σ' := by
  refine jMet_of (ls0 := [some (.ref k), none]) (by decide) (Nat.le_of_ble_eq_true rfl) rfl (fun K X R0 _ => ?_)
  unfold f_X5_pass at h
  refine j_iconst (v := 0) X dX5_pass_0 (by decide) ?_
  refine j_istore_n (ls' := [some (.ref k), some (.int (0 : Int32))]) X 1 dX5_pass_1 rfl (Nat.le_of_ble_eq_true rfl) rfl ?_
  obtain ⟨q16, σ17, hL19, h⟩ := jbd_some h
  refine X5_pass_L2_ok X hk jFU (0 : Int32) σ _ hL19 ?_
  refine j_aload_n X 0 dX5_pass_64 rfl rfl ?_
  refine j_dup X dX5_pass_65 rfl ?_
  refine j_getI X fg_RX5_37 (jp_lt hk) (jp_ly hk) rfl dX5_pass_66 ?_
  refine j_iconst (v := 1) X dX5_pass_69 (by decide) ?_
  refine j_iadd X dX5_pass_70 ?_
  refine j_put X fp_RX5_37 (jp_lt hk) (jp_ly hk) rfl rfl rfl dX5_pass_71 h (fun σ18 h => ?_)
  obtain rfl := Option.some.inj h
  exact j_vret X R0 dX5_pass_74
def X5_living_L4_b (p0 : Nat) (rec : Int32 × Int32 → jMem → Option ((Int32) × jMem)) (x1 : Int32) (x2 : Int32) (σ : jMem) : Option ((Int32) × jMem) :=
  if (σ.1 p0 6) ≤ x2 then
  some (x1, σ)
else
  jbd (f_X5_isAlive p0 x2 σ) (fun v1 σ2 =>
  if v1 = 0 then
  rec (x1, (x2 + 1)) σ2
else
  jlet ((x1 ||| ((1 : Int32) <<< (x2 &&& 31)))) (fun v4 =>
  rec (v4, (x2 + 1)) σ2))
def X5_living_L4 (p0 : Nat) : Nat → Int32 × Int32 → jMem → Option ((Int32) × jMem) := jloop (fun rec s σ => X5_living_L4_b p0 rec s.1 s.2 σ)
set_option maxRecDepth 100000 in
set_option maxHeartbeats 4000000 in
theorem X5_living_L4_bok {K : jK} (X : JX K cX5_living 3 RX5 2 42) {p0 : Nat} (hp0 : jisP p0) {rec : Int32 × Int32 → jMem → Option ((Int32) × jMem)} (ih : ∀ (s : Int32 × Int32) (σ : jMem) (o : (Int32) × jMem), rec s σ = some o → (J K 32 [none, some (.int o.1), none] [] o.2) → J K 4 [some (.ref p0), some (.int s.1), some (.int s.2)] [] σ) : ∀ (x1 : Int32) (x2 : Int32) (σ : jMem) (o : (Int32) × jMem), X5_living_L4_b p0 rec x1 x2 σ = some o → (J K 32 [none, some (.int o.1), none] [] o.2) → J K 4 [some (.ref p0), some (.int x1), some (.int x2)] [] σ := by
  intro x1 x2 σ o h kk
  unfold X5_living_L4_b at h
  refine j_iload_n X 2 dX5_living_4 rfl rfl ?_
  refine j_aload_n X 0 dX5_living_5 rfl rfl ?_
  refine j_getI X fg_RX5_44 (jp_lt hp0) (jp_ly hp0) rfl dX5_living_6 ?_
  refine j_icmp_ge (tgt := 32) X dX5_living_9 (by decide) h (fun h => ?_) (fun h => ?_)
  · obtain rfl := Option.some.inj h
    exact j_sub (ls' := [none, some (.int x1), none]) ⟨Or.inl rfl, Or.inr rfl, Or.inl rfl, trivial⟩ kk
  · refine j_aload_n X 0 dX5_living_12 rfl rfl ?_
    refine j_iload_n X 2 dX5_living_13 rfl rfl ?_
    obtain ⟨v1, σ2, hm3, h⟩ := jbd_some h
    refine j_callV (as := [.int x2]) (st := []) (st1 := [.int v1]) X (jp_lt hp0) (jp_ly hp0) rfl rfl sv_RX5_79 ⟨by decide, by decide⟩ rfl rfl (Nat.le_of_ble_eq_true rfl) rfl dX5_living_14 jrv_i (c_X5_isAlive hp0 hm3) rfl ?_
    refine j_if_eq (tgt := 26) X dX5_living_17 (by decide) h (fun h => ?_) (fun h => ?_)
    · refine j_iinc (v := (x2 + 1)) (ls' := [some (.ref p0), some (.int x1), some (.int (x2 + 1))]) X dX5_living_26 rfl rfl (Nat.le_of_ble_eq_true rfl) rfl ?_
      refine j_goto (tgt := 4) X dX5_living_29 (by decide) ?_
      exact ih (x1, (x2 + 1)) σ2 _ h kk
    · refine j_iload_n X 1 dX5_living_20 rfl rfl ?_
      refine j_iconst (v := 1) X dX5_living_21 (by decide) ?_
      refine j_iload_n X 2 dX5_living_22 rfl rfl ?_
      refine j_ishl X dX5_living_23 ?_
      refine j_ior X dX5_living_24 ?_
      refine j_letI h (fun v4 h => ?_)
      refine j_istore_n (ls' := [some (.ref p0), some (.int v4), some (.int x2)]) X 1 dX5_living_25 rfl (Nat.le_of_ble_eq_true rfl) rfl ?_
      refine j_iinc (v := (x2 + 1)) (ls' := [some (.ref p0), some (.int v4), some (.int (x2 + 1))]) X dX5_living_26 rfl rfl (Nat.le_of_ble_eq_true rfl) rfl ?_
      refine j_goto (tgt := 4) X dX5_living_29 (by decide) ?_
      exact ih (v4, (x2 + 1)) σ2 _ h kk
theorem X5_living_L4_ok {K : jK} (X : JX K cX5_living 3 RX5 2 42) {p0 : Nat} (hp0 : jisP p0) : ∀ (n : Nat) (s : Int32 × Int32) (σ : jMem) (o : (Int32) × jMem), X5_living_L4 p0 n s σ = some o → (J K 32 [none, some (.int o.1), none] [] o.2) → J K 4 [some (.ref p0), some (.int s.1), some (.int s.2)] [] σ := by
  intro n
  induction n with
  | zero => intro s σ o h; cases h
  | succ n ih => intro s σ o h; exact X5_living_L4_bok X hp0 ih (s.1) (s.2) σ o h
def f_X5_living (k : Nat) (σ : jMem) : Option (Int32 × jMem) :=
  jbd (X5_living_L4 (k) jFU ((0 : Int32), (0 : Int32)) σ) (fun q5 σ6 =>
  some ((q5, σ6)))
set_option maxRecDepth 100000 in
set_option maxHeartbeats 4000000 in
theorem c_X5_living {l : Launch} {D : va_G} {ad : Nat → Nat} {cid : Nat → ClassId} {k : Nat} (hk : jisP k) {σ : jMem} {r : Int32} {σ' : jMem} (h : f_X5_living k σ = some (r, σ')) : jMet l D ad cid yX5_living cX5_living 3 (some .int) 2 42 [.ref k] σ (some (.int r)) σ' := by
  refine jMet_of (ls0 := [some (.ref k), none, none]) (by decide) (Nat.le_of_ble_eq_true rfl) rfl (fun K X R0 _ => ?_)
  unfold f_X5_living at h
  refine j_iconst (v := 0) X dX5_living_0 (by decide) ?_
  refine j_istore_n (ls' := [some (.ref k), some (.int (0 : Int32)), none]) X 1 dX5_living_1 rfl (Nat.le_of_ble_eq_true rfl) rfl ?_
  refine j_iconst (v := 0) X dX5_living_2 (by decide) ?_
  refine j_istore_n (ls' := [some (.ref k), some (.int (0 : Int32)), some (.int (0 : Int32))]) X 2 dX5_living_3 rfl (Nat.le_of_ble_eq_true rfl) rfl ?_
  obtain ⟨q5, σ6, hL7, h⟩ := jbd_some h
  refine X5_living_L4_ok X hk jFU ((0 : Int32), (0 : Int32)) σ _ hL7 ?_
  refine j_iload_n X 1 dX5_living_32 rfl rfl ?_
  obtain ⟨rfl, rfl⟩ := jin2 h
  exact j_iret X R0 dX5_living_33
