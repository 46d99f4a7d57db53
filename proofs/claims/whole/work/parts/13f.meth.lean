def f_X12_waysBehind (a0 : Int32) (σ : jMem) : Option (Int32 × jMem) :=
  jld σ 93 67 (6 : Int32) (fun v1 =>
  jbd (f_X12_isBurial v1 a0 σ) (fun v2 σ3 =>
  if ¬ v2 = 0 then
  jbv (f_X12_layThen  σ3) (fun σ5 =>
  jbv (f_X12_see 95 σ5) (fun σ7 =>
  jbd (f_X12_waysOf 95 σ7) (fun v9 σ10 =>
  some ((v9, σ10)))))
else
  some (((-1000000 : Int32), σ3))))
set_option maxRecDepth 100000 in
set_option maxHeartbeats 4000000 in
theorem c_X12_waysBehind {l : Launch} {D : va_G} {ad : Nat → Nat} {cid : Nat → ClassId} {a0 : Int32}  {σ : jMem} {r : Int32} {σ' : jMem} (h : f_X12_waysBehind a0 σ = some (r, σ')) : jMet l D ad cid yX12_waysBehind cX12_waysBehind 2 (some .int) 4 99 [.ref 89, .int a0] σ (some (.int r)) σ' := by
  refine jMet_of (ls0 := [some (.ref 89), some (.int a0)]) (by decide) (Nat.le_of_ble_eq_true rfl) rfl (fun K X R0 _ => ?_)
  unfold f_X12_waysBehind at h
  refine j_aload_n X 0 dX12_waysBehind_0 rfl rfl ?_
  refine j_aload_n X 0 dX12_waysBehind_1 rfl rfl ?_
  refine j_getR (t := 93) X fg_RX12_19 ln_89 ly_89 rfl dX12_waysBehind_2 ?_
  refine j_bipush (v := 6) X dX12_waysBehind_5 (by decide) ?_
  refine j_iaload X ln_93 ly_93 dX12_waysBehind_7 h (fun v1 h => ?_)
  refine j_iload_n X 1 dX12_waysBehind_8 rfl rfl ?_
  obtain ⟨v2, σ3, hm4, h⟩ := jbd_some h
  refine j_callV (as := [.int v1, .int a0]) (st := []) (st1 := [.int v2]) X ln_89 ly_89 rfl rfl sv_RX12_211 ⟨by decide, by decide⟩ rfl rfl (Nat.le_of_ble_eq_true rfl) rfl dX12_waysBehind_9 jrv_i (c_X12_isBurial  hm4) rfl ?_
  refine j_if_ne (tgt := 18) X dX12_waysBehind_12 (by decide) h (fun h => ?_) (fun h => ?_)
  · refine j_aload_n X 0 dX12_waysBehind_18 rfl rfl ?_
    obtain ⟨σ5, hm6, h⟩ := jbv_some h
    refine j_callV (as := []) (st := []) (st1 := []) X ln_89 ly_89 rfl rfl sv_RX12_243 ⟨by decide, by decide⟩ rfl rfl (Nat.le_of_ble_eq_true rfl) rfl dX12_waysBehind_19 jrv_v (c_X12_layThen  hm6) rfl ?_
    refine j_aload_n X 0 dX12_waysBehind_22 rfl rfl ?_
    refine j_aload_n X 0 dX12_waysBehind_23 rfl rfl ?_
    refine j_getR (t := 95) X fg_RX12_25 ln_89 ly_89 rfl dX12_waysBehind_24 ?_
    obtain ⟨σ7, hm8, h⟩ := jbv_some h
    refine j_callV (as := [.ref 95]) (st := []) (st1 := []) X ln_89 ly_89 rfl rfl sv_RX12_217 ⟨by decide, by decide⟩ rfl rfl (Nat.le_of_ble_eq_true rfl) rfl dX12_waysBehind_27 jrv_v (c_X12_see ⟨ln_95, ly_95⟩ hm8) rfl ?_
    refine j_aload_n X 0 dX12_waysBehind_30 rfl rfl ?_
    refine j_getR (t := 95) X fg_RX12_25 ln_89 ly_89 rfl dX12_waysBehind_31 ?_
    obtain ⟨v9, σ10, hm11, h⟩ := jbd_some h
    refine j_callS (as := [.ref 95]) (st := []) (st1 := [.int v9]) X ss_RX12_221 ⟨by decide, by decide⟩ rfl rfl (Nat.le_of_ble_eq_true rfl) rfl dX12_waysBehind_34 jrv_i (c_X12_waysOf ⟨ln_95, ly_95⟩ hm11) rfl ?_
    obtain ⟨rfl, rfl⟩ := jin2 h
    exact j_iret X R0 dX12_waysBehind_37
  · refine j_ldc (v := -1000000) X tw_988 dX12_waysBehind_15 ?_
    obtain ⟨rfl, rfl⟩ := jin2 h
    exact j_iret X R0 dX12_waysBehind_17
theorem sv_RX12_252 : jSiV RX12 252 yX12_waysBehind cX12_waysBehind 2 (some .int) 1 := ⟨tw_1187, tw_1189, ts_48, tw_13, tw_1190, by decide, by decide, by decide +kernel⟩
def f_X12_makesBy (a0 : Int32) (σ : jMem) : Option (Int32 × jMem) :=
  jbd (f_X12_waysBehind a0 σ) (fun v1 σ2 =>
  if ¬ v1 = (-1000000 : Int32) then
  jbd (f_X12_waysOf 93 σ2) (fun v4 σ5 =>
  jbd (f_X12_bits (v1 &&& (v4 ^^^ (-1 : Int32))) σ5) (fun v7 σ8 =>
  some ((v7, σ8))))
else
  some (((-1000000 : Int32), σ2)))
set_option maxRecDepth 100000 in
set_option maxHeartbeats 4000000 in
theorem c_X12_makesBy {l : Launch} {D : va_G} {ad : Nat → Nat} {cid : Nat → ClassId} {a0 : Int32}  {σ : jMem} {r : Int32} {σ' : jMem} (h : f_X12_makesBy a0 σ = some (r, σ')) : jMet l D ad cid yX12_makesBy cX12_makesBy 3 (some .int) 5 120 [.ref 89, .int a0] σ (some (.int r)) σ' := by
  refine jMet_of (ls0 := [some (.ref 89), some (.int a0), none]) (by decide) (Nat.le_of_ble_eq_true rfl) rfl (fun K X R0 _ => ?_)
  unfold f_X12_makesBy at h
  refine j_aload_n X 0 dX12_makesBy_0 rfl rfl ?_
  refine j_iload_n X 1 dX12_makesBy_1 rfl rfl ?_
  obtain ⟨v1, σ2, hm3, h⟩ := jbd_some h
  refine j_callV (as := [.int a0]) (st := []) (st1 := [.int v1]) X ln_89 ly_89 rfl rfl sv_RX12_252 ⟨by decide, by decide⟩ rfl rfl (Nat.le_of_ble_eq_true rfl) rfl dX12_makesBy_2 jrv_i (c_X12_waysBehind  hm3) rfl ?_
  refine j_istore_n (ls' := [some (.ref 89), some (.int a0), some (.int v1)]) X 2 dX12_makesBy_5 rfl (Nat.le_of_ble_eq_true rfl) rfl ?_
  refine j_iload_n X 2 dX12_makesBy_6 rfl rfl ?_
  refine j_ldc (v := -1000000) X tw_988 dX12_makesBy_7 ?_
  refine j_icmp_ne (tgt := 17) X dX12_makesBy_9 (by decide) h (fun h => ?_) (fun h => ?_)
  · refine j_iload_n X 2 dX12_makesBy_17 rfl rfl ?_
    refine j_aload_n X 0 dX12_makesBy_18 rfl rfl ?_
    refine j_getR (t := 93) X fg_RX12_19 ln_89 ly_89 rfl dX12_makesBy_19 ?_
    obtain ⟨v4, σ5, hm6, h⟩ := jbd_some h
    refine j_callS (as := [.ref 93]) (st := [.int v1]) (st1 := [.int v4, .int v1]) X ss_RX12_221 ⟨by decide, by decide⟩ rfl rfl (Nat.le_of_ble_eq_true rfl) rfl dX12_makesBy_22 jrv_i (c_X12_waysOf ⟨ln_93, ly_93⟩ hm6) rfl ?_
    refine j_iconst (v := -1) X dX12_makesBy_25 (by decide) ?_
    refine j_ixor X dX12_makesBy_26 ?_
    refine j_iand X dX12_makesBy_27 ?_
    obtain ⟨v7, σ8, hm9, h⟩ := jbd_some h
    refine j_callS (as := [.int (v1 &&& (v4 ^^^ (-1 : Int32)))]) (st := []) (st1 := [.int v7]) X ss_RX12_246 ⟨by decide, by decide⟩ rfl rfl (Nat.le_of_ble_eq_true rfl) rfl dX12_makesBy_28 jrv_i (c_X12_bits  hm9) rfl ?_
    obtain ⟨rfl, rfl⟩ := jin2 h
    exact j_iret X R0 dX12_makesBy_31
  · refine j_ldc (v := -1000000) X tw_988 dX12_makesBy_12 ?_
    refine j_goto (tgt := 31) X dX12_makesBy_14 (by decide) ?_
    obtain ⟨rfl, rfl⟩ := jin2 h
    exact j_iret X R0 dX12_makesBy_31
theorem sv_RX12_255 : jSiV RX12 255 yX12_makesBy cX12_makesBy 3 (some .int) 1 := ⟨tw_1183, tw_1185, ts_47, tw_13, tw_1186, by decide, by decide, by decide +kernel⟩
def f_X12_makes (a0 : Int32) (σ : jMem) : Option (Int32 × jMem) :=
  jlet (jset σ 89 0 (0 : Int32)) (fun σ1 =>
  jbd (f_X12_isThere  σ1) (fun v2 σ3 =>
  if ¬ v2 = 0 then
  jbd (f_X12_isField ((a0).toInt64) σ3) (fun v5 σ6 =>
  if v5 = 0 then
  some (((-1000001 : Int32), σ6))
else
  jbd (f_X12_makesBy a0 σ6) (fun v8 σ9 =>
  some ((v8, σ9))))
else
  some (((-1000002 : Int32), σ3))))
set_option maxRecDepth 100000 in
set_option maxHeartbeats 4000000 in
theorem c_X12_makes {l : Launch} {D : va_G} {ad : Nat → Nat} {cid : Nat → ClassId} {a0 : Int32}  {σ : jMem} {r : Int32} {σ' : jMem} (h : f_X12_makes a0 σ = some (r, σ')) : jMet l D ad cid yX12_makes cX12_makes 2 (some .int) 6 142 [.ref 89, .int a0] σ (some (.int r)) σ' := by
  refine jMet_of (ls0 := [some (.ref 89), some (.int a0)]) (by decide) (Nat.le_of_ble_eq_true rfl) rfl (fun K X R0 _ => ?_)
  unfold f_X12_makes at h
  refine j_aload_n X 0 dX12_makes_0 rfl rfl ?_
  refine j_iconst (v := 0) X dX12_makes_1 (by decide) ?_
  refine j_put X fp_RX12_47 ln_89 ly_89 rfl rfl rfl dX12_makes_2 h (fun σ1 h => ?_)
  refine j_aload_n X 0 dX12_makes_5 rfl rfl ?_
  obtain ⟨v2, σ3, hm4, h⟩ := jbd_some h
  refine j_callV (as := []) (st := []) (st1 := [.int v2]) X ln_89 ly_89 rfl rfl sv_RX12_203 ⟨by decide, by decide⟩ rfl rfl (Nat.le_of_ble_eq_true rfl) rfl dX12_makes_6 jrv_i (c_X12_isThere  hm4) rfl ?_
  refine j_if_ne (tgt := 15) X dX12_makes_9 (by decide) h (fun h => ?_) (fun h => ?_)
  · refine j_iload_n X 1 dX12_makes_15 rfl rfl ?_
    refine j_i2l X dX12_makes_16 ?_
    obtain ⟨v5, σ6, hm7, h⟩ := jbd_some h
    refine j_callS (as := [.long ((a0).toInt64)]) (st := []) (st1 := [.int v5]) X ss_RX12_207 ⟨by decide, by decide⟩ rfl rfl (Nat.le_of_ble_eq_true rfl) rfl dX12_makes_17 jrv_i (c_X12_isField  hm7) rfl ?_
    refine j_if_eq (tgt := 31) X dX12_makes_20 (by decide) h (fun h => ?_) (fun h => ?_)
    · refine j_ldc (v := -1000001) X tw_948 dX12_makes_31 ?_
      obtain ⟨rfl, rfl⟩ := jin2 h
      exact j_iret X R0 dX12_makes_33
    · refine j_aload_n X 0 dX12_makes_23 rfl rfl ?_
      refine j_iload_n X 1 dX12_makes_24 rfl rfl ?_
      obtain ⟨v8, σ9, hm10, h⟩ := jbd_some h
      refine j_callV (as := [.int a0]) (st := []) (st1 := [.int v8]) X ln_89 ly_89 rfl rfl sv_RX12_255 ⟨by decide, by decide⟩ rfl rfl (Nat.le_of_ble_eq_true rfl) rfl dX12_makes_25 jrv_i (c_X12_makesBy  hm10) rfl ?_
      refine j_goto (tgt := 33) X dX12_makes_28 (by decide) ?_
      obtain ⟨rfl, rfl⟩ := jin2 h
      exact j_iret X R0 dX12_makes_33
  · refine j_ldc (v := -1000002) X tw_1041 dX12_makes_12 ?_
    obtain ⟨rfl, rfl⟩ := jin2 h
    exact j_iret X R0 dX12_makes_14
