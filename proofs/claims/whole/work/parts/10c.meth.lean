theorem sv_RX11_100 : jSiV RX11 100 yX6_amiss cX6_amiss 4 (some .int) 3 := ⟨tw_336, tw_337, tw_338, tw_2, tw_339, by decide, by decide, by decide +kernel⟩
theorem sv_RX11_104 : jSiV RX11 104 yX6_put cX6_put 5 (some .int) 3 := ⟨tw_348, tw_349, tw_350, tw_2, tw_351, by decide, by decide, by decide +kernel⟩
def f_X11_set (a0 : Int32) (a1 : Int32) (a2 : Int32) (σ : jMem) : Option (Int32 × jMem) :=
  jbd (f_X11_isRow a0 σ) (fun v1 σ2 =>
  if ¬ v1 = 0 then
  jbd (f_X6_amiss a0 a1 (1 : Int32) σ2) (fun v4 σ5 =>
  if v4 = 0 then
  jbd (f_X6_put a0 a1 a2 σ5) (fun v7 σ8 =>
  jbd (f_X11_unfound v7 σ8) (fun v10 σ11 =>
  some ((v10, σ11))))
else
  jbd (f_X11_found v4 σ5) (fun v13 σ14 =>
  some ((v13, σ14))))
else
  some (((-1000001 : Int32), σ2)))
set_option maxRecDepth 100000 in
set_option maxHeartbeats 4000000 in
theorem c_X11_set {l : Launch} {D : va_G} {ad : Nat → Nat} {cid : Nat → ClassId} {a0 : Int32} {a1 : Int32} {a2 : Int32}  {σ : jMem} {r : Int32} {σ' : jMem} (h : f_X11_set a0 a1 a2 σ = some (r, σ')) : jMet l D ad cid yX11_set cX11_set 5 (some .int) 2 46 [.ref 0, .int a0, .int a1, .int a2] σ (some (.int r)) σ' := by
  refine jMet_of (ls0 := [some (.ref 0), some (.int a0), some (.int a1), some (.int a2), none]) (by decide) (Nat.le_of_ble_eq_true rfl) rfl (fun K X R0 _ => ?_)
  unfold f_X11_set at h
  refine j_iload_n X 1 dX11_set_0 rfl rfl ?_
  obtain ⟨v1, σ2, hm3, h⟩ := jbd_some h
  refine j_callS (as := [.int a0]) (st := []) (st1 := [.int v1]) X ss_RX11_84 ⟨by decide, by decide⟩ rfl rfl (Nat.le_of_ble_eq_true rfl) rfl dX11_set_1 jrv_i (c_X11_isRow  hm3) rfl ?_
  refine j_if_ne (tgt := 10) X dX11_set_4 (by decide) h (fun h => ?_) (fun h => ?_)
  · refine j_aload_n X 0 dX11_set_10 rfl rfl ?_
    refine j_getR (t := 1) X fg_RX11_10 ln_0 ly_0 rfl dX11_set_11 ?_
    refine j_iload_n X 1 dX11_set_14 rfl rfl ?_
    refine j_iload_n X 2 dX11_set_15 rfl rfl ?_
    refine j_iconst (v := 1) X dX11_set_16 (by decide) ?_
    obtain ⟨v4, σ5, hm6, h⟩ := jbd_some h
    refine j_callV (as := [.int a0, .int a1, .int (1 : Int32)]) (st := []) (st1 := [.int v4]) X ln_1 ly_1 rfl rfl sv_RX11_100 ⟨by decide, by decide⟩ rfl rfl (Nat.le_of_ble_eq_true rfl) rfl dX11_set_17 jrv_i (c_X6_amiss  hm6) rfl ?_
    refine j_istore (ls' := [some (.ref 0), some (.int a0), some (.int a1), some (.int a2), some (.int v4)]) X dX11_set_20 (Nat.le_of_ble_eq_true rfl) rfl ?_
    refine j_iload X dX11_set_22 rfl ?_
    refine j_if_eq (tgt := 34) X dX11_set_24 (by decide) h (fun h => ?_) (fun h => ?_)
    · refine j_aload_n X 0 dX11_set_34 rfl rfl ?_
      refine j_aload_n X 0 dX11_set_35 rfl rfl ?_
      refine j_getR (t := 1) X fg_RX11_10 ln_0 ly_0 rfl dX11_set_36 ?_
      refine j_iload_n X 1 dX11_set_39 rfl rfl ?_
      refine j_iload_n X 2 dX11_set_40 rfl rfl ?_
      refine j_iload_n X 3 dX11_set_41 rfl rfl ?_
      obtain ⟨v7, σ8, hm9, h⟩ := jbd_some h
      refine j_callV (as := [.int a0, .int a1, .int a2]) (st := [.ref 0]) (st1 := [.int v7, .ref 0]) X ln_1 ly_1 rfl rfl sv_RX11_104 ⟨by decide, by decide⟩ rfl rfl (Nat.le_of_ble_eq_true rfl) rfl dX11_set_42 jrv_i (c_X6_put  hm9) rfl ?_
      obtain ⟨v10, σ11, hm12, h⟩ := jbd_some h
      refine j_callV (as := [.int v7]) (st := []) (st1 := [.int v10]) X ln_0 ly_0 rfl rfl sv_RX11_97 ⟨by decide, by decide⟩ rfl rfl (Nat.le_of_ble_eq_true rfl) rfl dX11_set_45 jrv_i (c_X11_unfound  hm12) rfl ?_
      obtain ⟨rfl, rfl⟩ := jin2 h
      exact j_iret X R0 dX11_set_48
    · refine j_aload_n X 0 dX11_set_27 rfl rfl ?_
      refine j_iload X dX11_set_28 rfl ?_
      obtain ⟨v13, σ14, hm15, h⟩ := jbd_some h
      refine j_callV (as := [.int v4]) (st := []) (st1 := [.int v13]) X ln_0 ly_0 rfl rfl sv_RX11_89 ⟨by decide, by decide⟩ rfl rfl (Nat.le_of_ble_eq_true rfl) rfl dX11_set_30 jrv_i (c_X11_found  hm15) rfl ?_
      obtain ⟨rfl, rfl⟩ := jin2 h
      exact j_iret X R0 dX11_set_33
  · refine j_ldc (v := -1000001) X tw_318 dX11_set_7 ?_
    obtain ⟨rfl, rfl⟩ := jin2 h
    exact j_iret X R0 dX11_set_9
