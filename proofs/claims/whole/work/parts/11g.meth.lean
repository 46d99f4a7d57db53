theorem ss_RX11_265 : jSiS RX11 265 yJ6_bitCount_0f7a4 cJ6_bitCount_0f7a4 1 (some .int) 1 := ⟨tw_670, tw_665, tw_16, tw_666, by decide, by decide, by decide +kernel⟩
theorem sv_RX11_261 : jSiV RX11 261 yX2_fewestGates cX2_fewestGates 8 (some .int) 3 := ⟨tw_657, tw_658, tw_659, tw_11, tw_660, by decide, by decide, by decide +kernel⟩
def f_X11_stop (a0 : Int32) (a1 : Int32) (σ : jMem) : Option (Int32 × jMem) :=
  if ¬ (σ.1 22 1) = 0 then
  jbd (f_X11_isField a0 σ) (fun v1 σ2 =>
  if v1 = 0 then
  some (((-1000001 : Int32), σ2))
else
  jbd (f_X11_isOneOfTwo a1 σ2) (fun v4 σ5 =>
  if ¬ v4 = 0 then
  if ¬ a0 = (σ5.1 22 2) then
  jbd (f_X5_open 22 σ5) (fun v7 σ8 =>
  jbd (f_X2_fewestGates 22 v7 a0 σ8) (fun v10 σ11 =>
  if ¬ a1 = 0 then
  some ((v10, σ11))
else
  jbd (f_J6_bitCount_0f7a4 v10 σ11) (fun v13 σ14 =>
  some ((v13, σ14)))))
else
  some (((-1000000 : Int32), σ5))
else
  some (((-1000001 : Int32), σ5))))
else
  some (((-1000002 : Int32), σ))
set_option maxRecDepth 100000 in
set_option maxHeartbeats 4000000 in
theorem c_X11_stop {l : Launch} {D : va_G} {ad : Nat → Nat} {cid : Nat → ClassId} {a0 : Int32} {a1 : Int32}  {σ : jMem} {r : Int32} {σ' : jMem} (h : f_X11_stop a0 a1 σ = some (r, σ')) : jMet l D ad cid yX11_stop cX11_stop 4 (some .int) 3 72 [.ref 0, .int a0, .int a1] σ (some (.int r)) σ' := by
  refine jMet_of (ls0 := [some (.ref 0), some (.int a0), some (.int a1), none]) (by decide) (Nat.le_of_ble_eq_true rfl) rfl (fun K X R0 _ => ?_)
  unfold f_X11_stop at h
  refine j_aload_n X 0 dX11_stop_0 rfl rfl ?_
  refine j_getR (t := 22) X fg_RX11_50 ln_0 ly_0 rfl dX11_stop_1 ?_
  refine j_getI X fg_RX11_170 ln_22 ly_22 rfl dX11_stop_4 ?_
  refine j_if_ne (tgt := 13) X dX11_stop_7 (by decide) h (fun h => ?_) (fun h => ?_)
  · refine j_iload_n X 1 dX11_stop_13 rfl rfl ?_
    obtain ⟨v1, σ2, hm3, h⟩ := jbd_some h
    refine j_callS (as := [.int a0]) (st := []) (st1 := [.int v1]) X ss_RX11_174 ⟨by decide, by decide⟩ rfl rfl (Nat.le_of_ble_eq_true rfl) rfl dX11_stop_14 jrv_i (c_X11_isField  hm3) rfl ?_
    refine j_if_eq (tgt := 27) X dX11_stop_17 (by decide) h (fun h => ?_) (fun h => ?_)
    · refine j_ldc (v := -1000001) X tw_318 dX11_stop_27 ?_
      obtain ⟨rfl, rfl⟩ := jin2 h
      exact j_iret X R0 dX11_stop_29
    · refine j_iload_n X 2 dX11_stop_20 rfl rfl ?_
      obtain ⟨v4, σ5, hm6, h⟩ := jbd_some h
      refine j_callS (as := [.int a1]) (st := []) (st1 := [.int v4]) X ss_RX11_204 ⟨by decide, by decide⟩ rfl rfl (Nat.le_of_ble_eq_true rfl) rfl dX11_stop_21 jrv_i (c_X11_isOneOfTwo  hm6) rfl ?_
      refine j_if_ne (tgt := 30) X dX11_stop_24 (by decide) h (fun h => ?_) (fun h => ?_)
      · refine j_iload_n X 1 dX11_stop_30 rfl rfl ?_
        refine j_aload_n X 0 dX11_stop_31 rfl rfl ?_
        refine j_getR (t := 22) X fg_RX11_50 ln_0 ly_0 rfl dX11_stop_32 ?_
        refine j_getI X fg_RX11_244 ln_22 ly_22 rfl dX11_stop_35 ?_
        refine j_icmp_ne (tgt := 44) X dX11_stop_38 (by decide) h (fun h => ?_) (fun h => ?_)
        · refine j_aload_n X 0 dX11_stop_44 rfl rfl ?_
          refine j_getR (t := 80) X fg_RX11_69 ln_0 ly_0 rfl dX11_stop_45 ?_
          refine j_aload_n X 0 dX11_stop_48 rfl rfl ?_
          refine j_getR (t := 22) X fg_RX11_50 ln_0 ly_0 rfl dX11_stop_49 ?_
          refine j_aload_n X 0 dX11_stop_52 rfl rfl ?_
          refine j_getR (t := 22) X fg_RX11_50 ln_0 ly_0 rfl dX11_stop_53 ?_
          obtain ⟨v7, σ8, hm9, h⟩ := jbd_some h
          refine j_callV (as := []) (st := [.ref 22, .ref 80]) (st1 := [.int v7, .ref 22, .ref 80]) X ln_22 ly_22 rfl rfl sv_RX11_248 ⟨by decide, by decide⟩ rfl rfl (Nat.le_of_ble_eq_true rfl) rfl dX11_stop_56 jrv_i (c_X5_open jisP_22 hm9) rfl ?_
          refine j_iload_n X 1 dX11_stop_59 rfl rfl ?_
          obtain ⟨v10, σ11, hm12, h⟩ := jbd_some h
          refine j_callV (as := [.ref 22, .int v7, .int a0]) (st := []) (st1 := [.int v10]) X ln_80 ly_80 rfl rfl sv_RX11_261 ⟨by decide, by decide⟩ rfl rfl (Nat.le_of_ble_eq_true rfl) rfl dX11_stop_60 jrv_i (c_X2_fewestGates jisP_22 hm12) rfl ?_
          refine j_istore_n (ls' := [some (.ref 0), some (.int a0), some (.int a1), some (.int v10)]) X 3 dX11_stop_63 rfl (Nat.le_of_ble_eq_true rfl) rfl ?_
          refine j_iload_n X 2 dX11_stop_64 rfl rfl ?_
          refine j_if_ne (tgt := 75) X dX11_stop_65 (by decide) h (fun h => ?_) (fun h => ?_)
          · refine j_iload_n X 3 dX11_stop_75 rfl rfl ?_
            obtain ⟨rfl, rfl⟩ := jin2 h
            exact j_iret X R0 dX11_stop_76
          · refine j_iload_n X 3 dX11_stop_68 rfl rfl ?_
            obtain ⟨v13, σ14, hm15, h⟩ := jbd_some h
            refine j_callS (as := [.int v10]) (st := []) (st1 := [.int v13]) X ss_RX11_265 ⟨by decide, by decide⟩ rfl rfl (Nat.le_of_ble_eq_true rfl) rfl dX11_stop_69 jrv_i (c_J6_bitCount_0f7a4  hm15) rfl ?_
            refine j_goto (tgt := 76) X dX11_stop_72 (by decide) ?_
            obtain ⟨rfl, rfl⟩ := jin2 h
            exact j_iret X R0 dX11_stop_76
        · refine j_ldc (v := -1000000) X tw_646 dX11_stop_41 ?_
          obtain ⟨rfl, rfl⟩ := jin2 h
          exact j_iret X R0 dX11_stop_43
      · refine j_ldc (v := -1000001) X tw_318 dX11_stop_27 ?_
        obtain ⟨rfl, rfl⟩ := jin2 h
        exact j_iret X R0 dX11_stop_29
  · refine j_ldc (v := -1000002) X tw_458 dX11_stop_10 ?_
    obtain ⟨rfl, rfl⟩ := jin2 h
    exact j_iret X R0 dX11_stop_12
