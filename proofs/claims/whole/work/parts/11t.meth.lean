theorem ss_RX11_302 : jSiS RX11 302 yX11_commonDivisor cX11_commonDivisor 11 (some .long) 2 := ⟨tw_745, tw_746, tw_1, tw_747, by decide, by decide, by decide +kernel⟩
theorem sv_RX11_294 : jSiV RX11 294 yX2_casesThrough cX2_casesThrough 8 (some .long) 3 := ⟨tw_725, tw_726, tw_727, tw_11, tw_728, by decide, by decide, by decide +kernel⟩
def f_X11_locked (a0 : Int32) (a1 : Int32) (a2 : Int32) (σ : jMem) : Option (Int64 × jMem) :=
  if ¬ (σ.1 22 1) = 0 then
  jbd (f_X11_isField a0 σ) (fun v1 σ2 =>
  if v1 = 0 then
  some (((-1000001 : Int64), σ2))
else
  if a1 < 0 then
  some (((-1000001 : Int64), σ2))
else
  if (10 : Int32) < a1 then
  some (((-1000001 : Int64), σ2))
else
  jbd (f_X11_isOneOfTwo a2 σ2) (fun v4 σ5 =>
  if ¬ v4 = 0 then
  jbd (f_X2_casesThrough 22 a0 a1 σ5) (fun v7 σ8 =>
  jbd (f_X5_open 22 σ8) (fun v10 σ11 =>
  jbd (f_J6_bitCount_0f7a4 v10 σ11) (fun v13 σ14 =>
  jldL σ14 84 13 v13 (fun v16 =>
  jbd (f_X11_commonDivisor v16 v7 σ14) (fun v17 σ18 =>
  if ¬ a2 = 0 then
  jck (¬ v17 = 0) (
  some (((v16 / v17), σ18)))
else
  jck (¬ v17 = 0) (
  some (((v7 / v17), σ18))))))))
else
  some (((-1000001 : Int64), σ5))))
else
  some (((-1000002 : Int64), σ))
set_option maxRecDepth 100000 in
set_option maxHeartbeats 4000000 in
theorem c_X11_locked {l : Launch} {D : va_G} {ad : Nat → Nat} {cid : Nat → ClassId} {a0 : Int32} {a1 : Int32} {a2 : Int32}  {σ : jMem} {r : Int64} {σ' : jMem} (h : f_X11_locked a0 a1 a2 σ = some (r, σ')) : jMet l D ad cid yX11_locked cX11_locked 10 (some .long) 4 91 [.ref 0, .int a0, .int a1, .int a2] σ (some (.long r)) σ' := by
  refine jMet_of (ls0 := [some (.ref 0), some (.int a0), some (.int a1), some (.int a2), none, none, none, none, none, none]) (by decide) (Nat.le_of_ble_eq_true rfl) rfl (fun K X R0 _ => ?_)
  unfold f_X11_locked at h
  refine j_aload_n X 0 dX11_locked_0 rfl rfl ?_
  refine j_getR (t := 22) X fg_RX11_50 ln_0 ly_0 rfl dX11_locked_1 ?_
  refine j_getI X fg_RX11_170 ln_22 ly_22 rfl dX11_locked_4 ?_
  refine j_if_ne (tgt := 14) X dX11_locked_7 (by decide) h (fun h => ?_) (fun h => ?_)
  · refine j_iload_n X 1 dX11_locked_14 rfl rfl ?_
    obtain ⟨v1, σ2, hm3, h⟩ := jbd_some h
    refine j_callS (as := [.int a0]) (st := []) (st1 := [.int v1]) X ss_RX11_174 ⟨by decide, by decide⟩ rfl rfl (Nat.le_of_ble_eq_true rfl) rfl dX11_locked_15 jrv_i (c_X11_isField  hm3) rfl ?_
    refine j_if_eq (tgt := 38) X dX11_locked_18 (by decide) h (fun h => ?_) (fun h => ?_)
    · refine j_ldc2_w (v := -1000001) X tw_724 dX11_locked_38 ?_
      obtain ⟨rfl, rfl⟩ := jin2 h
      exact j_lret X R0 dX11_locked_41
    · refine j_iload_n X 2 dX11_locked_21 rfl rfl ?_
      refine j_if_lt (tgt := 38) X dX11_locked_22 (by decide) h (fun h => ?_) (fun h => ?_)
      · refine j_ldc2_w (v := -1000001) X tw_724 dX11_locked_38 ?_
        obtain ⟨rfl, rfl⟩ := jin2 h
        exact j_lret X R0 dX11_locked_41
      · refine j_iload_n X 2 dX11_locked_25 rfl rfl ?_
        refine j_bipush (v := 10) X dX11_locked_26 (by decide) ?_
        refine j_icmp_gt (tgt := 38) X dX11_locked_28 (by decide) h (fun h => ?_) (fun h => ?_)
        · refine j_ldc2_w (v := -1000001) X tw_724 dX11_locked_38 ?_
          obtain ⟨rfl, rfl⟩ := jin2 h
          exact j_lret X R0 dX11_locked_41
        · refine j_iload_n X 3 dX11_locked_31 rfl rfl ?_
          obtain ⟨v4, σ5, hm6, h⟩ := jbd_some h
          refine j_callS (as := [.int a2]) (st := []) (st1 := [.int v4]) X ss_RX11_204 ⟨by decide, by decide⟩ rfl rfl (Nat.le_of_ble_eq_true rfl) rfl dX11_locked_32 jrv_i (c_X11_isOneOfTwo  hm6) rfl ?_
          refine j_if_ne (tgt := 42) X dX11_locked_35 (by decide) h (fun h => ?_) (fun h => ?_)
          · refine j_aload_n X 0 dX11_locked_42 rfl rfl ?_
            refine j_getR (t := 80) X fg_RX11_69 ln_0 ly_0 rfl dX11_locked_43 ?_
            refine j_aload_n X 0 dX11_locked_46 rfl rfl ?_
            refine j_getR (t := 22) X fg_RX11_50 ln_0 ly_0 rfl dX11_locked_47 ?_
            refine j_iload_n X 1 dX11_locked_50 rfl rfl ?_
            refine j_iload_n X 2 dX11_locked_51 rfl rfl ?_
            obtain ⟨v7, σ8, hm9, h⟩ := jbd_some h
            refine j_callV (as := [.ref 22, .int a0, .int a1]) (st := []) (st1 := [.long v7]) X ln_80 ly_80 rfl rfl sv_RX11_294 ⟨by decide, by decide⟩ rfl rfl (Nat.le_of_ble_eq_true rfl) rfl dX11_locked_52 jrv_l (c_X2_casesThrough jisP_22 hm9) rfl ?_
            refine j_lstore (ls' := [some (.ref 0), some (.int a0), some (.int a1), some (.int a2), some (.long v7), none, none, none, none, none]) X dX11_locked_55 (Nat.le_of_ble_eq_true rfl) rfl ?_
            refine j_aload_n X 0 dX11_locked_57 rfl rfl ?_
            refine j_getR (t := 80) X fg_RX11_69 ln_0 ly_0 rfl dX11_locked_58 ?_
            refine j_getR (t := 84) X fg_RX11_298 ln_80 ly_80 rfl dX11_locked_61 ?_
            refine j_aload_n X 0 dX11_locked_64 rfl rfl ?_
            refine j_getR (t := 22) X fg_RX11_50 ln_0 ly_0 rfl dX11_locked_65 ?_
            obtain ⟨v10, σ11, hm12, h⟩ := jbd_some h
            refine j_callV (as := []) (st := [.ref 84]) (st1 := [.int v10, .ref 84]) X ln_22 ly_22 rfl rfl sv_RX11_248 ⟨by decide, by decide⟩ rfl rfl (Nat.le_of_ble_eq_true rfl) rfl dX11_locked_68 jrv_i (c_X5_open jisP_22 hm12) rfl ?_
            obtain ⟨v13, σ14, hm15, h⟩ := jbd_some h
            refine j_callS (as := [.int v10]) (st := [.ref 84]) (st1 := [.int v13, .ref 84]) X ss_RX11_265 ⟨by decide, by decide⟩ rfl rfl (Nat.le_of_ble_eq_true rfl) rfl dX11_locked_71 jrv_i (c_J6_bitCount_0f7a4  hm15) rfl ?_
            refine j_laload X ln_84 ly_84 dX11_locked_74 h (fun v16 h => ?_)
            refine j_lstore (ls' := [some (.ref 0), some (.int a0), some (.int a1), some (.int a2), some (.long v7), none, some (.long v16), none, none, none]) X dX11_locked_75 (Nat.le_of_ble_eq_true rfl) rfl ?_
            refine j_lload X dX11_locked_77 rfl ?_
            refine j_lload X dX11_locked_79 rfl ?_
            obtain ⟨v17, σ18, hm19, h⟩ := jbd_some h
            refine j_callS (as := [.long v16, .long v7]) (st := []) (st1 := [.long v17]) X ss_RX11_302 ⟨by decide, by decide⟩ rfl rfl (Nat.le_of_ble_eq_true rfl) rfl dX11_locked_81 jrv_l (c_X11_commonDivisor  hm19) rfl ?_
            refine j_lstore (ls' := [some (.ref 0), some (.int a0), some (.int a1), some (.int a2), some (.long v7), none, some (.long v16), none, some (.long v17), none]) X dX11_locked_84 (Nat.le_of_ble_eq_true rfl) rfl ?_
            refine j_iload_n X 3 dX11_locked_86 rfl rfl ?_
            refine j_if_ne (tgt := 95) X dX11_locked_87 (by decide) h (fun h => ?_) (fun h => ?_)
            · refine j_lload X dX11_locked_95 rfl ?_
              refine j_lload X dX11_locked_97 rfl ?_
              obtain ⟨hc20, h⟩ := jck_some h
              refine j_ldiv X dX11_locked_99 hc20 ?_
              obtain ⟨rfl, rfl⟩ := jin2 h
              exact j_lret X R0 dX11_locked_100
            · refine j_lload X dX11_locked_90 rfl ?_
              refine j_goto (tgt := 97) X dX11_locked_92 (by decide) ?_
              refine j_lload X dX11_locked_97 rfl ?_
              obtain ⟨hc21, h⟩ := jck_some h
              refine j_ldiv X dX11_locked_99 hc21 ?_
              obtain ⟨rfl, rfl⟩ := jin2 h
              exact j_lret X R0 dX11_locked_100
          · refine j_ldc2_w (v := -1000001) X tw_724 dX11_locked_38 ?_
            obtain ⟨rfl, rfl⟩ := jin2 h
            exact j_lret X R0 dX11_locked_41
  · refine j_ldc2_w (v := -1000002) X tw_723 dX11_locked_10 ?_
    obtain ⟨rfl, rfl⟩ := jin2 h
    exact j_lret X R0 dX11_locked_13
