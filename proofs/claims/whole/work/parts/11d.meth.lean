theorem sv_RX11_248 : jSiV RX11 248 yX5_open cX5_open 1 (some .int) 0 := ⟨tw_651, tw_475, tw_476, tw_10, tw_477, by decide, by decide, by decide +kernel⟩
theorem sv_RX11_251 : jSiV RX11 251 yX2_carry cX2_carry 8 (some .boolean) 3 := ⟨tw_652, tw_483, tw_484, tw_11, tw_485, by decide, by decide, by decide +kernel⟩
def f_X11_goes (a0 : Int32) (a1 : Int32) (σ : jMem) : Option (Int32 × jMem) :=
  if ¬ (σ.1 22 1) = 0 then
  jbd (f_X11_isField a0 σ) (fun v1 σ2 =>
  if v1 = 0 then
  some (((-1000001 : Int32), σ2))
else
  jbd (f_X11_isOneOfTwo a1 σ2) (fun v4 σ5 =>
  if ¬ v4 = 0 then
  jbd (f_X5_open 22 σ5) (fun v7 σ8 =>
  jbd (f_X2_carry 22 v7 a0 σ8) (fun v10 σ11 =>
  if ¬ v10 = 0 then
  if ¬ a1 = 0 then
  some (((σ11.1 80 1), σ11))
else
  some (((σ11.1 80 0), σ11))
else
  some (((-1000000 : Int32), σ11))))
else
  some (((-1000001 : Int32), σ5))))
else
  some (((-1000002 : Int32), σ))
set_option maxRecDepth 100000 in
set_option maxHeartbeats 4000000 in
theorem c_X11_goes {l : Launch} {D : va_G} {ad : Nat → Nat} {cid : Nat → ClassId} {a0 : Int32} {a1 : Int32}  {σ : jMem} {r : Int32} {σ' : jMem} (h : f_X11_goes a0 a1 σ = some (r, σ')) : jMet l D ad cid yX11_goes cX11_goes 3 (some .int) 3 75 [.ref 0, .int a0, .int a1] σ (some (.int r)) σ' := by
  refine jMet_of (ls0 := [some (.ref 0), some (.int a0), some (.int a1)]) (by decide) (Nat.le_of_ble_eq_true rfl) rfl (fun K X R0 _ => ?_)
  unfold f_X11_goes at h
  refine j_aload_n X 0 dX11_goes_0 rfl rfl ?_
  refine j_getR (t := 22) X fg_RX11_50 ln_0 ly_0 rfl dX11_goes_1 ?_
  refine j_getI X fg_RX11_170 ln_22 ly_22 rfl dX11_goes_4 ?_
  refine j_if_ne (tgt := 13) X dX11_goes_7 (by decide) h (fun h => ?_) (fun h => ?_)
  · refine j_iload_n X 1 dX11_goes_13 rfl rfl ?_
    obtain ⟨v1, σ2, hm3, h⟩ := jbd_some h
    refine j_callS (as := [.int a0]) (st := []) (st1 := [.int v1]) X ss_RX11_174 ⟨by decide, by decide⟩ rfl rfl (Nat.le_of_ble_eq_true rfl) rfl dX11_goes_14 jrv_i (c_X11_isField  hm3) rfl ?_
    refine j_if_eq (tgt := 27) X dX11_goes_17 (by decide) h (fun h => ?_) (fun h => ?_)
    · refine j_ldc (v := -1000001) X tw_318 dX11_goes_27 ?_
      obtain ⟨rfl, rfl⟩ := jin2 h
      exact j_iret X R0 dX11_goes_29
    · refine j_iload_n X 2 dX11_goes_20 rfl rfl ?_
      obtain ⟨v4, σ5, hm6, h⟩ := jbd_some h
      refine j_callS (as := [.int a1]) (st := []) (st1 := [.int v4]) X ss_RX11_204 ⟨by decide, by decide⟩ rfl rfl (Nat.le_of_ble_eq_true rfl) rfl dX11_goes_21 jrv_i (c_X11_isOneOfTwo  hm6) rfl ?_
      refine j_if_ne (tgt := 30) X dX11_goes_24 (by decide) h (fun h => ?_) (fun h => ?_)
      · refine j_aload_n X 0 dX11_goes_30 rfl rfl ?_
        refine j_getR (t := 80) X fg_RX11_69 ln_0 ly_0 rfl dX11_goes_31 ?_
        refine j_aload_n X 0 dX11_goes_34 rfl rfl ?_
        refine j_getR (t := 22) X fg_RX11_50 ln_0 ly_0 rfl dX11_goes_35 ?_
        refine j_aload_n X 0 dX11_goes_38 rfl rfl ?_
        refine j_getR (t := 22) X fg_RX11_50 ln_0 ly_0 rfl dX11_goes_39 ?_
        obtain ⟨v7, σ8, hm9, h⟩ := jbd_some h
        refine j_callV (as := []) (st := [.ref 22, .ref 80]) (st1 := [.int v7, .ref 22, .ref 80]) X ln_22 ly_22 rfl rfl sv_RX11_248 ⟨by decide, by decide⟩ rfl rfl (Nat.le_of_ble_eq_true rfl) rfl dX11_goes_42 jrv_i (c_X5_open jisP_22 hm9) rfl ?_
        refine j_iload_n X 1 dX11_goes_45 rfl rfl ?_
        obtain ⟨v10, σ11, hm12, h⟩ := jbd_some h
        refine j_callV (as := [.ref 22, .int v7, .int a0]) (st := []) (st1 := [.int v10]) X ln_80 ly_80 rfl rfl sv_RX11_251 ⟨by decide, by decide⟩ rfl rfl (Nat.le_of_ble_eq_true rfl) rfl dX11_goes_46 jrv_i (c_X2_carry jisP_22 hm12) rfl ?_
        refine j_if_ne (tgt := 55) X dX11_goes_49 (by decide) h (fun h => ?_) (fun h => ?_)
        · refine j_iload_n X 2 dX11_goes_55 rfl rfl ?_
          refine j_if_ne (tgt := 69) X dX11_goes_56 (by decide) h (fun h => ?_) (fun h => ?_)
          · refine j_aload_n X 0 dX11_goes_69 rfl rfl ?_
            refine j_getR (t := 80) X fg_RX11_69 ln_0 ly_0 rfl dX11_goes_70 ?_
            refine j_getI X fg_RX11_258 ln_80 ly_80 rfl dX11_goes_73 ?_
            obtain ⟨rfl, rfl⟩ := jin2 h
            exact j_iret X R0 dX11_goes_76
          · refine j_aload_n X 0 dX11_goes_59 rfl rfl ?_
            refine j_getR (t := 80) X fg_RX11_69 ln_0 ly_0 rfl dX11_goes_60 ?_
            refine j_getI X fg_RX11_255 ln_80 ly_80 rfl dX11_goes_63 ?_
            refine j_goto (tgt := 76) X dX11_goes_66 (by decide) ?_
            obtain ⟨rfl, rfl⟩ := jin2 h
            exact j_iret X R0 dX11_goes_76
        · refine j_ldc (v := -1000000) X tw_646 dX11_goes_52 ?_
          obtain ⟨rfl, rfl⟩ := jin2 h
          exact j_iret X R0 dX11_goes_54
      · refine j_ldc (v := -1000001) X tw_318 dX11_goes_27 ?_
        obtain ⟨rfl, rfl⟩ := jin2 h
        exact j_iret X R0 dX11_goes_29
  · refine j_ldc (v := -1000002) X tw_458 dX11_goes_10 ?_
    obtain ⟨rfl, rfl⟩ := jin2 h
    exact j_iret X R0 dX11_goes_12
def f_J6_bitCount_0f7a4 (a0 : Int32) (σ : jMem) : Option (Int32 × jMem) :=
  jlet ((a0 - ((((a0).toUInt32 >>> (((1 : Int32)).toUInt32 &&& Int32.toUInt32 31)).toInt32) &&& (1431655765 : Int32)))) (fun v1 =>
  jlet (((v1 &&& (858993459 : Int32)) + ((((v1).toUInt32 >>> (((2 : Int32)).toUInt32 &&& Int32.toUInt32 31)).toInt32) &&& (858993459 : Int32)))) (fun v2 =>
  jlet (((v2 + (((v2).toUInt32 >>> (((4 : Int32)).toUInt32 &&& Int32.toUInt32 31)).toInt32)) &&& (252645135 : Int32))) (fun v3 =>
  jlet ((v3 + (((v3).toUInt32 >>> (((8 : Int32)).toUInt32 &&& Int32.toUInt32 31)).toInt32))) (fun v4 =>
  jlet ((v4 + (((v4).toUInt32 >>> (((16 : Int32)).toUInt32 &&& Int32.toUInt32 31)).toInt32))) (fun v5 =>
  some (((v5 &&& (63 : Int32)), σ)))))))
set_option maxRecDepth 100000 in
set_option maxHeartbeats 4000000 in
theorem c_J6_bitCount_0f7a4 {l : Launch} {D : va_G} {ad : Nat → Nat} {cid : Nat → ClassId} {a0 : Int32}  {σ : jMem} {r : Int32} {σ' : jMem} (h : f_J6_bitCount_0f7a4 a0 σ = some (r, σ')) : jMet l D ad cid yJ6_bitCount_0f7a4 cJ6_bitCount_0f7a4 1 (some .int) 0 0 [.int a0] σ (some (.int r)) σ' := by
  refine jMet_of (ls0 := [some (.int a0)]) (by decide) (Nat.le_of_ble_eq_true rfl) rfl (fun K X R0 _ => ?_)
  unfold f_J6_bitCount_0f7a4 at h
  refine j_iload_n X 0 dJ6_bitCount_0f7a4_0 rfl rfl ?_
  refine j_iload_n X 0 dJ6_bitCount_0f7a4_1 rfl rfl ?_
  refine j_iconst (v := 1) X dJ6_bitCount_0f7a4_2 (by decide) ?_
  refine j_iushr X dJ6_bitCount_0f7a4_3 ?_
  refine j_ldc_w (v := 1431655765) X tw_667 dJ6_bitCount_0f7a4_4 ?_
  refine j_iand X dJ6_bitCount_0f7a4_7 ?_
  refine j_isub X dJ6_bitCount_0f7a4_8 ?_
  refine j_letI h (fun v1 h => ?_)
  refine j_istore_n (ls' := [some (.int v1)]) X 0 dJ6_bitCount_0f7a4_9 rfl (Nat.le_of_ble_eq_true rfl) rfl ?_
  refine j_iload_n X 0 dJ6_bitCount_0f7a4_10 rfl rfl ?_
  refine j_ldc_w (v := 858993459) X tw_668 dJ6_bitCount_0f7a4_11 ?_
  refine j_iand X dJ6_bitCount_0f7a4_14 ?_
  refine j_iload_n X 0 dJ6_bitCount_0f7a4_15 rfl rfl ?_
  refine j_iconst (v := 2) X dJ6_bitCount_0f7a4_16 (by decide) ?_
  refine j_iushr X dJ6_bitCount_0f7a4_17 ?_
  refine j_ldc_w (v := 858993459) X tw_668 dJ6_bitCount_0f7a4_18 ?_
  refine j_iand X dJ6_bitCount_0f7a4_21 ?_
  refine j_iadd X dJ6_bitCount_0f7a4_22 ?_
  refine j_letI h (fun v2 h => ?_)
  refine j_istore_n (ls' := [some (.int v2)]) X 0 dJ6_bitCount_0f7a4_23 rfl (Nat.le_of_ble_eq_true rfl) rfl ?_
  refine j_iload_n X 0 dJ6_bitCount_0f7a4_24 rfl rfl ?_
  refine j_iload_n X 0 dJ6_bitCount_0f7a4_25 rfl rfl ?_
  refine j_iconst (v := 4) X dJ6_bitCount_0f7a4_26 (by decide) ?_
  refine j_iushr X dJ6_bitCount_0f7a4_27 ?_
  refine j_iadd X dJ6_bitCount_0f7a4_28 ?_
  refine j_ldc_w (v := 252645135) X tw_669 dJ6_bitCount_0f7a4_29 ?_
  refine j_iand X dJ6_bitCount_0f7a4_32 ?_
  refine j_letI h (fun v3 h => ?_)
  refine j_istore_n (ls' := [some (.int v3)]) X 0 dJ6_bitCount_0f7a4_33 rfl (Nat.le_of_ble_eq_true rfl) rfl ?_
  refine j_iload_n X 0 dJ6_bitCount_0f7a4_34 rfl rfl ?_
  refine j_iload_n X 0 dJ6_bitCount_0f7a4_35 rfl rfl ?_
  refine j_bipush (v := 8) X dJ6_bitCount_0f7a4_36 (by decide) ?_
  refine j_iushr X dJ6_bitCount_0f7a4_38 ?_
  refine j_iadd X dJ6_bitCount_0f7a4_39 ?_
  refine j_letI h (fun v4 h => ?_)
  refine j_istore_n (ls' := [some (.int v4)]) X 0 dJ6_bitCount_0f7a4_40 rfl (Nat.le_of_ble_eq_true rfl) rfl ?_
  refine j_iload_n X 0 dJ6_bitCount_0f7a4_41 rfl rfl ?_
  refine j_iload_n X 0 dJ6_bitCount_0f7a4_42 rfl rfl ?_
  refine j_bipush (v := 16) X dJ6_bitCount_0f7a4_43 (by decide) ?_
  refine j_iushr X dJ6_bitCount_0f7a4_45 ?_
  refine j_iadd X dJ6_bitCount_0f7a4_46 ?_
  refine j_letI h (fun v5 h => ?_)
  refine j_istore_n (ls' := [some (.int v5)]) X 0 dJ6_bitCount_0f7a4_47 rfl (Nat.le_of_ble_eq_true rfl) rfl ?_
  refine j_iload_n X 0 dJ6_bitCount_0f7a4_48 rfl rfl ?_
  refine j_bipush (v := 63) X dJ6_bitCount_0f7a4_49 (by decide) ?_
  refine j_iand X dJ6_bitCount_0f7a4_51 ?_
  obtain ⟨rfl, rfl⟩ := jin2 h
  exact j_iret X R0 dJ6_bitCount_0f7a4_52
