def f_X9_readLaw (a0 : Nat) (σ : jMem) : Option (Int32 × jMem) :=
  jbd (f_X9_takes (99 : Int32) σ) (fun v1 σ2 =>
  if v1 = 0 then
  some (((0 : Int32), σ2))
else
  jbd (f_X9_isNumber (0 : Int32) (7 : Int32) σ2) (fun v4 σ5 =>
  if ¬ v4 = 0 then
  jlet (jset σ5 a0 2 (σ5.1 13 6)) (fun σ7 =>
  jbv (f_X9_take  σ7) (fun σ8 =>
  jbd (f_X9_takes (44 : Int32) σ8) (fun v10 σ11 =>
  if v10 = 0 then
  some (((0 : Int32), σ11))
else
  jbd (f_X9_isNumber (20 : Int32) (90 : Int32) σ11) (fun v13 σ14 =>
  if ¬ v13 = 0 then
  jlet (jset σ14 a0 3 (σ14.1 13 6)) (fun σ16 =>
  jbv (f_X9_take  σ16) (fun σ17 =>
  jbd (f_X9_takes (59 : Int32) σ17) (fun v19 σ20 =>
  jck (jisb v19 = true) (some ((v19, σ20))))))
else
  some (((0 : Int32), σ14))))))
else
  some (((0 : Int32), σ5))))
set_option maxRecDepth 100000 in
set_option maxHeartbeats 4000000 in
theorem c_X9_readLaw {l : Launch} {D : va_G} {ad : Nat → Nat} {cid : Nat → ClassId} {a0 : Nat} (ha0 : jisP a0) {σ : jMem} {r : Int32} {σ' : jMem} (h : f_X9_readLaw a0 σ = some (r, σ')) : jMet l D ad cid yX9_readLaw cX9_readLaw 2 (some .boolean) 4 82 [.ref 13, .ref a0] σ (some (.int r)) σ' := by
  refine jMet_of (ls0 := [some (.ref 13), some (.ref a0)]) (by decide) (Nat.le_of_ble_eq_true rfl) rfl (fun K X R0 _ => ?_)
  unfold f_X9_readLaw at h
  refine j_aload_n X 0 dX9_readLaw_0 rfl rfl ?_
  refine j_bipush (v := 99) X dX9_readLaw_1 (by decide) ?_
  obtain ⟨v1, σ2, hm3, h⟩ := jbd_some h
  refine j_callV (as := [.int (99 : Int32)]) (st := []) (st1 := [.int v1]) X ln_13 ly_13 rfl rfl sv_RX9_55 ⟨by decide, by decide⟩ rfl rfl (Nat.le_of_ble_eq_true rfl) rfl dX9_readLaw_3 jrv_i (c_X9_takes  hm3) rfl ?_
  refine j_if_eq (tgt := 19) X dX9_readLaw_6 (by decide) h (fun h => ?_) (fun h => ?_)
  · refine j_iconst (v := 0) X dX9_readLaw_19 (by decide) ?_
    obtain ⟨rfl, rfl⟩ := jin2 h
    exact j_zret X R0 rfl dX9_readLaw_20
  · refine j_aload_n X 0 dX9_readLaw_9 rfl rfl ?_
    refine j_iconst (v := 0) X dX9_readLaw_10 (by decide) ?_
    refine j_bipush (v := 7) X dX9_readLaw_11 (by decide) ?_
    obtain ⟨v4, σ5, hm6, h⟩ := jbd_some h
    refine j_callV (as := [.int (0 : Int32), .int (7 : Int32)]) (st := []) (st1 := [.int v4]) X ln_13 ly_13 rfl rfl sv_RX9_58 ⟨by decide, by decide⟩ rfl rfl (Nat.le_of_ble_eq_true rfl) rfl dX9_readLaw_13 jrv_i (c_X9_isNumber  hm6) rfl ?_
    refine j_if_ne (tgt := 21) X dX9_readLaw_16 (by decide) h (fun h => ?_) (fun h => ?_)
    · refine j_aload_n X 1 dX9_readLaw_21 rfl rfl ?_
      refine j_aload_n X 0 dX9_readLaw_22 rfl rfl ?_
      refine j_getI X fg_RX9_62 ln_13 ly_13 rfl dX9_readLaw_23 ?_
      refine j_put X fp_RX9_65 (jp_lt ha0) (jp_ly ha0) rfl rfl rfl dX9_readLaw_26 h (fun σ7 h => ?_)
      refine j_aload_n X 0 dX9_readLaw_29 rfl rfl ?_
      obtain ⟨σ8, hm9, h⟩ := jbv_some h
      refine j_callV (as := []) (st := []) (st1 := []) X ln_13 ly_13 rfl rfl sv_RX9_27 ⟨by decide, by decide⟩ rfl rfl (Nat.le_of_ble_eq_true rfl) rfl dX9_readLaw_30 jrv_v (c_X9_take  hm9) rfl ?_
      refine j_aload_n X 0 dX9_readLaw_33 rfl rfl ?_
      refine j_bipush (v := 44) X dX9_readLaw_34 (by decide) ?_
      obtain ⟨v10, σ11, hm12, h⟩ := jbd_some h
      refine j_callV (as := [.int (44 : Int32)]) (st := []) (st1 := [.int v10]) X ln_13 ly_13 rfl rfl sv_RX9_55 ⟨by decide, by decide⟩ rfl rfl (Nat.le_of_ble_eq_true rfl) rfl dX9_readLaw_36 jrv_i (c_X9_takes  hm12) rfl ?_
      refine j_if_eq (tgt := 53) X dX9_readLaw_39 (by decide) h (fun h => ?_) (fun h => ?_)
      · refine j_iconst (v := 0) X dX9_readLaw_53 (by decide) ?_
        obtain ⟨rfl, rfl⟩ := jin2 h
        exact j_zret X R0 rfl dX9_readLaw_54
      · refine j_aload_n X 0 dX9_readLaw_42 rfl rfl ?_
        refine j_bipush (v := 20) X dX9_readLaw_43 (by decide) ?_
        refine j_bipush (v := 90) X dX9_readLaw_45 (by decide) ?_
        obtain ⟨v13, σ14, hm15, h⟩ := jbd_some h
        refine j_callV (as := [.int (20 : Int32), .int (90 : Int32)]) (st := []) (st1 := [.int v13]) X ln_13 ly_13 rfl rfl sv_RX9_58 ⟨by decide, by decide⟩ rfl rfl (Nat.le_of_ble_eq_true rfl) rfl dX9_readLaw_47 jrv_i (c_X9_isNumber  hm15) rfl ?_
        refine j_if_ne (tgt := 55) X dX9_readLaw_50 (by decide) h (fun h => ?_) (fun h => ?_)
        · refine j_aload_n X 1 dX9_readLaw_55 rfl rfl ?_
          refine j_aload_n X 0 dX9_readLaw_56 rfl rfl ?_
          refine j_getI X fg_RX9_62 ln_13 ly_13 rfl dX9_readLaw_57 ?_
          refine j_put X fp_RX9_68 (jp_lt ha0) (jp_ly ha0) rfl rfl rfl dX9_readLaw_60 h (fun σ16 h => ?_)
          refine j_aload_n X 0 dX9_readLaw_63 rfl rfl ?_
          obtain ⟨σ17, hm18, h⟩ := jbv_some h
          refine j_callV (as := []) (st := []) (st1 := []) X ln_13 ly_13 rfl rfl sv_RX9_27 ⟨by decide, by decide⟩ rfl rfl (Nat.le_of_ble_eq_true rfl) rfl dX9_readLaw_64 jrv_v (c_X9_take  hm18) rfl ?_
          refine j_aload_n X 0 dX9_readLaw_67 rfl rfl ?_
          refine j_bipush (v := 59) X dX9_readLaw_68 (by decide) ?_
          obtain ⟨v19, σ20, hm21, h⟩ := jbd_some h
          refine j_callV (as := [.int (59 : Int32)]) (st := []) (st1 := [.int v19]) X ln_13 ly_13 rfl rfl sv_RX9_55 ⟨by decide, by decide⟩ rfl rfl (Nat.le_of_ble_eq_true rfl) rfl dX9_readLaw_70 jrv_i (c_X9_takes  hm21) rfl ?_
          obtain ⟨hc22, h⟩ := jck_some h
          obtain ⟨rfl, rfl⟩ := jin2 h
          exact j_zret X R0 hc22 dX9_readLaw_73
        · refine j_iconst (v := 0) X dX9_readLaw_53 (by decide) ?_
          obtain ⟨rfl, rfl⟩ := jin2 h
          exact j_zret X R0 rfl dX9_readLaw_54
    · refine j_iconst (v := 0) X dX9_readLaw_19 (by decide) ?_
      obtain ⟨rfl, rfl⟩ := jin2 h
      exact j_zret X R0 rfl dX9_readLaw_20
def f_X5_clear (k : Nat) (σ : jMem) : Option jMem :=
  jlet (jset σ k 4 (0 : Int32)) (fun σ1 =>
  jlet (jset σ1 k 5 (0 : Int32)) (fun σ2 =>
  jlet (jset σ2 k 6 (0 : Int32)) (fun σ3 =>
  jlet (jset σ3 k 7 (0 : Int32)) (fun σ4 =>
  some σ4))))
set_option maxRecDepth 100000 in
set_option maxHeartbeats 4000000 in
theorem c_X5_clear {l : Launch} {D : va_G} {ad : Nat → Nat} {cid : Nat → ClassId} {k : Nat} (hk : jisP k) {σ : jMem} {σ' : jMem} (h : f_X5_clear k σ = some σ') : jMet l D ad cid yX5_clear cX5_clear 1 none 0 0 [.ref k] σ none σ' := by
  refine jMet_of (ls0 := [some (.ref k)]) (by decide) (Nat.le_of_ble_eq_true rfl) rfl (fun K X R0 _ => ?_)
  unfold f_X5_clear at h
  refine j_aload_n X 0 dX5_clear_0 rfl rfl ?_
  refine j_iconst (v := 0) X dX5_clear_1 (by decide) ?_
  refine j_put X fp_RX5_37 (jp_lt hk) (jp_ly hk) rfl rfl rfl dX5_clear_2 h (fun σ1 h => ?_)
  refine j_aload_n X 0 dX5_clear_5 rfl rfl ?_
  refine j_iconst (v := 0) X dX5_clear_6 (by decide) ?_
  refine j_put X fp_RX5_41 (jp_lt hk) (jp_ly hk) rfl rfl rfl dX5_clear_7 h (fun σ2 h => ?_)
  refine j_aload_n X 0 dX5_clear_10 rfl rfl ?_
  refine j_iconst (v := 0) X dX5_clear_11 (by decide) ?_
  refine j_put X fp_RX5_44 (jp_lt hk) (jp_ly hk) rfl rfl rfl dX5_clear_12 h (fun σ3 h => ?_)
  refine j_aload_n X 0 dX5_clear_15 rfl rfl ?_
  refine j_iconst (v := 0) X dX5_clear_16 (by decide) ?_
  refine j_put X fp_RX5_47 (jp_lt hk) (jp_ly hk) rfl rfl rfl dX5_clear_17 h (fun σ4 h => ?_)
  obtain rfl := Option.some.inj h
  exact j_vret X R0 dX5_clear_20
