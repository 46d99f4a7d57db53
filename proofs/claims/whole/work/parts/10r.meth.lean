theorem sv_RX11_350 : jSiV RX11 350 yX5_save cX5_save 2 none 1 := ⟨tw_506, tw_507, tw_508, tw_10, tw_509, by decide, by decide, by decide +kernel⟩
def f_X11_keepAct  (σ : jMem) : Option jMem :=
  jldr 24 56 1 (σ.1 0 8) (fun k1 =>
  jbv (f_X5_save 22 k1 σ) (fun σ2 =>
  jlet (jset σ2 0 8 (((σ2.1 0 8) + (1 : Int32)) - ((σ2.1 0 8) + (1 : Int32)) / (24 : Int32) * (24 : Int32))) (fun σ4 =>
  jlet (jset σ4 0 7 (if (24 : Int32) < ((σ4.1 0 7) + (1 : Int32)) then (24 : Int32) else ((σ4.1 0 7) + (1 : Int32)))) (fun σ5 =>
  some σ5))))
set_option maxRecDepth 100000 in
set_option maxHeartbeats 4000000 in
theorem c_X11_keepAct {l : Launch} {D : va_G} {ad : Nat → Nat} {cid : Nat → ClassId}   {σ : jMem} {σ' : jMem} (h : f_X11_keepAct  σ = some σ') : jMet l D ad cid yX11_keepAct cX11_keepAct 1 none 2 57 [.ref 0] σ none σ' := by
  refine jMet_of (ls0 := [some (.ref 0)]) (by decide) (Nat.le_of_ble_eq_true rfl) rfl (fun K X R0 _ => ?_)
  unfold f_X11_keepAct at h
  refine j_aload_n X 0 dX11_keepAct_0 rfl rfl ?_
  refine j_getR (t := 22) X fg_RX11_50 ln_0 ly_0 rfl dX11_keepAct_1 ?_
  refine j_aload_n X 0 dX11_keepAct_4 rfl rfl ?_
  refine j_getR (t := 55) X fg_RX11_63 ln_0 ly_0 rfl dX11_keepAct_5 ?_
  refine j_aload_n X 0 dX11_keepAct_8 rfl rfl ?_
  refine j_getI X fg_RX11_163 ln_0 ly_0 rfl dX11_keepAct_9 ?_
  refine j_aaload X ln_55 ly_55 (Or.inr (Or.inr rfl)) dX11_keepAct_12 h (fun k1 qk1 h => ?_)
  have hk1 := jrow24 qk1
  obtain ⟨σ2, hm3, h⟩ := jbv_some h
  refine j_callV (as := [.ref k1]) (st := []) (st1 := []) X ln_22 ly_22 rfl rfl sv_RX11_350 ⟨by decide, by decide⟩ rfl rfl (Nat.le_of_ble_eq_true rfl) rfl dX11_keepAct_13 jrv_v (c_X5_save jisP_22 ⟨hk1.1, hk1.2⟩ hm3) rfl ?_
  refine j_aload_n X 0 dX11_keepAct_16 rfl rfl ?_
  refine j_aload_n X 0 dX11_keepAct_17 rfl rfl ?_
  refine j_getI X fg_RX11_163 ln_0 ly_0 rfl dX11_keepAct_18 ?_
  refine j_iconst (v := 1) X dX11_keepAct_21 (by decide) ?_
  refine j_iadd X dX11_keepAct_22 ?_
  refine j_bipush (v := 24) X dX11_keepAct_23 (by decide) ?_
  refine j_irem X dX11_keepAct_25 (by decide) ?_
  refine j_put X fp_RX11_163 ln_0 ly_0 rfl rfl rfl dX11_keepAct_26 h (fun σ4 h => ?_)
  refine j_aload_n X 0 dX11_keepAct_29 rfl rfl ?_
  refine j_aload_n X 0 dX11_keepAct_30 rfl rfl ?_
  refine j_getI X fg_RX11_159 ln_0 ly_0 rfl dX11_keepAct_31 ?_
  refine j_iconst (v := 1) X dX11_keepAct_34 (by decide) ?_
  refine j_iadd X dX11_keepAct_35 ?_
  refine j_bipush (v := 24) X dX11_keepAct_36 (by decide) ?_
  refine j_mmin X tw_510 tw_511 tw_15 tw_512 rfl (Nat.le_of_ble_eq_true rfl) (Nat.le_of_ble_eq_true rfl) dX11_keepAct_38 ?_
  refine j_put X fp_RX11_159 ln_0 ly_0 rfl rfl rfl dX11_keepAct_41 h (fun σ5 h => ?_)
  obtain rfl := Option.some.inj h
  exact j_vret X R0 dX11_keepAct_44
