def f_X12_drop (a0 : Int32) (σ : jMem) : Option (Int32 × jMem) :=
  jlet (jset σ 89 0 (0 : Int32)) (fun σ1 =>
  jbd (f_X12_isRow a0 σ1) (fun v2 σ3 =>
  if ¬ v2 = 0 then
  jlet (jset σ3 89 1 (0 : Int32)) (fun σ5 =>
  jld σ5 90 8 a0 (fun v6 =>
  if 0 ≤ v6 then
  jst σ5 90 8 a0 (-1 : Int32) (fun σ7 =>
  jld σ7 91 8 a0 (fun v8 =>
  some ((v8, σ7))))
else
  jbd (f_X12_finding (1 : Int32) σ5) (fun v9 σ10 =>
  some ((v9, σ10)))))
else
  some (((-1000001 : Int32), σ3))))
set_option maxRecDepth 100000 in
set_option maxHeartbeats 4000000 in
theorem c_X12_drop {l : Launch} {D : va_G} {ad : Nat → Nat} {cid : Nat → ClassId} {a0 : Int32}  {σ : jMem} {r : Int32} {σ' : jMem} (h : f_X12_drop a0 σ = some (r, σ')) : jMet l D ad cid yX12_drop cX12_drop 2 (some .int) 2 45 [.ref 89, .int a0] σ (some (.int r)) σ' := by
  refine jMet_of (ls0 := [some (.ref 89), some (.int a0)]) (by decide) (Nat.le_of_ble_eq_true rfl) rfl (fun K X R0 _ => ?_)
  unfold f_X12_drop at h
  refine j_aload_n X 0 dX12_drop_0 rfl rfl ?_
  refine j_iconst (v := 0) X dX12_drop_1 (by decide) ?_
  refine j_put X fp_RX12_47 ln_89 ly_89 rfl rfl rfl dX12_drop_2 h (fun σ1 h => ?_)
  refine j_iload_n X 1 dX12_drop_5 rfl rfl ?_
  obtain ⟨v2, σ3, hm4, h⟩ := jbd_some h
  refine j_callS (as := [.int a0]) (st := []) (st1 := [.int v2]) X ss_RX12_61 ⟨by decide, by decide⟩ rfl rfl (Nat.le_of_ble_eq_true rfl) rfl dX12_drop_6 jrv_i (c_X12_isRow  hm4) rfl ?_
  refine j_if_ne (tgt := 15) X dX12_drop_9 (by decide) h (fun h => ?_) (fun h => ?_)
  · refine j_aload_n X 0 dX12_drop_15 rfl rfl ?_
    refine j_iconst (v := 0) X dX12_drop_16 (by decide) ?_
    refine j_put X fp_RX12_51 ln_89 ly_89 rfl rfl rfl dX12_drop_17 h (fun σ5 h => ?_)
    refine j_aload_n X 0 dX12_drop_20 rfl rfl ?_
    refine j_getR (t := 90) X fg_RX12_7 ln_89 ly_89 rfl dX12_drop_21 ?_
    refine j_iload_n X 1 dX12_drop_24 rfl rfl ?_
    refine j_iaload X ln_90 ly_90 dX12_drop_25 h (fun v6 h => ?_)
    refine j_if_ge (tgt := 35) X dX12_drop_26 (by decide) h (fun h => ?_) (fun h => ?_)
    · refine j_aload_n X 0 dX12_drop_35 rfl rfl ?_
      refine j_getR (t := 90) X fg_RX12_7 ln_89 ly_89 rfl dX12_drop_36 ?_
      refine j_iload_n X 1 dX12_drop_39 rfl rfl ?_
      refine j_iconst (v := -1) X dX12_drop_40 (by decide) ?_
      refine j_iastore X ln_90 ly_90 dX12_drop_41 h (fun σ7 h => ?_)
      refine j_aload_n X 0 dX12_drop_42 rfl rfl ?_
      refine j_getR (t := 91) X fg_RX12_13 ln_89 ly_89 rfl dX12_drop_43 ?_
      refine j_iload_n X 1 dX12_drop_46 rfl rfl ?_
      refine j_iaload X ln_91 ly_91 dX12_drop_47 h (fun v8 h => ?_)
      obtain ⟨rfl, rfl⟩ := jin2 h
      exact j_iret X R0 dX12_drop_48
    · refine j_aload_n X 0 dX12_drop_29 rfl rfl ?_
      refine j_iconst (v := 1) X dX12_drop_30 (by decide) ?_
      obtain ⟨v9, σ10, hm11, h⟩ := jbd_some h
      refine j_callV (as := [.int (1 : Int32)]) (st := []) (st1 := [.int v9]) X ln_89 ly_89 rfl rfl sv_RX12_68 ⟨by decide, by decide⟩ rfl rfl (Nat.le_of_ble_eq_true rfl) rfl dX12_drop_31 jrv_i (c_X12_finding  hm11) rfl ?_
      obtain ⟨rfl, rfl⟩ := jin2 h
      exact j_iret X R0 dX12_drop_34
  · refine j_ldc (v := -1000001) X tw_948 dX12_drop_12 ?_
    obtain ⟨rfl, rfl⟩ := jin2 h
    exact j_iret X R0 dX12_drop_14
def f_X12_feed (a0 : Int32) (σ : jMem) : Option (Int32 × jMem) :=
  jlet (jset σ 89 0 (0 : Int32)) (fun σ1 =>
  jbd (f_X12_in ((a0).toInt64) (0 : Int64) (255 : Int64) σ1) (fun v2 σ3 =>
  if ¬ v2 = 0 then
  if ¬ (σ3.1 89 11) = (140 : Int32) then
  jst σ3 97 140 (σ3.1 89 11) a0 (fun σ5 =>
  jlet (jset σ5 89 11 ((σ5.1 89 11) + (1 : Int32))) (fun σ6 =>
  some (((σ6.1 89 11), σ6))))
else
  some (((-1000003 : Int32), σ3))
else
  some (((-1000001 : Int32), σ3))))
set_option maxRecDepth 100000 in
set_option maxHeartbeats 4000000 in
theorem c_X12_feed {l : Launch} {D : va_G} {ad : Nat → Nat} {cid : Nat → ClassId} {a0 : Int32}  {σ : jMem} {r : Int32} {σ' : jMem} (h : f_X12_feed a0 σ = some (r, σ')) : jMet l D ad cid yX12_feed cX12_feed 2 (some .int) 1 25 [.ref 89, .int a0] σ (some (.int r)) σ' := by
  refine jMet_of (ls0 := [some (.ref 89), some (.int a0)]) (by decide) (Nat.le_of_ble_eq_true rfl) rfl (fun K X R0 _ => ?_)
  unfold f_X12_feed at h
  refine j_aload_n X 0 dX12_feed_0 rfl rfl ?_
  refine j_iconst (v := 0) X dX12_feed_1 (by decide) ?_
  refine j_put X fp_RX12_47 ln_89 ly_89 rfl rfl rfl dX12_feed_2 h (fun σ1 h => ?_)
  refine j_iload_n X 1 dX12_feed_5 rfl rfl ?_
  refine j_i2l X dX12_feed_6 ?_
  refine j_lconst (v := 0) X dX12_feed_7 (by decide) ?_
  refine j_ldc2_w (v := 255) X tw_970 dX12_feed_8 ?_
  obtain ⟨v2, σ3, hm4, h⟩ := jbd_some h
  refine j_callS (as := [.long ((a0).toInt64), .long (0 : Int64), .long (255 : Int64)]) (st := []) (st1 := [.int v2]) X ss_RX12_57 ⟨by decide, by decide⟩ rfl rfl (Nat.le_of_ble_eq_true rfl) rfl dX12_feed_11 jrv_i (c_X12_in  hm4) rfl ?_
  refine j_if_ne (tgt := 20) X dX12_feed_14 (by decide) h (fun h => ?_) (fun h => ?_)
  · refine j_aload_n X 0 dX12_feed_20 rfl rfl ?_
    refine j_getI X fg_RX12_74 ln_89 ly_89 rfl dX12_feed_21 ?_
    refine j_sipush (v := 140) X dX12_feed_24 (by decide) ?_
    refine j_icmp_ne (tgt := 33) X dX12_feed_27 (by decide) h (fun h => ?_) (fun h => ?_)
    · refine j_aload_n X 0 dX12_feed_33 rfl rfl ?_
      refine j_getR (t := 97) X fg_RX12_31 ln_89 ly_89 rfl dX12_feed_34 ?_
      refine j_aload_n X 0 dX12_feed_37 rfl rfl ?_
      refine j_getI X fg_RX12_74 ln_89 ly_89 rfl dX12_feed_38 ?_
      refine j_iload_n X 1 dX12_feed_41 rfl rfl ?_
      refine j_iastore X ln_97 ly_97 dX12_feed_42 h (fun σ5 h => ?_)
      refine j_aload_n X 0 dX12_feed_43 rfl rfl ?_
      refine j_dup X dX12_feed_44 rfl ?_
      refine j_getI X fg_RX12_74 ln_89 ly_89 rfl dX12_feed_45 ?_
      refine j_iconst (v := 1) X dX12_feed_48 (by decide) ?_
      refine j_iadd X dX12_feed_49 ?_
      refine j_put X fp_RX12_74 ln_89 ly_89 rfl rfl rfl dX12_feed_50 h (fun σ6 h => ?_)
      refine j_aload_n X 0 dX12_feed_53 rfl rfl ?_
      refine j_getI X fg_RX12_74 ln_89 ly_89 rfl dX12_feed_54 ?_
      obtain ⟨rfl, rfl⟩ := jin2 h
      exact j_iret X R0 dX12_feed_57
    · refine j_ldc (v := -1000003) X tw_971 dX12_feed_30 ?_
      obtain ⟨rfl, rfl⟩ := jin2 h
      exact j_iret X R0 dX12_feed_32
  · refine j_ldc (v := -1000001) X tw_948 dX12_feed_17 ?_
    obtain ⟨rfl, rfl⟩ := jin2 h
    exact j_iret X R0 dX12_feed_19
def f_X12_bad (a0 : Int32) (σ : jMem) : Option jMem :=
  if ¬ (σ.1 89 16) = 0 then
  some σ
else
  jlet (jset σ 89 16 a0) (fun σ1 =>
  jlet (jset σ1 89 17 (σ1.1 89 13)) (fun σ2 =>
  some σ2))
set_option maxRecDepth 100000 in
set_option maxHeartbeats 4000000 in
theorem c_X12_bad {l : Launch} {D : va_G} {ad : Nat → Nat} {cid : Nat → ClassId} {a0 : Int32}  {σ : jMem} {σ' : jMem} (h : f_X12_bad a0 σ = some σ') : jMet l D ad cid yX12_bad cX12_bad 2 none 0 0 [.ref 89, .int a0] σ none σ' := by
  refine jMet_of (ls0 := [some (.ref 89), some (.int a0)]) (by decide) (Nat.le_of_ble_eq_true rfl) rfl (fun K X R0 _ => ?_)
  unfold f_X12_bad at h
  refine j_aload_n X 0 dX12_bad_0 rfl rfl ?_
  refine j_getI X fg_RX12_78 ln_89 ly_89 rfl dX12_bad_1 ?_
  refine j_if_ne (tgt := 20) X dX12_bad_4 (by decide) h (fun h => ?_) (fun h => ?_)
  · obtain rfl := Option.some.inj h
    exact j_vret X R0 dX12_bad_20
  · refine j_aload_n X 0 dX12_bad_7 rfl rfl ?_
    refine j_iload_n X 1 dX12_bad_8 rfl rfl ?_
    refine j_put X fp_RX12_78 ln_89 ly_89 rfl rfl rfl dX12_bad_9 h (fun σ1 h => ?_)
    refine j_aload_n X 0 dX12_bad_12 rfl rfl ?_
    refine j_aload_n X 0 dX12_bad_13 rfl rfl ?_
    refine j_getI X fg_RX12_81 ln_89 ly_89 rfl dX12_bad_14 ?_
    refine j_put X fp_RX12_84 ln_89 ly_89 rfl rfl rfl dX12_bad_17 h (fun σ2 h => ?_)
    obtain rfl := Option.some.inj h
    exact j_vret X R0 dX12_bad_20
