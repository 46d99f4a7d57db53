def f_X11_drop (a0 : Int32) (σ : jMem) : Option (Int32 × jMem) :=
  jbd (f_X11_isRow a0 σ) (fun v1 σ2 =>
  if ¬ v1 = 0 then
  jbd (f_X6_isMissing a0 σ2) (fun v4 σ5 =>
  if v4 = 0 then
  jld σ5 12 8 a0 (fun v7 =>
  jst σ5 12 8 a0 (-1 : Int32) (fun σ8 =>
  jbd (f_X11_unfound v7 σ8) (fun v9 σ10 =>
  some ((v9, σ10)))))
else
  jbd (f_X11_found (1 : Int32) σ5) (fun v12 σ13 =>
  some ((v12, σ13))))
else
  some (((-1000001 : Int32), σ2)))
set_option maxRecDepth 100000 in
set_option maxHeartbeats 4000000 in
theorem c_X11_drop {l : Launch} {D : va_G} {ad : Nat → Nat} {cid : Nat → ClassId} {a0 : Int32}  {σ : jMem} {r : Int32} {σ' : jMem} (h : f_X11_drop a0 σ = some (r, σ')) : jMet l D ad cid yX11_drop cX11_drop 3 (some .int) 1 21 [.ref 0, .int a0] σ (some (.int r)) σ' := by
  refine jMet_of (ls0 := [some (.ref 0), some (.int a0), none]) (by decide) (Nat.le_of_ble_eq_true rfl) rfl (fun K X R0 _ => ?_)
  unfold f_X11_drop at h
  refine j_iload_n X 1 dX11_drop_0 rfl rfl ?_
  obtain ⟨v1, σ2, hm3, h⟩ := jbd_some h
  refine j_callS (as := [.int a0]) (st := []) (st1 := [.int v1]) X ss_RX11_84 ⟨by decide, by decide⟩ rfl rfl (Nat.le_of_ble_eq_true rfl) rfl dX11_drop_1 jrv_i (c_X11_isRow  hm3) rfl ?_
  refine j_if_ne (tgt := 10) X dX11_drop_4 (by decide) h (fun h => ?_) (fun h => ?_)
  · refine j_aload_n X 0 dX11_drop_10 rfl rfl ?_
    refine j_getR (t := 1) X fg_RX11_10 ln_0 ly_0 rfl dX11_drop_11 ?_
    refine j_iload_n X 1 dX11_drop_14 rfl rfl ?_
    obtain ⟨v4, σ5, hm6, h⟩ := jbd_some h
    refine j_callV (as := [.int a0]) (st := []) (st1 := [.int v4]) X ln_1 ly_1 rfl rfl sv_RX11_107 ⟨by decide, by decide⟩ rfl rfl (Nat.le_of_ble_eq_true rfl) rfl dX11_drop_15 jrv_i (c_X6_isMissing  hm6) rfl ?_
    refine j_if_eq (tgt := 27) X dX11_drop_18 (by decide) h (fun h => ?_) (fun h => ?_)
    · refine j_aload_n X 0 dX11_drop_27 rfl rfl ?_
      refine j_getR (t := 1) X fg_RX11_10 ln_0 ly_0 rfl dX11_drop_28 ?_
      refine j_getR (t := 12) X fg_RX11_126 ln_1 ly_1 rfl dX11_drop_31 ?_
      refine j_iload_n X 1 dX11_drop_34 rfl rfl ?_
      refine j_iaload X ln_12 ly_12 dX11_drop_35 h (fun v7 h => ?_)
      refine j_istore_n (ls' := [some (.ref 0), some (.int a0), some (.int v7)]) X 2 dX11_drop_36 rfl (Nat.le_of_ble_eq_true rfl) rfl ?_
      refine j_aload_n X 0 dX11_drop_37 rfl rfl ?_
      refine j_getR (t := 1) X fg_RX11_10 ln_0 ly_0 rfl dX11_drop_38 ?_
      refine j_getR (t := 12) X fg_RX11_126 ln_1 ly_1 rfl dX11_drop_41 ?_
      refine j_iload_n X 1 dX11_drop_44 rfl rfl ?_
      refine j_iconst (v := -1) X dX11_drop_45 (by decide) ?_
      refine j_iastore X ln_12 ly_12 dX11_drop_46 h (fun σ8 h => ?_)
      refine j_aload_n X 0 dX11_drop_47 rfl rfl ?_
      refine j_iload_n X 2 dX11_drop_48 rfl rfl ?_
      obtain ⟨v9, σ10, hm11, h⟩ := jbd_some h
      refine j_callV (as := [.int v7]) (st := []) (st1 := [.int v9]) X ln_0 ly_0 rfl rfl sv_RX11_97 ⟨by decide, by decide⟩ rfl rfl (Nat.le_of_ble_eq_true rfl) rfl dX11_drop_49 jrv_i (c_X11_unfound  hm11) rfl ?_
      obtain ⟨rfl, rfl⟩ := jin2 h
      exact j_iret X R0 dX11_drop_52
    · refine j_aload_n X 0 dX11_drop_21 rfl rfl ?_
      refine j_iconst (v := 1) X dX11_drop_22 (by decide) ?_
      obtain ⟨v12, σ13, hm14, h⟩ := jbd_some h
      refine j_callV (as := [.int (1 : Int32)]) (st := []) (st1 := [.int v12]) X ln_0 ly_0 rfl rfl sv_RX11_89 ⟨by decide, by decide⟩ rfl rfl (Nat.le_of_ble_eq_true rfl) rfl dX11_drop_23 jrv_i (c_X11_found  hm14) rfl ?_
      obtain ⟨rfl, rfl⟩ := jin2 h
      exact j_iret X R0 dX11_drop_26
  · refine j_ldc (v := -1000001) X tw_318 dX11_drop_7 ?_
    obtain ⟨rfl, rfl⟩ := jin2 h
    exact j_iret X R0 dX11_drop_9
def f_X9_append (a0 : Int32) (σ : jMem) : Option jMem :=
  jst σ 14 140 (σ.1 13 1) a0 (fun σ1 =>
  jlet (jset σ1 13 1 ((σ1.1 13 1) + (1 : Int32))) (fun σ2 =>
  some σ2))
set_option maxRecDepth 100000 in
set_option maxHeartbeats 4000000 in
theorem c_X9_append {l : Launch} {D : va_G} {ad : Nat → Nat} {cid : Nat → ClassId} {a0 : Int32}  {σ : jMem} {σ' : jMem} (h : f_X9_append a0 σ = some σ') : jMet l D ad cid yX9_append cX9_append 2 none 0 0 [.ref 13, .int a0] σ none σ' := by
  refine jMet_of (ls0 := [some (.ref 13), some (.int a0)]) (by decide) (Nat.le_of_ble_eq_true rfl) rfl (fun K X R0 _ => ?_)
  unfold f_X9_append at h
  refine j_aload_n X 0 dX9_append_0 rfl rfl ?_
  refine j_getR (t := 14) X fg_RX9_9 ln_13 ly_13 rfl dX9_append_1 ?_
  refine j_aload_n X 0 dX9_append_4 rfl rfl ?_
  refine j_getI X fg_RX9_15 ln_13 ly_13 rfl dX9_append_5 ?_
  refine j_iload_n X 1 dX9_append_8 rfl rfl ?_
  refine j_iastore X ln_14 ly_14 dX9_append_9 h (fun σ1 h => ?_)
  refine j_aload_n X 0 dX9_append_10 rfl rfl ?_
  refine j_dup X dX9_append_11 rfl ?_
  refine j_getI X fg_RX9_15 ln_13 ly_13 rfl dX9_append_12 ?_
  refine j_iconst (v := 1) X dX9_append_15 (by decide) ?_
  refine j_iadd X dX9_append_16 ?_
  refine j_put X fp_RX9_15 ln_13 ly_13 rfl rfl rfl dX9_append_17 h (fun σ2 h => ?_)
  obtain rfl := Option.some.inj h
  exact j_vret X R0 dX9_append_20
theorem sv_RX11_134 : jSiV RX11 134 yX9_append cX9_append 2 none 1 := ⟨tw_370, tw_371, tw_372, tw_3, tw_373, by decide, by decide, by decide +kernel⟩
def f_X11_feed (a0 : Int32) (σ : jMem) : Option (Int32 × jMem) :=
  if a0 < 0 then
  some (((-1000001 : Int32), σ))
else
  if a0 ≤ (255 : Int32) then
  if (σ.1 13 1) < (140 : Int32) then
  jbv (f_X9_append a0 σ) (fun σ1 =>
  some (((σ1.1 13 1), σ1)))
else
  some (((-1000003 : Int32), σ))
else
  some (((-1000001 : Int32), σ))
set_option maxRecDepth 100000 in
set_option maxHeartbeats 4000000 in
theorem c_X11_feed {l : Launch} {D : va_G} {ad : Nat → Nat} {cid : Nat → ClassId} {a0 : Int32}  {σ : jMem} {r : Int32} {σ' : jMem} (h : f_X11_feed a0 σ = some (r, σ')) : jMet l D ad cid yX11_feed cX11_feed 2 (some .int) 1 21 [.ref 0, .int a0] σ (some (.int r)) σ' := by
  refine jMet_of (ls0 := [some (.ref 0), some (.int a0)]) (by decide) (Nat.le_of_ble_eq_true rfl) rfl (fun K X R0 _ => ?_)
  unfold f_X11_feed at h
  refine j_iload_n X 1 dX11_feed_0 rfl rfl ?_
  refine j_if_lt (tgt := 11) X dX11_feed_1 (by decide) h (fun h => ?_) (fun h => ?_)
  · refine j_ldc (v := -1000001) X tw_318 dX11_feed_11 ?_
    obtain ⟨rfl, rfl⟩ := jin2 h
    exact j_iret X R0 dX11_feed_13
  · refine j_iload_n X 1 dX11_feed_4 rfl rfl ?_
    refine j_sipush (v := 255) X dX11_feed_5 (by decide) ?_
    refine j_icmp_le (tgt := 14) X dX11_feed_8 (by decide) h (fun h => ?_) (fun h => ?_)
    · refine j_aload_n X 0 dX11_feed_14 rfl rfl ?_
      refine j_getR (t := 13) X fg_RX11_19 ln_0 ly_0 rfl dX11_feed_15 ?_
      refine j_getI X fg_RX11_129 ln_13 ly_13 rfl dX11_feed_18 ?_
      refine j_sipush (v := 140) X dX11_feed_21 (by decide) ?_
      refine j_icmp_lt (tgt := 30) X dX11_feed_24 (by decide) h (fun h => ?_) (fun h => ?_)
      · refine j_aload_n X 0 dX11_feed_30 rfl rfl ?_
        refine j_getR (t := 13) X fg_RX11_19 ln_0 ly_0 rfl dX11_feed_31 ?_
        refine j_iload_n X 1 dX11_feed_34 rfl rfl ?_
        obtain ⟨σ1, hm2, h⟩ := jbv_some h
        refine j_callV (as := [.int a0]) (st := []) (st1 := []) X ln_13 ly_13 rfl rfl sv_RX11_134 ⟨by decide, by decide⟩ rfl rfl (Nat.le_of_ble_eq_true rfl) rfl dX11_feed_35 jrv_v (c_X9_append  hm2) rfl ?_
        refine j_aload_n X 0 dX11_feed_38 rfl rfl ?_
        refine j_getR (t := 13) X fg_RX11_19 ln_0 ly_0 rfl dX11_feed_39 ?_
        refine j_getI X fg_RX11_129 ln_13 ly_13 rfl dX11_feed_42 ?_
        obtain ⟨rfl, rfl⟩ := jin2 h
        exact j_iret X R0 dX11_feed_45
      · refine j_ldc (v := -1000003) X tw_369 dX11_feed_27 ?_
        obtain ⟨rfl, rfl⟩ := jin2 h
        exact j_iret X R0 dX11_feed_29
    · refine j_ldc (v := -1000001) X tw_318 dX11_feed_11 ?_
      obtain ⟨rfl, rfl⟩ := jin2 h
      exact j_iret X R0 dX11_feed_13
def f_X11_forgetActs  (σ : jMem) : Option jMem :=
  jlet (jset σ 0 7 (0 : Int32)) (fun σ1 =>
  some σ1)
set_option maxRecDepth 100000 in
set_option maxHeartbeats 4000000 in
theorem c_X11_forgetActs {l : Launch} {D : va_G} {ad : Nat → Nat} {cid : Nat → ClassId}   {σ : jMem} {σ' : jMem} (h : f_X11_forgetActs  σ = some σ') : jMet l D ad cid yX11_forgetActs cX11_forgetActs 1 none 0 0 [.ref 0] σ none σ' := by
  refine jMet_of (ls0 := [some (.ref 0)]) (by decide) (Nat.le_of_ble_eq_true rfl) rfl (fun K X R0 _ => ?_)
  unfold f_X11_forgetActs at h
  refine j_aload_n X 0 dX11_forgetActs_0 rfl rfl ?_
  refine j_iconst (v := 0) X dX11_forgetActs_1 (by decide) ?_
  refine j_put X fp_RX11_159 ln_0 ly_0 rfl rfl rfl dX11_forgetActs_2 h (fun σ1 h => ?_)
  obtain rfl := Option.some.inj h
  exact j_vret X R0 dX11_forgetActs_5
