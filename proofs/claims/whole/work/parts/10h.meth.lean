theorem sv_RX9_27 : jSiV RX9 27 yX9_take cX9_take 2 none 0 := ⟨tw_386, tw_388, ts_2, tw_3, tw_389, by decide, by decide, by decide +kernel⟩
theorem sv_RX9_47 : jSiV RX9 47 yX9_fails cX9_fails 2 (some .boolean) 1 := ⟨tw_405, tw_407, ts_6, tw_3, tw_408, by decide, by decide, by decide +kernel⟩
def f_X9_takes (a0 : Int32) (σ : jMem) : Option (Int32 × jMem) :=
  if (σ.1 13 5) = a0 then
  jbv (f_X9_take  σ) (fun σ1 =>
  some (((1 : Int32), σ1)))
else
  jbd (f_X9_fails (1 : Int32) σ) (fun v3 σ4 =>
  jck (jisb v3 = true) (some ((v3, σ4))))
set_option maxRecDepth 100000 in
set_option maxHeartbeats 4000000 in
theorem c_X9_takes {l : Launch} {D : va_G} {ad : Nat → Nat} {cid : Nat → ClassId} {a0 : Int32}  {σ : jMem} {r : Int32} {σ' : jMem} (h : f_X9_takes a0 σ = some (r, σ')) : jMet l D ad cid yX9_takes cX9_takes 2 (some .boolean) 3 61 [.ref 13, .int a0] σ (some (.int r)) σ' := by
  refine jMet_of (ls0 := [some (.ref 13), some (.int a0)]) (by decide) (Nat.le_of_ble_eq_true rfl) rfl (fun K X R0 _ => ?_)
  unfold f_X9_takes at h
  refine j_aload_n X 0 dX9_takes_0 rfl rfl ?_
  refine j_getI X fg_RX9_34 ln_13 ly_13 rfl dX9_takes_1 ?_
  refine j_iload_n X 1 dX9_takes_4 rfl rfl ?_
  refine j_icmp_eq (tgt := 14) X dX9_takes_5 (by decide) h (fun h => ?_) (fun h => ?_)
  · refine j_aload_n X 0 dX9_takes_14 rfl rfl ?_
    obtain ⟨σ1, hm2, h⟩ := jbv_some h
    refine j_callV (as := []) (st := []) (st1 := []) X ln_13 ly_13 rfl rfl sv_RX9_27 ⟨by decide, by decide⟩ rfl rfl (Nat.le_of_ble_eq_true rfl) rfl dX9_takes_15 jrv_v (c_X9_take  hm2) rfl ?_
    refine j_iconst (v := 1) X dX9_takes_18 (by decide) ?_
    obtain ⟨rfl, rfl⟩ := jin2 h
    exact j_zret X R0 rfl dX9_takes_19
  · refine j_aload_n X 0 dX9_takes_8 rfl rfl ?_
    refine j_iconst (v := 1) X dX9_takes_9 (by decide) ?_
    obtain ⟨v3, σ4, hm5, h⟩ := jbd_some h
    refine j_callV (as := [.int (1 : Int32)]) (st := []) (st1 := [.int v3]) X ln_13 ly_13 rfl rfl sv_RX9_47 ⟨by decide, by decide⟩ rfl rfl (Nat.le_of_ble_eq_true rfl) rfl dX9_takes_10 jrv_i (c_X9_fails  hm5) rfl ?_
    obtain ⟨hc6, h⟩ := jck_some h
    obtain ⟨rfl, rfl⟩ := jin2 h
    exact j_zret X R0 hc6 dX9_takes_13
def f_X5_addPath (k : Nat) (a0 : Int32) (a1 : Int32) (a2 : Int32) (σ : jMem) : Option jMem :=
  jst σ (k + 1) 12 (σ.1 k 5) a0 (fun σ1 =>
  jst σ1 (k + 2) 12 (σ1.1 k 5) a1 (fun σ2 =>
  jst σ2 (k + 3) 12 (σ2.1 k 5) a2 (fun σ3 =>
  jlet (jset σ3 k 5 ((σ3.1 k 5) + (1 : Int32))) (fun σ4 =>
  some σ4))))
set_option maxRecDepth 100000 in
set_option maxHeartbeats 4000000 in
theorem c_X5_addPath {l : Launch} {D : va_G} {ad : Nat → Nat} {cid : Nat → ClassId} {k : Nat} {a0 : Int32} {a1 : Int32} {a2 : Int32} (hk : jisP k) {σ : jMem} {σ' : jMem} (h : f_X5_addPath k a0 a1 a2 σ = some σ') : jMet l D ad cid yX5_addPath cX5_addPath 4 none 0 0 [.ref k, .int a0, .int a1, .int a2] σ none σ' := by
  refine jMet_of (ls0 := [some (.ref k), some (.int a0), some (.int a1), some (.int a2)]) (by decide) (Nat.le_of_ble_eq_true rfl) rfl (fun K X R0 _ => ?_)
  unfold f_X5_addPath at h
  refine j_aload_n X 0 dX5_addPath_0 rfl rfl ?_
  refine j_getR (t := (k + 1)) X fg_RX5_15 (jp_lt hk) (jp_ly hk) rfl dX5_addPath_1 ?_
  refine j_aload_n X 0 dX5_addPath_4 rfl rfl ?_
  refine j_getI X fg_RX5_41 (jp_lt hk) (jp_ly hk) rfl dX5_addPath_5 ?_
  refine j_iload_n X 1 dX5_addPath_8 rfl rfl ?_
  refine j_iastore X (jp_lt1 hk) (jp_ly1 hk) dX5_addPath_9 h (fun σ1 h => ?_)
  refine j_aload_n X 0 dX5_addPath_10 rfl rfl ?_
  refine j_getR (t := (k + 2)) X fg_RX5_19 (jp_lt hk) (jp_ly hk) rfl dX5_addPath_11 ?_
  refine j_aload_n X 0 dX5_addPath_14 rfl rfl ?_
  refine j_getI X fg_RX5_41 (jp_lt hk) (jp_ly hk) rfl dX5_addPath_15 ?_
  refine j_iload_n X 2 dX5_addPath_18 rfl rfl ?_
  refine j_iastore X (jp_lt2 hk) (jp_ly2 hk) dX5_addPath_19 h (fun σ2 h => ?_)
  refine j_aload_n X 0 dX5_addPath_20 rfl rfl ?_
  refine j_getR (t := (k + 3)) X fg_RX5_22 (jp_lt hk) (jp_ly hk) rfl dX5_addPath_21 ?_
  refine j_aload_n X 0 dX5_addPath_24 rfl rfl ?_
  refine j_getI X fg_RX5_41 (jp_lt hk) (jp_ly hk) rfl dX5_addPath_25 ?_
  refine j_iload_n X 3 dX5_addPath_28 rfl rfl ?_
  refine j_iastore X (jp_lt3 hk) (jp_ly3 hk) dX5_addPath_29 h (fun σ3 h => ?_)
  refine j_aload_n X 0 dX5_addPath_30 rfl rfl ?_
  refine j_dup X dX5_addPath_31 rfl ?_
  refine j_getI X fg_RX5_41 (jp_lt hk) (jp_ly hk) rfl dX5_addPath_32 ?_
  refine j_iconst (v := 1) X dX5_addPath_35 (by decide) ?_
  refine j_iadd X dX5_addPath_36 ?_
  refine j_put X fp_RX5_41 (jp_lt hk) (jp_ly hk) rfl rfl rfl dX5_addPath_37 h (fun σ4 h => ?_)
  obtain rfl := Option.some.inj h
  exact j_vret X R0 dX5_addPath_40
def f_X9_isNumber (a0 : Int32) (a1 : Int32) (σ : jMem) : Option (Int32 × jMem) :=
  if (σ.1 13 5) = (1 : Int32) then
  jj (fun (q2 : Unit) σ3 =>
  jbd (f_X9_fails (2 : Int32) σ3) (fun v4 σ5 =>
  if v4 = 0 then
  some (((0 : Int32), σ5))
else
  some (((1 : Int32), σ5)))) (fun k1 =>
  if (σ.1 13 6) < a0 then
  k1 () σ
else
  if (σ.1 13 6) ≤ a1 then
  some (((1 : Int32), σ))
else
  k1 () σ)
else
  jbd (f_X9_fails (1 : Int32) σ) (fun v7 σ8 =>
  jck (jisb v7 = true) (some ((v7, σ8))))
set_option maxRecDepth 100000 in
set_option maxHeartbeats 4000000 in
theorem c_X9_isNumber {l : Launch} {D : va_G} {ad : Nat → Nat} {cid : Nat → ClassId} {a0 : Int32} {a1 : Int32}  {σ : jMem} {r : Int32} {σ' : jMem} (h : f_X9_isNumber a0 a1 σ = some (r, σ')) : jMet l D ad cid yX9_isNumber cX9_isNumber 3 (some .boolean) 1 21 [.ref 13, .int a0, .int a1] σ (some (.int r)) σ' := by
  refine jMet_of (ls0 := [some (.ref 13), some (.int a0), some (.int a1)]) (by decide) (Nat.le_of_ble_eq_true rfl) rfl (fun K X R0 _ => ?_)
  unfold f_X9_isNumber at h
  refine j_aload_n X 0 dX9_isNumber_0 rfl rfl ?_
  refine j_getI X fg_RX9_34 ln_13 ly_13 rfl dX9_isNumber_1 ?_
  refine j_iconst (v := 1) X dX9_isNumber_4 (by decide) ?_
  refine j_icmp_eq (tgt := 14) X dX9_isNumber_5 (by decide) h (fun h => ?_) (fun h => ?_)
  · refine j_aload_n X 0 dX9_isNumber_14 rfl rfl ?_
    refine j_getI X fg_RX9_62 ln_13 ly_13 rfl dX9_isNumber_15 ?_
    refine j_iload_n X 1 dX9_isNumber_18 rfl rfl ?_
    refine j_join (pcJ := 30) (lsJ := fun q2 => [some (.ref 13), none, none]) (stJ := fun q2 => []) h (fun q2 σ3 h => ?_) (fun k1 hk1 h => ?_)
    · refine j_aload_n X 0 dX9_isNumber_30 rfl rfl ?_
      refine j_iconst (v := 2) X dX9_isNumber_31 (by decide) ?_
      obtain ⟨v4, σ5, hm6, h⟩ := jbd_some h
      refine j_callV (as := [.int (2 : Int32)]) (st := []) (st1 := [.int v4]) X ln_13 ly_13 rfl rfl sv_RX9_47 ⟨by decide, by decide⟩ rfl rfl (Nat.le_of_ble_eq_true rfl) rfl dX9_isNumber_32 jrv_i (c_X9_fails  hm6) rfl ?_
      refine j_if_eq (tgt := 42) X dX9_isNumber_35 (by decide) h (fun h => ?_) (fun h => ?_)
      · refine j_iconst (v := 0) X dX9_isNumber_42 (by decide) ?_
        obtain ⟨rfl, rfl⟩ := jin2 h
        exact j_zret X R0 rfl dX9_isNumber_43
      · refine j_iconst (v := 1) X dX9_isNumber_38 (by decide) ?_
        refine j_goto (tgt := 43) X dX9_isNumber_39 (by decide) ?_
        obtain ⟨rfl, rfl⟩ := jin2 h
        exact j_zret X R0 rfl dX9_isNumber_43
    · refine j_icmp_lt (tgt := 30) X dX9_isNumber_19 (by decide) h (fun h => ?_) (fun h => ?_)
      · exact j_sub (ls' := [some (.ref 13), none, none]) ⟨Or.inr rfl, Or.inl rfl, Or.inl rfl, trivial⟩ (hk1 () σ h)
      · refine j_aload_n X 0 dX9_isNumber_22 rfl rfl ?_
        refine j_getI X fg_RX9_62 ln_13 ly_13 rfl dX9_isNumber_23 ?_
        refine j_iload_n X 2 dX9_isNumber_26 rfl rfl ?_
        refine j_icmp_le (tgt := 38) X dX9_isNumber_27 (by decide) h (fun h => ?_) (fun h => ?_)
        · refine j_iconst (v := 1) X dX9_isNumber_38 (by decide) ?_
          refine j_goto (tgt := 43) X dX9_isNumber_39 (by decide) ?_
          obtain ⟨rfl, rfl⟩ := jin2 h
          exact j_zret X R0 rfl dX9_isNumber_43
        · exact j_sub (ls' := [some (.ref 13), none, none]) ⟨Or.inr rfl, Or.inl rfl, Or.inl rfl, trivial⟩ (hk1 () σ h)
  · refine j_aload_n X 0 dX9_isNumber_8 rfl rfl ?_
    refine j_iconst (v := 1) X dX9_isNumber_9 (by decide) ?_
    obtain ⟨v7, σ8, hm9, h⟩ := jbd_some h
    refine j_callV (as := [.int (1 : Int32)]) (st := []) (st1 := [.int v7]) X ln_13 ly_13 rfl rfl sv_RX9_47 ⟨by decide, by decide⟩ rfl rfl (Nat.le_of_ble_eq_true rfl) rfl dX9_isNumber_10 jrv_i (c_X9_fails  hm9) rfl ?_
    obtain ⟨hc10, h⟩ := jck_some h
    obtain ⟨rfl, rfl⟩ := jin2 h
    exact j_zret X R0 hc10 dX9_isNumber_13
