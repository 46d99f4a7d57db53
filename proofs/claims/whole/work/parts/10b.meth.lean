def f_X6_put (a0 : Int32) (a1 : Int32) (a2 : Int32) (σ : jMem) : Option (Int32 × jMem) :=
  jld σ 11 8 a0 (fun v1 =>
  jj (fun (q3 : Int32) σ4 =>
  jldr 8 3 1 a0 (fun k5 =>
  jst σ4 k5 40 a1 q3 (fun σ6 =>
  some ((q3, σ6))))) (fun k2 =>
  if ¬ v1 = 0 then
  jld σ 11 8 a0 (fun v7 =>
  if ¬ v7 = (1 : Int32) then
  k2 a2 σ
else
  k2 ((a2).toInt16.toInt32) σ)
else
  k2 ((a2).toInt8.toInt32) σ))
set_option maxRecDepth 100000 in
set_option maxHeartbeats 4000000 in
theorem c_X6_put {l : Launch} {D : va_G} {ad : Nat → Nat} {cid : Nat → ClassId} {a0 : Int32} {a1 : Int32} {a2 : Int32}  {σ : jMem} {r : Int32} {σ' : jMem} (h : f_X6_put a0 a1 a2 σ = some (r, σ')) : jMet l D ad cid yX6_put cX6_put 5 (some .int) 0 0 [.ref 1, .int a0, .int a1, .int a2] σ (some (.int r)) σ' := by
  refine jMet_of (ls0 := [some (.ref 1), some (.int a0), some (.int a1), some (.int a2), none]) (by decide) (Nat.le_of_ble_eq_true rfl) rfl (fun K X R0 _ => ?_)
  unfold f_X6_put at h
  refine j_aload_n X 0 dX6_put_0 rfl rfl ?_
  refine j_getR (t := 11) X fg_RX6_16 ln_1 ly_1 rfl dX6_put_1 ?_
  refine j_iload_n X 1 dX6_put_4 rfl rfl ?_
  refine j_iaload X ln_11 ly_11 dX6_put_5 h (fun v1 h => ?_)
  refine j_join (pcJ := 30) (lsJ := fun q3 => [some (.ref 1), some (.int a0), some (.int a1), none, none]) (stJ := fun q3 => [.int q3]) h (fun q3 σ4 h => ?_) (fun k2 hk2 h => ?_)
  · refine j_istore (ls' := [some (.ref 1), some (.int a0), some (.int a1), none, some (.int q3)]) X dX6_put_30 (Nat.le_of_ble_eq_true rfl) rfl ?_
    refine j_aload_n X 0 dX6_put_32 rfl rfl ?_
    refine j_getR (t := 2) X fg_RX6_11 ln_1 ly_1 rfl dX6_put_33 ?_
    refine j_iload_n X 1 dX6_put_36 rfl rfl ?_
    refine j_aaload X ln_2 ly_2 (Or.inr (Or.inr rfl)) dX6_put_37 h (fun k5 qk5 h => ?_)
    have hk5 := jrow8 qk5
    refine j_iload_n X 2 dX6_put_38 rfl rfl ?_
    refine j_iload X dX6_put_39 rfl ?_
    refine j_iastore X hk5.1 hk5.2 dX6_put_41 h (fun σ6 h => ?_)
    refine j_iload X dX6_put_42 rfl ?_
    obtain ⟨rfl, rfl⟩ := jin2 h
    exact j_iret X R0 dX6_put_44
  · refine j_if_ne (tgt := 14) X dX6_put_6 (by decide) h (fun h => ?_) (fun h => ?_)
    · refine j_aload_n X 0 dX6_put_14 rfl rfl ?_
      refine j_getR (t := 11) X fg_RX6_16 ln_1 ly_1 rfl dX6_put_15 ?_
      refine j_iload_n X 1 dX6_put_18 rfl rfl ?_
      refine j_iaload X ln_11 ly_11 dX6_put_19 h (fun v7 h => ?_)
      refine j_iconst (v := 1) X dX6_put_20 (by decide) ?_
      refine j_icmp_ne (tgt := 29) X dX6_put_21 (by decide) h (fun h => ?_) (fun h => ?_)
      · refine j_iload_n X 3 dX6_put_29 rfl rfl ?_
        exact j_sub (ls' := [some (.ref 1), some (.int a0), some (.int a1), none, none]) ⟨Or.inr rfl, Or.inr rfl, Or.inr rfl, Or.inl rfl, Or.inl rfl, trivial⟩ (hk2 a2 σ h)
      · refine j_iload_n X 3 dX6_put_24 rfl rfl ?_
        refine j_i2s X dX6_put_25 ?_
        refine j_goto (tgt := 30) X dX6_put_26 (by decide) ?_
        exact j_sub (ls' := [some (.ref 1), some (.int a0), some (.int a1), none, none]) ⟨Or.inr rfl, Or.inr rfl, Or.inr rfl, Or.inl rfl, Or.inl rfl, trivial⟩ (hk2 ((a2).toInt16.toInt32) σ h)
    · refine j_iload_n X 3 dX6_put_9 rfl rfl ?_
      refine j_i2b X dX6_put_10 ?_
      refine j_goto (tgt := 30) X dX6_put_11 (by decide) ?_
      exact j_sub (ls' := [some (.ref 1), some (.int a0), some (.int a1), none, none]) ⟨Or.inr rfl, Or.inr rfl, Or.inr rfl, Or.inl rfl, Or.inl rfl, trivial⟩ (hk2 ((a2).toInt8.toInt32) σ h)
def f_X6_has (a0 : Int32) (a1 : Int32) (a2 : Int32) (σ : jMem) : Option (Int32 × jMem) :=
  if a1 < 0 then
  some (((0 : Int32), σ))
else
  if a2 < 0 then
  some (((0 : Int32), σ))
else
  jld σ 12 8 a0 (fun v1 =>
  if v1 < a1 then
  some (((0 : Int32), σ))
else
  jld σ 12 8 a0 (fun v2 =>
  if (v2 - a1) < a2 then
  some (((0 : Int32), σ))
else
  some (((1 : Int32), σ))))
set_option maxRecDepth 100000 in
set_option maxHeartbeats 4000000 in
theorem c_X6_has {l : Launch} {D : va_G} {ad : Nat → Nat} {cid : Nat → ClassId} {a0 : Int32} {a1 : Int32} {a2 : Int32}  {σ : jMem} {r : Int32} {σ' : jMem} (h : f_X6_has a0 a1 a2 σ = some (r, σ')) : jMet l D ad cid yX6_has cX6_has 4 (some .boolean) 0 0 [.ref 1, .int a0, .int a1, .int a2] σ (some (.int r)) σ' := by
  refine jMet_of (ls0 := [some (.ref 1), some (.int a0), some (.int a1), some (.int a2)]) (by decide) (Nat.le_of_ble_eq_true rfl) rfl (fun K X R0 _ => ?_)
  unfold f_X6_has at h
  refine j_iload_n X 2 dX6_has_0 rfl rfl ?_
  refine j_if_lt (tgt := 34) X dX6_has_1 (by decide) h (fun h => ?_) (fun h => ?_)
  · refine j_iconst (v := 0) X dX6_has_34 (by decide) ?_
    obtain ⟨rfl, rfl⟩ := jin2 h
    exact j_zret X R0 rfl dX6_has_35
  · refine j_iload_n X 3 dX6_has_4 rfl rfl ?_
    refine j_if_lt (tgt := 34) X dX6_has_5 (by decide) h (fun h => ?_) (fun h => ?_)
    · refine j_iconst (v := 0) X dX6_has_34 (by decide) ?_
      obtain ⟨rfl, rfl⟩ := jin2 h
      exact j_zret X R0 rfl dX6_has_35
    · refine j_iload_n X 2 dX6_has_8 rfl rfl ?_
      refine j_aload_n X 0 dX6_has_9 rfl rfl ?_
      refine j_getR (t := 12) X fg_RX6_20 ln_1 ly_1 rfl dX6_has_10 ?_
      refine j_iload_n X 1 dX6_has_13 rfl rfl ?_
      refine j_iaload X ln_12 ly_12 dX6_has_14 h (fun v1 h => ?_)
      refine j_icmp_gt (tgt := 34) X dX6_has_15 (by decide) h (fun h => ?_) (fun h => ?_)
      · refine j_iconst (v := 0) X dX6_has_34 (by decide) ?_
        obtain ⟨rfl, rfl⟩ := jin2 h
        exact j_zret X R0 rfl dX6_has_35
      · refine j_iload_n X 3 dX6_has_18 rfl rfl ?_
        refine j_aload_n X 0 dX6_has_19 rfl rfl ?_
        refine j_getR (t := 12) X fg_RX6_20 ln_1 ly_1 rfl dX6_has_20 ?_
        refine j_iload_n X 1 dX6_has_23 rfl rfl ?_
        refine j_iaload X ln_12 ly_12 dX6_has_24 h (fun v2 h => ?_)
        refine j_iload_n X 2 dX6_has_25 rfl rfl ?_
        refine j_isub X dX6_has_26 ?_
        refine j_icmp_gt (tgt := 34) X dX6_has_27 (by decide) h (fun h => ?_) (fun h => ?_)
        · refine j_iconst (v := 0) X dX6_has_34 (by decide) ?_
          obtain ⟨rfl, rfl⟩ := jin2 h
          exact j_zret X R0 rfl dX6_has_35
        · refine j_iconst (v := 1) X dX6_has_30 (by decide) ?_
          refine j_goto (tgt := 35) X dX6_has_31 (by decide) ?_
          obtain ⟨rfl, rfl⟩ := jin2 h
          exact j_zret X R0 rfl dX6_has_35
def f_X6_isMissing (a0 : Int32) (σ : jMem) : Option (Int32 × jMem) :=
  jld σ 12 8 a0 (fun v1 =>
  if ¬ v1 = (-1 : Int32) then
  some (((0 : Int32), σ))
else
  some (((1 : Int32), σ)))
set_option maxRecDepth 100000 in
set_option maxHeartbeats 4000000 in
theorem c_X6_isMissing {l : Launch} {D : va_G} {ad : Nat → Nat} {cid : Nat → ClassId} {a0 : Int32}  {σ : jMem} {r : Int32} {σ' : jMem} (h : f_X6_isMissing a0 σ = some (r, σ')) : jMet l D ad cid yX6_isMissing cX6_isMissing 2 (some .boolean) 0 0 [.ref 1, .int a0] σ (some (.int r)) σ' := by
  refine jMet_of (ls0 := [some (.ref 1), some (.int a0)]) (by decide) (Nat.le_of_ble_eq_true rfl) rfl (fun K X R0 _ => ?_)
  unfold f_X6_isMissing at h
  refine j_aload_n X 0 dX6_isMissing_0 rfl rfl ?_
  refine j_getR (t := 12) X fg_RX6_20 ln_1 ly_1 rfl dX6_isMissing_1 ?_
  refine j_iload_n X 1 dX6_isMissing_4 rfl rfl ?_
  refine j_iaload X ln_12 ly_12 dX6_isMissing_5 h (fun v1 h => ?_)
  refine j_iconst (v := -1) X dX6_isMissing_6 (by decide) ?_
  refine j_icmp_ne (tgt := 14) X dX6_isMissing_7 (by decide) h (fun h => ?_) (fun h => ?_)
  · refine j_iconst (v := 0) X dX6_isMissing_14 (by decide) ?_
    obtain ⟨rfl, rfl⟩ := jin2 h
    exact j_zret X R0 rfl dX6_isMissing_15
  · refine j_iconst (v := 1) X dX6_isMissing_10 (by decide) ?_
    refine j_goto (tgt := 15) X dX6_isMissing_11 (by decide) ?_
    obtain ⟨rfl, rfl⟩ := jin2 h
    exact j_zret X R0 rfl dX6_isMissing_15
theorem sv_RX6_23 : jSiV RX6 23 yX6_isMissing cX6_isMissing 2 (some .boolean) 1 := ⟨tw_340, tw_341, tw_342, tw_2, tw_343, by decide, by decide, by decide +kernel⟩
theorem sv_RX6_27 : jSiV RX6 27 yX6_has cX6_has 4 (some .boolean) 3 := ⟨tw_344, tw_345, tw_346, tw_2, tw_347, by decide, by decide, by decide +kernel⟩
def f_X6_amiss (a0 : Int32) (a1 : Int32) (a2 : Int32) (σ : jMem) : Option (Int32 × jMem) :=
  jbd (f_X6_isMissing a0 σ) (fun v1 σ2 =>
  if v1 = 0 then
  jbd (f_X6_has a0 a1 a2 σ2) (fun v4 σ5 =>
  if v4 = 0 then
  some (((2 : Int32), σ5))
else
  some (((0 : Int32), σ5)))
else
  some (((1 : Int32), σ2)))
set_option maxRecDepth 100000 in
set_option maxHeartbeats 4000000 in
theorem c_X6_amiss {l : Launch} {D : va_G} {ad : Nat → Nat} {cid : Nat → ClassId} {a0 : Int32} {a1 : Int32} {a2 : Int32}  {σ : jMem} {r : Int32} {σ' : jMem} (h : f_X6_amiss a0 a1 a2 σ = some (r, σ')) : jMet l D ad cid yX6_amiss cX6_amiss 4 (some .int) 1 23 [.ref 1, .int a0, .int a1, .int a2] σ (some (.int r)) σ' := by
  refine jMet_of (ls0 := [some (.ref 1), some (.int a0), some (.int a1), some (.int a2)]) (by decide) (Nat.le_of_ble_eq_true rfl) rfl (fun K X R0 _ => ?_)
  unfold f_X6_amiss at h
  refine j_aload_n X 0 dX6_amiss_0 rfl rfl ?_
  refine j_iload_n X 1 dX6_amiss_1 rfl rfl ?_
  obtain ⟨v1, σ2, hm3, h⟩ := jbd_some h
  refine j_callV (as := [.int a0]) (st := []) (st1 := [.int v1]) X ln_1 ly_1 rfl rfl sv_RX6_23 ⟨by decide, by decide⟩ rfl rfl (Nat.le_of_ble_eq_true rfl) rfl dX6_amiss_2 jrv_i (c_X6_isMissing  hm3) rfl ?_
  refine j_if_eq (tgt := 12) X dX6_amiss_5 (by decide) h (fun h => ?_) (fun h => ?_)
  · refine j_aload_n X 0 dX6_amiss_12 rfl rfl ?_
    refine j_iload_n X 1 dX6_amiss_13 rfl rfl ?_
    refine j_iload_n X 2 dX6_amiss_14 rfl rfl ?_
    refine j_iload_n X 3 dX6_amiss_15 rfl rfl ?_
    obtain ⟨v4, σ5, hm6, h⟩ := jbd_some h
    refine j_callV (as := [.int a0, .int a1, .int a2]) (st := []) (st1 := [.int v4]) X ln_1 ly_1 rfl rfl sv_RX6_27 ⟨by decide, by decide⟩ rfl rfl (Nat.le_of_ble_eq_true rfl) rfl dX6_amiss_16 jrv_i (c_X6_has  hm6) rfl ?_
    refine j_if_eq (tgt := 26) X dX6_amiss_19 (by decide) h (fun h => ?_) (fun h => ?_)
    · refine j_iconst (v := 2) X dX6_amiss_26 (by decide) ?_
      obtain ⟨rfl, rfl⟩ := jin2 h
      exact j_iret X R0 dX6_amiss_27
    · refine j_iconst (v := 0) X dX6_amiss_22 (by decide) ?_
      refine j_goto (tgt := 27) X dX6_amiss_23 (by decide) ?_
      obtain ⟨rfl, rfl⟩ := jin2 h
      exact j_iret X R0 dX6_amiss_27
  · refine j_iconst (v := 1) X dX6_amiss_8 (by decide) ?_
    refine j_goto (tgt := 27) X dX6_amiss_9 (by decide) ?_
    obtain ⟨rfl, rfl⟩ := jin2 h
    exact j_iret X R0 dX6_amiss_27
