theorem sv_RX12_105 : jSiV RX12 105 yX12_bad cX12_bad 2 none 1 := ⟨tw_1001, tw_1003, ts_26, tw_13, tw_1004, by decide, by decide, by decide +kernel⟩
theorem sv_RX12_109 : jSiV RX12 109 yX12_nextToken cX12_nextToken 1 none 0 := ⟨tw_984, tw_986, ts_23, tw_13, tw_987, by decide, by decide, by decide +kernel⟩
def f_X12_must (a0 : Int32) (σ : jMem) : Option jMem :=
  jj (fun (q2 : Unit) σ3 =>
  if ¬ (σ3.1 89 16) = 0 then
  some σ3
else
  jbv (f_X12_nextToken  σ3) (fun σ4 =>
  some σ4)) (fun k1 =>
  if ¬ a0 = 0 then
  k1 () σ
else
  jbv (f_X12_bad (1 : Int32) σ) (fun σ6 =>
  k1 () σ6))
set_option maxRecDepth 100000 in
set_option maxHeartbeats 4000000 in
theorem c_X12_must {l : Launch} {D : va_G} {ad : Nat → Nat} {cid : Nat → ClassId} {a0 : Int32}  {σ : jMem} {σ' : jMem} (h : f_X12_must a0 σ = some σ') : jMet l D ad cid yX12_must cX12_must 2 none 2 45 [.ref 89, .int a0] σ none σ' := by
  refine jMet_of (ls0 := [some (.ref 89), some (.int a0)]) (by decide) (Nat.le_of_ble_eq_true rfl) rfl (fun K X R0 _ => ?_)
  unfold f_X12_must at h
  refine j_iload_n X 1 dX12_must_0 rfl rfl ?_
  refine j_join (pcJ := 9) (lsJ := fun q2 => [some (.ref 89), none]) (stJ := fun q2 => []) h (fun q2 σ3 h => ?_) (fun k1 hk1 h => ?_)
  · refine j_aload_n X 0 dX12_must_9 rfl rfl ?_
    refine j_getI X fg_RX12_78 ln_89 ly_89 rfl dX12_must_10 ?_
    refine j_if_ne (tgt := 20) X dX12_must_13 (by decide) h (fun h => ?_) (fun h => ?_)
    · obtain rfl := Option.some.inj h
      exact j_vret X R0 dX12_must_20
    · refine j_aload_n X 0 dX12_must_16 rfl rfl ?_
      obtain ⟨σ4, hm5, h⟩ := jbv_some h
      refine j_callV (as := []) (st := []) (st1 := []) X ln_89 ly_89 rfl rfl sv_RX12_109 ⟨by decide, by decide⟩ rfl rfl (Nat.le_of_ble_eq_true rfl) rfl dX12_must_17 jrv_v (c_X12_nextToken  hm5) rfl ?_
      obtain rfl := Option.some.inj h
      exact j_vret X R0 dX12_must_20
  · refine j_if_ne (tgt := 9) X dX12_must_1 (by decide) h (fun h => ?_) (fun h => ?_)
    · exact j_sub (ls' := [some (.ref 89), none]) ⟨Or.inr rfl, Or.inl rfl, trivial⟩ (hk1 () σ h)
    · refine j_aload_n X 0 dX12_must_4 rfl rfl ?_
      refine j_iconst (v := 1) X dX12_must_5 (by decide) ?_
      obtain ⟨σ6, hm7, h⟩ := jbv_some h
      refine j_callV (as := [.int (1 : Int32)]) (st := []) (st1 := []) X ln_89 ly_89 rfl rfl sv_RX12_105 ⟨by decide, by decide⟩ rfl rfl (Nat.le_of_ble_eq_true rfl) rfl dX12_must_6 jrv_v (c_X12_bad  hm7) rfl ?_
      exact j_sub (ls' := [some (.ref 89), none]) ⟨Or.inr rfl, Or.inl rfl, trivial⟩ (hk1 () σ6 h)
def f_X12_isLetter (a0 : Int32) (σ : jMem) : Option (Int32 × jMem) :=
  if ¬ (σ.1 89 16) = 0 then
  some (((0 : Int32), σ))
else
  if ¬ (σ.1 89 14) = (2 : Int32) then
  some (((0 : Int32), σ))
else
  if ¬ (σ.1 89 15) = a0 then
  some (((0 : Int32), σ))
else
  some (((1 : Int32), σ))
set_option maxRecDepth 100000 in
set_option maxHeartbeats 4000000 in
theorem c_X12_isLetter {l : Launch} {D : va_G} {ad : Nat → Nat} {cid : Nat → ClassId} {a0 : Int32}  {σ : jMem} {r : Int32} {σ' : jMem} (h : f_X12_isLetter a0 σ = some (r, σ')) : jMet l D ad cid yX12_isLetter cX12_isLetter 2 (some .boolean) 0 0 [.ref 89, .int a0] σ (some (.int r)) σ' := by
  refine jMet_of (ls0 := [some (.ref 89), some (.int a0)]) (by decide) (Nat.le_of_ble_eq_true rfl) rfl (fun K X R0 _ => ?_)
  unfold f_X12_isLetter at h
  refine j_aload_n X 0 dX12_isLetter_0 rfl rfl ?_
  refine j_getI X fg_RX12_78 ln_89 ly_89 rfl dX12_isLetter_1 ?_
  refine j_if_ne (tgt := 27) X dX12_isLetter_4 (by decide) h (fun h => ?_) (fun h => ?_)
  · refine j_iconst (v := 0) X dX12_isLetter_27 (by decide) ?_
    obtain ⟨rfl, rfl⟩ := jin2 h
    exact j_zret X R0 rfl dX12_isLetter_28
  · refine j_aload_n X 0 dX12_isLetter_7 rfl rfl ?_
    refine j_getI X fg_RX12_102 ln_89 ly_89 rfl dX12_isLetter_8 ?_
    refine j_iconst (v := 2) X dX12_isLetter_11 (by decide) ?_
    refine j_icmp_ne (tgt := 27) X dX12_isLetter_12 (by decide) h (fun h => ?_) (fun h => ?_)
    · refine j_iconst (v := 0) X dX12_isLetter_27 (by decide) ?_
      obtain ⟨rfl, rfl⟩ := jin2 h
      exact j_zret X R0 rfl dX12_isLetter_28
    · refine j_aload_n X 0 dX12_isLetter_15 rfl rfl ?_
      refine j_getI X fg_RX12_91 ln_89 ly_89 rfl dX12_isLetter_16 ?_
      refine j_iload_n X 1 dX12_isLetter_19 rfl rfl ?_
      refine j_icmp_ne (tgt := 27) X dX12_isLetter_20 (by decide) h (fun h => ?_) (fun h => ?_)
      · refine j_iconst (v := 0) X dX12_isLetter_27 (by decide) ?_
        obtain ⟨rfl, rfl⟩ := jin2 h
        exact j_zret X R0 rfl dX12_isLetter_28
      · refine j_iconst (v := 1) X dX12_isLetter_23 (by decide) ?_
        refine j_goto (tgt := 28) X dX12_isLetter_24 (by decide) ?_
        obtain ⟨rfl, rfl⟩ := jin2 h
        exact j_zret X R0 rfl dX12_isLetter_28
theorem sv_RX12_112 : jSiV RX12 112 yX12_must cX12_must 2 none 1 := ⟨tw_997, tw_999, ts_25, tw_13, tw_1000, by decide, by decide, by decide +kernel⟩
def f_X12_number (a0 : Int32) (a1 : Int32) (σ : jMem) : Option (Int32 × jMem) :=
  jj (fun (q2 : Unit) σ3 =>
  jj (fun (q5 : Unit) σ6 =>
  jj (fun (q8 : Int32) σ9 =>
  jbv (f_X12_must (1 : Int32) σ9) (fun σ10 =>
  some ((q8, σ10)))) (fun k7 =>
  if ¬ (σ6.1 89 16) = 0 then
  k7 a0 σ6
else
  k7 (σ6.1 89 15) σ6)) (fun k4 =>
  if ¬ (σ3.1 89 16) = 0 then
  k4 () σ3
else
  jbd (f_X12_in (((σ3.1 89 15)).toInt64) ((a0).toInt64) ((a1).toInt64) σ3) (fun v12 σ13 =>
  if ¬ v12 = 0 then
  k4 () σ13
else
  jbv (f_X12_bad (2 : Int32) σ13) (fun σ15 =>
  k4 () σ15)))) (fun k1 =>
  if ¬ (σ.1 89 16) = 0 then
  k1 () σ
else
  if (σ.1 89 14) = (3 : Int32) then
  k1 () σ
else
  jbv (f_X12_bad (1 : Int32) σ) (fun σ17 =>
  k1 () σ17))
set_option maxRecDepth 100000 in
set_option maxHeartbeats 4000000 in
theorem c_X12_number {l : Launch} {D : va_G} {ad : Nat → Nat} {cid : Nat → ClassId} {a0 : Int32} {a1 : Int32}  {σ : jMem} {r : Int32} {σ' : jMem} (h : f_X12_number a0 a1 σ = some (r, σ')) : jMet l D ad cid yX12_number cX12_number 4 (some .int) 3 66 [.ref 89, .int a0, .int a1] σ (some (.int r)) σ' := by
  refine jMet_of (ls0 := [some (.ref 89), some (.int a0), some (.int a1), none]) (by decide) (Nat.le_of_ble_eq_true rfl) rfl (fun K X R0 _ => ?_)
  unfold f_X12_number at h
  refine j_aload_n X 0 dX12_number_0 rfl rfl ?_
  refine j_getI X fg_RX12_78 ln_89 ly_89 rfl dX12_number_1 ?_
  refine j_join (pcJ := 20) (lsJ := fun q2 => [some (.ref 89), some (.int a0), some (.int a1), none]) (stJ := fun q2 => []) h (fun q2 σ3 h => ?_) (fun k1 hk1 h => ?_)
  · refine j_aload_n X 0 dX12_number_20 rfl rfl ?_
    refine j_getI X fg_RX12_78 ln_89 ly_89 rfl dX12_number_21 ?_
    refine j_join (pcJ := 47) (lsJ := fun q5 => [some (.ref 89), some (.int a0), none, none]) (stJ := fun q5 => []) h (fun q5 σ6 h => ?_) (fun k4 hk4 h => ?_)
    · refine j_aload_n X 0 dX12_number_47 rfl rfl ?_
      refine j_getI X fg_RX12_78 ln_89 ly_89 rfl dX12_number_48 ?_
      refine j_join (pcJ := 62) (lsJ := fun q8 => [some (.ref 89), none, none, none]) (stJ := fun q8 => [.int q8]) h (fun q8 σ9 h => ?_) (fun k7 hk7 h => ?_)
      · refine j_istore_n (ls' := [some (.ref 89), none, none, some (.int q8)]) X 3 dX12_number_62 rfl (Nat.le_of_ble_eq_true rfl) rfl ?_
        refine j_aload_n X 0 dX12_number_63 rfl rfl ?_
        refine j_iconst (v := 1) X dX12_number_64 (by decide) ?_
        obtain ⟨σ10, hm11, h⟩ := jbv_some h
        refine j_callV (as := [.int (1 : Int32)]) (st := []) (st1 := []) X ln_89 ly_89 rfl rfl sv_RX12_112 ⟨by decide, by decide⟩ rfl rfl (Nat.le_of_ble_eq_true rfl) rfl dX12_number_65 jrv_v (c_X12_must  hm11) rfl ?_
        refine j_iload_n X 3 dX12_number_68 rfl rfl ?_
        obtain ⟨rfl, rfl⟩ := jin2 h
        exact j_iret X R0 dX12_number_69
      · refine j_if_ne (tgt := 61) X dX12_number_51 (by decide) h (fun h => ?_) (fun h => ?_)
        · refine j_iload_n X 1 dX12_number_61 rfl rfl ?_
          exact j_sub (ls' := [some (.ref 89), none, none, none]) ⟨Or.inr rfl, Or.inl rfl, Or.inl rfl, Or.inl rfl, trivial⟩ (hk7 a0 σ6 h)
        · refine j_aload_n X 0 dX12_number_54 rfl rfl ?_
          refine j_getI X fg_RX12_91 ln_89 ly_89 rfl dX12_number_55 ?_
          refine j_goto (tgt := 62) X dX12_number_58 (by decide) ?_
          exact j_sub (ls' := [some (.ref 89), none, none, none]) ⟨Or.inr rfl, Or.inl rfl, Or.inl rfl, Or.inl rfl, trivial⟩ (hk7 (σ6.1 89 15) σ6 h)
    · refine j_if_ne (tgt := 47) X dX12_number_24 (by decide) h (fun h => ?_) (fun h => ?_)
      · exact j_sub (ls' := [some (.ref 89), some (.int a0), none, none]) ⟨Or.inr rfl, Or.inr rfl, Or.inl rfl, Or.inl rfl, trivial⟩ (hk4 () σ3 h)
      · refine j_aload_n X 0 dX12_number_27 rfl rfl ?_
        refine j_getI X fg_RX12_91 ln_89 ly_89 rfl dX12_number_28 ?_
        refine j_i2l X dX12_number_31 ?_
        refine j_iload_n X 1 dX12_number_32 rfl rfl ?_
        refine j_i2l X dX12_number_33 ?_
        refine j_iload_n X 2 dX12_number_34 rfl rfl ?_
        refine j_i2l X dX12_number_35 ?_
        obtain ⟨v12, σ13, hm14, h⟩ := jbd_some h
        refine j_callS (as := [.long (((σ3.1 89 15)).toInt64), .long ((a0).toInt64), .long ((a1).toInt64)]) (st := []) (st1 := [.int v12]) X ss_RX12_57 ⟨by decide, by decide⟩ rfl rfl (Nat.le_of_ble_eq_true rfl) rfl dX12_number_36 jrv_i (c_X12_in  hm14) rfl ?_
        refine j_if_ne (tgt := 47) X dX12_number_39 (by decide) h (fun h => ?_) (fun h => ?_)
        · exact j_sub (ls' := [some (.ref 89), some (.int a0), none, none]) ⟨Or.inr rfl, Or.inr rfl, Or.inl rfl, Or.inl rfl, trivial⟩ (hk4 () σ13 h)
        · refine j_aload_n X 0 dX12_number_42 rfl rfl ?_
          refine j_iconst (v := 2) X dX12_number_43 (by decide) ?_
          obtain ⟨σ15, hm16, h⟩ := jbv_some h
          refine j_callV (as := [.int (2 : Int32)]) (st := []) (st1 := []) X ln_89 ly_89 rfl rfl sv_RX12_105 ⟨by decide, by decide⟩ rfl rfl (Nat.le_of_ble_eq_true rfl) rfl dX12_number_44 jrv_v (c_X12_bad  hm16) rfl ?_
          exact j_sub (ls' := [some (.ref 89), some (.int a0), none, none]) ⟨Or.inr rfl, Or.inr rfl, Or.inl rfl, Or.inl rfl, trivial⟩ (hk4 () σ15 h)
  · refine j_if_ne (tgt := 20) X dX12_number_4 (by decide) h (fun h => ?_) (fun h => ?_)
    · exact hk1 () σ h
    · refine j_aload_n X 0 dX12_number_7 rfl rfl ?_
      refine j_getI X fg_RX12_102 ln_89 ly_89 rfl dX12_number_8 ?_
      refine j_iconst (v := 3) X dX12_number_11 (by decide) ?_
      refine j_icmp_eq (tgt := 20) X dX12_number_12 (by decide) h (fun h => ?_) (fun h => ?_)
      · exact hk1 () σ h
      · refine j_aload_n X 0 dX12_number_15 rfl rfl ?_
        refine j_iconst (v := 1) X dX12_number_16 (by decide) ?_
        obtain ⟨σ17, hm18, h⟩ := jbv_some h
        refine j_callV (as := [.int (1 : Int32)]) (st := []) (st1 := []) X ln_89 ly_89 rfl rfl sv_RX12_105 ⟨by decide, by decide⟩ rfl rfl (Nat.le_of_ble_eq_true rfl) rfl dX12_number_17 jrv_v (c_X12_bad  hm18) rfl ?_
        exact hk1 () σ17 h
def f_X12_mustSign (a0 : Int32) (σ : jMem) : Option jMem :=
  jj (fun (q2 : Int32) σ3 =>
  jbv (f_X12_must q2 σ3) (fun σ4 =>
  some σ4)) (fun k1 =>
  jj (fun (q7 : Unit) σ8 =>
  k1 (0 : Int32) σ8) (fun k6 =>
  if ¬ (σ.1 89 14) = (4 : Int32) then
  k6 () σ
else
  if ¬ (σ.1 89 15) = a0 then
  k6 () σ
else
  k1 (1 : Int32) σ))
set_option maxRecDepth 100000 in
set_option maxHeartbeats 4000000 in
theorem c_X12_mustSign {l : Launch} {D : va_G} {ad : Nat → Nat} {cid : Nat → ClassId} {a0 : Int32}  {σ : jMem} {σ' : jMem} (h : f_X12_mustSign a0 σ = some σ') : jMet l D ad cid yX12_mustSign cX12_mustSign 2 none 3 66 [.ref 89, .int a0] σ none σ' := by
  refine jMet_of (ls0 := [some (.ref 89), some (.int a0)]) (by decide) (Nat.le_of_ble_eq_true rfl) rfl (fun K X R0 _ => ?_)
  unfold f_X12_mustSign at h
  refine j_aload_n X 0 dX12_mustSign_0 rfl rfl ?_
  refine j_aload_n X 0 dX12_mustSign_1 rfl rfl ?_
  refine j_getI X fg_RX12_102 ln_89 ly_89 rfl dX12_mustSign_2 ?_
  refine j_iconst (v := 4) X dX12_mustSign_5 (by decide) ?_
  refine j_join (pcJ := 22) (lsJ := fun q2 => [none, none]) (stJ := fun q2 => [.int q2, .ref 89]) h (fun q2 σ3 h => ?_) (fun k1 hk1 h => ?_)
  · obtain ⟨σ4, hm5, h⟩ := jbv_some h
    refine j_callV (as := [.int q2]) (st := []) (st1 := []) X ln_89 ly_89 rfl rfl sv_RX12_112 ⟨by decide, by decide⟩ rfl rfl (Nat.le_of_ble_eq_true rfl) rfl dX12_mustSign_22 jrv_v (c_X12_must  hm5) rfl ?_
    obtain rfl := Option.some.inj h
    exact j_vret X R0 dX12_mustSign_25
  · refine j_join (pcJ := 21) (lsJ := fun q7 => [none, none]) (stJ := fun q7 => [.ref 89]) h (fun q7 σ8 h => ?_) (fun k6 hk6 h => ?_)
    · refine j_iconst (v := 0) X dX12_mustSign_21 (by decide) ?_
      exact hk1 (0 : Int32) σ8 h
    · refine j_icmp_ne (tgt := 21) X dX12_mustSign_6 (by decide) h (fun h => ?_) (fun h => ?_)
      · exact j_sub (ls' := [none, none]) ⟨Or.inl rfl, Or.inl rfl, trivial⟩ (hk6 () σ h)
      · refine j_aload_n X 0 dX12_mustSign_9 rfl rfl ?_
        refine j_getI X fg_RX12_91 ln_89 ly_89 rfl dX12_mustSign_10 ?_
        refine j_iload_n X 1 dX12_mustSign_13 rfl rfl ?_
        refine j_icmp_ne (tgt := 21) X dX12_mustSign_14 (by decide) h (fun h => ?_) (fun h => ?_)
        · exact j_sub (ls' := [none, none]) ⟨Or.inl rfl, Or.inl rfl, trivial⟩ (hk6 () σ h)
        · refine j_iconst (v := 1) X dX12_mustSign_17 (by decide) ?_
          refine j_goto (tgt := 22) X dX12_mustSign_18 (by decide) ?_
          exact j_sub (ls' := [none, none]) ⟨Or.inl rfl, Or.inl rfl, trivial⟩ (hk1 (1 : Int32) σ h)
