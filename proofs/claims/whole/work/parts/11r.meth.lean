def f_X12_kind (a0 : Int32) (σ : jMem) : Option (Int32 × jMem) :=
  jlet (jset σ 89 0 (0 : Int32)) (fun σ1 =>
  jbd (f_X12_isWitness a0 σ1) (fun v2 σ3 =>
  if v2 = 0 then
  some (((-1000001 : Int32), σ3))
else
  jbd (f_X12_of 93 a0 (0 : Int32) σ3) (fun v5 σ6 =>
  some ((v5, σ6)))))
set_option maxRecDepth 100000 in
set_option maxHeartbeats 4000000 in
theorem c_X12_kind {l : Launch} {D : va_G} {ad : Nat → Nat} {cid : Nat → ClassId} {a0 : Int32}  {σ : jMem} {r : Int32} {σ' : jMem} (h : f_X12_kind a0 σ = some (r, σ')) : jMet l D ad cid yX12_kind cX12_kind 2 (some .int) 2 46 [.ref 89, .int a0] σ (some (.int r)) σ' := by
  refine jMet_of (ls0 := [some (.ref 89), some (.int a0)]) (by decide) (Nat.le_of_ble_eq_true rfl) rfl (fun K X R0 _ => ?_)
  unfold f_X12_kind at h
  refine j_aload_n X 0 dX12_kind_0 rfl rfl ?_
  refine j_iconst (v := 0) X dX12_kind_1 (by decide) ?_
  refine j_put X fp_RX12_47 ln_89 ly_89 rfl rfl rfl dX12_kind_2 h (fun σ1 h => ?_)
  refine j_aload_n X 0 dX12_kind_5 rfl rfl ?_
  refine j_iload_n X 1 dX12_kind_6 rfl rfl ?_
  obtain ⟨v2, σ3, hm4, h⟩ := jbd_some h
  refine j_callV (as := [.int a0]) (st := []) (st1 := [.int v2]) X ln_89 ly_89 rfl rfl sv_RX12_236 ⟨by decide, by decide⟩ rfl rfl (Nat.le_of_ble_eq_true rfl) rfl dX12_kind_7 jrv_i (c_X12_isWitness  hm4) rfl ?_
  refine j_if_eq (tgt := 25) X dX12_kind_10 (by decide) h (fun h => ?_) (fun h => ?_)
  · refine j_ldc (v := -1000001) X tw_948 dX12_kind_25 ?_
    obtain ⟨rfl, rfl⟩ := jin2 h
    exact j_iret X R0 dX12_kind_27
  · refine j_aload_n X 0 dX12_kind_13 rfl rfl ?_
    refine j_getR (t := 93) X fg_RX12_19 ln_89 ly_89 rfl dX12_kind_14 ?_
    refine j_iload_n X 1 dX12_kind_17 rfl rfl ?_
    refine j_iconst (v := 0) X dX12_kind_18 (by decide) ?_
    obtain ⟨v5, σ6, hm7, h⟩ := jbd_some h
    refine j_callS (as := [.ref 93, .int a0, .int (0 : Int32)]) (st := []) (st1 := [.int v5]) X ss_RX12_183 ⟨by decide, by decide⟩ rfl rfl (Nat.le_of_ble_eq_true rfl) rfl dX12_kind_19 jrv_i (c_X12_of ⟨ln_93, ly_93⟩ hm7) rfl ?_
    refine j_goto (tgt := 27) X dX12_kind_22 (by decide) ?_
    obtain ⟨rfl, rfl⟩ := jin2 h
    exact j_iret X R0 dX12_kind_27
theorem ss_RX12_274 : jSiS RX12 274 yX12_isOf cX12_isOf 2 (some .boolean) 2 := ⟨tw_1243, tw_1244, tw_13, tw_1245, by decide, by decide, by decide +kernel⟩
def f_X12_as (a0 : Int32) (a1 : Int32) (σ : jMem) : Option (Int32 × jMem) :=
  jlet (jset σ 89 0 (0 : Int32)) (fun σ1 =>
  jbd (f_X12_isWitness a0 σ1) (fun v2 σ3 =>
  if v2 = 0 then
  some (((-1000001 : Int32), σ3))
else
  jbd (f_X12_in ((a1).toInt64) (0 : Int64) (5 : Int64) σ3) (fun v5 σ6 =>
  if ¬ v5 = 0 then
  jlet (jset σ6 89 1 (0 : Int32)) (fun σ8 =>
  jbd (f_X12_of 93 a0 (0 : Int32) σ8) (fun v9 σ10 =>
  jbd (f_X12_isOf v9 a1 σ10) (fun v12 σ13 =>
  if v12 = 0 then
  jbd (f_X12_finding (3 : Int32) σ13) (fun v15 σ16 =>
  some ((v15, σ16)))
else
  some ((a0, σ13)))))
else
  some (((-1000001 : Int32), σ6)))))
set_option maxRecDepth 100000 in
set_option maxHeartbeats 4000000 in
theorem c_X12_as {l : Launch} {D : va_G} {ad : Nat → Nat} {cid : Nat → ClassId} {a0 : Int32} {a1 : Int32}  {σ : jMem} {r : Int32} {σ' : jMem} (h : f_X12_as a0 a1 σ = some (r, σ')) : jMet l D ad cid yX12_as cX12_as 3 (some .int) 2 46 [.ref 89, .int a0, .int a1] σ (some (.int r)) σ' := by
  refine jMet_of (ls0 := [some (.ref 89), some (.int a0), some (.int a1)]) (by decide) (Nat.le_of_ble_eq_true rfl) rfl (fun K X R0 _ => ?_)
  unfold f_X12_as at h
  refine j_aload_n X 0 dX12_as_0 rfl rfl ?_
  refine j_iconst (v := 0) X dX12_as_1 (by decide) ?_
  refine j_put X fp_RX12_47 ln_89 ly_89 rfl rfl rfl dX12_as_2 h (fun σ1 h => ?_)
  refine j_aload_n X 0 dX12_as_5 rfl rfl ?_
  refine j_iload_n X 1 dX12_as_6 rfl rfl ?_
  obtain ⟨v2, σ3, hm4, h⟩ := jbd_some h
  refine j_callV (as := [.int a0]) (st := []) (st1 := [.int v2]) X ln_89 ly_89 rfl rfl sv_RX12_236 ⟨by decide, by decide⟩ rfl rfl (Nat.le_of_ble_eq_true rfl) rfl dX12_as_7 jrv_i (c_X12_isWitness  hm4) rfl ?_
  refine j_if_eq (tgt := 25) X dX12_as_10 (by decide) h (fun h => ?_) (fun h => ?_)
  · refine j_ldc (v := -1000001) X tw_948 dX12_as_25 ?_
    obtain ⟨rfl, rfl⟩ := jin2 h
    exact j_iret X R0 dX12_as_27
  · refine j_iload_n X 2 dX12_as_13 rfl rfl ?_
    refine j_i2l X dX12_as_14 ?_
    refine j_lconst (v := 0) X dX12_as_15 (by decide) ?_
    refine j_ldc2_w (v := 5) X tw_1242 dX12_as_16 ?_
    obtain ⟨v5, σ6, hm7, h⟩ := jbd_some h
    refine j_callS (as := [.long ((a1).toInt64), .long (0 : Int64), .long (5 : Int64)]) (st := []) (st1 := [.int v5]) X ss_RX12_57 ⟨by decide, by decide⟩ rfl rfl (Nat.le_of_ble_eq_true rfl) rfl dX12_as_19 jrv_i (c_X12_in  hm7) rfl ?_
    refine j_if_ne (tgt := 28) X dX12_as_22 (by decide) h (fun h => ?_) (fun h => ?_)
    · refine j_aload_n X 0 dX12_as_28 rfl rfl ?_
      refine j_iconst (v := 0) X dX12_as_29 (by decide) ?_
      refine j_put X fp_RX12_51 ln_89 ly_89 rfl rfl rfl dX12_as_30 h (fun σ8 h => ?_)
      refine j_aload_n X 0 dX12_as_33 rfl rfl ?_
      refine j_getR (t := 93) X fg_RX12_19 ln_89 ly_89 rfl dX12_as_34 ?_
      refine j_iload_n X 1 dX12_as_37 rfl rfl ?_
      refine j_iconst (v := 0) X dX12_as_38 (by decide) ?_
      obtain ⟨v9, σ10, hm11, h⟩ := jbd_some h
      refine j_callS (as := [.ref 93, .int a0, .int (0 : Int32)]) (st := []) (st1 := [.int v9]) X ss_RX12_183 ⟨by decide, by decide⟩ rfl rfl (Nat.le_of_ble_eq_true rfl) rfl dX12_as_39 jrv_i (c_X12_of ⟨ln_93, ly_93⟩ hm11) rfl ?_
      refine j_iload_n X 2 dX12_as_42 rfl rfl ?_
      obtain ⟨v12, σ13, hm14, h⟩ := jbd_some h
      refine j_callS (as := [.int v9, .int a1]) (st := []) (st1 := [.int v12]) X ss_RX12_274 ⟨by decide, by decide⟩ rfl rfl (Nat.le_of_ble_eq_true rfl) rfl dX12_as_43 jrv_i (c_X12_isOf  hm14) rfl ?_
      refine j_if_eq (tgt := 53) X dX12_as_46 (by decide) h (fun h => ?_) (fun h => ?_)
      · refine j_aload_n X 0 dX12_as_53 rfl rfl ?_
        refine j_iconst (v := 3) X dX12_as_54 (by decide) ?_
        obtain ⟨v15, σ16, hm17, h⟩ := jbd_some h
        refine j_callV (as := [.int (3 : Int32)]) (st := []) (st1 := [.int v15]) X ln_89 ly_89 rfl rfl sv_RX12_68 ⟨by decide, by decide⟩ rfl rfl (Nat.le_of_ble_eq_true rfl) rfl dX12_as_55 jrv_i (c_X12_finding  hm17) rfl ?_
        obtain ⟨rfl, rfl⟩ := jin2 h
        exact j_iret X R0 dX12_as_58
      · refine j_iload_n X 1 dX12_as_49 rfl rfl ?_
        refine j_goto (tgt := 58) X dX12_as_50 (by decide) ?_
        obtain ⟨rfl, rfl⟩ := jin2 h
        exact j_iret X R0 dX12_as_58
    · refine j_ldc (v := -1000001) X tw_948 dX12_as_25 ?_
      obtain ⟨rfl, rfl⟩ := jin2 h
      exact j_iret X R0 dX12_as_27
def f_X12_began (a0 : Int32) (σ : jMem) : Option jMem :=
  if (16 : Int32) ≤ (σ.1 89 26) then
  some σ
else
  jst σ 101 16 (σ.1 89 26) a0 (fun σ1 =>
  jlet (jset σ1 89 26 ((σ1.1 89 26) + (1 : Int32))) (fun σ2 =>
  some σ2))
set_option maxRecDepth 100000 in
set_option maxHeartbeats 4000000 in
theorem c_X12_began {l : Launch} {D : va_G} {ad : Nat → Nat} {cid : Nat → ClassId} {a0 : Int32}  {σ : jMem} {σ' : jMem} (h : f_X12_began a0 σ = some σ') : jMet l D ad cid yX12_began cX12_began 2 none 0 0 [.ref 89, .int a0] σ none σ' := by
  refine jMet_of (ls0 := [some (.ref 89), some (.int a0)]) (by decide) (Nat.le_of_ble_eq_true rfl) rfl (fun K X R0 _ => ?_)
  unfold f_X12_began at h
  refine j_aload_n X 0 dX12_began_0 rfl rfl ?_
  refine j_getI X fg_RX12_277 ln_89 ly_89 rfl dX12_began_1 ?_
  refine j_bipush (v := 16) X dX12_began_4 (by decide) ?_
  refine j_icmp_ge (tgt := 29) X dX12_began_6 (by decide) h (fun h => ?_) (fun h => ?_)
  · obtain rfl := Option.some.inj h
    exact j_vret X R0 dX12_began_29
  · refine j_aload_n X 0 dX12_began_9 rfl rfl ?_
    refine j_getR (t := 101) X fg_RX12_44 ln_89 ly_89 rfl dX12_began_10 ?_
    refine j_aload_n X 0 dX12_began_13 rfl rfl ?_
    refine j_getI X fg_RX12_277 ln_89 ly_89 rfl dX12_began_14 ?_
    refine j_iload_n X 1 dX12_began_17 rfl rfl ?_
    refine j_iastore X ln_101 ly_101 dX12_began_18 h (fun σ1 h => ?_)
    refine j_aload_n X 0 dX12_began_19 rfl rfl ?_
    refine j_dup X dX12_began_20 rfl ?_
    refine j_getI X fg_RX12_277 ln_89 ly_89 rfl dX12_began_21 ?_
    refine j_iconst (v := 1) X dX12_began_24 (by decide) ?_
    refine j_iadd X dX12_began_25 ?_
    refine j_put X fp_RX12_277 ln_89 ly_89 rfl rfl rfl dX12_began_26 h (fun σ2 h => ?_)
    obtain rfl := Option.some.inj h
    exact j_vret X R0 dX12_began_29
theorem sv_RX12_280 : jSiV RX12 280 yX12_began cX12_began 2 none 1 := ⟨tw_1258, tw_1260, ts_51, tw_13, tw_1261, by decide, by decide, by decide +kernel⟩
def f_X12_plainSize (a0 : Int32) (σ : jMem) : Option (Int32 × jMem) :=
  jbv (f_X12_began (10 : Int32) σ) (fun σ1 =>
  jbd (f_X12_swears 93 a0 σ1) (fun v3 σ4 =>
  jbd (f_X12_bits v3 σ4) (fun v6 σ7 =>
  some ((v6, σ7)))))
set_option maxRecDepth 100000 in
set_option maxHeartbeats 4000000 in
theorem c_X12_plainSize {l : Launch} {D : va_G} {ad : Nat → Nat} {cid : Nat → ClassId} {a0 : Int32}  {σ : jMem} {r : Int32} {σ' : jMem} (h : f_X12_plainSize a0 σ = some (r, σ')) : jMet l D ad cid yX12_plainSize cX12_plainSize 2 (some .int) 3 64 [.ref 89, .int a0] σ (some (.int r)) σ' := by
  refine jMet_of (ls0 := [some (.ref 89), some (.int a0)]) (by decide) (Nat.le_of_ble_eq_true rfl) rfl (fun K X R0 _ => ?_)
  unfold f_X12_plainSize at h
  refine j_aload_n X 0 dX12_plainSize_0 rfl rfl ?_
  refine j_bipush (v := 10) X dX12_plainSize_1 (by decide) ?_
  obtain ⟨σ1, hm2, h⟩ := jbv_some h
  refine j_callV (as := [.int (10 : Int32)]) (st := []) (st1 := []) X ln_89 ly_89 rfl rfl sv_RX12_280 ⟨by decide, by decide⟩ rfl rfl (Nat.le_of_ble_eq_true rfl) rfl dX12_plainSize_3 jrv_v (c_X12_began  hm2) rfl ?_
  refine j_aload_n X 0 dX12_plainSize_6 rfl rfl ?_
  refine j_getR (t := 93) X fg_RX12_19 ln_89 ly_89 rfl dX12_plainSize_7 ?_
  refine j_iload_n X 1 dX12_plainSize_10 rfl rfl ?_
  obtain ⟨v3, σ4, hm5, h⟩ := jbd_some h
  refine j_callS (as := [.ref 93, .int a0]) (st := []) (st1 := [.int v3]) X ss_RX12_195 ⟨by decide, by decide⟩ rfl rfl (Nat.le_of_ble_eq_true rfl) rfl dX12_plainSize_11 jrv_i (c_X12_swears ⟨ln_93, ly_93⟩ hm5) rfl ?_
  obtain ⟨v6, σ7, hm8, h⟩ := jbd_some h
  refine j_callS (as := [.int v3]) (st := []) (st1 := [.int v6]) X ss_RX12_246 ⟨by decide, by decide⟩ rfl rfl (Nat.le_of_ble_eq_true rfl) rfl dX12_plainSize_14 jrv_i (c_X12_bits  hm8) rfl ?_
  obtain ⟨rfl, rfl⟩ := jin2 h
  exact j_iret X R0 dX12_plainSize_17
theorem sv_RX12_283 : jSiV RX12 283 yX12_plainSize cX12_plainSize 2 (some .int) 1 := ⟨tw_1262, tw_1264, ts_52, tw_13, tw_1265, by decide, by decide, by decide +kernel⟩
def f_X12_strangerSize (a0 : Int32) (σ : jMem) : Option (Int32 × jMem) :=
  jbd (f_X12_of 93 a0 (0 : Int32) σ) (fun v1 σ2 =>
  jj (fun (q5 : Int32) σ6 =>
  jj (fun (q8 : Unit) σ9 =>
  jbv (f_X12_began (13 : Int32) σ9) (fun σ10 =>
  jbd (f_X12_plainSize a0 σ10) (fun v12 σ13 =>
  jlet ((v12 - (100 : Int32))) (fun v15 =>
  if q5 = 0 then
  some ((v15, σ13))
else
  some ((((2 : Int32) * v15), σ13)))))) (fun k7 =>
  if q5 = 0 then
  k7 () σ6
else
  jbv (f_X12_began (14 : Int32) σ6) (fun σ16 =>
  k7 () σ16))) (fun k4 =>
  if ¬ v1 = (5 : Int32) then
  k4 (0 : Int32) σ2
else
  k4 (1 : Int32) σ2))
set_option maxRecDepth 100000 in
set_option maxHeartbeats 4000000 in
theorem c_X12_strangerSize {l : Launch} {D : va_G} {ad : Nat → Nat} {cid : Nat → ClassId} {a0 : Int32}  {σ : jMem} {r : Int32} {σ' : jMem} (h : f_X12_strangerSize a0 σ = some (r, σ')) : jMet l D ad cid yX12_strangerSize cX12_strangerSize 4 (some .int) 4 85 [.ref 89, .int a0] σ (some (.int r)) σ' := by
  refine jMet_of (ls0 := [some (.ref 89), some (.int a0), none, none]) (by decide) (Nat.le_of_ble_eq_true rfl) rfl (fun K X R0 _ => ?_)
  unfold f_X12_strangerSize at h
  refine j_aload_n X 0 dX12_strangerSize_0 rfl rfl ?_
  refine j_getR (t := 93) X fg_RX12_19 ln_89 ly_89 rfl dX12_strangerSize_1 ?_
  refine j_iload_n X 1 dX12_strangerSize_4 rfl rfl ?_
  refine j_iconst (v := 0) X dX12_strangerSize_5 (by decide) ?_
  obtain ⟨v1, σ2, hm3, h⟩ := jbd_some h
  refine j_callS (as := [.ref 93, .int a0, .int (0 : Int32)]) (st := []) (st1 := [.int v1]) X ss_RX12_183 ⟨by decide, by decide⟩ rfl rfl (Nat.le_of_ble_eq_true rfl) rfl dX12_strangerSize_6 jrv_i (c_X12_of ⟨ln_93, ly_93⟩ hm3) rfl ?_
  refine j_iconst (v := 5) X dX12_strangerSize_9 (by decide) ?_
  refine j_join (pcJ := 18) (lsJ := fun q5 => [some (.ref 89), some (.int a0), none, none]) (stJ := fun q5 => [.int q5]) h (fun q5 σ6 h => ?_) (fun k4 hk4 h => ?_)
  · refine j_istore_n (ls' := [some (.ref 89), some (.int a0), some (.int q5), none]) X 2 dX12_strangerSize_18 rfl (Nat.le_of_ble_eq_true rfl) rfl ?_
    refine j_iload_n X 2 dX12_strangerSize_19 rfl rfl ?_
    refine j_join (pcJ := 29) (lsJ := fun q8 => [some (.ref 89), some (.int a0), some (.int q5), none]) (stJ := fun q8 => []) h (fun q8 σ9 h => ?_) (fun k7 hk7 h => ?_)
    · refine j_aload_n X 0 dX12_strangerSize_29 rfl rfl ?_
      refine j_bipush (v := 13) X dX12_strangerSize_30 (by decide) ?_
      obtain ⟨σ10, hm11, h⟩ := jbv_some h
      refine j_callV (as := [.int (13 : Int32)]) (st := []) (st1 := []) X ln_89 ly_89 rfl rfl sv_RX12_280 ⟨by decide, by decide⟩ rfl rfl (Nat.le_of_ble_eq_true rfl) rfl dX12_strangerSize_32 jrv_v (c_X12_began  hm11) rfl ?_
      refine j_aload_n X 0 dX12_strangerSize_35 rfl rfl ?_
      refine j_iload_n X 1 dX12_strangerSize_36 rfl rfl ?_
      obtain ⟨v12, σ13, hm14, h⟩ := jbd_some h
      refine j_callV (as := [.int a0]) (st := []) (st1 := [.int v12]) X ln_89 ly_89 rfl rfl sv_RX12_283 ⟨by decide, by decide⟩ rfl rfl (Nat.le_of_ble_eq_true rfl) rfl dX12_strangerSize_37 jrv_i (c_X12_plainSize  hm14) rfl ?_
      refine j_bipush (v := 100) X dX12_strangerSize_40 (by decide) ?_
      refine j_isub X dX12_strangerSize_42 ?_
      refine j_letI h (fun v15 h => ?_)
      refine j_istore_n (ls' := [some (.ref 89), some (.int a0), some (.int q5), some (.int v15)]) X 3 dX12_strangerSize_43 rfl (Nat.le_of_ble_eq_true rfl) rfl ?_
      refine j_iload_n X 2 dX12_strangerSize_44 rfl rfl ?_
      refine j_if_eq (tgt := 54) X dX12_strangerSize_45 (by decide) h (fun h => ?_) (fun h => ?_)
      · refine j_iload_n X 3 dX12_strangerSize_54 rfl rfl ?_
        obtain ⟨rfl, rfl⟩ := jin2 h
        exact j_iret X R0 dX12_strangerSize_55
      · refine j_iconst (v := 2) X dX12_strangerSize_48 (by decide) ?_
        refine j_iload_n X 3 dX12_strangerSize_49 rfl rfl ?_
        refine j_imul X dX12_strangerSize_50 ?_
        refine j_goto (tgt := 55) X dX12_strangerSize_51 (by decide) ?_
        obtain ⟨rfl, rfl⟩ := jin2 h
        exact j_iret X R0 dX12_strangerSize_55
    · refine j_if_eq (tgt := 29) X dX12_strangerSize_20 (by decide) h (fun h => ?_) (fun h => ?_)
      · exact hk7 () σ6 h
      · refine j_aload_n X 0 dX12_strangerSize_23 rfl rfl ?_
        refine j_bipush (v := 14) X dX12_strangerSize_24 (by decide) ?_
        obtain ⟨σ16, hm17, h⟩ := jbv_some h
        refine j_callV (as := [.int (14 : Int32)]) (st := []) (st1 := []) X ln_89 ly_89 rfl rfl sv_RX12_280 ⟨by decide, by decide⟩ rfl rfl (Nat.le_of_ble_eq_true rfl) rfl dX12_strangerSize_26 jrv_v (c_X12_began  hm17) rfl ?_
        exact hk7 () σ16 h
  · refine j_icmp_ne (tgt := 17) X dX12_strangerSize_10 (by decide) h (fun h => ?_) (fun h => ?_)
    · refine j_iconst (v := 0) X dX12_strangerSize_17 (by decide) ?_
      exact hk4 (0 : Int32) σ2 h
    · refine j_iconst (v := 1) X dX12_strangerSize_13 (by decide) ?_
      refine j_goto (tgt := 18) X dX12_strangerSize_14 (by decide) ?_
      exact hk4 (1 : Int32) σ2 h
theorem sv_RX12_286 : jSiV RX12 286 yX12_strangerSize cX12_strangerSize 4 (some .int) 1 := ⟨tw_1254, tw_1256, ts_50, tw_13, tw_1257, by decide, by decide, by decide +kernel⟩
def f_X12_markOf (a0 : Int32) (σ : jMem) : Option (Int32 × jMem) :=
  jbd (f_X12_of 93 a0 (0 : Int32) σ) (fun v1 σ2 =>
  if v1 < (4 : Int32) then
  jj (fun (q5 : Unit) σ6 =>
  jbv (f_X12_began (21 : Int32) σ6) (fun σ7 =>
  jbv (f_X12_began (20 : Int32) σ7) (fun σ9 =>
  jbd (f_X12_of 93 a0 (1 : Int32) σ9) (fun v11 σ12 =>
  jlet ((a0 + v11)) (fun v14 =>
  if ¬ v1 = (1 : Int32) then
  if ¬ v1 = (3 : Int32) then
  some ((((2 : Int32) * v14), σ12))
else
  some (((v14 - (1000 : Int32)), σ12))
else
  some ((v14, σ12))))))) (fun k4 =>
  if v1 = (1 : Int32) then
  k4 () σ2
else
  jj (fun (q16 : Int32) σ17 =>
  jbv (f_X12_began q16 σ17) (fun σ18 =>
  k4 () σ18)) (fun k15 =>
  if ¬ v1 = (3 : Int32) then
  k15 (24 : Int32) σ2
else
  k15 (22 : Int32) σ2))
else
  jbv (f_X12_began (23 : Int32) σ2) (fun σ20 =>
  jbv (f_X12_began (20 : Int32) σ20) (fun σ22 =>
  jbd (f_X12_strangerSize a0 σ22) (fun v24 σ25 =>
  some (((a0 - v24), σ25))))))
set_option maxRecDepth 100000 in
set_option maxHeartbeats 4000000 in
theorem c_X12_markOf {l : Launch} {D : va_G} {ad : Nat → Nat} {cid : Nat → ClassId} {a0 : Int32}  {σ : jMem} {r : Int32} {σ' : jMem} (h : f_X12_markOf a0 σ = some (r, σ')) : jMet l D ad cid yX12_markOf cX12_markOf 4 (some .int) 5 108 [.ref 89, .int a0] σ (some (.int r)) σ' := by
  refine jMet_of (ls0 := [some (.ref 89), some (.int a0), none, none]) (by decide) (Nat.le_of_ble_eq_true rfl) rfl (fun K X R0 _ => ?_)
  unfold f_X12_markOf at h
  refine j_aload_n X 0 dX12_markOf_0 rfl rfl ?_
  refine j_getR (t := 93) X fg_RX12_19 ln_89 ly_89 rfl dX12_markOf_1 ?_
  refine j_iload_n X 1 dX12_markOf_4 rfl rfl ?_
  refine j_iconst (v := 0) X dX12_markOf_5 (by decide) ?_
  obtain ⟨v1, σ2, hm3, h⟩ := jbd_some h
  refine j_callS (as := [.ref 93, .int a0, .int (0 : Int32)]) (st := []) (st1 := [.int v1]) X ss_RX12_183 ⟨by decide, by decide⟩ rfl rfl (Nat.le_of_ble_eq_true rfl) rfl dX12_markOf_6 jrv_i (c_X12_of ⟨ln_93, ly_93⟩ hm3) rfl ?_
  refine j_istore_n (ls' := [some (.ref 89), some (.int a0), some (.int v1), none]) X 2 dX12_markOf_9 rfl (Nat.le_of_ble_eq_true rfl) rfl ?_
  refine j_iload_n X 2 dX12_markOf_10 rfl rfl ?_
  refine j_iconst (v := 4) X dX12_markOf_11 (by decide) ?_
  refine j_icmp_lt (tgt := 35) X dX12_markOf_12 (by decide) h (fun h => ?_) (fun h => ?_)
  · refine j_iload_n X 2 dX12_markOf_35 rfl rfl ?_
    refine j_iconst (v := 1) X dX12_markOf_36 (by decide) ?_
    refine j_join (pcJ := 56) (lsJ := fun q5 => [some (.ref 89), some (.int a0), some (.int v1), none]) (stJ := fun q5 => []) h (fun q5 σ6 h => ?_) (fun k4 hk4 h => ?_)
    · refine j_aload_n X 0 dX12_markOf_56 rfl rfl ?_
      refine j_bipush (v := 21) X dX12_markOf_57 (by decide) ?_
      obtain ⟨σ7, hm8, h⟩ := jbv_some h
      refine j_callV (as := [.int (21 : Int32)]) (st := []) (st1 := []) X ln_89 ly_89 rfl rfl sv_RX12_280 ⟨by decide, by decide⟩ rfl rfl (Nat.le_of_ble_eq_true rfl) rfl dX12_markOf_59 jrv_v (c_X12_began  hm8) rfl ?_
      refine j_aload_n X 0 dX12_markOf_62 rfl rfl ?_
      refine j_bipush (v := 20) X dX12_markOf_63 (by decide) ?_
      obtain ⟨σ9, hm10, h⟩ := jbv_some h
      refine j_callV (as := [.int (20 : Int32)]) (st := []) (st1 := []) X ln_89 ly_89 rfl rfl sv_RX12_280 ⟨by decide, by decide⟩ rfl rfl (Nat.le_of_ble_eq_true rfl) rfl dX12_markOf_65 jrv_v (c_X12_began  hm10) rfl ?_
      refine j_iload_n X 1 dX12_markOf_68 rfl rfl ?_
      refine j_aload_n X 0 dX12_markOf_69 rfl rfl ?_
      refine j_getR (t := 93) X fg_RX12_19 ln_89 ly_89 rfl dX12_markOf_70 ?_
      refine j_iload_n X 1 dX12_markOf_73 rfl rfl ?_
      refine j_iconst (v := 1) X dX12_markOf_74 (by decide) ?_
      obtain ⟨v11, σ12, hm13, h⟩ := jbd_some h
      refine j_callS (as := [.ref 93, .int a0, .int (1 : Int32)]) (st := [.int a0]) (st1 := [.int v11, .int a0]) X ss_RX12_183 ⟨by decide, by decide⟩ rfl rfl (Nat.le_of_ble_eq_true rfl) rfl dX12_markOf_75 jrv_i (c_X12_of ⟨ln_93, ly_93⟩ hm13) rfl ?_
      refine j_iadd X dX12_markOf_78 ?_
      refine j_letI h (fun v14 h => ?_)
      refine j_istore_n (ls' := [some (.ref 89), some (.int a0), some (.int v1), some (.int v14)]) X 3 dX12_markOf_79 rfl (Nat.le_of_ble_eq_true rfl) rfl ?_
      refine j_iload_n X 2 dX12_markOf_80 rfl rfl ?_
      refine j_iconst (v := 1) X dX12_markOf_81 (by decide) ?_
      refine j_icmp_ne (tgt := 89) X dX12_markOf_82 (by decide) h (fun h => ?_) (fun h => ?_)
      · refine j_iload_n X 2 dX12_markOf_89 rfl rfl ?_
        refine j_iconst (v := 3) X dX12_markOf_90 (by decide) ?_
        refine j_icmp_ne (tgt := 102) X dX12_markOf_91 (by decide) h (fun h => ?_) (fun h => ?_)
        · refine j_iconst (v := 2) X dX12_markOf_102 (by decide) ?_
          refine j_iload_n X 3 dX12_markOf_103 rfl rfl ?_
          refine j_imul X dX12_markOf_104 ?_
          obtain ⟨rfl, rfl⟩ := jin2 h
          exact j_iret X R0 dX12_markOf_105
        · refine j_iload_n X 3 dX12_markOf_94 rfl rfl ?_
          refine j_sipush (v := 1000) X dX12_markOf_95 (by decide) ?_
          refine j_isub X dX12_markOf_98 ?_
          refine j_goto (tgt := 105) X dX12_markOf_99 (by decide) ?_
          obtain ⟨rfl, rfl⟩ := jin2 h
          exact j_iret X R0 dX12_markOf_105
      · refine j_iload_n X 3 dX12_markOf_85 rfl rfl ?_
        refine j_goto (tgt := 105) X dX12_markOf_86 (by decide) ?_
        obtain ⟨rfl, rfl⟩ := jin2 h
        exact j_iret X R0 dX12_markOf_105
    · refine j_icmp_eq (tgt := 56) X dX12_markOf_37 (by decide) h (fun h => ?_) (fun h => ?_)
      · exact hk4 () σ2 h
      · refine j_aload_n X 0 dX12_markOf_40 rfl rfl ?_
        refine j_iload_n X 2 dX12_markOf_41 rfl rfl ?_
        refine j_iconst (v := 3) X dX12_markOf_42 (by decide) ?_
        refine j_join (pcJ := 53) (lsJ := fun q16 => [some (.ref 89), some (.int a0), some (.int v1), none]) (stJ := fun q16 => [.int q16, .ref 89]) h (fun q16 σ17 h => ?_) (fun k15 hk15 h => ?_)
        · obtain ⟨σ18, hm19, h⟩ := jbv_some h
          refine j_callV (as := [.int q16]) (st := []) (st1 := []) X ln_89 ly_89 rfl rfl sv_RX12_280 ⟨by decide, by decide⟩ rfl rfl (Nat.le_of_ble_eq_true rfl) rfl dX12_markOf_53 jrv_v (c_X12_began  hm19) rfl ?_
          exact hk4 () σ18 h
        · refine j_icmp_ne (tgt := 51) X dX12_markOf_43 (by decide) h (fun h => ?_) (fun h => ?_)
          · refine j_bipush (v := 24) X dX12_markOf_51 (by decide) ?_
            exact hk15 (24 : Int32) σ2 h
          · refine j_bipush (v := 22) X dX12_markOf_46 (by decide) ?_
            refine j_goto (tgt := 53) X dX12_markOf_48 (by decide) ?_
            exact hk15 (22 : Int32) σ2 h
  · refine j_aload_n X 0 dX12_markOf_15 rfl rfl ?_
    refine j_bipush (v := 23) X dX12_markOf_16 (by decide) ?_
    obtain ⟨σ20, hm21, h⟩ := jbv_some h
    refine j_callV (as := [.int (23 : Int32)]) (st := []) (st1 := []) X ln_89 ly_89 rfl rfl sv_RX12_280 ⟨by decide, by decide⟩ rfl rfl (Nat.le_of_ble_eq_true rfl) rfl dX12_markOf_18 jrv_v (c_X12_began  hm21) rfl ?_
    refine j_aload_n X 0 dX12_markOf_21 rfl rfl ?_
    refine j_bipush (v := 20) X dX12_markOf_22 (by decide) ?_
    obtain ⟨σ22, hm23, h⟩ := jbv_some h
    refine j_callV (as := [.int (20 : Int32)]) (st := []) (st1 := []) X ln_89 ly_89 rfl rfl sv_RX12_280 ⟨by decide, by decide⟩ rfl rfl (Nat.le_of_ble_eq_true rfl) rfl dX12_markOf_24 jrv_v (c_X12_began  hm23) rfl ?_
    refine j_iload_n X 1 dX12_markOf_27 rfl rfl ?_
    refine j_aload_n X 0 dX12_markOf_28 rfl rfl ?_
    refine j_iload_n X 1 dX12_markOf_29 rfl rfl ?_
    obtain ⟨v24, σ25, hm26, h⟩ := jbd_some h
    refine j_callV (as := [.int a0]) (st := [.int a0]) (st1 := [.int v24, .int a0]) X ln_89 ly_89 rfl rfl sv_RX12_286 ⟨by decide, by decide⟩ rfl rfl (Nat.le_of_ble_eq_true rfl) rfl dX12_markOf_30 jrv_i (c_X12_strangerSize  hm26) rfl ?_
    refine j_isub X dX12_markOf_33 ?_
    obtain ⟨rfl, rfl⟩ := jin2 h
    exact j_iret X R0 dX12_markOf_34
theorem sv_RX12_289 : jSiV RX12 289 yX12_markOf cX12_markOf 4 (some .int) 1 := ⟨tw_1266, tw_1268, ts_53, tw_13, tw_1269, by decide, by decide, by decide +kernel⟩
def f_X12_sizeOf (a0 : Int32) (σ : jMem) : Option (Int32 × jMem) :=
  jbd (f_X12_of 93 a0 (0 : Int32) σ) (fun v1 σ2 =>
  if v1 < (4 : Int32) then
  jj (fun (q5 : Unit) σ6 =>
  jbv (f_X12_began (11 : Int32) σ6) (fun σ7 =>
  jbd (f_X12_plainSize a0 σ7) (fun v9 σ10 =>
  jbd (f_X12_markOf a0 σ10) (fun v12 σ13 =>
  jlet ((v9 + v12)) (fun v15 =>
  if ¬ v1 = (2 : Int32) then
  some ((v15, σ13))
else
  some (((-v15), σ13))))))) (fun k4 =>
  if ¬ v1 = (2 : Int32) then
  k4 () σ2
else
  jbv (f_X12_began (12 : Int32) σ2) (fun σ16 =>
  k4 () σ16))
else
  jbd (f_X12_strangerSize a0 σ2) (fun v18 σ19 =>
  some ((v18, σ19))))
set_option maxRecDepth 100000 in
set_option maxHeartbeats 4000000 in
theorem c_X12_sizeOf {l : Launch} {D : va_G} {ad : Nat → Nat} {cid : Nat → ClassId} {a0 : Int32}  {σ : jMem} {r : Int32} {σ' : jMem} (h : f_X12_sizeOf a0 σ = some (r, σ')) : jMet l D ad cid yX12_sizeOf cX12_sizeOf 4 (some .int) 6 131 [.ref 89, .int a0] σ (some (.int r)) σ' := by
  refine jMet_of (ls0 := [some (.ref 89), some (.int a0), none, none]) (by decide) (Nat.le_of_ble_eq_true rfl) rfl (fun K X R0 _ => ?_)
  unfold f_X12_sizeOf at h
  refine j_aload_n X 0 dX12_sizeOf_0 rfl rfl ?_
  refine j_getR (t := 93) X fg_RX12_19 ln_89 ly_89 rfl dX12_sizeOf_1 ?_
  refine j_iload_n X 1 dX12_sizeOf_4 rfl rfl ?_
  refine j_iconst (v := 0) X dX12_sizeOf_5 (by decide) ?_
  obtain ⟨v1, σ2, hm3, h⟩ := jbd_some h
  refine j_callS (as := [.ref 93, .int a0, .int (0 : Int32)]) (st := []) (st1 := [.int v1]) X ss_RX12_183 ⟨by decide, by decide⟩ rfl rfl (Nat.le_of_ble_eq_true rfl) rfl dX12_sizeOf_6 jrv_i (c_X12_of ⟨ln_93, ly_93⟩ hm3) rfl ?_
  refine j_istore_n (ls' := [some (.ref 89), some (.int a0), some (.int v1), none]) X 2 dX12_sizeOf_9 rfl (Nat.le_of_ble_eq_true rfl) rfl ?_
  refine j_iload_n X 2 dX12_sizeOf_10 rfl rfl ?_
  refine j_iconst (v := 4) X dX12_sizeOf_11 (by decide) ?_
  refine j_icmp_lt (tgt := 21) X dX12_sizeOf_12 (by decide) h (fun h => ?_) (fun h => ?_)
  · refine j_iload_n X 2 dX12_sizeOf_21 rfl rfl ?_
    refine j_iconst (v := 2) X dX12_sizeOf_22 (by decide) ?_
    refine j_join (pcJ := 32) (lsJ := fun q5 => [some (.ref 89), some (.int a0), some (.int v1), none]) (stJ := fun q5 => []) h (fun q5 σ6 h => ?_) (fun k4 hk4 h => ?_)
    · refine j_aload_n X 0 dX12_sizeOf_32 rfl rfl ?_
      refine j_bipush (v := 11) X dX12_sizeOf_33 (by decide) ?_
      obtain ⟨σ7, hm8, h⟩ := jbv_some h
      refine j_callV (as := [.int (11 : Int32)]) (st := []) (st1 := []) X ln_89 ly_89 rfl rfl sv_RX12_280 ⟨by decide, by decide⟩ rfl rfl (Nat.le_of_ble_eq_true rfl) rfl dX12_sizeOf_35 jrv_v (c_X12_began  hm8) rfl ?_
      refine j_aload_n X 0 dX12_sizeOf_38 rfl rfl ?_
      refine j_iload_n X 1 dX12_sizeOf_39 rfl rfl ?_
      obtain ⟨v9, σ10, hm11, h⟩ := jbd_some h
      refine j_callV (as := [.int a0]) (st := []) (st1 := [.int v9]) X ln_89 ly_89 rfl rfl sv_RX12_283 ⟨by decide, by decide⟩ rfl rfl (Nat.le_of_ble_eq_true rfl) rfl dX12_sizeOf_40 jrv_i (c_X12_plainSize  hm11) rfl ?_
      refine j_istore_n (ls' := [some (.ref 89), some (.int a0), some (.int v1), some (.int v9)]) X 3 dX12_sizeOf_43 rfl (Nat.le_of_ble_eq_true rfl) rfl ?_
      refine j_iload_n X 3 dX12_sizeOf_44 rfl rfl ?_
      refine j_aload_n X 0 dX12_sizeOf_45 rfl rfl ?_
      refine j_iload_n X 1 dX12_sizeOf_46 rfl rfl ?_
      obtain ⟨v12, σ13, hm14, h⟩ := jbd_some h
      refine j_callV (as := [.int a0]) (st := [.int v9]) (st1 := [.int v12, .int v9]) X ln_89 ly_89 rfl rfl sv_RX12_289 ⟨by decide, by decide⟩ rfl rfl (Nat.le_of_ble_eq_true rfl) rfl dX12_sizeOf_47 jrv_i (c_X12_markOf  hm14) rfl ?_
      refine j_iadd X dX12_sizeOf_50 ?_
      refine j_letI h (fun v15 h => ?_)
      refine j_istore_n (ls' := [some (.ref 89), some (.int a0), some (.int v1), some (.int v15)]) X 3 dX12_sizeOf_51 rfl (Nat.le_of_ble_eq_true rfl) rfl ?_
      refine j_iload_n X 2 dX12_sizeOf_52 rfl rfl ?_
      refine j_iconst (v := 2) X dX12_sizeOf_53 (by decide) ?_
      refine j_icmp_ne (tgt := 62) X dX12_sizeOf_54 (by decide) h (fun h => ?_) (fun h => ?_)
      · refine j_iload_n X 3 dX12_sizeOf_62 rfl rfl ?_
        obtain ⟨rfl, rfl⟩ := jin2 h
        exact j_iret X R0 dX12_sizeOf_63
      · refine j_iload_n X 3 dX12_sizeOf_57 rfl rfl ?_
        refine j_ineg X dX12_sizeOf_58 ?_
        refine j_goto (tgt := 63) X dX12_sizeOf_59 (by decide) ?_
        obtain ⟨rfl, rfl⟩ := jin2 h
        exact j_iret X R0 dX12_sizeOf_63
    · refine j_icmp_ne (tgt := 32) X dX12_sizeOf_23 (by decide) h (fun h => ?_) (fun h => ?_)
      · exact hk4 () σ2 h
      · refine j_aload_n X 0 dX12_sizeOf_26 rfl rfl ?_
        refine j_bipush (v := 12) X dX12_sizeOf_27 (by decide) ?_
        obtain ⟨σ16, hm17, h⟩ := jbv_some h
        refine j_callV (as := [.int (12 : Int32)]) (st := []) (st1 := []) X ln_89 ly_89 rfl rfl sv_RX12_280 ⟨by decide, by decide⟩ rfl rfl (Nat.le_of_ble_eq_true rfl) rfl dX12_sizeOf_29 jrv_v (c_X12_began  hm17) rfl ?_
        exact hk4 () σ16 h
  · refine j_aload_n X 0 dX12_sizeOf_15 rfl rfl ?_
    refine j_iload_n X 1 dX12_sizeOf_16 rfl rfl ?_
    obtain ⟨v18, σ19, hm20, h⟩ := jbd_some h
    refine j_callV (as := [.int a0]) (st := []) (st1 := [.int v18]) X ln_89 ly_89 rfl rfl sv_RX12_286 ⟨by decide, by decide⟩ rfl rfl (Nat.le_of_ble_eq_true rfl) rfl dX12_sizeOf_17 jrv_i (c_X12_strangerSize  hm20) rfl ?_
    obtain ⟨rfl, rfl⟩ := jin2 h
    exact j_iret X R0 dX12_sizeOf_20
