def f_X12_isOf (a0 : Int32) (a1 : Int32) (σ : jMem) : Option (Int32 × jMem) :=
  if a1 = 0 then
  some (((1 : Int32), σ))
else
  if a0 = a1 then
  some (((1 : Int32), σ))
else
  jj (fun (q2 : Unit) σ3 =>
  if ¬ a1 = (4 : Int32) then
  some (((0 : Int32), σ3))
else
  if ¬ a0 = (5 : Int32) then
  some (((0 : Int32), σ3))
else
  some (((1 : Int32), σ3))) (fun k1 =>
  if ¬ a1 = (1 : Int32) then
  k1 () σ
else
  if a0 < (4 : Int32) then
  some (((1 : Int32), σ))
else
  k1 () σ)
set_option maxRecDepth 100000 in
set_option maxHeartbeats 4000000 in
theorem c_X12_isOf {l : Launch} {D : va_G} {ad : Nat → Nat} {cid : Nat → ClassId} {a0 : Int32} {a1 : Int32}  {σ : jMem} {r : Int32} {σ' : jMem} (h : f_X12_isOf a0 a1 σ = some (r, σ')) : jMet l D ad cid yX12_isOf cX12_isOf 2 (some .boolean) 0 0 [.int a0, .int a1] σ (some (.int r)) σ' := by
  refine jMet_of (ls0 := [some (.int a0), some (.int a1)]) (by decide) (Nat.le_of_ble_eq_true rfl) rfl (fun K X R0 _ => ?_)
  unfold f_X12_isOf at h
  refine j_iload_n X 1 dX12_isOf_0 rfl rfl ?_
  refine j_if_eq (tgt := 29) X dX12_isOf_1 (by decide) h (fun h => ?_) (fun h => ?_)
  · refine j_iconst (v := 1) X dX12_isOf_29 (by decide) ?_
    refine j_goto (tgt := 34) X dX12_isOf_30 (by decide) ?_
    obtain ⟨rfl, rfl⟩ := jin2 h
    exact j_zret X R0 rfl dX12_isOf_34
  · refine j_iload_n X 0 dX12_isOf_4 rfl rfl ?_
    refine j_iload_n X 1 dX12_isOf_5 rfl rfl ?_
    refine j_icmp_eq (tgt := 29) X dX12_isOf_6 (by decide) h (fun h => ?_) (fun h => ?_)
    · refine j_iconst (v := 1) X dX12_isOf_29 (by decide) ?_
      refine j_goto (tgt := 34) X dX12_isOf_30 (by decide) ?_
      obtain ⟨rfl, rfl⟩ := jin2 h
      exact j_zret X R0 rfl dX12_isOf_34
    · refine j_iload_n X 1 dX12_isOf_9 rfl rfl ?_
      refine j_iconst (v := 1) X dX12_isOf_10 (by decide) ?_
      refine j_join (pcJ := 19) (lsJ := fun q2 => [some (.int a0), some (.int a1)]) (stJ := fun q2 => []) h (fun q2 σ3 h => ?_) (fun k1 hk1 h => ?_)
      · refine j_iload_n X 1 dX12_isOf_19 rfl rfl ?_
        refine j_iconst (v := 4) X dX12_isOf_20 (by decide) ?_
        refine j_icmp_ne (tgt := 33) X dX12_isOf_21 (by decide) h (fun h => ?_) (fun h => ?_)
        · refine j_iconst (v := 0) X dX12_isOf_33 (by decide) ?_
          obtain ⟨rfl, rfl⟩ := jin2 h
          exact j_zret X R0 rfl dX12_isOf_34
        · refine j_iload_n X 0 dX12_isOf_24 rfl rfl ?_
          refine j_iconst (v := 5) X dX12_isOf_25 (by decide) ?_
          refine j_icmp_ne (tgt := 33) X dX12_isOf_26 (by decide) h (fun h => ?_) (fun h => ?_)
          · refine j_iconst (v := 0) X dX12_isOf_33 (by decide) ?_
            obtain ⟨rfl, rfl⟩ := jin2 h
            exact j_zret X R0 rfl dX12_isOf_34
          · refine j_iconst (v := 1) X dX12_isOf_29 (by decide) ?_
            refine j_goto (tgt := 34) X dX12_isOf_30 (by decide) ?_
            obtain ⟨rfl, rfl⟩ := jin2 h
            exact j_zret X R0 rfl dX12_isOf_34
      · refine j_icmp_ne (tgt := 19) X dX12_isOf_11 (by decide) h (fun h => ?_) (fun h => ?_)
        · exact hk1 () σ h
        · refine j_iload_n X 0 dX12_isOf_14 rfl rfl ?_
          refine j_iconst (v := 4) X dX12_isOf_15 (by decide) ?_
          refine j_icmp_lt (tgt := 29) X dX12_isOf_16 (by decide) h (fun h => ?_) (fun h => ?_)
          · refine j_iconst (v := 1) X dX12_isOf_29 (by decide) ?_
            refine j_goto (tgt := 34) X dX12_isOf_30 (by decide) ?_
            obtain ⟨rfl, rfl⟩ := jin2 h
            exact j_zret X R0 rfl dX12_isOf_34
          · exact hk1 () σ h
def f_X12_kind (a0 : Int32) (σ : jMem) : Option (Int32 × jMem) :=
  jlet (jset σ 89 0 (0 : Int32)) (fun σ1 =>
  jbd (f_X12_isWitness a0 σ1) (fun v2 σ3 =>
  if v2 = 0 then
  some (((-1000001 : Int32), σ3))
else
  jbd (f_X12_of 93 a0 (0 : Int32) σ3) (fun v5 σ6 =>
  some ((v5, σ6)))))
set_option maxRecDepth 100000 in
set_option maxHeartbeats 4000000 in
theorem c_X12_kind {l : Launch} {D : va_G} {ad : Nat → Nat} {cid : Nat → ClassId} {a0 : Int32}  {σ : jMem} {r : Int32} {σ' : jMem} (h : f_X12_kind a0 σ = some (r, σ')) : jMet l D ad cid yX12_kind cX12_kind 2 (some .int) 2 46 [.ref 89, .int a0] σ (some (.int r)) σ' := by
  refine jMet_of (ls0 := [some (.ref 89), some (.int a0)]) (by decide) (Nat.le_of_ble_eq_true rfl) rfl (fun K X R0 _ => ?_)
  unfold f_X12_kind at h
  refine j_aload_n X 0 dX12_kind_0 rfl rfl ?_
  refine j_iconst (v := 0) X dX12_kind_1 (by decide) ?_
  refine j_put X fp_RX12_47 ln_89 ly_89 rfl rfl rfl dX12_kind_2 h (fun σ1 h => ?_)
  refine j_aload_n X 0 dX12_kind_5 rfl rfl ?_
  refine j_iload_n X 1 dX12_kind_6 rfl rfl ?_
  obtain ⟨v2, σ3, hm4, h⟩ := jbd_some h
  refine j_callV (as := [.int a0]) (st := []) (st1 := [.int v2]) X ln_89 ly_89 rfl rfl sv_RX12_236 ⟨by decide, by decide⟩ rfl rfl (Nat.le_of_ble_eq_true rfl) rfl dX12_kind_7 jrv_i (c_X12_isWitness  hm4) rfl ?_
  refine j_if_eq (tgt := 25) X dX12_kind_10 (by decide) h (fun h => ?_) (fun h => ?_)
  · refine j_ldc (v := -1000001) X tw_948 dX12_kind_25 ?_
    obtain ⟨rfl, rfl⟩ := jin2 h
    exact j_iret X R0 dX12_kind_27
  · refine j_aload_n X 0 dX12_kind_13 rfl rfl ?_
    refine j_getR (t := 93) X fg_RX12_19 ln_89 ly_89 rfl dX12_kind_14 ?_
    refine j_iload_n X 1 dX12_kind_17 rfl rfl ?_
    refine j_iconst (v := 0) X dX12_kind_18 (by decide) ?_
    obtain ⟨v5, σ6, hm7, h⟩ := jbd_some h
    refine j_callS (as := [.ref 93, .int a0, .int (0 : Int32)]) (st := []) (st1 := [.int v5]) X ss_RX12_183 ⟨by decide, by decide⟩ rfl rfl (Nat.le_of_ble_eq_true rfl) rfl dX12_kind_19 jrv_i (c_X12_of ⟨ln_93, ly_93⟩ hm7) rfl ?_
    refine j_goto (tgt := 27) X dX12_kind_22 (by decide) ?_
    obtain ⟨rfl, rfl⟩ := jin2 h
    exact j_iret X R0 dX12_kind_27
theorem ss_RX12_274 : jSiS RX12 274 yX12_isOf cX12_isOf 2 (some .boolean) 2 := ⟨tw_1243, tw_1244, tw_13, tw_1245, by decide, by decide, by decide +kernel⟩
def f_X12_as (a0 : Int32) (a1 : Int32) (σ : jMem) : Option (Int32 × jMem) :=
  jlet (jset σ 89 0 (0 : Int32)) (fun σ1 =>
  jbd (f_X12_isWitness a0 σ1) (fun v2 σ3 =>
  if v2 = 0 then
  some (((-1000001 : Int32), σ3))
else
  jbd (f_X12_in ((a1).toInt64) (0 : Int64) (5 : Int64) σ3) (fun v5 σ6 =>
  if ¬ v5 = 0 then
  jlet (jset σ6 89 1 (0 : Int32)) (fun σ8 =>
  jbd (f_X12_of 93 a0 (0 : Int32) σ8) (fun v9 σ10 =>
  jbd (f_X12_isOf v9 a1 σ10) (fun v12 σ13 =>
  if v12 = 0 then
  jbd (f_X12_finding (3 : Int32) σ13) (fun v15 σ16 =>
  some ((v15, σ16)))
else
  some ((a0, σ13)))))
else
  some (((-1000001 : Int32), σ6)))))
set_option maxRecDepth 100000 in
set_option maxHeartbeats 4000000 in
theorem c_X12_as {l : Launch} {D : va_G} {ad : Nat → Nat} {cid : Nat → ClassId} {a0 : Int32} {a1 : Int32}  {σ : jMem} {r : Int32} {σ' : jMem} (h : f_X12_as a0 a1 σ = some (r, σ')) : jMet l D ad cid yX12_as cX12_as 3 (some .int) 2 46 [.ref 89, .int a0, .int a1] σ (some (.int r)) σ' := by
  refine jMet_of (ls0 := [some (.ref 89), some (.int a0), some (.int a1)]) (by decide) (Nat.le_of_ble_eq_true rfl) rfl (fun K X R0 _ => ?_)
  unfold f_X12_as at h
  refine j_aload_n X 0 dX12_as_0 rfl rfl ?_
  refine j_iconst (v := 0) X dX12_as_1 (by decide) ?_
  refine j_put X fp_RX12_47 ln_89 ly_89 rfl rfl rfl dX12_as_2 h (fun σ1 h => ?_)
  refine j_aload_n X 0 dX12_as_5 rfl rfl ?_
  refine j_iload_n X 1 dX12_as_6 rfl rfl ?_
  obtain ⟨v2, σ3, hm4, h⟩ := jbd_some h
  refine j_callV (as := [.int a0]) (st := []) (st1 := [.int v2]) X ln_89 ly_89 rfl rfl sv_RX12_236 ⟨by decide, by decide⟩ rfl rfl (Nat.le_of_ble_eq_true rfl) rfl dX12_as_7 jrv_i (c_X12_isWitness  hm4) rfl ?_
  refine j_if_eq (tgt := 25) X dX12_as_10 (by decide) h (fun h => ?_) (fun h => ?_)
  · refine j_ldc (v := -1000001) X tw_948 dX12_as_25 ?_
    obtain ⟨rfl, rfl⟩ := jin2 h
    exact j_iret X R0 dX12_as_27
  · refine j_iload_n X 2 dX12_as_13 rfl rfl ?_
    refine j_i2l X dX12_as_14 ?_
    refine j_lconst (v := 0) X dX12_as_15 (by decide) ?_
    refine j_ldc2_w (v := 5) X tw_1242 dX12_as_16 ?_
    obtain ⟨v5, σ6, hm7, h⟩ := jbd_some h
    refine j_callS (as := [.long ((a1).toInt64), .long (0 : Int64), .long (5 : Int64)]) (st := []) (st1 := [.int v5]) X ss_RX12_57 ⟨by decide, by decide⟩ rfl rfl (Nat.le_of_ble_eq_true rfl) rfl dX12_as_19 jrv_i (c_X12_in  hm7) rfl ?_
    refine j_if_ne (tgt := 28) X dX12_as_22 (by decide) h (fun h => ?_) (fun h => ?_)
    · refine j_aload_n X 0 dX12_as_28 rfl rfl ?_
      refine j_iconst (v := 0) X dX12_as_29 (by decide) ?_
      refine j_put X fp_RX12_51 ln_89 ly_89 rfl rfl rfl dX12_as_30 h (fun σ8 h => ?_)
      refine j_aload_n X 0 dX12_as_33 rfl rfl ?_
      refine j_getR (t := 93) X fg_RX12_19 ln_89 ly_89 rfl dX12_as_34 ?_
      refine j_iload_n X 1 dX12_as_37 rfl rfl ?_
      refine j_iconst (v := 0) X dX12_as_38 (by decide) ?_
      obtain ⟨v9, σ10, hm11, h⟩ := jbd_some h
      refine j_callS (as := [.ref 93, .int a0, .int (0 : Int32)]) (st := []) (st1 := [.int v9]) X ss_RX12_183 ⟨by decide, by decide⟩ rfl rfl (Nat.le_of_ble_eq_true rfl) rfl dX12_as_39 jrv_i (c_X12_of ⟨ln_93, ly_93⟩ hm11) rfl ?_
      refine j_iload_n X 2 dX12_as_42 rfl rfl ?_
      obtain ⟨v12, σ13, hm14, h⟩ := jbd_some h
      refine j_callS (as := [.int v9, .int a1]) (st := []) (st1 := [.int v12]) X ss_RX12_274 ⟨by decide, by decide⟩ rfl rfl (Nat.le_of_ble_eq_true rfl) rfl dX12_as_43 jrv_i (c_X12_isOf  hm14) rfl ?_
      refine j_if_eq (tgt := 53) X dX12_as_46 (by decide) h (fun h => ?_) (fun h => ?_)
      · refine j_aload_n X 0 dX12_as_53 rfl rfl ?_
        refine j_iconst (v := 3) X dX12_as_54 (by decide) ?_
        obtain ⟨v15, σ16, hm17, h⟩ := jbd_some h
        refine j_callV (as := [.int (3 : Int32)]) (st := []) (st1 := [.int v15]) X ln_89 ly_89 rfl rfl sv_RX12_68 ⟨by decide, by decide⟩ rfl rfl (Nat.le_of_ble_eq_true rfl) rfl dX12_as_55 jrv_i (c_X12_finding  hm17) rfl ?_
        obtain ⟨rfl, rfl⟩ := jin2 h
        exact j_iret X R0 dX12_as_58
      · refine j_iload_n X 1 dX12_as_49 rfl rfl ?_
        refine j_goto (tgt := 58) X dX12_as_50 (by decide) ?_
        obtain ⟨rfl, rfl⟩ := jin2 h
        exact j_iret X R0 dX12_as_58
    · refine j_ldc (v := -1000001) X tw_948 dX12_as_25 ?_
      obtain ⟨rfl, rfl⟩ := jin2 h
      exact j_iret X R0 dX12_as_27
def f_X12_began (a0 : Int32) (σ : jMem) : Option jMem :=
  if (16 : Int32) ≤ (σ.1 89 26) then
  some σ
else
  jst σ 101 16 (σ.1 89 26) a0 (fun σ1 =>
  jlet (jset σ1 89 26 ((σ1.1 89 26) + (1 : Int32))) (fun σ2 =>
  some σ2))
set_option maxRecDepth 100000 in
set_option maxHeartbeats 4000000 in
theorem c_X12_began {l : Launch} {D : va_G} {ad : Nat → Nat} {cid : Nat → ClassId} {a0 : Int32}  {σ : jMem} {σ' : jMem} (h : f_X12_began a0 σ = some σ') : jMet l D ad cid yX12_began cX12_began 2 none 0 0 [.ref 89, .int a0] σ none σ' := by
  refine jMet_of (ls0 := [some (.ref 89), some (.int a0)]) (by decide) (Nat.le_of_ble_eq_true rfl) rfl (fun K X R0 _ => ?_)
  unfold f_X12_began at h
  refine j_aload_n X 0 dX12_began_0 rfl rfl ?_
  refine j_getI X fg_RX12_277 ln_89 ly_89 rfl dX12_began_1 ?_
  refine j_bipush (v := 16) X dX12_began_4 (by decide) ?_
  refine j_icmp_ge (tgt := 29) X dX12_began_6 (by decide) h (fun h => ?_) (fun h => ?_)
  · obtain rfl := Option.some.inj h
    exact j_vret X R0 dX12_began_29
  · refine j_aload_n X 0 dX12_began_9 rfl rfl ?_
    refine j_getR (t := 101) X fg_RX12_44 ln_89 ly_89 rfl dX12_began_10 ?_
    refine j_aload_n X 0 dX12_began_13 rfl rfl ?_
    refine j_getI X fg_RX12_277 ln_89 ly_89 rfl dX12_began_14 ?_
    refine j_iload_n X 1 dX12_began_17 rfl rfl ?_
    refine j_iastore X ln_101 ly_101 dX12_began_18 h (fun σ1 h => ?_)
    refine j_aload_n X 0 dX12_began_19 rfl rfl ?_
    refine j_dup X dX12_began_20 rfl ?_
    refine j_getI X fg_RX12_277 ln_89 ly_89 rfl dX12_began_21 ?_
    refine j_iconst (v := 1) X dX12_began_24 (by decide) ?_
    refine j_iadd X dX12_began_25 ?_
    refine j_put X fp_RX12_277 ln_89 ly_89 rfl rfl rfl dX12_began_26 h (fun σ2 h => ?_)
    obtain rfl := Option.some.inj h
    exact j_vret X R0 dX12_began_29
theorem sv_RX12_280 : jSiV RX12 280 yX12_began cX12_began 2 none 1 := ⟨tw_1258, tw_1260, ts_51, tw_13, tw_1261, by decide, by decide, by decide +kernel⟩
def f_X12_plainSize (a0 : Int32) (σ : jMem) : Option (Int32 × jMem) :=
  jbv (f_X12_began (10 : Int32) σ) (fun σ1 =>
  jbd (f_X12_swears 93 a0 σ1) (fun v3 σ4 =>
  jbd (f_X12_bits v3 σ4) (fun v6 σ7 =>
  some ((v6, σ7)))))
set_option maxRecDepth 100000 in
set_option maxHeartbeats 4000000 in
theorem c_X12_plainSize {l : Launch} {D : va_G} {ad : Nat → Nat} {cid : Nat → ClassId} {a0 : Int32}  {σ : jMem} {r : Int32} {σ' : jMem} (h : f_X12_plainSize a0 σ = some (r, σ')) : jMet l D ad cid yX12_plainSize cX12_plainSize 2 (some .int) 3 64 [.ref 89, .int a0] σ (some (.int r)) σ' := by
  refine jMet_of (ls0 := [some (.ref 89), some (.int a0)]) (by decide) (Nat.le_of_ble_eq_true rfl) rfl (fun K X R0 _ => ?_)
  unfold f_X12_plainSize at h
  refine j_aload_n X 0 dX12_plainSize_0 rfl rfl ?_
  refine j_bipush (v := 10) X dX12_plainSize_1 (by decide) ?_
  obtain ⟨σ1, hm2, h⟩ := jbv_some h
  refine j_callV (as := [.int (10 : Int32)]) (st := []) (st1 := []) X ln_89 ly_89 rfl rfl sv_RX12_280 ⟨by decide, by decide⟩ rfl rfl (Nat.le_of_ble_eq_true rfl) rfl dX12_plainSize_3 jrv_v (c_X12_began  hm2) rfl ?_
  refine j_aload_n X 0 dX12_plainSize_6 rfl rfl ?_
  refine j_getR (t := 93) X fg_RX12_19 ln_89 ly_89 rfl dX12_plainSize_7 ?_
  refine j_iload_n X 1 dX12_plainSize_10 rfl rfl ?_
  obtain ⟨v3, σ4, hm5, h⟩ := jbd_some h
  refine j_callS (as := [.ref 93, .int a0]) (st := []) (st1 := [.int v3]) X ss_RX12_195 ⟨by decide, by decide⟩ rfl rfl (Nat.le_of_ble_eq_true rfl) rfl dX12_plainSize_11 jrv_i (c_X12_swears ⟨ln_93, ly_93⟩ hm5) rfl ?_
  obtain ⟨v6, σ7, hm8, h⟩ := jbd_some h
  refine j_callS (as := [.int v3]) (st := []) (st1 := [.int v6]) X ss_RX12_246 ⟨by decide, by decide⟩ rfl rfl (Nat.le_of_ble_eq_true rfl) rfl dX12_plainSize_14 jrv_i (c_X12_bits  hm8) rfl ?_
  obtain ⟨rfl, rfl⟩ := jin2 h
  exact j_iret X R0 dX12_plainSize_17
