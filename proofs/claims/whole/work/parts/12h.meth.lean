def f_X12_begin  (σ : jMem) : Option jMem :=
  jlet (jset σ 89 12 (0 : Int32)) (fun σ1 =>
  jlet (jset σ1 89 16 (0 : Int32)) (fun σ2 =>
  jbv (f_X12_nextToken  σ2) (fun σ3 =>
  some σ3)))
set_option maxRecDepth 100000 in
set_option maxHeartbeats 4000000 in
theorem c_X12_begin {l : Launch} {D : va_G} {ad : Nat → Nat} {cid : Nat → ClassId}   {σ : jMem} {σ' : jMem} (h : f_X12_begin  σ = some σ') : jMet l D ad cid yX12_begin cX12_begin 1 none 2 45 [.ref 89] σ none σ' := by
  refine jMet_of (ls0 := [some (.ref 89)]) (by decide) (Nat.le_of_ble_eq_true rfl) rfl (fun K X R0 _ => ?_)
  unfold f_X12_begin at h
  refine j_aload_n X 0 dX12_begin_0 rfl rfl ?_
  refine j_iconst (v := 0) X dX12_begin_1 (by decide) ?_
  refine j_put X fp_RX12_87 ln_89 ly_89 rfl rfl rfl dX12_begin_2 h (fun σ1 h => ?_)
  refine j_aload_n X 0 dX12_begin_5 rfl rfl ?_
  refine j_iconst (v := 0) X dX12_begin_6 (by decide) ?_
  refine j_put X fp_RX12_78 ln_89 ly_89 rfl rfl rfl dX12_begin_7 h (fun σ2 h => ?_)
  refine j_aload_n X 0 dX12_begin_10 rfl rfl ?_
  obtain ⟨σ3, hm4, h⟩ := jbv_some h
  refine j_callV (as := []) (st := []) (st1 := []) X ln_89 ly_89 rfl rfl sv_RX12_109 ⟨by decide, by decide⟩ rfl rfl (Nat.le_of_ble_eq_true rfl) rfl dX12_begin_11 jrv_v (c_X12_nextToken  hm4) rfl ?_
  obtain rfl := Option.some.inj h
  exact j_vret X R0 dX12_begin_14
def f_X12_failed  (σ : jMem) : Option (Int32 × jMem) :=
  jj (fun (q2 : Unit) σ3 =>
  jlet (jset σ3 89 11 (0 : Int32)) (fun σ4 =>
  jj (fun (q6 : Int32) σ7 =>
  jlet (jset σ7 89 18 q6) (fun σ8 =>
  if (σ8.1 89 16) ≤ 0 then
  some (((0 : Int32), σ8))
else
  some (((1 : Int32), σ8)))) (fun k5 =>
  if (σ4.1 89 16) ≤ 0 then
  k5 (σ4.1 89 18) σ4
else
  k5 (σ4.1 89 16) σ4))) (fun k1 =>
  if ¬ (σ.1 89 16) = 0 then
  k1 () σ
else
  if (σ.1 89 14) = (1 : Int32) then
  k1 () σ
else
  jbv (f_X12_bad (1 : Int32) σ) (fun σ9 =>
  k1 () σ9))
set_option maxRecDepth 100000 in
set_option maxHeartbeats 4000000 in
theorem c_X12_failed {l : Launch} {D : va_G} {ad : Nat → Nat} {cid : Nat → ClassId}   {σ : jMem} {r : Int32} {σ' : jMem} (h : f_X12_failed  σ = some (r, σ')) : jMet l D ad cid yX12_failed cX12_failed 1 (some .boolean) 1 21 [.ref 89] σ (some (.int r)) σ' := by
  refine jMet_of (ls0 := [some (.ref 89)]) (by decide) (Nat.le_of_ble_eq_true rfl) rfl (fun K X R0 _ => ?_)
  unfold f_X12_failed at h
  refine j_aload_n X 0 dX12_failed_0 rfl rfl ?_
  refine j_getI X fg_RX12_78 ln_89 ly_89 rfl dX12_failed_1 ?_
  refine j_join (pcJ := 20) (lsJ := fun q2 => [some (.ref 89)]) (stJ := fun q2 => []) h (fun q2 σ3 h => ?_) (fun k1 hk1 h => ?_)
  · refine j_aload_n X 0 dX12_failed_20 rfl rfl ?_
    refine j_iconst (v := 0) X dX12_failed_21 (by decide) ?_
    refine j_put X fp_RX12_74 ln_89 ly_89 rfl rfl rfl dX12_failed_22 h (fun σ4 h => ?_)
    refine j_aload_n X 0 dX12_failed_25 rfl rfl ?_
    refine j_aload_n X 0 dX12_failed_26 rfl rfl ?_
    refine j_getI X fg_RX12_78 ln_89 ly_89 rfl dX12_failed_27 ?_
    refine j_join (pcJ := 44) (lsJ := fun q6 => [some (.ref 89)]) (stJ := fun q6 => [.int q6, .ref 89]) h (fun q6 σ7 h => ?_) (fun k5 hk5 h => ?_)
    · refine j_put X fp_RX12_116 ln_89 ly_89 rfl rfl rfl dX12_failed_44 h (fun σ8 h => ?_)
      refine j_aload_n X 0 dX12_failed_47 rfl rfl ?_
      refine j_getI X fg_RX12_78 ln_89 ly_89 rfl dX12_failed_48 ?_
      refine j_if_le (tgt := 58) X dX12_failed_51 (by decide) h (fun h => ?_) (fun h => ?_)
      · refine j_iconst (v := 0) X dX12_failed_58 (by decide) ?_
        obtain ⟨rfl, rfl⟩ := jin2 h
        exact j_zret X R0 rfl dX12_failed_59
      · refine j_iconst (v := 1) X dX12_failed_54 (by decide) ?_
        refine j_goto (tgt := 59) X dX12_failed_55 (by decide) ?_
        obtain ⟨rfl, rfl⟩ := jin2 h
        exact j_zret X R0 rfl dX12_failed_59
    · refine j_if_le (tgt := 40) X dX12_failed_30 (by decide) h (fun h => ?_) (fun h => ?_)
      · refine j_aload_n X 0 dX12_failed_40 rfl rfl ?_
        refine j_getI X fg_RX12_116 ln_89 ly_89 rfl dX12_failed_41 ?_
        exact hk5 (σ4.1 89 18) σ4 h
      · refine j_aload_n X 0 dX12_failed_33 rfl rfl ?_
        refine j_getI X fg_RX12_78 ln_89 ly_89 rfl dX12_failed_34 ?_
        refine j_goto (tgt := 44) X dX12_failed_37 (by decide) ?_
        exact hk5 (σ4.1 89 16) σ4 h
  · refine j_if_ne (tgt := 20) X dX12_failed_4 (by decide) h (fun h => ?_) (fun h => ?_)
    · exact hk1 () σ h
    · refine j_aload_n X 0 dX12_failed_7 rfl rfl ?_
      refine j_getI X fg_RX12_102 ln_89 ly_89 rfl dX12_failed_8 ?_
      refine j_iconst (v := 1) X dX12_failed_11 (by decide) ?_
      refine j_icmp_eq (tgt := 20) X dX12_failed_12 (by decide) h (fun h => ?_) (fun h => ?_)
      · exact hk1 () σ h
      · refine j_aload_n X 0 dX12_failed_15 rfl rfl ?_
        refine j_iconst (v := 1) X dX12_failed_16 (by decide) ?_
        obtain ⟨σ9, hm10, h⟩ := jbv_some h
        refine j_callV (as := [.int (1 : Int32)]) (st := []) (st1 := []) X ln_89 ly_89 rfl rfl sv_RX12_105 ⟨by decide, by decide⟩ rfl rfl (Nat.le_of_ble_eq_true rfl) rfl dX12_failed_17 jrv_v (c_X12_bad  hm10) rfl ?_
        exact hk1 () σ9 h
def f_X12_fault  (σ : jMem) : Option (Int32 × jMem) :=
  jlet (jset σ 89 0 (0 : Int32)) (fun σ1 =>
  some (((σ1.1 89 18), σ1)))
set_option maxRecDepth 100000 in
set_option maxHeartbeats 4000000 in
theorem c_X12_fault {l : Launch} {D : va_G} {ad : Nat → Nat} {cid : Nat → ClassId}   {σ : jMem} {r : Int32} {σ' : jMem} (h : f_X12_fault  σ = some (r, σ')) : jMet l D ad cid yX12_fault cX12_fault 1 (some .int) 0 0 [.ref 89] σ (some (.int r)) σ' := by
  refine jMet_of (ls0 := [some (.ref 89)]) (by decide) (Nat.le_of_ble_eq_true rfl) rfl (fun K X R0 _ => ?_)
  unfold f_X12_fault at h
  refine j_aload_n X 0 dX12_fault_0 rfl rfl ?_
  refine j_iconst (v := 0) X dX12_fault_1 (by decide) ?_
  refine j_put X fp_RX12_47 ln_89 ly_89 rfl rfl rfl dX12_fault_2 h (fun σ1 h => ?_)
  refine j_aload_n X 0 dX12_fault_5 rfl rfl ?_
  refine j_getI X fg_RX12_116 ln_89 ly_89 rfl dX12_fault_6 ?_
  obtain ⟨rfl, rfl⟩ := jin2 h
  exact j_iret X R0 dX12_fault_9
def f_X12_kindBy (a0 : Int32) (σ : jMem) : Option (Int32 × jMem) :=
  if ¬ a0 = (110 : Int32) then
  if ¬ a0 = (99 : Int32) then
  if ¬ a0 = (102 : Int32) then
  if ¬ a0 = (115 : Int32) then
  if ¬ a0 = (109 : Int32) then
  some (((-1000000 : Int32), σ))
else
  some (((5 : Int32), σ))
else
  some (((4 : Int32), σ))
else
  some (((3 : Int32), σ))
else
  some (((2 : Int32), σ))
else
  some (((1 : Int32), σ))
set_option maxRecDepth 100000 in
set_option maxHeartbeats 4000000 in
theorem c_X12_kindBy {l : Launch} {D : va_G} {ad : Nat → Nat} {cid : Nat → ClassId} {a0 : Int32}  {σ : jMem} {r : Int32} {σ' : jMem} (h : f_X12_kindBy a0 σ = some (r, σ')) : jMet l D ad cid yX12_kindBy cX12_kindBy 1 (some .int) 0 0 [.int a0] σ (some (.int r)) σ' := by
  refine jMet_of (ls0 := [some (.int a0)]) (by decide) (Nat.le_of_ble_eq_true rfl) rfl (fun K X R0 _ => ?_)
  unfold f_X12_kindBy at h
  refine j_iload_n X 0 dX12_kindBy_0 rfl rfl ?_
  refine j_bipush (v := 110) X dX12_kindBy_1 (by decide) ?_
  refine j_icmp_ne (tgt := 10) X dX12_kindBy_3 (by decide) h (fun h => ?_) (fun h => ?_)
  · refine j_iload_n X 0 dX12_kindBy_10 rfl rfl ?_
    refine j_bipush (v := 99) X dX12_kindBy_11 (by decide) ?_
    refine j_icmp_ne (tgt := 20) X dX12_kindBy_13 (by decide) h (fun h => ?_) (fun h => ?_)
    · refine j_iload_n X 0 dX12_kindBy_20 rfl rfl ?_
      refine j_bipush (v := 102) X dX12_kindBy_21 (by decide) ?_
      refine j_icmp_ne (tgt := 30) X dX12_kindBy_23 (by decide) h (fun h => ?_) (fun h => ?_)
      · refine j_iload_n X 0 dX12_kindBy_30 rfl rfl ?_
        refine j_bipush (v := 115) X dX12_kindBy_31 (by decide) ?_
        refine j_icmp_ne (tgt := 40) X dX12_kindBy_33 (by decide) h (fun h => ?_) (fun h => ?_)
        · refine j_iload_n X 0 dX12_kindBy_40 rfl rfl ?_
          refine j_bipush (v := 109) X dX12_kindBy_41 (by decide) ?_
          refine j_icmp_ne (tgt := 50) X dX12_kindBy_43 (by decide) h (fun h => ?_) (fun h => ?_)
          · refine j_ldc (v := -1000000) X tw_988 dX12_kindBy_50 ?_
            obtain ⟨rfl, rfl⟩ := jin2 h
            exact j_iret X R0 dX12_kindBy_52
          · refine j_iconst (v := 5) X dX12_kindBy_46 (by decide) ?_
            refine j_goto (tgt := 52) X dX12_kindBy_47 (by decide) ?_
            obtain ⟨rfl, rfl⟩ := jin2 h
            exact j_iret X R0 dX12_kindBy_52
        · refine j_iconst (v := 4) X dX12_kindBy_36 (by decide) ?_
          refine j_goto (tgt := 52) X dX12_kindBy_37 (by decide) ?_
          obtain ⟨rfl, rfl⟩ := jin2 h
          exact j_iret X R0 dX12_kindBy_52
      · refine j_iconst (v := 3) X dX12_kindBy_26 (by decide) ?_
        refine j_goto (tgt := 52) X dX12_kindBy_27 (by decide) ?_
        obtain ⟨rfl, rfl⟩ := jin2 h
        exact j_iret X R0 dX12_kindBy_52
    · refine j_iconst (v := 2) X dX12_kindBy_16 (by decide) ?_
      refine j_goto (tgt := 52) X dX12_kindBy_17 (by decide) ?_
      obtain ⟨rfl, rfl⟩ := jin2 h
      exact j_iret X R0 dX12_kindBy_52
  · refine j_iconst (v := 1) X dX12_kindBy_6 (by decide) ?_
    refine j_goto (tgt := 52) X dX12_kindBy_7 (by decide) ?_
    obtain ⟨rfl, rfl⟩ := jin2 h
    exact j_iret X R0 dX12_kindBy_52
