def f_X12_begin  (σ : jMem) : Option jMem :=
  jlet (jset σ 89 12 (0 : Int32)) (fun σ1 =>
  jlet (jset σ1 89 16 (0 : Int32)) (fun σ2 =>
  jbv (f_X12_nextToken  σ2) (fun σ3 =>
  some σ3)))
set_option maxRecDepth 100000 in
set_option maxHeartbeats 4000000 in
theorem c_X12_begin {l : Launch} {D : va_G} {ad : Nat → Nat} {cid : Nat → ClassId}   {σ : jMem} {σ' : jMem} (h : f_X12_begin  σ = some σ') : jMet l D ad cid yX12_begin cX12_begin 1 none 2 45 [.ref 89] σ none σ' := by
  refine jMet_of (ls0 := [some (.ref 89)]) (by decide) (Nat.le_of_ble_eq_true rfl) rfl (fun K X R0 _ => ?_)
  unfold f_X12_begin at h
  refine j_aload_n X 0 dX12_begin_0 rfl rfl ?_
  refine j_iconst (v := 0) X dX12_begin_1 (by decide) ?_
  refine j_put X fp_RX12_87 ln_89 ly_89 rfl rfl rfl dX12_begin_2 h (fun σ1 h => ?_)
  refine j_aload_n X 0 dX12_begin_5 rfl rfl ?_
  refine j_iconst (v := 0) X dX12_begin_6 (by decide) ?_
  refine j_put X fp_RX12_78 ln_89 ly_89 rfl rfl rfl dX12_begin_7 h (fun σ2 h => ?_)
  refine j_aload_n X 0 dX12_begin_10 rfl rfl ?_
  obtain ⟨σ3, hm4, h⟩ := jbv_some h
  refine j_callV (as := []) (st := []) (st1 := []) X ln_89 ly_89 rfl rfl sv_RX12_109 ⟨by decide, by decide⟩ rfl rfl (Nat.le_of_ble_eq_true rfl) rfl dX12_begin_11 jrv_v (c_X12_nextToken  hm4) rfl ?_
  obtain rfl := Option.some.inj h
  exact j_vret X R0 dX12_begin_14
def f_X12_failed  (σ : jMem) : Option (Int32 × jMem) :=
  jj (fun (q2 : Unit) σ3 =>
  jlet (jset σ3 89 11 (0 : Int32)) (fun σ4 =>
  jj (fun (q6 : Int32) σ7 =>
  jlet (jset σ7 89 18 q6) (fun σ8 =>
  if (σ8.1 89 16) ≤ 0 then
  some (((0 : Int32), σ8))
else
  some (((1 : Int32), σ8)))) (fun k5 =>
  if (σ4.1 89 16) ≤ 0 then
  k5 (σ4.1 89 18) σ4
else
  k5 (σ4.1 89 16) σ4))) (fun k1 =>
  if ¬ (σ.1 89 16) = 0 then
  k1 () σ
else
  if (σ.1 89 14) = (1 : Int32) then
  k1 () σ
else
  jbv (f_X12_bad (1 : Int32) σ) (fun σ9 =>
  k1 () σ9))
set_option maxRecDepth 100000 in
set_option maxHeartbeats 4000000 in
theorem c_X12_failed {l : Launch} {D : va_G} {ad : Nat → Nat} {cid : Nat → ClassId}   {σ : jMem} {r : Int32} {σ' : jMem} (h : f_X12_failed  σ = some (r, σ')) : jMet l D ad cid yX12_failed cX12_failed 1 (some .boolean) 1 21 [.ref 89] σ (some (.int r)) σ' := by
  refine jMet_of (ls0 := [some (.ref 89)]) (by decide) (Nat.le_of_ble_eq_true rfl) rfl (fun K X R0 _ => ?_)
  unfold f_X12_failed at h
  refine j_aload_n X 0 dX12_failed_0 rfl rfl ?_
  refine j_getI X fg_RX12_78 ln_89 ly_89 rfl dX12_failed_1 ?_
  refine j_join (pcJ := 20) (lsJ := fun q2 => [some (.ref 89)]) (stJ := fun q2 => []) h (fun q2 σ3 h => ?_) (fun k1 hk1 h => ?_)
  · refine j_aload_n X 0 dX12_failed_20 rfl rfl ?_
    refine j_iconst (v := 0) X dX12_failed_21 (by decide) ?_
    refine j_put X fp_RX12_74 ln_89 ly_89 rfl rfl rfl dX12_failed_22 h (fun σ4 h => ?_)
    refine j_aload_n X 0 dX12_failed_25 rfl rfl ?_
    refine j_aload_n X 0 dX12_failed_26 rfl rfl ?_
    refine j_getI X fg_RX12_78 ln_89 ly_89 rfl dX12_failed_27 ?_
    refine j_join (pcJ := 44) (lsJ := fun q6 => [some (.ref 89)]) (stJ := fun q6 => [.int q6, .ref 89]) h (fun q6 σ7 h => ?_) (fun k5 hk5 h => ?_)
    · refine j_put X fp_RX12_116 ln_89 ly_89 rfl rfl rfl dX12_failed_44 h (fun σ8 h => ?_)
      refine j_aload_n X 0 dX12_failed_47 rfl rfl ?_
      refine j_getI X fg_RX12_78 ln_89 ly_89 rfl dX12_failed_48 ?_
      refine j_if_le (tgt := 58) X dX12_failed_51 (by decide) h (fun h => ?_) (fun h => ?_)
      · refine j_iconst (v := 0) X dX12_failed_58 (by decide) ?_
        obtain ⟨rfl, rfl⟩ := jin2 h
        exact j_zret X R0 rfl dX12_failed_59
      · refine j_iconst (v := 1) X dX12_failed_54 (by decide) ?_
        refine j_goto (tgt := 59) X dX12_failed_55 (by decide) ?_
        obtain ⟨rfl, rfl⟩ := jin2 h
        exact j_zret X R0 rfl dX12_failed_59
    · refine j_if_le (tgt := 40) X dX12_failed_30 (by decide) h (fun h => ?_) (fun h => ?_)
      · refine j_aload_n X 0 dX12_failed_40 rfl rfl ?_
        refine j_getI X fg_RX12_116 ln_89 ly_89 rfl dX12_failed_41 ?_
        exact hk5 (σ4.1 89 18) σ4 h
      · refine j_aload_n X 0 dX12_failed_33 rfl rfl ?_
        refine j_getI X fg_RX12_78 ln_89 ly_89 rfl dX12_failed_34 ?_
        refine j_goto (tgt := 44) X dX12_failed_37 (by decide) ?_
        exact hk5 (σ4.1 89 16) σ4 h
  · refine j_if_ne (tgt := 20) X dX12_failed_4 (by decide) h (fun h => ?_) (fun h => ?_)
    · exact hk1 () σ h
    · refine j_aload_n X 0 dX12_failed_7 rfl rfl ?_
      refine j_getI X fg_RX12_102 ln_89 ly_89 rfl dX12_failed_8 ?_
      refine j_iconst (v := 1) X dX12_failed_11 (by decide) ?_
      refine j_icmp_eq (tgt := 20) X dX12_failed_12 (by decide) h (fun h => ?_) (fun h => ?_)
      · exact hk1 () σ h
      · refine j_aload_n X 0 dX12_failed_15 rfl rfl ?_
        refine j_iconst (v := 1) X dX12_failed_16 (by decide) ?_
        obtain ⟨σ9, hm10, h⟩ := jbv_some h
        refine j_callV (as := [.int (1 : Int32)]) (st := []) (st1 := []) X ln_89 ly_89 rfl rfl sv_RX12_105 ⟨by decide, by decide⟩ rfl rfl (Nat.le_of_ble_eq_true rfl) rfl dX12_failed_17 jrv_v (c_X12_bad  hm10) rfl ?_
        exact hk1 () σ9 h
def f_X12_fault  (σ : jMem) : Option (Int32 × jMem) :=
  jlet (jset σ 89 0 (0 : Int32)) (fun σ1 =>
  some (((σ1.1 89 18), σ1)))
set_option maxRecDepth 100000 in
set_option maxHeartbeats 4000000 in
theorem c_X12_fault {l : Launch} {D : va_G} {ad : Nat → Nat} {cid : Nat → ClassId}   {σ : jMem} {r : Int32} {σ' : jMem} (h : f_X12_fault  σ = some (r, σ')) : jMet l D ad cid yX12_fault cX12_fault 1 (some .int) 0 0 [.ref 89] σ (some (.int r)) σ' := by
  refine jMet_of (ls0 := [some (.ref 89)]) (by decide) (Nat.le_of_ble_eq_true rfl) rfl (fun K X R0 _ => ?_)
  unfold f_X12_fault at h
  refine j_aload_n X 0 dX12_fault_0 rfl rfl ?_
  refine j_iconst (v := 0) X dX12_fault_1 (by decide) ?_
  refine j_put X fp_RX12_47 ln_89 ly_89 rfl rfl rfl dX12_fault_2 h (fun σ1 h => ?_)
  refine j_aload_n X 0 dX12_fault_5 rfl rfl ?_
  refine j_getI X fg_RX12_116 ln_89 ly_89 rfl dX12_fault_6 ?_
  obtain ⟨rfl, rfl⟩ := jin2 h
  exact j_iret X R0 dX12_fault_9
def f_X12_kindBy (a0 : Int32) (σ : jMem) : Option (Int32 × jMem) :=
  if ¬ a0 = (110 : Int32) then
  if ¬ a0 = (99 : Int32) then
  if ¬ a0 = (102 : Int32) then
  if ¬ a0 = (115 : Int32) then
  if ¬ a0 = (109 : Int32) then
  some (((-1000000 : Int32), σ))
else
  some (((5 : Int32), σ))
else
  some (((4 : Int32), σ))
else
  some (((3 : Int32), σ))
else
  some (((2 : Int32), σ))
else
  some (((1 : Int32), σ))
set_option maxRecDepth 100000 in
set_option maxHeartbeats 4000000 in
theorem c_X12_kindBy {l : Launch} {D : va_G} {ad : Nat → Nat} {cid : Nat → ClassId} {a0 : Int32}  {σ : jMem} {r : Int32} {σ' : jMem} (h : f_X12_kindBy a0 σ = some (r, σ')) : jMet l D ad cid yX12_kindBy cX12_kindBy 1 (some .int) 0 0 [.int a0] σ (some (.int r)) σ' := by
  refine jMet_of (ls0 := [some (.int a0)]) (by decide) (Nat.le_of_ble_eq_true rfl) rfl (fun K X R0 _ => ?_)
  unfold f_X12_kindBy at h
  refine j_iload_n X 0 dX12_kindBy_0 rfl rfl ?_
  refine j_bipush (v := 110) X dX12_kindBy_1 (by decide) ?_
  refine j_icmp_ne (tgt := 10) X dX12_kindBy_3 (by decide) h (fun h => ?_) (fun h => ?_)
  · refine j_iload_n X 0 dX12_kindBy_10 rfl rfl ?_
    refine j_bipush (v := 99) X dX12_kindBy_11 (by decide) ?_
    refine j_icmp_ne (tgt := 20) X dX12_kindBy_13 (by decide) h (fun h => ?_) (fun h => ?_)
    · refine j_iload_n X 0 dX12_kindBy_20 rfl rfl ?_
      refine j_bipush (v := 102) X dX12_kindBy_21 (by decide) ?_
      refine j_icmp_ne (tgt := 30) X dX12_kindBy_23 (by decide) h (fun h => ?_) (fun h => ?_)
      · refine j_iload_n X 0 dX12_kindBy_30 rfl rfl ?_
        refine j_bipush (v := 115) X dX12_kindBy_31 (by decide) ?_
        refine j_icmp_ne (tgt := 40) X dX12_kindBy_33 (by decide) h (fun h => ?_) (fun h => ?_)
        · refine j_iload_n X 0 dX12_kindBy_40 rfl rfl ?_
          refine j_bipush (v := 109) X dX12_kindBy_41 (by decide) ?_
          refine j_icmp_ne (tgt := 50) X dX12_kindBy_43 (by decide) h (fun h => ?_) (fun h => ?_)
          · refine j_ldc (v := -1000000) X tw_988 dX12_kindBy_50 ?_
            obtain ⟨rfl, rfl⟩ := jin2 h
            exact j_iret X R0 dX12_kindBy_52
          · refine j_iconst (v := 5) X dX12_kindBy_46 (by decide) ?_
            refine j_goto (tgt := 52) X dX12_kindBy_47 (by decide) ?_
            obtain ⟨rfl, rfl⟩ := jin2 h
            exact j_iret X R0 dX12_kindBy_52
        · refine j_iconst (v := 4) X dX12_kindBy_36 (by decide) ?_
          refine j_goto (tgt := 52) X dX12_kindBy_37 (by decide) ?_
          obtain ⟨rfl, rfl⟩ := jin2 h
          exact j_iret X R0 dX12_kindBy_52
      · refine j_iconst (v := 3) X dX12_kindBy_26 (by decide) ?_
        refine j_goto (tgt := 52) X dX12_kindBy_27 (by decide) ?_
        obtain ⟨rfl, rfl⟩ := jin2 h
        exact j_iret X R0 dX12_kindBy_52
    · refine j_iconst (v := 2) X dX12_kindBy_16 (by decide) ?_
      refine j_goto (tgt := 52) X dX12_kindBy_17 (by decide) ?_
      obtain ⟨rfl, rfl⟩ := jin2 h
      exact j_iret X R0 dX12_kindBy_52
  · refine j_iconst (v := 1) X dX12_kindBy_6 (by decide) ?_
    refine j_goto (tgt := 52) X dX12_kindBy_7 (by decide) ?_
    obtain ⟨rfl, rfl⟩ := jin2 h
    exact j_iret X R0 dX12_kindBy_52
def X12_isTold_L6_b (p1 : Int32) (p2 : Int64) (rec : Int32 × Int32 → jMem → Option ((Int32) × jMem)) (x4 : Int32) (x5 : Int32) (σ : jMem) : Option ((Int32) × jMem) :=
  jld σ 94 67 (3 : Int32) (fun v1 =>
  if v1 ≤ x5 then
  some (x4, σ)
else
  jlet (((7 : Int32) + ((3 : Int32) * x5))) (fun v2 =>
  if ¬ x4 = 0 then
  rec ((1 : Int32), (x5 + 1)) σ
else
  jld σ 94 67 v2 (fun v3 =>
  jj (fun (q5 : Unit) σ6 =>
  jld σ6 94 67 v2 (fun v7 =>
  if ¬ (lg_cmp ((v7).toInt64) p2) = 0 then
  rec ((0 : Int32), (x5 + 1)) σ6
else
  jld σ6 94 67 (v2 + (1 : Int32)) (fun v8 =>
  if ¬ v8 = p1 then
  rec ((0 : Int32), (x5 + 1)) σ6
else
  rec ((1 : Int32), (x5 + 1)) σ6))) (fun k4 =>
  if ¬ v3 = p1 then
  k4 () σ
else
  jld σ 94 67 (v2 + (1 : Int32)) (fun v9 =>
  if (lg_cmp ((v9).toInt64) p2) = 0 then
  rec ((1 : Int32), (x5 + 1)) σ
else
  k4 () σ)))))
def X12_isTold_L6 (p1 : Int32) (p2 : Int64) : Nat → Int32 × Int32 → jMem → Option ((Int32) × jMem) := jloop (fun rec s σ => X12_isTold_L6_b p1 p2 rec s.1 s.2 σ)
set_option maxRecDepth 100000 in
set_option maxHeartbeats 4000000 in
theorem X12_isTold_L6_bok {K : jK} (X : JX K cX12_isTold 7 RX12 0 0) {p1 : Int32} {p2 : Int64}  {rec : Int32 × Int32 → jMem → Option ((Int32) × jMem)} (ih : ∀ (s : Int32 × Int32) (σ : jMem) (o : (Int32) × jMem), rec s σ = some o → (J K 96 [none, none, none, none, some (.int o.1), none, none] [] o.2) → J K 6 [some (.ref 89), some (.int p1), some (.long p2), none, some (.int s.1), some (.int s.2), none] [] σ) : ∀ (x4 : Int32) (x5 : Int32) (σ : jMem) (o : (Int32) × jMem), X12_isTold_L6_b p1 p2 rec x4 x5 σ = some o → (J K 96 [none, none, none, none, some (.int o.1), none, none] [] o.2) → J K 6 [some (.ref 89), some (.int p1), some (.long p2), none, some (.int x4), some (.int x5), none] [] σ := by
  intro x4 x5 σ o h kk
  unfold X12_isTold_L6_b at h
  refine j_iload X dX12_isTold_6 rfl ?_
  refine j_aload_n X 0 dX12_isTold_8 rfl rfl ?_
  refine j_getR (t := 94) X fg_RX12_22 ln_89 ly_89 rfl dX12_isTold_9 ?_
  refine j_iconst (v := 3) X dX12_isTold_12 (by decide) ?_
  refine j_iaload X ln_94 ly_94 dX12_isTold_13 h (fun v1 h => ?_)
  refine j_icmp_ge (tgt := 96) X dX12_isTold_14 (by decide) h (fun h => ?_) (fun h => ?_)
  · obtain rfl := Option.some.inj h
    exact j_sub (ls' := [none, none, none, none, some (.int x4), none, none]) ⟨Or.inl rfl, Or.inl rfl, Or.inl rfl, Or.inl rfl, Or.inr rfl, Or.inl rfl, Or.inl rfl, trivial⟩ kk
  · refine j_bipush (v := 7) X dX12_isTold_17 (by decide) ?_
    refine j_iconst (v := 3) X dX12_isTold_19 (by decide) ?_
    refine j_iload X dX12_isTold_20 rfl ?_
    refine j_imul X dX12_isTold_22 ?_
    refine j_iadd X dX12_isTold_23 ?_
    refine j_letI h (fun v2 h => ?_)
    refine j_istore (ls' := [some (.ref 89), some (.int p1), some (.long p2), none, some (.int x4), some (.int x5), some (.int v2)]) X dX12_isTold_24 (Nat.le_of_ble_eq_true rfl) rfl ?_
    refine j_iload X dX12_isTold_26 rfl ?_
    refine j_if_ne (tgt := 83) X dX12_isTold_28 (by decide) h (fun h => ?_) (fun h => ?_)
    · refine j_iconst (v := 1) X dX12_isTold_83 (by decide) ?_
      refine j_goto (tgt := 88) X dX12_isTold_84 (by decide) ?_
      refine j_istore (ls' := [some (.ref 89), some (.int p1), some (.long p2), none, some (.int (1 : Int32)), some (.int x5), some (.int v2)]) X dX12_isTold_88 (Nat.le_of_ble_eq_true rfl) rfl ?_
      refine j_iinc (v := (x5 + 1)) (ls' := [some (.ref 89), some (.int p1), some (.long p2), none, some (.int (1 : Int32)), some (.int (x5 + 1)), some (.int v2)]) X dX12_isTold_90 rfl rfl (Nat.le_of_ble_eq_true rfl) rfl ?_
      refine j_goto (tgt := 6) X dX12_isTold_93 (by decide) ?_
      exact j_sub (ls' := [some (.ref 89), some (.int p1), some (.long p2), none, some (.int (1 : Int32)), some (.int (x5 + 1)), none]) ⟨Or.inr rfl, Or.inr rfl, Or.inr rfl, Or.inl rfl, Or.inr rfl, Or.inr rfl, Or.inl rfl, trivial⟩ (ih ((1 : Int32), (x5 + 1)) σ _ h kk)
    · refine j_aload_n X 0 dX12_isTold_31 rfl rfl ?_
      refine j_getR (t := 94) X fg_RX12_22 ln_89 ly_89 rfl dX12_isTold_32 ?_
      refine j_iload X dX12_isTold_35 rfl ?_
      refine j_iaload X ln_94 ly_94 dX12_isTold_37 h (fun v3 h => ?_)
      refine j_iload_n X 1 dX12_isTold_38 rfl rfl ?_
      refine j_join (pcJ := 57) (lsJ := fun q5 => [some (.ref 89), some (.int p1), some (.long p2), none, none, some (.int x5), some (.int v2)]) (stJ := fun q5 => []) h (fun q5 σ6 h => ?_) (fun k4 hk4 h => ?_)
      · refine j_aload_n X 0 dX12_isTold_57 rfl rfl ?_
        refine j_getR (t := 94) X fg_RX12_22 ln_89 ly_89 rfl dX12_isTold_58 ?_
        refine j_iload X dX12_isTold_61 rfl ?_
        refine j_iaload X ln_94 ly_94 dX12_isTold_63 h (fun v7 h => ?_)
        refine j_i2l X dX12_isTold_64 ?_
        refine j_lload_n X 2 dX12_isTold_65 rfl rfl ?_
        refine j_lcmp X dX12_isTold_66 ?_
        refine j_if_ne (tgt := 87) X dX12_isTold_67 (by decide) h (fun h => ?_) (fun h => ?_)
        · refine j_iconst (v := 0) X dX12_isTold_87 (by decide) ?_
          refine j_istore (ls' := [some (.ref 89), some (.int p1), some (.long p2), none, some (.int (0 : Int32)), some (.int x5), some (.int v2)]) X dX12_isTold_88 (Nat.le_of_ble_eq_true rfl) rfl ?_
          refine j_iinc (v := (x5 + 1)) (ls' := [some (.ref 89), some (.int p1), some (.long p2), none, some (.int (0 : Int32)), some (.int (x5 + 1)), some (.int v2)]) X dX12_isTold_90 rfl rfl (Nat.le_of_ble_eq_true rfl) rfl ?_
          refine j_goto (tgt := 6) X dX12_isTold_93 (by decide) ?_
          exact j_sub (ls' := [some (.ref 89), some (.int p1), some (.long p2), none, some (.int (0 : Int32)), some (.int (x5 + 1)), none]) ⟨Or.inr rfl, Or.inr rfl, Or.inr rfl, Or.inl rfl, Or.inr rfl, Or.inr rfl, Or.inl rfl, trivial⟩ (ih ((0 : Int32), (x5 + 1)) σ6 _ h kk)
        · refine j_aload_n X 0 dX12_isTold_70 rfl rfl ?_
          refine j_getR (t := 94) X fg_RX12_22 ln_89 ly_89 rfl dX12_isTold_71 ?_
          refine j_iload X dX12_isTold_74 rfl ?_
          refine j_iconst (v := 1) X dX12_isTold_76 (by decide) ?_
          refine j_iadd X dX12_isTold_77 ?_
          refine j_iaload X ln_94 ly_94 dX12_isTold_78 h (fun v8 h => ?_)
          refine j_iload_n X 1 dX12_isTold_79 rfl rfl ?_
          refine j_icmp_ne (tgt := 87) X dX12_isTold_80 (by decide) h (fun h => ?_) (fun h => ?_)
          · refine j_iconst (v := 0) X dX12_isTold_87 (by decide) ?_
            refine j_istore (ls' := [some (.ref 89), some (.int p1), some (.long p2), none, some (.int (0 : Int32)), some (.int x5), some (.int v2)]) X dX12_isTold_88 (Nat.le_of_ble_eq_true rfl) rfl ?_
            refine j_iinc (v := (x5 + 1)) (ls' := [some (.ref 89), some (.int p1), some (.long p2), none, some (.int (0 : Int32)), some (.int (x5 + 1)), some (.int v2)]) X dX12_isTold_90 rfl rfl (Nat.le_of_ble_eq_true rfl) rfl ?_
            refine j_goto (tgt := 6) X dX12_isTold_93 (by decide) ?_
            exact j_sub (ls' := [some (.ref 89), some (.int p1), some (.long p2), none, some (.int (0 : Int32)), some (.int (x5 + 1)), none]) ⟨Or.inr rfl, Or.inr rfl, Or.inr rfl, Or.inl rfl, Or.inr rfl, Or.inr rfl, Or.inl rfl, trivial⟩ (ih ((0 : Int32), (x5 + 1)) σ6 _ h kk)
          · refine j_iconst (v := 1) X dX12_isTold_83 (by decide) ?_
            refine j_goto (tgt := 88) X dX12_isTold_84 (by decide) ?_
            refine j_istore (ls' := [some (.ref 89), some (.int p1), some (.long p2), none, some (.int (1 : Int32)), some (.int x5), some (.int v2)]) X dX12_isTold_88 (Nat.le_of_ble_eq_true rfl) rfl ?_
            refine j_iinc (v := (x5 + 1)) (ls' := [some (.ref 89), some (.int p1), some (.long p2), none, some (.int (1 : Int32)), some (.int (x5 + 1)), some (.int v2)]) X dX12_isTold_90 rfl rfl (Nat.le_of_ble_eq_true rfl) rfl ?_
            refine j_goto (tgt := 6) X dX12_isTold_93 (by decide) ?_
            exact j_sub (ls' := [some (.ref 89), some (.int p1), some (.long p2), none, some (.int (1 : Int32)), some (.int (x5 + 1)), none]) ⟨Or.inr rfl, Or.inr rfl, Or.inr rfl, Or.inl rfl, Or.inr rfl, Or.inr rfl, Or.inl rfl, trivial⟩ (ih ((1 : Int32), (x5 + 1)) σ6 _ h kk)
      · refine j_icmp_ne (tgt := 57) X dX12_isTold_39 (by decide) h (fun h => ?_) (fun h => ?_)
        · exact j_sub (ls' := [some (.ref 89), some (.int p1), some (.long p2), none, none, some (.int x5), some (.int v2)]) ⟨Or.inr rfl, Or.inr rfl, Or.inr rfl, Or.inl rfl, Or.inl rfl, Or.inr rfl, Or.inr rfl, trivial⟩ (hk4 () σ h)
        · refine j_aload_n X 0 dX12_isTold_42 rfl rfl ?_
          refine j_getR (t := 94) X fg_RX12_22 ln_89 ly_89 rfl dX12_isTold_43 ?_
          refine j_iload X dX12_isTold_46 rfl ?_
          refine j_iconst (v := 1) X dX12_isTold_48 (by decide) ?_
          refine j_iadd X dX12_isTold_49 ?_
          refine j_iaload X ln_94 ly_94 dX12_isTold_50 h (fun v9 h => ?_)
          refine j_i2l X dX12_isTold_51 ?_
          refine j_lload_n X 2 dX12_isTold_52 rfl rfl ?_
          refine j_lcmp X dX12_isTold_53 ?_
          refine j_if_eq (tgt := 83) X dX12_isTold_54 (by decide) h (fun h => ?_) (fun h => ?_)
          · refine j_iconst (v := 1) X dX12_isTold_83 (by decide) ?_
            refine j_goto (tgt := 88) X dX12_isTold_84 (by decide) ?_
            refine j_istore (ls' := [some (.ref 89), some (.int p1), some (.long p2), none, some (.int (1 : Int32)), some (.int x5), some (.int v2)]) X dX12_isTold_88 (Nat.le_of_ble_eq_true rfl) rfl ?_
            refine j_iinc (v := (x5 + 1)) (ls' := [some (.ref 89), some (.int p1), some (.long p2), none, some (.int (1 : Int32)), some (.int (x5 + 1)), some (.int v2)]) X dX12_isTold_90 rfl rfl (Nat.le_of_ble_eq_true rfl) rfl ?_
            refine j_goto (tgt := 6) X dX12_isTold_93 (by decide) ?_
            exact j_sub (ls' := [some (.ref 89), some (.int p1), some (.long p2), none, some (.int (1 : Int32)), some (.int (x5 + 1)), none]) ⟨Or.inr rfl, Or.inr rfl, Or.inr rfl, Or.inl rfl, Or.inr rfl, Or.inr rfl, Or.inl rfl, trivial⟩ (ih ((1 : Int32), (x5 + 1)) σ _ h kk)
          · exact j_sub (ls' := [some (.ref 89), some (.int p1), some (.long p2), none, none, some (.int x5), some (.int v2)]) ⟨Or.inr rfl, Or.inr rfl, Or.inr rfl, Or.inl rfl, Or.inl rfl, Or.inr rfl, Or.inr rfl, trivial⟩ (hk4 () σ h)
theorem X12_isTold_L6_ok {K : jK} (X : JX K cX12_isTold 7 RX12 0 0) {p1 : Int32} {p2 : Int64}  : ∀ (n : Nat) (s : Int32 × Int32) (σ : jMem) (o : (Int32) × jMem), X12_isTold_L6 p1 p2 n s σ = some o → (J K 96 [none, none, none, none, some (.int o.1), none, none] [] o.2) → J K 6 [some (.ref 89), some (.int p1), some (.long p2), none, some (.int s.1), some (.int s.2), none] [] σ := by
  intro n
  induction n with
  | zero => intro s σ o h; cases h
  | succ n ih => intro s σ o h; exact X12_isTold_L6_bok X  ih (s.1) (s.2) σ o h
def f_X12_isTold (a0 : Int32) (a1 : Int64) (σ : jMem) : Option (Int32 × jMem) :=
  jbd (X12_isTold_L6 (a0) (a1) jFU ((0 : Int32), (0 : Int32)) σ) (fun q10 σ11 =>
  jck (jisb q10 = true) (some ((q10, σ11))))
set_option maxRecDepth 100000 in
set_option maxHeartbeats 4000000 in
theorem c_X12_isTold {l : Launch} {D : va_G} {ad : Nat → Nat} {cid : Nat → ClassId} {a0 : Int32} {a1 : Int64}  {σ : jMem} {r : Int32} {σ' : jMem} (h : f_X12_isTold a0 a1 σ = some (r, σ')) : jMet l D ad cid yX12_isTold cX12_isTold 7 (some .boolean) 0 0 [.ref 89, .int a0, .long a1] σ (some (.int r)) σ' := by
  refine jMet_of (ls0 := [some (.ref 89), some (.int a0), some (.long a1), none, none, none, none]) (by decide) (Nat.le_of_ble_eq_true rfl) rfl (fun K X R0 _ => ?_)
  unfold f_X12_isTold at h
  refine j_iconst (v := 0) X dX12_isTold_0 (by decide) ?_
  refine j_istore (ls' := [some (.ref 89), some (.int a0), some (.long a1), none, some (.int (0 : Int32)), none, none]) X dX12_isTold_1 (Nat.le_of_ble_eq_true rfl) rfl ?_
  refine j_iconst (v := 0) X dX12_isTold_3 (by decide) ?_
  refine j_istore (ls' := [some (.ref 89), some (.int a0), some (.long a1), none, some (.int (0 : Int32)), some (.int (0 : Int32)), none]) X dX12_isTold_4 (Nat.le_of_ble_eq_true rfl) rfl ?_
  obtain ⟨q10, σ11, hL13, h⟩ := jbd_some h
  refine X12_isTold_L6_ok X  jFU ((0 : Int32), (0 : Int32)) σ _ hL13 ?_
  refine j_iload X dX12_isTold_96 rfl ?_
  obtain ⟨hc12, h⟩ := jck_some h
  obtain ⟨rfl, rfl⟩ := jin2 h
  exact j_zret X R0 hc12 dX12_isTold_98
