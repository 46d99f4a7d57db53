theorem ss_RX12_61 : jSiS RX12 61 yX12_isRow cX12_isRow 1 (some .boolean) 1 := ⟨tw_940, tw_941, tw_13, tw_942, by decide, by decide, by decide +kernel⟩
theorem sv_RX12_68 : jSiV RX12 68 yX12_finding cX12_finding 2 (some .int) 1 := ⟨tw_949, tw_951, ts_21, tw_13, tw_952, by decide, by decide, by decide +kernel⟩
def X12_row_L65_b (p1 : Int32) (p3 : Int32) (rec : Int32 → jMem → Option ((Unit) × jMem)) (x4 : Int32) (σ : jMem) : Option ((Unit) × jMem) :=
  if (40 : Int32) ≤ x4 then
  some ((), σ)
else
  jst σ 92 320 (((40 : Int32) * p1) + x4) (0 : Int32) (fun σ11 =>
  rec (x4 + 1) σ11)
def X12_row_L65 (p1 : Int32) (p3 : Int32) : Nat → Int32 → jMem → Option ((Unit) × jMem) := jloop (fun rec s σ => X12_row_L65_b p1 p3 rec s σ)
set_option maxRecDepth 100000 in
set_option maxHeartbeats 4000000 in
theorem X12_row_L65_bok {K : jK} (X : JX K cX12_row 5 RX12 2 45) {p1 : Int32} {p3 : Int32}  {rec : Int32 → jMem → Option ((Unit) × jMem)} (ih : ∀ (s : Int32) (σ : jMem) (o : (Unit) × jMem), rec s σ = some o → (J K 91 [none, none, none, some (.int p3), none] [] o.2) → J K 65 [some (.ref 89), some (.int p1), none, some (.int p3), some (.int s)] [] σ) : ∀ (x4 : Int32) (σ : jMem) (o : (Unit) × jMem), X12_row_L65_b p1 p3 rec x4 σ = some o → (J K 91 [none, none, none, some (.int p3), none] [] o.2) → J K 65 [some (.ref 89), some (.int p1), none, some (.int p3), some (.int x4)] [] σ := by
  intro x4 σ o h kk
  unfold X12_row_L65_b at h
  refine j_iload X dX12_row_65 rfl ?_
  refine j_bipush (v := 40) X dX12_row_67 (by decide) ?_
  refine j_icmp_ge (tgt := 91) X dX12_row_69 (by decide) h (fun h => ?_) (fun h => ?_)
  · obtain rfl := Option.some.inj h
    exact j_sub (ls' := [none, none, none, some (.int p3), none]) ⟨Or.inl rfl, Or.inl rfl, Or.inl rfl, Or.inr rfl, Or.inl rfl, trivial⟩ kk
  · refine j_aload_n X 0 dX12_row_72 rfl rfl ?_
    refine j_getR (t := 92) X fg_RX12_16 ln_89 ly_89 rfl dX12_row_73 ?_
    refine j_bipush (v := 40) X dX12_row_76 (by decide) ?_
    refine j_iload_n X 1 dX12_row_78 rfl rfl ?_
    refine j_imul X dX12_row_79 ?_
    refine j_iload X dX12_row_80 rfl ?_
    refine j_iadd X dX12_row_82 ?_
    refine j_iconst (v := 0) X dX12_row_83 (by decide) ?_
    refine j_iastore X ln_92 ly_92 dX12_row_84 h (fun σ11 h => ?_)
    refine j_iinc (v := (x4 + 1)) (ls' := [some (.ref 89), some (.int p1), none, some (.int p3), some (.int (x4 + 1))]) X dX12_row_85 rfl rfl (Nat.le_of_ble_eq_true rfl) rfl ?_
    refine j_goto (tgt := 65) X dX12_row_88 (by decide) ?_
    exact ih (x4 + 1) σ11 _ h kk
theorem X12_row_L65_ok {K : jK} (X : JX K cX12_row 5 RX12 2 45) {p1 : Int32} {p3 : Int32}  : ∀ (n : Nat) (s : Int32) (σ : jMem) (o : (Unit) × jMem), X12_row_L65 p1 p3 n s σ = some o → (J K 91 [none, none, none, some (.int p3), none] [] o.2) → J K 65 [some (.ref 89), some (.int p1), none, some (.int p3), some (.int s)] [] σ := by
  intro n
  induction n with
  | zero => intro s σ o h; cases h
  | succ n ih => intro s σ o h; exact X12_row_L65_bok X  ih (s) σ o h
def f_X12_row (a0 : Int32) (a1 : Int32) (a2 : Int32) (σ : jMem) : Option (Int32 × jMem) :=
  jlet (jset σ 89 0 (0 : Int32)) (fun σ1 =>
  jbd (f_X12_isRow a0 σ1) (fun v2 σ3 =>
  if v2 = 0 then
  some (((-1000001 : Int32), σ3))
else
  jbd (f_X12_in ((a1).toInt64) (0 : Int64) (2 : Int64) σ3) (fun v5 σ6 =>
  if v5 = 0 then
  some (((-1000001 : Int32), σ6))
else
  if a2 ≤ (40 : Int32) then
  jlet (jset σ6 89 1 (0 : Int32)) (fun σ8 =>
  if 0 ≤ a2 then
  jst σ8 90 8 a0 a1 (fun σ9 =>
  jst σ9 91 8 a0 a2 (fun σ10 =>
  jbd (X12_row_L65 (a0) (a2) jFU (0 : Int32) σ10) (fun q12 σ13 =>
  some ((a2, σ13)))))
else
  jbd (f_X12_finding (4 : Int32) σ8) (fun v15 σ16 =>
  some ((v15, σ16))))
else
  some (((-1000001 : Int32), σ6)))))
set_option maxRecDepth 100000 in
set_option maxHeartbeats 4000000 in
theorem c_X12_row {l : Launch} {D : va_G} {ad : Nat → Nat} {cid : Nat → ClassId} {a0 : Int32} {a1 : Int32} {a2 : Int32}  {σ : jMem} {r : Int32} {σ' : jMem} (h : f_X12_row a0 a1 a2 σ = some (r, σ')) : jMet l D ad cid yX12_row cX12_row 5 (some .int) 2 45 [.ref 89, .int a0, .int a1, .int a2] σ (some (.int r)) σ' := by
  refine jMet_of (ls0 := [some (.ref 89), some (.int a0), some (.int a1), some (.int a2), none]) (by decide) (Nat.le_of_ble_eq_true rfl) rfl (fun K X R0 _ => ?_)
  unfold f_X12_row at h
  refine j_aload_n X 0 dX12_row_0 rfl rfl ?_
  refine j_iconst (v := 0) X dX12_row_1 (by decide) ?_
  refine j_put X fp_RX12_47 ln_89 ly_89 rfl rfl rfl dX12_row_2 h (fun σ1 h => ?_)
  refine j_iload_n X 1 dX12_row_5 rfl rfl ?_
  obtain ⟨v2, σ3, hm4, h⟩ := jbd_some h
  refine j_callS (as := [.int a0]) (st := []) (st1 := [.int v2]) X ss_RX12_61 ⟨by decide, by decide⟩ rfl rfl (Nat.le_of_ble_eq_true rfl) rfl dX12_row_6 jrv_i (c_X12_isRow  hm4) rfl ?_
  refine j_if_eq (tgt := 30) X dX12_row_9 (by decide) h (fun h => ?_) (fun h => ?_)
  · refine j_ldc (v := -1000001) X tw_948 dX12_row_30 ?_
    obtain ⟨rfl, rfl⟩ := jin2 h
    exact j_iret X R0 dX12_row_32
  · refine j_iload_n X 2 dX12_row_12 rfl rfl ?_
    refine j_i2l X dX12_row_13 ?_
    refine j_lconst (v := 0) X dX12_row_14 (by decide) ?_
    refine j_ldc2_w (v := 2) X tw_947 dX12_row_15 ?_
    obtain ⟨v5, σ6, hm7, h⟩ := jbd_some h
    refine j_callS (as := [.long ((a1).toInt64), .long (0 : Int64), .long (2 : Int64)]) (st := []) (st1 := [.int v5]) X ss_RX12_57 ⟨by decide, by decide⟩ rfl rfl (Nat.le_of_ble_eq_true rfl) rfl dX12_row_18 jrv_i (c_X12_in  hm7) rfl ?_
    refine j_if_eq (tgt := 30) X dX12_row_21 (by decide) h (fun h => ?_) (fun h => ?_)
    · refine j_ldc (v := -1000001) X tw_948 dX12_row_30 ?_
      obtain ⟨rfl, rfl⟩ := jin2 h
      exact j_iret X R0 dX12_row_32
    · refine j_iload_n X 3 dX12_row_24 rfl rfl ?_
      refine j_bipush (v := 40) X dX12_row_25 (by decide) ?_
      refine j_icmp_le (tgt := 33) X dX12_row_27 (by decide) h (fun h => ?_) (fun h => ?_)
      · refine j_aload_n X 0 dX12_row_33 rfl rfl ?_
        refine j_iconst (v := 0) X dX12_row_34 (by decide) ?_
        refine j_put X fp_RX12_51 ln_89 ly_89 rfl rfl rfl dX12_row_35 h (fun σ8 h => ?_)
        refine j_iload_n X 3 dX12_row_38 rfl rfl ?_
        refine j_if_ge (tgt := 48) X dX12_row_39 (by decide) h (fun h => ?_) (fun h => ?_)
        · refine j_aload_n X 0 dX12_row_48 rfl rfl ?_
          refine j_getR (t := 90) X fg_RX12_7 ln_89 ly_89 rfl dX12_row_49 ?_
          refine j_iload_n X 1 dX12_row_52 rfl rfl ?_
          refine j_iload_n X 2 dX12_row_53 rfl rfl ?_
          refine j_iastore X ln_90 ly_90 dX12_row_54 h (fun σ9 h => ?_)
          refine j_aload_n X 0 dX12_row_55 rfl rfl ?_
          refine j_getR (t := 91) X fg_RX12_13 ln_89 ly_89 rfl dX12_row_56 ?_
          refine j_iload_n X 1 dX12_row_59 rfl rfl ?_
          refine j_iload_n X 3 dX12_row_60 rfl rfl ?_
          refine j_iastore X ln_91 ly_91 dX12_row_61 h (fun σ10 h => ?_)
          refine j_iconst (v := 0) X dX12_row_62 (by decide) ?_
          refine j_istore (ls' := [some (.ref 89), some (.int a0), some (.int a1), some (.int a2), some (.int (0 : Int32))]) X dX12_row_63 (Nat.le_of_ble_eq_true rfl) rfl ?_
          obtain ⟨q12, σ13, hL14, h⟩ := jbd_some h
          refine j_sub (ls' := [some (.ref 89), some (.int a0), none, some (.int a2), some (.int (0 : Int32))]) ⟨Or.inr rfl, Or.inr rfl, Or.inl rfl, Or.inr rfl, Or.inr rfl, trivial⟩ ?_
          refine X12_row_L65_ok X  jFU (0 : Int32) σ10 _ hL14 ?_
          refine j_iload_n X 3 dX12_row_91 rfl rfl ?_
          obtain ⟨rfl, rfl⟩ := jin2 h
          exact j_iret X R0 dX12_row_92
        · refine j_aload_n X 0 dX12_row_42 rfl rfl ?_
          refine j_iconst (v := 4) X dX12_row_43 (by decide) ?_
          obtain ⟨v15, σ16, hm17, h⟩ := jbd_some h
          refine j_callV (as := [.int (4 : Int32)]) (st := []) (st1 := [.int v15]) X ln_89 ly_89 rfl rfl sv_RX12_68 ⟨by decide, by decide⟩ rfl rfl (Nat.le_of_ble_eq_true rfl) rfl dX12_row_44 jrv_i (c_X12_finding  hm17) rfl ?_
          obtain ⟨rfl, rfl⟩ := jin2 h
          exact j_iret X R0 dX12_row_47
      · refine j_ldc (v := -1000001) X tw_948 dX12_row_30 ?_
        obtain ⟨rfl, rfl⟩ := jin2 h
        exact j_iret X R0 dX12_row_32
def f_X12_set (a0 : Int32) (a1 : Int32) (a2 : Int32) (σ : jMem) : Option (Int32 × jMem) :=
  jlet (jset σ 89 0 (0 : Int32)) (fun σ1 =>
  jbd (f_X12_isRow a0 σ1) (fun v2 σ3 =>
  if ¬ v2 = 0 then
  jlet (jset σ3 89 1 (0 : Int32)) (fun σ5 =>
  jld σ5 90 8 a0 (fun v6 =>
  if 0 ≤ v6 then
  jld σ5 91 8 a0 (fun v7 =>
  jbd (f_X12_in ((a1).toInt64) (0 : Int64) (((v7 - (1 : Int32))).toInt64) σ5) (fun v8 σ9 =>
  if ¬ v8 = 0 then
  jld σ9 90 8 a0 (fun v11 =>
  jj (fun (q13 : Int32) σ14 =>
  jst σ14 92 320 (((40 : Int32) * a0) + a1) q13 (fun σ15 =>
  jld σ15 92 320 (((40 : Int32) * a0) + a1) (fun v16 =>
  some ((v16, σ15))))) (fun k12 =>
  if ¬ v11 = 0 then
  jld σ9 90 8 a0 (fun v17 =>
  if ¬ v17 = (1 : Int32) then
  k12 a2 σ9
else
  k12 ((a2).toInt16.toInt32) σ9)
else
  k12 ((a2).toInt8.toInt32) σ9))
else
  jbd (f_X12_finding (2 : Int32) σ9) (fun v18 σ19 =>
  some ((v18, σ19)))))
else
  jbd (f_X12_finding (1 : Int32) σ5) (fun v21 σ22 =>
  some ((v21, σ22)))))
else
  some (((-1000001 : Int32), σ3))))
set_option maxRecDepth 100000 in
set_option maxHeartbeats 4000000 in
theorem c_X12_set {l : Launch} {D : va_G} {ad : Nat → Nat} {cid : Nat → ClassId} {a0 : Int32} {a1 : Int32} {a2 : Int32}  {σ : jMem} {r : Int32} {σ' : jMem} (h : f_X12_set a0 a1 a2 σ = some (r, σ')) : jMet l D ad cid yX12_set cX12_set 4 (some .int) 2 45 [.ref 89, .int a0, .int a1, .int a2] σ (some (.int r)) σ' := by
  refine jMet_of (ls0 := [some (.ref 89), some (.int a0), some (.int a1), some (.int a2)]) (by decide) (Nat.le_of_ble_eq_true rfl) rfl (fun K X R0 _ => ?_)
  unfold f_X12_set at h
  refine j_aload_n X 0 dX12_set_0 rfl rfl ?_
  refine j_iconst (v := 0) X dX12_set_1 (by decide) ?_
  refine j_put X fp_RX12_47 ln_89 ly_89 rfl rfl rfl dX12_set_2 h (fun σ1 h => ?_)
  refine j_iload_n X 1 dX12_set_5 rfl rfl ?_
  obtain ⟨v2, σ3, hm4, h⟩ := jbd_some h
  refine j_callS (as := [.int a0]) (st := []) (st1 := [.int v2]) X ss_RX12_61 ⟨by decide, by decide⟩ rfl rfl (Nat.le_of_ble_eq_true rfl) rfl dX12_set_6 jrv_i (c_X12_isRow  hm4) rfl ?_
  refine j_if_ne (tgt := 15) X dX12_set_9 (by decide) h (fun h => ?_) (fun h => ?_)
  · refine j_aload_n X 0 dX12_set_15 rfl rfl ?_
    refine j_iconst (v := 0) X dX12_set_16 (by decide) ?_
    refine j_put X fp_RX12_51 ln_89 ly_89 rfl rfl rfl dX12_set_17 h (fun σ5 h => ?_)
    refine j_aload_n X 0 dX12_set_20 rfl rfl ?_
    refine j_getR (t := 90) X fg_RX12_7 ln_89 ly_89 rfl dX12_set_21 ?_
    refine j_iload_n X 1 dX12_set_24 rfl rfl ?_
    refine j_iaload X ln_90 ly_90 dX12_set_25 h (fun v6 h => ?_)
    refine j_if_ge (tgt := 35) X dX12_set_26 (by decide) h (fun h => ?_) (fun h => ?_)
    · refine j_iload_n X 2 dX12_set_35 rfl rfl ?_
      refine j_i2l X dX12_set_36 ?_
      refine j_lconst (v := 0) X dX12_set_37 (by decide) ?_
      refine j_aload_n X 0 dX12_set_38 rfl rfl ?_
      refine j_getR (t := 91) X fg_RX12_13 ln_89 ly_89 rfl dX12_set_39 ?_
      refine j_iload_n X 1 dX12_set_42 rfl rfl ?_
      refine j_iaload X ln_91 ly_91 dX12_set_43 h (fun v7 h => ?_)
      refine j_iconst (v := 1) X dX12_set_44 (by decide) ?_
      refine j_isub X dX12_set_45 ?_
      refine j_i2l X dX12_set_46 ?_
      obtain ⟨v8, σ9, hm10, h⟩ := jbd_some h
      refine j_callS (as := [.long ((a1).toInt64), .long (0 : Int64), .long (((v7 - (1 : Int32))).toInt64)]) (st := []) (st1 := [.int v8]) X ss_RX12_57 ⟨by decide, by decide⟩ rfl rfl (Nat.le_of_ble_eq_true rfl) rfl dX12_set_47 jrv_i (c_X12_in  hm10) rfl ?_
      refine j_if_ne (tgt := 59) X dX12_set_50 (by decide) h (fun h => ?_) (fun h => ?_)
      · refine j_aload_n X 0 dX12_set_59 rfl rfl ?_
        refine j_getR (t := 92) X fg_RX12_16 ln_89 ly_89 rfl dX12_set_60 ?_
        refine j_bipush (v := 40) X dX12_set_63 (by decide) ?_
        refine j_iload_n X 1 dX12_set_65 rfl rfl ?_
        refine j_imul X dX12_set_66 ?_
        refine j_iload_n X 2 dX12_set_67 rfl rfl ?_
        refine j_iadd X dX12_set_68 ?_
        refine j_aload_n X 0 dX12_set_69 rfl rfl ?_
        refine j_getR (t := 90) X fg_RX12_7 ln_89 ly_89 rfl dX12_set_70 ?_
        refine j_iload_n X 1 dX12_set_73 rfl rfl ?_
        refine j_iaload X ln_90 ly_90 dX12_set_74 h (fun v11 h => ?_)
        refine j_join (pcJ := 99) (lsJ := fun q13 => [some (.ref 89), some (.int a0), some (.int a1), none]) (stJ := fun q13 => [.int q13, .int (((40 : Int32) * a0) + a1), .ref 92]) h (fun q13 σ14 h => ?_) (fun k12 hk12 h => ?_)
        · refine j_iastore X ln_92 ly_92 dX12_set_99 h (fun σ15 h => ?_)
          refine j_aload_n X 0 dX12_set_100 rfl rfl ?_
          refine j_getR (t := 92) X fg_RX12_16 ln_89 ly_89 rfl dX12_set_101 ?_
          refine j_bipush (v := 40) X dX12_set_104 (by decide) ?_
          refine j_iload_n X 1 dX12_set_106 rfl rfl ?_
          refine j_imul X dX12_set_107 ?_
          refine j_iload_n X 2 dX12_set_108 rfl rfl ?_
          refine j_iadd X dX12_set_109 ?_
          refine j_iaload X ln_92 ly_92 dX12_set_110 h (fun v16 h => ?_)
          obtain ⟨rfl, rfl⟩ := jin2 h
          exact j_iret X R0 dX12_set_111
        · refine j_if_ne (tgt := 83) X dX12_set_75 (by decide) h (fun h => ?_) (fun h => ?_)
          · refine j_aload_n X 0 dX12_set_83 rfl rfl ?_
            refine j_getR (t := 90) X fg_RX12_7 ln_89 ly_89 rfl dX12_set_84 ?_
            refine j_iload_n X 1 dX12_set_87 rfl rfl ?_
            refine j_iaload X ln_90 ly_90 dX12_set_88 h (fun v17 h => ?_)
            refine j_iconst (v := 1) X dX12_set_89 (by decide) ?_
            refine j_icmp_ne (tgt := 98) X dX12_set_90 (by decide) h (fun h => ?_) (fun h => ?_)
            · refine j_iload_n X 3 dX12_set_98 rfl rfl ?_
              exact j_sub (ls' := [some (.ref 89), some (.int a0), some (.int a1), none]) ⟨Or.inr rfl, Or.inr rfl, Or.inr rfl, Or.inl rfl, trivial⟩ (hk12 a2 σ9 h)
            · refine j_iload_n X 3 dX12_set_93 rfl rfl ?_
              refine j_i2s X dX12_set_94 ?_
              refine j_goto (tgt := 99) X dX12_set_95 (by decide) ?_
              exact j_sub (ls' := [some (.ref 89), some (.int a0), some (.int a1), none]) ⟨Or.inr rfl, Or.inr rfl, Or.inr rfl, Or.inl rfl, trivial⟩ (hk12 ((a2).toInt16.toInt32) σ9 h)
          · refine j_iload_n X 3 dX12_set_78 rfl rfl ?_
            refine j_i2b X dX12_set_79 ?_
            refine j_goto (tgt := 99) X dX12_set_80 (by decide) ?_
            exact j_sub (ls' := [some (.ref 89), some (.int a0), some (.int a1), none]) ⟨Or.inr rfl, Or.inr rfl, Or.inr rfl, Or.inl rfl, trivial⟩ (hk12 ((a2).toInt8.toInt32) σ9 h)
      · refine j_aload_n X 0 dX12_set_53 rfl rfl ?_
        refine j_iconst (v := 2) X dX12_set_54 (by decide) ?_
        obtain ⟨v18, σ19, hm20, h⟩ := jbd_some h
        refine j_callV (as := [.int (2 : Int32)]) (st := []) (st1 := [.int v18]) X ln_89 ly_89 rfl rfl sv_RX12_68 ⟨by decide, by decide⟩ rfl rfl (Nat.le_of_ble_eq_true rfl) rfl dX12_set_55 jrv_i (c_X12_finding  hm20) rfl ?_
        obtain ⟨rfl, rfl⟩ := jin2 h
        exact j_iret X R0 dX12_set_58
    · refine j_aload_n X 0 dX12_set_29 rfl rfl ?_
      refine j_iconst (v := 1) X dX12_set_30 (by decide) ?_
      obtain ⟨v21, σ22, hm23, h⟩ := jbd_some h
      refine j_callV (as := [.int (1 : Int32)]) (st := []) (st1 := [.int v21]) X ln_89 ly_89 rfl rfl sv_RX12_68 ⟨by decide, by decide⟩ rfl rfl (Nat.le_of_ble_eq_true rfl) rfl dX12_set_31 jrv_i (c_X12_finding  hm23) rfl ?_
      obtain ⟨rfl, rfl⟩ := jin2 h
      exact j_iret X R0 dX12_set_34
  · refine j_ldc (v := -1000001) X tw_948 dX12_set_12 ?_
    obtain ⟨rfl, rfl⟩ := jin2 h
    exact j_iret X R0 dX12_set_14
