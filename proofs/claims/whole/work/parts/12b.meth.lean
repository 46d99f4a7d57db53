def f_X12_in (a0 : Int64) (a1 : Int64) (a2 : Int64) (σ : jMem) : Option (Int32 × jMem) :=
  if (lg_cmp a0 a1) < 0 then
  some (((0 : Int32), σ))
else
  if 0 < (lg_cmp a0 a2) then
  some (((0 : Int32), σ))
else
  some (((1 : Int32), σ))
set_option maxRecDepth 100000 in
set_option maxHeartbeats 4000000 in
theorem c_X12_in {l : Launch} {D : va_G} {ad : Nat → Nat} {cid : Nat → ClassId} {a0 : Int64} {a1 : Int64} {a2 : Int64}  {σ : jMem} {r : Int32} {σ' : jMem} (h : f_X12_in a0 a1 a2 σ = some (r, σ')) : jMet l D ad cid yX12_in cX12_in 6 (some .boolean) 0 0 [.long a0, .long a1, .long a2] σ (some (.int r)) σ' := by
  refine jMet_of (ls0 := [some (.long a0), none, some (.long a1), none, some (.long a2), none]) (by decide) (Nat.le_of_ble_eq_true rfl) rfl (fun K X R0 _ => ?_)
  unfold f_X12_in at h
  refine j_lload_n X 0 dX12_in_0 rfl rfl ?_
  refine j_lload_n X 2 dX12_in_1 rfl rfl ?_
  refine j_lcmp X dX12_in_2 ?_
  refine j_if_lt (tgt := 17) X dX12_in_3 (by decide) h (fun h => ?_) (fun h => ?_)
  · refine j_iconst (v := 0) X dX12_in_17 (by decide) ?_
    obtain ⟨rfl, rfl⟩ := jin2 h
    exact j_zret X R0 rfl dX12_in_18
  · refine j_lload_n X 0 dX12_in_6 rfl rfl ?_
    refine j_lload X dX12_in_7 rfl ?_
    refine j_lcmp X dX12_in_9 ?_
    refine j_if_gt (tgt := 17) X dX12_in_10 (by decide) h (fun h => ?_) (fun h => ?_)
    · refine j_iconst (v := 0) X dX12_in_17 (by decide) ?_
      obtain ⟨rfl, rfl⟩ := jin2 h
      exact j_zret X R0 rfl dX12_in_18
    · refine j_iconst (v := 1) X dX12_in_13 (by decide) ?_
      refine j_goto (tgt := 18) X dX12_in_14 (by decide) ?_
      obtain ⟨rfl, rfl⟩ := jin2 h
      exact j_zret X R0 rfl dX12_in_18
def f_X12_finding (a0 : Int32) (σ : jMem) : Option (Int32 × jMem) :=
  jlet (jset σ 89 1 a0) (fun σ1 =>
  some ((((-1000010 : Int32) - a0), σ1)))
set_option maxRecDepth 100000 in
set_option maxHeartbeats 4000000 in
theorem c_X12_finding {l : Launch} {D : va_G} {ad : Nat → Nat} {cid : Nat → ClassId} {a0 : Int32}  {σ : jMem} {r : Int32} {σ' : jMem} (h : f_X12_finding a0 σ = some (r, σ')) : jMet l D ad cid yX12_finding cX12_finding 2 (some .int) 0 0 [.ref 89, .int a0] σ (some (.int r)) σ' := by
  refine jMet_of (ls0 := [some (.ref 89), some (.int a0)]) (by decide) (Nat.le_of_ble_eq_true rfl) rfl (fun K X R0 _ => ?_)
  unfold f_X12_finding at h
  refine j_aload_n X 0 dX12_finding_0 rfl rfl ?_
  refine j_iload_n X 1 dX12_finding_1 rfl rfl ?_
  refine j_put X fp_RX12_51 ln_89 ly_89 rfl rfl rfl dX12_finding_2 h (fun σ1 h => ?_)
  refine j_ldc (v := -1000010) X tw_953 dX12_finding_5 ?_
  refine j_iload_n X 1 dX12_finding_7 rfl rfl ?_
  refine j_isub X dX12_finding_8 ?_
  obtain ⟨rfl, rfl⟩ := jin2 h
  exact j_iret X R0 dX12_finding_9
theorem ss_RX12_57 : jSiS RX12 57 yX12_in cX12_in 6 (some .boolean) 3 := ⟨tw_944, tw_945, tw_13, tw_946, by decide, by decide, by decide +kernel⟩
def f_X12_isRow (a0 : Int32) (σ : jMem) : Option (Int32 × jMem) :=
  jbd (f_X12_in ((a0).toInt64) (0 : Int64) (7 : Int64) σ) (fun v1 σ2 =>
  jck (jisb v1 = true) (some ((v1, σ2))))
set_option maxRecDepth 100000 in
set_option maxHeartbeats 4000000 in
theorem c_X12_isRow {l : Launch} {D : va_G} {ad : Nat → Nat} {cid : Nat → ClassId} {a0 : Int32}  {σ : jMem} {r : Int32} {σ' : jMem} (h : f_X12_isRow a0 σ = some (r, σ')) : jMet l D ad cid yX12_isRow cX12_isRow 1 (some .boolean) 1 25 [.int a0] σ (some (.int r)) σ' := by
  refine jMet_of (ls0 := [some (.int a0)]) (by decide) (Nat.le_of_ble_eq_true rfl) rfl (fun K X R0 _ => ?_)
  unfold f_X12_isRow at h
  refine j_iload_n X 0 dX12_isRow_0 rfl rfl ?_
  refine j_i2l X dX12_isRow_1 ?_
  refine j_lconst (v := 0) X dX12_isRow_2 (by decide) ?_
  refine j_ldc2_w (v := 7) X tw_943 dX12_isRow_3 ?_
  obtain ⟨v1, σ2, hm3, h⟩ := jbd_some h
  refine j_callS (as := [.long ((a0).toInt64), .long (0 : Int64), .long (7 : Int64)]) (st := []) (st1 := [.int v1]) X ss_RX12_57 ⟨by decide, by decide⟩ rfl rfl (Nat.le_of_ble_eq_true rfl) rfl dX12_isRow_6 jrv_i (c_X12_in  hm3) rfl ?_
  obtain ⟨hc4, h⟩ := jck_some h
  obtain ⟨rfl, rfl⟩ := jin2 h
  exact j_zret X R0 hc4 dX12_isRow_9
theorem ss_RX12_61 : jSiS RX12 61 yX12_isRow cX12_isRow 1 (some .boolean) 1 := ⟨tw_940, tw_941, tw_13, tw_942, by decide, by decide, by decide +kernel⟩
theorem sv_RX12_68 : jSiV RX12 68 yX12_finding cX12_finding 2 (some .int) 1 := ⟨tw_949, tw_951, ts_21, tw_13, tw_952, by decide, by decide, by decide +kernel⟩
def X12_row_L65_b (p1 : Int32) (p3 : Int32) (rec : Int32 → jMem → Option ((Unit) × jMem)) (x4 : Int32) (σ : jMem) : Option ((Unit) × jMem) :=
  if (40 : Int32) ≤ x4 then
  some ((), σ)
else
  jst σ 92 320 (((40 : Int32) * p1) + x4) (0 : Int32) (fun σ11 =>
  rec (x4 + 1) σ11)
def X12_row_L65 (p1 : Int32) (p3 : Int32) : Nat → Int32 → jMem → Option ((Unit) × jMem) := jloop (fun rec s σ => X12_row_L65_b p1 p3 rec s σ)
set_option maxRecDepth 100000 in
set_option maxHeartbeats 4000000 in
theorem X12_row_L65_bok {K : jK} (X : JX K cX12_row 5 RX12 2 45) {p1 : Int32} {p3 : Int32}  {rec : Int32 → jMem → Option ((Unit) × jMem)} (ih : ∀ (s : Int32) (σ : jMem) (o : (Unit) × jMem), rec s σ = some o → (J K 91 [none, none, none, some (.int p3), none] [] o.2) → J K 65 [some (.ref 89), some (.int p1), none, some (.int p3), some (.int s)] [] σ) : ∀ (x4 : Int32) (σ : jMem) (o : (Unit) × jMem), X12_row_L65_b p1 p3 rec x4 σ = some o → (J K 91 [none, none, none, some (.int p3), none] [] o.2) → J K 65 [some (.ref 89), some (.int p1), none, some (.int p3), some (.int x4)] [] σ := by
  intro x4 σ o h kk
  unfold X12_row_L65_b at h
  refine j_iload X dX12_row_65 rfl ?_
  refine j_bipush (v := 40) X dX12_row_67 (by decide) ?_
  refine j_icmp_ge (tgt := 91) X dX12_row_69 (by decide) h (fun h => ?_) (fun h => ?_)
  · obtain rfl := Option.some.inj h
    exact j_sub (ls' := [none, none, none, some (.int p3), none]) ⟨Or.inl rfl, Or.inl rfl, Or.inl rfl, Or.inr rfl, Or.inl rfl, trivial⟩ kk
  · refine j_aload_n X 0 dX12_row_72 rfl rfl ?_
    refine j_getR (t := 92) X fg_RX12_16 ln_89 ly_89 rfl dX12_row_73 ?_
    refine j_bipush (v := 40) X dX12_row_76 (by decide) ?_
    refine j_iload_n X 1 dX12_row_78 rfl rfl ?_
    refine j_imul X dX12_row_79 ?_
    refine j_iload X dX12_row_80 rfl ?_
    refine j_iadd X dX12_row_82 ?_
    refine j_iconst (v := 0) X dX12_row_83 (by decide) ?_
    refine j_iastore X ln_92 ly_92 dX12_row_84 h (fun σ11 h => ?_)
    refine j_iinc (v := (x4 + 1)) (ls' := [some (.ref 89), some (.int p1), none, some (.int p3), some (.int (x4 + 1))]) X dX12_row_85 rfl rfl (Nat.le_of_ble_eq_true rfl) rfl ?_
    refine j_goto (tgt := 65) X dX12_row_88 (by decide) ?_
    exact ih (x4 + 1) σ11 _ h kk
theorem X12_row_L65_ok {K : jK} (X : JX K cX12_row 5 RX12 2 45) {p1 : Int32} {p3 : Int32}  : ∀ (n : Nat) (s : Int32) (σ : jMem) (o : (Unit) × jMem), X12_row_L65 p1 p3 n s σ = some o → (J K 91 [none, none, none, some (.int p3), none] [] o.2) → J K 65 [some (.ref 89), some (.int p1), none, some (.int p3), some (.int s)] [] σ := by
  intro n
  induction n with
  | zero => intro s σ o h; cases h
  | succ n ih => intro s σ o h; exact X12_row_L65_bok X  ih (s) σ o h
def f_X12_row (a0 : Int32) (a1 : Int32) (a2 : Int32) (σ : jMem) : Option (Int32 × jMem) :=
  jlet (jset σ 89 0 (0 : Int32)) (fun σ1 =>
  jbd (f_X12_isRow a0 σ1) (fun v2 σ3 =>
  if v2 = 0 then
  some (((-1000001 : Int32), σ3))
else
  jbd (f_X12_in ((a1).toInt64) (0 : Int64) (2 : Int64) σ3) (fun v5 σ6 =>
  if v5 = 0 then
  some (((-1000001 : Int32), σ6))
else
  if a2 ≤ (40 : Int32) then
  jlet (jset σ6 89 1 (0 : Int32)) (fun σ8 =>
  if 0 ≤ a2 then
  jst σ8 90 8 a0 a1 (fun σ9 =>
  jst σ9 91 8 a0 a2 (fun σ10 =>
  jbd (X12_row_L65 (a0) (a2) jFU (0 : Int32) σ10) (fun q12 σ13 =>
  some ((a2, σ13)))))
else
  jbd (f_X12_finding (4 : Int32) σ8) (fun v15 σ16 =>
  some ((v15, σ16))))
else
  some (((-1000001 : Int32), σ6)))))
set_option maxRecDepth 100000 in
set_option maxHeartbeats 4000000 in
theorem c_X12_row {l : Launch} {D : va_G} {ad : Nat → Nat} {cid : Nat → ClassId} {a0 : Int32} {a1 : Int32} {a2 : Int32}  {σ : jMem} {r : Int32} {σ' : jMem} (h : f_X12_row a0 a1 a2 σ = some (r, σ')) : jMet l D ad cid yX12_row cX12_row 5 (some .int) 2 45 [.ref 89, .int a0, .int a1, .int a2] σ (some (.int r)) σ' := by
  refine jMet_of (ls0 := [some (.ref 89), some (.int a0), some (.int a1), some (.int a2), none]) (by decide) (Nat.le_of_ble_eq_true rfl) rfl (fun K X R0 _ => ?_)
  unfold f_X12_row at h
  refine j_aload_n X 0 dX12_row_0 rfl rfl ?_
  refine j_iconst (v := 0) X dX12_row_1 (by decide) ?_
  refine j_put X fp_RX12_47 ln_89 ly_89 rfl rfl rfl dX12_row_2 h (fun σ1 h => ?_)
  refine j_iload_n X 1 dX12_row_5 rfl rfl ?_
  obtain ⟨v2, σ3, hm4, h⟩ := jbd_some h
  refine j_callS (as := [.int a0]) (st := []) (st1 := [.int v2]) X ss_RX12_61 ⟨by decide, by decide⟩ rfl rfl (Nat.le_of_ble_eq_true rfl) rfl dX12_row_6 jrv_i (c_X12_isRow  hm4) rfl ?_
  refine j_if_eq (tgt := 30) X dX12_row_9 (by decide) h (fun h => ?_) (fun h => ?_)
  · refine j_ldc (v := -1000001) X tw_948 dX12_row_30 ?_
    obtain ⟨rfl, rfl⟩ := jin2 h
    exact j_iret X R0 dX12_row_32
  · refine j_iload_n X 2 dX12_row_12 rfl rfl ?_
    refine j_i2l X dX12_row_13 ?_
    refine j_lconst (v := 0) X dX12_row_14 (by decide) ?_
    refine j_ldc2_w (v := 2) X tw_947 dX12_row_15 ?_
    obtain ⟨v5, σ6, hm7, h⟩ := jbd_some h
    refine j_callS (as := [.long ((a1).toInt64), .long (0 : Int64), .long (2 : Int64)]) (st := []) (st1 := [.int v5]) X ss_RX12_57 ⟨by decide, by decide⟩ rfl rfl (Nat.le_of_ble_eq_true rfl) rfl dX12_row_18 jrv_i (c_X12_in  hm7) rfl ?_
    refine j_if_eq (tgt := 30) X dX12_row_21 (by decide) h (fun h => ?_) (fun h => ?_)
    · refine j_ldc (v := -1000001) X tw_948 dX12_row_30 ?_
      obtain ⟨rfl, rfl⟩ := jin2 h
      exact j_iret X R0 dX12_row_32
    · refine j_iload_n X 3 dX12_row_24 rfl rfl ?_
      refine j_bipush (v := 40) X dX12_row_25 (by decide) ?_
      refine j_icmp_le (tgt := 33) X dX12_row_27 (by decide) h (fun h => ?_) (fun h => ?_)
      · refine j_aload_n X 0 dX12_row_33 rfl rfl ?_
        refine j_iconst (v := 0) X dX12_row_34 (by decide) ?_
        refine j_put X fp_RX12_51 ln_89 ly_89 rfl rfl rfl dX12_row_35 h (fun σ8 h => ?_)
        refine j_iload_n X 3 dX12_row_38 rfl rfl ?_
        refine j_if_ge (tgt := 48) X dX12_row_39 (by decide) h (fun h => ?_) (fun h => ?_)
        · refine j_aload_n X 0 dX12_row_48 rfl rfl ?_
          refine j_getR (t := 90) X fg_RX12_7 ln_89 ly_89 rfl dX12_row_49 ?_
          refine j_iload_n X 1 dX12_row_52 rfl rfl ?_
          refine j_iload_n X 2 dX12_row_53 rfl rfl ?_
          refine j_iastore X ln_90 ly_90 dX12_row_54 h (fun σ9 h => ?_)
          refine j_aload_n X 0 dX12_row_55 rfl rfl ?_
          refine j_getR (t := 91) X fg_RX12_13 ln_89 ly_89 rfl dX12_row_56 ?_
          refine j_iload_n X 1 dX12_row_59 rfl rfl ?_
          refine j_iload_n X 3 dX12_row_60 rfl rfl ?_
          refine j_iastore X ln_91 ly_91 dX12_row_61 h (fun σ10 h => ?_)
          refine j_iconst (v := 0) X dX12_row_62 (by decide) ?_
          refine j_istore (ls' := [some (.ref 89), some (.int a0), some (.int a1), some (.int a2), some (.int (0 : Int32))]) X dX12_row_63 (Nat.le_of_ble_eq_true rfl) rfl ?_
          obtain ⟨q12, σ13, hL14, h⟩ := jbd_some h
          refine j_sub (ls' := [some (.ref 89), some (.int a0), none, some (.int a2), some (.int (0 : Int32))]) ⟨Or.inr rfl, Or.inr rfl, Or.inl rfl, Or.inr rfl, Or.inr rfl, trivial⟩ ?_
          refine X12_row_L65_ok X  jFU (0 : Int32) σ10 _ hL14 ?_
          refine j_iload_n X 3 dX12_row_91 rfl rfl ?_
          obtain ⟨rfl, rfl⟩ := jin2 h
          exact j_iret X R0 dX12_row_92
        · refine j_aload_n X 0 dX12_row_42 rfl rfl ?_
          refine j_iconst (v := 4) X dX12_row_43 (by decide) ?_
          obtain ⟨v15, σ16, hm17, h⟩ := jbd_some h
          refine j_callV (as := [.int (4 : Int32)]) (st := []) (st1 := [.int v15]) X ln_89 ly_89 rfl rfl sv_RX12_68 ⟨by decide, by decide⟩ rfl rfl (Nat.le_of_ble_eq_true rfl) rfl dX12_row_44 jrv_i (c_X12_finding  hm17) rfl ?_
          obtain ⟨rfl, rfl⟩ := jin2 h
          exact j_iret X R0 dX12_row_47
      · refine j_ldc (v := -1000001) X tw_948 dX12_row_30 ?_
        obtain ⟨rfl, rfl⟩ := jin2 h
        exact j_iret X R0 dX12_row_32
