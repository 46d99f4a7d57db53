theorem ss_RX12_195 : jSiS RX12 195 yX12_swears cX12_swears 2 (some .int) 2 := ⟨tw_1096, tw_1097, tw_13, tw_1098, by decide, by decide, by decide +kernel⟩
def X12_waysOf_L4_b (p0 : Nat) (rec : Int32 × Int32 → jMem → Option ((Int32) × jMem)) (x1 : Int32) (x2 : Int32) (σ : jMem) : Option ((Int32) × jMem) :=
  jld σ p0 67 (4 : Int32) (fun v1 =>
  if v1 ≤ x2 then
  some (x1, σ)
else
  jbd (f_X12_swears p0 x2 σ) (fun v2 σ3 =>
  jlet ((x1 ||| v2)) (fun v5 =>
  rec (v5, (x2 + 1)) σ3)))
def X12_waysOf_L4 (p0 : Nat) : Nat → Int32 × Int32 → jMem → Option ((Int32) × jMem) := jloop (fun rec s σ => X12_waysOf_L4_b p0 rec s.1 s.2 σ)
set_option maxRecDepth 100000 in
set_option maxHeartbeats 4000000 in
theorem X12_waysOf_L4_bok {K : jK} (X : JX K cX12_waysOf 3 RX12 3 64) {p0 : Nat} (hp0 : p0 < jN ∧ jL p0 = (1, 67, [])) {rec : Int32 × Int32 → jMem → Option ((Int32) × jMem)} (ih : ∀ (s : Int32 × Int32) (σ : jMem) (o : (Int32) × jMem), rec s σ = some o → (J K 25 [none, some (.int o.1), none] [] o.2) → J K 4 [some (.ref p0), some (.int s.1), some (.int s.2)] [] σ) : ∀ (x1 : Int32) (x2 : Int32) (σ : jMem) (o : (Int32) × jMem), X12_waysOf_L4_b p0 rec x1 x2 σ = some o → (J K 25 [none, some (.int o.1), none] [] o.2) → J K 4 [some (.ref p0), some (.int x1), some (.int x2)] [] σ := by
  intro x1 x2 σ o h kk
  unfold X12_waysOf_L4_b at h
  refine j_iload_n X 2 dX12_waysOf_4 rfl rfl ?_
  refine j_aload_n X 0 dX12_waysOf_5 rfl rfl ?_
  refine j_iconst (v := 4) X dX12_waysOf_6 (by decide) ?_
  refine j_iaload X hp0.1 hp0.2 dX12_waysOf_7 h (fun v1 h => ?_)
  refine j_icmp_ge (tgt := 25) X dX12_waysOf_8 (by decide) h (fun h => ?_) (fun h => ?_)
  · obtain rfl := Option.some.inj h
    exact j_sub (ls' := [none, some (.int x1), none]) ⟨Or.inl rfl, Or.inr rfl, Or.inl rfl, trivial⟩ kk
  · refine j_iload_n X 1 dX12_waysOf_11 rfl rfl ?_
    refine j_aload_n X 0 dX12_waysOf_12 rfl rfl ?_
    refine j_iload_n X 2 dX12_waysOf_13 rfl rfl ?_
    obtain ⟨v2, σ3, hm4, h⟩ := jbd_some h
    refine j_callS (as := [.ref p0, .int x2]) (st := [.int x1]) (st1 := [.int v2, .int x1]) X ss_RX12_195 ⟨by decide, by decide⟩ rfl rfl (Nat.le_of_ble_eq_true rfl) rfl dX12_waysOf_14 jrv_i (c_X12_swears ⟨hp0.1, hp0.2⟩ hm4) rfl ?_
    refine j_ior X dX12_waysOf_17 ?_
    refine j_letI h (fun v5 h => ?_)
    refine j_istore_n (ls' := [some (.ref p0), some (.int v5), some (.int x2)]) X 1 dX12_waysOf_18 rfl (Nat.le_of_ble_eq_true rfl) rfl ?_
    refine j_iinc (v := (x2 + 1)) (ls' := [some (.ref p0), some (.int v5), some (.int (x2 + 1))]) X dX12_waysOf_19 rfl rfl (Nat.le_of_ble_eq_true rfl) rfl ?_
    refine j_goto (tgt := 4) X dX12_waysOf_22 (by decide) ?_
    exact ih (v5, (x2 + 1)) σ3 _ h kk
theorem X12_waysOf_L4_ok {K : jK} (X : JX K cX12_waysOf 3 RX12 3 64) {p0 : Nat} (hp0 : p0 < jN ∧ jL p0 = (1, 67, [])) : ∀ (n : Nat) (s : Int32 × Int32) (σ : jMem) (o : (Int32) × jMem), X12_waysOf_L4 p0 n s σ = some o → (J K 25 [none, some (.int o.1), none] [] o.2) → J K 4 [some (.ref p0), some (.int s.1), some (.int s.2)] [] σ := by
  intro n
  induction n with
  | zero => intro s σ o h; cases h
  | succ n ih => intro s σ o h; exact X12_waysOf_L4_bok X hp0 ih (s.1) (s.2) σ o h
def f_X12_waysOf (a0 : Nat) (σ : jMem) : Option (Int32 × jMem) :=
  jbd (X12_waysOf_L4 (a0) jFU ((0 : Int32), (0 : Int32)) σ) (fun q6 σ7 =>
  some ((q6, σ7)))
set_option maxRecDepth 100000 in
set_option maxHeartbeats 4000000 in
theorem c_X12_waysOf {l : Launch} {D : va_G} {ad : Nat → Nat} {cid : Nat → ClassId} {a0 : Nat} (ha0 : a0 < jN ∧ jL a0 = (1, 67, [])) {σ : jMem} {r : Int32} {σ' : jMem} (h : f_X12_waysOf a0 σ = some (r, σ')) : jMet l D ad cid yX12_waysOf cX12_waysOf 3 (some .int) 3 64 [.ref a0] σ (some (.int r)) σ' := by
  refine jMet_of (ls0 := [some (.ref a0), none, none]) (by decide) (Nat.le_of_ble_eq_true rfl) rfl (fun K X R0 _ => ?_)
  unfold f_X12_waysOf at h
  refine j_iconst (v := 0) X dX12_waysOf_0 (by decide) ?_
  refine j_istore_n (ls' := [some (.ref a0), some (.int (0 : Int32)), none]) X 1 dX12_waysOf_1 rfl (Nat.le_of_ble_eq_true rfl) rfl ?_
  refine j_iconst (v := 0) X dX12_waysOf_2 (by decide) ?_
  refine j_istore_n (ls' := [some (.ref a0), some (.int (0 : Int32)), some (.int (0 : Int32))]) X 2 dX12_waysOf_3 rfl (Nat.le_of_ble_eq_true rfl) rfl ?_
  obtain ⟨q6, σ7, hL8, h⟩ := jbd_some h
  refine X12_waysOf_L4_ok X ⟨ha0.1, ha0.2⟩ jFU ((0 : Int32), (0 : Int32)) σ _ hL8 ?_
  refine j_iload_n X 1 dX12_waysOf_25 rfl rfl ?_
  obtain ⟨rfl, rfl⟩ := jin2 h
  exact j_iret X R0 dX12_waysOf_26
def X12_living_L4_b (p0 : Nat) (rec : Int32 × Int32 → jMem → Option ((Int32) × jMem)) (x1 : Int32) (x2 : Int32) (σ : jMem) : Option ((Int32) × jMem) :=
  jld σ p0 67 (4 : Int32) (fun v1 =>
  if v1 ≤ x2 then
  some (x1, σ)
else
  jbd (f_X12_lives p0 x2 σ) (fun v2 σ3 =>
  if v2 = 0 then
  jlet ((x1 ||| (0 : Int32))) (fun v5 =>
  rec (v5, (x2 + 1)) σ3)
else
  jlet ((x1 ||| ((1 : Int32) <<< (x2 &&& 31)))) (fun v6 =>
  rec (v6, (x2 + 1)) σ3)))
def X12_living_L4 (p0 : Nat) : Nat → Int32 × Int32 → jMem → Option ((Int32) × jMem) := jloop (fun rec s σ => X12_living_L4_b p0 rec s.1 s.2 σ)
set_option maxRecDepth 100000 in
set_option maxHeartbeats 4000000 in
theorem X12_living_L4_bok {K : jK} (X : JX K cX12_living 3 RX12 2 43) {p0 : Nat} (hp0 : p0 < jN ∧ jL p0 = (1, 67, [])) {rec : Int32 × Int32 → jMem → Option ((Int32) × jMem)} (ih : ∀ (s : Int32 × Int32) (σ : jMem) (o : (Int32) × jMem), rec s σ = some o → (J K 35 [none, some (.int o.1), none] [] o.2) → J K 4 [some (.ref p0), some (.int s.1), some (.int s.2)] [] σ) : ∀ (x1 : Int32) (x2 : Int32) (σ : jMem) (o : (Int32) × jMem), X12_living_L4_b p0 rec x1 x2 σ = some o → (J K 35 [none, some (.int o.1), none] [] o.2) → J K 4 [some (.ref p0), some (.int x1), some (.int x2)] [] σ := by
  intro x1 x2 σ o h kk
  unfold X12_living_L4_b at h
  refine j_iload_n X 2 dX12_living_4 rfl rfl ?_
  refine j_aload_n X 0 dX12_living_5 rfl rfl ?_
  refine j_iconst (v := 4) X dX12_living_6 (by decide) ?_
  refine j_iaload X hp0.1 hp0.2 dX12_living_7 h (fun v1 h => ?_)
  refine j_icmp_ge (tgt := 35) X dX12_living_8 (by decide) h (fun h => ?_) (fun h => ?_)
  · obtain rfl := Option.some.inj h
    exact j_sub (ls' := [none, some (.int x1), none]) ⟨Or.inl rfl, Or.inr rfl, Or.inl rfl, trivial⟩ kk
  · refine j_iload_n X 1 dX12_living_11 rfl rfl ?_
    refine j_aload_n X 0 dX12_living_12 rfl rfl ?_
    refine j_iload_n X 2 dX12_living_13 rfl rfl ?_
    obtain ⟨v2, σ3, hm4, h⟩ := jbd_some h
    refine j_callS (as := [.ref p0, .int x2]) (st := [.int x1]) (st1 := [.int v2, .int x1]) X ss_RX12_191 ⟨by decide, by decide⟩ rfl rfl (Nat.le_of_ble_eq_true rfl) rfl dX12_living_14 jrv_i (c_X12_lives ⟨hp0.1, hp0.2⟩ hm4) rfl ?_
    refine j_if_eq (tgt := 26) X dX12_living_17 (by decide) h (fun h => ?_) (fun h => ?_)
    · refine j_iconst (v := 0) X dX12_living_26 (by decide) ?_
      refine j_ior X dX12_living_27 ?_
      refine j_letI h (fun v5 h => ?_)
      refine j_istore_n (ls' := [some (.ref p0), some (.int v5), some (.int x2)]) X 1 dX12_living_28 rfl (Nat.le_of_ble_eq_true rfl) rfl ?_
      refine j_iinc (v := (x2 + 1)) (ls' := [some (.ref p0), some (.int v5), some (.int (x2 + 1))]) X dX12_living_29 rfl rfl (Nat.le_of_ble_eq_true rfl) rfl ?_
      refine j_goto (tgt := 4) X dX12_living_32 (by decide) ?_
      exact ih (v5, (x2 + 1)) σ3 _ h kk
    · refine j_iconst (v := 1) X dX12_living_20 (by decide) ?_
      refine j_iload_n X 2 dX12_living_21 rfl rfl ?_
      refine j_ishl X dX12_living_22 ?_
      refine j_goto (tgt := 27) X dX12_living_23 (by decide) ?_
      refine j_ior X dX12_living_27 ?_
      refine j_letI h (fun v6 h => ?_)
      refine j_istore_n (ls' := [some (.ref p0), some (.int v6), some (.int x2)]) X 1 dX12_living_28 rfl (Nat.le_of_ble_eq_true rfl) rfl ?_
      refine j_iinc (v := (x2 + 1)) (ls' := [some (.ref p0), some (.int v6), some (.int (x2 + 1))]) X dX12_living_29 rfl rfl (Nat.le_of_ble_eq_true rfl) rfl ?_
      refine j_goto (tgt := 4) X dX12_living_32 (by decide) ?_
      exact ih (v6, (x2 + 1)) σ3 _ h kk
theorem X12_living_L4_ok {K : jK} (X : JX K cX12_living 3 RX12 2 43) {p0 : Nat} (hp0 : p0 < jN ∧ jL p0 = (1, 67, [])) : ∀ (n : Nat) (s : Int32 × Int32) (σ : jMem) (o : (Int32) × jMem), X12_living_L4 p0 n s σ = some o → (J K 35 [none, some (.int o.1), none] [] o.2) → J K 4 [some (.ref p0), some (.int s.1), some (.int s.2)] [] σ := by
  intro n
  induction n with
  | zero => intro s σ o h; cases h
  | succ n ih => intro s σ o h; exact X12_living_L4_bok X hp0 ih (s.1) (s.2) σ o h
def f_X12_living (a0 : Nat) (σ : jMem) : Option (Int32 × jMem) :=
  jbd (X12_living_L4 (a0) jFU ((0 : Int32), (0 : Int32)) σ) (fun q7 σ8 =>
  some ((q7, σ8)))
set_option maxRecDepth 100000 in
set_option maxHeartbeats 4000000 in
theorem c_X12_living {l : Launch} {D : va_G} {ad : Nat → Nat} {cid : Nat → ClassId} {a0 : Nat} (ha0 : a0 < jN ∧ jL a0 = (1, 67, [])) {σ : jMem} {r : Int32} {σ' : jMem} (h : f_X12_living a0 σ = some (r, σ')) : jMet l D ad cid yX12_living cX12_living 3 (some .int) 2 43 [.ref a0] σ (some (.int r)) σ' := by
  refine jMet_of (ls0 := [some (.ref a0), none, none]) (by decide) (Nat.le_of_ble_eq_true rfl) rfl (fun K X R0 _ => ?_)
  unfold f_X12_living at h
  refine j_iconst (v := 0) X dX12_living_0 (by decide) ?_
  refine j_istore_n (ls' := [some (.ref a0), some (.int (0 : Int32)), none]) X 1 dX12_living_1 rfl (Nat.le_of_ble_eq_true rfl) rfl ?_
  refine j_iconst (v := 0) X dX12_living_2 (by decide) ?_
  refine j_istore_n (ls' := [some (.ref a0), some (.int (0 : Int32)), some (.int (0 : Int32))]) X 2 dX12_living_3 rfl (Nat.le_of_ble_eq_true rfl) rfl ?_
  obtain ⟨q7, σ8, hL9, h⟩ := jbd_some h
  refine X12_living_L4_ok X ⟨ha0.1, ha0.2⟩ jFU ((0 : Int32), (0 : Int32)) σ _ hL9 ?_
  refine j_iload_n X 1 dX12_living_35 rfl rfl ?_
  obtain ⟨rfl, rfl⟩ := jin2 h
  exact j_iret X R0 dX12_living_36
