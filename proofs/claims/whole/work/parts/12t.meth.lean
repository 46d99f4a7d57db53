theorem sv_RX12_199 : jSiV RX12 199 yX12_sees cX12_sees 5 (some .int) 3 := ⟨tw_1085, tw_1087, ts_41, tw_13, tw_1088, by decide, by decide, by decide +kernel⟩
def X12_see_L2_b (p1 : Nat) (rec : Int32 → jMem → Option ((Unit) × jMem)) (x2 : Int32) (σ : jMem) : Option ((Unit) × jMem) :=
  jld σ p1 67 (4 : Int32) (fun v1 =>
  if v1 ≤ x2 then
  some ((), σ)
else
  jlet ((((43 : Int32) + ((4 : Int32) * x2)) + (3 : Int32))) (fun v2 =>
  jld σ p1 67 v2 (fun v3 =>
  jbd (f_X12_lives p1 x2 σ) (fun v4 σ5 =>
  jj (fun (q8 : Int32) σ9 =>
  jst σ9 p1 67 v2 (v3 ||| q8) (fun σ10 =>
  rec (x2 + 1) σ10)) (fun k7 =>
  if v4 = 0 then
  k7 (0 : Int32) σ5
else
  jbd (f_X12_of p1 x2 (0 : Int32) σ5) (fun v11 σ12 =>
  jbd (f_X12_of p1 x2 (2 : Int32) σ12) (fun v14 σ15 =>
  jld σ15 p1 67 (6 : Int32) (fun v17 =>
  jbd (f_X12_sees v11 v14 v17 σ15) (fun v18 σ19 =>
  k7 v18 σ19)))))))))
def X12_see_L2 (p1 : Nat) : Nat → Int32 → jMem → Option ((Unit) × jMem) := jloop (fun rec s σ => X12_see_L2_b p1 rec s σ)
set_option maxRecDepth 100000 in
set_option maxHeartbeats 4000000 in
theorem X12_see_L2_bok {K : jK} (X : JX K cX12_see 3 RX12 3 70) {p1 : Nat} (hp1 : p1 < jN ∧ jL p1 = (1, 67, [])) {rec : Int32 → jMem → Option ((Unit) × jMem)} (ih : ∀ (s : Int32) (σ : jMem) (o : (Unit) × jMem), rec s σ = some o → (J K 60 [none, none, none] [] o.2) → J K 2 [some (.ref 89), some (.ref p1), some (.int s)] [] σ) : ∀ (x2 : Int32) (σ : jMem) (o : (Unit) × jMem), X12_see_L2_b p1 rec x2 σ = some o → (J K 60 [none, none, none] [] o.2) → J K 2 [some (.ref 89), some (.ref p1), some (.int x2)] [] σ := by
  intro x2 σ o h kk
  unfold X12_see_L2_b at h
  refine j_iload_n X 2 dX12_see_2 rfl rfl ?_
  refine j_aload_n X 1 dX12_see_3 rfl rfl ?_
  refine j_iconst (v := 4) X dX12_see_4 (by decide) ?_
  refine j_iaload X hp1.1 hp1.2 dX12_see_5 h (fun v1 h => ?_)
  refine j_icmp_ge (tgt := 60) X dX12_see_6 (by decide) h (fun h => ?_) (fun h => ?_)
  · obtain rfl := Option.some.inj h
    exact j_sub (ls' := [none, none, none]) ⟨Or.inl rfl, Or.inl rfl, Or.inl rfl, trivial⟩ kk
  · refine j_aload_n X 1 dX12_see_9 rfl rfl ?_
    refine j_bipush (v := 43) X dX12_see_10 (by decide) ?_
    refine j_iconst (v := 4) X dX12_see_12 (by decide) ?_
    refine j_iload_n X 2 dX12_see_13 rfl rfl ?_
    refine j_imul X dX12_see_14 ?_
    refine j_iadd X dX12_see_15 ?_
    refine j_iconst (v := 3) X dX12_see_16 (by decide) ?_
    refine j_iadd X dX12_see_17 ?_
    refine j_letI h (fun v2 h => ?_)
    refine j_dup2 X dX12_see_18 rfl rfl ?_
    refine j_iaload X hp1.1 hp1.2 dX12_see_19 h (fun v3 h => ?_)
    refine j_aload_n X 1 dX12_see_20 rfl rfl ?_
    refine j_iload_n X 2 dX12_see_21 rfl rfl ?_
    obtain ⟨v4, σ5, hm6, h⟩ := jbd_some h
    refine j_callS (as := [.ref p1, .int x2]) (st := [.int v3, .int v2, .ref p1]) (st1 := [.int v4, .int v3, .int v2, .ref p1]) X ss_RX12_191 ⟨by decide, by decide⟩ rfl rfl (Nat.le_of_ble_eq_true rfl) rfl dX12_see_22 jrv_i (c_X12_lives ⟨hp1.1, hp1.2⟩ hm6) rfl ?_
    refine j_join (pcJ := 52) (lsJ := fun q8 => [some (.ref 89), some (.ref p1), some (.int x2)]) (stJ := fun q8 => [.int q8, .int v3, .int v2, .ref p1]) h (fun q8 σ9 h => ?_) (fun k7 hk7 h => ?_)
    · refine j_ior X dX12_see_52 ?_
      refine j_iastore X hp1.1 hp1.2 dX12_see_53 h (fun σ10 h => ?_)
      refine j_iinc (v := (x2 + 1)) (ls' := [some (.ref 89), some (.ref p1), some (.int (x2 + 1))]) X dX12_see_54 rfl rfl (Nat.le_of_ble_eq_true rfl) rfl ?_
      refine j_goto (tgt := 2) X dX12_see_57 (by decide) ?_
      exact ih (x2 + 1) σ10 _ h kk
    · refine j_if_eq (tgt := 51) X dX12_see_25 (by decide) h (fun h => ?_) (fun h => ?_)
      · refine j_iconst (v := 0) X dX12_see_51 (by decide) ?_
        exact hk7 (0 : Int32) σ5 h
      · refine j_aload_n X 0 dX12_see_28 rfl rfl ?_
        refine j_aload_n X 1 dX12_see_29 rfl rfl ?_
        refine j_iload_n X 2 dX12_see_30 rfl rfl ?_
        refine j_iconst (v := 0) X dX12_see_31 (by decide) ?_
        obtain ⟨v11, σ12, hm13, h⟩ := jbd_some h
        refine j_callS (as := [.ref p1, .int x2, .int (0 : Int32)]) (st := [.ref 89, .int v3, .int v2, .ref p1]) (st1 := [.int v11, .ref 89, .int v3, .int v2, .ref p1]) X ss_RX12_183 ⟨by decide, by decide⟩ rfl rfl (Nat.le_of_ble_eq_true rfl) rfl dX12_see_32 jrv_i (c_X12_of ⟨hp1.1, hp1.2⟩ hm13) rfl ?_
        refine j_aload_n X 1 dX12_see_35 rfl rfl ?_
        refine j_iload_n X 2 dX12_see_36 rfl rfl ?_
        refine j_iconst (v := 2) X dX12_see_37 (by decide) ?_
        obtain ⟨v14, σ15, hm16, h⟩ := jbd_some h
        refine j_callS (as := [.ref p1, .int x2, .int (2 : Int32)]) (st := [.int v11, .ref 89, .int v3, .int v2, .ref p1]) (st1 := [.int v14, .int v11, .ref 89, .int v3, .int v2, .ref p1]) X ss_RX12_183 ⟨by decide, by decide⟩ rfl rfl (Nat.le_of_ble_eq_true rfl) rfl dX12_see_38 jrv_i (c_X12_of ⟨hp1.1, hp1.2⟩ hm16) rfl ?_
        refine j_aload_n X 1 dX12_see_41 rfl rfl ?_
        refine j_bipush (v := 6) X dX12_see_42 (by decide) ?_
        refine j_iaload X hp1.1 hp1.2 dX12_see_44 h (fun v17 h => ?_)
        obtain ⟨v18, σ19, hm20, h⟩ := jbd_some h
        refine j_callV (as := [.int v11, .int v14, .int v17]) (st := [.int v3, .int v2, .ref p1]) (st1 := [.int v18, .int v3, .int v2, .ref p1]) X ln_89 ly_89 rfl rfl sv_RX12_199 ⟨by decide, by decide⟩ rfl rfl (Nat.le_of_ble_eq_true rfl) rfl dX12_see_45 jrv_i (c_X12_sees  hm20) rfl ?_
        refine j_goto (tgt := 52) X dX12_see_48 (by decide) ?_
        exact hk7 v18 σ19 h
theorem X12_see_L2_ok {K : jK} (X : JX K cX12_see 3 RX12 3 70) {p1 : Nat} (hp1 : p1 < jN ∧ jL p1 = (1, 67, [])) : ∀ (n : Nat) (s : Int32) (σ : jMem) (o : (Unit) × jMem), X12_see_L2 p1 n s σ = some o → (J K 60 [none, none, none] [] o.2) → J K 2 [some (.ref 89), some (.ref p1), some (.int s)] [] σ := by
  intro n
  induction n with
  | zero => intro s σ o h; cases h
  | succ n ih => intro s σ o h; exact X12_see_L2_bok X hp1 ih (s) σ o h
def f_X12_see (a0 : Nat) (σ : jMem) : Option jMem :=
  jbd (X12_see_L2 (a0) jFU (0 : Int32) σ) (fun q21 σ22 =>
  some σ22)
set_option maxRecDepth 100000 in
set_option maxHeartbeats 4000000 in
theorem c_X12_see {l : Launch} {D : va_G} {ad : Nat → Nat} {cid : Nat → ClassId} {a0 : Nat} (ha0 : a0 < jN ∧ jL a0 = (1, 67, [])) {σ : jMem} {σ' : jMem} (h : f_X12_see a0 σ = some σ') : jMet l D ad cid yX12_see cX12_see 3 none 3 70 [.ref 89, .ref a0] σ none σ' := by
  refine jMet_of (ls0 := [some (.ref 89), some (.ref a0), none]) (by decide) (Nat.le_of_ble_eq_true rfl) rfl (fun K X R0 _ => ?_)
  unfold f_X12_see at h
  refine j_iconst (v := 0) X dX12_see_0 (by decide) ?_
  refine j_istore_n (ls' := [some (.ref 89), some (.ref a0), some (.int (0 : Int32))]) X 2 dX12_see_1 rfl (Nat.le_of_ble_eq_true rfl) rfl ?_
  obtain ⟨q21, σ22, hL23, h⟩ := jbd_some h
  refine X12_see_L2_ok X ⟨ha0.1, ha0.2⟩ jFU (0 : Int32) σ _ hL23 ?_
  obtain rfl := Option.some.inj h
  exact j_vret X R0 dX12_see_60
