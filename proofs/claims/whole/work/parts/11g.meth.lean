theorem sv_RX12_199 : jSiV RX12 199 yX12_sees cX12_sees 5 (some .int) 3 := ⟨tw_1085, tw_1087, ts_41, tw_13, tw_1088, by decide, by decide, by decide +kernel⟩
def X12_see_L2_b (p1 : Nat) (rec : Int32 → jMem → Option ((Unit) × jMem)) (x2 : Int32) (σ : jMem) : Option ((Unit) × jMem) :=
  jld σ p1 67 (4 : Int32) (fun v1 =>
  if v1 ≤ x2 then
  some ((), σ)
else
  jlet ((((43 : Int32) + ((4 : Int32) * x2)) + (3 : Int32))) (fun v2 =>
  jld σ p1 67 v2 (fun v3 =>
  jbd (f_X12_lives p1 x2 σ) (fun v4 σ5 =>
  jj (fun (q8 : Int32) σ9 =>
  jst σ9 p1 67 v2 (v3 ||| q8) (fun σ10 =>
  rec (x2 + 1) σ10)) (fun k7 =>
  if v4 = 0 then
  k7 (0 : Int32) σ5
else
  jbd (f_X12_of p1 x2 (0 : Int32) σ5) (fun v11 σ12 =>
  jbd (f_X12_of p1 x2 (2 : Int32) σ12) (fun v14 σ15 =>
  jld σ15 p1 67 (6 : Int32) (fun v17 =>
  jbd (f_X12_sees v11 v14 v17 σ15) (fun v18 σ19 =>
  k7 v18 σ19)))))))))
def X12_see_L2 (p1 : Nat) : Nat → Int32 → jMem → Option ((Unit) × jMem) := jloop (fun rec s σ => X12_see_L2_b p1 rec s σ)
set_option maxRecDepth 100000 in
set_option maxHeartbeats 4000000 in
theorem X12_see_L2_bok {K : jK} (X : JX K cX12_see 3 RX12 3 70) {p1 : Nat} (hp1 : p1 < jN ∧ jL p1 = (1, 67, [])) {rec : Int32 → jMem → Option ((Unit) × jMem)} (ih : ∀ (s : Int32) (σ : jMem) (o : (Unit) × jMem), rec s σ = some o → (J K 60 [none, none, none] [] o.2) → J K 2 [some (.ref 89), some (.ref p1), some (.int s)] [] σ) : ∀ (x2 : Int32) (σ : jMem) (o : (Unit) × jMem), X12_see_L2_b p1 rec x2 σ = some o → (J K 60 [none, none, none] [] o.2) → J K 2 [some (.ref 89), some (.ref p1), some (.int x2)] [] σ := by
  intro x2 σ o h kk
  unfold X12_see_L2_b at h
  refine j_iload_n X 2 dX12_see_2 rfl rfl ?_
  refine j_aload_n X 1 dX12_see_3 rfl rfl ?_
  refine j_iconst (v := 4) X dX12_see_4 (by decide) ?_
  refine j_iaload X hp1.1 hp1.2 dX12_see_5 h (fun v1 h => ?_)
  refine j_icmp_ge (tgt := 60) X dX12_see_6 (by decide) h (fun h => ?_) (fun h => ?_)
  · obtain rfl := Option.some.inj h
    exact j_sub (ls' := [none, none, none]) ⟨Or.inl rfl, Or.inl rfl, Or.inl rfl, trivial⟩ kk
  · refine j_aload_n X 1 dX12_see_9 rfl rfl ?_
    refine j_bipush (v := 43) X dX12_see_10 (by decide) ?_
    refine j_iconst (v := 4) X dX12_see_12 (by decide) ?_
    refine j_iload_n X 2 dX12_see_13 rfl rfl ?_
    refine j_imul X dX12_see_14 ?_
    refine j_iadd X dX12_see_15 ?_
    refine j_iconst (v := 3) X dX12_see_16 (by decide) ?_
    refine j_iadd X dX12_see_17 ?_
    refine j_letI h (fun v2 h => ?_)
    refine j_dup2 X dX12_see_18 rfl rfl ?_
    refine j_iaload X hp1.1 hp1.2 dX12_see_19 h (fun v3 h => ?_)
    refine j_aload_n X 1 dX12_see_20 rfl rfl ?_
    refine j_iload_n X 2 dX12_see_21 rfl rfl ?_
    obtain ⟨v4, σ5, hm6, h⟩ := jbd_some h
    refine j_callS (as := [.ref p1, .int x2]) (st := [.int v3, .int v2, .ref p1]) (st1 := [.int v4, .int v3, .int v2, .ref p1]) X ss_RX12_191 ⟨by decide, by decide⟩ rfl rfl (Nat.le_of_ble_eq_true rfl) rfl dX12_see_22 jrv_i (c_X12_lives ⟨hp1.1, hp1.2⟩ hm6) rfl ?_
    refine j_join (pcJ := 52) (lsJ := fun q8 => [some (.ref 89), some (.ref p1), some (.int x2)]) (stJ := fun q8 => [.int q8, .int v3, .int v2, .ref p1]) h (fun q8 σ9 h => ?_) (fun k7 hk7 h => ?_)
    · refine j_ior X dX12_see_52 ?_
      refine j_iastore X hp1.1 hp1.2 dX12_see_53 h (fun σ10 h => ?_)
      refine j_iinc (v := (x2 + 1)) (ls' := [some (.ref 89), some (.ref p1), some (.int (x2 + 1))]) X dX12_see_54 rfl rfl (Nat.le_of_ble_eq_true rfl) rfl ?_
      refine j_goto (tgt := 2) X dX12_see_57 (by decide) ?_
      exact ih (x2 + 1) σ10 _ h kk
    · refine j_if_eq (tgt := 51) X dX12_see_25 (by decide) h (fun h => ?_) (fun h => ?_)
      · refine j_iconst (v := 0) X dX12_see_51 (by decide) ?_
        exact hk7 (0 : Int32) σ5 h
      · refine j_aload_n X 0 dX12_see_28 rfl rfl ?_
        refine j_aload_n X 1 dX12_see_29 rfl rfl ?_
        refine j_iload_n X 2 dX12_see_30 rfl rfl ?_
        refine j_iconst (v := 0) X dX12_see_31 (by decide) ?_
        obtain ⟨v11, σ12, hm13, h⟩ := jbd_some h
        refine j_callS (as := [.ref p1, .int x2, .int (0 : Int32)]) (st := [.ref 89, .int v3, .int v2, .ref p1]) (st1 := [.int v11, .ref 89, .int v3, .int v2, .ref p1]) X ss_RX12_183 ⟨by decide, by decide⟩ rfl rfl (Nat.le_of_ble_eq_true rfl) rfl dX12_see_32 jrv_i (c_X12_of ⟨hp1.1, hp1.2⟩ hm13) rfl ?_
        refine j_aload_n X 1 dX12_see_35 rfl rfl ?_
        refine j_iload_n X 2 dX12_see_36 rfl rfl ?_
        refine j_iconst (v := 2) X dX12_see_37 (by decide) ?_
        obtain ⟨v14, σ15, hm16, h⟩ := jbd_some h
        refine j_callS (as := [.ref p1, .int x2, .int (2 : Int32)]) (st := [.int v11, .ref 89, .int v3, .int v2, .ref p1]) (st1 := [.int v14, .int v11, .ref 89, .int v3, .int v2, .ref p1]) X ss_RX12_183 ⟨by decide, by decide⟩ rfl rfl (Nat.le_of_ble_eq_true rfl) rfl dX12_see_38 jrv_i (c_X12_of ⟨hp1.1, hp1.2⟩ hm16) rfl ?_
        refine j_aload_n X 1 dX12_see_41 rfl rfl ?_
        refine j_bipush (v := 6) X dX12_see_42 (by decide) ?_
        refine j_iaload X hp1.1 hp1.2 dX12_see_44 h (fun v17 h => ?_)
        obtain ⟨v18, σ19, hm20, h⟩ := jbd_some h
        refine j_callV (as := [.int v11, .int v14, .int v17]) (st := [.int v3, .int v2, .ref p1]) (st1 := [.int v18, .int v3, .int v2, .ref p1]) X ln_89 ly_89 rfl rfl sv_RX12_199 ⟨by decide, by decide⟩ rfl rfl (Nat.le_of_ble_eq_true rfl) rfl dX12_see_45 jrv_i (c_X12_sees  hm20) rfl ?_
        refine j_goto (tgt := 52) X dX12_see_48 (by decide) ?_
        exact hk7 v18 σ19 h
theorem X12_see_L2_ok {K : jK} (X : JX K cX12_see 3 RX12 3 70) {p1 : Nat} (hp1 : p1 < jN ∧ jL p1 = (1, 67, [])) : ∀ (n : Nat) (s : Int32) (σ : jMem) (o : (Unit) × jMem), X12_see_L2 p1 n s σ = some o → (J K 60 [none, none, none] [] o.2) → J K 2 [some (.ref 89), some (.ref p1), some (.int s)] [] σ := by
  intro n
  induction n with
  | zero => intro s σ o h; cases h
  | succ n ih => intro s σ o h; exact X12_see_L2_bok X hp1 ih (s) σ o h
def f_X12_see (a0 : Nat) (σ : jMem) : Option jMem :=
  jbd (X12_see_L2 (a0) jFU (0 : Int32) σ) (fun q21 σ22 =>
  some σ22)
set_option maxRecDepth 100000 in
set_option maxHeartbeats 4000000 in
theorem c_X12_see {l : Launch} {D : va_G} {ad : Nat → Nat} {cid : Nat → ClassId} {a0 : Nat} (ha0 : a0 < jN ∧ jL a0 = (1, 67, [])) {σ : jMem} {σ' : jMem} (h : f_X12_see a0 σ = some σ') : jMet l D ad cid yX12_see cX12_see 3 none 3 70 [.ref 89, .ref a0] σ none σ' := by
  refine jMet_of (ls0 := [some (.ref 89), some (.ref a0), none]) (by decide) (Nat.le_of_ble_eq_true rfl) rfl (fun K X R0 _ => ?_)
  unfold f_X12_see at h
  refine j_iconst (v := 0) X dX12_see_0 (by decide) ?_
  refine j_istore_n (ls' := [some (.ref 89), some (.ref a0), some (.int (0 : Int32))]) X 2 dX12_see_1 rfl (Nat.le_of_ble_eq_true rfl) rfl ?_
  obtain ⟨q21, σ22, hL23, h⟩ := jbd_some h
  refine X12_see_L2_ok X ⟨ha0.1, ha0.2⟩ jFU (0 : Int32) σ _ hL23 ?_
  obtain rfl := Option.some.inj h
  exact j_vret X R0 dX12_see_60
def X12_year_L2_b (p0 : Nat) (rec : Int32 → jMem → Option ((Unit) × jMem)) (x1 : Int32) (σ : jMem) : Option ((Unit) × jMem) :=
  jld σ p0 67 (4 : Int32) (fun v1 =>
  if v1 ≤ x1 then
  some ((), σ)
else
  jlet (((43 : Int32) + ((4 : Int32) * x1))) (fun v2 =>
  jlet ((v2 + (1 : Int32))) (fun v3 =>
  jld σ p0 67 v3 (fun v4 =>
  jbd (f_X12_lives p0 x1 σ) (fun v5 σ6 =>
  jj (fun (q9 : Int32) σ10 =>
  jst σ10 p0 67 v3 (v4 + q9) (fun σ11 =>
  jld σ11 p0 67 (v2 + (3 : Int32)) (fun v12 =>
  jld σ11 p0 67 v2 (fun v13 =>
  jj (fun (q15 : Int32) σ16 =>
  jst σ16 p0 67 (v2 + (3 : Int32)) q15 (fun σ17 =>
  rec (x1 + 1) σ17)) (fun k14 =>
  jj (fun (q19 : Unit) σ20 =>
  jld σ20 p0 67 v2 (fun v21 =>
  if ¬ v21 = (5 : Int32) then
  k14 v12 σ20
else
  k14 (v12 &&& (v12 - (1 : Int32))) σ20)) (fun k18 =>
  if ¬ v13 = (4 : Int32) then
  k18 () σ11
else
  jld σ11 p0 67 (5 : Int32) (fun v22 =>
  if ¬ (v22 - v22 / (3 : Int32) * (3 : Int32)) = (2 : Int32) then
  k18 () σ11
else
  k14 (0 : Int32) σ11))))))) (fun k8 =>
  if v5 = 0 then
  k8 (0 : Int32) σ6
else
  k8 (1 : Int32) σ6))))))
def X12_year_L2 (p0 : Nat) : Nat → Int32 → jMem → Option ((Unit) × jMem) := jloop (fun rec s σ => X12_year_L2_b p0 rec s σ)
set_option maxRecDepth 100000 in
set_option maxHeartbeats 4000000 in
theorem X12_year_L2_bok {K : jK} (X : JX K cX12_year 4 RX12 2 43) {p0 : Nat} (hp0 : p0 < jN ∧ jL p0 = (1, 67, [])) {rec : Int32 → jMem → Option ((Unit) × jMem)} (ih : ∀ (s : Int32) (σ : jMem) (o : (Unit) × jMem), rec s σ = some o → (J K 92 [some (.ref p0), none, none, none] [] o.2) → J K 2 [some (.ref p0), some (.int s), none, none] [] σ) : ∀ (x1 : Int32) (σ : jMem) (o : (Unit) × jMem), X12_year_L2_b p0 rec x1 σ = some o → (J K 92 [some (.ref p0), none, none, none] [] o.2) → J K 2 [some (.ref p0), some (.int x1), none, none] [] σ := by
  intro x1 σ o h kk
  unfold X12_year_L2_b at h
  refine j_iload_n X 1 dX12_year_2 rfl rfl ?_
  refine j_aload_n X 0 dX12_year_3 rfl rfl ?_
  refine j_iconst (v := 4) X dX12_year_4 (by decide) ?_
  refine j_iaload X hp0.1 hp0.2 dX12_year_5 h (fun v1 h => ?_)
  refine j_icmp_ge (tgt := 92) X dX12_year_6 (by decide) h (fun h => ?_) (fun h => ?_)
  · obtain rfl := Option.some.inj h
    exact j_sub (ls' := [some (.ref p0), none, none, none]) ⟨Or.inr rfl, Or.inl rfl, Or.inl rfl, Or.inl rfl, trivial⟩ kk
  · refine j_bipush (v := 43) X dX12_year_9 (by decide) ?_
    refine j_iconst (v := 4) X dX12_year_11 (by decide) ?_
    refine j_iload_n X 1 dX12_year_12 rfl rfl ?_
    refine j_imul X dX12_year_13 ?_
    refine j_iadd X dX12_year_14 ?_
    refine j_letI h (fun v2 h => ?_)
    refine j_istore_n (ls' := [some (.ref p0), some (.int x1), some (.int v2), none]) X 2 dX12_year_15 rfl (Nat.le_of_ble_eq_true rfl) rfl ?_
    refine j_aload_n X 0 dX12_year_16 rfl rfl ?_
    refine j_iload_n X 2 dX12_year_17 rfl rfl ?_
    refine j_iconst (v := 1) X dX12_year_18 (by decide) ?_
    refine j_iadd X dX12_year_19 ?_
    refine j_letI h (fun v3 h => ?_)
    refine j_dup2 X dX12_year_20 rfl rfl ?_
    refine j_iaload X hp0.1 hp0.2 dX12_year_21 h (fun v4 h => ?_)
    refine j_aload_n X 0 dX12_year_22 rfl rfl ?_
    refine j_iload_n X 1 dX12_year_23 rfl rfl ?_
    obtain ⟨v5, σ6, hm7, h⟩ := jbd_some h
    refine j_callS (as := [.ref p0, .int x1]) (st := [.int v4, .int v3, .ref p0]) (st1 := [.int v5, .int v4, .int v3, .ref p0]) X ss_RX12_191 ⟨by decide, by decide⟩ rfl rfl (Nat.le_of_ble_eq_true rfl) rfl dX12_year_24 jrv_i (c_X12_lives ⟨hp0.1, hp0.2⟩ hm7) rfl ?_
    refine j_join (pcJ := 35) (lsJ := fun q9 => [some (.ref p0), some (.int x1), some (.int v2), none]) (stJ := fun q9 => [.int q9, .int v4, .int v3, .ref p0]) h (fun q9 σ10 h => ?_) (fun k8 hk8 h => ?_)
    · refine j_iadd X dX12_year_35 ?_
      refine j_iastore X hp0.1 hp0.2 dX12_year_36 h (fun σ11 h => ?_)
      refine j_aload_n X 0 dX12_year_37 rfl rfl ?_
      refine j_iload_n X 2 dX12_year_38 rfl rfl ?_
      refine j_iconst (v := 3) X dX12_year_39 (by decide) ?_
      refine j_iadd X dX12_year_40 ?_
      refine j_iaload X hp0.1 hp0.2 dX12_year_41 h (fun v12 h => ?_)
      refine j_istore_n (ls' := [some (.ref p0), some (.int x1), some (.int v2), some (.int v12)]) X 3 dX12_year_42 rfl (Nat.le_of_ble_eq_true rfl) rfl ?_
      refine j_aload_n X 0 dX12_year_43 rfl rfl ?_
      refine j_iload_n X 2 dX12_year_44 rfl rfl ?_
      refine j_iaload X hp0.1 hp0.2 dX12_year_45 h (fun v13 h => ?_)
      refine j_iconst (v := 4) X dX12_year_46 (by decide) ?_
      refine j_join (pcJ := 79) (lsJ := fun q15 => [some (.ref p0), some (.int x1), some (.int v2), none]) (stJ := fun q15 => [.int q15]) h (fun q15 σ16 h => ?_) (fun k14 hk14 h => ?_)
      · refine j_istore_n (ls' := [some (.ref p0), some (.int x1), some (.int v2), some (.int q15)]) X 3 dX12_year_79 rfl (Nat.le_of_ble_eq_true rfl) rfl ?_
        refine j_aload_n X 0 dX12_year_80 rfl rfl ?_
        refine j_iload_n X 2 dX12_year_81 rfl rfl ?_
        refine j_iconst (v := 3) X dX12_year_82 (by decide) ?_
        refine j_iadd X dX12_year_83 ?_
        refine j_iload_n X 3 dX12_year_84 rfl rfl ?_
        refine j_iastore X hp0.1 hp0.2 dX12_year_85 h (fun σ17 h => ?_)
        refine j_iinc (v := (x1 + 1)) (ls' := [some (.ref p0), some (.int (x1 + 1)), some (.int v2), some (.int q15)]) X dX12_year_86 rfl rfl (Nat.le_of_ble_eq_true rfl) rfl ?_
        refine j_goto (tgt := 2) X dX12_year_89 (by decide) ?_
        exact j_sub (ls' := [some (.ref p0), some (.int (x1 + 1)), none, none]) ⟨Or.inr rfl, Or.inr rfl, Or.inl rfl, Or.inl rfl, trivial⟩ (ih (x1 + 1) σ17 _ h kk)
      · refine j_join (pcJ := 63) (lsJ := fun q19 => [some (.ref p0), some (.int x1), some (.int v2), some (.int v12)]) (stJ := fun q19 => []) h (fun q19 σ20 h => ?_) (fun k18 hk18 h => ?_)
        · refine j_aload_n X 0 dX12_year_63 rfl rfl ?_
          refine j_iload_n X 2 dX12_year_64 rfl rfl ?_
          refine j_iaload X hp0.1 hp0.2 dX12_year_65 h (fun v21 h => ?_)
          refine j_iconst (v := 5) X dX12_year_66 (by decide) ?_
          refine j_icmp_ne (tgt := 78) X dX12_year_67 (by decide) h (fun h => ?_) (fun h => ?_)
          · refine j_iload_n X 3 dX12_year_78 rfl rfl ?_
            exact j_sub (ls' := [some (.ref p0), some (.int x1), some (.int v2), none]) ⟨Or.inr rfl, Or.inr rfl, Or.inr rfl, Or.inl rfl, trivial⟩ (hk14 v12 σ20 h)
          · refine j_iload_n X 3 dX12_year_70 rfl rfl ?_
            refine j_iload_n X 3 dX12_year_71 rfl rfl ?_
            refine j_iconst (v := 1) X dX12_year_72 (by decide) ?_
            refine j_isub X dX12_year_73 ?_
            refine j_iand X dX12_year_74 ?_
            refine j_goto (tgt := 79) X dX12_year_75 (by decide) ?_
            exact j_sub (ls' := [some (.ref p0), some (.int x1), some (.int v2), none]) ⟨Or.inr rfl, Or.inr rfl, Or.inr rfl, Or.inl rfl, trivial⟩ (hk14 (v12 &&& (v12 - (1 : Int32))) σ20 h)
        · refine j_icmp_ne (tgt := 63) X dX12_year_47 (by decide) h (fun h => ?_) (fun h => ?_)
          · exact hk18 () σ11 h
          · refine j_aload_n X 0 dX12_year_50 rfl rfl ?_
            refine j_iconst (v := 5) X dX12_year_51 (by decide) ?_
            refine j_iaload X hp0.1 hp0.2 dX12_year_52 h (fun v22 h => ?_)
            refine j_iconst (v := 3) X dX12_year_53 (by decide) ?_
            refine j_irem X dX12_year_54 (by decide) ?_
            refine j_iconst (v := 2) X dX12_year_55 (by decide) ?_
            refine j_icmp_ne (tgt := 63) X dX12_year_56 (by decide) h (fun h => ?_) (fun h => ?_)
            · exact hk18 () σ11 h
            · refine j_iconst (v := 0) X dX12_year_59 (by decide) ?_
              refine j_goto (tgt := 79) X dX12_year_60 (by decide) ?_
              exact j_sub (ls' := [some (.ref p0), some (.int x1), some (.int v2), none]) ⟨Or.inr rfl, Or.inr rfl, Or.inr rfl, Or.inl rfl, trivial⟩ (hk14 (0 : Int32) σ11 h)
    · refine j_if_eq (tgt := 34) X dX12_year_27 (by decide) h (fun h => ?_) (fun h => ?_)
      · refine j_iconst (v := 0) X dX12_year_34 (by decide) ?_
        exact hk8 (0 : Int32) σ6 h
      · refine j_iconst (v := 1) X dX12_year_30 (by decide) ?_
        refine j_goto (tgt := 35) X dX12_year_31 (by decide) ?_
        exact hk8 (1 : Int32) σ6 h
theorem X12_year_L2_ok {K : jK} (X : JX K cX12_year 4 RX12 2 43) {p0 : Nat} (hp0 : p0 < jN ∧ jL p0 = (1, 67, [])) : ∀ (n : Nat) (s : Int32) (σ : jMem) (o : (Unit) × jMem), X12_year_L2 p0 n s σ = some o → (J K 92 [some (.ref p0), none, none, none] [] o.2) → J K 2 [some (.ref p0), some (.int s), none, none] [] σ := by
  intro n
  induction n with
  | zero => intro s σ o h; cases h
  | succ n ih => intro s σ o h; exact X12_year_L2_bok X hp0 ih (s) σ o h
def f_X12_year (a0 : Nat) (σ : jMem) : Option jMem :=
  jbd (X12_year_L2 (a0) jFU (0 : Int32) σ) (fun q23 σ24 =>
  jld σ24 a0 67 (5 : Int32) (fun v25 =>
  jst σ24 a0 67 (5 : Int32) (v25 + (1 : Int32)) (fun σ26 =>
  some σ26)))
set_option maxRecDepth 100000 in
set_option maxHeartbeats 4000000 in
theorem c_X12_year {l : Launch} {D : va_G} {ad : Nat → Nat} {cid : Nat → ClassId} {a0 : Nat} (ha0 : a0 < jN ∧ jL a0 = (1, 67, [])) {σ : jMem} {σ' : jMem} (h : f_X12_year a0 σ = some σ') : jMet l D ad cid yX12_year cX12_year 4 none 2 43 [.ref a0] σ none σ' := by
  refine jMet_of (ls0 := [some (.ref a0), none, none, none]) (by decide) (Nat.le_of_ble_eq_true rfl) rfl (fun K X R0 _ => ?_)
  unfold f_X12_year at h
  refine j_iconst (v := 0) X dX12_year_0 (by decide) ?_
  refine j_istore_n (ls' := [some (.ref a0), some (.int (0 : Int32)), none, none]) X 1 dX12_year_1 rfl (Nat.le_of_ble_eq_true rfl) rfl ?_
  obtain ⟨q23, σ24, hL27, h⟩ := jbd_some h
  refine X12_year_L2_ok X ⟨ha0.1, ha0.2⟩ jFU (0 : Int32) σ _ hL27 ?_
  refine j_aload_n X 0 dX12_year_92 rfl rfl ?_
  refine j_iconst (v := 5) X dX12_year_93 (by decide) ?_
  refine j_dup2 X dX12_year_94 rfl rfl ?_
  refine j_iaload X ha0.1 ha0.2 dX12_year_95 h (fun v25 h => ?_)
  refine j_iconst (v := 1) X dX12_year_96 (by decide) ?_
  refine j_iadd X dX12_year_97 ?_
  refine j_iastore X ha0.1 ha0.2 dX12_year_98 h (fun σ26 h => ?_)
  obtain rfl := Option.some.inj h
  exact j_vret X R0 dX12_year_99
def X12_layThen_L2_b  (rec : Int32 → jMem → Option ((Unit) × jMem)) (x1 : Int32) (σ : jMem) : Option ((Unit) × jMem) :=
  if (67 : Int32) ≤ x1 then
  some ((), σ)
else
  jld σ 93 67 x1 (fun v1 =>
  jst σ 95 67 x1 v1 (fun σ2 =>
  rec (x1 + 1) σ2))
def X12_layThen_L2  : Nat → Int32 → jMem → Option ((Unit) × jMem) := jloop (fun rec s σ => X12_layThen_L2_b  rec s σ)
set_option maxRecDepth 100000 in
set_option maxHeartbeats 4000000 in
theorem X12_layThen_L2_bok {K : jK} (X : JX K cX12_layThen 2 RX12 0 0)   {rec : Int32 → jMem → Option ((Unit) × jMem)} (ih : ∀ (s : Int32) (σ : jMem) (o : (Unit) × jMem), rec s σ = some o → (J K 26 [none, none] [] o.2) → J K 2 [some (.ref 89), some (.int s)] [] σ) : ∀ (x1 : Int32) (σ : jMem) (o : (Unit) × jMem), X12_layThen_L2_b  rec x1 σ = some o → (J K 26 [none, none] [] o.2) → J K 2 [some (.ref 89), some (.int x1)] [] σ := by
  intro x1 σ o h kk
  unfold X12_layThen_L2_b at h
  refine j_iload_n X 1 dX12_layThen_2 rfl rfl ?_
  refine j_bipush (v := 67) X dX12_layThen_3 (by decide) ?_
  refine j_icmp_ge (tgt := 26) X dX12_layThen_5 (by decide) h (fun h => ?_) (fun h => ?_)
  · obtain rfl := Option.some.inj h
    exact j_sub (ls' := [none, none]) ⟨Or.inl rfl, Or.inl rfl, trivial⟩ kk
  · refine j_aload_n X 0 dX12_layThen_8 rfl rfl ?_
    refine j_getR (t := 95) X fg_RX12_25 ln_89 ly_89 rfl dX12_layThen_9 ?_
    refine j_iload_n X 1 dX12_layThen_12 rfl rfl ?_
    refine j_aload_n X 0 dX12_layThen_13 rfl rfl ?_
    refine j_getR (t := 93) X fg_RX12_19 ln_89 ly_89 rfl dX12_layThen_14 ?_
    refine j_iload_n X 1 dX12_layThen_17 rfl rfl ?_
    refine j_iaload X ln_93 ly_93 dX12_layThen_18 h (fun v1 h => ?_)
    refine j_iastore X ln_95 ly_95 dX12_layThen_19 h (fun σ2 h => ?_)
    refine j_iinc (v := (x1 + 1)) (ls' := [some (.ref 89), some (.int (x1 + 1))]) X dX12_layThen_20 rfl rfl (Nat.le_of_ble_eq_true rfl) rfl ?_
    refine j_goto (tgt := 2) X dX12_layThen_23 (by decide) ?_
    exact ih (x1 + 1) σ2 _ h kk
theorem X12_layThen_L2_ok {K : jK} (X : JX K cX12_layThen 2 RX12 0 0)   : ∀ (n : Nat) (s : Int32) (σ : jMem) (o : (Unit) × jMem), X12_layThen_L2  n s σ = some o → (J K 26 [none, none] [] o.2) → J K 2 [some (.ref 89), some (.int s)] [] σ := by
  intro n
  induction n with
  | zero => intro s σ o h; cases h
  | succ n ih => intro s σ o h; exact X12_layThen_L2_bok X  ih (s) σ o h
def f_X12_layThen  (σ : jMem) : Option jMem :=
  jbd (X12_layThen_L2  jFU (0 : Int32) σ) (fun q3 σ4 =>
  some σ4)
set_option maxRecDepth 100000 in
set_option maxHeartbeats 4000000 in
theorem c_X12_layThen {l : Launch} {D : va_G} {ad : Nat → Nat} {cid : Nat → ClassId}   {σ : jMem} {σ' : jMem} (h : f_X12_layThen  σ = some σ') : jMet l D ad cid yX12_layThen cX12_layThen 2 none 0 0 [.ref 89] σ none σ' := by
  refine jMet_of (ls0 := [some (.ref 89), none]) (by decide) (Nat.le_of_ble_eq_true rfl) rfl (fun K X R0 _ => ?_)
  unfold f_X12_layThen at h
  refine j_iconst (v := 0) X dX12_layThen_0 (by decide) ?_
  refine j_istore_n (ls' := [some (.ref 89), some (.int (0 : Int32))]) X 1 dX12_layThen_1 rfl (Nat.le_of_ble_eq_true rfl) rfl ?_
  obtain ⟨q3, σ4, hL5, h⟩ := jbd_some h
  refine X12_layThen_L2_ok X  jFU (0 : Int32) σ _ hL5 ?_
  obtain rfl := Option.some.inj h
  exact j_vret X R0 dX12_layThen_26
def X12_keep_L51_b  (rec : Int32 → jMem → Option ((Unit) × jMem)) (x1 : Int32) (σ : jMem) : Option ((Unit) × jMem) :=
  if (67 : Int32) ≤ x1 then
  some ((), σ)
else
  jld σ 93 67 x1 (fun v4 =>
  jst σ 96 1608 (((67 : Int32) * (σ.1 89 9)) + x1) v4 (fun σ5 =>
  rec (x1 + 1) σ5))
def X12_keep_L51  : Nat → Int32 → jMem → Option ((Unit) × jMem) := jloop (fun rec s σ => X12_keep_L51_b  rec s σ)
set_option maxRecDepth 100000 in
set_option maxHeartbeats 4000000 in
theorem X12_keep_L51_bok {K : jK} (X : JX K cX12_keep 2 RX12 0 0)   {rec : Int32 → jMem → Option ((Unit) × jMem)} (ih : ∀ (s : Int32) (σ : jMem) (o : (Unit) × jMem), rec s σ = some o → (J K 83 [some (.ref 89), none] [] o.2) → J K 51 [some (.ref 89), some (.int s)] [] σ) : ∀ (x1 : Int32) (σ : jMem) (o : (Unit) × jMem), X12_keep_L51_b  rec x1 σ = some o → (J K 83 [some (.ref 89), none] [] o.2) → J K 51 [some (.ref 89), some (.int x1)] [] σ := by
  intro x1 σ o h kk
  unfold X12_keep_L51_b at h
  refine j_iload_n X 1 dX12_keep_51 rfl rfl ?_
  refine j_bipush (v := 67) X dX12_keep_52 (by decide) ?_
  refine j_icmp_ge (tgt := 83) X dX12_keep_54 (by decide) h (fun h => ?_) (fun h => ?_)
  · obtain rfl := Option.some.inj h
    exact j_sub (ls' := [some (.ref 89), none]) ⟨Or.inr rfl, Or.inl rfl, trivial⟩ kk
  · refine j_aload_n X 0 dX12_keep_57 rfl rfl ?_
    refine j_getR (t := 96) X fg_RX12_28 ln_89 ly_89 rfl dX12_keep_58 ?_
    refine j_bipush (v := 67) X dX12_keep_61 (by decide) ?_
    refine j_aload_n X 0 dX12_keep_63 rfl rfl ?_
    refine j_getI X fg_RX12_150 ln_89 ly_89 rfl dX12_keep_64 ?_
    refine j_imul X dX12_keep_67 ?_
    refine j_iload_n X 1 dX12_keep_68 rfl rfl ?_
    refine j_iadd X dX12_keep_69 ?_
    refine j_aload_n X 0 dX12_keep_70 rfl rfl ?_
    refine j_getR (t := 93) X fg_RX12_19 ln_89 ly_89 rfl dX12_keep_71 ?_
    refine j_iload_n X 1 dX12_keep_74 rfl rfl ?_
    refine j_iaload X ln_93 ly_93 dX12_keep_75 h (fun v4 h => ?_)
    refine j_iastore X ln_96 ly_96 dX12_keep_76 h (fun σ5 h => ?_)
    refine j_iinc (v := (x1 + 1)) (ls' := [some (.ref 89), some (.int (x1 + 1))]) X dX12_keep_77 rfl rfl (Nat.le_of_ble_eq_true rfl) rfl ?_
    refine j_goto (tgt := 51) X dX12_keep_80 (by decide) ?_
    exact ih (x1 + 1) σ5 _ h kk
theorem X12_keep_L51_ok {K : jK} (X : JX K cX12_keep 2 RX12 0 0)   : ∀ (n : Nat) (s : Int32) (σ : jMem) (o : (Unit) × jMem), X12_keep_L51  n s σ = some o → (J K 83 [some (.ref 89), none] [] o.2) → J K 51 [some (.ref 89), some (.int s)] [] σ := by
  intro n
  induction n with
  | zero => intro s σ o h; cases h
  | succ n ih => intro s σ o h; exact X12_keep_L51_bok X  ih (s) σ o h
def X12_keep_L11_b  (rec : Int32 → jMem → Option ((Unit) × jMem)) (x1 : Int32) (σ : jMem) : Option ((Unit) × jMem) :=
  if (1541 : Int32) ≤ x1 then
  some ((), σ)
else
  jld σ 96 1608 (x1 + (67 : Int32)) (fun v10 =>
  jst σ 96 1608 x1 v10 (fun σ11 =>
  rec (x1 + 1) σ11))
def X12_keep_L11  : Nat → Int32 → jMem → Option ((Unit) × jMem) := jloop (fun rec s σ => X12_keep_L11_b  rec s σ)
set_option maxRecDepth 100000 in
set_option maxHeartbeats 4000000 in
theorem X12_keep_L11_bok {K : jK} (X : JX K cX12_keep 2 RX12 0 0)   {rec : Int32 → jMem → Option ((Unit) × jMem)} (ih : ∀ (s : Int32) (σ : jMem) (o : (Unit) × jMem), rec s σ = some o → (J K 39 [some (.ref 89), none] [] o.2) → J K 11 [some (.ref 89), some (.int s)] [] σ) : ∀ (x1 : Int32) (σ : jMem) (o : (Unit) × jMem), X12_keep_L11_b  rec x1 σ = some o → (J K 39 [some (.ref 89), none] [] o.2) → J K 11 [some (.ref 89), some (.int x1)] [] σ := by
  intro x1 σ o h kk
  unfold X12_keep_L11_b at h
  refine j_iload_n X 1 dX12_keep_11 rfl rfl ?_
  refine j_sipush (v := 1541) X dX12_keep_12 (by decide) ?_
  refine j_icmp_ge (tgt := 39) X dX12_keep_15 (by decide) h (fun h => ?_) (fun h => ?_)
  · obtain rfl := Option.some.inj h
    exact j_sub (ls' := [some (.ref 89), none]) ⟨Or.inr rfl, Or.inl rfl, trivial⟩ kk
  · refine j_aload_n X 0 dX12_keep_18 rfl rfl ?_
    refine j_getR (t := 96) X fg_RX12_28 ln_89 ly_89 rfl dX12_keep_19 ?_
    refine j_iload_n X 1 dX12_keep_22 rfl rfl ?_
    refine j_aload_n X 0 dX12_keep_23 rfl rfl ?_
    refine j_getR (t := 96) X fg_RX12_28 ln_89 ly_89 rfl dX12_keep_24 ?_
    refine j_iload_n X 1 dX12_keep_27 rfl rfl ?_
    refine j_bipush (v := 67) X dX12_keep_28 (by decide) ?_
    refine j_iadd X dX12_keep_30 ?_
    refine j_iaload X ln_96 ly_96 dX12_keep_31 h (fun v10 h => ?_)
    refine j_iastore X ln_96 ly_96 dX12_keep_32 h (fun σ11 h => ?_)
    refine j_iinc (v := (x1 + 1)) (ls' := [some (.ref 89), some (.int (x1 + 1))]) X dX12_keep_33 rfl rfl (Nat.le_of_ble_eq_true rfl) rfl ?_
    refine j_goto (tgt := 11) X dX12_keep_36 (by decide) ?_
    exact ih (x1 + 1) σ11 _ h kk
theorem X12_keep_L11_ok {K : jK} (X : JX K cX12_keep 2 RX12 0 0)   : ∀ (n : Nat) (s : Int32) (σ : jMem) (o : (Unit) × jMem), X12_keep_L11  n s σ = some o → (J K 39 [some (.ref 89), none] [] o.2) → J K 11 [some (.ref 89), some (.int s)] [] σ := by
  intro n
  induction n with
  | zero => intro s σ o h; cases h
  | succ n ih => intro s σ o h; exact X12_keep_L11_bok X  ih (s) σ o h
def f_X12_keep  (σ : jMem) : Option jMem :=
  jj (fun (q2 : Unit) σ3 =>
  jbd (X12_keep_L51  jFU (0 : Int32) σ3) (fun q6 σ7 =>
  jlet (jset σ7 89 9 ((σ7.1 89 9) + (1 : Int32))) (fun σ8 =>
  some σ8))) (fun k1 =>
  if ¬ (σ.1 89 9) = (24 : Int32) then
  k1 () σ
else
  jbd (X12_keep_L11  jFU (0 : Int32) σ) (fun q12 σ13 =>
  jlet (jset σ13 89 9 ((σ13.1 89 9) - (1 : Int32))) (fun σ14 =>
  k1 () σ14)))
set_option maxRecDepth 100000 in
set_option maxHeartbeats 4000000 in
theorem c_X12_keep {l : Launch} {D : va_G} {ad : Nat → Nat} {cid : Nat → ClassId}   {σ : jMem} {σ' : jMem} (h : f_X12_keep  σ = some σ') : jMet l D ad cid yX12_keep cX12_keep 2 none 0 0 [.ref 89] σ none σ' := by
  refine jMet_of (ls0 := [some (.ref 89), none]) (by decide) (Nat.le_of_ble_eq_true rfl) rfl (fun K X R0 _ => ?_)
  unfold f_X12_keep at h
  refine j_aload_n X 0 dX12_keep_0 rfl rfl ?_
  refine j_getI X fg_RX12_150 ln_89 ly_89 rfl dX12_keep_1 ?_
  refine j_bipush (v := 24) X dX12_keep_4 (by decide) ?_
  refine j_join (pcJ := 49) (lsJ := fun q2 => [some (.ref 89), none]) (stJ := fun q2 => []) h (fun q2 σ3 h => ?_) (fun k1 hk1 h => ?_)
  · refine j_iconst (v := 0) X dX12_keep_49 (by decide) ?_
    refine j_istore_n (ls' := [some (.ref 89), some (.int (0 : Int32))]) X 1 dX12_keep_50 rfl (Nat.le_of_ble_eq_true rfl) rfl ?_
    obtain ⟨q6, σ7, hL9, h⟩ := jbd_some h
    refine X12_keep_L51_ok X  jFU (0 : Int32) σ3 _ hL9 ?_
    refine j_aload_n X 0 dX12_keep_83 rfl rfl ?_
    refine j_dup X dX12_keep_84 rfl ?_
    refine j_getI X fg_RX12_150 ln_89 ly_89 rfl dX12_keep_85 ?_
    refine j_iconst (v := 1) X dX12_keep_88 (by decide) ?_
    refine j_iadd X dX12_keep_89 ?_
    refine j_put X fp_RX12_150 ln_89 ly_89 rfl rfl rfl dX12_keep_90 h (fun σ8 h => ?_)
    obtain rfl := Option.some.inj h
    exact j_vret X R0 dX12_keep_93
  · refine j_icmp_ne (tgt := 49) X dX12_keep_6 (by decide) h (fun h => ?_) (fun h => ?_)
    · exact hk1 () σ h
    · refine j_iconst (v := 0) X dX12_keep_9 (by decide) ?_
      refine j_istore_n (ls' := [some (.ref 89), some (.int (0 : Int32))]) X 1 dX12_keep_10 rfl (Nat.le_of_ble_eq_true rfl) rfl ?_
      obtain ⟨q12, σ13, hL15, h⟩ := jbd_some h
      refine X12_keep_L11_ok X  jFU (0 : Int32) σ _ hL15 ?_
      refine j_aload_n X 0 dX12_keep_39 rfl rfl ?_
      refine j_dup X dX12_keep_40 rfl ?_
      refine j_getI X fg_RX12_150 ln_89 ly_89 rfl dX12_keep_41 ?_
      refine j_iconst (v := 1) X dX12_keep_44 (by decide) ?_
      refine j_isub X dX12_keep_45 ?_
      refine j_put X fp_RX12_150 ln_89 ly_89 rfl rfl rfl dX12_keep_46 h (fun σ14 h => ?_)
      exact hk1 () σ14 h
