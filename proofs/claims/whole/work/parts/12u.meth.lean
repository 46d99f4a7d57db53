def X12_year_L2_b (p0 : Nat) (rec : Int32 → jMem → Option ((Unit) × jMem)) (x1 : Int32) (σ : jMem) : Option ((Unit) × jMem) :=
  jld σ p0 67 (4 : Int32) (fun v1 =>
  if v1 ≤ x1 then
  some ((), σ)
else
  jlet (((43 : Int32) + ((4 : Int32) * x1))) (fun v2 =>
  jlet ((v2 + (1 : Int32))) (fun v3 =>
  jld σ p0 67 v3 (fun v4 =>
  jbd (f_X12_lives p0 x1 σ) (fun v5 σ6 =>
  jj (fun (q9 : Int32) σ10 =>
  jst σ10 p0 67 v3 (v4 + q9) (fun σ11 =>
  jld σ11 p0 67 (v2 + (3 : Int32)) (fun v12 =>
  jld σ11 p0 67 v2 (fun v13 =>
  jj (fun (q15 : Int32) σ16 =>
  jst σ16 p0 67 (v2 + (3 : Int32)) q15 (fun σ17 =>
  rec (x1 + 1) σ17)) (fun k14 =>
  jj (fun (q19 : Unit) σ20 =>
  jld σ20 p0 67 v2 (fun v21 =>
  if ¬ v21 = (5 : Int32) then
  k14 v12 σ20
else
  k14 (v12 &&& (v12 - (1 : Int32))) σ20)) (fun k18 =>
  if ¬ v13 = (4 : Int32) then
  k18 () σ11
else
  jld σ11 p0 67 (5 : Int32) (fun v22 =>
  if ¬ (v22 - v22 / (3 : Int32) * (3 : Int32)) = (2 : Int32) then
  k18 () σ11
else
  k14 (0 : Int32) σ11))))))) (fun k8 =>
  if v5 = 0 then
  k8 (0 : Int32) σ6
else
  k8 (1 : Int32) σ6))))))
def X12_year_L2 (p0 : Nat) : Nat → Int32 → jMem → Option ((Unit) × jMem) := jloop (fun rec s σ => X12_year_L2_b p0 rec s σ)
set_option maxRecDepth 100000 in
set_option maxHeartbeats 4000000 in
theorem X12_year_L2_bok {K : jK} (X : JX K cX12_year 4 RX12 2 43) {p0 : Nat} (hp0 : p0 < jN ∧ jL p0 = (1, 67, [])) {rec : Int32 → jMem → Option ((Unit) × jMem)} (ih : ∀ (s : Int32) (σ : jMem) (o : (Unit) × jMem), rec s σ = some o → (J K 92 [some (.ref p0), none, none, none] [] o.2) → J K 2 [some (.ref p0), some (.int s), none, none] [] σ) : ∀ (x1 : Int32) (σ : jMem) (o : (Unit) × jMem), X12_year_L2_b p0 rec x1 σ = some o → (J K 92 [some (.ref p0), none, none, none] [] o.2) → J K 2 [some (.ref p0), some (.int x1), none, none] [] σ := by
  intro x1 σ o h kk
  unfold X12_year_L2_b at h
  refine j_iload_n X 1 dX12_year_2 rfl rfl ?_
  refine j_aload_n X 0 dX12_year_3 rfl rfl ?_
  refine j_iconst (v := 4) X dX12_year_4 (by decide) ?_
  refine j_iaload X hp0.1 hp0.2 dX12_year_5 h (fun v1 h => ?_)
  refine j_icmp_ge (tgt := 92) X dX12_year_6 (by decide) h (fun h => ?_) (fun h => ?_)
  · obtain rfl := Option.some.inj h
    exact j_sub (ls' := [some (.ref p0), none, none, none]) ⟨Or.inr rfl, Or.inl rfl, Or.inl rfl, Or.inl rfl, trivial⟩ kk
  · refine j_bipush (v := 43) X dX12_year_9 (by decide) ?_
    refine j_iconst (v := 4) X dX12_year_11 (by decide) ?_
    refine j_iload_n X 1 dX12_year_12 rfl rfl ?_
    refine j_imul X dX12_year_13 ?_
    refine j_iadd X dX12_year_14 ?_
    refine j_letI h (fun v2 h => ?_)
    refine j_istore_n (ls' := [some (.ref p0), some (.int x1), some (.int v2), none]) X 2 dX12_year_15 rfl (Nat.le_of_ble_eq_true rfl) rfl ?_
    refine j_aload_n X 0 dX12_year_16 rfl rfl ?_
    refine j_iload_n X 2 dX12_year_17 rfl rfl ?_
    refine j_iconst (v := 1) X dX12_year_18 (by decide) ?_
    refine j_iadd X dX12_year_19 ?_
    refine j_letI h (fun v3 h => ?_)
    refine j_dup2 X dX12_year_20 rfl rfl ?_
    refine j_iaload X hp0.1 hp0.2 dX12_year_21 h (fun v4 h => ?_)
    refine j_aload_n X 0 dX12_year_22 rfl rfl ?_
    refine j_iload_n X 1 dX12_year_23 rfl rfl ?_
    obtain ⟨v5, σ6, hm7, h⟩ := jbd_some h
    refine j_callS (as := [.ref p0, .int x1]) (st := [.int v4, .int v3, .ref p0]) (st1 := [.int v5, .int v4, .int v3, .ref p0]) X ss_RX12_191 ⟨by decide, by decide⟩ rfl rfl (Nat.le_of_ble_eq_true rfl) rfl dX12_year_24 jrv_i (c_X12_lives ⟨hp0.1, hp0.2⟩ hm7) rfl ?_
    refine j_join (pcJ := 35) (lsJ := fun q9 => [some (.ref p0), some (.int x1), some (.int v2), none]) (stJ := fun q9 => [.int q9, .int v4, .int v3, .ref p0]) h (fun q9 σ10 h => ?_) (fun k8 hk8 h => ?_)
    · refine j_iadd X dX12_year_35 ?_
      refine j_iastore X hp0.1 hp0.2 dX12_year_36 h (fun σ11 h => ?_)
      refine j_aload_n X 0 dX12_year_37 rfl rfl ?_
      refine j_iload_n X 2 dX12_year_38 rfl rfl ?_
      refine j_iconst (v := 3) X dX12_year_39 (by decide) ?_
      refine j_iadd X dX12_year_40 ?_
      refine j_iaload X hp0.1 hp0.2 dX12_year_41 h (fun v12 h => ?_)
      refine j_istore_n (ls' := [some (.ref p0), some (.int x1), some (.int v2), some (.int v12)]) X 3 dX12_year_42 rfl (Nat.le_of_ble_eq_true rfl) rfl ?_
      refine j_aload_n X 0 dX12_year_43 rfl rfl ?_
      refine j_iload_n X 2 dX12_year_44 rfl rfl ?_
      refine j_iaload X hp0.1 hp0.2 dX12_year_45 h (fun v13 h => ?_)
      refine j_iconst (v := 4) X dX12_year_46 (by decide) ?_
      refine j_join (pcJ := 79) (lsJ := fun q15 => [some (.ref p0), some (.int x1), some (.int v2), none]) (stJ := fun q15 => [.int q15]) h (fun q15 σ16 h => ?_) (fun k14 hk14 h => ?_)
      · refine j_istore_n (ls' := [some (.ref p0), some (.int x1), some (.int v2), some (.int q15)]) X 3 dX12_year_79 rfl (Nat.le_of_ble_eq_true rfl) rfl ?_
        refine j_aload_n X 0 dX12_year_80 rfl rfl ?_
        refine j_iload_n X 2 dX12_year_81 rfl rfl ?_
        refine j_iconst (v := 3) X dX12_year_82 (by decide) ?_
        refine j_iadd X dX12_year_83 ?_
        refine j_iload_n X 3 dX12_year_84 rfl rfl ?_
        refine j_iastore X hp0.1 hp0.2 dX12_year_85 h (fun σ17 h => ?_)
        refine j_iinc (v := (x1 + 1)) (ls' := [some (.ref p0), some (.int (x1 + 1)), some (.int v2), some (.int q15)]) X dX12_year_86 rfl rfl (Nat.le_of_ble_eq_true rfl) rfl ?_
        refine j_goto (tgt := 2) X dX12_year_89 (by decide) ?_
        exact j_sub (ls' := [some (.ref p0), some (.int (x1 + 1)), none, none]) ⟨Or.inr rfl, Or.inr rfl, Or.inl rfl, Or.inl rfl, trivial⟩ (ih (x1 + 1) σ17 _ h kk)
      · refine j_join (pcJ := 63) (lsJ := fun q19 => [some (.ref p0), some (.int x1), some (.int v2), some (.int v12)]) (stJ := fun q19 => []) h (fun q19 σ20 h => ?_) (fun k18 hk18 h => ?_)
        · refine j_aload_n X 0 dX12_year_63 rfl rfl ?_
          refine j_iload_n X 2 dX12_year_64 rfl rfl ?_
          refine j_iaload X hp0.1 hp0.2 dX12_year_65 h (fun v21 h => ?_)
          refine j_iconst (v := 5) X dX12_year_66 (by decide) ?_
          refine j_icmp_ne (tgt := 78) X dX12_year_67 (by decide) h (fun h => ?_) (fun h => ?_)
          · refine j_iload_n X 3 dX12_year_78 rfl rfl ?_
            exact j_sub (ls' := [some (.ref p0), some (.int x1), some (.int v2), none]) ⟨Or.inr rfl, Or.inr rfl, Or.inr rfl, Or.inl rfl, trivial⟩ (hk14 v12 σ20 h)
          · refine j_iload_n X 3 dX12_year_70 rfl rfl ?_
            refine j_iload_n X 3 dX12_year_71 rfl rfl ?_
            refine j_iconst (v := 1) X dX12_year_72 (by decide) ?_
            refine j_isub X dX12_year_73 ?_
            refine j_iand X dX12_year_74 ?_
            refine j_goto (tgt := 79) X dX12_year_75 (by decide) ?_
            exact j_sub (ls' := [some (.ref p0), some (.int x1), some (.int v2), none]) ⟨Or.inr rfl, Or.inr rfl, Or.inr rfl, Or.inl rfl, trivial⟩ (hk14 (v12 &&& (v12 - (1 : Int32))) σ20 h)
        · refine j_icmp_ne (tgt := 63) X dX12_year_47 (by decide) h (fun h => ?_) (fun h => ?_)
          · exact hk18 () σ11 h
          · refine j_aload_n X 0 dX12_year_50 rfl rfl ?_
            refine j_iconst (v := 5) X dX12_year_51 (by decide) ?_
            refine j_iaload X hp0.1 hp0.2 dX12_year_52 h (fun v22 h => ?_)
            refine j_iconst (v := 3) X dX12_year_53 (by decide) ?_
            refine j_irem X dX12_year_54 (by decide) ?_
            refine j_iconst (v := 2) X dX12_year_55 (by decide) ?_
            refine j_icmp_ne (tgt := 63) X dX12_year_56 (by decide) h (fun h => ?_) (fun h => ?_)
            · exact hk18 () σ11 h
            · refine j_iconst (v := 0) X dX12_year_59 (by decide) ?_
              refine j_goto (tgt := 79) X dX12_year_60 (by decide) ?_
              exact j_sub (ls' := [some (.ref p0), some (.int x1), some (.int v2), none]) ⟨Or.inr rfl, Or.inr rfl, Or.inr rfl, Or.inl rfl, trivial⟩ (hk14 (0 : Int32) σ11 h)
    · refine j_if_eq (tgt := 34) X dX12_year_27 (by decide) h (fun h => ?_) (fun h => ?_)
      · refine j_iconst (v := 0) X dX12_year_34 (by decide) ?_
        exact hk8 (0 : Int32) σ6 h
      · refine j_iconst (v := 1) X dX12_year_30 (by decide) ?_
        refine j_goto (tgt := 35) X dX12_year_31 (by decide) ?_
        exact hk8 (1 : Int32) σ6 h
theorem X12_year_L2_ok {K : jK} (X : JX K cX12_year 4 RX12 2 43) {p0 : Nat} (hp0 : p0 < jN ∧ jL p0 = (1, 67, [])) : ∀ (n : Nat) (s : Int32) (σ : jMem) (o : (Unit) × jMem), X12_year_L2 p0 n s σ = some o → (J K 92 [some (.ref p0), none, none, none] [] o.2) → J K 2 [some (.ref p0), some (.int s), none, none] [] σ := by
  intro n
  induction n with
  | zero => intro s σ o h; cases h
  | succ n ih => intro s σ o h; exact X12_year_L2_bok X hp0 ih (s) σ o h
def f_X12_year (a0 : Nat) (σ : jMem) : Option jMem :=
  jbd (X12_year_L2 (a0) jFU (0 : Int32) σ) (fun q23 σ24 =>
  jld σ24 a0 67 (5 : Int32) (fun v25 =>
  jst σ24 a0 67 (5 : Int32) (v25 + (1 : Int32)) (fun σ26 =>
  some σ26)))
set_option maxRecDepth 100000 in
set_option maxHeartbeats 4000000 in
theorem c_X12_year {l : Launch} {D : va_G} {ad : Nat → Nat} {cid : Nat → ClassId} {a0 : Nat} (ha0 : a0 < jN ∧ jL a0 = (1, 67, [])) {σ : jMem} {σ' : jMem} (h : f_X12_year a0 σ = some σ') : jMet l D ad cid yX12_year cX12_year 4 none 2 43 [.ref a0] σ none σ' := by
  refine jMet_of (ls0 := [some (.ref a0), none, none, none]) (by decide) (Nat.le_of_ble_eq_true rfl) rfl (fun K X R0 _ => ?_)
  unfold f_X12_year at h
  refine j_iconst (v := 0) X dX12_year_0 (by decide) ?_
  refine j_istore_n (ls' := [some (.ref a0), some (.int (0 : Int32)), none, none]) X 1 dX12_year_1 rfl (Nat.le_of_ble_eq_true rfl) rfl ?_
  obtain ⟨q23, σ24, hL27, h⟩ := jbd_some h
  refine X12_year_L2_ok X ⟨ha0.1, ha0.2⟩ jFU (0 : Int32) σ _ hL27 ?_
  refine j_aload_n X 0 dX12_year_92 rfl rfl ?_
  refine j_iconst (v := 5) X dX12_year_93 (by decide) ?_
  refine j_dup2 X dX12_year_94 rfl rfl ?_
  refine j_iaload X ha0.1 ha0.2 dX12_year_95 h (fun v25 h => ?_)
  refine j_iconst (v := 1) X dX12_year_96 (by decide) ?_
  refine j_iadd X dX12_year_97 ?_
  refine j_iastore X ha0.1 ha0.2 dX12_year_98 h (fun σ26 h => ?_)
  obtain rfl := Option.some.inj h
  exact j_vret X R0 dX12_year_99
def X12_layThen_L2_b  (rec : Int32 → jMem → Option ((Unit) × jMem)) (x1 : Int32) (σ : jMem) : Option ((Unit) × jMem) :=
  if (67 : Int32) ≤ x1 then
  some ((), σ)
else
  jld σ 93 67 x1 (fun v1 =>
  jst σ 95 67 x1 v1 (fun σ2 =>
  rec (x1 + 1) σ2))
def X12_layThen_L2  : Nat → Int32 → jMem → Option ((Unit) × jMem) := jloop (fun rec s σ => X12_layThen_L2_b  rec s σ)
set_option maxRecDepth 100000 in
set_option maxHeartbeats 4000000 in
theorem X12_layThen_L2_bok {K : jK} (X : JX K cX12_layThen 2 RX12 0 0)   {rec : Int32 → jMem → Option ((Unit) × jMem)} (ih : ∀ (s : Int32) (σ : jMem) (o : (Unit) × jMem), rec s σ = some o → (J K 26 [none, none] [] o.2) → J K 2 [some (.ref 89), some (.int s)] [] σ) : ∀ (x1 : Int32) (σ : jMem) (o : (Unit) × jMem), X12_layThen_L2_b  rec x1 σ = some o → (J K 26 [none, none] [] o.2) → J K 2 [some (.ref 89), some (.int x1)] [] σ := by
  intro x1 σ o h kk
  unfold X12_layThen_L2_b at h
  refine j_iload_n X 1 dX12_layThen_2 rfl rfl ?_
  refine j_bipush (v := 67) X dX12_layThen_3 (by decide) ?_
  refine j_icmp_ge (tgt := 26) X dX12_layThen_5 (by decide) h (fun h => ?_) (fun h => ?_)
  · obtain rfl := Option.some.inj h
    exact j_sub (ls' := [none, none]) ⟨Or.inl rfl, Or.inl rfl, trivial⟩ kk
  · refine j_aload_n X 0 dX12_layThen_8 rfl rfl ?_
    refine j_getR (t := 95) X fg_RX12_25 ln_89 ly_89 rfl dX12_layThen_9 ?_
    refine j_iload_n X 1 dX12_layThen_12 rfl rfl ?_
    refine j_aload_n X 0 dX12_layThen_13 rfl rfl ?_
    refine j_getR (t := 93) X fg_RX12_19 ln_89 ly_89 rfl dX12_layThen_14 ?_
    refine j_iload_n X 1 dX12_layThen_17 rfl rfl ?_
    refine j_iaload X ln_93 ly_93 dX12_layThen_18 h (fun v1 h => ?_)
    refine j_iastore X ln_95 ly_95 dX12_layThen_19 h (fun σ2 h => ?_)
    refine j_iinc (v := (x1 + 1)) (ls' := [some (.ref 89), some (.int (x1 + 1))]) X dX12_layThen_20 rfl rfl (Nat.le_of_ble_eq_true rfl) rfl ?_
    refine j_goto (tgt := 2) X dX12_layThen_23 (by decide) ?_
    exact ih (x1 + 1) σ2 _ h kk
theorem X12_layThen_L2_ok {K : jK} (X : JX K cX12_layThen 2 RX12 0 0)   : ∀ (n : Nat) (s : Int32) (σ : jMem) (o : (Unit) × jMem), X12_layThen_L2  n s σ = some o → (J K 26 [none, none] [] o.2) → J K 2 [some (.ref 89), some (.int s)] [] σ := by
  intro n
  induction n with
  | zero => intro s σ o h; cases h
  | succ n ih => intro s σ o h; exact X12_layThen_L2_bok X  ih (s) σ o h
def f_X12_layThen  (σ : jMem) : Option jMem :=
  jbd (X12_layThen_L2  jFU (0 : Int32) σ) (fun q3 σ4 =>
  some σ4)
set_option maxRecDepth 100000 in
set_option maxHeartbeats 4000000 in
theorem c_X12_layThen {l : Launch} {D : va_G} {ad : Nat → Nat} {cid : Nat → ClassId}   {σ : jMem} {σ' : jMem} (h : f_X12_layThen  σ = some σ') : jMet l D ad cid yX12_layThen cX12_layThen 2 none 0 0 [.ref 89] σ none σ' := by
  refine jMet_of (ls0 := [some (.ref 89), none]) (by decide) (Nat.le_of_ble_eq_true rfl) rfl (fun K X R0 _ => ?_)
  unfold f_X12_layThen at h
  refine j_iconst (v := 0) X dX12_layThen_0 (by decide) ?_
  refine j_istore_n (ls' := [some (.ref 89), some (.int (0 : Int32))]) X 1 dX12_layThen_1 rfl (Nat.le_of_ble_eq_true rfl) rfl ?_
  obtain ⟨q3, σ4, hL5, h⟩ := jbd_some h
  refine X12_layThen_L2_ok X  jFU (0 : Int32) σ _ hL5 ?_
  obtain rfl := Option.some.inj h
  exact j_vret X R0 dX12_layThen_26
