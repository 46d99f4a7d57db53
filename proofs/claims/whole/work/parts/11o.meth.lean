def f_X12_far (a0 : Int32) (σ : jMem) : Option (Int32 × jMem) :=
  jlet (jset σ 89 0 (0 : Int32)) (fun σ1 =>
  jbd (f_X12_isThere  σ1) (fun v2 σ3 =>
  if ¬ v2 = 0 then
  jbd (f_X12_isField ((a0).toInt64) σ3) (fun v5 σ6 =>
  if ¬ v5 = 0 then
  jbd (f_X12_allPaths  σ6) (fun v8 σ9 =>
  jbv (f_X12_layFars v8 σ9) (fun σ11 =>
  jld σ11 98 8 a0 (fun v13 =>
  some ((v13, σ11)))))
else
  some (((-1000001 : Int32), σ6)))
else
  some (((-1000002 : Int32), σ3))))
set_option maxRecDepth 100000 in
set_option maxHeartbeats 4000000 in
theorem c_X12_far {l : Launch} {D : va_G} {ad : Nat → Nat} {cid : Nat → ClassId} {a0 : Int32}  {σ : jMem} {r : Int32} {σ' : jMem} (h : f_X12_far a0 σ = some (r, σ')) : jMet l D ad cid yX12_far cX12_far 2 (some .int) 2 48 [.ref 89, .int a0] σ (some (.int r)) σ' := by
  refine jMet_of (ls0 := [some (.ref 89), some (.int a0)]) (by decide) (Nat.le_of_ble_eq_true rfl) rfl (fun K X R0 _ => ?_)
  unfold f_X12_far at h
  refine j_aload_n X 0 dX12_far_0 rfl rfl ?_
  refine j_iconst (v := 0) X dX12_far_1 (by decide) ?_
  refine j_put X fp_RX12_47 ln_89 ly_89 rfl rfl rfl dX12_far_2 h (fun σ1 h => ?_)
  refine j_aload_n X 0 dX12_far_5 rfl rfl ?_
  obtain ⟨v2, σ3, hm4, h⟩ := jbd_some h
  refine j_callV (as := []) (st := []) (st1 := [.int v2]) X ln_89 ly_89 rfl rfl sv_RX12_203 ⟨by decide, by decide⟩ rfl rfl (Nat.le_of_ble_eq_true rfl) rfl dX12_far_6 jrv_i (c_X12_isThere  hm4) rfl ?_
  refine j_if_ne (tgt := 15) X dX12_far_9 (by decide) h (fun h => ?_) (fun h => ?_)
  · refine j_iload_n X 1 dX12_far_15 rfl rfl ?_
    refine j_i2l X dX12_far_16 ?_
    obtain ⟨v5, σ6, hm7, h⟩ := jbd_some h
    refine j_callS (as := [.long ((a0).toInt64)]) (st := []) (st1 := [.int v5]) X ss_RX12_207 ⟨by decide, by decide⟩ rfl rfl (Nat.le_of_ble_eq_true rfl) rfl dX12_far_17 jrv_i (c_X12_isField  hm7) rfl ?_
    refine j_if_ne (tgt := 26) X dX12_far_20 (by decide) h (fun h => ?_) (fun h => ?_)
    · refine j_aload_n X 0 dX12_far_26 rfl rfl ?_
      refine j_aload_n X 0 dX12_far_27 rfl rfl ?_
      obtain ⟨v8, σ9, hm10, h⟩ := jbd_some h
      refine j_callV (as := []) (st := [.ref 89]) (st1 := [.int v8, .ref 89]) X ln_89 ly_89 rfl rfl sv_RX12_157 ⟨by decide, by decide⟩ rfl rfl (Nat.le_of_ble_eq_true rfl) rfl dX12_far_28 jrv_i (c_X12_allPaths  hm10) rfl ?_
      obtain ⟨σ11, hm12, h⟩ := jbv_some h
      refine j_callV (as := [.int v8]) (st := []) (st1 := []) X ln_89 ly_89 rfl rfl sv_RX12_161 ⟨by decide, by decide⟩ rfl rfl (Nat.le_of_ble_eq_true rfl) rfl dX12_far_31 jrv_v (c_X12_layFars  hm12) rfl ?_
      refine j_aload_n X 0 dX12_far_34 rfl rfl ?_
      refine j_getR (t := 98) X fg_RX12_34 ln_89 ly_89 rfl dX12_far_35 ?_
      refine j_iload_n X 1 dX12_far_38 rfl rfl ?_
      refine j_iaload X ln_98 ly_98 dX12_far_39 h (fun v13 h => ?_)
      obtain ⟨rfl, rfl⟩ := jin2 h
      exact j_iret X R0 dX12_far_40
    · refine j_ldc (v := -1000001) X tw_948 dX12_far_23 ?_
      obtain ⟨rfl, rfl⟩ := jin2 h
      exact j_iret X R0 dX12_far_25
  · refine j_ldc (v := -1000002) X tw_1041 dX12_far_12 ?_
    obtain ⟨rfl, rfl⟩ := jin2 h
    exact j_iret X R0 dX12_far_14
def X12_pairs_L33_b (p2 : Int32) (rec : Int32 × Int32 → jMem → Option ((Int32) × jMem)) (x1 : Int32) (x3 : Int32) (σ : jMem) : Option ((Int32) × jMem) :=
  jld σ 93 67 (4 : Int32) (fun v7 =>
  if v7 ≤ x3 then
  some (x1, σ)
else
  jbd (f_X12_swears 93 p2 σ) (fun v8 σ9 =>
  if v8 = 0 then
  jlet ((x1 + (0 : Int32))) (fun v11 =>
  rec (v11, (x3 + 1)) σ9)
else
  jbd (f_X12_swears 93 p2 σ9) (fun v12 σ13 =>
  jbd (f_X12_swears 93 x3 σ13) (fun v15 σ16 =>
  if ¬ v12 = v15 then
  jlet ((x1 + (0 : Int32))) (fun v18 =>
  rec (v18, (x3 + 1)) σ16)
else
  jlet ((x1 + (1 : Int32))) (fun v19 =>
  rec (v19, (x3 + 1)) σ16)))))
def X12_pairs_L33 (p2 : Int32) : Nat → Int32 × Int32 → jMem → Option ((Int32) × jMem) := jloop (fun rec s σ => X12_pairs_L33_b p2 rec s.1 s.2 σ)
set_option maxRecDepth 100000 in
set_option maxHeartbeats 4000000 in
theorem X12_pairs_L33_bok {K : jK} (X : JX K cX12_pairs 4 RX12 3 64) {p2 : Int32}  {rec : Int32 × Int32 → jMem → Option ((Int32) × jMem)} (ih : ∀ (s : Int32 × Int32) (σ : jMem) (o : (Int32) × jMem), rec s σ = some o → (J K 87 [some (.ref 89), some (.int o.1), some (.int p2), none] [] o.2) → J K 33 [some (.ref 89), some (.int s.1), some (.int p2), some (.int s.2)] [] σ) : ∀ (x1 : Int32) (x3 : Int32) (σ : jMem) (o : (Int32) × jMem), X12_pairs_L33_b p2 rec x1 x3 σ = some o → (J K 87 [some (.ref 89), some (.int o.1), some (.int p2), none] [] o.2) → J K 33 [some (.ref 89), some (.int x1), some (.int p2), some (.int x3)] [] σ := by
  intro x1 x3 σ o h kk
  unfold X12_pairs_L33_b at h
  refine j_iload_n X 3 dX12_pairs_33 rfl rfl ?_
  refine j_aload_n X 0 dX12_pairs_34 rfl rfl ?_
  refine j_getR (t := 93) X fg_RX12_19 ln_89 ly_89 rfl dX12_pairs_35 ?_
  refine j_iconst (v := 4) X dX12_pairs_38 (by decide) ?_
  refine j_iaload X ln_93 ly_93 dX12_pairs_39 h (fun v7 h => ?_)
  refine j_icmp_ge (tgt := 87) X dX12_pairs_40 (by decide) h (fun h => ?_) (fun h => ?_)
  · obtain rfl := Option.some.inj h
    exact j_sub (ls' := [some (.ref 89), some (.int x1), some (.int p2), none]) ⟨Or.inr rfl, Or.inr rfl, Or.inr rfl, Or.inl rfl, trivial⟩ kk
  · refine j_iload_n X 1 dX12_pairs_43 rfl rfl ?_
    refine j_aload_n X 0 dX12_pairs_44 rfl rfl ?_
    refine j_getR (t := 93) X fg_RX12_19 ln_89 ly_89 rfl dX12_pairs_45 ?_
    refine j_iload_n X 2 dX12_pairs_48 rfl rfl ?_
    obtain ⟨v8, σ9, hm10, h⟩ := jbd_some h
    refine j_callS (as := [.ref 93, .int p2]) (st := [.int x1]) (st1 := [.int v8, .int x1]) X ss_RX12_195 ⟨by decide, by decide⟩ rfl rfl (Nat.le_of_ble_eq_true rfl) rfl dX12_pairs_49 jrv_i (c_X12_swears ⟨ln_93, ly_93⟩ hm10) rfl ?_
    refine j_if_eq (tgt := 78) X dX12_pairs_52 (by decide) h (fun h => ?_) (fun h => ?_)
    · refine j_iconst (v := 0) X dX12_pairs_78 (by decide) ?_
      refine j_iadd X dX12_pairs_79 ?_
      refine j_letI h (fun v11 h => ?_)
      refine j_istore_n (ls' := [some (.ref 89), some (.int v11), some (.int p2), some (.int x3)]) X 1 dX12_pairs_80 rfl (Nat.le_of_ble_eq_true rfl) rfl ?_
      refine j_iinc (v := (x3 + 1)) (ls' := [some (.ref 89), some (.int v11), some (.int p2), some (.int (x3 + 1))]) X dX12_pairs_81 rfl rfl (Nat.le_of_ble_eq_true rfl) rfl ?_
      refine j_goto (tgt := 33) X dX12_pairs_84 (by decide) ?_
      exact ih (v11, (x3 + 1)) σ9 _ h kk
    · refine j_aload_n X 0 dX12_pairs_55 rfl rfl ?_
      refine j_getR (t := 93) X fg_RX12_19 ln_89 ly_89 rfl dX12_pairs_56 ?_
      refine j_iload_n X 2 dX12_pairs_59 rfl rfl ?_
      obtain ⟨v12, σ13, hm14, h⟩ := jbd_some h
      refine j_callS (as := [.ref 93, .int p2]) (st := [.int x1]) (st1 := [.int v12, .int x1]) X ss_RX12_195 ⟨by decide, by decide⟩ rfl rfl (Nat.le_of_ble_eq_true rfl) rfl dX12_pairs_60 jrv_i (c_X12_swears ⟨ln_93, ly_93⟩ hm14) rfl ?_
      refine j_aload_n X 0 dX12_pairs_63 rfl rfl ?_
      refine j_getR (t := 93) X fg_RX12_19 ln_89 ly_89 rfl dX12_pairs_64 ?_
      refine j_iload_n X 3 dX12_pairs_67 rfl rfl ?_
      obtain ⟨v15, σ16, hm17, h⟩ := jbd_some h
      refine j_callS (as := [.ref 93, .int x3]) (st := [.int v12, .int x1]) (st1 := [.int v15, .int v12, .int x1]) X ss_RX12_195 ⟨by decide, by decide⟩ rfl rfl (Nat.le_of_ble_eq_true rfl) rfl dX12_pairs_68 jrv_i (c_X12_swears ⟨ln_93, ly_93⟩ hm17) rfl ?_
      refine j_icmp_ne (tgt := 78) X dX12_pairs_71 (by decide) h (fun h => ?_) (fun h => ?_)
      · refine j_iconst (v := 0) X dX12_pairs_78 (by decide) ?_
        refine j_iadd X dX12_pairs_79 ?_
        refine j_letI h (fun v18 h => ?_)
        refine j_istore_n (ls' := [some (.ref 89), some (.int v18), some (.int p2), some (.int x3)]) X 1 dX12_pairs_80 rfl (Nat.le_of_ble_eq_true rfl) rfl ?_
        refine j_iinc (v := (x3 + 1)) (ls' := [some (.ref 89), some (.int v18), some (.int p2), some (.int (x3 + 1))]) X dX12_pairs_81 rfl rfl (Nat.le_of_ble_eq_true rfl) rfl ?_
        refine j_goto (tgt := 33) X dX12_pairs_84 (by decide) ?_
        exact ih (v18, (x3 + 1)) σ16 _ h kk
      · refine j_iconst (v := 1) X dX12_pairs_74 (by decide) ?_
        refine j_goto (tgt := 79) X dX12_pairs_75 (by decide) ?_
        refine j_iadd X dX12_pairs_79 ?_
        refine j_letI h (fun v19 h => ?_)
        refine j_istore_n (ls' := [some (.ref 89), some (.int v19), some (.int p2), some (.int x3)]) X 1 dX12_pairs_80 rfl (Nat.le_of_ble_eq_true rfl) rfl ?_
        refine j_iinc (v := (x3 + 1)) (ls' := [some (.ref 89), some (.int v19), some (.int p2), some (.int (x3 + 1))]) X dX12_pairs_81 rfl rfl (Nat.le_of_ble_eq_true rfl) rfl ?_
        refine j_goto (tgt := 33) X dX12_pairs_84 (by decide) ?_
        exact ih (v19, (x3 + 1)) σ16 _ h kk
theorem X12_pairs_L33_ok {K : jK} (X : JX K cX12_pairs 4 RX12 3 64) {p2 : Int32}  : ∀ (n : Nat) (s : Int32 × Int32) (σ : jMem) (o : (Int32) × jMem), X12_pairs_L33 p2 n s σ = some o → (J K 87 [some (.ref 89), some (.int o.1), some (.int p2), none] [] o.2) → J K 33 [some (.ref 89), some (.int s.1), some (.int p2), some (.int s.2)] [] σ := by
  intro n
  induction n with
  | zero => intro s σ o h; cases h
  | succ n ih => intro s σ o h; exact X12_pairs_L33_bok X  ih (s.1) (s.2) σ o h
def X12_pairs_L19_b  (rec : Int32 × Int32 → jMem → Option ((Int32) × jMem)) (x1 : Int32) (x2 : Int32) (σ : jMem) : Option ((Int32) × jMem) :=
  jld σ 93 67 (4 : Int32) (fun v5 =>
  if v5 ≤ x2 then
  some (x1, σ)
else
  jlet ((x2 + (1 : Int32))) (fun v6 =>
  jbd (X12_pairs_L33 (x2) jFU (x1, v6) σ) (fun q20 σ21 =>
  rec (q20, (x2 + 1)) σ21)))
def X12_pairs_L19  : Nat → Int32 × Int32 → jMem → Option ((Int32) × jMem) := jloop (fun rec s σ => X12_pairs_L19_b  rec s.1 s.2 σ)
set_option maxRecDepth 100000 in
set_option maxHeartbeats 4000000 in
theorem X12_pairs_L19_bok {K : jK} (X : JX K cX12_pairs 4 RX12 3 64)   {rec : Int32 × Int32 → jMem → Option ((Int32) × jMem)} (ih : ∀ (s : Int32 × Int32) (σ : jMem) (o : (Int32) × jMem), rec s σ = some o → (J K 93 [none, some (.int o.1), none, none] [] o.2) → J K 19 [some (.ref 89), some (.int s.1), some (.int s.2), none] [] σ) : ∀ (x1 : Int32) (x2 : Int32) (σ : jMem) (o : (Int32) × jMem), X12_pairs_L19_b  rec x1 x2 σ = some o → (J K 93 [none, some (.int o.1), none, none] [] o.2) → J K 19 [some (.ref 89), some (.int x1), some (.int x2), none] [] σ := by
  intro x1 x2 σ o h kk
  unfold X12_pairs_L19_b at h
  refine j_iload_n X 2 dX12_pairs_19 rfl rfl ?_
  refine j_aload_n X 0 dX12_pairs_20 rfl rfl ?_
  refine j_getR (t := 93) X fg_RX12_19 ln_89 ly_89 rfl dX12_pairs_21 ?_
  refine j_iconst (v := 4) X dX12_pairs_24 (by decide) ?_
  refine j_iaload X ln_93 ly_93 dX12_pairs_25 h (fun v5 h => ?_)
  refine j_icmp_ge (tgt := 93) X dX12_pairs_26 (by decide) h (fun h => ?_) (fun h => ?_)
  · obtain rfl := Option.some.inj h
    exact j_sub (ls' := [none, some (.int x1), none, none]) ⟨Or.inl rfl, Or.inr rfl, Or.inl rfl, Or.inl rfl, trivial⟩ kk
  · refine j_iload_n X 2 dX12_pairs_29 rfl rfl ?_
    refine j_iconst (v := 1) X dX12_pairs_30 (by decide) ?_
    refine j_iadd X dX12_pairs_31 ?_
    refine j_letI h (fun v6 h => ?_)
    refine j_istore_n (ls' := [some (.ref 89), some (.int x1), some (.int x2), some (.int v6)]) X 3 dX12_pairs_32 rfl (Nat.le_of_ble_eq_true rfl) rfl ?_
    obtain ⟨q20, σ21, hL22, h⟩ := jbd_some h
    refine X12_pairs_L33_ok X  jFU (x1, v6) σ _ hL22 ?_
    refine j_iinc (v := (x2 + 1)) (ls' := [some (.ref 89), some (.int q20), some (.int (x2 + 1)), none]) X dX12_pairs_87 rfl rfl (Nat.le_of_ble_eq_true rfl) rfl ?_
    refine j_goto (tgt := 19) X dX12_pairs_90 (by decide) ?_
    exact ih (q20, (x2 + 1)) σ21 _ h kk
theorem X12_pairs_L19_ok {K : jK} (X : JX K cX12_pairs 4 RX12 3 64)   : ∀ (n : Nat) (s : Int32 × Int32) (σ : jMem) (o : (Int32) × jMem), X12_pairs_L19  n s σ = some o → (J K 93 [none, some (.int o.1), none, none] [] o.2) → J K 19 [some (.ref 89), some (.int s.1), some (.int s.2), none] [] σ := by
  intro n
  induction n with
  | zero => intro s σ o h; cases h
  | succ n ih => intro s σ o h; exact X12_pairs_L19_bok X  ih (s.1) (s.2) σ o h
def f_X12_pairs  (σ : jMem) : Option (Int32 × jMem) :=
  jlet (jset σ 89 0 (0 : Int32)) (fun σ1 =>
  jbd (f_X12_isThere  σ1) (fun v2 σ3 =>
  if ¬ v2 = 0 then
  jbd (X12_pairs_L19  jFU ((0 : Int32), (0 : Int32)) σ3) (fun q23 σ24 =>
  some ((q23, σ24)))
else
  some (((-1000002 : Int32), σ3))))
set_option maxRecDepth 100000 in
set_option maxHeartbeats 4000000 in
theorem c_X12_pairs {l : Launch} {D : va_G} {ad : Nat → Nat} {cid : Nat → ClassId}   {σ : jMem} {r : Int32} {σ' : jMem} (h : f_X12_pairs  σ = some (r, σ')) : jMet l D ad cid yX12_pairs cX12_pairs 4 (some .int) 3 64 [.ref 89] σ (some (.int r)) σ' := by
  refine jMet_of (ls0 := [some (.ref 89), none, none, none]) (by decide) (Nat.le_of_ble_eq_true rfl) rfl (fun K X R0 _ => ?_)
  unfold f_X12_pairs at h
  refine j_aload_n X 0 dX12_pairs_0 rfl rfl ?_
  refine j_iconst (v := 0) X dX12_pairs_1 (by decide) ?_
  refine j_put X fp_RX12_47 ln_89 ly_89 rfl rfl rfl dX12_pairs_2 h (fun σ1 h => ?_)
  refine j_aload_n X 0 dX12_pairs_5 rfl rfl ?_
  obtain ⟨v2, σ3, hm4, h⟩ := jbd_some h
  refine j_callV (as := []) (st := []) (st1 := [.int v2]) X ln_89 ly_89 rfl rfl sv_RX12_203 ⟨by decide, by decide⟩ rfl rfl (Nat.le_of_ble_eq_true rfl) rfl dX12_pairs_6 jrv_i (c_X12_isThere  hm4) rfl ?_
  refine j_if_ne (tgt := 15) X dX12_pairs_9 (by decide) h (fun h => ?_) (fun h => ?_)
  · refine j_iconst (v := 0) X dX12_pairs_15 (by decide) ?_
    refine j_istore_n (ls' := [some (.ref 89), some (.int (0 : Int32)), none, none]) X 1 dX12_pairs_16 rfl (Nat.le_of_ble_eq_true rfl) rfl ?_
    refine j_iconst (v := 0) X dX12_pairs_17 (by decide) ?_
    refine j_istore_n (ls' := [some (.ref 89), some (.int (0 : Int32)), some (.int (0 : Int32)), none]) X 2 dX12_pairs_18 rfl (Nat.le_of_ble_eq_true rfl) rfl ?_
    obtain ⟨q23, σ24, hL25, h⟩ := jbd_some h
    refine X12_pairs_L19_ok X  jFU ((0 : Int32), (0 : Int32)) σ3 _ hL25 ?_
    refine j_iload_n X 1 dX12_pairs_93 rfl rfl ?_
    obtain ⟨rfl, rfl⟩ := jin2 h
    exact j_iret X R0 dX12_pairs_94
  · refine j_ldc (v := -1000002) X tw_1041 dX12_pairs_12 ?_
    obtain ⟨rfl, rfl⟩ := jin2 h
    exact j_iret X R0 dX12_pairs_14
