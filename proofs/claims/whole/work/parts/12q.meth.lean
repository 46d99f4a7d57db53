theorem sv_RX12_176 : jSiV RX12 176 yX12_layWay cX12_layWay 10 none 2 := ⟨tw_1049, tw_1051, ts_35, tw_13, tw_1052, by decide, by decide, by decide +kernel⟩
def f_X12_isBurial (a0 : Int32) (a1 : Int32) (σ : jMem) : Option (Int32 × jMem) :=
  jbv (f_X12_layWay a0 a1 σ) (fun σ1 =>
  jld σ1 93 67 (1 : Int32) (fun v3 =>
  if a1 = v3 then
  some (((0 : Int32), σ1))
else
  if (σ1.1 89 22) = (-1000000 : Int32) then
  some (((0 : Int32), σ1))
else
  some (((1 : Int32), σ1))))
set_option maxRecDepth 100000 in
set_option maxHeartbeats 4000000 in
theorem c_X12_isBurial {l : Launch} {D : va_G} {ad : Nat → Nat} {cid : Nat → ClassId} {a0 : Int32} {a1 : Int32}  {σ : jMem} {r : Int32} {σ' : jMem} (h : f_X12_isBurial a0 a1 σ = some (r, σ')) : jMet l D ad cid yX12_isBurial cX12_isBurial 3 (some .boolean) 3 77 [.ref 89, .int a0, .int a1] σ (some (.int r)) σ' := by
  refine jMet_of (ls0 := [some (.ref 89), some (.int a0), some (.int a1)]) (by decide) (Nat.le_of_ble_eq_true rfl) rfl (fun K X R0 _ => ?_)
  unfold f_X12_isBurial at h
  refine j_aload_n X 0 dX12_isBurial_0 rfl rfl ?_
  refine j_iload_n X 1 dX12_isBurial_1 rfl rfl ?_
  refine j_iload_n X 2 dX12_isBurial_2 rfl rfl ?_
  obtain ⟨σ1, hm2, h⟩ := jbv_some h
  refine j_callV (as := [.int a0, .int a1]) (st := []) (st1 := []) X ln_89 ly_89 rfl rfl sv_RX12_176 ⟨by decide, by decide⟩ rfl rfl (Nat.le_of_ble_eq_true rfl) rfl dX12_isBurial_3 jrv_v (c_X12_layWay  hm2) rfl ?_
  refine j_iload_n X 2 dX12_isBurial_6 rfl rfl ?_
  refine j_aload_n X 0 dX12_isBurial_7 rfl rfl ?_
  refine j_getR (t := 93) X fg_RX12_19 ln_89 ly_89 rfl dX12_isBurial_8 ?_
  refine j_iconst (v := 1) X dX12_isBurial_11 (by decide) ?_
  refine j_iaload X ln_93 ly_93 dX12_isBurial_12 h (fun v3 h => ?_)
  refine j_icmp_eq (tgt := 29) X dX12_isBurial_13 (by decide) h (fun h => ?_) (fun h => ?_)
  · refine j_iconst (v := 0) X dX12_isBurial_29 (by decide) ?_
    obtain ⟨rfl, rfl⟩ := jin2 h
    exact j_zret X R0 rfl dX12_isBurial_30
  · refine j_aload_n X 0 dX12_isBurial_16 rfl rfl ?_
    refine j_getI X fg_RX12_170 ln_89 ly_89 rfl dX12_isBurial_17 ?_
    refine j_ldc (v := -1000000) X tw_988 dX12_isBurial_20 ?_
    refine j_icmp_eq (tgt := 29) X dX12_isBurial_22 (by decide) h (fun h => ?_) (fun h => ?_)
    · refine j_iconst (v := 0) X dX12_isBurial_29 (by decide) ?_
      obtain ⟨rfl, rfl⟩ := jin2 h
      exact j_zret X R0 rfl dX12_isBurial_30
    · refine j_iconst (v := 1) X dX12_isBurial_25 (by decide) ?_
      refine j_goto (tgt := 30) X dX12_isBurial_26 (by decide) ?_
      obtain ⟨rfl, rfl⟩ := jin2 h
      exact j_zret X R0 rfl dX12_isBurial_30
def X12_pathsAt_L4_b (p1 : Int32) (rec : Int32 × Int32 → jMem → Option ((Int32) × jMem)) (x2 : Int32) (x3 : Int32) (σ : jMem) : Option ((Int32) × jMem) :=
  jld σ 93 67 (3 : Int32) (fun v1 =>
  if v1 ≤ x3 then
  some (x2, σ)
else
  jbd (f_X12_other x3 p1 σ) (fun v2 σ3 =>
  if v2 = (-1000000 : Int32) then
  jlet ((x2 ||| (0 : Int32))) (fun v5 =>
  rec (v5, (x3 + 1)) σ3)
else
  jlet ((x2 ||| ((1 : Int32) <<< (x3 &&& 31)))) (fun v6 =>
  rec (v6, (x3 + 1)) σ3)))
def X12_pathsAt_L4 (p1 : Int32) : Nat → Int32 × Int32 → jMem → Option ((Int32) × jMem) := jloop (fun rec s σ => X12_pathsAt_L4_b p1 rec s.1 s.2 σ)
set_option maxRecDepth 100000 in
set_option maxHeartbeats 4000000 in
theorem X12_pathsAt_L4_bok {K : jK} (X : JX K cX12_pathsAt 4 RX12 1 23) {p1 : Int32}  {rec : Int32 × Int32 → jMem → Option ((Int32) × jMem)} (ih : ∀ (s : Int32 × Int32) (σ : jMem) (o : (Int32) × jMem), rec s σ = some o → (J K 41 [none, none, some (.int o.1), none] [] o.2) → J K 4 [some (.ref 89), some (.int p1), some (.int s.1), some (.int s.2)] [] σ) : ∀ (x2 : Int32) (x3 : Int32) (σ : jMem) (o : (Int32) × jMem), X12_pathsAt_L4_b p1 rec x2 x3 σ = some o → (J K 41 [none, none, some (.int o.1), none] [] o.2) → J K 4 [some (.ref 89), some (.int p1), some (.int x2), some (.int x3)] [] σ := by
  intro x2 x3 σ o h kk
  unfold X12_pathsAt_L4_b at h
  refine j_iload_n X 3 dX12_pathsAt_4 rfl rfl ?_
  refine j_aload_n X 0 dX12_pathsAt_5 rfl rfl ?_
  refine j_getR (t := 93) X fg_RX12_19 ln_89 ly_89 rfl dX12_pathsAt_6 ?_
  refine j_iconst (v := 3) X dX12_pathsAt_9 (by decide) ?_
  refine j_iaload X ln_93 ly_93 dX12_pathsAt_10 h (fun v1 h => ?_)
  refine j_icmp_ge (tgt := 41) X dX12_pathsAt_11 (by decide) h (fun h => ?_) (fun h => ?_)
  · obtain rfl := Option.some.inj h
    exact j_sub (ls' := [none, none, some (.int x2), none]) ⟨Or.inl rfl, Or.inl rfl, Or.inr rfl, Or.inl rfl, trivial⟩ kk
  · refine j_iload_n X 2 dX12_pathsAt_14 rfl rfl ?_
    refine j_aload_n X 0 dX12_pathsAt_15 rfl rfl ?_
    refine j_iload_n X 3 dX12_pathsAt_16 rfl rfl ?_
    refine j_iload_n X 1 dX12_pathsAt_17 rfl rfl ?_
    obtain ⟨v2, σ3, hm4, h⟩ := jbd_some h
    refine j_callV (as := [.int x3, .int p1]) (st := [.int x2]) (st1 := [.int v2, .int x2]) X ln_89 ly_89 rfl rfl sv_RX12_173 ⟨by decide, by decide⟩ rfl rfl (Nat.le_of_ble_eq_true rfl) rfl dX12_pathsAt_18 jrv_i (c_X12_other  hm4) rfl ?_
    refine j_ldc (v := -1000000) X tw_988 dX12_pathsAt_21 ?_
    refine j_icmp_eq (tgt := 32) X dX12_pathsAt_23 (by decide) h (fun h => ?_) (fun h => ?_)
    · refine j_iconst (v := 0) X dX12_pathsAt_32 (by decide) ?_
      refine j_ior X dX12_pathsAt_33 ?_
      refine j_letI h (fun v5 h => ?_)
      refine j_istore_n (ls' := [some (.ref 89), some (.int p1), some (.int v5), some (.int x3)]) X 2 dX12_pathsAt_34 rfl (Nat.le_of_ble_eq_true rfl) rfl ?_
      refine j_iinc (v := (x3 + 1)) (ls' := [some (.ref 89), some (.int p1), some (.int v5), some (.int (x3 + 1))]) X dX12_pathsAt_35 rfl rfl (Nat.le_of_ble_eq_true rfl) rfl ?_
      refine j_goto (tgt := 4) X dX12_pathsAt_38 (by decide) ?_
      exact ih (v5, (x3 + 1)) σ3 _ h kk
    · refine j_iconst (v := 1) X dX12_pathsAt_26 (by decide) ?_
      refine j_iload_n X 3 dX12_pathsAt_27 rfl rfl ?_
      refine j_ishl X dX12_pathsAt_28 ?_
      refine j_goto (tgt := 33) X dX12_pathsAt_29 (by decide) ?_
      refine j_ior X dX12_pathsAt_33 ?_
      refine j_letI h (fun v6 h => ?_)
      refine j_istore_n (ls' := [some (.ref 89), some (.int p1), some (.int v6), some (.int x3)]) X 2 dX12_pathsAt_34 rfl (Nat.le_of_ble_eq_true rfl) rfl ?_
      refine j_iinc (v := (x3 + 1)) (ls' := [some (.ref 89), some (.int p1), some (.int v6), some (.int (x3 + 1))]) X dX12_pathsAt_35 rfl rfl (Nat.le_of_ble_eq_true rfl) rfl ?_
      refine j_goto (tgt := 4) X dX12_pathsAt_38 (by decide) ?_
      exact ih (v6, (x3 + 1)) σ3 _ h kk
theorem X12_pathsAt_L4_ok {K : jK} (X : JX K cX12_pathsAt 4 RX12 1 23) {p1 : Int32}  : ∀ (n : Nat) (s : Int32 × Int32) (σ : jMem) (o : (Int32) × jMem), X12_pathsAt_L4 p1 n s σ = some o → (J K 41 [none, none, some (.int o.1), none] [] o.2) → J K 4 [some (.ref 89), some (.int p1), some (.int s.1), some (.int s.2)] [] σ := by
  intro n
  induction n with
  | zero => intro s σ o h; cases h
  | succ n ih => intro s σ o h; exact X12_pathsAt_L4_bok X  ih (s.1) (s.2) σ o h
def f_X12_pathsAt (a0 : Int32) (σ : jMem) : Option (Int32 × jMem) :=
  jbd (X12_pathsAt_L4 (a0) jFU ((0 : Int32), (0 : Int32)) σ) (fun q7 σ8 =>
  some ((q7, σ8)))
set_option maxRecDepth 100000 in
set_option maxHeartbeats 4000000 in
theorem c_X12_pathsAt {l : Launch} {D : va_G} {ad : Nat → Nat} {cid : Nat → ClassId} {a0 : Int32}  {σ : jMem} {r : Int32} {σ' : jMem} (h : f_X12_pathsAt a0 σ = some (r, σ')) : jMet l D ad cid yX12_pathsAt cX12_pathsAt 4 (some .int) 1 23 [.ref 89, .int a0] σ (some (.int r)) σ' := by
  refine jMet_of (ls0 := [some (.ref 89), some (.int a0), none, none]) (by decide) (Nat.le_of_ble_eq_true rfl) rfl (fun K X R0 _ => ?_)
  unfold f_X12_pathsAt at h
  refine j_iconst (v := 0) X dX12_pathsAt_0 (by decide) ?_
  refine j_istore_n (ls' := [some (.ref 89), some (.int a0), some (.int (0 : Int32)), none]) X 2 dX12_pathsAt_1 rfl (Nat.le_of_ble_eq_true rfl) rfl ?_
  refine j_iconst (v := 0) X dX12_pathsAt_2 (by decide) ?_
  refine j_istore_n (ls' := [some (.ref 89), some (.int a0), some (.int (0 : Int32)), some (.int (0 : Int32))]) X 3 dX12_pathsAt_3 rfl (Nat.le_of_ble_eq_true rfl) rfl ?_
  obtain ⟨q7, σ8, hL9, h⟩ := jbd_some h
  refine X12_pathsAt_L4_ok X  jFU ((0 : Int32), (0 : Int32)) σ _ hL9 ?_
  refine j_iload_n X 2 dX12_pathsAt_41 rfl rfl ?_
  obtain ⟨rfl, rfl⟩ := jin2 h
  exact j_iret X R0 dX12_pathsAt_42
