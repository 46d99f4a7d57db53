def X12_bits_L4_b (p0 : Int32) (rec : Int32 × Int32 → jMem → Option ((Int32) × jMem)) (x1 : Int32) (x2 : Int32) (σ : jMem) : Option ((Int32) × jMem) :=
  if (12 : Int32) ≤ x2 then
  some (x1, σ)
else
  jlet ((x1 + ((p0 >>> (x2 &&& 31)) &&& (1 : Int32)))) (fun v1 =>
  rec (v1, (x2 + 1)) σ)
def X12_bits_L4 (p0 : Int32) : Nat → Int32 × Int32 → jMem → Option ((Int32) × jMem) := jloop (fun rec s σ => X12_bits_L4_b p0 rec s.1 s.2 σ)
set_option maxRecDepth 100000 in
set_option maxHeartbeats 4000000 in
theorem X12_bits_L4_bok {K : jK} (X : JX K cX12_bits 3 RX12 0 0) {p0 : Int32}  {rec : Int32 × Int32 → jMem → Option ((Int32) × jMem)} (ih : ∀ (s : Int32 × Int32) (σ : jMem) (o : (Int32) × jMem), rec s σ = some o → (J K 24 [none, some (.int o.1), none] [] o.2) → J K 4 [some (.int p0), some (.int s.1), some (.int s.2)] [] σ) : ∀ (x1 : Int32) (x2 : Int32) (σ : jMem) (o : (Int32) × jMem), X12_bits_L4_b p0 rec x1 x2 σ = some o → (J K 24 [none, some (.int o.1), none] [] o.2) → J K 4 [some (.int p0), some (.int x1), some (.int x2)] [] σ := by
  intro x1 x2 σ o h kk
  unfold X12_bits_L4_b at h
  refine j_iload_n X 2 dX12_bits_4 rfl rfl ?_
  refine j_bipush (v := 12) X dX12_bits_5 (by decide) ?_
  refine j_icmp_ge (tgt := 24) X dX12_bits_7 (by decide) h (fun h => ?_) (fun h => ?_)
  · obtain rfl := Option.some.inj h
    exact j_sub (ls' := [none, some (.int x1), none]) ⟨Or.inl rfl, Or.inr rfl, Or.inl rfl, trivial⟩ kk
  · refine j_iload_n X 1 dX12_bits_10 rfl rfl ?_
    refine j_iload_n X 0 dX12_bits_11 rfl rfl ?_
    refine j_iload_n X 2 dX12_bits_12 rfl rfl ?_
    refine j_ishr X dX12_bits_13 ?_
    refine j_iconst (v := 1) X dX12_bits_14 (by decide) ?_
    refine j_iand X dX12_bits_15 ?_
    refine j_iadd X dX12_bits_16 ?_
    refine j_letI h (fun v1 h => ?_)
    refine j_istore_n (ls' := [some (.int p0), some (.int v1), some (.int x2)]) X 1 dX12_bits_17 rfl (Nat.le_of_ble_eq_true rfl) rfl ?_
    refine j_iinc (v := (x2 + 1)) (ls' := [some (.int p0), some (.int v1), some (.int (x2 + 1))]) X dX12_bits_18 rfl rfl (Nat.le_of_ble_eq_true rfl) rfl ?_
    refine j_goto (tgt := 4) X dX12_bits_21 (by decide) ?_
    exact ih (v1, (x2 + 1)) σ _ h kk
theorem X12_bits_L4_ok {K : jK} (X : JX K cX12_bits 3 RX12 0 0) {p0 : Int32}  : ∀ (n : Nat) (s : Int32 × Int32) (σ : jMem) (o : (Int32) × jMem), X12_bits_L4 p0 n s σ = some o → (J K 24 [none, some (.int o.1), none] [] o.2) → J K 4 [some (.int p0), some (.int s.1), some (.int s.2)] [] σ := by
  intro n
  induction n with
  | zero => intro s σ o h; cases h
  | succ n ih => intro s σ o h; exact X12_bits_L4_bok X  ih (s.1) (s.2) σ o h
def f_X12_bits (a0 : Int32) (σ : jMem) : Option (Int32 × jMem) :=
  jbd (X12_bits_L4 (a0) jFU ((0 : Int32), (0 : Int32)) σ) (fun q2 σ3 =>
  some ((q2, σ3)))
set_option maxRecDepth 100000 in
set_option maxHeartbeats 4000000 in
theorem c_X12_bits {l : Launch} {D : va_G} {ad : Nat → Nat} {cid : Nat → ClassId} {a0 : Int32}  {σ : jMem} {r : Int32} {σ' : jMem} (h : f_X12_bits a0 σ = some (r, σ')) : jMet l D ad cid yX12_bits cX12_bits 3 (some .int) 0 0 [.int a0] σ (some (.int r)) σ' := by
  refine jMet_of (ls0 := [some (.int a0), none, none]) (by decide) (Nat.le_of_ble_eq_true rfl) rfl (fun K X R0 _ => ?_)
  unfold f_X12_bits at h
  refine j_iconst (v := 0) X dX12_bits_0 (by decide) ?_
  refine j_istore_n (ls' := [some (.int a0), some (.int (0 : Int32)), none]) X 1 dX12_bits_1 rfl (Nat.le_of_ble_eq_true rfl) rfl ?_
  refine j_iconst (v := 0) X dX12_bits_2 (by decide) ?_
  refine j_istore_n (ls' := [some (.int a0), some (.int (0 : Int32)), some (.int (0 : Int32))]) X 2 dX12_bits_3 rfl (Nat.le_of_ble_eq_true rfl) rfl ?_
  obtain ⟨q2, σ3, hL4, h⟩ := jbd_some h
  refine X12_bits_L4_ok X  jFU ((0 : Int32), (0 : Int32)) σ _ hL4 ?_
  refine j_iload_n X 1 dX12_bits_24 rfl rfl ?_
  obtain ⟨rfl, rfl⟩ := jin2 h
  exact j_iret X R0 dX12_bits_25
def f_X12_allPaths  (σ : jMem) : Option (Int32 × jMem) :=
  jld σ 93 67 (3 : Int32) (fun v1 =>
  some (((((1 : Int32) <<< (v1 &&& 31)) - (1 : Int32)), σ)))
set_option maxRecDepth 100000 in
set_option maxHeartbeats 4000000 in
theorem c_X12_allPaths {l : Launch} {D : va_G} {ad : Nat → Nat} {cid : Nat → ClassId}   {σ : jMem} {r : Int32} {σ' : jMem} (h : f_X12_allPaths  σ = some (r, σ')) : jMet l D ad cid yX12_allPaths cX12_allPaths 1 (some .int) 0 0 [.ref 89] σ (some (.int r)) σ' := by
  refine jMet_of (ls0 := [some (.ref 89)]) (by decide) (Nat.le_of_ble_eq_true rfl) rfl (fun K X R0 _ => ?_)
  unfold f_X12_allPaths at h
  refine j_iconst (v := 1) X dX12_allPaths_0 (by decide) ?_
  refine j_aload_n X 0 dX12_allPaths_1 rfl rfl ?_
  refine j_getR (t := 93) X fg_RX12_19 ln_89 ly_89 rfl dX12_allPaths_2 ?_
  refine j_iconst (v := 3) X dX12_allPaths_5 (by decide) ?_
  refine j_iaload X ln_93 ly_93 dX12_allPaths_6 h (fun v1 h => ?_)
  refine j_ishl X dX12_allPaths_7 ?_
  refine j_iconst (v := 1) X dX12_allPaths_8 (by decide) ?_
  refine j_isub X dX12_allPaths_9 ?_
  obtain ⟨rfl, rfl⟩ := jin2 h
  exact j_iret X R0 dX12_allPaths_10
def f_X12_other (a0 : Int32) (a1 : Int32) (σ : jMem) : Option (Int32 × jMem) :=
  jlet (((7 : Int32) + ((3 : Int32) * a0))) (fun v1 =>
  jld σ 93 67 v1 (fun v2 =>
  if ¬ v2 = a1 then
  jld σ 93 67 (v1 + (1 : Int32)) (fun v3 =>
  if ¬ v3 = a1 then
  some (((-1000000 : Int32), σ))
else
  jld σ 93 67 v1 (fun v4 =>
  some ((v4, σ))))
else
  jld σ 93 67 (v1 + (1 : Int32)) (fun v5 =>
  some ((v5, σ)))))
set_option maxRecDepth 100000 in
set_option maxHeartbeats 4000000 in
theorem c_X12_other {l : Launch} {D : va_G} {ad : Nat → Nat} {cid : Nat → ClassId} {a0 : Int32} {a1 : Int32}  {σ : jMem} {r : Int32} {σ' : jMem} (h : f_X12_other a0 a1 σ = some (r, σ')) : jMet l D ad cid yX12_other cX12_other 4 (some .int) 0 0 [.ref 89, .int a0, .int a1] σ (some (.int r)) σ' := by
  refine jMet_of (ls0 := [some (.ref 89), some (.int a0), some (.int a1), none]) (by decide) (Nat.le_of_ble_eq_true rfl) rfl (fun K X R0 _ => ?_)
  unfold f_X12_other at h
  refine j_bipush (v := 7) X dX12_other_0 (by decide) ?_
  refine j_iconst (v := 3) X dX12_other_2 (by decide) ?_
  refine j_iload_n X 1 dX12_other_3 rfl rfl ?_
  refine j_imul X dX12_other_4 ?_
  refine j_iadd X dX12_other_5 ?_
  refine j_letI h (fun v1 h => ?_)
  refine j_istore_n (ls' := [some (.ref 89), some (.int a0), some (.int a1), some (.int v1)]) X 3 dX12_other_6 rfl (Nat.le_of_ble_eq_true rfl) rfl ?_
  refine j_aload_n X 0 dX12_other_7 rfl rfl ?_
  refine j_getR (t := 93) X fg_RX12_19 ln_89 ly_89 rfl dX12_other_8 ?_
  refine j_iload_n X 3 dX12_other_11 rfl rfl ?_
  refine j_iaload X ln_93 ly_93 dX12_other_12 h (fun v2 h => ?_)
  refine j_iload_n X 2 dX12_other_13 rfl rfl ?_
  refine j_icmp_ne (tgt := 28) X dX12_other_14 (by decide) h (fun h => ?_) (fun h => ?_)
  · refine j_aload_n X 0 dX12_other_28 rfl rfl ?_
    refine j_getR (t := 93) X fg_RX12_19 ln_89 ly_89 rfl dX12_other_29 ?_
    refine j_iload_n X 3 dX12_other_32 rfl rfl ?_
    refine j_iconst (v := 1) X dX12_other_33 (by decide) ?_
    refine j_iadd X dX12_other_34 ?_
    refine j_iaload X ln_93 ly_93 dX12_other_35 h (fun v3 h => ?_)
    refine j_iload_n X 2 dX12_other_36 rfl rfl ?_
    refine j_icmp_ne (tgt := 49) X dX12_other_37 (by decide) h (fun h => ?_) (fun h => ?_)
    · refine j_ldc (v := -1000000) X tw_988 dX12_other_49 ?_
      obtain ⟨rfl, rfl⟩ := jin2 h
      exact j_iret X R0 dX12_other_51
    · refine j_aload_n X 0 dX12_other_40 rfl rfl ?_
      refine j_getR (t := 93) X fg_RX12_19 ln_89 ly_89 rfl dX12_other_41 ?_
      refine j_iload_n X 3 dX12_other_44 rfl rfl ?_
      refine j_iaload X ln_93 ly_93 dX12_other_45 h (fun v4 h => ?_)
      refine j_goto (tgt := 51) X dX12_other_46 (by decide) ?_
      obtain ⟨rfl, rfl⟩ := jin2 h
      exact j_iret X R0 dX12_other_51
  · refine j_aload_n X 0 dX12_other_17 rfl rfl ?_
    refine j_getR (t := 93) X fg_RX12_19 ln_89 ly_89 rfl dX12_other_18 ?_
    refine j_iload_n X 3 dX12_other_21 rfl rfl ?_
    refine j_iconst (v := 1) X dX12_other_22 (by decide) ?_
    refine j_iadd X dX12_other_23 ?_
    refine j_iaload X ln_93 ly_93 dX12_other_24 h (fun v5 h => ?_)
    refine j_goto (tgt := 51) X dX12_other_25 (by decide) ?_
    obtain ⟨rfl, rfl⟩ := jin2 h
    exact j_iret X R0 dX12_other_51
