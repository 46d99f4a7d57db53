def f_X12_isThere  (σ : jMem) : Option (Int32 × jMem) :=
  jld σ 93 67 (0 : Int32) (fun v1 =>
  if ¬ v1 = (1 : Int32) then
  some (((0 : Int32), σ))
else
  some (((1 : Int32), σ)))
set_option maxRecDepth 100000 in
set_option maxHeartbeats 4000000 in
theorem c_X12_isThere {l : Launch} {D : va_G} {ad : Nat → Nat} {cid : Nat → ClassId}   {σ : jMem} {r : Int32} {σ' : jMem} (h : f_X12_isThere  σ = some (r, σ')) : jMet l D ad cid yX12_isThere cX12_isThere 1 (some .boolean) 0 0 [.ref 89] σ (some (.int r)) σ' := by
  refine jMet_of (ls0 := [some (.ref 89)]) (by decide) (Nat.le_of_ble_eq_true rfl) rfl (fun K X R0 _ => ?_)
  unfold f_X12_isThere at h
  refine j_aload_n X 0 dX12_isThere_0 rfl rfl ?_
  refine j_getR (t := 93) X fg_RX12_19 ln_89 ly_89 rfl dX12_isThere_1 ?_
  refine j_iconst (v := 0) X dX12_isThere_4 (by decide) ?_
  refine j_iaload X ln_93 ly_93 dX12_isThere_5 h (fun v1 h => ?_)
  refine j_iconst (v := 1) X dX12_isThere_6 (by decide) ?_
  refine j_icmp_ne (tgt := 14) X dX12_isThere_7 (by decide) h (fun h => ?_) (fun h => ?_)
  · refine j_iconst (v := 0) X dX12_isThere_14 (by decide) ?_
    obtain ⟨rfl, rfl⟩ := jin2 h
    exact j_zret X R0 rfl dX12_isThere_15
  · refine j_iconst (v := 1) X dX12_isThere_10 (by decide) ?_
    refine j_goto (tgt := 15) X dX12_isThere_11 (by decide) ?_
    obtain ⟨rfl, rfl⟩ := jin2 h
    exact j_zret X R0 rfl dX12_isThere_15
def f_X12_isField (a0 : Int64) (σ : jMem) : Option (Int32 × jMem) :=
  jbd (f_X12_in a0 (0 : Int64) (7 : Int64) σ) (fun v1 σ2 =>
  jck (jisb v1 = true) (some ((v1, σ2))))
set_option maxRecDepth 100000 in
set_option maxHeartbeats 4000000 in
theorem c_X12_isField {l : Launch} {D : va_G} {ad : Nat → Nat} {cid : Nat → ClassId} {a0 : Int64}  {σ : jMem} {r : Int32} {σ' : jMem} (h : f_X12_isField a0 σ = some (r, σ')) : jMet l D ad cid yX12_isField cX12_isField 2 (some .boolean) 1 25 [.long a0] σ (some (.int r)) σ' := by
  refine jMet_of (ls0 := [some (.long a0), none]) (by decide) (Nat.le_of_ble_eq_true rfl) rfl (fun K X R0 _ => ?_)
  unfold f_X12_isField at h
  refine j_lload_n X 0 dX12_isField_0 rfl rfl ?_
  refine j_lconst (v := 0) X dX12_isField_1 (by decide) ?_
  refine j_ldc2_w (v := 7) X tw_943 dX12_isField_2 ?_
  obtain ⟨v1, σ2, hm3, h⟩ := jbd_some h
  refine j_callS (as := [.long a0, .long (0 : Int64), .long (7 : Int64)]) (st := []) (st1 := [.int v1]) X ss_RX12_57 ⟨by decide, by decide⟩ rfl rfl (Nat.le_of_ble_eq_true rfl) rfl dX12_isField_5 jrv_i (c_X12_in  hm3) rfl ?_
  obtain ⟨hc4, h⟩ := jck_some h
  obtain ⟨rfl, rfl⟩ := jin2 h
  exact j_zret X R0 hc4 dX12_isField_8
def f_X12_isPath (a0 : Int32) (σ : jMem) : Option (Int32 × jMem) :=
  jld σ 93 67 (3 : Int32) (fun v1 =>
  jbd (f_X12_in ((a0).toInt64) (0 : Int64) (((v1 - (1 : Int32))).toInt64) σ) (fun v2 σ3 =>
  jck (jisb v2 = true) (some ((v2, σ3)))))
set_option maxRecDepth 100000 in
set_option maxHeartbeats 4000000 in
theorem c_X12_isPath {l : Launch} {D : va_G} {ad : Nat → Nat} {cid : Nat → ClassId} {a0 : Int32}  {σ : jMem} {r : Int32} {σ' : jMem} (h : f_X12_isPath a0 σ = some (r, σ')) : jMet l D ad cid yX12_isPath cX12_isPath 2 (some .boolean) 1 25 [.ref 89, .int a0] σ (some (.int r)) σ' := by
  refine jMet_of (ls0 := [some (.ref 89), some (.int a0)]) (by decide) (Nat.le_of_ble_eq_true rfl) rfl (fun K X R0 _ => ?_)
  unfold f_X12_isPath at h
  refine j_iload_n X 1 dX12_isPath_0 rfl rfl ?_
  refine j_i2l X dX12_isPath_1 ?_
  refine j_lconst (v := 0) X dX12_isPath_2 (by decide) ?_
  refine j_aload_n X 0 dX12_isPath_3 rfl rfl ?_
  refine j_getR (t := 93) X fg_RX12_19 ln_89 ly_89 rfl dX12_isPath_4 ?_
  refine j_iconst (v := 3) X dX12_isPath_7 (by decide) ?_
  refine j_iaload X ln_93 ly_93 dX12_isPath_8 h (fun v1 h => ?_)
  refine j_iconst (v := 1) X dX12_isPath_9 (by decide) ?_
  refine j_isub X dX12_isPath_10 ?_
  refine j_i2l X dX12_isPath_11 ?_
  obtain ⟨v2, σ3, hm4, h⟩ := jbd_some h
  refine j_callS (as := [.long ((a0).toInt64), .long (0 : Int64), .long (((v1 - (1 : Int32))).toInt64)]) (st := []) (st1 := [.int v2]) X ss_RX12_57 ⟨by decide, by decide⟩ rfl rfl (Nat.le_of_ble_eq_true rfl) rfl dX12_isPath_12 jrv_i (c_X12_in  hm4) rfl ?_
  obtain ⟨hc5, h⟩ := jck_some h
  obtain ⟨rfl, rfl⟩ := jin2 h
  exact j_zret X R0 hc5 dX12_isPath_15
def f_X12_isWitness (a0 : Int32) (σ : jMem) : Option (Int32 × jMem) :=
  jld σ 93 67 (4 : Int32) (fun v1 =>
  jbd (f_X12_in ((a0).toInt64) (0 : Int64) (((v1 - (1 : Int32))).toInt64) σ) (fun v2 σ3 =>
  jck (jisb v2 = true) (some ((v2, σ3)))))
set_option maxRecDepth 100000 in
set_option maxHeartbeats 4000000 in
theorem c_X12_isWitness {l : Launch} {D : va_G} {ad : Nat → Nat} {cid : Nat → ClassId} {a0 : Int32}  {σ : jMem} {r : Int32} {σ' : jMem} (h : f_X12_isWitness a0 σ = some (r, σ')) : jMet l D ad cid yX12_isWitness cX12_isWitness 2 (some .boolean) 1 25 [.ref 89, .int a0] σ (some (.int r)) σ' := by
  refine jMet_of (ls0 := [some (.ref 89), some (.int a0)]) (by decide) (Nat.le_of_ble_eq_true rfl) rfl (fun K X R0 _ => ?_)
  unfold f_X12_isWitness at h
  refine j_iload_n X 1 dX12_isWitness_0 rfl rfl ?_
  refine j_i2l X dX12_isWitness_1 ?_
  refine j_lconst (v := 0) X dX12_isWitness_2 (by decide) ?_
  refine j_aload_n X 0 dX12_isWitness_3 rfl rfl ?_
  refine j_getR (t := 93) X fg_RX12_19 ln_89 ly_89 rfl dX12_isWitness_4 ?_
  refine j_iconst (v := 4) X dX12_isWitness_7 (by decide) ?_
  refine j_iaload X ln_93 ly_93 dX12_isWitness_8 h (fun v1 h => ?_)
  refine j_iconst (v := 1) X dX12_isWitness_9 (by decide) ?_
  refine j_isub X dX12_isWitness_10 ?_
  refine j_i2l X dX12_isWitness_11 ?_
  obtain ⟨v2, σ3, hm4, h⟩ := jbd_some h
  refine j_callS (as := [.long ((a0).toInt64), .long (0 : Int64), .long (((v1 - (1 : Int32))).toInt64)]) (st := []) (st1 := [.int v2]) X ss_RX12_57 ⟨by decide, by decide⟩ rfl rfl (Nat.le_of_ble_eq_true rfl) rfl dX12_isWitness_12 jrv_i (c_X12_in  hm4) rfl ?_
  obtain ⟨hc5, h⟩ := jck_some h
  obtain ⟨rfl, rfl⟩ := jin2 h
  exact j_zret X R0 hc5 dX12_isWitness_15
def f_X12_has (a0 : Int32) (a1 : Int32) (σ : jMem) : Option (Int32 × jMem) :=
  if ¬ ((a0 >>> (a1 &&& 31)) &&& (1 : Int32)) = (1 : Int32) then
  some (((0 : Int32), σ))
else
  some (((1 : Int32), σ))
set_option maxRecDepth 100000 in
set_option maxHeartbeats 4000000 in
theorem c_X12_has {l : Launch} {D : va_G} {ad : Nat → Nat} {cid : Nat → ClassId} {a0 : Int32} {a1 : Int32}  {σ : jMem} {r : Int32} {σ' : jMem} (h : f_X12_has a0 a1 σ = some (r, σ')) : jMet l D ad cid yX12_has cX12_has 2 (some .boolean) 0 0 [.int a0, .int a1] σ (some (.int r)) σ' := by
  refine jMet_of (ls0 := [some (.int a0), some (.int a1)]) (by decide) (Nat.le_of_ble_eq_true rfl) rfl (fun K X R0 _ => ?_)
  unfold f_X12_has at h
  refine j_iload_n X 0 dX12_has_0 rfl rfl ?_
  refine j_iload_n X 1 dX12_has_1 rfl rfl ?_
  refine j_ishr X dX12_has_2 ?_
  refine j_iconst (v := 1) X dX12_has_3 (by decide) ?_
  refine j_iand X dX12_has_4 ?_
  refine j_iconst (v := 1) X dX12_has_5 (by decide) ?_
  refine j_icmp_ne (tgt := 13) X dX12_has_6 (by decide) h (fun h => ?_) (fun h => ?_)
  · refine j_iconst (v := 0) X dX12_has_13 (by decide) ?_
    obtain ⟨rfl, rfl⟩ := jin2 h
    exact j_zret X R0 rfl dX12_has_14
  · refine j_iconst (v := 1) X dX12_has_9 (by decide) ?_
    refine j_goto (tgt := 14) X dX12_has_10 (by decide) ?_
    obtain ⟨rfl, rfl⟩ := jin2 h
    exact j_zret X R0 rfl dX12_has_14
def X12_bits_L4_b (p0 : Int32) (rec : Int32 × Int32 → jMem → Option ((Int32) × jMem)) (x1 : Int32) (x2 : Int32) (σ : jMem) : Option ((Int32) × jMem) :=
  if (12 : Int32) ≤ x2 then
  some (x1, σ)
else
  jlet ((x1 + ((p0 >>> (x2 &&& 31)) &&& (1 : Int32)))) (fun v1 =>
  rec (v1, (x2 + 1)) σ)
def X12_bits_L4 (p0 : Int32) : Nat → Int32 × Int32 → jMem → Option ((Int32) × jMem) := jloop (fun rec s σ => X12_bits_L4_b p0 rec s.1 s.2 σ)
set_option maxRecDepth 100000 in
set_option maxHeartbeats 4000000 in
theorem X12_bits_L4_bok {K : jK} (X : JX K cX12_bits 3 RX12 0 0) {p0 : Int32}  {rec : Int32 × Int32 → jMem → Option ((Int32) × jMem)} (ih : ∀ (s : Int32 × Int32) (σ : jMem) (o : (Int32) × jMem), rec s σ = some o → (J K 24 [none, some (.int o.1), none] [] o.2) → J K 4 [some (.int p0), some (.int s.1), some (.int s.2)] [] σ) : ∀ (x1 : Int32) (x2 : Int32) (σ : jMem) (o : (Int32) × jMem), X12_bits_L4_b p0 rec x1 x2 σ = some o → (J K 24 [none, some (.int o.1), none] [] o.2) → J K 4 [some (.int p0), some (.int x1), some (.int x2)] [] σ := by
  intro x1 x2 σ o h kk
  unfold X12_bits_L4_b at h
  refine j_iload_n X 2 dX12_bits_4 rfl rfl ?_
  refine j_bipush (v := 12) X dX12_bits_5 (by decide) ?_
  refine j_icmp_ge (tgt := 24) X dX12_bits_7 (by decide) h (fun h => ?_) (fun h => ?_)
  · obtain rfl := Option.some.inj h
    exact j_sub (ls' := [none, some (.int x1), none]) ⟨Or.inl rfl, Or.inr rfl, Or.inl rfl, trivial⟩ kk
  · refine j_iload_n X 1 dX12_bits_10 rfl rfl ?_
    refine j_iload_n X 0 dX12_bits_11 rfl rfl ?_
    refine j_iload_n X 2 dX12_bits_12 rfl rfl ?_
    refine j_ishr X dX12_bits_13 ?_
    refine j_iconst (v := 1) X dX12_bits_14 (by decide) ?_
    refine j_iand X dX12_bits_15 ?_
    refine j_iadd X dX12_bits_16 ?_
    refine j_letI h (fun v1 h => ?_)
    refine j_istore_n (ls' := [some (.int p0), some (.int v1), some (.int x2)]) X 1 dX12_bits_17 rfl (Nat.le_of_ble_eq_true rfl) rfl ?_
    refine j_iinc (v := (x2 + 1)) (ls' := [some (.int p0), some (.int v1), some (.int (x2 + 1))]) X dX12_bits_18 rfl rfl (Nat.le_of_ble_eq_true rfl) rfl ?_
    refine j_goto (tgt := 4) X dX12_bits_21 (by decide) ?_
    exact ih (v1, (x2 + 1)) σ _ h kk
theorem X12_bits_L4_ok {K : jK} (X : JX K cX12_bits 3 RX12 0 0) {p0 : Int32}  : ∀ (n : Nat) (s : Int32 × Int32) (σ : jMem) (o : (Int32) × jMem), X12_bits_L4 p0 n s σ = some o → (J K 24 [none, some (.int o.1), none] [] o.2) → J K 4 [some (.int p0), some (.int s.1), some (.int s.2)] [] σ := by
  intro n
  induction n with
  | zero => intro s σ o h; cases h
  | succ n ih => intro s σ o h; exact X12_bits_L4_bok X  ih (s.1) (s.2) σ o h
def f_X12_bits (a0 : Int32) (σ : jMem) : Option (Int32 × jMem) :=
  jbd (X12_bits_L4 (a0) jFU ((0 : Int32), (0 : Int32)) σ) (fun q2 σ3 =>
  some ((q2, σ3)))
set_option maxRecDepth 100000 in
set_option maxHeartbeats 4000000 in
theorem c_X12_bits {l : Launch} {D : va_G} {ad : Nat → Nat} {cid : Nat → ClassId} {a0 : Int32}  {σ : jMem} {r : Int32} {σ' : jMem} (h : f_X12_bits a0 σ = some (r, σ')) : jMet l D ad cid yX12_bits cX12_bits 3 (some .int) 0 0 [.int a0] σ (some (.int r)) σ' := by
  refine jMet_of (ls0 := [some (.int a0), none, none]) (by decide) (Nat.le_of_ble_eq_true rfl) rfl (fun K X R0 _ => ?_)
  unfold f_X12_bits at h
  refine j_iconst (v := 0) X dX12_bits_0 (by decide) ?_
  refine j_istore_n (ls' := [some (.int a0), some (.int (0 : Int32)), none]) X 1 dX12_bits_1 rfl (Nat.le_of_ble_eq_true rfl) rfl ?_
  refine j_iconst (v := 0) X dX12_bits_2 (by decide) ?_
  refine j_istore_n (ls' := [some (.int a0), some (.int (0 : Int32)), some (.int (0 : Int32))]) X 2 dX12_bits_3 rfl (Nat.le_of_ble_eq_true rfl) rfl ?_
  obtain ⟨q2, σ3, hL4, h⟩ := jbd_some h
  refine X12_bits_L4_ok X  jFU ((0 : Int32), (0 : Int32)) σ _ hL4 ?_
  refine j_iload_n X 1 dX12_bits_24 rfl rfl ?_
  obtain ⟨rfl, rfl⟩ := jin2 h
  exact j_iret X R0 dX12_bits_25
def f_X12_allPaths  (σ : jMem) : Option (Int32 × jMem) :=
  jld σ 93 67 (3 : Int32) (fun v1 =>
  some (((((1 : Int32) <<< (v1 &&& 31)) - (1 : Int32)), σ)))
set_option maxRecDepth 100000 in
set_option maxHeartbeats 4000000 in
theorem c_X12_allPaths {l : Launch} {D : va_G} {ad : Nat → Nat} {cid : Nat → ClassId}   {σ : jMem} {r : Int32} {σ' : jMem} (h : f_X12_allPaths  σ = some (r, σ')) : jMet l D ad cid yX12_allPaths cX12_allPaths 1 (some .int) 0 0 [.ref 89] σ (some (.int r)) σ' := by
  refine jMet_of (ls0 := [some (.ref 89)]) (by decide) (Nat.le_of_ble_eq_true rfl) rfl (fun K X R0 _ => ?_)
  unfold f_X12_allPaths at h
  refine j_iconst (v := 1) X dX12_allPaths_0 (by decide) ?_
  refine j_aload_n X 0 dX12_allPaths_1 rfl rfl ?_
  refine j_getR (t := 93) X fg_RX12_19 ln_89 ly_89 rfl dX12_allPaths_2 ?_
  refine j_iconst (v := 3) X dX12_allPaths_5 (by decide) ?_
  refine j_iaload X ln_93 ly_93 dX12_allPaths_6 h (fun v1 h => ?_)
  refine j_ishl X dX12_allPaths_7 ?_
  refine j_iconst (v := 1) X dX12_allPaths_8 (by decide) ?_
  refine j_isub X dX12_allPaths_9 ?_
  obtain ⟨rfl, rfl⟩ := jin2 h
  exact j_iret X R0 dX12_allPaths_10
