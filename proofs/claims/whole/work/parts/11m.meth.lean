theorem sv_RX12_252 : jSiV RX12 252 yX12_waysBehind cX12_waysBehind 2 (some .int) 1 := ⟨tw_1187, tw_1189, ts_48, tw_13, tw_1190, by decide, by decide, by decide +kernel⟩
def f_X12_makesBy (a0 : Int32) (σ : jMem) : Option (Int32 × jMem) :=
  jbd (f_X12_waysBehind a0 σ) (fun v1 σ2 =>
  if ¬ v1 = (-1000000 : Int32) then
  jbd (f_X12_waysOf 93 σ2) (fun v4 σ5 =>
  jbd (f_X12_bits (v1 &&& (v4 ^^^ (-1 : Int32))) σ5) (fun v7 σ8 =>
  some ((v7, σ8))))
else
  some (((-1000000 : Int32), σ2)))
set_option maxRecDepth 100000 in
set_option maxHeartbeats 4000000 in
theorem c_X12_makesBy {l : Launch} {D : va_G} {ad : Nat → Nat} {cid : Nat → ClassId} {a0 : Int32}  {σ : jMem} {r : Int32} {σ' : jMem} (h : f_X12_makesBy a0 σ = some (r, σ')) : jMet l D ad cid yX12_makesBy cX12_makesBy 3 (some .int) 5 120 [.ref 89, .int a0] σ (some (.int r)) σ' := by
  refine jMet_of (ls0 := [some (.ref 89), some (.int a0), none]) (by decide) (Nat.le_of_ble_eq_true rfl) rfl (fun K X R0 _ => ?_)
  unfold f_X12_makesBy at h
  refine j_aload_n X 0 dX12_makesBy_0 rfl rfl ?_
  refine j_iload_n X 1 dX12_makesBy_1 rfl rfl ?_
  obtain ⟨v1, σ2, hm3, h⟩ := jbd_some h
  refine j_callV (as := [.int a0]) (st := []) (st1 := [.int v1]) X ln_89 ly_89 rfl rfl sv_RX12_252 ⟨by decide, by decide⟩ rfl rfl (Nat.le_of_ble_eq_true rfl) rfl dX12_makesBy_2 jrv_i (c_X12_waysBehind  hm3) rfl ?_
  refine j_istore_n (ls' := [some (.ref 89), some (.int a0), some (.int v1)]) X 2 dX12_makesBy_5 rfl (Nat.le_of_ble_eq_true rfl) rfl ?_
  refine j_iload_n X 2 dX12_makesBy_6 rfl rfl ?_
  refine j_ldc (v := -1000000) X tw_988 dX12_makesBy_7 ?_
  refine j_icmp_ne (tgt := 17) X dX12_makesBy_9 (by decide) h (fun h => ?_) (fun h => ?_)
  · refine j_iload_n X 2 dX12_makesBy_17 rfl rfl ?_
    refine j_aload_n X 0 dX12_makesBy_18 rfl rfl ?_
    refine j_getR (t := 93) X fg_RX12_19 ln_89 ly_89 rfl dX12_makesBy_19 ?_
    obtain ⟨v4, σ5, hm6, h⟩ := jbd_some h
    refine j_callS (as := [.ref 93]) (st := [.int v1]) (st1 := [.int v4, .int v1]) X ss_RX12_221 ⟨by decide, by decide⟩ rfl rfl (Nat.le_of_ble_eq_true rfl) rfl dX12_makesBy_22 jrv_i (c_X12_waysOf ⟨ln_93, ly_93⟩ hm6) rfl ?_
    refine j_iconst (v := -1) X dX12_makesBy_25 (by decide) ?_
    refine j_ixor X dX12_makesBy_26 ?_
    refine j_iand X dX12_makesBy_27 ?_
    obtain ⟨v7, σ8, hm9, h⟩ := jbd_some h
    refine j_callS (as := [.int (v1 &&& (v4 ^^^ (-1 : Int32)))]) (st := []) (st1 := [.int v7]) X ss_RX12_246 ⟨by decide, by decide⟩ rfl rfl (Nat.le_of_ble_eq_true rfl) rfl dX12_makesBy_28 jrv_i (c_X12_bits  hm9) rfl ?_
    obtain ⟨rfl, rfl⟩ := jin2 h
    exact j_iret X R0 dX12_makesBy_31
  · refine j_ldc (v := -1000000) X tw_988 dX12_makesBy_12 ?_
    refine j_goto (tgt := 31) X dX12_makesBy_14 (by decide) ?_
    obtain ⟨rfl, rfl⟩ := jin2 h
    exact j_iret X R0 dX12_makesBy_31
theorem sv_RX12_255 : jSiV RX12 255 yX12_makesBy cX12_makesBy 3 (some .int) 1 := ⟨tw_1183, tw_1185, ts_47, tw_13, tw_1186, by decide, by decide, by decide +kernel⟩
def f_X12_makes (a0 : Int32) (σ : jMem) : Option (Int32 × jMem) :=
  jlet (jset σ 89 0 (0 : Int32)) (fun σ1 =>
  jbd (f_X12_isThere  σ1) (fun v2 σ3 =>
  if ¬ v2 = 0 then
  jbd (f_X12_isField ((a0).toInt64) σ3) (fun v5 σ6 =>
  if v5 = 0 then
  some (((-1000001 : Int32), σ6))
else
  jbd (f_X12_makesBy a0 σ6) (fun v8 σ9 =>
  some ((v8, σ9))))
else
  some (((-1000002 : Int32), σ3))))
set_option maxRecDepth 100000 in
set_option maxHeartbeats 4000000 in
theorem c_X12_makes {l : Launch} {D : va_G} {ad : Nat → Nat} {cid : Nat → ClassId} {a0 : Int32}  {σ : jMem} {r : Int32} {σ' : jMem} (h : f_X12_makes a0 σ = some (r, σ')) : jMet l D ad cid yX12_makes cX12_makes 2 (some .int) 6 142 [.ref 89, .int a0] σ (some (.int r)) σ' := by
  refine jMet_of (ls0 := [some (.ref 89), some (.int a0)]) (by decide) (Nat.le_of_ble_eq_true rfl) rfl (fun K X R0 _ => ?_)
  unfold f_X12_makes at h
  refine j_aload_n X 0 dX12_makes_0 rfl rfl ?_
  refine j_iconst (v := 0) X dX12_makes_1 (by decide) ?_
  refine j_put X fp_RX12_47 ln_89 ly_89 rfl rfl rfl dX12_makes_2 h (fun σ1 h => ?_)
  refine j_aload_n X 0 dX12_makes_5 rfl rfl ?_
  obtain ⟨v2, σ3, hm4, h⟩ := jbd_some h
  refine j_callV (as := []) (st := []) (st1 := [.int v2]) X ln_89 ly_89 rfl rfl sv_RX12_203 ⟨by decide, by decide⟩ rfl rfl (Nat.le_of_ble_eq_true rfl) rfl dX12_makes_6 jrv_i (c_X12_isThere  hm4) rfl ?_
  refine j_if_ne (tgt := 15) X dX12_makes_9 (by decide) h (fun h => ?_) (fun h => ?_)
  · refine j_iload_n X 1 dX12_makes_15 rfl rfl ?_
    refine j_i2l X dX12_makes_16 ?_
    obtain ⟨v5, σ6, hm7, h⟩ := jbd_some h
    refine j_callS (as := [.long ((a0).toInt64)]) (st := []) (st1 := [.int v5]) X ss_RX12_207 ⟨by decide, by decide⟩ rfl rfl (Nat.le_of_ble_eq_true rfl) rfl dX12_makes_17 jrv_i (c_X12_isField  hm7) rfl ?_
    refine j_if_eq (tgt := 31) X dX12_makes_20 (by decide) h (fun h => ?_) (fun h => ?_)
    · refine j_ldc (v := -1000001) X tw_948 dX12_makes_31 ?_
      obtain ⟨rfl, rfl⟩ := jin2 h
      exact j_iret X R0 dX12_makes_33
    · refine j_aload_n X 0 dX12_makes_23 rfl rfl ?_
      refine j_iload_n X 1 dX12_makes_24 rfl rfl ?_
      obtain ⟨v8, σ9, hm10, h⟩ := jbd_some h
      refine j_callV (as := [.int a0]) (st := []) (st1 := [.int v8]) X ln_89 ly_89 rfl rfl sv_RX12_255 ⟨by decide, by decide⟩ rfl rfl (Nat.le_of_ble_eq_true rfl) rfl dX12_makes_25 jrv_i (c_X12_makesBy  hm10) rfl ?_
      refine j_goto (tgt := 33) X dX12_makes_28 (by decide) ?_
      obtain ⟨rfl, rfl⟩ := jin2 h
      exact j_iret X R0 dX12_makes_33
  · refine j_ldc (v := -1000002) X tw_1041 dX12_makes_12 ?_
    obtain ⟨rfl, rfl⟩ := jin2 h
    exact j_iret X R0 dX12_makes_14
def X12_best_L37_b (p1 : Int32) (rec : Int32 × Int32 × Int32 → jMem → Option ((Int32 × Int32) × jMem)) (x2 : Int32) (x3 : Int32) (x4 : Int32) (σ : jMem) : Option ((Int32 × Int32) × jMem) :=
  if (8 : Int32) ≤ x4 then
  some ((x2, x3), σ)
else
  jbd (f_X12_makesBy x4 σ) (fun v8 σ9 =>
  jj (fun (q12 : Int32) σ13 =>
  if v8 ≤ x3 then
  rec (q12, x3, (x4 + 1)) σ13
else
  rec (q12, v8, (x4 + 1)) σ13) (fun k11 =>
  if v8 ≤ x3 then
  k11 x2 σ9
else
  k11 x4 σ9))
def X12_best_L37 (p1 : Int32) : Nat → Int32 × Int32 × Int32 → jMem → Option ((Int32 × Int32) × jMem) := jloop (fun rec s σ => X12_best_L37_b p1 rec s.1 s.2.1 s.2.2 σ)
set_option maxRecDepth 100000 in
set_option maxHeartbeats 4000000 in
theorem X12_best_L37_bok {K : jK} (X : JX K cX12_best 6 RX12 6 142) {p1 : Int32}  {rec : Int32 × Int32 × Int32 → jMem → Option ((Int32 × Int32) × jMem)} (ih : ∀ (s : Int32 × Int32 × Int32) (σ : jMem) (o : (Int32 × Int32) × jMem), rec s σ = some o → (J K 84 [none, some (.int p1), some (.int o.1.1), some (.int o.1.2), none, none] [] o.2) → J K 37 [some (.ref 89), some (.int p1), some (.int s.1), some (.int s.2.1), some (.int s.2.2), none] [] σ) : ∀ (x2 : Int32) (x3 : Int32) (x4 : Int32) (σ : jMem) (o : (Int32 × Int32) × jMem), X12_best_L37_b p1 rec x2 x3 x4 σ = some o → (J K 84 [none, some (.int p1), some (.int o.1.1), some (.int o.1.2), none, none] [] o.2) → J K 37 [some (.ref 89), some (.int p1), some (.int x2), some (.int x3), some (.int x4), none] [] σ := by
  intro x2 x3 x4 σ o h kk
  unfold X12_best_L37_b at h
  refine j_iload X dX12_best_37 rfl ?_
  refine j_bipush (v := 8) X dX12_best_39 (by decide) ?_
  refine j_icmp_ge (tgt := 84) X dX12_best_41 (by decide) h (fun h => ?_) (fun h => ?_)
  · obtain rfl := Option.some.inj h
    exact j_sub (ls' := [none, some (.int p1), some (.int x2), some (.int x3), none, none]) ⟨Or.inl rfl, Or.inr rfl, Or.inr rfl, Or.inr rfl, Or.inl rfl, Or.inl rfl, trivial⟩ kk
  · refine j_aload_n X 0 dX12_best_44 rfl rfl ?_
    refine j_iload X dX12_best_45 rfl ?_
    obtain ⟨v8, σ9, hm10, h⟩ := jbd_some h
    refine j_callV (as := [.int x4]) (st := []) (st1 := [.int v8]) X ln_89 ly_89 rfl rfl sv_RX12_255 ⟨by decide, by decide⟩ rfl rfl (Nat.le_of_ble_eq_true rfl) rfl dX12_best_47 jrv_i (c_X12_makesBy  hm10) rfl ?_
    refine j_istore (ls' := [some (.ref 89), some (.int p1), some (.int x2), some (.int x3), some (.int x4), some (.int v8)]) X dX12_best_50 (Nat.le_of_ble_eq_true rfl) rfl ?_
    refine j_iload X dX12_best_52 rfl ?_
    refine j_iload_n X 3 dX12_best_54 rfl rfl ?_
    refine j_join (pcJ := 64) (lsJ := fun q12 => [some (.ref 89), some (.int p1), none, some (.int x3), some (.int x4), some (.int v8)]) (stJ := fun q12 => [.int q12]) h (fun q12 σ13 h => ?_) (fun k11 hk11 h => ?_)
    · refine j_istore_n (ls' := [some (.ref 89), some (.int p1), some (.int q12), some (.int x3), some (.int x4), some (.int v8)]) X 2 dX12_best_64 rfl (Nat.le_of_ble_eq_true rfl) rfl ?_
      refine j_iload X dX12_best_65 rfl ?_
      refine j_iload_n X 3 dX12_best_67 rfl rfl ?_
      refine j_icmp_le (tgt := 76) X dX12_best_68 (by decide) h (fun h => ?_) (fun h => ?_)
      · refine j_iload_n X 3 dX12_best_76 rfl rfl ?_
        refine j_istore_n (ls' := [some (.ref 89), some (.int p1), some (.int q12), some (.int x3), some (.int x4), some (.int v8)]) X 3 dX12_best_77 rfl (Nat.le_of_ble_eq_true rfl) rfl ?_
        refine j_iinc (v := (x4 + 1)) (ls' := [some (.ref 89), some (.int p1), some (.int q12), some (.int x3), some (.int (x4 + 1)), some (.int v8)]) X dX12_best_78 rfl rfl (Nat.le_of_ble_eq_true rfl) rfl ?_
        refine j_goto (tgt := 37) X dX12_best_81 (by decide) ?_
        exact j_sub (ls' := [some (.ref 89), some (.int p1), some (.int q12), some (.int x3), some (.int (x4 + 1)), none]) ⟨Or.inr rfl, Or.inr rfl, Or.inr rfl, Or.inr rfl, Or.inr rfl, Or.inl rfl, trivial⟩ (ih (q12, x3, (x4 + 1)) σ13 _ h kk)
      · refine j_iload X dX12_best_71 rfl ?_
        refine j_goto (tgt := 77) X dX12_best_73 (by decide) ?_
        refine j_istore_n (ls' := [some (.ref 89), some (.int p1), some (.int q12), some (.int v8), some (.int x4), some (.int v8)]) X 3 dX12_best_77 rfl (Nat.le_of_ble_eq_true rfl) rfl ?_
        refine j_iinc (v := (x4 + 1)) (ls' := [some (.ref 89), some (.int p1), some (.int q12), some (.int v8), some (.int (x4 + 1)), some (.int v8)]) X dX12_best_78 rfl rfl (Nat.le_of_ble_eq_true rfl) rfl ?_
        refine j_goto (tgt := 37) X dX12_best_81 (by decide) ?_
        exact j_sub (ls' := [some (.ref 89), some (.int p1), some (.int q12), some (.int v8), some (.int (x4 + 1)), none]) ⟨Or.inr rfl, Or.inr rfl, Or.inr rfl, Or.inr rfl, Or.inr rfl, Or.inl rfl, trivial⟩ (ih (q12, v8, (x4 + 1)) σ13 _ h kk)
    · refine j_icmp_le (tgt := 63) X dX12_best_55 (by decide) h (fun h => ?_) (fun h => ?_)
      · refine j_iload_n X 2 dX12_best_63 rfl rfl ?_
        exact j_sub (ls' := [some (.ref 89), some (.int p1), none, some (.int x3), some (.int x4), some (.int v8)]) ⟨Or.inr rfl, Or.inr rfl, Or.inl rfl, Or.inr rfl, Or.inr rfl, Or.inr rfl, trivial⟩ (hk11 x2 σ9 h)
      · refine j_iload X dX12_best_58 rfl ?_
        refine j_goto (tgt := 64) X dX12_best_60 (by decide) ?_
        exact j_sub (ls' := [some (.ref 89), some (.int p1), none, some (.int x3), some (.int x4), some (.int v8)]) ⟨Or.inr rfl, Or.inr rfl, Or.inl rfl, Or.inr rfl, Or.inr rfl, Or.inr rfl, trivial⟩ (hk11 x4 σ9 h)
theorem X12_best_L37_ok {K : jK} (X : JX K cX12_best 6 RX12 6 142) {p1 : Int32}  : ∀ (n : Nat) (s : Int32 × Int32 × Int32) (σ : jMem) (o : (Int32 × Int32) × jMem), X12_best_L37 p1 n s σ = some o → (J K 84 [none, some (.int p1), some (.int o.1.1), some (.int o.1.2), none, none] [] o.2) → J K 37 [some (.ref 89), some (.int p1), some (.int s.1), some (.int s.2.1), some (.int s.2.2), none] [] σ := by
  intro n
  induction n with
  | zero => intro s σ o h; cases h
  | succ n ih => intro s σ o h; exact X12_best_L37_bok X  ih (s.1) (s.2.1) (s.2.2) σ o h
def f_X12_best (a0 : Int32) (σ : jMem) : Option (Int32 × jMem) :=
  jlet (jset σ 89 0 (0 : Int32)) (fun σ1 =>
  jbd (f_X12_isThere  σ1) (fun v2 σ3 =>
  if ¬ v2 = 0 then
  jbd (f_X12_in ((a0).toInt64) (0 : Int64) (1 : Int64) σ3) (fun v5 σ6 =>
  if ¬ v5 = 0 then
  jbd (X12_best_L37 (a0) jFU ((-1000000 : Int32), (-1000000 : Int32), (0 : Int32)) σ6) (fun q14 σ15 =>
  if ¬ a0 = 0 then
  some ((q14.2, σ15))
else
  some ((q14.1, σ15)))
else
  some (((-1000001 : Int32), σ6)))
else
  some (((-1000002 : Int32), σ3))))
set_option maxRecDepth 100000 in
set_option maxHeartbeats 4000000 in
theorem c_X12_best {l : Launch} {D : va_G} {ad : Nat → Nat} {cid : Nat → ClassId} {a0 : Int32}  {σ : jMem} {r : Int32} {σ' : jMem} (h : f_X12_best a0 σ = some (r, σ')) : jMet l D ad cid yX12_best cX12_best 6 (some .int) 6 142 [.ref 89, .int a0] σ (some (.int r)) σ' := by
  refine jMet_of (ls0 := [some (.ref 89), some (.int a0), none, none, none, none]) (by decide) (Nat.le_of_ble_eq_true rfl) rfl (fun K X R0 _ => ?_)
  unfold f_X12_best at h
  refine j_aload_n X 0 dX12_best_0 rfl rfl ?_
  refine j_iconst (v := 0) X dX12_best_1 (by decide) ?_
  refine j_put X fp_RX12_47 ln_89 ly_89 rfl rfl rfl dX12_best_2 h (fun σ1 h => ?_)
  refine j_aload_n X 0 dX12_best_5 rfl rfl ?_
  obtain ⟨v2, σ3, hm4, h⟩ := jbd_some h
  refine j_callV (as := []) (st := []) (st1 := [.int v2]) X ln_89 ly_89 rfl rfl sv_RX12_203 ⟨by decide, by decide⟩ rfl rfl (Nat.le_of_ble_eq_true rfl) rfl dX12_best_6 jrv_i (c_X12_isThere  hm4) rfl ?_
  refine j_if_ne (tgt := 15) X dX12_best_9 (by decide) h (fun h => ?_) (fun h => ?_)
  · refine j_iload_n X 1 dX12_best_15 rfl rfl ?_
    refine j_i2l X dX12_best_16 ?_
    refine j_lconst (v := 0) X dX12_best_17 (by decide) ?_
    refine j_lconst (v := 1) X dX12_best_18 (by decide) ?_
    obtain ⟨v5, σ6, hm7, h⟩ := jbd_some h
    refine j_callS (as := [.long ((a0).toInt64), .long (0 : Int64), .long (1 : Int64)]) (st := []) (st1 := [.int v5]) X ss_RX12_57 ⟨by decide, by decide⟩ rfl rfl (Nat.le_of_ble_eq_true rfl) rfl dX12_best_19 jrv_i (c_X12_in  hm7) rfl ?_
    refine j_if_ne (tgt := 28) X dX12_best_22 (by decide) h (fun h => ?_) (fun h => ?_)
    · refine j_ldc (v := -1000000) X tw_988 dX12_best_28 ?_
      refine j_istore_n (ls' := [some (.ref 89), some (.int a0), some (.int (-1000000 : Int32)), none, none, none]) X 2 dX12_best_30 rfl (Nat.le_of_ble_eq_true rfl) rfl ?_
      refine j_ldc (v := -1000000) X tw_988 dX12_best_31 ?_
      refine j_istore_n (ls' := [some (.ref 89), some (.int a0), some (.int (-1000000 : Int32)), some (.int (-1000000 : Int32)), none, none]) X 3 dX12_best_33 rfl (Nat.le_of_ble_eq_true rfl) rfl ?_
      refine j_iconst (v := 0) X dX12_best_34 (by decide) ?_
      refine j_istore (ls' := [some (.ref 89), some (.int a0), some (.int (-1000000 : Int32)), some (.int (-1000000 : Int32)), some (.int (0 : Int32)), none]) X dX12_best_35 (Nat.le_of_ble_eq_true rfl) rfl ?_
      obtain ⟨q14, σ15, hL16, h⟩ := jbd_some h
      refine X12_best_L37_ok X  jFU ((-1000000 : Int32), (-1000000 : Int32), (0 : Int32)) σ6 _ hL16 ?_
      refine j_iload_n X 1 dX12_best_84 rfl rfl ?_
      refine j_if_ne (tgt := 92) X dX12_best_85 (by decide) h (fun h => ?_) (fun h => ?_)
      · refine j_iload_n X 3 dX12_best_92 rfl rfl ?_
        obtain ⟨rfl, rfl⟩ := jin2 h
        exact j_iret X R0 dX12_best_93
      · refine j_iload_n X 2 dX12_best_88 rfl rfl ?_
        refine j_goto (tgt := 93) X dX12_best_89 (by decide) ?_
        obtain ⟨rfl, rfl⟩ := jin2 h
        exact j_iret X R0 dX12_best_93
    · refine j_ldc (v := -1000001) X tw_948 dX12_best_25 ?_
      obtain ⟨rfl, rfl⟩ := jin2 h
      exact j_iret X R0 dX12_best_27
  · refine j_ldc (v := -1000002) X tw_1041 dX12_best_12 ?_
    obtain ⟨rfl, rfl⟩ := jin2 h
    exact j_iret X R0 dX12_best_14
def X12_from_L74_b (p1 : Int32) (p2 : Int32) (rec : Int32 × Int32 → jMem → Option ((Int32) × jMem)) (x3 : Int32) (x4 : Int32) (σ : jMem) : Option ((Int32) × jMem) :=
  if (8 : Int32) ≤ x4 then
  some (x3, σ)
else
  jbd (f_X12_waysBehind x4 σ) (fun v14 σ15 =>
  if v14 = (-1000000 : Int32) then
  jlet ((x3 ||| (0 : Int32))) (fun v17 =>
  rec (v17, (x4 + 1)) σ15)
else
  jld σ15 92 320 (((40 : Int32) * p1) + p2) (fun v18 =>
  if ¬ v14 = v18 then
  jlet ((x3 ||| (0 : Int32))) (fun v19 =>
  rec (v19, (x4 + 1)) σ15)
else
  jlet ((x3 ||| ((1 : Int32) <<< (x4 &&& 31)))) (fun v20 =>
  rec (v20, (x4 + 1)) σ15)))
def X12_from_L74 (p1 : Int32) (p2 : Int32) : Nat → Int32 × Int32 → jMem → Option ((Int32) × jMem) := jloop (fun rec s σ => X12_from_L74_b p1 p2 rec s.1 s.2 σ)
set_option maxRecDepth 100000 in
set_option maxHeartbeats 4000000 in
theorem X12_from_L74_bok {K : jK} (X : JX K cX12_from 6 RX12 5 120) {p1 : Int32} {p2 : Int32}  {rec : Int32 × Int32 → jMem → Option ((Int32) × jMem)} (ih : ∀ (s : Int32 × Int32) (σ : jMem) (o : (Int32) × jMem), rec s σ = some o → (J K 129 [none, none, none, some (.int o.1), none, none] [] o.2) → J K 74 [some (.ref 89), some (.int p1), some (.int p2), some (.int s.1), some (.int s.2), none] [] σ) : ∀ (x3 : Int32) (x4 : Int32) (σ : jMem) (o : (Int32) × jMem), X12_from_L74_b p1 p2 rec x3 x4 σ = some o → (J K 129 [none, none, none, some (.int o.1), none, none] [] o.2) → J K 74 [some (.ref 89), some (.int p1), some (.int p2), some (.int x3), some (.int x4), none] [] σ := by
  intro x3 x4 σ o h kk
  unfold X12_from_L74_b at h
  refine j_iload X dX12_from_74 rfl ?_
  refine j_bipush (v := 8) X dX12_from_76 (by decide) ?_
  refine j_icmp_ge (tgt := 129) X dX12_from_78 (by decide) h (fun h => ?_) (fun h => ?_)
  · obtain rfl := Option.some.inj h
    exact j_sub (ls' := [none, none, none, some (.int x3), none, none]) ⟨Or.inl rfl, Or.inl rfl, Or.inl rfl, Or.inr rfl, Or.inl rfl, Or.inl rfl, trivial⟩ kk
  · refine j_aload_n X 0 dX12_from_81 rfl rfl ?_
    refine j_iload X dX12_from_82 rfl ?_
    obtain ⟨v14, σ15, hm16, h⟩ := jbd_some h
    refine j_callV (as := [.int x4]) (st := []) (st1 := [.int v14]) X ln_89 ly_89 rfl rfl sv_RX12_252 ⟨by decide, by decide⟩ rfl rfl (Nat.le_of_ble_eq_true rfl) rfl dX12_from_84 jrv_i (c_X12_waysBehind  hm16) rfl ?_
    refine j_istore (ls' := [some (.ref 89), some (.int p1), some (.int p2), some (.int x3), some (.int x4), some (.int v14)]) X dX12_from_87 (Nat.le_of_ble_eq_true rfl) rfl ?_
    refine j_iload_n X 3 dX12_from_89 rfl rfl ?_
    refine j_iload X dX12_from_90 rfl ?_
    refine j_ldc (v := -1000000) X tw_988 dX12_from_92 ?_
    refine j_icmp_eq (tgt := 120) X dX12_from_94 (by decide) h (fun h => ?_) (fun h => ?_)
    · refine j_iconst (v := 0) X dX12_from_120 (by decide) ?_
      refine j_ior X dX12_from_121 ?_
      refine j_letI h (fun v17 h => ?_)
      refine j_istore_n (ls' := [some (.ref 89), some (.int p1), some (.int p2), some (.int v17), some (.int x4), some (.int v14)]) X 3 dX12_from_122 rfl (Nat.le_of_ble_eq_true rfl) rfl ?_
      refine j_iinc (v := (x4 + 1)) (ls' := [some (.ref 89), some (.int p1), some (.int p2), some (.int v17), some (.int (x4 + 1)), some (.int v14)]) X dX12_from_123 rfl rfl (Nat.le_of_ble_eq_true rfl) rfl ?_
      refine j_goto (tgt := 74) X dX12_from_126 (by decide) ?_
      exact j_sub (ls' := [some (.ref 89), some (.int p1), some (.int p2), some (.int v17), some (.int (x4 + 1)), none]) ⟨Or.inr rfl, Or.inr rfl, Or.inr rfl, Or.inr rfl, Or.inr rfl, Or.inl rfl, trivial⟩ (ih (v17, (x4 + 1)) σ15 _ h kk)
    · refine j_iload X dX12_from_97 rfl ?_
      refine j_aload_n X 0 dX12_from_99 rfl rfl ?_
      refine j_getR (t := 92) X fg_RX12_16 ln_89 ly_89 rfl dX12_from_100 ?_
      refine j_bipush (v := 40) X dX12_from_103 (by decide) ?_
      refine j_iload_n X 1 dX12_from_105 rfl rfl ?_
      refine j_imul X dX12_from_106 ?_
      refine j_iload_n X 2 dX12_from_107 rfl rfl ?_
      refine j_iadd X dX12_from_108 ?_
      refine j_iaload X ln_92 ly_92 dX12_from_109 h (fun v18 h => ?_)
      refine j_icmp_ne (tgt := 120) X dX12_from_110 (by decide) h (fun h => ?_) (fun h => ?_)
      · refine j_iconst (v := 0) X dX12_from_120 (by decide) ?_
        refine j_ior X dX12_from_121 ?_
        refine j_letI h (fun v19 h => ?_)
        refine j_istore_n (ls' := [some (.ref 89), some (.int p1), some (.int p2), some (.int v19), some (.int x4), some (.int v14)]) X 3 dX12_from_122 rfl (Nat.le_of_ble_eq_true rfl) rfl ?_
        refine j_iinc (v := (x4 + 1)) (ls' := [some (.ref 89), some (.int p1), some (.int p2), some (.int v19), some (.int (x4 + 1)), some (.int v14)]) X dX12_from_123 rfl rfl (Nat.le_of_ble_eq_true rfl) rfl ?_
        refine j_goto (tgt := 74) X dX12_from_126 (by decide) ?_
        exact j_sub (ls' := [some (.ref 89), some (.int p1), some (.int p2), some (.int v19), some (.int (x4 + 1)), none]) ⟨Or.inr rfl, Or.inr rfl, Or.inr rfl, Or.inr rfl, Or.inr rfl, Or.inl rfl, trivial⟩ (ih (v19, (x4 + 1)) σ15 _ h kk)
      · refine j_iconst (v := 1) X dX12_from_113 (by decide) ?_
        refine j_iload X dX12_from_114 rfl ?_
        refine j_ishl X dX12_from_116 ?_
        refine j_goto (tgt := 121) X dX12_from_117 (by decide) ?_
        refine j_ior X dX12_from_121 ?_
        refine j_letI h (fun v20 h => ?_)
        refine j_istore_n (ls' := [some (.ref 89), some (.int p1), some (.int p2), some (.int v20), some (.int x4), some (.int v14)]) X 3 dX12_from_122 rfl (Nat.le_of_ble_eq_true rfl) rfl ?_
        refine j_iinc (v := (x4 + 1)) (ls' := [some (.ref 89), some (.int p1), some (.int p2), some (.int v20), some (.int (x4 + 1)), some (.int v14)]) X dX12_from_123 rfl rfl (Nat.le_of_ble_eq_true rfl) rfl ?_
        refine j_goto (tgt := 74) X dX12_from_126 (by decide) ?_
        exact j_sub (ls' := [some (.ref 89), some (.int p1), some (.int p2), some (.int v20), some (.int (x4 + 1)), none]) ⟨Or.inr rfl, Or.inr rfl, Or.inr rfl, Or.inr rfl, Or.inr rfl, Or.inl rfl, trivial⟩ (ih (v20, (x4 + 1)) σ15 _ h kk)
theorem X12_from_L74_ok {K : jK} (X : JX K cX12_from 6 RX12 5 120) {p1 : Int32} {p2 : Int32}  : ∀ (n : Nat) (s : Int32 × Int32) (σ : jMem) (o : (Int32) × jMem), X12_from_L74 p1 p2 n s σ = some o → (J K 129 [none, none, none, some (.int o.1), none, none] [] o.2) → J K 74 [some (.ref 89), some (.int p1), some (.int p2), some (.int s.1), some (.int s.2), none] [] σ := by
  intro n
  induction n with
  | zero => intro s σ o h; cases h
  | succ n ih => intro s σ o h; exact X12_from_L74_bok X  ih (s.1) (s.2) σ o h
def f_X12_from (a0 : Int32) (a1 : Int32) (σ : jMem) : Option (Int32 × jMem) :=
  jlet (jset σ 89 0 (0 : Int32)) (fun σ1 =>
  jbd (f_X12_isThere  σ1) (fun v2 σ3 =>
  if ¬ v2 = 0 then
  jbd (f_X12_isRow a0 σ3) (fun v5 σ6 =>
  if ¬ v5 = 0 then
  jld σ6 90 8 a0 (fun v8 =>
  if 0 ≤ v8 then
  jld σ6 91 8 a0 (fun v9 =>
  jbd (f_X12_in ((a1).toInt64) (0 : Int64) (((v9 - (1 : Int32))).toInt64) σ6) (fun v10 σ11 =>
  if ¬ v10 = 0 then
  jlet (jset σ11 89 1 (0 : Int32)) (fun σ13 =>
  jbd (X12_from_L74 (a0) (a1) jFU ((0 : Int32), (0 : Int32)) σ13) (fun q21 σ22 =>
  some ((q21, σ22))))
else
  jbd (f_X12_finding (2 : Int32) σ11) (fun v24 σ25 =>
  some ((v24, σ25)))))
else
  jbd (f_X12_finding (1 : Int32) σ6) (fun v27 σ28 =>
  some ((v27, σ28))))
else
  some (((-1000001 : Int32), σ6)))
else
  some (((-1000002 : Int32), σ3))))
set_option maxRecDepth 100000 in
set_option maxHeartbeats 4000000 in
theorem c_X12_from {l : Launch} {D : va_G} {ad : Nat → Nat} {cid : Nat → ClassId} {a0 : Int32} {a1 : Int32}  {σ : jMem} {r : Int32} {σ' : jMem} (h : f_X12_from a0 a1 σ = some (r, σ')) : jMet l D ad cid yX12_from cX12_from 6 (some .int) 5 120 [.ref 89, .int a0, .int a1] σ (some (.int r)) σ' := by
  refine jMet_of (ls0 := [some (.ref 89), some (.int a0), some (.int a1), none, none, none]) (by decide) (Nat.le_of_ble_eq_true rfl) rfl (fun K X R0 _ => ?_)
  unfold f_X12_from at h
  refine j_aload_n X 0 dX12_from_0 rfl rfl ?_
  refine j_iconst (v := 0) X dX12_from_1 (by decide) ?_
  refine j_put X fp_RX12_47 ln_89 ly_89 rfl rfl rfl dX12_from_2 h (fun σ1 h => ?_)
  refine j_aload_n X 0 dX12_from_5 rfl rfl ?_
  obtain ⟨v2, σ3, hm4, h⟩ := jbd_some h
  refine j_callV (as := []) (st := []) (st1 := [.int v2]) X ln_89 ly_89 rfl rfl sv_RX12_203 ⟨by decide, by decide⟩ rfl rfl (Nat.le_of_ble_eq_true rfl) rfl dX12_from_6 jrv_i (c_X12_isThere  hm4) rfl ?_
  refine j_if_ne (tgt := 15) X dX12_from_9 (by decide) h (fun h => ?_) (fun h => ?_)
  · refine j_iload_n X 1 dX12_from_15 rfl rfl ?_
    obtain ⟨v5, σ6, hm7, h⟩ := jbd_some h
    refine j_callS (as := [.int a0]) (st := []) (st1 := [.int v5]) X ss_RX12_61 ⟨by decide, by decide⟩ rfl rfl (Nat.le_of_ble_eq_true rfl) rfl dX12_from_16 jrv_i (c_X12_isRow  hm7) rfl ?_
    refine j_if_ne (tgt := 25) X dX12_from_19 (by decide) h (fun h => ?_) (fun h => ?_)
    · refine j_aload_n X 0 dX12_from_25 rfl rfl ?_
      refine j_getR (t := 90) X fg_RX12_7 ln_89 ly_89 rfl dX12_from_26 ?_
      refine j_iload_n X 1 dX12_from_29 rfl rfl ?_
      refine j_iaload X ln_90 ly_90 dX12_from_30 h (fun v8 h => ?_)
      refine j_if_ge (tgt := 40) X dX12_from_31 (by decide) h (fun h => ?_) (fun h => ?_)
      · refine j_iload_n X 2 dX12_from_40 rfl rfl ?_
        refine j_i2l X dX12_from_41 ?_
        refine j_lconst (v := 0) X dX12_from_42 (by decide) ?_
        refine j_aload_n X 0 dX12_from_43 rfl rfl ?_
        refine j_getR (t := 91) X fg_RX12_13 ln_89 ly_89 rfl dX12_from_44 ?_
        refine j_iload_n X 1 dX12_from_47 rfl rfl ?_
        refine j_iaload X ln_91 ly_91 dX12_from_48 h (fun v9 h => ?_)
        refine j_iconst (v := 1) X dX12_from_49 (by decide) ?_
        refine j_isub X dX12_from_50 ?_
        refine j_i2l X dX12_from_51 ?_
        obtain ⟨v10, σ11, hm12, h⟩ := jbd_some h
        refine j_callS (as := [.long ((a1).toInt64), .long (0 : Int64), .long (((v9 - (1 : Int32))).toInt64)]) (st := []) (st1 := [.int v10]) X ss_RX12_57 ⟨by decide, by decide⟩ rfl rfl (Nat.le_of_ble_eq_true rfl) rfl dX12_from_52 jrv_i (c_X12_in  hm12) rfl ?_
        refine j_if_ne (tgt := 64) X dX12_from_55 (by decide) h (fun h => ?_) (fun h => ?_)
        · refine j_aload_n X 0 dX12_from_64 rfl rfl ?_
          refine j_iconst (v := 0) X dX12_from_65 (by decide) ?_
          refine j_put X fp_RX12_51 ln_89 ly_89 rfl rfl rfl dX12_from_66 h (fun σ13 h => ?_)
          refine j_iconst (v := 0) X dX12_from_69 (by decide) ?_
          refine j_istore_n (ls' := [some (.ref 89), some (.int a0), some (.int a1), some (.int (0 : Int32)), none, none]) X 3 dX12_from_70 rfl (Nat.le_of_ble_eq_true rfl) rfl ?_
          refine j_iconst (v := 0) X dX12_from_71 (by decide) ?_
          refine j_istore (ls' := [some (.ref 89), some (.int a0), some (.int a1), some (.int (0 : Int32)), some (.int (0 : Int32)), none]) X dX12_from_72 (Nat.le_of_ble_eq_true rfl) rfl ?_
          obtain ⟨q21, σ22, hL23, h⟩ := jbd_some h
          refine X12_from_L74_ok X  jFU ((0 : Int32), (0 : Int32)) σ13 _ hL23 ?_
          refine j_iload_n X 3 dX12_from_129 rfl rfl ?_
          obtain ⟨rfl, rfl⟩ := jin2 h
          exact j_iret X R0 dX12_from_130
        · refine j_aload_n X 0 dX12_from_58 rfl rfl ?_
          refine j_iconst (v := 2) X dX12_from_59 (by decide) ?_
          obtain ⟨v24, σ25, hm26, h⟩ := jbd_some h
          refine j_callV (as := [.int (2 : Int32)]) (st := []) (st1 := [.int v24]) X ln_89 ly_89 rfl rfl sv_RX12_68 ⟨by decide, by decide⟩ rfl rfl (Nat.le_of_ble_eq_true rfl) rfl dX12_from_60 jrv_i (c_X12_finding  hm26) rfl ?_
          obtain ⟨rfl, rfl⟩ := jin2 h
          exact j_iret X R0 dX12_from_63
      · refine j_aload_n X 0 dX12_from_34 rfl rfl ?_
        refine j_iconst (v := 1) X dX12_from_35 (by decide) ?_
        obtain ⟨v27, σ28, hm29, h⟩ := jbd_some h
        refine j_callV (as := [.int (1 : Int32)]) (st := []) (st1 := [.int v27]) X ln_89 ly_89 rfl rfl sv_RX12_68 ⟨by decide, by decide⟩ rfl rfl (Nat.le_of_ble_eq_true rfl) rfl dX12_from_36 jrv_i (c_X12_finding  hm29) rfl ?_
        obtain ⟨rfl, rfl⟩ := jin2 h
        exact j_iret X R0 dX12_from_39
    · refine j_ldc (v := -1000001) X tw_948 dX12_from_22 ?_
      obtain ⟨rfl, rfl⟩ := jin2 h
      exact j_iret X R0 dX12_from_24
  · refine j_ldc (v := -1000002) X tw_1041 dX12_from_12 ?_
    obtain ⟨rfl, rfl⟩ := jin2 h
    exact j_iret X R0 dX12_from_14
