def X12_best_L37_b (p1 : Int32) (rec : Int32 × Int32 × Int32 → jMem → Option ((Int32 × Int32) × jMem)) (x2 : Int32) (x3 : Int32) (x4 : Int32) (σ : jMem) : Option ((Int32 × Int32) × jMem) :=
  if (8 : Int32) ≤ x4 then
  some ((x2, x3), σ)
else
  jbd (f_X12_makesBy x4 σ) (fun v8 σ9 =>
  jj (fun (q12 : Int32) σ13 =>
  if v8 ≤ x3 then
  rec (q12, x3, (x4 + 1)) σ13
else
  rec (q12, v8, (x4 + 1)) σ13) (fun k11 =>
  if v8 ≤ x3 then
  k11 x2 σ9
else
  k11 x4 σ9))
def X12_best_L37 (p1 : Int32) : Nat → Int32 × Int32 × Int32 → jMem → Option ((Int32 × Int32) × jMem) := jloop (fun rec s σ => X12_best_L37_b p1 rec s.1 s.2.1 s.2.2 σ)
set_option maxRecDepth 100000 in
set_option maxHeartbeats 4000000 in
theorem X12_best_L37_bok {K : jK} (X : JX K cX12_best 6 RX12 6 142) {p1 : Int32}  {rec : Int32 × Int32 × Int32 → jMem → Option ((Int32 × Int32) × jMem)} (ih : ∀ (s : Int32 × Int32 × Int32) (σ : jMem) (o : (Int32 × Int32) × jMem), rec s σ = some o → (J K 84 [none, some (.int p1), some (.int o.1.1), some (.int o.1.2), none, none] [] o.2) → J K 37 [some (.ref 89), some (.int p1), some (.int s.1), some (.int s.2.1), some (.int s.2.2), none] [] σ) : ∀ (x2 : Int32) (x3 : Int32) (x4 : Int32) (σ : jMem) (o : (Int32 × Int32) × jMem), X12_best_L37_b p1 rec x2 x3 x4 σ = some o → (J K 84 [none, some (.int p1), some (.int o.1.1), some (.int o.1.2), none, none] [] o.2) → J K 37 [some (.ref 89), some (.int p1), some (.int x2), some (.int x3), some (.int x4), none] [] σ := by
  intro x2 x3 x4 σ o h kk
  unfold X12_best_L37_b at h
  refine j_iload X dX12_best_37 rfl ?_
  refine j_bipush (v := 8) X dX12_best_39 (by decide) ?_
  refine j_icmp_ge (tgt := 84) X dX12_best_41 (by decide) h (fun h => ?_) (fun h => ?_)
  · obtain rfl := Option.some.inj h
    exact j_sub (ls' := [none, some (.int p1), some (.int x2), some (.int x3), none, none]) ⟨Or.inl rfl, Or.inr rfl, Or.inr rfl, Or.inr rfl, Or.inl rfl, Or.inl rfl, trivial⟩ kk
  · refine j_aload_n X 0 dX12_best_44 rfl rfl ?_
    refine j_iload X dX12_best_45 rfl ?_
    obtain ⟨v8, σ9, hm10, h⟩ := jbd_some h
    refine j_callV (as := [.int x4]) (st := []) (st1 := [.int v8]) X ln_89 ly_89 rfl rfl sv_RX12_255 ⟨by decide, by decide⟩ rfl rfl (Nat.le_of_ble_eq_true rfl) rfl dX12_best_47 jrv_i (c_X12_makesBy  hm10) rfl ?_
    refine j_istore (ls' := [some (.ref 89), some (.int p1), some (.int x2), some (.int x3), some (.int x4), some (.int v8)]) X dX12_best_50 (Nat.le_of_ble_eq_true rfl) rfl ?_
    refine j_iload X dX12_best_52 rfl ?_
    refine j_iload_n X 3 dX12_best_54 rfl rfl ?_
    refine j_join (pcJ := 64) (lsJ := fun q12 => [some (.ref 89), some (.int p1), none, some (.int x3), some (.int x4), some (.int v8)]) (stJ := fun q12 => [.int q12]) h (fun q12 σ13 h => ?_) (fun k11 hk11 h => ?_)
    · refine j_istore_n (ls' := [some (.ref 89), some (.int p1), some (.int q12), some (.int x3), some (.int x4), some (.int v8)]) X 2 dX12_best_64 rfl (Nat.le_of_ble_eq_true rfl) rfl ?_
      refine j_iload X dX12_best_65 rfl ?_
      refine j_iload_n X 3 dX12_best_67 rfl rfl ?_
      refine j_icmp_le (tgt := 76) X dX12_best_68 (by decide) h (fun h => ?_) (fun h => ?_)
      · refine j_iload_n X 3 dX12_best_76 rfl rfl ?_
        refine j_istore_n (ls' := [some (.ref 89), some (.int p1), some (.int q12), some (.int x3), some (.int x4), some (.int v8)]) X 3 dX12_best_77 rfl (Nat.le_of_ble_eq_true rfl) rfl ?_
        refine j_iinc (v := (x4 + 1)) (ls' := [some (.ref 89), some (.int p1), some (.int q12), some (.int x3), some (.int (x4 + 1)), some (.int v8)]) X dX12_best_78 rfl rfl (Nat.le_of_ble_eq_true rfl) rfl ?_
        refine j_goto (tgt := 37) X dX12_best_81 (by decide) ?_
        exact j_sub (ls' := [some (.ref 89), some (.int p1), some (.int q12), some (.int x3), some (.int (x4 + 1)), none]) ⟨Or.inr rfl, Or.inr rfl, Or.inr rfl, Or.inr rfl, Or.inr rfl, Or.inl rfl, trivial⟩ (ih (q12, x3, (x4 + 1)) σ13 _ h kk)
      · refine j_iload X dX12_best_71 rfl ?_
        refine j_goto (tgt := 77) X dX12_best_73 (by decide) ?_
        refine j_istore_n (ls' := [some (.ref 89), some (.int p1), some (.int q12), some (.int v8), some (.int x4), some (.int v8)]) X 3 dX12_best_77 rfl (Nat.le_of_ble_eq_true rfl) rfl ?_
        refine j_iinc (v := (x4 + 1)) (ls' := [some (.ref 89), some (.int p1), some (.int q12), some (.int v8), some (.int (x4 + 1)), some (.int v8)]) X dX12_best_78 rfl rfl (Nat.le_of_ble_eq_true rfl) rfl ?_
        refine j_goto (tgt := 37) X dX12_best_81 (by decide) ?_
        exact j_sub (ls' := [some (.ref 89), some (.int p1), some (.int q12), some (.int v8), some (.int (x4 + 1)), none]) ⟨Or.inr rfl, Or.inr rfl, Or.inr rfl, Or.inr rfl, Or.inr rfl, Or.inl rfl, trivial⟩ (ih (q12, v8, (x4 + 1)) σ13 _ h kk)
    · refine j_icmp_le (tgt := 63) X dX12_best_55 (by decide) h (fun h => ?_) (fun h => ?_)
      · refine j_iload_n X 2 dX12_best_63 rfl rfl ?_
        exact j_sub (ls' := [some (.ref 89), some (.int p1), none, some (.int x3), some (.int x4), some (.int v8)]) ⟨Or.inr rfl, Or.inr rfl, Or.inl rfl, Or.inr rfl, Or.inr rfl, Or.inr rfl, trivial⟩ (hk11 x2 σ9 h)
      · refine j_iload X dX12_best_58 rfl ?_
        refine j_goto (tgt := 64) X dX12_best_60 (by decide) ?_
        exact j_sub (ls' := [some (.ref 89), some (.int p1), none, some (.int x3), some (.int x4), some (.int v8)]) ⟨Or.inr rfl, Or.inr rfl, Or.inl rfl, Or.inr rfl, Or.inr rfl, Or.inr rfl, trivial⟩ (hk11 x4 σ9 h)
theorem X12_best_L37_ok {K : jK} (X : JX K cX12_best 6 RX12 6 142) {p1 : Int32}  : ∀ (n : Nat) (s : Int32 × Int32 × Int32) (σ : jMem) (o : (Int32 × Int32) × jMem), X12_best_L37 p1 n s σ = some o → (J K 84 [none, some (.int p1), some (.int o.1.1), some (.int o.1.2), none, none] [] o.2) → J K 37 [some (.ref 89), some (.int p1), some (.int s.1), some (.int s.2.1), some (.int s.2.2), none] [] σ := by
  intro n
  induction n with
  | zero => intro s σ o h; cases h
  | succ n ih => intro s σ o h; exact X12_best_L37_bok X  ih (s.1) (s.2.1) (s.2.2) σ o h
def f_X12_best (a0 : Int32) (σ : jMem) : Option (Int32 × jMem) :=
  jlet (jset σ 89 0 (0 : Int32)) (fun σ1 =>
  jbd (f_X12_isThere  σ1) (fun v2 σ3 =>
  if ¬ v2 = 0 then
  jbd (f_X12_in ((a0).toInt64) (0 : Int64) (1 : Int64) σ3) (fun v5 σ6 =>
  if ¬ v5 = 0 then
  jbd (X12_best_L37 (a0) jFU ((-1000000 : Int32), (-1000000 : Int32), (0 : Int32)) σ6) (fun q14 σ15 =>
  if ¬ a0 = 0 then
  some ((q14.2, σ15))
else
  some ((q14.1, σ15)))
else
  some (((-1000001 : Int32), σ6)))
else
  some (((-1000002 : Int32), σ3))))
set_option maxRecDepth 100000 in
set_option maxHeartbeats 4000000 in
theorem c_X12_best {l : Launch} {D : va_G} {ad : Nat → Nat} {cid : Nat → ClassId} {a0 : Int32}  {σ : jMem} {r : Int32} {σ' : jMem} (h : f_X12_best a0 σ = some (r, σ')) : jMet l D ad cid yX12_best cX12_best 6 (some .int) 6 142 [.ref 89, .int a0] σ (some (.int r)) σ' := by
  refine jMet_of (ls0 := [some (.ref 89), some (.int a0), none, none, none, none]) (by decide) (Nat.le_of_ble_eq_true rfl) rfl (fun K X R0 _ => ?_)
  unfold f_X12_best at h
  refine j_aload_n X 0 dX12_best_0 rfl rfl ?_
  refine j_iconst (v := 0) X dX12_best_1 (by decide) ?_
  refine j_put X fp_RX12_47 ln_89 ly_89 rfl rfl rfl dX12_best_2 h (fun σ1 h => ?_)
  refine j_aload_n X 0 dX12_best_5 rfl rfl ?_
  obtain ⟨v2, σ3, hm4, h⟩ := jbd_some h
  refine j_callV (as := []) (st := []) (st1 := [.int v2]) X ln_89 ly_89 rfl rfl sv_RX12_203 ⟨by decide, by decide⟩ rfl rfl (Nat.le_of_ble_eq_true rfl) rfl dX12_best_6 jrv_i (c_X12_isThere  hm4) rfl ?_
  refine j_if_ne (tgt := 15) X dX12_best_9 (by decide) h (fun h => ?_) (fun h => ?_)
  · refine j_iload_n X 1 dX12_best_15 rfl rfl ?_
    refine j_i2l X dX12_best_16 ?_
    refine j_lconst (v := 0) X dX12_best_17 (by decide) ?_
    refine j_lconst (v := 1) X dX12_best_18 (by decide) ?_
    obtain ⟨v5, σ6, hm7, h⟩ := jbd_some h
    refine j_callS (as := [.long ((a0).toInt64), .long (0 : Int64), .long (1 : Int64)]) (st := []) (st1 := [.int v5]) X ss_RX12_57 ⟨by decide, by decide⟩ rfl rfl (Nat.le_of_ble_eq_true rfl) rfl dX12_best_19 jrv_i (c_X12_in  hm7) rfl ?_
    refine j_if_ne (tgt := 28) X dX12_best_22 (by decide) h (fun h => ?_) (fun h => ?_)
    · refine j_ldc (v := -1000000) X tw_988 dX12_best_28 ?_
      refine j_istore_n (ls' := [some (.ref 89), some (.int a0), some (.int (-1000000 : Int32)), none, none, none]) X 2 dX12_best_30 rfl (Nat.le_of_ble_eq_true rfl) rfl ?_
      refine j_ldc (v := -1000000) X tw_988 dX12_best_31 ?_
      refine j_istore_n (ls' := [some (.ref 89), some (.int a0), some (.int (-1000000 : Int32)), some (.int (-1000000 : Int32)), none, none]) X 3 dX12_best_33 rfl (Nat.le_of_ble_eq_true rfl) rfl ?_
      refine j_iconst (v := 0) X dX12_best_34 (by decide) ?_
      refine j_istore (ls' := [some (.ref 89), some (.int a0), some (.int (-1000000 : Int32)), some (.int (-1000000 : Int32)), some (.int (0 : Int32)), none]) X dX12_best_35 (Nat.le_of_ble_eq_true rfl) rfl ?_
      obtain ⟨q14, σ15, hL16, h⟩ := jbd_some h
      refine X12_best_L37_ok X  jFU ((-1000000 : Int32), (-1000000 : Int32), (0 : Int32)) σ6 _ hL16 ?_
      refine j_iload_n X 1 dX12_best_84 rfl rfl ?_
      refine j_if_ne (tgt := 92) X dX12_best_85 (by decide) h (fun h => ?_) (fun h => ?_)
      · refine j_iload_n X 3 dX12_best_92 rfl rfl ?_
        obtain ⟨rfl, rfl⟩ := jin2 h
        exact j_iret X R0 dX12_best_93
      · refine j_iload_n X 2 dX12_best_88 rfl rfl ?_
        refine j_goto (tgt := 93) X dX12_best_89 (by decide) ?_
        obtain ⟨rfl, rfl⟩ := jin2 h
        exact j_iret X R0 dX12_best_93
    · refine j_ldc (v := -1000001) X tw_948 dX12_best_25 ?_
      obtain ⟨rfl, rfl⟩ := jin2 h
      exact j_iret X R0 dX12_best_27
  · refine j_ldc (v := -1000002) X tw_1041 dX12_best_12 ?_
    obtain ⟨rfl, rfl⟩ := jin2 h
    exact j_iret X R0 dX12_best_14
