def X11_commonDivisor_L9_b  (rec : Int64 × Int64 × Int32 → jMem → Option ((Int64) × jMem)) (x4 : Int64) (x6 : Int64) (x8 : Int32) (σ : jMem) : Option ((Int64) × jMem) :=
  if (200 : Int32) ≤ x8 then
  some (x4, σ)
else
  if (lg_cmp x6 (0 : Int64)) = 0 then
  some (x4, σ)
else
  jck (¬ x6 = 0) (
  jlet ((x4 - x4 / x6 * x6)) (fun v1 =>
  rec (x6, v1, (x8 + 1)) σ))
def X11_commonDivisor_L9  : Nat → Int64 × Int64 × Int32 → jMem → Option ((Int64) × jMem) := jloop (fun rec s σ => X11_commonDivisor_L9_b  rec s.1 s.2.1 s.2.2 σ)
set_option maxRecDepth 100000 in
set_option maxHeartbeats 4000000 in
theorem X11_commonDivisor_L9_bok {K : jK} (X : JX K cX11_commonDivisor 11 RX11 0 0)   {rec : Int64 × Int64 × Int32 → jMem → Option ((Int64) × jMem)} (ih : ∀ (s : Int64 × Int64 × Int32) (σ : jMem) (o : (Int64) × jMem), rec s σ = some o → (J K 45 [none, none, none, none, some (.long o.1), none, none, none, none, none, none] [] o.2) → J K 9 [none, none, none, none, some (.long s.1), none, some (.long s.2.1), none, some (.int s.2.2), none, none] [] σ) : ∀ (x4 : Int64) (x6 : Int64) (x8 : Int32) (σ : jMem) (o : (Int64) × jMem), X11_commonDivisor_L9_b  rec x4 x6 x8 σ = some o → (J K 45 [none, none, none, none, some (.long o.1), none, none, none, none, none, none] [] o.2) → J K 9 [none, none, none, none, some (.long x4), none, some (.long x6), none, some (.int x8), none, none] [] σ := by
  intro x4 x6 x8 σ o h kk
  unfold X11_commonDivisor_L9_b at h
  refine j_iload X dX11_commonDivisor_9 rfl ?_
  refine j_sipush (v := 200) X dX11_commonDivisor_11 (by decide) ?_
  refine j_icmp_ge (tgt := 45) X dX11_commonDivisor_14 (by decide) h (fun h => ?_) (fun h => ?_)
  · obtain rfl := Option.some.inj h
    exact j_sub (ls' := [none, none, none, none, some (.long x4), none, none, none, none, none, none]) ⟨Or.inl rfl, Or.inl rfl, Or.inl rfl, Or.inl rfl, Or.inr rfl, Or.inl rfl, Or.inl rfl, Or.inl rfl, Or.inl rfl, Or.inl rfl, Or.inl rfl, trivial⟩ kk
  · refine j_lload X dX11_commonDivisor_17 rfl ?_
    refine j_lconst (v := 0) X dX11_commonDivisor_19 (by decide) ?_
    refine j_lcmp X dX11_commonDivisor_20 ?_
    refine j_if_eq (tgt := 45) X dX11_commonDivisor_21 (by decide) h (fun h => ?_) (fun h => ?_)
    · obtain rfl := Option.some.inj h
      exact j_sub (ls' := [none, none, none, none, some (.long x4), none, none, none, none, none, none]) ⟨Or.inl rfl, Or.inl rfl, Or.inl rfl, Or.inl rfl, Or.inr rfl, Or.inl rfl, Or.inl rfl, Or.inl rfl, Or.inl rfl, Or.inl rfl, Or.inl rfl, trivial⟩ kk
    · refine j_lload X dX11_commonDivisor_24 rfl ?_
      refine j_lload X dX11_commonDivisor_26 rfl ?_
      obtain ⟨hc2, h⟩ := jck_some h
      refine j_lrem X dX11_commonDivisor_28 hc2 ?_
      refine j_letL h (fun v1 h => ?_)
      refine j_lstore (ls' := [none, none, none, none, some (.long x4), none, some (.long x6), none, some (.int x8), some (.long v1), none]) X dX11_commonDivisor_29 (Nat.le_of_ble_eq_true rfl) rfl ?_
      refine j_lload X dX11_commonDivisor_31 rfl ?_
      refine j_lstore (ls' := [none, none, none, none, some (.long x6), none, some (.long x6), none, some (.int x8), some (.long v1), none]) X dX11_commonDivisor_33 (Nat.le_of_ble_eq_true rfl) rfl ?_
      refine j_lload X dX11_commonDivisor_35 rfl ?_
      refine j_lstore (ls' := [none, none, none, none, some (.long x6), none, some (.long v1), none, some (.int x8), some (.long v1), none]) X dX11_commonDivisor_37 (Nat.le_of_ble_eq_true rfl) rfl ?_
      refine j_iinc (v := (x8 + 1)) (ls' := [none, none, none, none, some (.long x6), none, some (.long v1), none, some (.int (x8 + 1)), some (.long v1), none]) X dX11_commonDivisor_39 rfl rfl (Nat.le_of_ble_eq_true rfl) rfl ?_
      refine j_goto (tgt := 9) X dX11_commonDivisor_42 (by decide) ?_
      exact j_sub (ls' := [none, none, none, none, some (.long x6), none, some (.long v1), none, some (.int (x8 + 1)), none, none]) ⟨Or.inl rfl, Or.inl rfl, Or.inl rfl, Or.inl rfl, Or.inr rfl, Or.inl rfl, Or.inr rfl, Or.inl rfl, Or.inr rfl, Or.inl rfl, Or.inl rfl, trivial⟩ (ih (x6, v1, (x8 + 1)) σ _ h kk)
theorem X11_commonDivisor_L9_ok {K : jK} (X : JX K cX11_commonDivisor 11 RX11 0 0)   : ∀ (n : Nat) (s : Int64 × Int64 × Int32) (σ : jMem) (o : (Int64) × jMem), X11_commonDivisor_L9  n s σ = some o → (J K 45 [none, none, none, none, some (.long o.1), none, none, none, none, none, none] [] o.2) → J K 9 [none, none, none, none, some (.long s.1), none, some (.long s.2.1), none, some (.int s.2.2), none, none] [] σ := by
  intro n
  induction n with
  | zero => intro s σ o h; cases h
  | succ n ih => intro s σ o h; exact X11_commonDivisor_L9_bok X  ih (s.1) (s.2.1) (s.2.2) σ o h
def f_X11_commonDivisor (a0 : Int64) (a1 : Int64) (σ : jMem) : Option (Int64 × jMem) :=
  jbd (X11_commonDivisor_L9  jFU (a0, a1, (0 : Int32)) σ) (fun q3 σ4 =>
  if (lg_cmp q3 (0 : Int64)) ≤ 0 then
  some (((1 : Int64), σ4))
else
  some ((q3, σ4)))
set_option maxRecDepth 100000 in
set_option maxHeartbeats 4000000 in
theorem c_X11_commonDivisor {l : Launch} {D : va_G} {ad : Nat → Nat} {cid : Nat → ClassId} {a0 : Int64} {a1 : Int64}  {σ : jMem} {r : Int64} {σ' : jMem} (h : f_X11_commonDivisor a0 a1 σ = some (r, σ')) : jMet l D ad cid yX11_commonDivisor cX11_commonDivisor 11 (some .long) 0 0 [.long a0, .long a1] σ (some (.long r)) σ' := by
  refine jMet_of (ls0 := [some (.long a0), none, some (.long a1), none, none, none, none, none, none, none, none]) (by decide) (Nat.le_of_ble_eq_true rfl) rfl (fun K X R0 _ => ?_)
  unfold f_X11_commonDivisor at h
  refine j_lload_n X 0 dX11_commonDivisor_0 rfl rfl ?_
  refine j_lstore (ls' := [some (.long a0), none, some (.long a1), none, some (.long a0), none, none, none, none, none, none]) X dX11_commonDivisor_1 (Nat.le_of_ble_eq_true rfl) rfl ?_
  refine j_lload_n X 2 dX11_commonDivisor_3 rfl rfl ?_
  refine j_lstore (ls' := [some (.long a0), none, some (.long a1), none, some (.long a0), none, some (.long a1), none, none, none, none]) X dX11_commonDivisor_4 (Nat.le_of_ble_eq_true rfl) rfl ?_
  refine j_iconst (v := 0) X dX11_commonDivisor_6 (by decide) ?_
  refine j_istore (ls' := [some (.long a0), none, some (.long a1), none, some (.long a0), none, some (.long a1), none, some (.int (0 : Int32)), none, none]) X dX11_commonDivisor_7 (Nat.le_of_ble_eq_true rfl) rfl ?_
  obtain ⟨q3, σ4, hL5, h⟩ := jbd_some h
  refine j_sub (ls' := [none, none, none, none, some (.long a0), none, some (.long a1), none, some (.int (0 : Int32)), none, none]) ⟨Or.inl rfl, Or.inl rfl, Or.inl rfl, Or.inl rfl, Or.inr rfl, Or.inl rfl, Or.inr rfl, Or.inl rfl, Or.inr rfl, Or.inl rfl, Or.inl rfl, trivial⟩ ?_
  refine X11_commonDivisor_L9_ok X  jFU (a0, a1, (0 : Int32)) σ _ hL5 ?_
  refine j_lload X dX11_commonDivisor_45 rfl ?_
  refine j_lconst (v := 0) X dX11_commonDivisor_47 (by decide) ?_
  refine j_lcmp X dX11_commonDivisor_48 ?_
  refine j_if_le (tgt := 57) X dX11_commonDivisor_49 (by decide) h (fun h => ?_) (fun h => ?_)
  · refine j_lconst (v := 1) X dX11_commonDivisor_57 (by decide) ?_
    obtain ⟨rfl, rfl⟩ := jin2 h
    exact j_lret X R0 dX11_commonDivisor_58
  · refine j_lload X dX11_commonDivisor_52 rfl ?_
    refine j_goto (tgt := 58) X dX11_commonDivisor_54 (by decide) ?_
    obtain ⟨rfl, rfl⟩ := jin2 h
    exact j_lret X R0 dX11_commonDivisor_58
def f_X2_casesParted (a0 : Int32) (a1 : Int32) (σ : jMem) : Option (Int64 × jMem) :=
  jlet ((a1 &&& (a0 ^^^ (-1 : Int32)))) (fun v1 =>
  jld σ 82 256 a1 (fun v2 =>
  jld σ 82 256 a0 (fun v3 =>
  jld σ 82 256 v1 (fun v4 =>
  jlet (((v2 - v3) - v4)) (fun v5 =>
  jldL σ 83 256 a0 (fun v6 =>
  jldL σ 85 13 v5 (fun v7 =>
  jld σ 82 256 v1 (fun v8 =>
  jldL σ 84 13 v8 (fun v9 =>
  some ((((v6 * v7) * v9), σ)))))))))))
set_option maxRecDepth 100000 in
set_option maxHeartbeats 4000000 in
theorem c_X2_casesParted {l : Launch} {D : va_G} {ad : Nat → Nat} {cid : Nat → ClassId} {a0 : Int32} {a1 : Int32}  {σ : jMem} {r : Int64} {σ' : jMem} (h : f_X2_casesParted a0 a1 σ = some (r, σ')) : jMet l D ad cid yX2_casesParted cX2_casesParted 5 (some .long) 0 0 [.ref 80, .int a0, .int a1] σ (some (.long r)) σ' := by
  refine jMet_of (ls0 := [some (.ref 80), some (.int a0), some (.int a1), none, none]) (by decide) (Nat.le_of_ble_eq_true rfl) rfl (fun K X R0 _ => ?_)
  unfold f_X2_casesParted at h
  refine j_iload_n X 2 dX2_casesParted_0 rfl rfl ?_
  refine j_iload_n X 1 dX2_casesParted_1 rfl rfl ?_
  refine j_iconst (v := -1) X dX2_casesParted_2 (by decide) ?_
  refine j_ixor X dX2_casesParted_3 ?_
  refine j_iand X dX2_casesParted_4 ?_
  refine j_letI h (fun v1 h => ?_)
  refine j_istore_n (ls' := [some (.ref 80), some (.int a0), some (.int a1), some (.int v1), none]) X 3 dX2_casesParted_5 rfl (Nat.le_of_ble_eq_true rfl) rfl ?_
  refine j_aload_n X 0 dX2_casesParted_6 rfl rfl ?_
  refine j_getR (t := 82) X fg_RX2_15 ln_80 ly_80 rfl dX2_casesParted_7 ?_
  refine j_iload_n X 2 dX2_casesParted_10 rfl rfl ?_
  refine j_iaload X ln_82 ly_82 dX2_casesParted_11 h (fun v2 h => ?_)
  refine j_aload_n X 0 dX2_casesParted_12 rfl rfl ?_
  refine j_getR (t := 82) X fg_RX2_15 ln_80 ly_80 rfl dX2_casesParted_13 ?_
  refine j_iload_n X 1 dX2_casesParted_16 rfl rfl ?_
  refine j_iaload X ln_82 ly_82 dX2_casesParted_17 h (fun v3 h => ?_)
  refine j_isub X dX2_casesParted_18 ?_
  refine j_aload_n X 0 dX2_casesParted_19 rfl rfl ?_
  refine j_getR (t := 82) X fg_RX2_15 ln_80 ly_80 rfl dX2_casesParted_20 ?_
  refine j_iload_n X 3 dX2_casesParted_23 rfl rfl ?_
  refine j_iaload X ln_82 ly_82 dX2_casesParted_24 h (fun v4 h => ?_)
  refine j_isub X dX2_casesParted_25 ?_
  refine j_letI h (fun v5 h => ?_)
  refine j_istore (ls' := [some (.ref 80), some (.int a0), some (.int a1), some (.int v1), some (.int v5)]) X dX2_casesParted_26 (Nat.le_of_ble_eq_true rfl) rfl ?_
  refine j_aload_n X 0 dX2_casesParted_28 rfl rfl ?_
  refine j_getR (t := 83) X fg_RX2_18 ln_80 ly_80 rfl dX2_casesParted_29 ?_
  refine j_iload_n X 1 dX2_casesParted_32 rfl rfl ?_
  refine j_laload X ln_83 ly_83 dX2_casesParted_33 h (fun v6 h => ?_)
  refine j_aload_n X 0 dX2_casesParted_34 rfl rfl ?_
  refine j_getR (t := 85) X fg_RX2_25 ln_80 ly_80 rfl dX2_casesParted_35 ?_
  refine j_iload X dX2_casesParted_38 rfl ?_
  refine j_laload X ln_85 ly_85 dX2_casesParted_40 h (fun v7 h => ?_)
  refine j_lmul X dX2_casesParted_41 ?_
  refine j_aload_n X 0 dX2_casesParted_42 rfl rfl ?_
  refine j_getR (t := 84) X fg_RX2_22 ln_80 ly_80 rfl dX2_casesParted_43 ?_
  refine j_aload_n X 0 dX2_casesParted_46 rfl rfl ?_
  refine j_getR (t := 82) X fg_RX2_15 ln_80 ly_80 rfl dX2_casesParted_47 ?_
  refine j_iload_n X 3 dX2_casesParted_50 rfl rfl ?_
  refine j_iaload X ln_82 ly_82 dX2_casesParted_51 h (fun v8 h => ?_)
  refine j_laload X ln_84 ly_84 dX2_casesParted_52 h (fun v9 h => ?_)
  refine j_lmul X dX2_casesParted_53 ?_
  obtain ⟨rfl, rfl⟩ := jin2 h
  exact j_lret X R0 dX2_casesParted_54
