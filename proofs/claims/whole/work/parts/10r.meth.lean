def X11_commonDivisor_L9_b  (rec : Int64 × Int64 × Int32 → jMem → Option ((Int64) × jMem)) (x4 : Int64) (x6 : Int64) (x8 : Int32) (σ : jMem) : Option ((Int64) × jMem) :=
  if (200 : Int32) ≤ x8 then
  some (x4, σ)
else
  if (lg_cmp x6 (0 : Int64)) = 0 then
  some (x4, σ)
else
  jck (¬ x6 = 0) (
  jlet ((x4 - x4 / x6 * x6)) (fun v1 =>
  rec (x6, v1, (x8 + 1)) σ))
def X11_commonDivisor_L9  : Nat → Int64 × Int64 × Int32 → jMem → Option ((Int64) × jMem) := jloop (fun rec s σ => X11_commonDivisor_L9_b  rec s.1 s.2.1 s.2.2 σ)
set_option maxRecDepth 100000 in
set_option maxHeartbeats 4000000 in
theorem X11_commonDivisor_L9_bok {K : jK} (X : JX K cX11_commonDivisor 11 RX11 0 0)   {rec : Int64 × Int64 × Int32 → jMem → Option ((Int64) × jMem)} (ih : ∀ (s : Int64 × Int64 × Int32) (σ : jMem) (o : (Int64) × jMem), rec s σ = some o → (J K 45 [none, none, none, none, some (.long o.1), none, none, none, none, none, none] [] o.2) → J K 9 [none, none, none, none, some (.long s.1), none, some (.long s.2.1), none, some (.int s.2.2), none, none] [] σ) : ∀ (x4 : Int64) (x6 : Int64) (x8 : Int32) (σ : jMem) (o : (Int64) × jMem), X11_commonDivisor_L9_b  rec x4 x6 x8 σ = some o → (J K 45 [none, none, none, none, some (.long o.1), none, none, none, none, none, none] [] o.2) → J K 9 [none, none, none, none, some (.long x4), none, some (.long x6), none, some (.int x8), none, none] [] σ := by
  intro x4 x6 x8 σ o h kk
  unfold X11_commonDivisor_L9_b at h
  refine j_iload X dX11_commonDivisor_9 rfl ?_
  refine j_sipush (v := 200) X dX11_commonDivisor_11 (by decide) ?_
  refine j_icmp_ge (tgt := 45) X dX11_commonDivisor_14 (by decide) h (fun h => ?_) (fun h => ?_)
  · obtain rfl := Option.some.inj h
    exact j_sub (ls' := [none, none, none, none, some (.long x4), none, none, none, none, none, none]) ⟨Or.inl rfl, Or.inl rfl, Or.inl rfl, Or.inl rfl, Or.inr rfl, Or.inl rfl, Or.inl rfl, Or.inl rfl, Or.inl rfl, Or.inl rfl, Or.inl rfl, trivial⟩ kk
  · refine j_lload X dX11_commonDivisor_17 rfl ?_
    refine j_lconst (v := 0) X dX11_commonDivisor_19 (by decide) ?_
    refine j_lcmp X dX11_commonDivisor_20 ?_
    refine j_if_eq (tgt := 45) X dX11_commonDivisor_21 (by decide) h (fun h => ?_) (fun h => ?_)
    · obtain rfl := Option.some.inj h
      exact j_sub (ls' := [none, none, none, none, some (.long x4), none, none, none, none, none, none]) ⟨Or.inl rfl, Or.inl rfl, Or.inl rfl, Or.inl rfl, Or.inr rfl, Or.inl rfl, Or.inl rfl, Or.inl rfl, Or.inl rfl, Or.inl rfl, Or.inl rfl, trivial⟩ kk
    · refine j_lload X dX11_commonDivisor_24 rfl ?_
      refine j_lload X dX11_commonDivisor_26 rfl ?_
      obtain ⟨hc2, h⟩ := jck_some h
      refine j_lrem X dX11_commonDivisor_28 hc2 ?_
      refine j_letL h (fun v1 h => ?_)
      refine j_lstore (ls' := [none, none, none, none, some (.long x4), none, some (.long x6), none, some (.int x8), some (.long v1), none]) X dX11_commonDivisor_29 (Nat.le_of_ble_eq_true rfl) rfl ?_
      refine j_lload X dX11_commonDivisor_31 rfl ?_
      refine j_lstore (ls' := [none, none, none, none, some (.long x6), none, some (.long x6), none, some (.int x8), some (.long v1), none]) X dX11_commonDivisor_33 (Nat.le_of_ble_eq_true rfl) rfl ?_
      refine j_lload X dX11_commonDivisor_35 rfl ?_
      refine j_lstore (ls' := [none, none, none, none, some (.long x6), none, some (.long v1), none, some (.int x8), some (.long v1), none]) X dX11_commonDivisor_37 (Nat.le_of_ble_eq_true rfl) rfl ?_
      refine j_iinc (v := (x8 + 1)) (ls' := [none, none, none, none, some (.long x6), none, some (.long v1), none, some (.int (x8 + 1)), some (.long v1), none]) X dX11_commonDivisor_39 rfl rfl (Nat.le_of_ble_eq_true rfl) rfl ?_
      refine j_goto (tgt := 9) X dX11_commonDivisor_42 (by decide) ?_
      exact j_sub (ls' := [none, none, none, none, some (.long x6), none, some (.long v1), none, some (.int (x8 + 1)), none, none]) ⟨Or.inl rfl, Or.inl rfl, Or.inl rfl, Or.inl rfl, Or.inr rfl, Or.inl rfl, Or.inr rfl, Or.inl rfl, Or.inr rfl, Or.inl rfl, Or.inl rfl, trivial⟩ (ih (x6, v1, (x8 + 1)) σ _ h kk)
theorem X11_commonDivisor_L9_ok {K : jK} (X : JX K cX11_commonDivisor 11 RX11 0 0)   : ∀ (n : Nat) (s : Int64 × Int64 × Int32) (σ : jMem) (o : (Int64) × jMem), X11_commonDivisor_L9  n s σ = some o → (J K 45 [none, none, none, none, some (.long o.1), none, none, none, none, none, none] [] o.2) → J K 9 [none, none, none, none, some (.long s.1), none, some (.long s.2.1), none, some (.int s.2.2), none, none] [] σ := by
  intro n
  induction n with
  | zero => intro s σ o h; cases h
  | succ n ih => intro s σ o h; exact X11_commonDivisor_L9_bok X  ih (s.1) (s.2.1) (s.2.2) σ o h
def f_X11_commonDivisor (a0 : Int64) (a1 : Int64) (σ : jMem) : Option (Int64 × jMem) :=
  jbd (X11_commonDivisor_L9  jFU (a0, a1, (0 : Int32)) σ) (fun q3 σ4 =>
  if (lg_cmp q3 (0 : Int64)) ≤ 0 then
  some (((1 : Int64), σ4))
else
  some ((q3, σ4)))
set_option maxRecDepth 100000 in
set_option maxHeartbeats 4000000 in
theorem c_X11_commonDivisor {l : Launch} {D : va_G} {ad : Nat → Nat} {cid : Nat → ClassId} {a0 : Int64} {a1 : Int64}  {σ : jMem} {r : Int64} {σ' : jMem} (h : f_X11_commonDivisor a0 a1 σ = some (r, σ')) : jMet l D ad cid yX11_commonDivisor cX11_commonDivisor 11 (some .long) 0 0 [.long a0, .long a1] σ (some (.long r)) σ' := by
  refine jMet_of (ls0 := [some (.long a0), none, some (.long a1), none, none, none, none, none, none, none, none]) (by decide) (Nat.le_of_ble_eq_true rfl) rfl (fun K X R0 _ => ?_)
  unfold f_X11_commonDivisor at h
  refine j_lload_n X 0 dX11_commonDivisor_0 rfl rfl ?_
  refine j_lstore (ls' := [some (.long a0), none, some (.long a1), none, some (.long a0), none, none, none, none, none, none]) X dX11_commonDivisor_1 (Nat.le_of_ble_eq_true rfl) rfl ?_
  refine j_lload_n X 2 dX11_commonDivisor_3 rfl rfl ?_
  refine j_lstore (ls' := [some (.long a0), none, some (.long a1), none, some (.long a0), none, some (.long a1), none, none, none, none]) X dX11_commonDivisor_4 (Nat.le_of_ble_eq_true rfl) rfl ?_
  refine j_iconst (v := 0) X dX11_commonDivisor_6 (by decide) ?_
  refine j_istore (ls' := [some (.long a0), none, some (.long a1), none, some (.long a0), none, some (.long a1), none, some (.int (0 : Int32)), none, none]) X dX11_commonDivisor_7 (Nat.le_of_ble_eq_true rfl) rfl ?_
  obtain ⟨q3, σ4, hL5, h⟩ := jbd_some h
  refine j_sub (ls' := [none, none, none, none, some (.long a0), none, some (.long a1), none, some (.int (0 : Int32)), none, none]) ⟨Or.inl rfl, Or.inl rfl, Or.inl rfl, Or.inl rfl, Or.inr rfl, Or.inl rfl, Or.inr rfl, Or.inl rfl, Or.inr rfl, Or.inl rfl, Or.inl rfl, trivial⟩ ?_
  refine X11_commonDivisor_L9_ok X  jFU (a0, a1, (0 : Int32)) σ _ hL5 ?_
  refine j_lload X dX11_commonDivisor_45 rfl ?_
  refine j_lconst (v := 0) X dX11_commonDivisor_47 (by decide) ?_
  refine j_lcmp X dX11_commonDivisor_48 ?_
  refine j_if_le (tgt := 57) X dX11_commonDivisor_49 (by decide) h (fun h => ?_) (fun h => ?_)
  · refine j_lconst (v := 1) X dX11_commonDivisor_57 (by decide) ?_
    obtain ⟨rfl, rfl⟩ := jin2 h
    exact j_lret X R0 dX11_commonDivisor_58
  · refine j_lload X dX11_commonDivisor_52 rfl ?_
    refine j_goto (tgt := 58) X dX11_commonDivisor_54 (by decide) ?_
    obtain ⟨rfl, rfl⟩ := jin2 h
    exact j_lret X R0 dX11_commonDivisor_58
def f_X2_casesParted (a0 : Int32) (a1 : Int32) (σ : jMem) : Option (Int64 × jMem) :=
  jlet ((a1 &&& (a0 ^^^ (-1 : Int32)))) (fun v1 =>
  jld σ 82 256 a1 (fun v2 =>
  jld σ 82 256 a0 (fun v3 =>
  jld σ 82 256 v1 (fun v4 =>
  jlet (((v2 - v3) - v4)) (fun v5 =>
  jldL σ 83 256 a0 (fun v6 =>
  jldL σ 85 13 v5 (fun v7 =>
  jld σ 82 256 v1 (fun v8 =>
  jldL σ 84 13 v8 (fun v9 =>
  some ((((v6 * v7) * v9), σ)))))))))))
set_option maxRecDepth 100000 in
set_option maxHeartbeats 4000000 in
theorem c_X2_casesParted {l : Launch} {D : va_G} {ad : Nat → Nat} {cid : Nat → ClassId} {a0 : Int32} {a1 : Int32}  {σ : jMem} {r : Int64} {σ' : jMem} (h : f_X2_casesParted a0 a1 σ = some (r, σ')) : jMet l D ad cid yX2_casesParted cX2_casesParted 5 (some .long) 0 0 [.ref 80, .int a0, .int a1] σ (some (.long r)) σ' := by
  refine jMet_of (ls0 := [some (.ref 80), some (.int a0), some (.int a1), none, none]) (by decide) (Nat.le_of_ble_eq_true rfl) rfl (fun K X R0 _ => ?_)
  unfold f_X2_casesParted at h
  refine j_iload_n X 2 dX2_casesParted_0 rfl rfl ?_
  refine j_iload_n X 1 dX2_casesParted_1 rfl rfl ?_
  refine j_iconst (v := -1) X dX2_casesParted_2 (by decide) ?_
  refine j_ixor X dX2_casesParted_3 ?_
  refine j_iand X dX2_casesParted_4 ?_
  refine j_letI h (fun v1 h => ?_)
  refine j_istore_n (ls' := [some (.ref 80), some (.int a0), some (.int a1), some (.int v1), none]) X 3 dX2_casesParted_5 rfl (Nat.le_of_ble_eq_true rfl) rfl ?_
  refine j_aload_n X 0 dX2_casesParted_6 rfl rfl ?_
  refine j_getR (t := 82) X fg_RX2_15 ln_80 ly_80 rfl dX2_casesParted_7 ?_
  refine j_iload_n X 2 dX2_casesParted_10 rfl rfl ?_
  refine j_iaload X ln_82 ly_82 dX2_casesParted_11 h (fun v2 h => ?_)
  refine j_aload_n X 0 dX2_casesParted_12 rfl rfl ?_
  refine j_getR (t := 82) X fg_RX2_15 ln_80 ly_80 rfl dX2_casesParted_13 ?_
  refine j_iload_n X 1 dX2_casesParted_16 rfl rfl ?_
  refine j_iaload X ln_82 ly_82 dX2_casesParted_17 h (fun v3 h => ?_)
  refine j_isub X dX2_casesParted_18 ?_
  refine j_aload_n X 0 dX2_casesParted_19 rfl rfl ?_
  refine j_getR (t := 82) X fg_RX2_15 ln_80 ly_80 rfl dX2_casesParted_20 ?_
  refine j_iload_n X 3 dX2_casesParted_23 rfl rfl ?_
  refine j_iaload X ln_82 ly_82 dX2_casesParted_24 h (fun v4 h => ?_)
  refine j_isub X dX2_casesParted_25 ?_
  refine j_letI h (fun v5 h => ?_)
  refine j_istore (ls' := [some (.ref 80), some (.int a0), some (.int a1), some (.int v1), some (.int v5)]) X dX2_casesParted_26 (Nat.le_of_ble_eq_true rfl) rfl ?_
  refine j_aload_n X 0 dX2_casesParted_28 rfl rfl ?_
  refine j_getR (t := 83) X fg_RX2_18 ln_80 ly_80 rfl dX2_casesParted_29 ?_
  refine j_iload_n X 1 dX2_casesParted_32 rfl rfl ?_
  refine j_laload X ln_83 ly_83 dX2_casesParted_33 h (fun v6 h => ?_)
  refine j_aload_n X 0 dX2_casesParted_34 rfl rfl ?_
  refine j_getR (t := 85) X fg_RX2_25 ln_80 ly_80 rfl dX2_casesParted_35 ?_
  refine j_iload X dX2_casesParted_38 rfl ?_
  refine j_laload X ln_85 ly_85 dX2_casesParted_40 h (fun v7 h => ?_)
  refine j_lmul X dX2_casesParted_41 ?_
  refine j_aload_n X 0 dX2_casesParted_42 rfl rfl ?_
  refine j_getR (t := 84) X fg_RX2_22 ln_80 ly_80 rfl dX2_casesParted_43 ?_
  refine j_aload_n X 0 dX2_casesParted_46 rfl rfl ?_
  refine j_getR (t := 82) X fg_RX2_15 ln_80 ly_80 rfl dX2_casesParted_47 ?_
  refine j_iload_n X 3 dX2_casesParted_50 rfl rfl ?_
  refine j_iaload X ln_82 ly_82 dX2_casesParted_51 h (fun v8 h => ?_)
  refine j_laload X ln_84 ly_84 dX2_casesParted_52 h (fun v9 h => ?_)
  refine j_lmul X dX2_casesParted_53 ?_
  obtain ⟨rfl, rfl⟩ := jin2 h
  exact j_lret X R0 dX2_casesParted_54
theorem sv_RX2_105 : jSiV RX2 105 yX2_casesParted cX2_casesParted 5 (some .long) 2 := ⟨tw_741, tw_743, ts_20, tw_11, tw_744, by decide, by decide, by decide +kernel⟩
def X2_casesJoined_L18_b (p1 : Int32) (p2 : Int32) (rec : Int64 × Int32 × Int32 → jMem → Option ((Int64) × jMem)) (x3 : Int64) (x5 : Int32) (x6 : Int32) (σ : jMem) : Option ((Int64) × jMem) :=
  if (256 : Int32) ≤ x6 then
  some (x3, σ)
else
  if x5 = 0 then
  some (x3, σ)
else
  jlet (((x5 - (1 : Int32)) &&& p1)) (fun v3 =>
  jbd (f_X11_bitOf v3 p2 σ) (fun v4 σ5 =>
  if ¬ v4 = (1 : Int32) then
  rec (x3, v3, (x6 + 1)) σ5
else
  jbd (f_X2_casesParted v3 p1 σ5) (fun v7 σ8 =>
  jlet ((x3 - v7)) (fun v10 =>
  rec (v10, v3, (x6 + 1)) σ8))))
def X2_casesJoined_L18 (p1 : Int32) (p2 : Int32) : Nat → Int64 × Int32 × Int32 → jMem → Option ((Int64) × jMem) := jloop (fun rec s σ => X2_casesJoined_L18_b p1 p2 rec s.1 s.2.1 s.2.2 σ)
set_option maxRecDepth 100000 in
set_option maxHeartbeats 4000000 in
theorem X2_casesJoined_L18_bok {K : jK} (X : JX K cX2_casesJoined 7 RX2 1 24) {p1 : Int32} {p2 : Int32}  {rec : Int64 × Int32 × Int32 → jMem → Option ((Int64) × jMem)} (ih : ∀ (s : Int64 × Int32 × Int32) (σ : jMem) (o : (Int64) × jMem), rec s σ = some o → (J K 65 [none, none, none, some (.long o.1), none, none, none] [] o.2) → J K 18 [some (.ref 80), some (.int p1), some (.int p2), some (.long s.1), none, some (.int s.2.1), some (.int s.2.2)] [] σ) : ∀ (x3 : Int64) (x5 : Int32) (x6 : Int32) (σ : jMem) (o : (Int64) × jMem), X2_casesJoined_L18_b p1 p2 rec x3 x5 x6 σ = some o → (J K 65 [none, none, none, some (.long o.1), none, none, none] [] o.2) → J K 18 [some (.ref 80), some (.int p1), some (.int p2), some (.long x3), none, some (.int x5), some (.int x6)] [] σ := by
  intro x3 x5 x6 σ o h kk
  unfold X2_casesJoined_L18_b at h
  refine j_iload X dX2_casesJoined_18 rfl ?_
  refine j_sipush (v := 256) X dX2_casesJoined_20 (by decide) ?_
  refine j_icmp_ge (tgt := 65) X dX2_casesJoined_23 (by decide) h (fun h => ?_) (fun h => ?_)
  · obtain rfl := Option.some.inj h
    exact j_sub (ls' := [none, none, none, some (.long x3), none, none, none]) ⟨Or.inl rfl, Or.inl rfl, Or.inl rfl, Or.inr rfl, Or.inl rfl, Or.inl rfl, Or.inl rfl, trivial⟩ kk
  · refine j_iload X dX2_casesJoined_26 rfl ?_
    refine j_if_eq (tgt := 65) X dX2_casesJoined_28 (by decide) h (fun h => ?_) (fun h => ?_)
    · obtain rfl := Option.some.inj h
      exact j_sub (ls' := [none, none, none, some (.long x3), none, none, none]) ⟨Or.inl rfl, Or.inl rfl, Or.inl rfl, Or.inr rfl, Or.inl rfl, Or.inl rfl, Or.inl rfl, trivial⟩ kk
    · refine j_iload X dX2_casesJoined_31 rfl ?_
      refine j_iconst (v := 1) X dX2_casesJoined_33 (by decide) ?_
      refine j_isub X dX2_casesJoined_34 ?_
      refine j_iload_n X 1 dX2_casesJoined_35 rfl rfl ?_
      refine j_iand X dX2_casesJoined_36 ?_
      refine j_letI h (fun v3 h => ?_)
      refine j_istore (ls' := [some (.ref 80), some (.int p1), some (.int p2), some (.long x3), none, some (.int v3), some (.int x6)]) X dX2_casesJoined_37 (Nat.le_of_ble_eq_true rfl) rfl ?_
      refine j_iload X dX2_casesJoined_39 rfl ?_
      refine j_iload_n X 2 dX2_casesJoined_41 rfl rfl ?_
      obtain ⟨v4, σ5, hm6, h⟩ := jbd_some h
      refine j_callN (as := [.int v3, .int p2]) (st := []) (st1 := [.int v4]) X sn_RX2_68 ⟨by decide, by decide⟩ rfl rfl (Nat.le_of_ble_eq_true rfl) rfl dX2_casesJoined_42 jrv_i (c_X11_bitOf  hm6) rfl ?_
      refine j_iconst (v := 1) X dX2_casesJoined_45 (by decide) ?_
      refine j_icmp_ne (tgt := 59) X dX2_casesJoined_46 (by decide) h (fun h => ?_) (fun h => ?_)
      · refine j_iinc (v := (x6 + 1)) (ls' := [some (.ref 80), some (.int p1), some (.int p2), some (.long x3), none, some (.int v3), some (.int (x6 + 1))]) X dX2_casesJoined_59 rfl rfl (Nat.le_of_ble_eq_true rfl) rfl ?_
        refine j_goto (tgt := 18) X dX2_casesJoined_62 (by decide) ?_
        exact ih (x3, v3, (x6 + 1)) σ5 _ h kk
      · refine j_lload_n X 3 dX2_casesJoined_49 rfl rfl ?_
        refine j_aload_n X 0 dX2_casesJoined_50 rfl rfl ?_
        refine j_iload X dX2_casesJoined_51 rfl ?_
        refine j_iload_n X 1 dX2_casesJoined_53 rfl rfl ?_
        obtain ⟨v7, σ8, hm9, h⟩ := jbd_some h
        refine j_callV (as := [.int v3, .int p1]) (st := [.long x3]) (st1 := [.long v7, .long x3]) X ln_80 ly_80 rfl rfl sv_RX2_105 ⟨by decide, by decide⟩ rfl rfl (Nat.le_of_ble_eq_true rfl) rfl dX2_casesJoined_54 jrv_l (c_X2_casesParted  hm9) rfl ?_
        refine j_lsub X dX2_casesJoined_57 ?_
        refine j_letL h (fun v10 h => ?_)
        refine j_lstore_n (ls' := [some (.ref 80), some (.int p1), some (.int p2), some (.long v10), none, some (.int v3), some (.int x6)]) X 3 dX2_casesJoined_58 rfl (Nat.le_of_ble_eq_true rfl) rfl ?_
        refine j_iinc (v := (x6 + 1)) (ls' := [some (.ref 80), some (.int p1), some (.int p2), some (.long v10), none, some (.int v3), some (.int (x6 + 1))]) X dX2_casesJoined_59 rfl rfl (Nat.le_of_ble_eq_true rfl) rfl ?_
        refine j_goto (tgt := 18) X dX2_casesJoined_62 (by decide) ?_
        exact ih (v10, v3, (x6 + 1)) σ8 _ h kk
theorem X2_casesJoined_L18_ok {K : jK} (X : JX K cX2_casesJoined 7 RX2 1 24) {p1 : Int32} {p2 : Int32}  : ∀ (n : Nat) (s : Int64 × Int32 × Int32) (σ : jMem) (o : (Int64) × jMem), X2_casesJoined_L18 p1 p2 n s σ = some o → (J K 65 [none, none, none, some (.long o.1), none, none, none] [] o.2) → J K 18 [some (.ref 80), some (.int p1), some (.int p2), some (.long s.1), none, some (.int s.2.1), some (.int s.2.2)] [] σ := by
  intro n
  induction n with
  | zero => intro s σ o h; cases h
  | succ n ih => intro s σ o h; exact X2_casesJoined_L18_bok X  ih (s.1) (s.2.1) (s.2.2) σ o h
def f_X2_casesJoined (a0 : Int32) (a1 : Int32) (σ : jMem) : Option (Int64 × jMem) :=
  jld σ 82 256 a0 (fun v1 =>
  jldL σ 84 13 v1 (fun v2 =>
  jbd (X2_casesJoined_L18 (a0) (a1) jFU (v2, a0, (0 : Int32)) σ) (fun q11 σ12 =>
  some ((q11, σ12)))))
set_option maxRecDepth 100000 in
set_option maxHeartbeats 4000000 in
theorem c_X2_casesJoined {l : Launch} {D : va_G} {ad : Nat → Nat} {cid : Nat → ClassId} {a0 : Int32} {a1 : Int32}  {σ : jMem} {r : Int64} {σ' : jMem} (h : f_X2_casesJoined a0 a1 σ = some (r, σ')) : jMet l D ad cid yX2_casesJoined cX2_casesJoined 7 (some .long) 1 24 [.ref 80, .int a0, .int a1] σ (some (.long r)) σ' := by
  refine jMet_of (ls0 := [some (.ref 80), some (.int a0), some (.int a1), none, none, none, none]) (by decide) (Nat.le_of_ble_eq_true rfl) rfl (fun K X R0 _ => ?_)
  unfold f_X2_casesJoined at h
  refine j_aload_n X 0 dX2_casesJoined_0 rfl rfl ?_
  refine j_getR (t := 84) X fg_RX2_22 ln_80 ly_80 rfl dX2_casesJoined_1 ?_
  refine j_aload_n X 0 dX2_casesJoined_4 rfl rfl ?_
  refine j_getR (t := 82) X fg_RX2_15 ln_80 ly_80 rfl dX2_casesJoined_5 ?_
  refine j_iload_n X 1 dX2_casesJoined_8 rfl rfl ?_
  refine j_iaload X ln_82 ly_82 dX2_casesJoined_9 h (fun v1 h => ?_)
  refine j_laload X ln_84 ly_84 dX2_casesJoined_10 h (fun v2 h => ?_)
  refine j_lstore_n (ls' := [some (.ref 80), some (.int a0), some (.int a1), some (.long v2), none, none, none]) X 3 dX2_casesJoined_11 rfl (Nat.le_of_ble_eq_true rfl) rfl ?_
  refine j_iload_n X 1 dX2_casesJoined_12 rfl rfl ?_
  refine j_istore (ls' := [some (.ref 80), some (.int a0), some (.int a1), some (.long v2), none, some (.int a0), none]) X dX2_casesJoined_13 (Nat.le_of_ble_eq_true rfl) rfl ?_
  refine j_iconst (v := 0) X dX2_casesJoined_15 (by decide) ?_
  refine j_istore (ls' := [some (.ref 80), some (.int a0), some (.int a1), some (.long v2), none, some (.int a0), some (.int (0 : Int32))]) X dX2_casesJoined_16 (Nat.le_of_ble_eq_true rfl) rfl ?_
  obtain ⟨q11, σ12, hL13, h⟩ := jbd_some h
  refine X2_casesJoined_L18_ok X  jFU (v2, a0, (0 : Int32)) σ _ hL13 ?_
  refine j_lload_n X 3 dX2_casesJoined_65 rfl rfl ?_
  obtain ⟨rfl, rfl⟩ := jin2 h
  exact j_lret X R0 dX2_casesJoined_66
def X2_fillPowers_L5_b (p1 : Int32) (rec : Int64 × Int32 → jMem → Option ((Unit) × jMem)) (x2 : Int64) (x4 : Int32) (σ : jMem) : Option ((Unit) × jMem) :=
  if (12 : Int32) < x4 then
  some ((), σ)
else
  jstL σ 85 13 x4 x2 (fun σ1 =>
  jlet ((x2 * ((p1).toInt64))) (fun v2 =>
  rec (v2, (x4 + 1)) σ1))
def X2_fillPowers_L5 (p1 : Int32) : Nat → Int64 × Int32 → jMem → Option ((Unit) × jMem) := jloop (fun rec s σ => X2_fillPowers_L5_b p1 rec s.1 s.2 σ)
set_option maxRecDepth 100000 in
set_option maxHeartbeats 4000000 in
theorem X2_fillPowers_L5_bok {K : jK} (X : JX K cX2_fillPowers 5 RX2 0 0) {p1 : Int32}  {rec : Int64 × Int32 → jMem → Option ((Unit) × jMem)} (ih : ∀ (s : Int64 × Int32) (σ : jMem) (o : (Unit) × jMem), rec s σ = some o → (J K 31 [none, none, none, none, none] [] o.2) → J K 5 [some (.ref 80), some (.int p1), some (.long s.1), none, some (.int s.2)] [] σ) : ∀ (x2 : Int64) (x4 : Int32) (σ : jMem) (o : (Unit) × jMem), X2_fillPowers_L5_b p1 rec x2 x4 σ = some o → (J K 31 [none, none, none, none, none] [] o.2) → J K 5 [some (.ref 80), some (.int p1), some (.long x2), none, some (.int x4)] [] σ := by
  intro x2 x4 σ o h kk
  unfold X2_fillPowers_L5_b at h
  refine j_iload X dX2_fillPowers_5 rfl ?_
  refine j_bipush (v := 12) X dX2_fillPowers_7 (by decide) ?_
  refine j_icmp_gt (tgt := 31) X dX2_fillPowers_9 (by decide) h (fun h => ?_) (fun h => ?_)
  · obtain rfl := Option.some.inj h
    exact j_sub (ls' := [none, none, none, none, none]) ⟨Or.inl rfl, Or.inl rfl, Or.inl rfl, Or.inl rfl, Or.inl rfl, trivial⟩ kk
  · refine j_aload_n X 0 dX2_fillPowers_12 rfl rfl ?_
    refine j_getR (t := 85) X fg_RX2_25 ln_80 ly_80 rfl dX2_fillPowers_13 ?_
    refine j_iload X dX2_fillPowers_16 rfl ?_
    refine j_lload_n X 2 dX2_fillPowers_18 rfl rfl ?_
    refine j_lastore X ln_85 ly_85 dX2_fillPowers_19 h (fun σ1 h => ?_)
    refine j_lload_n X 2 dX2_fillPowers_20 rfl rfl ?_
    refine j_iload_n X 1 dX2_fillPowers_21 rfl rfl ?_
    refine j_i2l X dX2_fillPowers_22 ?_
    refine j_lmul X dX2_fillPowers_23 ?_
    refine j_letL h (fun v2 h => ?_)
    refine j_lstore_n (ls' := [some (.ref 80), some (.int p1), some (.long v2), none, some (.int x4)]) X 2 dX2_fillPowers_24 rfl (Nat.le_of_ble_eq_true rfl) rfl ?_
    refine j_iinc (v := (x4 + 1)) (ls' := [some (.ref 80), some (.int p1), some (.long v2), none, some (.int (x4 + 1))]) X dX2_fillPowers_25 rfl rfl (Nat.le_of_ble_eq_true rfl) rfl ?_
    refine j_goto (tgt := 5) X dX2_fillPowers_28 (by decide) ?_
    exact ih (v2, (x4 + 1)) σ1 _ h kk
theorem X2_fillPowers_L5_ok {K : jK} (X : JX K cX2_fillPowers 5 RX2 0 0) {p1 : Int32}  : ∀ (n : Nat) (s : Int64 × Int32) (σ : jMem) (o : (Unit) × jMem), X2_fillPowers_L5 p1 n s σ = some o → (J K 31 [none, none, none, none, none] [] o.2) → J K 5 [some (.ref 80), some (.int p1), some (.long s.1), none, some (.int s.2)] [] σ := by
  intro n
  induction n with
  | zero => intro s σ o h; cases h
  | succ n ih => intro s σ o h; exact X2_fillPowers_L5_bok X  ih (s.1) (s.2) σ o h
def f_X2_fillPowers (a0 : Int32) (σ : jMem) : Option jMem :=
  jbd (X2_fillPowers_L5 (a0) jFU ((1 : Int64), (0 : Int32)) σ) (fun q3 σ4 =>
  some σ4)
set_option maxRecDepth 100000 in
set_option maxHeartbeats 4000000 in
theorem c_X2_fillPowers {l : Launch} {D : va_G} {ad : Nat → Nat} {cid : Nat → ClassId} {a0 : Int32}  {σ : jMem} {σ' : jMem} (h : f_X2_fillPowers a0 σ = some σ') : jMet l D ad cid yX2_fillPowers cX2_fillPowers 5 none 0 0 [.ref 80, .int a0] σ none σ' := by
  refine jMet_of (ls0 := [some (.ref 80), some (.int a0), none, none, none]) (by decide) (Nat.le_of_ble_eq_true rfl) rfl (fun K X R0 _ => ?_)
  unfold f_X2_fillPowers at h
  refine j_lconst (v := 1) X dX2_fillPowers_0 (by decide) ?_
  refine j_lstore_n (ls' := [some (.ref 80), some (.int a0), some (.long (1 : Int64)), none, none]) X 2 dX2_fillPowers_1 rfl (Nat.le_of_ble_eq_true rfl) rfl ?_
  refine j_iconst (v := 0) X dX2_fillPowers_2 (by decide) ?_
  refine j_istore (ls' := [some (.ref 80), some (.int a0), some (.long (1 : Int64)), none, some (.int (0 : Int32))]) X dX2_fillPowers_3 (Nat.le_of_ble_eq_true rfl) rfl ?_
  obtain ⟨q3, σ4, hL5, h⟩ := jbd_some h
  refine X2_fillPowers_L5_ok X  jFU ((1 : Int64), (0 : Int32)) σ _ hL5 ?_
  obtain rfl := Option.some.inj h
  exact j_vret X R0 dX2_fillPowers_31
