theorem sv_RX2_105 : jSiV RX2 105 yX2_casesParted cX2_casesParted 5 (some .long) 2 := ⟨tw_741, tw_743, ts_20, tw_11, tw_744, by decide, by decide, by decide +kernel⟩
def X2_casesJoined_L18_b (p1 : Int32) (p2 : Int32) (rec : Int64 × Int32 × Int32 → jMem → Option ((Int64) × jMem)) (x3 : Int64) (x5 : Int32) (x6 : Int32) (σ : jMem) : Option ((Int64) × jMem) :=
  if (256 : Int32) ≤ x6 then
  some (x3, σ)
else
  if x5 = 0 then
  some (x3, σ)
else
  jlet (((x5 - (1 : Int32)) &&& p1)) (fun v3 =>
  jbd (f_X11_bitOf v3 p2 σ) (fun v4 σ5 =>
  if ¬ v4 = (1 : Int32) then
  rec (x3, v3, (x6 + 1)) σ5
else
  jbd (f_X2_casesParted v3 p1 σ5) (fun v7 σ8 =>
  jlet ((x3 - v7)) (fun v10 =>
  rec (v10, v3, (x6 + 1)) σ8))))
def X2_casesJoined_L18 (p1 : Int32) (p2 : Int32) : Nat → Int64 × Int32 × Int32 → jMem → Option ((Int64) × jMem) := jloop (fun rec s σ => X2_casesJoined_L18_b p1 p2 rec s.1 s.2.1 s.2.2 σ)
set_option maxRecDepth 100000 in
set_option maxHeartbeats 4000000 in
theorem X2_casesJoined_L18_bok {K : jK} (X : JX K cX2_casesJoined 7 RX2 1 24) {p1 : Int32} {p2 : Int32}  {rec : Int64 × Int32 × Int32 → jMem → Option ((Int64) × jMem)} (ih : ∀ (s : Int64 × Int32 × Int32) (σ : jMem) (o : (Int64) × jMem), rec s σ = some o → (J K 65 [none, none, none, some (.long o.1), none, none, none] [] o.2) → J K 18 [some (.ref 80), some (.int p1), some (.int p2), some (.long s.1), none, some (.int s.2.1), some (.int s.2.2)] [] σ) : ∀ (x3 : Int64) (x5 : Int32) (x6 : Int32) (σ : jMem) (o : (Int64) × jMem), X2_casesJoined_L18_b p1 p2 rec x3 x5 x6 σ = some o → (J K 65 [none, none, none, some (.long o.1), none, none, none] [] o.2) → J K 18 [some (.ref 80), some (.int p1), some (.int p2), some (.long x3), none, some (.int x5), some (.int x6)] [] σ := by
  intro x3 x5 x6 σ o h kk
  unfold X2_casesJoined_L18_b at h
  refine j_iload X dX2_casesJoined_18 rfl ?_
  refine j_sipush (v := 256) X dX2_casesJoined_20 (by decide) ?_
  refine j_icmp_ge (tgt := 65) X dX2_casesJoined_23 (by decide) h (fun h => ?_) (fun h => ?_)
  · obtain rfl := Option.some.inj h
    exact j_sub (ls' := [none, none, none, some (.long x3), none, none, none]) ⟨Or.inl rfl, Or.inl rfl, Or.inl rfl, Or.inr rfl, Or.inl rfl, Or.inl rfl, Or.inl rfl, trivial⟩ kk
  · refine j_iload X dX2_casesJoined_26 rfl ?_
    refine j_if_eq (tgt := 65) X dX2_casesJoined_28 (by decide) h (fun h => ?_) (fun h => ?_)
    · obtain rfl := Option.some.inj h
      exact j_sub (ls' := [none, none, none, some (.long x3), none, none, none]) ⟨Or.inl rfl, Or.inl rfl, Or.inl rfl, Or.inr rfl, Or.inl rfl, Or.inl rfl, Or.inl rfl, trivial⟩ kk
    · refine j_iload X dX2_casesJoined_31 rfl ?_
      refine j_iconst (v := 1) X dX2_casesJoined_33 (by decide) ?_
      refine j_isub X dX2_casesJoined_34 ?_
      refine j_iload_n X 1 dX2_casesJoined_35 rfl rfl ?_
      refine j_iand X dX2_casesJoined_36 ?_
      refine j_letI h (fun v3 h => ?_)
      refine j_istore (ls' := [some (.ref 80), some (.int p1), some (.int p2), some (.long x3), none, some (.int v3), some (.int x6)]) X dX2_casesJoined_37 (Nat.le_of_ble_eq_true rfl) rfl ?_
      refine j_iload X dX2_casesJoined_39 rfl ?_
      refine j_iload_n X 2 dX2_casesJoined_41 rfl rfl ?_
      obtain ⟨v4, σ5, hm6, h⟩ := jbd_some h
      refine j_callN (as := [.int v3, .int p2]) (st := []) (st1 := [.int v4]) X sn_RX2_68 ⟨by decide, by decide⟩ rfl rfl (Nat.le_of_ble_eq_true rfl) rfl dX2_casesJoined_42 jrv_i (c_X11_bitOf  hm6) rfl ?_
      refine j_iconst (v := 1) X dX2_casesJoined_45 (by decide) ?_
      refine j_icmp_ne (tgt := 59) X dX2_casesJoined_46 (by decide) h (fun h => ?_) (fun h => ?_)
      · refine j_iinc (v := (x6 + 1)) (ls' := [some (.ref 80), some (.int p1), some (.int p2), some (.long x3), none, some (.int v3), some (.int (x6 + 1))]) X dX2_casesJoined_59 rfl rfl (Nat.le_of_ble_eq_true rfl) rfl ?_
        refine j_goto (tgt := 18) X dX2_casesJoined_62 (by decide) ?_
        exact ih (x3, v3, (x6 + 1)) σ5 _ h kk
      · refine j_lload_n X 3 dX2_casesJoined_49 rfl rfl ?_
        refine j_aload_n X 0 dX2_casesJoined_50 rfl rfl ?_
        refine j_iload X dX2_casesJoined_51 rfl ?_
        refine j_iload_n X 1 dX2_casesJoined_53 rfl rfl ?_
        obtain ⟨v7, σ8, hm9, h⟩ := jbd_some h
        refine j_callV (as := [.int v3, .int p1]) (st := [.long x3]) (st1 := [.long v7, .long x3]) X ln_80 ly_80 rfl rfl sv_RX2_105 ⟨by decide, by decide⟩ rfl rfl (Nat.le_of_ble_eq_true rfl) rfl dX2_casesJoined_54 jrv_l (c_X2_casesParted  hm9) rfl ?_
        refine j_lsub X dX2_casesJoined_57 ?_
        refine j_letL h (fun v10 h => ?_)
        refine j_lstore_n (ls' := [some (.ref 80), some (.int p1), some (.int p2), some (.long v10), none, some (.int v3), some (.int x6)]) X 3 dX2_casesJoined_58 rfl (Nat.le_of_ble_eq_true rfl) rfl ?_
        refine j_iinc (v := (x6 + 1)) (ls' := [some (.ref 80), some (.int p1), some (.int p2), some (.long v10), none, some (.int v3), some (.int (x6 + 1))]) X dX2_casesJoined_59 rfl rfl (Nat.le_of_ble_eq_true rfl) rfl ?_
        refine j_goto (tgt := 18) X dX2_casesJoined_62 (by decide) ?_
        exact ih (v10, v3, (x6 + 1)) σ8 _ h kk
theorem X2_casesJoined_L18_ok {K : jK} (X : JX K cX2_casesJoined 7 RX2 1 24) {p1 : Int32} {p2 : Int32}  : ∀ (n : Nat) (s : Int64 × Int32 × Int32) (σ : jMem) (o : (Int64) × jMem), X2_casesJoined_L18 p1 p2 n s σ = some o → (J K 65 [none, none, none, some (.long o.1), none, none, none] [] o.2) → J K 18 [some (.ref 80), some (.int p1), some (.int p2), some (.long s.1), none, some (.int s.2.1), some (.int s.2.2)] [] σ := by
  intro n
  induction n with
  | zero => intro s σ o h; cases h
  | succ n ih => intro s σ o h; exact X2_casesJoined_L18_bok X  ih (s.1) (s.2.1) (s.2.2) σ o h
def f_X2_casesJoined (a0 : Int32) (a1 : Int32) (σ : jMem) : Option (Int64 × jMem) :=
  jld σ 82 256 a0 (fun v1 =>
  jldL σ 84 13 v1 (fun v2 =>
  jbd (X2_casesJoined_L18 (a0) (a1) jFU (v2, a0, (0 : Int32)) σ) (fun q11 σ12 =>
  some ((q11, σ12)))))
set_option maxRecDepth 100000 in
set_option maxHeartbeats 4000000 in
theorem c_X2_casesJoined {l : Launch} {D : va_G} {ad : Nat → Nat} {cid : Nat → ClassId} {a0 : Int32} {a1 : Int32}  {σ : jMem} {r : Int64} {σ' : jMem} (h : f_X2_casesJoined a0 a1 σ = some (r, σ')) : jMet l D ad cid yX2_casesJoined cX2_casesJoined 7 (some .long) 1 24 [.ref 80, .int a0, .int a1] σ (some (.long r)) σ' := by
  refine jMet_of (ls0 := [some (.ref 80), some (.int a0), some (.int a1), none, none, none, none]) (by decide) (Nat.le_of_ble_eq_true rfl) rfl (fun K X R0 _ => ?_)
  unfold f_X2_casesJoined at h
  refine j_aload_n X 0 dX2_casesJoined_0 rfl rfl ?_
  refine j_getR (t := 84) X fg_RX2_22 ln_80 ly_80 rfl dX2_casesJoined_1 ?_
  refine j_aload_n X 0 dX2_casesJoined_4 rfl rfl ?_
  refine j_getR (t := 82) X fg_RX2_15 ln_80 ly_80 rfl dX2_casesJoined_5 ?_
  refine j_iload_n X 1 dX2_casesJoined_8 rfl rfl ?_
  refine j_iaload X ln_82 ly_82 dX2_casesJoined_9 h (fun v1 h => ?_)
  refine j_laload X ln_84 ly_84 dX2_casesJoined_10 h (fun v2 h => ?_)
  refine j_lstore_n (ls' := [some (.ref 80), some (.int a0), some (.int a1), some (.long v2), none, none, none]) X 3 dX2_casesJoined_11 rfl (Nat.le_of_ble_eq_true rfl) rfl ?_
  refine j_iload_n X 1 dX2_casesJoined_12 rfl rfl ?_
  refine j_istore (ls' := [some (.ref 80), some (.int a0), some (.int a1), some (.long v2), none, some (.int a0), none]) X dX2_casesJoined_13 (Nat.le_of_ble_eq_true rfl) rfl ?_
  refine j_iconst (v := 0) X dX2_casesJoined_15 (by decide) ?_
  refine j_istore (ls' := [some (.ref 80), some (.int a0), some (.int a1), some (.long v2), none, some (.int a0), some (.int (0 : Int32))]) X dX2_casesJoined_16 (Nat.le_of_ble_eq_true rfl) rfl ?_
  obtain ⟨q11, σ12, hL13, h⟩ := jbd_some h
  refine X2_casesJoined_L18_ok X  jFU (v2, a0, (0 : Int32)) σ _ hL13 ?_
  refine j_lload_n X 3 dX2_casesJoined_65 rfl rfl ?_
  obtain ⟨rfl, rfl⟩ := jin2 h
  exact j_lret X R0 dX2_casesJoined_66
def X2_fillPowers_L5_b (p1 : Int32) (rec : Int64 × Int32 → jMem → Option ((Unit) × jMem)) (x2 : Int64) (x4 : Int32) (σ : jMem) : Option ((Unit) × jMem) :=
  if (12 : Int32) < x4 then
  some ((), σ)
else
  jstL σ 85 13 x4 x2 (fun σ1 =>
  jlet ((x2 * ((p1).toInt64))) (fun v2 =>
  rec (v2, (x4 + 1)) σ1))
def X2_fillPowers_L5 (p1 : Int32) : Nat → Int64 × Int32 → jMem → Option ((Unit) × jMem) := jloop (fun rec s σ => X2_fillPowers_L5_b p1 rec s.1 s.2 σ)
set_option maxRecDepth 100000 in
set_option maxHeartbeats 4000000 in
theorem X2_fillPowers_L5_bok {K : jK} (X : JX K cX2_fillPowers 5 RX2 0 0) {p1 : Int32}  {rec : Int64 × Int32 → jMem → Option ((Unit) × jMem)} (ih : ∀ (s : Int64 × Int32) (σ : jMem) (o : (Unit) × jMem), rec s σ = some o → (J K 31 [none, none, none, none, none] [] o.2) → J K 5 [some (.ref 80), some (.int p1), some (.long s.1), none, some (.int s.2)] [] σ) : ∀ (x2 : Int64) (x4 : Int32) (σ : jMem) (o : (Unit) × jMem), X2_fillPowers_L5_b p1 rec x2 x4 σ = some o → (J K 31 [none, none, none, none, none] [] o.2) → J K 5 [some (.ref 80), some (.int p1), some (.long x2), none, some (.int x4)] [] σ := by
  intro x2 x4 σ o h kk
  unfold X2_fillPowers_L5_b at h
  refine j_iload X dX2_fillPowers_5 rfl ?_
  refine j_bipush (v := 12) X dX2_fillPowers_7 (by decide) ?_
  refine j_icmp_gt (tgt := 31) X dX2_fillPowers_9 (by decide) h (fun h => ?_) (fun h => ?_)
  · obtain rfl := Option.some.inj h
    exact j_sub (ls' := [none, none, none, none, none]) ⟨Or.inl rfl, Or.inl rfl, Or.inl rfl, Or.inl rfl, Or.inl rfl, trivial⟩ kk
  · refine j_aload_n X 0 dX2_fillPowers_12 rfl rfl ?_
    refine j_getR (t := 85) X fg_RX2_25 ln_80 ly_80 rfl dX2_fillPowers_13 ?_
    refine j_iload X dX2_fillPowers_16 rfl ?_
    refine j_lload_n X 2 dX2_fillPowers_18 rfl rfl ?_
    refine j_lastore X ln_85 ly_85 dX2_fillPowers_19 h (fun σ1 h => ?_)
    refine j_lload_n X 2 dX2_fillPowers_20 rfl rfl ?_
    refine j_iload_n X 1 dX2_fillPowers_21 rfl rfl ?_
    refine j_i2l X dX2_fillPowers_22 ?_
    refine j_lmul X dX2_fillPowers_23 ?_
    refine j_letL h (fun v2 h => ?_)
    refine j_lstore_n (ls' := [some (.ref 80), some (.int p1), some (.long v2), none, some (.int x4)]) X 2 dX2_fillPowers_24 rfl (Nat.le_of_ble_eq_true rfl) rfl ?_
    refine j_iinc (v := (x4 + 1)) (ls' := [some (.ref 80), some (.int p1), some (.long v2), none, some (.int (x4 + 1))]) X dX2_fillPowers_25 rfl rfl (Nat.le_of_ble_eq_true rfl) rfl ?_
    refine j_goto (tgt := 5) X dX2_fillPowers_28 (by decide) ?_
    exact ih (v2, (x4 + 1)) σ1 _ h kk
theorem X2_fillPowers_L5_ok {K : jK} (X : JX K cX2_fillPowers 5 RX2 0 0) {p1 : Int32}  : ∀ (n : Nat) (s : Int64 × Int32) (σ : jMem) (o : (Unit) × jMem), X2_fillPowers_L5 p1 n s σ = some o → (J K 31 [none, none, none, none, none] [] o.2) → J K 5 [some (.ref 80), some (.int p1), some (.long s.1), none, some (.int s.2)] [] σ := by
  intro n
  induction n with
  | zero => intro s σ o h; cases h
  | succ n ih => intro s σ o h; exact X2_fillPowers_L5_bok X  ih (s.1) (s.2) σ o h
def f_X2_fillPowers (a0 : Int32) (σ : jMem) : Option jMem :=
  jbd (X2_fillPowers_L5 (a0) jFU ((1 : Int64), (0 : Int32)) σ) (fun q3 σ4 =>
  some σ4)
set_option maxRecDepth 100000 in
set_option maxHeartbeats 4000000 in
theorem c_X2_fillPowers {l : Launch} {D : va_G} {ad : Nat → Nat} {cid : Nat → ClassId} {a0 : Int32}  {σ : jMem} {σ' : jMem} (h : f_X2_fillPowers a0 σ = some σ') : jMet l D ad cid yX2_fillPowers cX2_fillPowers 5 none 0 0 [.ref 80, .int a0] σ none σ' := by
  refine jMet_of (ls0 := [some (.ref 80), some (.int a0), none, none, none]) (by decide) (Nat.le_of_ble_eq_true rfl) rfl (fun K X R0 _ => ?_)
  unfold f_X2_fillPowers at h
  refine j_lconst (v := 1) X dX2_fillPowers_0 (by decide) ?_
  refine j_lstore_n (ls' := [some (.ref 80), some (.int a0), some (.long (1 : Int64)), none, none]) X 2 dX2_fillPowers_1 rfl (Nat.le_of_ble_eq_true rfl) rfl ?_
  refine j_iconst (v := 0) X dX2_fillPowers_2 (by decide) ?_
  refine j_istore (ls' := [some (.ref 80), some (.int a0), some (.long (1 : Int64)), none, some (.int (0 : Int32))]) X dX2_fillPowers_3 (Nat.le_of_ble_eq_true rfl) rfl ?_
  obtain ⟨q3, σ4, hL5, h⟩ := jbd_some h
  refine X2_fillPowers_L5_ok X  jFU ((1 : Int64), (0 : Int32)) σ _ hL5 ?_
  obtain rfl := Option.some.inj h
  exact j_vret X R0 dX2_fillPowers_31
