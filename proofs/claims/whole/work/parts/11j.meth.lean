def X5_waysBehind_L4_b (p0 : Nat) (rec : Int32 × Int32 → jMem → Option ((Int32) × jMem)) (x2 : Int32) (x3 : Int32) (σ : jMem) : Option ((Int32) × jMem) :=
  if (σ.1 p0 6) ≤ x3 then
  some (x2, σ)
else
  jbd (f_X5_swears p0 x3 σ) (fun v1 σ2 =>
  jbd (f_X5_seenBy p0 x3 σ2) (fun v4 σ5 =>
  jlet ((x2 ||| (v1 ||| v4))) (fun v7 =>
  rec (v7, (x3 + 1)) σ5)))
def X5_waysBehind_L4 (p0 : Nat) : Nat → Int32 × Int32 → jMem → Option ((Int32) × jMem) := jloop (fun rec s σ => X5_waysBehind_L4_b p0 rec s.1 s.2 σ)
set_option maxRecDepth 100000 in
set_option maxHeartbeats 4000000 in
theorem X5_waysBehind_L4_bok {K : jK} (X : JX K cX5_waysBehind 4 RX5 4 92) {p0 : Nat} (hp0 : jisP p0) {rec : Int32 × Int32 → jMem → Option ((Int32) × jMem)} (ih : ∀ (s : Int32 × Int32) (σ : jMem) (o : (Int32) × jMem), rec s σ = some o → (J K 33 [none, none, some (.int o.1), none] [] o.2) → J K 4 [some (.ref p0), some (.ref 80), some (.int s.1), some (.int s.2)] [] σ) : ∀ (x2 : Int32) (x3 : Int32) (σ : jMem) (o : (Int32) × jMem), X5_waysBehind_L4_b p0 rec x2 x3 σ = some o → (J K 33 [none, none, some (.int o.1), none] [] o.2) → J K 4 [some (.ref p0), some (.ref 80), some (.int x2), some (.int x3)] [] σ := by
  intro x2 x3 σ o h kk
  unfold X5_waysBehind_L4_b at h
  refine j_iload_n X 3 dX5_waysBehind_4 rfl rfl ?_
  refine j_aload_n X 0 dX5_waysBehind_5 rfl rfl ?_
  refine j_getI X fg_RX5_44 (jp_lt hp0) (jp_ly hp0) rfl dX5_waysBehind_6 ?_
  refine j_icmp_ge (tgt := 33) X dX5_waysBehind_9 (by decide) h (fun h => ?_) (fun h => ?_)
  · obtain rfl := Option.some.inj h
    exact j_sub (ls' := [none, none, some (.int x2), none]) ⟨Or.inl rfl, Or.inl rfl, Or.inr rfl, Or.inl rfl, trivial⟩ kk
  · refine j_iload_n X 2 dX5_waysBehind_12 rfl rfl ?_
    refine j_aload_n X 0 dX5_waysBehind_13 rfl rfl ?_
    refine j_iload_n X 3 dX5_waysBehind_14 rfl rfl ?_
    obtain ⟨v1, σ2, hm3, h⟩ := jbd_some h
    refine j_callV (as := [.int x3]) (st := [.int x2]) (st1 := [.int v1, .int x2]) X (jp_lt hp0) (jp_ly hp0) rfl rfl sv_RX5_83 ⟨by decide, by decide⟩ rfl rfl (Nat.le_of_ble_eq_true rfl) rfl dX5_waysBehind_15 jrv_i (c_X5_swears hp0 hm3) rfl ?_
    refine j_aload_n X 0 dX5_waysBehind_18 rfl rfl ?_
    refine j_iload_n X 3 dX5_waysBehind_19 rfl rfl ?_
    refine j_aload_n X 1 dX5_waysBehind_20 rfl rfl ?_
    obtain ⟨v4, σ5, hm6, h⟩ := jbd_some h
    refine j_callV (as := [.int x3, .ref 80]) (st := [.int v1, .int x2]) (st1 := [.int v4, .int v1, .int x2]) X (jp_lt hp0) (jp_ly hp0) rfl rfl sv_RX5_97 ⟨by decide, by decide⟩ rfl rfl (Nat.le_of_ble_eq_true rfl) rfl dX5_waysBehind_21 jrv_i (c_X5_seenBy hp0 hm6) rfl ?_
    refine j_ior X dX5_waysBehind_24 ?_
    refine j_ior X dX5_waysBehind_25 ?_
    refine j_letI h (fun v7 h => ?_)
    refine j_istore_n (ls' := [some (.ref p0), some (.ref 80), some (.int v7), some (.int x3)]) X 2 dX5_waysBehind_26 rfl (Nat.le_of_ble_eq_true rfl) rfl ?_
    refine j_iinc (v := (x3 + 1)) (ls' := [some (.ref p0), some (.ref 80), some (.int v7), some (.int (x3 + 1))]) X dX5_waysBehind_27 rfl rfl (Nat.le_of_ble_eq_true rfl) rfl ?_
    refine j_goto (tgt := 4) X dX5_waysBehind_30 (by decide) ?_
    exact ih (v7, (x3 + 1)) σ5 _ h kk
theorem X5_waysBehind_L4_ok {K : jK} (X : JX K cX5_waysBehind 4 RX5 4 92) {p0 : Nat} (hp0 : jisP p0) : ∀ (n : Nat) (s : Int32 × Int32) (σ : jMem) (o : (Int32) × jMem), X5_waysBehind_L4 p0 n s σ = some o → (J K 33 [none, none, some (.int o.1), none] [] o.2) → J K 4 [some (.ref p0), some (.ref 80), some (.int s.1), some (.int s.2)] [] σ := by
  intro n
  induction n with
  | zero => intro s σ o h; cases h
  | succ n ih => intro s σ o h; exact X5_waysBehind_L4_bok X hp0 ih (s.1) (s.2) σ o h
def f_X5_waysBehind (k : Nat) (σ : jMem) : Option (Int32 × jMem) :=
  jbd (X5_waysBehind_L4 (k) jFU ((0 : Int32), (0 : Int32)) σ) (fun q8 σ9 =>
  some ((q8, σ9)))
set_option maxRecDepth 100000 in
set_option maxHeartbeats 4000000 in
theorem c_X5_waysBehind {l : Launch} {D : va_G} {ad : Nat → Nat} {cid : Nat → ClassId} {k : Nat} (hk : jisP k) {σ : jMem} {r : Int32} {σ' : jMem} (h : f_X5_waysBehind k σ = some (r, σ')) : jMet l D ad cid yX5_waysBehind cX5_waysBehind 4 (some .int) 4 92 [.ref k, .ref 80] σ (some (.int r)) σ' := by
  refine jMet_of (ls0 := [some (.ref k), some (.ref 80), none, none]) (by decide) (Nat.le_of_ble_eq_true rfl) rfl (fun K X R0 _ => ?_)
  unfold f_X5_waysBehind at h
  refine j_iconst (v := 0) X dX5_waysBehind_0 (by decide) ?_
  refine j_istore_n (ls' := [some (.ref k), some (.ref 80), some (.int (0 : Int32)), none]) X 2 dX5_waysBehind_1 rfl (Nat.le_of_ble_eq_true rfl) rfl ?_
  refine j_iconst (v := 0) X dX5_waysBehind_2 (by decide) ?_
  refine j_istore_n (ls' := [some (.ref k), some (.ref 80), some (.int (0 : Int32)), some (.int (0 : Int32))]) X 3 dX5_waysBehind_3 rfl (Nat.le_of_ble_eq_true rfl) rfl ?_
  obtain ⟨q8, σ9, hL10, h⟩ := jbd_some h
  refine X5_waysBehind_L4_ok X hk jFU ((0 : Int32), (0 : Int32)) σ _ hL10 ?_
  refine j_iload_n X 2 dX5_waysBehind_33 rfl rfl ?_
  obtain ⟨rfl, rfl⟩ := jin2 h
  exact j_iret X R0 dX5_waysBehind_34
theorem sv_RX11_282 : jSiV RX11 282 yX5_waysBehind cX5_waysBehind 4 (some .int) 1 := ⟨tw_689, tw_690, tw_691, tw_10, tw_692, by decide, by decide, by decide +kernel⟩
def f_X11_newWays (a0 : Int32) (σ : jMem) : Option (Int32 × jMem) :=
  jbd (f_X2_isBurial 22 a0 σ) (fun v1 σ2 =>
  if ¬ v1 = 0 then
  jbd (f_X5_waysBehind 22 σ2) (fun v4 σ5 =>
  jbd (f_X5_ways 22 σ5) (fun v7 σ8 =>
  jbd (f_J6_bitCount_0f7a4 (v4 &&& (v7 ^^^ (-1 : Int32))) σ8) (fun v10 σ11 =>
  some ((v10, σ11)))))
else
  some (((-1000000 : Int32), σ2)))
set_option maxRecDepth 100000 in
set_option maxHeartbeats 4000000 in
theorem c_X11_newWays {l : Launch} {D : va_G} {ad : Nat → Nat} {cid : Nat → ClassId} {a0 : Int32}  {σ : jMem} {r : Int32} {σ' : jMem} (h : f_X11_newWays a0 σ = some (r, σ')) : jMet l D ad cid yX11_newWays cX11_newWays 2 (some .int) 5 115 [.ref 0, .int a0] σ (some (.int r)) σ' := by
  refine jMet_of (ls0 := [some (.ref 0), some (.int a0)]) (by decide) (Nat.le_of_ble_eq_true rfl) rfl (fun K X R0 _ => ?_)
  unfold f_X11_newWays at h
  refine j_aload_n X 0 dX11_newWays_0 rfl rfl ?_
  refine j_getR (t := 80) X fg_RX11_69 ln_0 ly_0 rfl dX11_newWays_1 ?_
  refine j_aload_n X 0 dX11_newWays_4 rfl rfl ?_
  refine j_getR (t := 22) X fg_RX11_50 ln_0 ly_0 rfl dX11_newWays_5 ?_
  refine j_iload_n X 1 dX11_newWays_8 rfl rfl ?_
  obtain ⟨v1, σ2, hm3, h⟩ := jbd_some h
  refine j_callV (as := [.ref 22, .int a0]) (st := []) (st1 := [.int v1]) X ln_80 ly_80 rfl rfl sv_RX11_177 ⟨by decide, by decide⟩ rfl rfl (Nat.le_of_ble_eq_true rfl) rfl dX11_newWays_9 jrv_i (c_X2_isBurial jisP_22 hm3) rfl ?_
  refine j_if_ne (tgt := 18) X dX11_newWays_12 (by decide) h (fun h => ?_) (fun h => ?_)
  · refine j_aload_n X 0 dX11_newWays_18 rfl rfl ?_
    refine j_getR (t := 22) X fg_RX11_50 ln_0 ly_0 rfl dX11_newWays_19 ?_
    refine j_aload_n X 0 dX11_newWays_22 rfl rfl ?_
    refine j_getR (t := 80) X fg_RX11_69 ln_0 ly_0 rfl dX11_newWays_23 ?_
    obtain ⟨v4, σ5, hm6, h⟩ := jbd_some h
    refine j_callV (as := [.ref 80]) (st := []) (st1 := [.int v4]) X ln_22 ly_22 rfl rfl sv_RX11_282 ⟨by decide, by decide⟩ rfl rfl (Nat.le_of_ble_eq_true rfl) rfl dX11_newWays_26 jrv_i (c_X5_waysBehind jisP_22 hm6) rfl ?_
    refine j_aload_n X 0 dX11_newWays_29 rfl rfl ?_
    refine j_getR (t := 22) X fg_RX11_50 ln_0 ly_0 rfl dX11_newWays_30 ?_
    obtain ⟨v7, σ8, hm9, h⟩ := jbd_some h
    refine j_callV (as := []) (st := [.int v4]) (st1 := [.int v7, .int v4]) X ln_22 ly_22 rfl rfl sv_RX11_188 ⟨by decide, by decide⟩ rfl rfl (Nat.le_of_ble_eq_true rfl) rfl dX11_newWays_33 jrv_i (c_X5_ways jisP_22 hm9) rfl ?_
    refine j_iconst (v := -1) X dX11_newWays_36 (by decide) ?_
    refine j_ixor X dX11_newWays_37 ?_
    refine j_iand X dX11_newWays_38 ?_
    obtain ⟨v10, σ11, hm12, h⟩ := jbd_some h
    refine j_callS (as := [.int (v4 &&& (v7 ^^^ (-1 : Int32)))]) (st := []) (st1 := [.int v10]) X ss_RX11_265 ⟨by decide, by decide⟩ rfl rfl (Nat.le_of_ble_eq_true rfl) rfl dX11_newWays_39 jrv_i (c_J6_bitCount_0f7a4  hm12) rfl ?_
    obtain ⟨rfl, rfl⟩ := jin2 h
    exact j_iret X R0 dX11_newWays_42
  · refine j_ldc (v := -1000000) X tw_646 dX11_newWays_15 ?_
    obtain ⟨rfl, rfl⟩ := jin2 h
    exact j_iret X R0 dX11_newWays_17
theorem sv_RX11_279 : jSiV RX11 279 yX11_newWays cX11_newWays 2 (some .int) 1 := ⟨tw_685, tw_687, ts_15, tw_1, tw_688, by decide, by decide, by decide +kernel⟩
def f_X11_makes (a0 : Int32) (σ : jMem) : Option (Int32 × jMem) :=
  if ¬ (σ.1 22 1) = 0 then
  jbd (f_X11_isField a0 σ) (fun v1 σ2 =>
  if v1 = 0 then
  some (((-1000001 : Int32), σ2))
else
  jbd (f_X11_newWays a0 σ2) (fun v4 σ5 =>
  some ((v4, σ5))))
else
  some (((-1000002 : Int32), σ))
set_option maxRecDepth 100000 in
set_option maxHeartbeats 4000000 in
theorem c_X11_makes {l : Launch} {D : va_G} {ad : Nat → Nat} {cid : Nat → ClassId} {a0 : Int32}  {σ : jMem} {r : Int32} {σ' : jMem} (h : f_X11_makes a0 σ = some (r, σ')) : jMet l D ad cid yX11_makes cX11_makes 2 (some .int) 6 136 [.ref 0, .int a0] σ (some (.int r)) σ' := by
  refine jMet_of (ls0 := [some (.ref 0), some (.int a0)]) (by decide) (Nat.le_of_ble_eq_true rfl) rfl (fun K X R0 _ => ?_)
  unfold f_X11_makes at h
  refine j_aload_n X 0 dX11_makes_0 rfl rfl ?_
  refine j_getR (t := 22) X fg_RX11_50 ln_0 ly_0 rfl dX11_makes_1 ?_
  refine j_getI X fg_RX11_170 ln_22 ly_22 rfl dX11_makes_4 ?_
  refine j_if_ne (tgt := 13) X dX11_makes_7 (by decide) h (fun h => ?_) (fun h => ?_)
  · refine j_iload_n X 1 dX11_makes_13 rfl rfl ?_
    obtain ⟨v1, σ2, hm3, h⟩ := jbd_some h
    refine j_callS (as := [.int a0]) (st := []) (st1 := [.int v1]) X ss_RX11_174 ⟨by decide, by decide⟩ rfl rfl (Nat.le_of_ble_eq_true rfl) rfl dX11_makes_14 jrv_i (c_X11_isField  hm3) rfl ?_
    refine j_if_eq (tgt := 28) X dX11_makes_17 (by decide) h (fun h => ?_) (fun h => ?_)
    · refine j_ldc (v := -1000001) X tw_318 dX11_makes_28 ?_
      obtain ⟨rfl, rfl⟩ := jin2 h
      exact j_iret X R0 dX11_makes_30
    · refine j_aload_n X 0 dX11_makes_20 rfl rfl ?_
      refine j_iload_n X 1 dX11_makes_21 rfl rfl ?_
      obtain ⟨v4, σ5, hm6, h⟩ := jbd_some h
      refine j_callV (as := [.int a0]) (st := []) (st1 := [.int v4]) X ln_0 ly_0 rfl rfl sv_RX11_279 ⟨by decide, by decide⟩ rfl rfl (Nat.le_of_ble_eq_true rfl) rfl dX11_makes_22 jrv_i (c_X11_newWays  hm6) rfl ?_
      refine j_goto (tgt := 30) X dX11_makes_25 (by decide) ?_
      obtain ⟨rfl, rfl⟩ := jin2 h
      exact j_iret X R0 dX11_makes_30
  · refine j_ldc (v := -1000002) X tw_458 dX11_makes_10 ?_
    obtain ⟨rfl, rfl⟩ := jin2 h
    exact j_iret X R0 dX11_makes_12
