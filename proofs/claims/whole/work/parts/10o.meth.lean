def X5_waysBehind_L4_b (p0 : Nat) (rec : Int32 × Int32 → jMem → Option ((Int32) × jMem)) (x2 : Int32) (x3 : Int32) (σ : jMem) : Option ((Int32) × jMem) :=
  if (σ.1 p0 6) ≤ x3 then
  some (x2, σ)
else
  jbd (f_X5_swears p0 x3 σ) (fun v1 σ2 =>
  jbd (f_X5_seenBy p0 x3 σ2) (fun v4 σ5 =>
  jlet ((x2 ||| (v1 ||| v4))) (fun v7 =>
  rec (v7, (x3 + 1)) σ5)))
def X5_waysBehind_L4 (p0 : Nat) : Nat → Int32 × Int32 → jMem → Option ((Int32) × jMem) := jloop (fun rec s σ => X5_waysBehind_L4_b p0 rec s.1 s.2 σ)
set_option maxRecDepth 100000 in
set_option maxHeartbeats 4000000 in
theorem X5_waysBehind_L4_bok {K : jK} (X : JX K cX5_waysBehind 4 RX5 4 92) {p0 : Nat} (hp0 : jisP p0) {rec : Int32 × Int32 → jMem → Option ((Int32) × jMem)} (ih : ∀ (s : Int32 × Int32) (σ : jMem) (o : (Int32) × jMem), rec s σ = some o → (J K 33 [none, none, some (.int o.1), none] [] o.2) → J K 4 [some (.ref p0), some (.ref 80), some (.int s.1), some (.int s.2)] [] σ) : ∀ (x2 : Int32) (x3 : Int32) (σ : jMem) (o : (Int32) × jMem), X5_waysBehind_L4_b p0 rec x2 x3 σ = some o → (J K 33 [none, none, some (.int o.1), none] [] o.2) → J K 4 [some (.ref p0), some (.ref 80), some (.int x2), some (.int x3)] [] σ := by
  intro x2 x3 σ o h kk
  unfold X5_waysBehind_L4_b at h
  refine j_iload_n X 3 dX5_waysBehind_4 rfl rfl ?_
  refine j_aload_n X 0 dX5_waysBehind_5 rfl rfl ?_
  refine j_getI X fg_RX5_44 (jp_lt hp0) (jp_ly hp0) rfl dX5_waysBehind_6 ?_
  refine j_icmp_ge (tgt := 33) X dX5_waysBehind_9 (by decide) h (fun h => ?_) (fun h => ?_)
  · obtain rfl := Option.some.inj h
    exact j_sub (ls' := [none, none, some (.int x2), none]) ⟨Or.inl rfl, Or.inl rfl, Or.inr rfl, Or.inl rfl, trivial⟩ kk
  · refine j_iload_n X 2 dX5_waysBehind_12 rfl rfl ?_
    refine j_aload_n X 0 dX5_waysBehind_13 rfl rfl ?_
    refine j_iload_n X 3 dX5_waysBehind_14 rfl rfl ?_
    obtain ⟨v1, σ2, hm3, h⟩ := jbd_some h
    refine j_callV (as := [.int x3]) (st := [.int x2]) (st1 := [.int v1, .int x2]) X (jp_lt hp0) (jp_ly hp0) rfl rfl sv_RX5_83 ⟨by decide, by decide⟩ rfl rfl (Nat.le_of_ble_eq_true rfl) rfl dX5_waysBehind_15 jrv_i (c_X5_swears hp0 hm3) rfl ?_
    refine j_aload_n X 0 dX5_waysBehind_18 rfl rfl ?_
    refine j_iload_n X 3 dX5_waysBehind_19 rfl rfl ?_
    refine j_aload_n X 1 dX5_waysBehind_20 rfl rfl ?_
    obtain ⟨v4, σ5, hm6, h⟩ := jbd_some h
    refine j_callV (as := [.int x3, .ref 80]) (st := [.int v1, .int x2]) (st1 := [.int v4, .int v1, .int x2]) X (jp_lt hp0) (jp_ly hp0) rfl rfl sv_RX5_97 ⟨by decide, by decide⟩ rfl rfl (Nat.le_of_ble_eq_true rfl) rfl dX5_waysBehind_21 jrv_i (c_X5_seenBy hp0 hm6) rfl ?_
    refine j_ior X dX5_waysBehind_24 ?_
    refine j_ior X dX5_waysBehind_25 ?_
    refine j_letI h (fun v7 h => ?_)
    refine j_istore_n (ls' := [some (.ref p0), some (.ref 80), some (.int v7), some (.int x3)]) X 2 dX5_waysBehind_26 rfl (Nat.le_of_ble_eq_true rfl) rfl ?_
    refine j_iinc (v := (x3 + 1)) (ls' := [some (.ref p0), some (.ref 80), some (.int v7), some (.int (x3 + 1))]) X dX5_waysBehind_27 rfl rfl (Nat.le_of_ble_eq_true rfl) rfl ?_
    refine j_goto (tgt := 4) X dX5_waysBehind_30 (by decide) ?_
    exact ih (v7, (x3 + 1)) σ5 _ h kk
theorem X5_waysBehind_L4_ok {K : jK} (X : JX K cX5_waysBehind 4 RX5 4 92) {p0 : Nat} (hp0 : jisP p0) : ∀ (n : Nat) (s : Int32 × Int32) (σ : jMem) (o : (Int32) × jMem), X5_waysBehind_L4 p0 n s σ = some o → (J K 33 [none, none, some (.int o.1), none] [] o.2) → J K 4 [some (.ref p0), some (.ref 80), some (.int s.1), some (.int s.2)] [] σ := by
  intro n
  induction n with
  | zero => intro s σ o h; cases h
  | succ n ih => intro s σ o h; exact X5_waysBehind_L4_bok X hp0 ih (s.1) (s.2) σ o h
def f_X5_waysBehind (k : Nat) (σ : jMem) : Option (Int32 × jMem) :=
  jbd (X5_waysBehind_L4 (k) jFU ((0 : Int32), (0 : Int32)) σ) (fun q8 σ9 =>
  some ((q8, σ9)))
set_option maxRecDepth 100000 in
set_option maxHeartbeats 4000000 in
theorem c_X5_waysBehind {l : Launch} {D : va_G} {ad : Nat → Nat} {cid : Nat → ClassId} {k : Nat} (hk : jisP k) {σ : jMem} {r : Int32} {σ' : jMem} (h : f_X5_waysBehind k σ = some (r, σ')) : jMet l D ad cid yX5_waysBehind cX5_waysBehind 4 (some .int) 4 92 [.ref k, .ref 80] σ (some (.int r)) σ' := by
  refine jMet_of (ls0 := [some (.ref k), some (.ref 80), none, none]) (by decide) (Nat.le_of_ble_eq_true rfl) rfl (fun K X R0 _ => ?_)
  unfold f_X5_waysBehind at h
  refine j_iconst (v := 0) X dX5_waysBehind_0 (by decide) ?_
  refine j_istore_n (ls' := [some (.ref k), some (.ref 80), some (.int (0 : Int32)), none]) X 2 dX5_waysBehind_1 rfl (Nat.le_of_ble_eq_true rfl) rfl ?_
  refine j_iconst (v := 0) X dX5_waysBehind_2 (by decide) ?_
  refine j_istore_n (ls' := [some (.ref k), some (.ref 80), some (.int (0 : Int32)), some (.int (0 : Int32))]) X 3 dX5_waysBehind_3 rfl (Nat.le_of_ble_eq_true rfl) rfl ?_
  obtain ⟨q8, σ9, hL10, h⟩ := jbd_some h
  refine X5_waysBehind_L4_ok X hk jFU ((0 : Int32), (0 : Int32)) σ _ hL10 ?_
  refine j_iload_n X 2 dX5_waysBehind_33 rfl rfl ?_
  obtain ⟨rfl, rfl⟩ := jin2 h
  exact j_iret X R0 dX5_waysBehind_34
theorem sv_RX11_282 : jSiV RX11 282 yX5_waysBehind cX5_waysBehind 4 (some .int) 1 := ⟨tw_689, tw_690, tw_691, tw_10, tw_692, by decide, by decide, by decide +kernel⟩
def f_X11_newWays (a0 : Int32) (σ : jMem) : Option (Int32 × jMem) :=
  jbd (f_X2_isBurial 22 a0 σ) (fun v1 σ2 =>
  if ¬ v1 = 0 then
  jbd (f_X5_waysBehind 22 σ2) (fun v4 σ5 =>
  jbd (f_X5_ways 22 σ5) (fun v7 σ8 =>
  jbd (f_J6_bitCount_0f7a4 (v4 &&& (v7 ^^^ (-1 : Int32))) σ8) (fun v10 σ11 =>
  some ((v10, σ11)))))
else
  some (((-1000000 : Int32), σ2)))
set_option maxRecDepth 100000 in
set_option maxHeartbeats 4000000 in
theorem c_X11_newWays {l : Launch} {D : va_G} {ad : Nat → Nat} {cid : Nat → ClassId} {a0 : Int32}  {σ : jMem} {r : Int32} {σ' : jMem} (h : f_X11_newWays a0 σ = some (r, σ')) : jMet l D ad cid yX11_newWays cX11_newWays 2 (some .int) 5 115 [.ref 0, .int a0] σ (some (.int r)) σ' := by
  refine jMet_of (ls0 := [some (.ref 0), some (.int a0)]) (by decide) (Nat.le_of_ble_eq_true rfl) rfl (fun K X R0 _ => ?_)
  unfold f_X11_newWays at h
  refine j_aload_n X 0 dX11_newWays_0 rfl rfl ?_
  refine j_getR (t := 80) X fg_RX11_69 ln_0 ly_0 rfl dX11_newWays_1 ?_
  refine j_aload_n X 0 dX11_newWays_4 rfl rfl ?_
  refine j_getR (t := 22) X fg_RX11_50 ln_0 ly_0 rfl dX11_newWays_5 ?_
  refine j_iload_n X 1 dX11_newWays_8 rfl rfl ?_
  obtain ⟨v1, σ2, hm3, h⟩ := jbd_some h
  refine j_callV (as := [.ref 22, .int a0]) (st := []) (st1 := [.int v1]) X ln_80 ly_80 rfl rfl sv_RX11_177 ⟨by decide, by decide⟩ rfl rfl (Nat.le_of_ble_eq_true rfl) rfl dX11_newWays_9 jrv_i (c_X2_isBurial jisP_22 hm3) rfl ?_
  refine j_if_ne (tgt := 18) X dX11_newWays_12 (by decide) h (fun h => ?_) (fun h => ?_)
  · refine j_aload_n X 0 dX11_newWays_18 rfl rfl ?_
    refine j_getR (t := 22) X fg_RX11_50 ln_0 ly_0 rfl dX11_newWays_19 ?_
    refine j_aload_n X 0 dX11_newWays_22 rfl rfl ?_
    refine j_getR (t := 80) X fg_RX11_69 ln_0 ly_0 rfl dX11_newWays_23 ?_
    obtain ⟨v4, σ5, hm6, h⟩ := jbd_some h
    refine j_callV (as := [.ref 80]) (st := []) (st1 := [.int v4]) X ln_22 ly_22 rfl rfl sv_RX11_282 ⟨by decide, by decide⟩ rfl rfl (Nat.le_of_ble_eq_true rfl) rfl dX11_newWays_26 jrv_i (c_X5_waysBehind jisP_22 hm6) rfl ?_
    refine j_aload_n X 0 dX11_newWays_29 rfl rfl ?_
    refine j_getR (t := 22) X fg_RX11_50 ln_0 ly_0 rfl dX11_newWays_30 ?_
    obtain ⟨v7, σ8, hm9, h⟩ := jbd_some h
    refine j_callV (as := []) (st := [.int v4]) (st1 := [.int v7, .int v4]) X ln_22 ly_22 rfl rfl sv_RX11_188 ⟨by decide, by decide⟩ rfl rfl (Nat.le_of_ble_eq_true rfl) rfl dX11_newWays_33 jrv_i (c_X5_ways jisP_22 hm9) rfl ?_
    refine j_iconst (v := -1) X dX11_newWays_36 (by decide) ?_
    refine j_ixor X dX11_newWays_37 ?_
    refine j_iand X dX11_newWays_38 ?_
    obtain ⟨v10, σ11, hm12, h⟩ := jbd_some h
    refine j_callS (as := [.int (v4 &&& (v7 ^^^ (-1 : Int32)))]) (st := []) (st1 := [.int v10]) X ss_RX11_265 ⟨by decide, by decide⟩ rfl rfl (Nat.le_of_ble_eq_true rfl) rfl dX11_newWays_39 jrv_i (c_J6_bitCount_0f7a4  hm12) rfl ?_
    obtain ⟨rfl, rfl⟩ := jin2 h
    exact j_iret X R0 dX11_newWays_42
  · refine j_ldc (v := -1000000) X tw_646 dX11_newWays_15 ?_
    obtain ⟨rfl, rfl⟩ := jin2 h
    exact j_iret X R0 dX11_newWays_17
theorem sv_RX11_279 : jSiV RX11 279 yX11_newWays cX11_newWays 2 (some .int) 1 := ⟨tw_685, tw_687, ts_15, tw_1, tw_688, by decide, by decide, by decide +kernel⟩
def f_X11_makes (a0 : Int32) (σ : jMem) : Option (Int32 × jMem) :=
  if ¬ (σ.1 22 1) = 0 then
  jbd (f_X11_isField a0 σ) (fun v1 σ2 =>
  if v1 = 0 then
  some (((-1000001 : Int32), σ2))
else
  jbd (f_X11_newWays a0 σ2) (fun v4 σ5 =>
  some ((v4, σ5))))
else
  some (((-1000002 : Int32), σ))
set_option maxRecDepth 100000 in
set_option maxHeartbeats 4000000 in
theorem c_X11_makes {l : Launch} {D : va_G} {ad : Nat → Nat} {cid : Nat → ClassId} {a0 : Int32}  {σ : jMem} {r : Int32} {σ' : jMem} (h : f_X11_makes a0 σ = some (r, σ')) : jMet l D ad cid yX11_makes cX11_makes 2 (some .int) 6 136 [.ref 0, .int a0] σ (some (.int r)) σ' := by
  refine jMet_of (ls0 := [some (.ref 0), some (.int a0)]) (by decide) (Nat.le_of_ble_eq_true rfl) rfl (fun K X R0 _ => ?_)
  unfold f_X11_makes at h
  refine j_aload_n X 0 dX11_makes_0 rfl rfl ?_
  refine j_getR (t := 22) X fg_RX11_50 ln_0 ly_0 rfl dX11_makes_1 ?_
  refine j_getI X fg_RX11_170 ln_22 ly_22 rfl dX11_makes_4 ?_
  refine j_if_ne (tgt := 13) X dX11_makes_7 (by decide) h (fun h => ?_) (fun h => ?_)
  · refine j_iload_n X 1 dX11_makes_13 rfl rfl ?_
    obtain ⟨v1, σ2, hm3, h⟩ := jbd_some h
    refine j_callS (as := [.int a0]) (st := []) (st1 := [.int v1]) X ss_RX11_174 ⟨by decide, by decide⟩ rfl rfl (Nat.le_of_ble_eq_true rfl) rfl dX11_makes_14 jrv_i (c_X11_isField  hm3) rfl ?_
    refine j_if_eq (tgt := 28) X dX11_makes_17 (by decide) h (fun h => ?_) (fun h => ?_)
    · refine j_ldc (v := -1000001) X tw_318 dX11_makes_28 ?_
      obtain ⟨rfl, rfl⟩ := jin2 h
      exact j_iret X R0 dX11_makes_30
    · refine j_aload_n X 0 dX11_makes_20 rfl rfl ?_
      refine j_iload_n X 1 dX11_makes_21 rfl rfl ?_
      obtain ⟨v4, σ5, hm6, h⟩ := jbd_some h
      refine j_callV (as := [.int a0]) (st := []) (st1 := [.int v4]) X ln_0 ly_0 rfl rfl sv_RX11_279 ⟨by decide, by decide⟩ rfl rfl (Nat.le_of_ble_eq_true rfl) rfl dX11_makes_22 jrv_i (c_X11_newWays  hm6) rfl ?_
      refine j_goto (tgt := 30) X dX11_makes_25 (by decide) ?_
      obtain ⟨rfl, rfl⟩ := jin2 h
      exact j_iret X R0 dX11_makes_30
  · refine j_ldc (v := -1000002) X tw_458 dX11_makes_10 ?_
    obtain ⟨rfl, rfl⟩ := jin2 h
    exact j_iret X R0 dX11_makes_12
def X11_best_L32_b (p1 : Int32) (rec : Int32 × Int32 × Int32 → jMem → Option ((Int32 × Int32) × jMem)) (x2 : Int32) (x3 : Int32) (x4 : Int32) (σ : jMem) : Option ((Int32 × Int32) × jMem) :=
  if (8 : Int32) ≤ x4 then
  some ((x2, x3), σ)
else
  jbd (f_X11_newWays x4 σ) (fun v4 σ5 =>
  if v4 ≤ x3 then
  rec (x2, x3, (x4 + 1)) σ5
else
  rec (x4, v4, (x4 + 1)) σ5)
def X11_best_L32 (p1 : Int32) : Nat → Int32 × Int32 × Int32 → jMem → Option ((Int32 × Int32) × jMem) := jloop (fun rec s σ => X11_best_L32_b p1 rec s.1 s.2.1 s.2.2 σ)
set_option maxRecDepth 100000 in
set_option maxHeartbeats 4000000 in
theorem X11_best_L32_bok {K : jK} (X : JX K cX11_best 6 RX11 6 136) {p1 : Int32}  {rec : Int32 × Int32 × Int32 → jMem → Option ((Int32 × Int32) × jMem)} (ih : ∀ (s : Int32 × Int32 × Int32) (σ : jMem) (o : (Int32 × Int32) × jMem), rec s σ = some o → (J K 65 [none, some (.int p1), some (.int o.1.1), some (.int o.1.2), none, none] [] o.2) → J K 32 [some (.ref 0), some (.int p1), some (.int s.1), some (.int s.2.1), some (.int s.2.2), none] [] σ) : ∀ (x2 : Int32) (x3 : Int32) (x4 : Int32) (σ : jMem) (o : (Int32 × Int32) × jMem), X11_best_L32_b p1 rec x2 x3 x4 σ = some o → (J K 65 [none, some (.int p1), some (.int o.1.1), some (.int o.1.2), none, none] [] o.2) → J K 32 [some (.ref 0), some (.int p1), some (.int x2), some (.int x3), some (.int x4), none] [] σ := by
  intro x2 x3 x4 σ o h kk
  unfold X11_best_L32_b at h
  refine j_iload X dX11_best_32 rfl ?_
  refine j_bipush (v := 8) X dX11_best_34 (by decide) ?_
  refine j_icmp_ge (tgt := 65) X dX11_best_36 (by decide) h (fun h => ?_) (fun h => ?_)
  · obtain rfl := Option.some.inj h
    exact j_sub (ls' := [none, some (.int p1), some (.int x2), some (.int x3), none, none]) ⟨Or.inl rfl, Or.inr rfl, Or.inr rfl, Or.inr rfl, Or.inl rfl, Or.inl rfl, trivial⟩ kk
  · refine j_aload_n X 0 dX11_best_39 rfl rfl ?_
    refine j_iload X dX11_best_40 rfl ?_
    obtain ⟨v4, σ5, hm6, h⟩ := jbd_some h
    refine j_callV (as := [.int x4]) (st := []) (st1 := [.int v4]) X ln_0 ly_0 rfl rfl sv_RX11_279 ⟨by decide, by decide⟩ rfl rfl (Nat.le_of_ble_eq_true rfl) rfl dX11_best_42 jrv_i (c_X11_newWays  hm6) rfl ?_
    refine j_istore (ls' := [some (.ref 0), some (.int p1), some (.int x2), some (.int x3), some (.int x4), some (.int v4)]) X dX11_best_45 (Nat.le_of_ble_eq_true rfl) rfl ?_
    refine j_iload X dX11_best_47 rfl ?_
    refine j_iload_n X 3 dX11_best_49 rfl rfl ?_
    refine j_icmp_le (tgt := 59) X dX11_best_50 (by decide) h (fun h => ?_) (fun h => ?_)
    · refine j_iinc (v := (x4 + 1)) (ls' := [some (.ref 0), some (.int p1), some (.int x2), some (.int x3), some (.int (x4 + 1)), some (.int v4)]) X dX11_best_59 rfl rfl (Nat.le_of_ble_eq_true rfl) rfl ?_
      refine j_goto (tgt := 32) X dX11_best_62 (by decide) ?_
      exact j_sub (ls' := [some (.ref 0), some (.int p1), some (.int x2), some (.int x3), some (.int (x4 + 1)), none]) ⟨Or.inr rfl, Or.inr rfl, Or.inr rfl, Or.inr rfl, Or.inr rfl, Or.inl rfl, trivial⟩ (ih (x2, x3, (x4 + 1)) σ5 _ h kk)
    · refine j_iload X dX11_best_53 rfl ?_
      refine j_istore_n (ls' := [some (.ref 0), some (.int p1), some (.int x4), some (.int x3), some (.int x4), some (.int v4)]) X 2 dX11_best_55 rfl (Nat.le_of_ble_eq_true rfl) rfl ?_
      refine j_iload X dX11_best_56 rfl ?_
      refine j_istore_n (ls' := [some (.ref 0), some (.int p1), some (.int x4), some (.int v4), some (.int x4), some (.int v4)]) X 3 dX11_best_58 rfl (Nat.le_of_ble_eq_true rfl) rfl ?_
      refine j_iinc (v := (x4 + 1)) (ls' := [some (.ref 0), some (.int p1), some (.int x4), some (.int v4), some (.int (x4 + 1)), some (.int v4)]) X dX11_best_59 rfl rfl (Nat.le_of_ble_eq_true rfl) rfl ?_
      refine j_goto (tgt := 32) X dX11_best_62 (by decide) ?_
      exact j_sub (ls' := [some (.ref 0), some (.int p1), some (.int x4), some (.int v4), some (.int (x4 + 1)), none]) ⟨Or.inr rfl, Or.inr rfl, Or.inr rfl, Or.inr rfl, Or.inr rfl, Or.inl rfl, trivial⟩ (ih (x4, v4, (x4 + 1)) σ5 _ h kk)
theorem X11_best_L32_ok {K : jK} (X : JX K cX11_best 6 RX11 6 136) {p1 : Int32}  : ∀ (n : Nat) (s : Int32 × Int32 × Int32) (σ : jMem) (o : (Int32 × Int32) × jMem), X11_best_L32 p1 n s σ = some o → (J K 65 [none, some (.int p1), some (.int o.1.1), some (.int o.1.2), none, none] [] o.2) → J K 32 [some (.ref 0), some (.int p1), some (.int s.1), some (.int s.2.1), some (.int s.2.2), none] [] σ := by
  intro n
  induction n with
  | zero => intro s σ o h; cases h
  | succ n ih => intro s σ o h; exact X11_best_L32_bok X  ih (s.1) (s.2.1) (s.2.2) σ o h
def f_X11_best (a0 : Int32) (σ : jMem) : Option (Int32 × jMem) :=
  if ¬ (σ.1 22 1) = 0 then
  jbd (f_X11_isOneOfTwo a0 σ) (fun v1 σ2 =>
  if ¬ v1 = 0 then
  jbd (X11_best_L32 (a0) jFU ((-1000000 : Int32), (-1000000 : Int32), (0 : Int32)) σ2) (fun q7 σ8 =>
  if ¬ a0 = 0 then
  some ((q7.2, σ8))
else
  some ((q7.1, σ8)))
else
  some (((-1000001 : Int32), σ2)))
else
  some (((-1000002 : Int32), σ))
set_option maxRecDepth 100000 in
set_option maxHeartbeats 4000000 in
theorem c_X11_best {l : Launch} {D : va_G} {ad : Nat → Nat} {cid : Nat → ClassId} {a0 : Int32}  {σ : jMem} {r : Int32} {σ' : jMem} (h : f_X11_best a0 σ = some (r, σ')) : jMet l D ad cid yX11_best cX11_best 6 (some .int) 6 136 [.ref 0, .int a0] σ (some (.int r)) σ' := by
  refine jMet_of (ls0 := [some (.ref 0), some (.int a0), none, none, none, none]) (by decide) (Nat.le_of_ble_eq_true rfl) rfl (fun K X R0 _ => ?_)
  unfold f_X11_best at h
  refine j_aload_n X 0 dX11_best_0 rfl rfl ?_
  refine j_getR (t := 22) X fg_RX11_50 ln_0 ly_0 rfl dX11_best_1 ?_
  refine j_getI X fg_RX11_170 ln_22 ly_22 rfl dX11_best_4 ?_
  refine j_if_ne (tgt := 13) X dX11_best_7 (by decide) h (fun h => ?_) (fun h => ?_)
  · refine j_iload_n X 1 dX11_best_13 rfl rfl ?_
    obtain ⟨v1, σ2, hm3, h⟩ := jbd_some h
    refine j_callS (as := [.int a0]) (st := []) (st1 := [.int v1]) X ss_RX11_204 ⟨by decide, by decide⟩ rfl rfl (Nat.le_of_ble_eq_true rfl) rfl dX11_best_14 jrv_i (c_X11_isOneOfTwo  hm3) rfl ?_
    refine j_if_ne (tgt := 23) X dX11_best_17 (by decide) h (fun h => ?_) (fun h => ?_)
    · refine j_ldc (v := -1000000) X tw_646 dX11_best_23 ?_
      refine j_istore_n (ls' := [some (.ref 0), some (.int a0), some (.int (-1000000 : Int32)), none, none, none]) X 2 dX11_best_25 rfl (Nat.le_of_ble_eq_true rfl) rfl ?_
      refine j_ldc (v := -1000000) X tw_646 dX11_best_26 ?_
      refine j_istore_n (ls' := [some (.ref 0), some (.int a0), some (.int (-1000000 : Int32)), some (.int (-1000000 : Int32)), none, none]) X 3 dX11_best_28 rfl (Nat.le_of_ble_eq_true rfl) rfl ?_
      refine j_iconst (v := 0) X dX11_best_29 (by decide) ?_
      refine j_istore (ls' := [some (.ref 0), some (.int a0), some (.int (-1000000 : Int32)), some (.int (-1000000 : Int32)), some (.int (0 : Int32)), none]) X dX11_best_30 (Nat.le_of_ble_eq_true rfl) rfl ?_
      obtain ⟨q7, σ8, hL9, h⟩ := jbd_some h
      refine X11_best_L32_ok X  jFU ((-1000000 : Int32), (-1000000 : Int32), (0 : Int32)) σ2 _ hL9 ?_
      refine j_iload_n X 1 dX11_best_65 rfl rfl ?_
      refine j_if_ne (tgt := 73) X dX11_best_66 (by decide) h (fun h => ?_) (fun h => ?_)
      · refine j_iload_n X 3 dX11_best_73 rfl rfl ?_
        obtain ⟨rfl, rfl⟩ := jin2 h
        exact j_iret X R0 dX11_best_74
      · refine j_iload_n X 2 dX11_best_69 rfl rfl ?_
        refine j_goto (tgt := 74) X dX11_best_70 (by decide) ?_
        obtain ⟨rfl, rfl⟩ := jin2 h
        exact j_iret X R0 dX11_best_74
    · refine j_ldc (v := -1000001) X tw_318 dX11_best_20 ?_
      obtain ⟨rfl, rfl⟩ := jin2 h
      exact j_iret X R0 dX11_best_22
  · refine j_ldc (v := -1000002) X tw_458 dX11_best_10 ?_
    obtain ⟨rfl, rfl⟩ := jin2 h
    exact j_iret X R0 dX11_best_12
def X11_from_L63_b (p4 : Int32) (rec : Int32 × Int32 → jMem → Option ((Int32) × jMem)) (x5 : Int32) (x6 : Int32) (σ : jMem) : Option ((Int32) × jMem) :=
  if (8 : Int32) ≤ x6 then
  some (x5, σ)
else
  jbd (f_X2_isBurial 22 x6 σ) (fun v9 σ10 =>
  if v9 = 0 then
  rec (x5, (x6 + 1)) σ10
else
  jbd (f_X5_waysBehind 22 σ10) (fun v12 σ13 =>
  if ¬ v12 = p4 then
  rec (x5, (x6 + 1)) σ13
else
  jlet ((x5 ||| ((1 : Int32) <<< (x6 &&& 31)))) (fun v15 =>
  rec (v15, (x6 + 1)) σ13)))
def X11_from_L63 (p4 : Int32) : Nat → Int32 × Int32 → jMem → Option ((Int32) × jMem) := jloop (fun rec s σ => X11_from_L63_b p4 rec s.1 s.2 σ)
set_option maxRecDepth 100000 in
set_option maxHeartbeats 4000000 in
theorem X11_from_L63_bok {K : jK} (X : JX K cX11_from 7 RX11 5 115) {p4 : Int32}  {rec : Int32 × Int32 → jMem → Option ((Int32) × jMem)} (ih : ∀ (s : Int32 × Int32) (σ : jMem) (o : (Int32) × jMem), rec s σ = some o → (J K 117 [some (.ref 0), none, none, none, none, some (.int o.1), none] [] o.2) → J K 63 [some (.ref 0), none, none, none, some (.int p4), some (.int s.1), some (.int s.2)] [] σ) : ∀ (x5 : Int32) (x6 : Int32) (σ : jMem) (o : (Int32) × jMem), X11_from_L63_b p4 rec x5 x6 σ = some o → (J K 117 [some (.ref 0), none, none, none, none, some (.int o.1), none] [] o.2) → J K 63 [some (.ref 0), none, none, none, some (.int p4), some (.int x5), some (.int x6)] [] σ := by
  intro x5 x6 σ o h kk
  unfold X11_from_L63_b at h
  refine j_iload X dX11_from_63 rfl ?_
  refine j_bipush (v := 8) X dX11_from_65 (by decide) ?_
  refine j_icmp_ge (tgt := 117) X dX11_from_67 (by decide) h (fun h => ?_) (fun h => ?_)
  · obtain rfl := Option.some.inj h
    exact j_sub (ls' := [some (.ref 0), none, none, none, none, some (.int x5), none]) ⟨Or.inr rfl, Or.inl rfl, Or.inl rfl, Or.inl rfl, Or.inl rfl, Or.inr rfl, Or.inl rfl, trivial⟩ kk
  · refine j_aload_n X 0 dX11_from_70 rfl rfl ?_
    refine j_getR (t := 80) X fg_RX11_69 ln_0 ly_0 rfl dX11_from_71 ?_
    refine j_aload_n X 0 dX11_from_74 rfl rfl ?_
    refine j_getR (t := 22) X fg_RX11_50 ln_0 ly_0 rfl dX11_from_75 ?_
    refine j_iload X dX11_from_78 rfl ?_
    obtain ⟨v9, σ10, hm11, h⟩ := jbd_some h
    refine j_callV (as := [.ref 22, .int x6]) (st := []) (st1 := [.int v9]) X ln_80 ly_80 rfl rfl sv_RX11_177 ⟨by decide, by decide⟩ rfl rfl (Nat.le_of_ble_eq_true rfl) rfl dX11_from_80 jrv_i (c_X2_isBurial jisP_22 hm11) rfl ?_
    refine j_if_eq (tgt := 111) X dX11_from_83 (by decide) h (fun h => ?_) (fun h => ?_)
    · refine j_iinc (v := (x6 + 1)) (ls' := [some (.ref 0), none, none, none, some (.int p4), some (.int x5), some (.int (x6 + 1))]) X dX11_from_111 rfl rfl (Nat.le_of_ble_eq_true rfl) rfl ?_
      refine j_goto (tgt := 63) X dX11_from_114 (by decide) ?_
      exact ih (x5, (x6 + 1)) σ10 _ h kk
    · refine j_aload_n X 0 dX11_from_86 rfl rfl ?_
      refine j_getR (t := 22) X fg_RX11_50 ln_0 ly_0 rfl dX11_from_87 ?_
      refine j_aload_n X 0 dX11_from_90 rfl rfl ?_
      refine j_getR (t := 80) X fg_RX11_69 ln_0 ly_0 rfl dX11_from_91 ?_
      obtain ⟨v12, σ13, hm14, h⟩ := jbd_some h
      refine j_callV (as := [.ref 80]) (st := []) (st1 := [.int v12]) X ln_22 ly_22 rfl rfl sv_RX11_282 ⟨by decide, by decide⟩ rfl rfl (Nat.le_of_ble_eq_true rfl) rfl dX11_from_94 jrv_i (c_X5_waysBehind jisP_22 hm14) rfl ?_
      refine j_iload X dX11_from_97 rfl ?_
      refine j_icmp_ne (tgt := 111) X dX11_from_99 (by decide) h (fun h => ?_) (fun h => ?_)
      · refine j_iinc (v := (x6 + 1)) (ls' := [some (.ref 0), none, none, none, some (.int p4), some (.int x5), some (.int (x6 + 1))]) X dX11_from_111 rfl rfl (Nat.le_of_ble_eq_true rfl) rfl ?_
        refine j_goto (tgt := 63) X dX11_from_114 (by decide) ?_
        exact ih (x5, (x6 + 1)) σ13 _ h kk
      · refine j_iload X dX11_from_102 rfl ?_
        refine j_iconst (v := 1) X dX11_from_104 (by decide) ?_
        refine j_iload X dX11_from_105 rfl ?_
        refine j_ishl X dX11_from_107 ?_
        refine j_ior X dX11_from_108 ?_
        refine j_letI h (fun v15 h => ?_)
        refine j_istore (ls' := [some (.ref 0), none, none, none, some (.int p4), some (.int v15), some (.int x6)]) X dX11_from_109 (Nat.le_of_ble_eq_true rfl) rfl ?_
        refine j_iinc (v := (x6 + 1)) (ls' := [some (.ref 0), none, none, none, some (.int p4), some (.int v15), some (.int (x6 + 1))]) X dX11_from_111 rfl rfl (Nat.le_of_ble_eq_true rfl) rfl ?_
        refine j_goto (tgt := 63) X dX11_from_114 (by decide) ?_
        exact ih (v15, (x6 + 1)) σ13 _ h kk
theorem X11_from_L63_ok {K : jK} (X : JX K cX11_from 7 RX11 5 115) {p4 : Int32}  : ∀ (n : Nat) (s : Int32 × Int32) (σ : jMem) (o : (Int32) × jMem), X11_from_L63 p4 n s σ = some o → (J K 117 [some (.ref 0), none, none, none, none, some (.int o.1), none] [] o.2) → J K 63 [some (.ref 0), none, none, none, some (.int p4), some (.int s.1), some (.int s.2)] [] σ := by
  intro n
  induction n with
  | zero => intro s σ o h; cases h
  | succ n ih => intro s σ o h; exact X11_from_L63_bok X  ih (s.1) (s.2) σ o h
def f_X11_from (a0 : Int32) (a1 : Int32) (σ : jMem) : Option (Int32 × jMem) :=
  if ¬ (σ.1 22 1) = 0 then
  jbd (f_X11_isRow a0 σ) (fun v1 σ2 =>
  if ¬ v1 = 0 then
  jbd (f_X6_amiss a0 a1 (1 : Int32) σ2) (fun v4 σ5 =>
  if v4 = 0 then
  jldr 8 3 1 a0 (fun k7 =>
  jld σ5 k7 40 a1 (fun v8 =>
  jbd (X11_from_L63 (v8) jFU ((0 : Int32), (0 : Int32)) σ5) (fun q16 σ17 =>
  jbd (f_X11_unfound q16 σ17) (fun v18 σ19 =>
  some ((v18, σ19))))))
else
  jbd (f_X11_found v4 σ5) (fun v22 σ23 =>
  some ((v22, σ23))))
else
  some (((-1000001 : Int32), σ2)))
else
  some (((-1000002 : Int32), σ))
set_option maxRecDepth 100000 in
set_option maxHeartbeats 4000000 in
theorem c_X11_from {l : Launch} {D : va_G} {ad : Nat → Nat} {cid : Nat → ClassId} {a0 : Int32} {a1 : Int32}  {σ : jMem} {r : Int32} {σ' : jMem} (h : f_X11_from a0 a1 σ = some (r, σ')) : jMet l D ad cid yX11_from cX11_from 7 (some .int) 5 115 [.ref 0, .int a0, .int a1] σ (some (.int r)) σ' := by
  refine jMet_of (ls0 := [some (.ref 0), some (.int a0), some (.int a1), none, none, none, none]) (by decide) (Nat.le_of_ble_eq_true rfl) rfl (fun K X R0 _ => ?_)
  unfold f_X11_from at h
  refine j_aload_n X 0 dX11_from_0 rfl rfl ?_
  refine j_getR (t := 22) X fg_RX11_50 ln_0 ly_0 rfl dX11_from_1 ?_
  refine j_getI X fg_RX11_170 ln_22 ly_22 rfl dX11_from_4 ?_
  refine j_if_ne (tgt := 13) X dX11_from_7 (by decide) h (fun h => ?_) (fun h => ?_)
  · refine j_iload_n X 1 dX11_from_13 rfl rfl ?_
    obtain ⟨v1, σ2, hm3, h⟩ := jbd_some h
    refine j_callS (as := [.int a0]) (st := []) (st1 := [.int v1]) X ss_RX11_84 ⟨by decide, by decide⟩ rfl rfl (Nat.le_of_ble_eq_true rfl) rfl dX11_from_14 jrv_i (c_X11_isRow  hm3) rfl ?_
    refine j_if_ne (tgt := 23) X dX11_from_17 (by decide) h (fun h => ?_) (fun h => ?_)
    · refine j_aload_n X 0 dX11_from_23 rfl rfl ?_
      refine j_getR (t := 1) X fg_RX11_10 ln_0 ly_0 rfl dX11_from_24 ?_
      refine j_iload_n X 1 dX11_from_27 rfl rfl ?_
      refine j_iload_n X 2 dX11_from_28 rfl rfl ?_
      refine j_iconst (v := 1) X dX11_from_29 (by decide) ?_
      obtain ⟨v4, σ5, hm6, h⟩ := jbd_some h
      refine j_callV (as := [.int a0, .int a1, .int (1 : Int32)]) (st := []) (st1 := [.int v4]) X ln_1 ly_1 rfl rfl sv_RX11_100 ⟨by decide, by decide⟩ rfl rfl (Nat.le_of_ble_eq_true rfl) rfl dX11_from_30 jrv_i (c_X6_amiss  hm6) rfl ?_
      refine j_istore_n (ls' := [some (.ref 0), some (.int a0), some (.int a1), some (.int v4), none, none, none]) X 3 dX11_from_33 rfl (Nat.le_of_ble_eq_true rfl) rfl ?_
      refine j_iload_n X 3 dX11_from_34 rfl rfl ?_
      refine j_if_eq (tgt := 44) X dX11_from_35 (by decide) h (fun h => ?_) (fun h => ?_)
      · refine j_aload_n X 0 dX11_from_44 rfl rfl ?_
        refine j_getR (t := 1) X fg_RX11_10 ln_0 ly_0 rfl dX11_from_45 ?_
        refine j_getR (t := 2) X fg_RX11_117 ln_1 ly_1 rfl dX11_from_48 ?_
        refine j_iload_n X 1 dX11_from_51 rfl rfl ?_
        refine j_aaload X ln_2 ly_2 (Or.inr (Or.inr rfl)) dX11_from_52 h (fun k7 qk7 h => ?_)
        have hk7 := jrow8 qk7
        refine j_iload_n X 2 dX11_from_53 rfl rfl ?_
        refine j_iaload X hk7.1 hk7.2 dX11_from_54 h (fun v8 h => ?_)
        refine j_istore (ls' := [some (.ref 0), some (.int a0), some (.int a1), some (.int v4), some (.int v8), none, none]) X dX11_from_55 (Nat.le_of_ble_eq_true rfl) rfl ?_
        refine j_iconst (v := 0) X dX11_from_57 (by decide) ?_
        refine j_istore (ls' := [some (.ref 0), some (.int a0), some (.int a1), some (.int v4), some (.int v8), some (.int (0 : Int32)), none]) X dX11_from_58 (Nat.le_of_ble_eq_true rfl) rfl ?_
        refine j_iconst (v := 0) X dX11_from_60 (by decide) ?_
        refine j_istore (ls' := [some (.ref 0), some (.int a0), some (.int a1), some (.int v4), some (.int v8), some (.int (0 : Int32)), some (.int (0 : Int32))]) X dX11_from_61 (Nat.le_of_ble_eq_true rfl) rfl ?_
        obtain ⟨q16, σ17, hL21, h⟩ := jbd_some h
        refine j_sub (ls' := [some (.ref 0), none, none, none, some (.int v8), some (.int (0 : Int32)), some (.int (0 : Int32))]) ⟨Or.inr rfl, Or.inl rfl, Or.inl rfl, Or.inl rfl, Or.inr rfl, Or.inr rfl, Or.inr rfl, trivial⟩ ?_
        refine X11_from_L63_ok X  jFU ((0 : Int32), (0 : Int32)) σ5 _ hL21 ?_
        refine j_aload_n X 0 dX11_from_117 rfl rfl ?_
        refine j_iload X dX11_from_118 rfl ?_
        obtain ⟨v18, σ19, hm20, h⟩ := jbd_some h
        refine j_callV (as := [.int q16]) (st := []) (st1 := [.int v18]) X ln_0 ly_0 rfl rfl sv_RX11_97 ⟨by decide, by decide⟩ rfl rfl (Nat.le_of_ble_eq_true rfl) rfl dX11_from_120 jrv_i (c_X11_unfound  hm20) rfl ?_
        obtain ⟨rfl, rfl⟩ := jin2 h
        exact j_iret X R0 dX11_from_123
      · refine j_aload_n X 0 dX11_from_38 rfl rfl ?_
        refine j_iload_n X 3 dX11_from_39 rfl rfl ?_
        obtain ⟨v22, σ23, hm24, h⟩ := jbd_some h
        refine j_callV (as := [.int v4]) (st := []) (st1 := [.int v22]) X ln_0 ly_0 rfl rfl sv_RX11_89 ⟨by decide, by decide⟩ rfl rfl (Nat.le_of_ble_eq_true rfl) rfl dX11_from_40 jrv_i (c_X11_found  hm24) rfl ?_
        obtain ⟨rfl, rfl⟩ := jin2 h
        exact j_iret X R0 dX11_from_43
    · refine j_ldc (v := -1000001) X tw_318 dX11_from_20 ?_
      obtain ⟨rfl, rfl⟩ := jin2 h
      exact j_iret X R0 dX11_from_22
  · refine j_ldc (v := -1000002) X tw_458 dX11_from_10 ?_
    obtain ⟨rfl, rfl⟩ := jin2 h
    exact j_iret X R0 dX11_from_12
