def X5_living_L4_b (p0 : Nat) (rec : Int32 × Int32 → jMem → Option ((Int32) × jMem)) (x1 : Int32) (x2 : Int32) (σ : jMem) : Option ((Int32) × jMem) :=
  if (σ.1 p0 6) ≤ x2 then
  some (x1, σ)
else
  jbd (f_X5_isAlive p0 x2 σ) (fun v1 σ2 =>
  if v1 = 0 then
  rec (x1, (x2 + 1)) σ2
else
  jlet ((x1 ||| ((1 : Int32) <<< (x2 &&& 31)))) (fun v4 =>
  rec (v4, (x2 + 1)) σ2))
def X5_living_L4 (p0 : Nat) : Nat → Int32 × Int32 → jMem → Option ((Int32) × jMem) := jloop (fun rec s σ => X5_living_L4_b p0 rec s.1 s.2 σ)
set_option maxRecDepth 100000 in
set_option maxHeartbeats 4000000 in
theorem X5_living_L4_bok {K : jK} (X : JX K cX5_living 3 RX5 2 42) {p0 : Nat} (hp0 : jisP p0) {rec : Int32 × Int32 → jMem → Option ((Int32) × jMem)} (ih : ∀ (s : Int32 × Int32) (σ : jMem) (o : (Int32) × jMem), rec s σ = some o → (J K 32 [none, some (.int o.1), none] [] o.2) → J K 4 [some (.ref p0), some (.int s.1), some (.int s.2)] [] σ) : ∀ (x1 : Int32) (x2 : Int32) (σ : jMem) (o : (Int32) × jMem), X5_living_L4_b p0 rec x1 x2 σ = some o → (J K 32 [none, some (.int o.1), none] [] o.2) → J K 4 [some (.ref p0), some (.int x1), some (.int x2)] [] σ := by
  intro x1 x2 σ o h kk
  unfold X5_living_L4_b at h
  refine j_iload_n X 2 dX5_living_4 rfl rfl ?_
  refine j_aload_n X 0 dX5_living_5 rfl rfl ?_
  refine j_getI X fg_RX5_44 (jp_lt hp0) (jp_ly hp0) rfl dX5_living_6 ?_
  refine j_icmp_ge (tgt := 32) X dX5_living_9 (by decide) h (fun h => ?_) (fun h => ?_)
  · obtain rfl := Option.some.inj h
    exact j_sub (ls' := [none, some (.int x1), none]) ⟨Or.inl rfl, Or.inr rfl, Or.inl rfl, trivial⟩ kk
  · refine j_aload_n X 0 dX5_living_12 rfl rfl ?_
    refine j_iload_n X 2 dX5_living_13 rfl rfl ?_
    obtain ⟨v1, σ2, hm3, h⟩ := jbd_some h
    refine j_callV (as := [.int x2]) (st := []) (st1 := [.int v1]) X (jp_lt hp0) (jp_ly hp0) rfl rfl sv_RX5_79 ⟨by decide, by decide⟩ rfl rfl (Nat.le_of_ble_eq_true rfl) rfl dX5_living_14 jrv_i (c_X5_isAlive hp0 hm3) rfl ?_
    refine j_if_eq (tgt := 26) X dX5_living_17 (by decide) h (fun h => ?_) (fun h => ?_)
    · refine j_iinc (v := (x2 + 1)) (ls' := [some (.ref p0), some (.int x1), some (.int (x2 + 1))]) X dX5_living_26 rfl rfl (Nat.le_of_ble_eq_true rfl) rfl ?_
      refine j_goto (tgt := 4) X dX5_living_29 (by decide) ?_
      exact ih (x1, (x2 + 1)) σ2 _ h kk
    · refine j_iload_n X 1 dX5_living_20 rfl rfl ?_
      refine j_iconst (v := 1) X dX5_living_21 (by decide) ?_
      refine j_iload_n X 2 dX5_living_22 rfl rfl ?_
      refine j_ishl X dX5_living_23 ?_
      refine j_ior X dX5_living_24 ?_
      refine j_letI h (fun v4 h => ?_)
      refine j_istore_n (ls' := [some (.ref p0), some (.int v4), some (.int x2)]) X 1 dX5_living_25 rfl (Nat.le_of_ble_eq_true rfl) rfl ?_
      refine j_iinc (v := (x2 + 1)) (ls' := [some (.ref p0), some (.int v4), some (.int (x2 + 1))]) X dX5_living_26 rfl rfl (Nat.le_of_ble_eq_true rfl) rfl ?_
      refine j_goto (tgt := 4) X dX5_living_29 (by decide) ?_
      exact ih (v4, (x2 + 1)) σ2 _ h kk
theorem X5_living_L4_ok {K : jK} (X : JX K cX5_living 3 RX5 2 42) {p0 : Nat} (hp0 : jisP p0) : ∀ (n : Nat) (s : Int32 × Int32) (σ : jMem) (o : (Int32) × jMem), X5_living_L4 p0 n s σ = some o → (J K 32 [none, some (.int o.1), none] [] o.2) → J K 4 [some (.ref p0), some (.int s.1), some (.int s.2)] [] σ := by
  intro n
  induction n with
  | zero => intro s σ o h; cases h
  | succ n ih => intro s σ o h; exact X5_living_L4_bok X hp0 ih (s.1) (s.2) σ o h
def f_X5_living (k : Nat) (σ : jMem) : Option (Int32 × jMem) :=
  jbd (X5_living_L4 (k) jFU ((0 : Int32), (0 : Int32)) σ) (fun q5 σ6 =>
  some ((q5, σ6)))
set_option maxRecDepth 100000 in
set_option maxHeartbeats 4000000 in
theorem c_X5_living {l : Launch} {D : va_G} {ad : Nat → Nat} {cid : Nat → ClassId} {k : Nat} (hk : jisP k) {σ : jMem} {r : Int32} {σ' : jMem} (h : f_X5_living k σ = some (r, σ')) : jMet l D ad cid yX5_living cX5_living 3 (some .int) 2 42 [.ref k] σ (some (.int r)) σ' := by
  refine jMet_of (ls0 := [some (.ref k), none, none]) (by decide) (Nat.le_of_ble_eq_true rfl) rfl (fun K X R0 _ => ?_)
  unfold f_X5_living at h
  refine j_iconst (v := 0) X dX5_living_0 (by decide) ?_
  refine j_istore_n (ls' := [some (.ref k), some (.int (0 : Int32)), none]) X 1 dX5_living_1 rfl (Nat.le_of_ble_eq_true rfl) rfl ?_
  refine j_iconst (v := 0) X dX5_living_2 (by decide) ?_
  refine j_istore_n (ls' := [some (.ref k), some (.int (0 : Int32)), some (.int (0 : Int32))]) X 2 dX5_living_3 rfl (Nat.le_of_ble_eq_true rfl) rfl ?_
  obtain ⟨q5, σ6, hL7, h⟩ := jbd_some h
  refine X5_living_L4_ok X hk jFU ((0 : Int32), (0 : Int32)) σ _ hL7 ?_
  refine j_iload_n X 1 dX5_living_32 rfl rfl ?_
  obtain ⟨rfl, rfl⟩ := jin2 h
  exact j_iret X R0 dX5_living_33
theorem sv_RX11_195 : jSiV RX11 195 yX5_pass cX5_pass 2 none 0 := ⟨tw_578, tw_579, tw_580, tw_10, tw_581, by decide, by decide, by decide +kernel⟩
theorem sv_RX11_198 : jSiV RX11 198 yX5_living cX5_living 3 (some .int) 0 := ⟨tw_596, tw_597, tw_598, tw_10, tw_599, by decide, by decide, by decide +kernel⟩
def X11_years_L47_b (p1 : Int32) (rec : Int32 → jMem → Option ((Unit) × jMem)) (x2 : Int32) (σ : jMem) : Option ((Unit) × jMem) :=
  if p1 ≤ x2 then
  some ((), σ)
else
  jbv (f_X11_keepAct  σ) (fun σ1 =>
  jbv (f_X5_pass 22 σ1) (fun σ3 =>
  rec (x2 + 1) σ3))
def X11_years_L47 (p1 : Int32) : Nat → Int32 → jMem → Option ((Unit) × jMem) := jloop (fun rec s σ => X11_years_L47_b p1 rec s σ)
set_option maxRecDepth 100000 in
set_option maxHeartbeats 4000000 in
theorem X11_years_L47_bok {K : jK} (X : JX K cX11_years 3 RX11 3 77) {p1 : Int32}  {rec : Int32 → jMem → Option ((Unit) × jMem)} (ih : ∀ (s : Int32) (σ : jMem) (o : (Unit) × jMem), rec s σ = some o → (J K 69 [some (.ref 0), none, none] [] o.2) → J K 47 [some (.ref 0), some (.int p1), some (.int s)] [] σ) : ∀ (x2 : Int32) (σ : jMem) (o : (Unit) × jMem), X11_years_L47_b p1 rec x2 σ = some o → (J K 69 [some (.ref 0), none, none] [] o.2) → J K 47 [some (.ref 0), some (.int p1), some (.int x2)] [] σ := by
  intro x2 σ o h kk
  unfold X11_years_L47_b at h
  refine j_iload_n X 2 dX11_years_47 rfl rfl ?_
  refine j_iload_n X 1 dX11_years_48 rfl rfl ?_
  refine j_icmp_ge (tgt := 69) X dX11_years_49 (by decide) h (fun h => ?_) (fun h => ?_)
  · obtain rfl := Option.some.inj h
    exact j_sub (ls' := [some (.ref 0), none, none]) ⟨Or.inr rfl, Or.inl rfl, Or.inl rfl, trivial⟩ kk
  · refine j_aload_n X 0 dX11_years_52 rfl rfl ?_
    obtain ⟨σ1, hm2, h⟩ := jbv_some h
    refine j_callV (as := []) (st := []) (st1 := []) X ln_0 ly_0 rfl rfl sv_RX11_181 ⟨by decide, by decide⟩ rfl rfl (Nat.le_of_ble_eq_true rfl) rfl dX11_years_53 jrv_v (c_X11_keepAct  hm2) rfl ?_
    refine j_aload_n X 0 dX11_years_56 rfl rfl ?_
    refine j_getR (t := 22) X fg_RX11_50 ln_0 ly_0 rfl dX11_years_57 ?_
    obtain ⟨σ3, hm4, h⟩ := jbv_some h
    refine j_callV (as := []) (st := []) (st1 := []) X ln_22 ly_22 rfl rfl sv_RX11_195 ⟨by decide, by decide⟩ rfl rfl (Nat.le_of_ble_eq_true rfl) rfl dX11_years_60 jrv_v (c_X5_pass jisP_22 hm4) rfl ?_
    refine j_iinc (v := (x2 + 1)) (ls' := [some (.ref 0), some (.int p1), some (.int (x2 + 1))]) X dX11_years_63 rfl rfl (Nat.le_of_ble_eq_true rfl) rfl ?_
    refine j_goto (tgt := 47) X dX11_years_66 (by decide) ?_
    exact ih (x2 + 1) σ3 _ h kk
theorem X11_years_L47_ok {K : jK} (X : JX K cX11_years 3 RX11 3 77) {p1 : Int32}  : ∀ (n : Nat) (s : Int32) (σ : jMem) (o : (Unit) × jMem), X11_years_L47 p1 n s σ = some o → (J K 69 [some (.ref 0), none, none] [] o.2) → J K 47 [some (.ref 0), some (.int p1), some (.int s)] [] σ := by
  intro n
  induction n with
  | zero => intro s σ o h; cases h
  | succ n ih => intro s σ o h; exact X11_years_L47_bok X  ih (s) σ o h
def f_X11_years (a0 : Int32) (σ : jMem) : Option (Int32 × jMem) :=
  if ¬ (σ.1 22 1) = 0 then
  if a0 < (1 : Int32) then
  some (((-1000001 : Int32), σ))
else
  if a0 ≤ (24 : Int32) then
  if ((σ.1 22 4) + a0) ≤ (999 : Int32) then
  jbd (X11_years_L47 (a0) jFU (0 : Int32) σ) (fun q5 σ6 =>
  jbd (f_X5_living 22 σ6) (fun v7 σ8 =>
  some ((v7, σ8))))
else
  some (((-1000003 : Int32), σ))
else
  some (((-1000001 : Int32), σ))
else
  some (((-1000002 : Int32), σ))
set_option maxRecDepth 100000 in
set_option maxHeartbeats 4000000 in
theorem c_X11_years {l : Launch} {D : va_G} {ad : Nat → Nat} {cid : Nat → ClassId} {a0 : Int32}  {σ : jMem} {r : Int32} {σ' : jMem} (h : f_X11_years a0 σ = some (r, σ')) : jMet l D ad cid yX11_years cX11_years 3 (some .int) 3 77 [.ref 0, .int a0] σ (some (.int r)) σ' := by
  refine jMet_of (ls0 := [some (.ref 0), some (.int a0), none]) (by decide) (Nat.le_of_ble_eq_true rfl) rfl (fun K X R0 _ => ?_)
  unfold f_X11_years at h
  refine j_aload_n X 0 dX11_years_0 rfl rfl ?_
  refine j_getR (t := 22) X fg_RX11_50 ln_0 ly_0 rfl dX11_years_1 ?_
  refine j_getI X fg_RX11_170 ln_22 ly_22 rfl dX11_years_4 ?_
  refine j_if_ne (tgt := 13) X dX11_years_7 (by decide) h (fun h => ?_) (fun h => ?_)
  · refine j_iload_n X 1 dX11_years_13 rfl rfl ?_
    refine j_iconst (v := 1) X dX11_years_14 (by decide) ?_
    refine j_icmp_lt (tgt := 24) X dX11_years_15 (by decide) h (fun h => ?_) (fun h => ?_)
    · refine j_ldc (v := -1000001) X tw_318 dX11_years_24 ?_
      obtain ⟨rfl, rfl⟩ := jin2 h
      exact j_iret X R0 dX11_years_26
    · refine j_iload_n X 1 dX11_years_18 rfl rfl ?_
      refine j_bipush (v := 24) X dX11_years_19 (by decide) ?_
      refine j_icmp_le (tgt := 27) X dX11_years_21 (by decide) h (fun h => ?_) (fun h => ?_)
      · refine j_aload_n X 0 dX11_years_27 rfl rfl ?_
        refine j_getR (t := 22) X fg_RX11_50 ln_0 ly_0 rfl dX11_years_28 ?_
        refine j_getI X fg_RX11_192 ln_22 ly_22 rfl dX11_years_31 ?_
        refine j_iload_n X 1 dX11_years_34 rfl rfl ?_
        refine j_iadd X dX11_years_35 ?_
        refine j_sipush (v := 999) X dX11_years_36 (by decide) ?_
        refine j_icmp_le (tgt := 45) X dX11_years_39 (by decide) h (fun h => ?_) (fun h => ?_)
        · refine j_iconst (v := 0) X dX11_years_45 (by decide) ?_
          refine j_istore_n (ls' := [some (.ref 0), some (.int a0), some (.int (0 : Int32))]) X 2 dX11_years_46 rfl (Nat.le_of_ble_eq_true rfl) rfl ?_
          obtain ⟨q5, σ6, hL10, h⟩ := jbd_some h
          refine X11_years_L47_ok X  jFU (0 : Int32) σ _ hL10 ?_
          refine j_aload_n X 0 dX11_years_69 rfl rfl ?_
          refine j_getR (t := 22) X fg_RX11_50 ln_0 ly_0 rfl dX11_years_70 ?_
          obtain ⟨v7, σ8, hm9, h⟩ := jbd_some h
          refine j_callV (as := []) (st := []) (st1 := [.int v7]) X ln_22 ly_22 rfl rfl sv_RX11_198 ⟨by decide, by decide⟩ rfl rfl (Nat.le_of_ble_eq_true rfl) rfl dX11_years_73 jrv_i (c_X5_living jisP_22 hm9) rfl ?_
          obtain ⟨rfl, rfl⟩ := jin2 h
          exact j_iret X R0 dX11_years_76
        · refine j_ldc (v := -1000003) X tw_369 dX11_years_42 ?_
          obtain ⟨rfl, rfl⟩ := jin2 h
          exact j_iret X R0 dX11_years_44
      · refine j_ldc (v := -1000001) X tw_318 dX11_years_24 ?_
        obtain ⟨rfl, rfl⟩ := jin2 h
        exact j_iret X R0 dX11_years_26
  · refine j_ldc (v := -1000002) X tw_458 dX11_years_10 ?_
    obtain ⟨rfl, rfl⟩ := jin2 h
    exact j_iret X R0 dX11_years_12
def f_X11_isOneOfTwo (a0 : Int32) (σ : jMem) : Option (Int32 × jMem) :=
  if a0 = 0 then
  some (((1 : Int32), σ))
else
  if ¬ a0 = (1 : Int32) then
  some (((0 : Int32), σ))
else
  some (((1 : Int32), σ))
set_option maxRecDepth 100000 in
set_option maxHeartbeats 4000000 in
theorem c_X11_isOneOfTwo {l : Launch} {D : va_G} {ad : Nat → Nat} {cid : Nat → ClassId} {a0 : Int32}  {σ : jMem} {r : Int32} {σ' : jMem} (h : f_X11_isOneOfTwo a0 σ = some (r, σ')) : jMet l D ad cid yX11_isOneOfTwo cX11_isOneOfTwo 1 (some .boolean) 0 0 [.int a0] σ (some (.int r)) σ' := by
  refine jMet_of (ls0 := [some (.int a0)]) (by decide) (Nat.le_of_ble_eq_true rfl) rfl (fun K X R0 _ => ?_)
  unfold f_X11_isOneOfTwo at h
  refine j_iload_n X 0 dX11_isOneOfTwo_0 rfl rfl ?_
  refine j_if_eq (tgt := 9) X dX11_isOneOfTwo_1 (by decide) h (fun h => ?_) (fun h => ?_)
  · refine j_iconst (v := 1) X dX11_isOneOfTwo_9 (by decide) ?_
    refine j_goto (tgt := 14) X dX11_isOneOfTwo_10 (by decide) ?_
    obtain ⟨rfl, rfl⟩ := jin2 h
    exact j_zret X R0 rfl dX11_isOneOfTwo_14
  · refine j_iload_n X 0 dX11_isOneOfTwo_4 rfl rfl ?_
    refine j_iconst (v := 1) X dX11_isOneOfTwo_5 (by decide) ?_
    refine j_icmp_ne (tgt := 13) X dX11_isOneOfTwo_6 (by decide) h (fun h => ?_) (fun h => ?_)
    · refine j_iconst (v := 0) X dX11_isOneOfTwo_13 (by decide) ?_
      obtain ⟨rfl, rfl⟩ := jin2 h
      exact j_zret X R0 rfl dX11_isOneOfTwo_14
    · refine j_iconst (v := 1) X dX11_isOneOfTwo_9 (by decide) ?_
      refine j_goto (tgt := 14) X dX11_isOneOfTwo_10 (by decide) ?_
      obtain ⟨rfl, rfl⟩ := jin2 h
      exact j_zret X R0 rfl dX11_isOneOfTwo_14
