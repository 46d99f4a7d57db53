def X11_best_L32_b (p1 : Int32) (rec : Int32 × Int32 × Int32 → jMem → Option ((Int32 × Int32) × jMem)) (x2 : Int32) (x3 : Int32) (x4 : Int32) (σ : jMem) : Option ((Int32 × Int32) × jMem) :=
  if (8 : Int32) ≤ x4 then
  some ((x2, x3), σ)
else
  jbd (f_X11_newWays x4 σ) (fun v4 σ5 =>
  if v4 ≤ x3 then
  rec (x2, x3, (x4 + 1)) σ5
else
  rec (x4, v4, (x4 + 1)) σ5)
def X11_best_L32 (p1 : Int32) : Nat → Int32 × Int32 × Int32 → jMem → Option ((Int32 × Int32) × jMem) := jloop (fun rec s σ => X11_best_L32_b p1 rec s.1 s.2.1 s.2.2 σ)
set_option maxRecDepth 100000 in
set_option maxHeartbeats 4000000 in
theorem X11_best_L32_bok {K : jK} (X : JX K cX11_best 6 RX11 6 136) {p1 : Int32}  {rec : Int32 × Int32 × Int32 → jMem → Option ((Int32 × Int32) × jMem)} (ih : ∀ (s : Int32 × Int32 × Int32) (σ : jMem) (o : (Int32 × Int32) × jMem), rec s σ = some o → (J K 65 [none, some (.int p1), some (.int o.1.1), some (.int o.1.2), none, none] [] o.2) → J K 32 [some (.ref 0), some (.int p1), some (.int s.1), some (.int s.2.1), some (.int s.2.2), none] [] σ) : ∀ (x2 : Int32) (x3 : Int32) (x4 : Int32) (σ : jMem) (o : (Int32 × Int32) × jMem), X11_best_L32_b p1 rec x2 x3 x4 σ = some o → (J K 65 [none, some (.int p1), some (.int o.1.1), some (.int o.1.2), none, none] [] o.2) → J K 32 [some (.ref 0), some (.int p1), some (.int x2), some (.int x3), some (.int x4), none] [] σ := by
  intro x2 x3 x4 σ o h kk
  unfold X11_best_L32_b at h
  refine j_iload X dX11_best_32 rfl ?_
  refine j_bipush (v := 8) X dX11_best_34 (by decide) ?_
  refine j_icmp_ge (tgt := 65) X dX11_best_36 (by decide) h (fun h => ?_) (fun h => ?_)
  · obtain rfl := Option.some.inj h
    exact j_sub (ls' := [none, some (.int p1), some (.int x2), some (.int x3), none, none]) ⟨Or.inl rfl, Or.inr rfl, Or.inr rfl, Or.inr rfl, Or.inl rfl, Or.inl rfl, trivial⟩ kk
  · refine j_aload_n X 0 dX11_best_39 rfl rfl ?_
    refine j_iload X dX11_best_40 rfl ?_
    obtain ⟨v4, σ5, hm6, h⟩ := jbd_some h
    refine j_callV (as := [.int x4]) (st := []) (st1 := [.int v4]) X ln_0 ly_0 rfl rfl sv_RX11_279 ⟨by decide, by decide⟩ rfl rfl (Nat.le_of_ble_eq_true rfl) rfl dX11_best_42 jrv_i (c_X11_newWays  hm6) rfl ?_
    refine j_istore (ls' := [some (.ref 0), some (.int p1), some (.int x2), some (.int x3), some (.int x4), some (.int v4)]) X dX11_best_45 (Nat.le_of_ble_eq_true rfl) rfl ?_
    refine j_iload X dX11_best_47 rfl ?_
    refine j_iload_n X 3 dX11_best_49 rfl rfl ?_
    refine j_icmp_le (tgt := 59) X dX11_best_50 (by decide) h (fun h => ?_) (fun h => ?_)
    · refine j_iinc (v := (x4 + 1)) (ls' := [some (.ref 0), some (.int p1), some (.int x2), some (.int x3), some (.int (x4 + 1)), some (.int v4)]) X dX11_best_59 rfl rfl (Nat.le_of_ble_eq_true rfl) rfl ?_
      refine j_goto (tgt := 32) X dX11_best_62 (by decide) ?_
      exact j_sub (ls' := [some (.ref 0), some (.int p1), some (.int x2), some (.int x3), some (.int (x4 + 1)), none]) ⟨Or.inr rfl, Or.inr rfl, Or.inr rfl, Or.inr rfl, Or.inr rfl, Or.inl rfl, trivial⟩ (ih (x2, x3, (x4 + 1)) σ5 _ h kk)
    · refine j_iload X dX11_best_53 rfl ?_
      refine j_istore_n (ls' := [some (.ref 0), some (.int p1), some (.int x4), some (.int x3), some (.int x4), some (.int v4)]) X 2 dX11_best_55 rfl (Nat.le_of_ble_eq_true rfl) rfl ?_
      refine j_iload X dX11_best_56 rfl ?_
      refine j_istore_n (ls' := [some (.ref 0), some (.int p1), some (.int x4), some (.int v4), some (.int x4), some (.int v4)]) X 3 dX11_best_58 rfl (Nat.le_of_ble_eq_true rfl) rfl ?_
      refine j_iinc (v := (x4 + 1)) (ls' := [some (.ref 0), some (.int p1), some (.int x4), some (.int v4), some (.int (x4 + 1)), some (.int v4)]) X dX11_best_59 rfl rfl (Nat.le_of_ble_eq_true rfl) rfl ?_
      refine j_goto (tgt := 32) X dX11_best_62 (by decide) ?_
      exact j_sub (ls' := [some (.ref 0), some (.int p1), some (.int x4), some (.int v4), some (.int (x4 + 1)), none]) ⟨Or.inr rfl, Or.inr rfl, Or.inr rfl, Or.inr rfl, Or.inr rfl, Or.inl rfl, trivial⟩ (ih (x4, v4, (x4 + 1)) σ5 _ h kk)
theorem X11_best_L32_ok {K : jK} (X : JX K cX11_best 6 RX11 6 136) {p1 : Int32}  : ∀ (n : Nat) (s : Int32 × Int32 × Int32) (σ : jMem) (o : (Int32 × Int32) × jMem), X11_best_L32 p1 n s σ = some o → (J K 65 [none, some (.int p1), some (.int o.1.1), some (.int o.1.2), none, none] [] o.2) → J K 32 [some (.ref 0), some (.int p1), some (.int s.1), some (.int s.2.1), some (.int s.2.2), none] [] σ := by
  intro n
  induction n with
  | zero => intro s σ o h; cases h
  | succ n ih => intro s σ o h; exact X11_best_L32_bok X  ih (s.1) (s.2.1) (s.2.2) σ o h
def f_X11_best (a0 : Int32) (σ : jMem) : Option (Int32 × jMem) :=
  if ¬ (σ.1 22 1) = 0 then
  jbd (f_X11_isOneOfTwo a0 σ) (fun v1 σ2 =>
  if ¬ v1 = 0 then
  jbd (X11_best_L32 (a0) jFU ((-1000000 : Int32), (-1000000 : Int32), (0 : Int32)) σ2) (fun q7 σ8 =>
  if ¬ a0 = 0 then
  some ((q7.2, σ8))
else
  some ((q7.1, σ8)))
else
  some (((-1000001 : Int32), σ2)))
else
  some (((-1000002 : Int32), σ))
set_option maxRecDepth 100000 in
set_option maxHeartbeats 4000000 in
theorem c_X11_best {l : Launch} {D : va_G} {ad : Nat → Nat} {cid : Nat → ClassId} {a0 : Int32}  {σ : jMem} {r : Int32} {σ' : jMem} (h : f_X11_best a0 σ = some (r, σ')) : jMet l D ad cid yX11_best cX11_best 6 (some .int) 6 136 [.ref 0, .int a0] σ (some (.int r)) σ' := by
  refine jMet_of (ls0 := [some (.ref 0), some (.int a0), none, none, none, none]) (by decide) (Nat.le_of_ble_eq_true rfl) rfl (fun K X R0 _ => ?_)
  unfold f_X11_best at h
  refine j_aload_n X 0 dX11_best_0 rfl rfl ?_
  refine j_getR (t := 22) X fg_RX11_50 ln_0 ly_0 rfl dX11_best_1 ?_
  refine j_getI X fg_RX11_170 ln_22 ly_22 rfl dX11_best_4 ?_
  refine j_if_ne (tgt := 13) X dX11_best_7 (by decide) h (fun h => ?_) (fun h => ?_)
  · refine j_iload_n X 1 dX11_best_13 rfl rfl ?_
    obtain ⟨v1, σ2, hm3, h⟩ := jbd_some h
    refine j_callS (as := [.int a0]) (st := []) (st1 := [.int v1]) X ss_RX11_204 ⟨by decide, by decide⟩ rfl rfl (Nat.le_of_ble_eq_true rfl) rfl dX11_best_14 jrv_i (c_X11_isOneOfTwo  hm3) rfl ?_
    refine j_if_ne (tgt := 23) X dX11_best_17 (by decide) h (fun h => ?_) (fun h => ?_)
    · refine j_ldc (v := -1000000) X tw_646 dX11_best_23 ?_
      refine j_istore_n (ls' := [some (.ref 0), some (.int a0), some (.int (-1000000 : Int32)), none, none, none]) X 2 dX11_best_25 rfl (Nat.le_of_ble_eq_true rfl) rfl ?_
      refine j_ldc (v := -1000000) X tw_646 dX11_best_26 ?_
      refine j_istore_n (ls' := [some (.ref 0), some (.int a0), some (.int (-1000000 : Int32)), some (.int (-1000000 : Int32)), none, none]) X 3 dX11_best_28 rfl (Nat.le_of_ble_eq_true rfl) rfl ?_
      refine j_iconst (v := 0) X dX11_best_29 (by decide) ?_
      refine j_istore (ls' := [some (.ref 0), some (.int a0), some (.int (-1000000 : Int32)), some (.int (-1000000 : Int32)), some (.int (0 : Int32)), none]) X dX11_best_30 (Nat.le_of_ble_eq_true rfl) rfl ?_
      obtain ⟨q7, σ8, hL9, h⟩ := jbd_some h
      refine X11_best_L32_ok X  jFU ((-1000000 : Int32), (-1000000 : Int32), (0 : Int32)) σ2 _ hL9 ?_
      refine j_iload_n X 1 dX11_best_65 rfl rfl ?_
      refine j_if_ne (tgt := 73) X dX11_best_66 (by decide) h (fun h => ?_) (fun h => ?_)
      · refine j_iload_n X 3 dX11_best_73 rfl rfl ?_
        obtain ⟨rfl, rfl⟩ := jin2 h
        exact j_iret X R0 dX11_best_74
      · refine j_iload_n X 2 dX11_best_69 rfl rfl ?_
        refine j_goto (tgt := 74) X dX11_best_70 (by decide) ?_
        obtain ⟨rfl, rfl⟩ := jin2 h
        exact j_iret X R0 dX11_best_74
    · refine j_ldc (v := -1000001) X tw_318 dX11_best_20 ?_
      obtain ⟨rfl, rfl⟩ := jin2 h
      exact j_iret X R0 dX11_best_22
  · refine j_ldc (v := -1000002) X tw_458 dX11_best_10 ?_
    obtain ⟨rfl, rfl⟩ := jin2 h
    exact j_iret X R0 dX11_best_12
