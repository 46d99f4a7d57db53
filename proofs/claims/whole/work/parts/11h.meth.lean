def X11_must_L63_b (p1 : Int32) (p2 : Int32) (p3 : Int32) (rec : Int32 × Int32 → jMem → Option ((Int32) × jMem)) (x4 : Int32) (x5 : Int32) (σ : jMem) : Option ((Int32) × jMem) :=
  if (σ.1 22 5) ≤ x5 then
  some (x4, σ)
else
  jbd (f_X11_bitOf p3 x5 σ) (fun v11 σ12 =>
  if ¬ v11 = (1 : Int32) then
  rec (x4, (x5 + 1)) σ12
else
  jbd (f_X2_carry 22 (p2 &&& (((1 : Int32) <<< (x5 &&& 31)) ^^^ (-1 : Int32))) p1 σ12) (fun v14 σ15 =>
  if ¬ v14 = 0 then
  rec (x4, (x5 + 1)) σ15
else
  jlet ((x4 ||| ((1 : Int32) <<< (x5 &&& 31)))) (fun v17 =>
  rec (v17, (x5 + 1)) σ15)))
def X11_must_L63 (p1 : Int32) (p2 : Int32) (p3 : Int32) : Nat → Int32 × Int32 → jMem → Option ((Int32) × jMem) := jloop (fun rec s σ => X11_must_L63_b p1 p2 p3 rec s.1 s.2 σ)
set_option maxRecDepth 100000 in
set_option maxHeartbeats 4000000 in
theorem X11_must_L63_bok {K : jK} (X : JX K cX11_must 6 RX11 3 75) {p1 : Int32} {p2 : Int32} {p3 : Int32}  {rec : Int32 × Int32 → jMem → Option ((Int32) × jMem)} (ih : ∀ (s : Int32 × Int32) (σ : jMem) (o : (Int32) × jMem), rec s σ = some o → (J K 123 [none, none, none, none, some (.int o.1), none] [] o.2) → J K 63 [some (.ref 0), some (.int p1), some (.int p2), some (.int p3), some (.int s.1), some (.int s.2)] [] σ) : ∀ (x4 : Int32) (x5 : Int32) (σ : jMem) (o : (Int32) × jMem), X11_must_L63_b p1 p2 p3 rec x4 x5 σ = some o → (J K 123 [none, none, none, none, some (.int o.1), none] [] o.2) → J K 63 [some (.ref 0), some (.int p1), some (.int p2), some (.int p3), some (.int x4), some (.int x5)] [] σ := by
  intro x4 x5 σ o h kk
  unfold X11_must_L63_b at h
  refine j_iload X dX11_must_63 rfl ?_
  refine j_aload_n X 0 dX11_must_65 rfl rfl ?_
  refine j_getR (t := 22) X fg_RX11_50 ln_0 ly_0 rfl dX11_must_66 ?_
  refine j_getI X fg_RX11_153 ln_22 ly_22 rfl dX11_must_69 ?_
  refine j_icmp_ge (tgt := 123) X dX11_must_72 (by decide) h (fun h => ?_) (fun h => ?_)
  · obtain rfl := Option.some.inj h
    exact j_sub (ls' := [none, none, none, none, some (.int x4), none]) ⟨Or.inl rfl, Or.inl rfl, Or.inl rfl, Or.inl rfl, Or.inr rfl, Or.inl rfl, trivial⟩ kk
  · refine j_iload_n X 3 dX11_must_75 rfl rfl ?_
    refine j_iload X dX11_must_76 rfl ?_
    obtain ⟨v11, σ12, hm13, h⟩ := jbd_some h
    refine j_callS (as := [.int p3, .int x5]) (st := []) (st1 := [.int v11]) X ss_RX11_210 ⟨by decide, by decide⟩ rfl rfl (Nat.le_of_ble_eq_true rfl) rfl dX11_must_78 jrv_i (c_X11_bitOf  hm13) rfl ?_
    refine j_iconst (v := 1) X dX11_must_81 (by decide) ?_
    refine j_icmp_ne (tgt := 117) X dX11_must_82 (by decide) h (fun h => ?_) (fun h => ?_)
    · refine j_iinc (v := (x5 + 1)) (ls' := [some (.ref 0), some (.int p1), some (.int p2), some (.int p3), some (.int x4), some (.int (x5 + 1))]) X dX11_must_117 rfl rfl (Nat.le_of_ble_eq_true rfl) rfl ?_
      refine j_goto (tgt := 63) X dX11_must_120 (by decide) ?_
      exact ih (x4, (x5 + 1)) σ12 _ h kk
    · refine j_aload_n X 0 dX11_must_85 rfl rfl ?_
      refine j_getR (t := 80) X fg_RX11_69 ln_0 ly_0 rfl dX11_must_86 ?_
      refine j_aload_n X 0 dX11_must_89 rfl rfl ?_
      refine j_getR (t := 22) X fg_RX11_50 ln_0 ly_0 rfl dX11_must_90 ?_
      refine j_iload_n X 2 dX11_must_93 rfl rfl ?_
      refine j_iconst (v := 1) X dX11_must_94 (by decide) ?_
      refine j_iload X dX11_must_95 rfl ?_
      refine j_ishl X dX11_must_97 ?_
      refine j_iconst (v := -1) X dX11_must_98 (by decide) ?_
      refine j_ixor X dX11_must_99 ?_
      refine j_iand X dX11_must_100 ?_
      refine j_iload_n X 1 dX11_must_101 rfl rfl ?_
      obtain ⟨v14, σ15, hm16, h⟩ := jbd_some h
      refine j_callV (as := [.ref 22, .int (p2 &&& (((1 : Int32) <<< (x5 &&& 31)) ^^^ (-1 : Int32))), .int p1]) (st := []) (st1 := [.int v14]) X ln_80 ly_80 rfl rfl sv_RX11_251 ⟨by decide, by decide⟩ rfl rfl (Nat.le_of_ble_eq_true rfl) rfl dX11_must_102 jrv_i (c_X2_carry jisP_22 hm16) rfl ?_
      refine j_if_ne (tgt := 117) X dX11_must_105 (by decide) h (fun h => ?_) (fun h => ?_)
      · refine j_iinc (v := (x5 + 1)) (ls' := [some (.ref 0), some (.int p1), some (.int p2), some (.int p3), some (.int x4), some (.int (x5 + 1))]) X dX11_must_117 rfl rfl (Nat.le_of_ble_eq_true rfl) rfl ?_
        refine j_goto (tgt := 63) X dX11_must_120 (by decide) ?_
        exact ih (x4, (x5 + 1)) σ15 _ h kk
      · refine j_iload X dX11_must_108 rfl ?_
        refine j_iconst (v := 1) X dX11_must_110 (by decide) ?_
        refine j_iload X dX11_must_111 rfl ?_
        refine j_ishl X dX11_must_113 ?_
        refine j_ior X dX11_must_114 ?_
        refine j_letI h (fun v17 h => ?_)
        refine j_istore (ls' := [some (.ref 0), some (.int p1), some (.int p2), some (.int p3), some (.int v17), some (.int x5)]) X dX11_must_115 (Nat.le_of_ble_eq_true rfl) rfl ?_
        refine j_iinc (v := (x5 + 1)) (ls' := [some (.ref 0), some (.int p1), some (.int p2), some (.int p3), some (.int v17), some (.int (x5 + 1))]) X dX11_must_117 rfl rfl (Nat.le_of_ble_eq_true rfl) rfl ?_
        refine j_goto (tgt := 63) X dX11_must_120 (by decide) ?_
        exact ih (v17, (x5 + 1)) σ15 _ h kk
theorem X11_must_L63_ok {K : jK} (X : JX K cX11_must 6 RX11 3 75) {p1 : Int32} {p2 : Int32} {p3 : Int32}  : ∀ (n : Nat) (s : Int32 × Int32) (σ : jMem) (o : (Int32) × jMem), X11_must_L63 p1 p2 p3 n s σ = some o → (J K 123 [none, none, none, none, some (.int o.1), none] [] o.2) → J K 63 [some (.ref 0), some (.int p1), some (.int p2), some (.int p3), some (.int s.1), some (.int s.2)] [] σ := by
  intro n
  induction n with
  | zero => intro s σ o h; cases h
  | succ n ih => intro s σ o h; exact X11_must_L63_bok X  ih (s.1) (s.2) σ o h
def f_X11_must (a0 : Int32) (σ : jMem) : Option (Int32 × jMem) :=
  if ¬ (σ.1 22 1) = 0 then
  jbd (f_X11_isField a0 σ) (fun v1 σ2 =>
  if ¬ v1 = 0 then
  jbd (f_X5_open 22 σ2) (fun v4 σ5 =>
  jbd (f_X2_carry 22 v4 a0 σ5) (fun v7 σ8 =>
  if ¬ v7 = 0 then
  jlet ((σ8.1 80 1)) (fun v10 =>
  jbd (X11_must_L63 (a0) (v4) (v10) jFU ((0 : Int32), (0 : Int32)) σ8) (fun q18 σ19 =>
  some ((q18, σ19))))
else
  some (((0 : Int32), σ8))))
else
  some (((-1000001 : Int32), σ2)))
else
  some (((-1000002 : Int32), σ))
set_option maxRecDepth 100000 in
set_option maxHeartbeats 4000000 in
theorem c_X11_must {l : Launch} {D : va_G} {ad : Nat → Nat} {cid : Nat → ClassId} {a0 : Int32}  {σ : jMem} {r : Int32} {σ' : jMem} (h : f_X11_must a0 σ = some (r, σ')) : jMet l D ad cid yX11_must cX11_must 6 (some .int) 3 75 [.ref 0, .int a0] σ (some (.int r)) σ' := by
  refine jMet_of (ls0 := [some (.ref 0), some (.int a0), none, none, none, none]) (by decide) (Nat.le_of_ble_eq_true rfl) rfl (fun K X R0 _ => ?_)
  unfold f_X11_must at h
  refine j_aload_n X 0 dX11_must_0 rfl rfl ?_
  refine j_getR (t := 22) X fg_RX11_50 ln_0 ly_0 rfl dX11_must_1 ?_
  refine j_getI X fg_RX11_170 ln_22 ly_22 rfl dX11_must_4 ?_
  refine j_if_ne (tgt := 13) X dX11_must_7 (by decide) h (fun h => ?_) (fun h => ?_)
  · refine j_iload_n X 1 dX11_must_13 rfl rfl ?_
    obtain ⟨v1, σ2, hm3, h⟩ := jbd_some h
    refine j_callS (as := [.int a0]) (st := []) (st1 := [.int v1]) X ss_RX11_174 ⟨by decide, by decide⟩ rfl rfl (Nat.le_of_ble_eq_true rfl) rfl dX11_must_14 jrv_i (c_X11_isField  hm3) rfl ?_
    refine j_if_ne (tgt := 23) X dX11_must_17 (by decide) h (fun h => ?_) (fun h => ?_)
    · refine j_aload_n X 0 dX11_must_23 rfl rfl ?_
      refine j_getR (t := 22) X fg_RX11_50 ln_0 ly_0 rfl dX11_must_24 ?_
      obtain ⟨v4, σ5, hm6, h⟩ := jbd_some h
      refine j_callV (as := []) (st := []) (st1 := [.int v4]) X ln_22 ly_22 rfl rfl sv_RX11_248 ⟨by decide, by decide⟩ rfl rfl (Nat.le_of_ble_eq_true rfl) rfl dX11_must_27 jrv_i (c_X5_open jisP_22 hm6) rfl ?_
      refine j_istore_n (ls' := [some (.ref 0), some (.int a0), some (.int v4), none, none, none]) X 2 dX11_must_30 rfl (Nat.le_of_ble_eq_true rfl) rfl ?_
      refine j_aload_n X 0 dX11_must_31 rfl rfl ?_
      refine j_getR (t := 80) X fg_RX11_69 ln_0 ly_0 rfl dX11_must_32 ?_
      refine j_aload_n X 0 dX11_must_35 rfl rfl ?_
      refine j_getR (t := 22) X fg_RX11_50 ln_0 ly_0 rfl dX11_must_36 ?_
      refine j_iload_n X 2 dX11_must_39 rfl rfl ?_
      refine j_iload_n X 1 dX11_must_40 rfl rfl ?_
      obtain ⟨v7, σ8, hm9, h⟩ := jbd_some h
      refine j_callV (as := [.ref 22, .int v4, .int a0]) (st := []) (st1 := [.int v7]) X ln_80 ly_80 rfl rfl sv_RX11_251 ⟨by decide, by decide⟩ rfl rfl (Nat.le_of_ble_eq_true rfl) rfl dX11_must_41 jrv_i (c_X2_carry jisP_22 hm9) rfl ?_
      refine j_if_ne (tgt := 49) X dX11_must_44 (by decide) h (fun h => ?_) (fun h => ?_)
      · refine j_aload_n X 0 dX11_must_49 rfl rfl ?_
        refine j_getR (t := 80) X fg_RX11_69 ln_0 ly_0 rfl dX11_must_50 ?_
        refine j_getI X fg_RX11_258 ln_80 ly_80 rfl dX11_must_53 ?_
        refine j_letI h (fun v10 h => ?_)
        refine j_istore_n (ls' := [some (.ref 0), some (.int a0), some (.int v4), some (.int v10), none, none]) X 3 dX11_must_56 rfl (Nat.le_of_ble_eq_true rfl) rfl ?_
        refine j_iconst (v := 0) X dX11_must_57 (by decide) ?_
        refine j_istore (ls' := [some (.ref 0), some (.int a0), some (.int v4), some (.int v10), some (.int (0 : Int32)), none]) X dX11_must_58 (Nat.le_of_ble_eq_true rfl) rfl ?_
        refine j_iconst (v := 0) X dX11_must_60 (by decide) ?_
        refine j_istore (ls' := [some (.ref 0), some (.int a0), some (.int v4), some (.int v10), some (.int (0 : Int32)), some (.int (0 : Int32))]) X dX11_must_61 (Nat.le_of_ble_eq_true rfl) rfl ?_
        obtain ⟨q18, σ19, hL20, h⟩ := jbd_some h
        refine X11_must_L63_ok X  jFU ((0 : Int32), (0 : Int32)) σ8 _ hL20 ?_
        refine j_iload X dX11_must_123 rfl ?_
        obtain ⟨rfl, rfl⟩ := jin2 h
        exact j_iret X R0 dX11_must_125
      · refine j_iconst (v := 0) X dX11_must_47 (by decide) ?_
        obtain ⟨rfl, rfl⟩ := jin2 h
        exact j_iret X R0 dX11_must_48
    · refine j_ldc (v := -1000001) X tw_318 dX11_must_20 ?_
      obtain ⟨rfl, rfl⟩ := jin2 h
      exact j_iret X R0 dX11_must_22
  · refine j_ldc (v := -1000002) X tw_458 dX11_must_10 ?_
    obtain ⟨rfl, rfl⟩ := jin2 h
    exact j_iret X R0 dX11_must_12
