def X11_from_L63_b (p4 : Int32) (rec : Int32 × Int32 → jMem → Option ((Int32) × jMem)) (x5 : Int32) (x6 : Int32) (σ : jMem) : Option ((Int32) × jMem) :=
  if (8 : Int32) ≤ x6 then
  some (x5, σ)
else
  jbd (f_X2_isBurial 22 x6 σ) (fun v9 σ10 =>
  if v9 = 0 then
  rec (x5, (x6 + 1)) σ10
else
  jbd (f_X5_waysBehind 22 σ10) (fun v12 σ13 =>
  if ¬ v12 = p4 then
  rec (x5, (x6 + 1)) σ13
else
  jlet ((x5 ||| ((1 : Int32) <<< (x6 &&& 31)))) (fun v15 =>
  rec (v15, (x6 + 1)) σ13)))
def X11_from_L63 (p4 : Int32) : Nat → Int32 × Int32 → jMem → Option ((Int32) × jMem) := jloop (fun rec s σ => X11_from_L63_b p4 rec s.1 s.2 σ)
set_option maxRecDepth 100000 in
set_option maxHeartbeats 4000000 in
theorem X11_from_L63_bok {K : jK} (X : JX K cX11_from 7 RX11 5 115) {p4 : Int32}  {rec : Int32 × Int32 → jMem → Option ((Int32) × jMem)} (ih : ∀ (s : Int32 × Int32) (σ : jMem) (o : (Int32) × jMem), rec s σ = some o → (J K 117 [some (.ref 0), none, none, none, none, some (.int o.1), none] [] o.2) → J K 63 [some (.ref 0), none, none, none, some (.int p4), some (.int s.1), some (.int s.2)] [] σ) : ∀ (x5 : Int32) (x6 : Int32) (σ : jMem) (o : (Int32) × jMem), X11_from_L63_b p4 rec x5 x6 σ = some o → (J K 117 [some (.ref 0), none, none, none, none, some (.int o.1), none] [] o.2) → J K 63 [some (.ref 0), none, none, none, some (.int p4), some (.int x5), some (.int x6)] [] σ := by
  intro x5 x6 σ o h kk
  unfold X11_from_L63_b at h
  refine j_iload X dX11_from_63 rfl ?_
  refine j_bipush (v := 8) X dX11_from_65 (by decide) ?_
  refine j_icmp_ge (tgt := 117) X dX11_from_67 (by decide) h (fun h => ?_) (fun h => ?_)
  · obtain rfl := Option.some.inj h
    exact j_sub (ls' := [some (.ref 0), none, none, none, none, some (.int x5), none]) ⟨Or.inr rfl, Or.inl rfl, Or.inl rfl, Or.inl rfl, Or.inl rfl, Or.inr rfl, Or.inl rfl, trivial⟩ kk
  · refine j_aload_n X 0 dX11_from_70 rfl rfl ?_
    refine j_getR (t := 80) X fg_RX11_69 ln_0 ly_0 rfl dX11_from_71 ?_
    refine j_aload_n X 0 dX11_from_74 rfl rfl ?_
    refine j_getR (t := 22) X fg_RX11_50 ln_0 ly_0 rfl dX11_from_75 ?_
    refine j_iload X dX11_from_78 rfl ?_
    obtain ⟨v9, σ10, hm11, h⟩ := jbd_some h
    refine j_callV (as := [.ref 22, .int x6]) (st := []) (st1 := [.int v9]) X ln_80 ly_80 rfl rfl sv_RX11_177 ⟨by decide, by decide⟩ rfl rfl (Nat.le_of_ble_eq_true rfl) rfl dX11_from_80 jrv_i (c_X2_isBurial jisP_22 hm11) rfl ?_
    refine j_if_eq (tgt := 111) X dX11_from_83 (by decide) h (fun h => ?_) (fun h => ?_)
    · refine j_iinc (v := (x6 + 1)) (ls' := [some (.ref 0), none, none, none, some (.int p4), some (.int x5), some (.int (x6 + 1))]) X dX11_from_111 rfl rfl (Nat.le_of_ble_eq_true rfl) rfl ?_
      refine j_goto (tgt := 63) X dX11_from_114 (by decide) ?_
      exact ih (x5, (x6 + 1)) σ10 _ h kk
    · refine j_aload_n X 0 dX11_from_86 rfl rfl ?_
      refine j_getR (t := 22) X fg_RX11_50 ln_0 ly_0 rfl dX11_from_87 ?_
      refine j_aload_n X 0 dX11_from_90 rfl rfl ?_
      refine j_getR (t := 80) X fg_RX11_69 ln_0 ly_0 rfl dX11_from_91 ?_
      obtain ⟨v12, σ13, hm14, h⟩ := jbd_some h
      refine j_callV (as := [.ref 80]) (st := []) (st1 := [.int v12]) X ln_22 ly_22 rfl rfl sv_RX11_282 ⟨by decide, by decide⟩ rfl rfl (Nat.le_of_ble_eq_true rfl) rfl dX11_from_94 jrv_i (c_X5_waysBehind jisP_22 hm14) rfl ?_
      refine j_iload X dX11_from_97 rfl ?_
      refine j_icmp_ne (tgt := 111) X dX11_from_99 (by decide) h (fun h => ?_) (fun h => ?_)
      · refine j_iinc (v := (x6 + 1)) (ls' := [some (.ref 0), none, none, none, some (.int p4), some (.int x5), some (.int (x6 + 1))]) X dX11_from_111 rfl rfl (Nat.le_of_ble_eq_true rfl) rfl ?_
        refine j_goto (tgt := 63) X dX11_from_114 (by decide) ?_
        exact ih (x5, (x6 + 1)) σ13 _ h kk
      · refine j_iload X dX11_from_102 rfl ?_
        refine j_iconst (v := 1) X dX11_from_104 (by decide) ?_
        refine j_iload X dX11_from_105 rfl ?_
        refine j_ishl X dX11_from_107 ?_
        refine j_ior X dX11_from_108 ?_
        refine j_letI h (fun v15 h => ?_)
        refine j_istore (ls' := [some (.ref 0), none, none, none, some (.int p4), some (.int v15), some (.int x6)]) X dX11_from_109 (Nat.le_of_ble_eq_true rfl) rfl ?_
        refine j_iinc (v := (x6 + 1)) (ls' := [some (.ref 0), none, none, none, some (.int p4), some (.int v15), some (.int (x6 + 1))]) X dX11_from_111 rfl rfl (Nat.le_of_ble_eq_true rfl) rfl ?_
        refine j_goto (tgt := 63) X dX11_from_114 (by decide) ?_
        exact ih (v15, (x6 + 1)) σ13 _ h kk
theorem X11_from_L63_ok {K : jK} (X : JX K cX11_from 7 RX11 5 115) {p4 : Int32}  : ∀ (n : Nat) (s : Int32 × Int32) (σ : jMem) (o : (Int32) × jMem), X11_from_L63 p4 n s σ = some o → (J K 117 [some (.ref 0), none, none, none, none, some (.int o.1), none] [] o.2) → J K 63 [some (.ref 0), none, none, none, some (.int p4), some (.int s.1), some (.int s.2)] [] σ := by
  intro n
  induction n with
  | zero => intro s σ o h; cases h
  | succ n ih => intro s σ o h; exact X11_from_L63_bok X  ih (s.1) (s.2) σ o h
def f_X11_from (a0 : Int32) (a1 : Int32) (σ : jMem) : Option (Int32 × jMem) :=
  if ¬ (σ.1 22 1) = 0 then
  jbd (f_X11_isRow a0 σ) (fun v1 σ2 =>
  if ¬ v1 = 0 then
  jbd (f_X6_amiss a0 a1 (1 : Int32) σ2) (fun v4 σ5 =>
  if v4 = 0 then
  jldr 8 3 1 a0 (fun k7 =>
  jld σ5 k7 40 a1 (fun v8 =>
  jbd (X11_from_L63 (v8) jFU ((0 : Int32), (0 : Int32)) σ5) (fun q16 σ17 =>
  jbd (f_X11_unfound q16 σ17) (fun v18 σ19 =>
  some ((v18, σ19))))))
else
  jbd (f_X11_found v4 σ5) (fun v22 σ23 =>
  some ((v22, σ23))))
else
  some (((-1000001 : Int32), σ2)))
else
  some (((-1000002 : Int32), σ))
set_option maxRecDepth 100000 in
set_option maxHeartbeats 4000000 in
theorem c_X11_from {l : Launch} {D : va_G} {ad : Nat → Nat} {cid : Nat → ClassId} {a0 : Int32} {a1 : Int32}  {σ : jMem} {r : Int32} {σ' : jMem} (h : f_X11_from a0 a1 σ = some (r, σ')) : jMet l D ad cid yX11_from cX11_from 7 (some .int) 5 115 [.ref 0, .int a0, .int a1] σ (some (.int r)) σ' := by
  refine jMet_of (ls0 := [some (.ref 0), some (.int a0), some (.int a1), none, none, none, none]) (by decide) (Nat.le_of_ble_eq_true rfl) rfl (fun K X R0 _ => ?_)
  unfold f_X11_from at h
  refine j_aload_n X 0 dX11_from_0 rfl rfl ?_
  refine j_getR (t := 22) X fg_RX11_50 ln_0 ly_0 rfl dX11_from_1 ?_
  refine j_getI X fg_RX11_170 ln_22 ly_22 rfl dX11_from_4 ?_
  refine j_if_ne (tgt := 13) X dX11_from_7 (by decide) h (fun h => ?_) (fun h => ?_)
  · refine j_iload_n X 1 dX11_from_13 rfl rfl ?_
    obtain ⟨v1, σ2, hm3, h⟩ := jbd_some h
    refine j_callS (as := [.int a0]) (st := []) (st1 := [.int v1]) X ss_RX11_84 ⟨by decide, by decide⟩ rfl rfl (Nat.le_of_ble_eq_true rfl) rfl dX11_from_14 jrv_i (c_X11_isRow  hm3) rfl ?_
    refine j_if_ne (tgt := 23) X dX11_from_17 (by decide) h (fun h => ?_) (fun h => ?_)
    · refine j_aload_n X 0 dX11_from_23 rfl rfl ?_
      refine j_getR (t := 1) X fg_RX11_10 ln_0 ly_0 rfl dX11_from_24 ?_
      refine j_iload_n X 1 dX11_from_27 rfl rfl ?_
      refine j_iload_n X 2 dX11_from_28 rfl rfl ?_
      refine j_iconst (v := 1) X dX11_from_29 (by decide) ?_
      obtain ⟨v4, σ5, hm6, h⟩ := jbd_some h
      refine j_callV (as := [.int a0, .int a1, .int (1 : Int32)]) (st := []) (st1 := [.int v4]) X ln_1 ly_1 rfl rfl sv_RX11_100 ⟨by decide, by decide⟩ rfl rfl (Nat.le_of_ble_eq_true rfl) rfl dX11_from_30 jrv_i (c_X6_amiss  hm6) rfl ?_
      refine j_istore_n (ls' := [some (.ref 0), some (.int a0), some (.int a1), some (.int v4), none, none, none]) X 3 dX11_from_33 rfl (Nat.le_of_ble_eq_true rfl) rfl ?_
      refine j_iload_n X 3 dX11_from_34 rfl rfl ?_
      refine j_if_eq (tgt := 44) X dX11_from_35 (by decide) h (fun h => ?_) (fun h => ?_)
      · refine j_aload_n X 0 dX11_from_44 rfl rfl ?_
        refine j_getR (t := 1) X fg_RX11_10 ln_0 ly_0 rfl dX11_from_45 ?_
        refine j_getR (t := 2) X fg_RX11_117 ln_1 ly_1 rfl dX11_from_48 ?_
        refine j_iload_n X 1 dX11_from_51 rfl rfl ?_
        refine j_aaload X ln_2 ly_2 (Or.inr (Or.inr rfl)) dX11_from_52 h (fun k7 qk7 h => ?_)
        have hk7 := jrow8 qk7
        refine j_iload_n X 2 dX11_from_53 rfl rfl ?_
        refine j_iaload X hk7.1 hk7.2 dX11_from_54 h (fun v8 h => ?_)
        refine j_istore (ls' := [some (.ref 0), some (.int a0), some (.int a1), some (.int v4), some (.int v8), none, none]) X dX11_from_55 (Nat.le_of_ble_eq_true rfl) rfl ?_
        refine j_iconst (v := 0) X dX11_from_57 (by decide) ?_
        refine j_istore (ls' := [some (.ref 0), some (.int a0), some (.int a1), some (.int v4), some (.int v8), some (.int (0 : Int32)), none]) X dX11_from_58 (Nat.le_of_ble_eq_true rfl) rfl ?_
        refine j_iconst (v := 0) X dX11_from_60 (by decide) ?_
        refine j_istore (ls' := [some (.ref 0), some (.int a0), some (.int a1), some (.int v4), some (.int v8), some (.int (0 : Int32)), some (.int (0 : Int32))]) X dX11_from_61 (Nat.le_of_ble_eq_true rfl) rfl ?_
        obtain ⟨q16, σ17, hL21, h⟩ := jbd_some h
        refine j_sub (ls' := [some (.ref 0), none, none, none, some (.int v8), some (.int (0 : Int32)), some (.int (0 : Int32))]) ⟨Or.inr rfl, Or.inl rfl, Or.inl rfl, Or.inl rfl, Or.inr rfl, Or.inr rfl, Or.inr rfl, trivial⟩ ?_
        refine X11_from_L63_ok X  jFU ((0 : Int32), (0 : Int32)) σ5 _ hL21 ?_
        refine j_aload_n X 0 dX11_from_117 rfl rfl ?_
        refine j_iload X dX11_from_118 rfl ?_
        obtain ⟨v18, σ19, hm20, h⟩ := jbd_some h
        refine j_callV (as := [.int q16]) (st := []) (st1 := [.int v18]) X ln_0 ly_0 rfl rfl sv_RX11_97 ⟨by decide, by decide⟩ rfl rfl (Nat.le_of_ble_eq_true rfl) rfl dX11_from_120 jrv_i (c_X11_unfound  hm20) rfl ?_
        obtain ⟨rfl, rfl⟩ := jin2 h
        exact j_iret X R0 dX11_from_123
      · refine j_aload_n X 0 dX11_from_38 rfl rfl ?_
        refine j_iload_n X 3 dX11_from_39 rfl rfl ?_
        obtain ⟨v22, σ23, hm24, h⟩ := jbd_some h
        refine j_callV (as := [.int v4]) (st := []) (st1 := [.int v22]) X ln_0 ly_0 rfl rfl sv_RX11_89 ⟨by decide, by decide⟩ rfl rfl (Nat.le_of_ble_eq_true rfl) rfl dX11_from_40 jrv_i (c_X11_found  hm24) rfl ?_
        obtain ⟨rfl, rfl⟩ := jin2 h
        exact j_iret X R0 dX11_from_43
    · refine j_ldc (v := -1000001) X tw_318 dX11_from_20 ?_
      obtain ⟨rfl, rfl⟩ := jin2 h
      exact j_iret X R0 dX11_from_22
  · refine j_ldc (v := -1000002) X tw_458 dX11_from_10 ?_
    obtain ⟨rfl, rfl⟩ := jin2 h
    exact j_iret X R0 dX11_from_12
