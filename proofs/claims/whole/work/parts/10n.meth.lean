theorem ss_RX11_265 : jSiS RX11 265 yJ6_bitCount_0f7a4 cJ6_bitCount_0f7a4 1 (some .int) 1 := ⟨tw_670, tw_665, tw_16, tw_666, by decide, by decide, by decide +kernel⟩
theorem sv_RX11_261 : jSiV RX11 261 yX2_fewestGates cX2_fewestGates 8 (some .int) 3 := ⟨tw_657, tw_658, tw_659, tw_11, tw_660, by decide, by decide, by decide +kernel⟩
def f_X11_stop (a0 : Int32) (a1 : Int32) (σ : jMem) : Option (Int32 × jMem) :=
  if ¬ (σ.1 22 1) = 0 then
  jbd (f_X11_isField a0 σ) (fun v1 σ2 =>
  if v1 = 0 then
  some (((-1000001 : Int32), σ2))
else
  jbd (f_X11_isOneOfTwo a1 σ2) (fun v4 σ5 =>
  if ¬ v4 = 0 then
  if ¬ a0 = (σ5.1 22 2) then
  jbd (f_X5_open 22 σ5) (fun v7 σ8 =>
  jbd (f_X2_fewestGates 22 v7 a0 σ8) (fun v10 σ11 =>
  if ¬ a1 = 0 then
  some ((v10, σ11))
else
  jbd (f_J6_bitCount_0f7a4 v10 σ11) (fun v13 σ14 =>
  some ((v13, σ14)))))
else
  some (((-1000000 : Int32), σ5))
else
  some (((-1000001 : Int32), σ5))))
else
  some (((-1000002 : Int32), σ))
set_option maxRecDepth 100000 in
set_option maxHeartbeats 4000000 in
theorem c_X11_stop {l : Launch} {D : va_G} {ad : Nat → Nat} {cid : Nat → ClassId} {a0 : Int32} {a1 : Int32}  {σ : jMem} {r : Int32} {σ' : jMem} (h : f_X11_stop a0 a1 σ = some (r, σ')) : jMet l D ad cid yX11_stop cX11_stop 4 (some .int) 3 72 [.ref 0, .int a0, .int a1] σ (some (.int r)) σ' := by
  refine jMet_of (ls0 := [some (.ref 0), some (.int a0), some (.int a1), none]) (by decide) (Nat.le_of_ble_eq_true rfl) rfl (fun K X R0 _ => ?_)
  unfold f_X11_stop at h
  refine j_aload_n X 0 dX11_stop_0 rfl rfl ?_
  refine j_getR (t := 22) X fg_RX11_50 ln_0 ly_0 rfl dX11_stop_1 ?_
  refine j_getI X fg_RX11_170 ln_22 ly_22 rfl dX11_stop_4 ?_
  refine j_if_ne (tgt := 13) X dX11_stop_7 (by decide) h (fun h => ?_) (fun h => ?_)
  · refine j_iload_n X 1 dX11_stop_13 rfl rfl ?_
    obtain ⟨v1, σ2, hm3, h⟩ := jbd_some h
    refine j_callS (as := [.int a0]) (st := []) (st1 := [.int v1]) X ss_RX11_174 ⟨by decide, by decide⟩ rfl rfl (Nat.le_of_ble_eq_true rfl) rfl dX11_stop_14 jrv_i (c_X11_isField  hm3) rfl ?_
    refine j_if_eq (tgt := 27) X dX11_stop_17 (by decide) h (fun h => ?_) (fun h => ?_)
    · refine j_ldc (v := -1000001) X tw_318 dX11_stop_27 ?_
      obtain ⟨rfl, rfl⟩ := jin2 h
      exact j_iret X R0 dX11_stop_29
    · refine j_iload_n X 2 dX11_stop_20 rfl rfl ?_
      obtain ⟨v4, σ5, hm6, h⟩ := jbd_some h
      refine j_callS (as := [.int a1]) (st := []) (st1 := [.int v4]) X ss_RX11_204 ⟨by decide, by decide⟩ rfl rfl (Nat.le_of_ble_eq_true rfl) rfl dX11_stop_21 jrv_i (c_X11_isOneOfTwo  hm6) rfl ?_
      refine j_if_ne (tgt := 30) X dX11_stop_24 (by decide) h (fun h => ?_) (fun h => ?_)
      · refine j_iload_n X 1 dX11_stop_30 rfl rfl ?_
        refine j_aload_n X 0 dX11_stop_31 rfl rfl ?_
        refine j_getR (t := 22) X fg_RX11_50 ln_0 ly_0 rfl dX11_stop_32 ?_
        refine j_getI X fg_RX11_244 ln_22 ly_22 rfl dX11_stop_35 ?_
        refine j_icmp_ne (tgt := 44) X dX11_stop_38 (by decide) h (fun h => ?_) (fun h => ?_)
        · refine j_aload_n X 0 dX11_stop_44 rfl rfl ?_
          refine j_getR (t := 80) X fg_RX11_69 ln_0 ly_0 rfl dX11_stop_45 ?_
          refine j_aload_n X 0 dX11_stop_48 rfl rfl ?_
          refine j_getR (t := 22) X fg_RX11_50 ln_0 ly_0 rfl dX11_stop_49 ?_
          refine j_aload_n X 0 dX11_stop_52 rfl rfl ?_
          refine j_getR (t := 22) X fg_RX11_50 ln_0 ly_0 rfl dX11_stop_53 ?_
          obtain ⟨v7, σ8, hm9, h⟩ := jbd_some h
          refine j_callV (as := []) (st := [.ref 22, .ref 80]) (st1 := [.int v7, .ref 22, .ref 80]) X ln_22 ly_22 rfl rfl sv_RX11_248 ⟨by decide, by decide⟩ rfl rfl (Nat.le_of_ble_eq_true rfl) rfl dX11_stop_56 jrv_i (c_X5_open jisP_22 hm9) rfl ?_
          refine j_iload_n X 1 dX11_stop_59 rfl rfl ?_
          obtain ⟨v10, σ11, hm12, h⟩ := jbd_some h
          refine j_callV (as := [.ref 22, .int v7, .int a0]) (st := []) (st1 := [.int v10]) X ln_80 ly_80 rfl rfl sv_RX11_261 ⟨by decide, by decide⟩ rfl rfl (Nat.le_of_ble_eq_true rfl) rfl dX11_stop_60 jrv_i (c_X2_fewestGates jisP_22 hm12) rfl ?_
          refine j_istore_n (ls' := [some (.ref 0), some (.int a0), some (.int a1), some (.int v10)]) X 3 dX11_stop_63 rfl (Nat.le_of_ble_eq_true rfl) rfl ?_
          refine j_iload_n X 2 dX11_stop_64 rfl rfl ?_
          refine j_if_ne (tgt := 75) X dX11_stop_65 (by decide) h (fun h => ?_) (fun h => ?_)
          · refine j_iload_n X 3 dX11_stop_75 rfl rfl ?_
            obtain ⟨rfl, rfl⟩ := jin2 h
            exact j_iret X R0 dX11_stop_76
          · refine j_iload_n X 3 dX11_stop_68 rfl rfl ?_
            obtain ⟨v13, σ14, hm15, h⟩ := jbd_some h
            refine j_callS (as := [.int v10]) (st := []) (st1 := [.int v13]) X ss_RX11_265 ⟨by decide, by decide⟩ rfl rfl (Nat.le_of_ble_eq_true rfl) rfl dX11_stop_69 jrv_i (c_J6_bitCount_0f7a4  hm15) rfl ?_
            refine j_goto (tgt := 76) X dX11_stop_72 (by decide) ?_
            obtain ⟨rfl, rfl⟩ := jin2 h
            exact j_iret X R0 dX11_stop_76
        · refine j_ldc (v := -1000000) X tw_646 dX11_stop_41 ?_
          obtain ⟨rfl, rfl⟩ := jin2 h
          exact j_iret X R0 dX11_stop_43
      · refine j_ldc (v := -1000001) X tw_318 dX11_stop_27 ?_
        obtain ⟨rfl, rfl⟩ := jin2 h
        exact j_iret X R0 dX11_stop_29
  · refine j_ldc (v := -1000002) X tw_458 dX11_stop_10 ?_
    obtain ⟨rfl, rfl⟩ := jin2 h
    exact j_iret X R0 dX11_stop_12
def X11_must_L63_b (p1 : Int32) (p2 : Int32) (p3 : Int32) (rec : Int32 × Int32 → jMem → Option ((Int32) × jMem)) (x4 : Int32) (x5 : Int32) (σ : jMem) : Option ((Int32) × jMem) :=
  if (σ.1 22 5) ≤ x5 then
  some (x4, σ)
else
  jbd (f_X11_bitOf p3 x5 σ) (fun v11 σ12 =>
  if ¬ v11 = (1 : Int32) then
  rec (x4, (x5 + 1)) σ12
else
  jbd (f_X2_carry 22 (p2 &&& (((1 : Int32) <<< (x5 &&& 31)) ^^^ (-1 : Int32))) p1 σ12) (fun v14 σ15 =>
  if ¬ v14 = 0 then
  rec (x4, (x5 + 1)) σ15
else
  jlet ((x4 ||| ((1 : Int32) <<< (x5 &&& 31)))) (fun v17 =>
  rec (v17, (x5 + 1)) σ15)))
def X11_must_L63 (p1 : Int32) (p2 : Int32) (p3 : Int32) : Nat → Int32 × Int32 → jMem → Option ((Int32) × jMem) := jloop (fun rec s σ => X11_must_L63_b p1 p2 p3 rec s.1 s.2 σ)
set_option maxRecDepth 100000 in
set_option maxHeartbeats 4000000 in
theorem X11_must_L63_bok {K : jK} (X : JX K cX11_must 6 RX11 3 75) {p1 : Int32} {p2 : Int32} {p3 : Int32}  {rec : Int32 × Int32 → jMem → Option ((Int32) × jMem)} (ih : ∀ (s : Int32 × Int32) (σ : jMem) (o : (Int32) × jMem), rec s σ = some o → (J K 123 [none, none, none, none, some (.int o.1), none] [] o.2) → J K 63 [some (.ref 0), some (.int p1), some (.int p2), some (.int p3), some (.int s.1), some (.int s.2)] [] σ) : ∀ (x4 : Int32) (x5 : Int32) (σ : jMem) (o : (Int32) × jMem), X11_must_L63_b p1 p2 p3 rec x4 x5 σ = some o → (J K 123 [none, none, none, none, some (.int o.1), none] [] o.2) → J K 63 [some (.ref 0), some (.int p1), some (.int p2), some (.int p3), some (.int x4), some (.int x5)] [] σ := by
  intro x4 x5 σ o h kk
  unfold X11_must_L63_b at h
  refine j_iload X dX11_must_63 rfl ?_
  refine j_aload_n X 0 dX11_must_65 rfl rfl ?_
  refine j_getR (t := 22) X fg_RX11_50 ln_0 ly_0 rfl dX11_must_66 ?_
  refine j_getI X fg_RX11_153 ln_22 ly_22 rfl dX11_must_69 ?_
  refine j_icmp_ge (tgt := 123) X dX11_must_72 (by decide) h (fun h => ?_) (fun h => ?_)
  · obtain rfl := Option.some.inj h
    exact j_sub (ls' := [none, none, none, none, some (.int x4), none]) ⟨Or.inl rfl, Or.inl rfl, Or.inl rfl, Or.inl rfl, Or.inr rfl, Or.inl rfl, trivial⟩ kk
  · refine j_iload_n X 3 dX11_must_75 rfl rfl ?_
    refine j_iload X dX11_must_76 rfl ?_
    obtain ⟨v11, σ12, hm13, h⟩ := jbd_some h
    refine j_callS (as := [.int p3, .int x5]) (st := []) (st1 := [.int v11]) X ss_RX11_210 ⟨by decide, by decide⟩ rfl rfl (Nat.le_of_ble_eq_true rfl) rfl dX11_must_78 jrv_i (c_X11_bitOf  hm13) rfl ?_
    refine j_iconst (v := 1) X dX11_must_81 (by decide) ?_
    refine j_icmp_ne (tgt := 117) X dX11_must_82 (by decide) h (fun h => ?_) (fun h => ?_)
    · refine j_iinc (v := (x5 + 1)) (ls' := [some (.ref 0), some (.int p1), some (.int p2), some (.int p3), some (.int x4), some (.int (x5 + 1))]) X dX11_must_117 rfl rfl (Nat.le_of_ble_eq_true rfl) rfl ?_
      refine j_goto (tgt := 63) X dX11_must_120 (by decide) ?_
      exact ih (x4, (x5 + 1)) σ12 _ h kk
    · refine j_aload_n X 0 dX11_must_85 rfl rfl ?_
      refine j_getR (t := 80) X fg_RX11_69 ln_0 ly_0 rfl dX11_must_86 ?_
      refine j_aload_n X 0 dX11_must_89 rfl rfl ?_
      refine j_getR (t := 22) X fg_RX11_50 ln_0 ly_0 rfl dX11_must_90 ?_
      refine j_iload_n X 2 dX11_must_93 rfl rfl ?_
      refine j_iconst (v := 1) X dX11_must_94 (by decide) ?_
      refine j_iload X dX11_must_95 rfl ?_
      refine j_ishl X dX11_must_97 ?_
      refine j_iconst (v := -1) X dX11_must_98 (by decide) ?_
      refine j_ixor X dX11_must_99 ?_
      refine j_iand X dX11_must_100 ?_
      refine j_iload_n X 1 dX11_must_101 rfl rfl ?_
      obtain ⟨v14, σ15, hm16, h⟩ := jbd_some h
      refine j_callV (as := [.ref 22, .int (p2 &&& (((1 : Int32) <<< (x5 &&& 31)) ^^^ (-1 : Int32))), .int p1]) (st := []) (st1 := [.int v14]) X ln_80 ly_80 rfl rfl sv_RX11_251 ⟨by decide, by decide⟩ rfl rfl (Nat.le_of_ble_eq_true rfl) rfl dX11_must_102 jrv_i (c_X2_carry jisP_22 hm16) rfl ?_
      refine j_if_ne (tgt := 117) X dX11_must_105 (by decide) h (fun h => ?_) (fun h => ?_)
      · refine j_iinc (v := (x5 + 1)) (ls' := [some (.ref 0), some (.int p1), some (.int p2), some (.int p3), some (.int x4), some (.int (x5 + 1))]) X dX11_must_117 rfl rfl (Nat.le_of_ble_eq_true rfl) rfl ?_
        refine j_goto (tgt := 63) X dX11_must_120 (by decide) ?_
        exact ih (x4, (x5 + 1)) σ15 _ h kk
      · refine j_iload X dX11_must_108 rfl ?_
        refine j_iconst (v := 1) X dX11_must_110 (by decide) ?_
        refine j_iload X dX11_must_111 rfl ?_
        refine j_ishl X dX11_must_113 ?_
        refine j_ior X dX11_must_114 ?_
        refine j_letI h (fun v17 h => ?_)
        refine j_istore (ls' := [some (.ref 0), some (.int p1), some (.int p2), some (.int p3), some (.int v17), some (.int x5)]) X dX11_must_115 (Nat.le_of_ble_eq_true rfl) rfl ?_
        refine j_iinc (v := (x5 + 1)) (ls' := [some (.ref 0), some (.int p1), some (.int p2), some (.int p3), some (.int v17), some (.int (x5 + 1))]) X dX11_must_117 rfl rfl (Nat.le_of_ble_eq_true rfl) rfl ?_
        refine j_goto (tgt := 63) X dX11_must_120 (by decide) ?_
        exact ih (v17, (x5 + 1)) σ15 _ h kk
theorem X11_must_L63_ok {K : jK} (X : JX K cX11_must 6 RX11 3 75) {p1 : Int32} {p2 : Int32} {p3 : Int32}  : ∀ (n : Nat) (s : Int32 × Int32) (σ : jMem) (o : (Int32) × jMem), X11_must_L63 p1 p2 p3 n s σ = some o → (J K 123 [none, none, none, none, some (.int o.1), none] [] o.2) → J K 63 [some (.ref 0), some (.int p1), some (.int p2), some (.int p3), some (.int s.1), some (.int s.2)] [] σ := by
  intro n
  induction n with
  | zero => intro s σ o h; cases h
  | succ n ih => intro s σ o h; exact X11_must_L63_bok X  ih (s.1) (s.2) σ o h
def f_X11_must (a0 : Int32) (σ : jMem) : Option (Int32 × jMem) :=
  if ¬ (σ.1 22 1) = 0 then
  jbd (f_X11_isField a0 σ) (fun v1 σ2 =>
  if ¬ v1 = 0 then
  jbd (f_X5_open 22 σ2) (fun v4 σ5 =>
  jbd (f_X2_carry 22 v4 a0 σ5) (fun v7 σ8 =>
  if ¬ v7 = 0 then
  jlet ((σ8.1 80 1)) (fun v10 =>
  jbd (X11_must_L63 (a0) (v4) (v10) jFU ((0 : Int32), (0 : Int32)) σ8) (fun q18 σ19 =>
  some ((q18, σ19))))
else
  some (((0 : Int32), σ8))))
else
  some (((-1000001 : Int32), σ2)))
else
  some (((-1000002 : Int32), σ))
set_option maxRecDepth 100000 in
set_option maxHeartbeats 4000000 in
theorem c_X11_must {l : Launch} {D : va_G} {ad : Nat → Nat} {cid : Nat → ClassId} {a0 : Int32}  {σ : jMem} {r : Int32} {σ' : jMem} (h : f_X11_must a0 σ = some (r, σ')) : jMet l D ad cid yX11_must cX11_must 6 (some .int) 3 75 [.ref 0, .int a0] σ (some (.int r)) σ' := by
  refine jMet_of (ls0 := [some (.ref 0), some (.int a0), none, none, none, none]) (by decide) (Nat.le_of_ble_eq_true rfl) rfl (fun K X R0 _ => ?_)
  unfold f_X11_must at h
  refine j_aload_n X 0 dX11_must_0 rfl rfl ?_
  refine j_getR (t := 22) X fg_RX11_50 ln_0 ly_0 rfl dX11_must_1 ?_
  refine j_getI X fg_RX11_170 ln_22 ly_22 rfl dX11_must_4 ?_
  refine j_if_ne (tgt := 13) X dX11_must_7 (by decide) h (fun h => ?_) (fun h => ?_)
  · refine j_iload_n X 1 dX11_must_13 rfl rfl ?_
    obtain ⟨v1, σ2, hm3, h⟩ := jbd_some h
    refine j_callS (as := [.int a0]) (st := []) (st1 := [.int v1]) X ss_RX11_174 ⟨by decide, by decide⟩ rfl rfl (Nat.le_of_ble_eq_true rfl) rfl dX11_must_14 jrv_i (c_X11_isField  hm3) rfl ?_
    refine j_if_ne (tgt := 23) X dX11_must_17 (by decide) h (fun h => ?_) (fun h => ?_)
    · refine j_aload_n X 0 dX11_must_23 rfl rfl ?_
      refine j_getR (t := 22) X fg_RX11_50 ln_0 ly_0 rfl dX11_must_24 ?_
      obtain ⟨v4, σ5, hm6, h⟩ := jbd_some h
      refine j_callV (as := []) (st := []) (st1 := [.int v4]) X ln_22 ly_22 rfl rfl sv_RX11_248 ⟨by decide, by decide⟩ rfl rfl (Nat.le_of_ble_eq_true rfl) rfl dX11_must_27 jrv_i (c_X5_open jisP_22 hm6) rfl ?_
      refine j_istore_n (ls' := [some (.ref 0), some (.int a0), some (.int v4), none, none, none]) X 2 dX11_must_30 rfl (Nat.le_of_ble_eq_true rfl) rfl ?_
      refine j_aload_n X 0 dX11_must_31 rfl rfl ?_
      refine j_getR (t := 80) X fg_RX11_69 ln_0 ly_0 rfl dX11_must_32 ?_
      refine j_aload_n X 0 dX11_must_35 rfl rfl ?_
      refine j_getR (t := 22) X fg_RX11_50 ln_0 ly_0 rfl dX11_must_36 ?_
      refine j_iload_n X 2 dX11_must_39 rfl rfl ?_
      refine j_iload_n X 1 dX11_must_40 rfl rfl ?_
      obtain ⟨v7, σ8, hm9, h⟩ := jbd_some h
      refine j_callV (as := [.ref 22, .int v4, .int a0]) (st := []) (st1 := [.int v7]) X ln_80 ly_80 rfl rfl sv_RX11_251 ⟨by decide, by decide⟩ rfl rfl (Nat.le_of_ble_eq_true rfl) rfl dX11_must_41 jrv_i (c_X2_carry jisP_22 hm9) rfl ?_
      refine j_if_ne (tgt := 49) X dX11_must_44 (by decide) h (fun h => ?_) (fun h => ?_)
      · refine j_aload_n X 0 dX11_must_49 rfl rfl ?_
        refine j_getR (t := 80) X fg_RX11_69 ln_0 ly_0 rfl dX11_must_50 ?_
        refine j_getI X fg_RX11_258 ln_80 ly_80 rfl dX11_must_53 ?_
        refine j_letI h (fun v10 h => ?_)
        refine j_istore_n (ls' := [some (.ref 0), some (.int a0), some (.int v4), some (.int v10), none, none]) X 3 dX11_must_56 rfl (Nat.le_of_ble_eq_true rfl) rfl ?_
        refine j_iconst (v := 0) X dX11_must_57 (by decide) ?_
        refine j_istore (ls' := [some (.ref 0), some (.int a0), some (.int v4), some (.int v10), some (.int (0 : Int32)), none]) X dX11_must_58 (Nat.le_of_ble_eq_true rfl) rfl ?_
        refine j_iconst (v := 0) X dX11_must_60 (by decide) ?_
        refine j_istore (ls' := [some (.ref 0), some (.int a0), some (.int v4), some (.int v10), some (.int (0 : Int32)), some (.int (0 : Int32))]) X dX11_must_61 (Nat.le_of_ble_eq_true rfl) rfl ?_
        obtain ⟨q18, σ19, hL20, h⟩ := jbd_some h
        refine X11_must_L63_ok X  jFU ((0 : Int32), (0 : Int32)) σ8 _ hL20 ?_
        refine j_iload X dX11_must_123 rfl ?_
        obtain ⟨rfl, rfl⟩ := jin2 h
        exact j_iret X R0 dX11_must_125
      · refine j_iconst (v := 0) X dX11_must_47 (by decide) ?_
        obtain ⟨rfl, rfl⟩ := jin2 h
        exact j_iret X R0 dX11_must_48
    · refine j_ldc (v := -1000001) X tw_318 dX11_must_20 ?_
      obtain ⟨rfl, rfl⟩ := jin2 h
      exact j_iret X R0 dX11_must_22
  · refine j_ldc (v := -1000002) X tw_458 dX11_must_10 ?_
    obtain ⟨rfl, rfl⟩ := jin2 h
    exact j_iret X R0 dX11_must_12
theorem sv_RX11_270 : jSiV RX11 270 yX5_allPaths cX5_allPaths 1 (some .int) 0 := ⟨tw_679, tw_479, tw_480, tw_10, tw_481, by decide, by decide, by decide +kernel⟩
theorem sv_RX11_276 : jSiV RX11 276 yX5_sworn cX5_sworn 4 (some .int) 1 := ⟨tw_680, tw_566, tw_567, tw_10, tw_568, by decide, by decide, by decide +kernel⟩
def X11_live_L43_b (p1 : Int32) (p2 : Int32) (rec : Int32 × Int32 → jMem → Option ((Int32) × jMem)) (x3 : Int32) (x4 : Int32) (σ : jMem) : Option ((Int32) × jMem) :=
  if ((1 : Int32) <<< ((σ.1 22 6) &&& 31)) ≤ x4 then
  some (x3, σ)
else
  jbd (f_X5_sworn 22 x4 σ) (fun v7 σ8 =>
  jj (fun (q11 : Int32) σ12 =>
  if q11 = 0 then
  rec (x3, (x4 + 1)) σ12
else
  if x3 = (-1000000 : Int32) then
  rec (x4, (x4 + 1)) σ12
else
  jbd (f_J6_bitCount_0f7a4 x4 σ12) (fun v13 σ14 =>
  jbd (f_J6_bitCount_0f7a4 x3 σ14) (fun v16 σ17 =>
  if v16 ≤ v13 then
  rec (x3, (x4 + 1)) σ17
else
  rec (x4, (x4 + 1)) σ17))) (fun k10 =>
  if ¬ (p1 &&& (v7 ^^^ (-1 : Int32))) = 0 then
  k10 (0 : Int32) σ8
else
  k10 (1 : Int32) σ8))
def X11_live_L43 (p1 : Int32) (p2 : Int32) : Nat → Int32 × Int32 → jMem → Option ((Int32) × jMem) := jloop (fun rec s σ => X11_live_L43_b p1 p2 rec s.1 s.2 σ)
set_option maxRecDepth 100000 in
set_option maxHeartbeats 4000000 in
theorem X11_live_L43_bok {K : jK} (X : JX K cX11_live 6 RX11 4 86) {p1 : Int32} {p2 : Int32}  {rec : Int32 × Int32 → jMem → Option ((Int32) × jMem)} (ih : ∀ (s : Int32 × Int32) (σ : jMem) (o : (Int32) × jMem), rec s σ = some o → (J K 112 [none, none, some (.int p2), some (.int o.1), none, none] [] o.2) → J K 43 [some (.ref 0), some (.int p1), some (.int p2), some (.int s.1), some (.int s.2), none] [] σ) : ∀ (x3 : Int32) (x4 : Int32) (σ : jMem) (o : (Int32) × jMem), X11_live_L43_b p1 p2 rec x3 x4 σ = some o → (J K 112 [none, none, some (.int p2), some (.int o.1), none, none] [] o.2) → J K 43 [some (.ref 0), some (.int p1), some (.int p2), some (.int x3), some (.int x4), none] [] σ := by
  intro x3 x4 σ o h kk
  unfold X11_live_L43_b at h
  refine j_iload X dX11_live_43 rfl ?_
  refine j_iconst (v := 1) X dX11_live_45 (by decide) ?_
  refine j_aload_n X 0 dX11_live_46 rfl rfl ?_
  refine j_getR (t := 22) X fg_RX11_50 ln_0 ly_0 rfl dX11_live_47 ?_
  refine j_getI X fg_RX11_273 ln_22 ly_22 rfl dX11_live_50 ?_
  refine j_ishl X dX11_live_53 ?_
  refine j_icmp_ge (tgt := 112) X dX11_live_54 (by decide) h (fun h => ?_) (fun h => ?_)
  · obtain rfl := Option.some.inj h
    exact j_sub (ls' := [none, none, some (.int p2), some (.int x3), none, none]) ⟨Or.inl rfl, Or.inl rfl, Or.inr rfl, Or.inr rfl, Or.inl rfl, Or.inl rfl, trivial⟩ kk
  · refine j_iload_n X 1 dX11_live_57 rfl rfl ?_
    refine j_aload_n X 0 dX11_live_58 rfl rfl ?_
    refine j_getR (t := 22) X fg_RX11_50 ln_0 ly_0 rfl dX11_live_59 ?_
    refine j_iload X dX11_live_62 rfl ?_
    obtain ⟨v7, σ8, hm9, h⟩ := jbd_some h
    refine j_callV (as := [.int x4]) (st := [.int p1]) (st1 := [.int v7, .int p1]) X ln_22 ly_22 rfl rfl sv_RX11_276 ⟨by decide, by decide⟩ rfl rfl (Nat.le_of_ble_eq_true rfl) rfl dX11_live_64 jrv_i (c_X5_sworn jisP_22 hm9) rfl ?_
    refine j_iconst (v := -1) X dX11_live_67 (by decide) ?_
    refine j_ixor X dX11_live_68 ?_
    refine j_iand X dX11_live_69 ?_
    refine j_join (pcJ := 78) (lsJ := fun q11 => [some (.ref 0), some (.int p1), some (.int p2), some (.int x3), some (.int x4), none]) (stJ := fun q11 => [.int q11]) h (fun q11 σ12 h => ?_) (fun k10 hk10 h => ?_)
    · refine j_istore (ls' := [some (.ref 0), some (.int p1), some (.int p2), some (.int x3), some (.int x4), some (.int q11)]) X dX11_live_78 (Nat.le_of_ble_eq_true rfl) rfl ?_
      refine j_iload X dX11_live_80 rfl ?_
      refine j_if_eq (tgt := 106) X dX11_live_82 (by decide) h (fun h => ?_) (fun h => ?_)
      · refine j_iinc (v := (x4 + 1)) (ls' := [some (.ref 0), some (.int p1), some (.int p2), some (.int x3), some (.int (x4 + 1)), some (.int q11)]) X dX11_live_106 rfl rfl (Nat.le_of_ble_eq_true rfl) rfl ?_
        refine j_goto (tgt := 43) X dX11_live_109 (by decide) ?_
        exact j_sub (ls' := [some (.ref 0), some (.int p1), some (.int p2), some (.int x3), some (.int (x4 + 1)), none]) ⟨Or.inr rfl, Or.inr rfl, Or.inr rfl, Or.inr rfl, Or.inr rfl, Or.inl rfl, trivial⟩ (ih (x3, (x4 + 1)) σ12 _ h kk)
      · refine j_iload_n X 3 dX11_live_85 rfl rfl ?_
        refine j_ldc (v := -1000000) X tw_646 dX11_live_86 ?_
        refine j_icmp_eq (tgt := 103) X dX11_live_88 (by decide) h (fun h => ?_) (fun h => ?_)
        · refine j_iload X dX11_live_103 rfl ?_
          refine j_istore_n (ls' := [some (.ref 0), some (.int p1), some (.int p2), some (.int x4), some (.int x4), some (.int q11)]) X 3 dX11_live_105 rfl (Nat.le_of_ble_eq_true rfl) rfl ?_
          refine j_iinc (v := (x4 + 1)) (ls' := [some (.ref 0), some (.int p1), some (.int p2), some (.int x4), some (.int (x4 + 1)), some (.int q11)]) X dX11_live_106 rfl rfl (Nat.le_of_ble_eq_true rfl) rfl ?_
          refine j_goto (tgt := 43) X dX11_live_109 (by decide) ?_
          exact j_sub (ls' := [some (.ref 0), some (.int p1), some (.int p2), some (.int x4), some (.int (x4 + 1)), none]) ⟨Or.inr rfl, Or.inr rfl, Or.inr rfl, Or.inr rfl, Or.inr rfl, Or.inl rfl, trivial⟩ (ih (x4, (x4 + 1)) σ12 _ h kk)
        · refine j_iload X dX11_live_91 rfl ?_
          obtain ⟨v13, σ14, hm15, h⟩ := jbd_some h
          refine j_callS (as := [.int x4]) (st := []) (st1 := [.int v13]) X ss_RX11_265 ⟨by decide, by decide⟩ rfl rfl (Nat.le_of_ble_eq_true rfl) rfl dX11_live_93 jrv_i (c_J6_bitCount_0f7a4  hm15) rfl ?_
          refine j_iload_n X 3 dX11_live_96 rfl rfl ?_
          obtain ⟨v16, σ17, hm18, h⟩ := jbd_some h
          refine j_callS (as := [.int x3]) (st := [.int v13]) (st1 := [.int v16, .int v13]) X ss_RX11_265 ⟨by decide, by decide⟩ rfl rfl (Nat.le_of_ble_eq_true rfl) rfl dX11_live_97 jrv_i (c_J6_bitCount_0f7a4  hm18) rfl ?_
          refine j_icmp_ge (tgt := 106) X dX11_live_100 (by decide) h (fun h => ?_) (fun h => ?_)
          · refine j_iinc (v := (x4 + 1)) (ls' := [some (.ref 0), some (.int p1), some (.int p2), some (.int x3), some (.int (x4 + 1)), some (.int q11)]) X dX11_live_106 rfl rfl (Nat.le_of_ble_eq_true rfl) rfl ?_
            refine j_goto (tgt := 43) X dX11_live_109 (by decide) ?_
            exact j_sub (ls' := [some (.ref 0), some (.int p1), some (.int p2), some (.int x3), some (.int (x4 + 1)), none]) ⟨Or.inr rfl, Or.inr rfl, Or.inr rfl, Or.inr rfl, Or.inr rfl, Or.inl rfl, trivial⟩ (ih (x3, (x4 + 1)) σ17 _ h kk)
          · refine j_iload X dX11_live_103 rfl ?_
            refine j_istore_n (ls' := [some (.ref 0), some (.int p1), some (.int p2), some (.int x4), some (.int x4), some (.int q11)]) X 3 dX11_live_105 rfl (Nat.le_of_ble_eq_true rfl) rfl ?_
            refine j_iinc (v := (x4 + 1)) (ls' := [some (.ref 0), some (.int p1), some (.int p2), some (.int x4), some (.int (x4 + 1)), some (.int q11)]) X dX11_live_106 rfl rfl (Nat.le_of_ble_eq_true rfl) rfl ?_
            refine j_goto (tgt := 43) X dX11_live_109 (by decide) ?_
            exact j_sub (ls' := [some (.ref 0), some (.int p1), some (.int p2), some (.int x4), some (.int (x4 + 1)), none]) ⟨Or.inr rfl, Or.inr rfl, Or.inr rfl, Or.inr rfl, Or.inr rfl, Or.inl rfl, trivial⟩ (ih (x4, (x4 + 1)) σ17 _ h kk)
    · refine j_if_ne (tgt := 77) X dX11_live_70 (by decide) h (fun h => ?_) (fun h => ?_)
      · refine j_iconst (v := 0) X dX11_live_77 (by decide) ?_
        exact hk10 (0 : Int32) σ8 h
      · refine j_iconst (v := 1) X dX11_live_73 (by decide) ?_
        refine j_goto (tgt := 78) X dX11_live_74 (by decide) ?_
        exact hk10 (1 : Int32) σ8 h
theorem X11_live_L43_ok {K : jK} (X : JX K cX11_live 6 RX11 4 86) {p1 : Int32} {p2 : Int32}  : ∀ (n : Nat) (s : Int32 × Int32) (σ : jMem) (o : (Int32) × jMem), X11_live_L43 p1 p2 n s σ = some o → (J K 112 [none, none, some (.int p2), some (.int o.1), none, none] [] o.2) → J K 43 [some (.ref 0), some (.int p1), some (.int p2), some (.int s.1), some (.int s.2), none] [] σ := by
  intro n
  induction n with
  | zero => intro s σ o h; cases h
  | succ n ih => intro s σ o h; exact X11_live_L43_bok X  ih (s.1) (s.2) σ o h
def f_X11_live (a0 : Int32) (a1 : Int32) (σ : jMem) : Option (Int32 × jMem) :=
  if ¬ (σ.1 22 1) = 0 then
  jbd (f_X5_allPaths 22 σ) (fun v1 σ2 =>
  if ¬ (a0 &&& (v1 ^^^ (-1 : Int32))) = 0 then
  some (((-1000001 : Int32), σ2))
else
  jbd (f_X11_isOneOfTwo a1 σ2) (fun v4 σ5 =>
  if ¬ v4 = 0 then
  jbd (X11_live_L43 (a0) (a1) jFU ((-1000000 : Int32), (0 : Int32)) σ5) (fun q19 σ20 =>
  if q19 = (-1000000 : Int32) then
  some ((q19, σ20))
else
  if ¬ a1 = (1 : Int32) then
  jbd (f_J6_bitCount_0f7a4 q19 σ20) (fun v21 σ22 =>
  some ((v21, σ22)))
else
  some ((q19, σ20)))
else
  some (((-1000001 : Int32), σ5))))
else
  some (((-1000002 : Int32), σ))
set_option maxRecDepth 100000 in
set_option maxHeartbeats 4000000 in
theorem c_X11_live {l : Launch} {D : va_G} {ad : Nat → Nat} {cid : Nat → ClassId} {a0 : Int32} {a1 : Int32}  {σ : jMem} {r : Int32} {σ' : jMem} (h : f_X11_live a0 a1 σ = some (r, σ')) : jMet l D ad cid yX11_live cX11_live 6 (some .int) 4 86 [.ref 0, .int a0, .int a1] σ (some (.int r)) σ' := by
  refine jMet_of (ls0 := [some (.ref 0), some (.int a0), some (.int a1), none, none, none]) (by decide) (Nat.le_of_ble_eq_true rfl) rfl (fun K X R0 _ => ?_)
  unfold f_X11_live at h
  refine j_aload_n X 0 dX11_live_0 rfl rfl ?_
  refine j_getR (t := 22) X fg_RX11_50 ln_0 ly_0 rfl dX11_live_1 ?_
  refine j_getI X fg_RX11_170 ln_22 ly_22 rfl dX11_live_4 ?_
  refine j_if_ne (tgt := 13) X dX11_live_7 (by decide) h (fun h => ?_) (fun h => ?_)
  · refine j_iload_n X 1 dX11_live_13 rfl rfl ?_
    refine j_aload_n X 0 dX11_live_14 rfl rfl ?_
    refine j_getR (t := 22) X fg_RX11_50 ln_0 ly_0 rfl dX11_live_15 ?_
    obtain ⟨v1, σ2, hm3, h⟩ := jbd_some h
    refine j_callV (as := []) (st := [.int a0]) (st1 := [.int v1, .int a0]) X ln_22 ly_22 rfl rfl sv_RX11_270 ⟨by decide, by decide⟩ rfl rfl (Nat.le_of_ble_eq_true rfl) rfl dX11_live_18 jrv_i (c_X5_allPaths jisP_22 hm3) rfl ?_
    refine j_iconst (v := -1) X dX11_live_21 (by decide) ?_
    refine j_ixor X dX11_live_22 ?_
    refine j_iand X dX11_live_23 ?_
    refine j_if_ne (tgt := 34) X dX11_live_24 (by decide) h (fun h => ?_) (fun h => ?_)
    · refine j_ldc (v := -1000001) X tw_318 dX11_live_34 ?_
      obtain ⟨rfl, rfl⟩ := jin2 h
      exact j_iret X R0 dX11_live_36
    · refine j_iload_n X 2 dX11_live_27 rfl rfl ?_
      obtain ⟨v4, σ5, hm6, h⟩ := jbd_some h
      refine j_callS (as := [.int a1]) (st := []) (st1 := [.int v4]) X ss_RX11_204 ⟨by decide, by decide⟩ rfl rfl (Nat.le_of_ble_eq_true rfl) rfl dX11_live_28 jrv_i (c_X11_isOneOfTwo  hm6) rfl ?_
      refine j_if_ne (tgt := 37) X dX11_live_31 (by decide) h (fun h => ?_) (fun h => ?_)
      · refine j_ldc (v := -1000000) X tw_646 dX11_live_37 ?_
        refine j_istore_n (ls' := [some (.ref 0), some (.int a0), some (.int a1), some (.int (-1000000 : Int32)), none, none]) X 3 dX11_live_39 rfl (Nat.le_of_ble_eq_true rfl) rfl ?_
        refine j_iconst (v := 0) X dX11_live_40 (by decide) ?_
        refine j_istore (ls' := [some (.ref 0), some (.int a0), some (.int a1), some (.int (-1000000 : Int32)), some (.int (0 : Int32)), none]) X dX11_live_41 (Nat.le_of_ble_eq_true rfl) rfl ?_
        obtain ⟨q19, σ20, hL24, h⟩ := jbd_some h
        refine X11_live_L43_ok X  jFU ((-1000000 : Int32), (0 : Int32)) σ5 _ hL24 ?_
        refine j_iload_n X 3 dX11_live_112 rfl rfl ?_
        refine j_ldc (v := -1000000) X tw_646 dX11_live_113 ?_
        refine j_icmp_eq (tgt := 123) X dX11_live_115 (by decide) h (fun h => ?_) (fun h => ?_)
        · refine j_iload_n X 3 dX11_live_123 rfl rfl ?_
          refine j_goto (tgt := 131) X dX11_live_124 (by decide) ?_
          obtain ⟨rfl, rfl⟩ := jin2 h
          exact j_iret X R0 dX11_live_131
        · refine j_iload_n X 2 dX11_live_118 rfl rfl ?_
          refine j_iconst (v := 1) X dX11_live_119 (by decide) ?_
          refine j_icmp_ne (tgt := 127) X dX11_live_120 (by decide) h (fun h => ?_) (fun h => ?_)
          · refine j_iload_n X 3 dX11_live_127 rfl rfl ?_
            obtain ⟨v21, σ22, hm23, h⟩ := jbd_some h
            refine j_callS (as := [.int q19]) (st := []) (st1 := [.int v21]) X ss_RX11_265 ⟨by decide, by decide⟩ rfl rfl (Nat.le_of_ble_eq_true rfl) rfl dX11_live_128 jrv_i (c_J6_bitCount_0f7a4  hm23) rfl ?_
            obtain ⟨rfl, rfl⟩ := jin2 h
            exact j_iret X R0 dX11_live_131
          · refine j_iload_n X 3 dX11_live_123 rfl rfl ?_
            refine j_goto (tgt := 131) X dX11_live_124 (by decide) ?_
            obtain ⟨rfl, rfl⟩ := jin2 h
            exact j_iret X R0 dX11_live_131
      · refine j_ldc (v := -1000001) X tw_318 dX11_live_34 ?_
        obtain ⟨rfl, rfl⟩ := jin2 h
        exact j_iret X R0 dX11_live_36
  · refine j_ldc (v := -1000002) X tw_458 dX11_live_10 ?_
    obtain ⟨rfl, rfl⟩ := jin2 h
    exact j_iret X R0 dX11_live_12
