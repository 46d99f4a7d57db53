def X2_countWithin_L24_b (p1 : Nat) (p2 : Int32) (p3 : Int32) (rec : Int32 → jMem → Option ((Unit) × jMem)) (x4 : Int32) (σ : jMem) : Option ((Unit) × jMem) :=
  if (σ.1 p1 5) ≤ x4 then
  some ((), σ)
else
  jld σ 82 256 p3 (fun v5 =>
  jbd (f_X11_bitOf p2 x4 σ) (fun v6 σ7 =>
  jld σ7 (p1 + 1) 12 x4 (fun v9 =>
  jbd (f_X11_bitOf p3 v9 σ7) (fun v10 σ11 =>
  jld σ11 (p1 + 2) 12 x4 (fun v13 =>
  jbd (f_X11_bitOf p3 v13 σ11) (fun v14 σ15 =>
  jst σ15 82 256 p3 (v5 + ((v6 &&& v10) &&& v14)) (fun σ17 =>
  rec (x4 + 1) σ17)))))))
def X2_countWithin_L24 (p1 : Nat) (p2 : Int32) (p3 : Int32) : Nat → Int32 → jMem → Option ((Unit) × jMem) := jloop (fun rec s σ => X2_countWithin_L24_b p1 p2 p3 rec s σ)
set_option maxRecDepth 100000 in
set_option maxHeartbeats 4000000 in
theorem X2_countWithin_L24_bok {K : jK} (X : JX K cX2_countWithin 5 RX2 2 40) {p1 : Nat} {p2 : Int32} {p3 : Int32} (hp1 : jisP p1) {rec : Int32 → jMem → Option ((Unit) × jMem)} (ih : ∀ (s : Int32) (σ : jMem) (o : (Unit) × jMem), rec s σ = some o → (J K 78 [some (.ref 80), some (.ref p1), some (.int p2), some (.int p3), none] [] o.2) → J K 24 [some (.ref 80), some (.ref p1), some (.int p2), some (.int p3), some (.int s)] [] σ) : ∀ (x4 : Int32) (σ : jMem) (o : (Unit) × jMem), X2_countWithin_L24_b p1 p2 p3 rec x4 σ = some o → (J K 78 [some (.ref 80), some (.ref p1), some (.int p2), some (.int p3), none] [] o.2) → J K 24 [some (.ref 80), some (.ref p1), some (.int p2), some (.int p3), some (.int x4)] [] σ := by
  intro x4 σ o h kk
  unfold X2_countWithin_L24_b at h
  refine j_iload X dX2_countWithin_24 rfl ?_
  refine j_aload_n X 1 dX2_countWithin_26 rfl rfl ?_
  refine j_getI X fg_RX2_65 (jp_lt hp1) (jp_ly hp1) rfl dX2_countWithin_27 ?_
  refine j_icmp_ge (tgt := 78) X dX2_countWithin_30 (by decide) h (fun h => ?_) (fun h => ?_)
  · obtain rfl := Option.some.inj h
    exact j_sub (ls' := [some (.ref 80), some (.ref p1), some (.int p2), some (.int p3), none]) ⟨Or.inr rfl, Or.inr rfl, Or.inr rfl, Or.inr rfl, Or.inl rfl, trivial⟩ kk
  · refine j_aload_n X 0 dX2_countWithin_33 rfl rfl ?_
    refine j_getR (t := 82) X fg_RX2_15 ln_80 ly_80 rfl dX2_countWithin_34 ?_
    refine j_iload_n X 3 dX2_countWithin_37 rfl rfl ?_
    refine j_dup2 X dX2_countWithin_38 rfl rfl ?_
    refine j_iaload X ln_82 ly_82 dX2_countWithin_39 h (fun v5 h => ?_)
    refine j_iload_n X 2 dX2_countWithin_40 rfl rfl ?_
    refine j_iload X dX2_countWithin_41 rfl ?_
    obtain ⟨v6, σ7, hm8, h⟩ := jbd_some h
    refine j_callN (as := [.int p2, .int x4]) (st := [.int v5, .int p3, .ref 82]) (st1 := [.int v6, .int v5, .int p3, .ref 82]) X sn_RX2_68 ⟨by decide, by decide⟩ rfl rfl (Nat.le_of_ble_eq_true rfl) rfl dX2_countWithin_43 jrv_i (c_X11_bitOf  hm8) rfl ?_
    refine j_iload_n X 3 dX2_countWithin_46 rfl rfl ?_
    refine j_aload_n X 1 dX2_countWithin_47 rfl rfl ?_
    refine j_getR (t := (p1 + 1)) X fg_RX2_72 (jp_lt hp1) (jp_ly hp1) rfl dX2_countWithin_48 ?_
    refine j_iload X dX2_countWithin_51 rfl ?_
    refine j_iaload X (jp_lt1 hp1) (jp_ly1 hp1) dX2_countWithin_53 h (fun v9 h => ?_)
    obtain ⟨v10, σ11, hm12, h⟩ := jbd_some h
    refine j_callN (as := [.int p3, .int v9]) (st := [.int v6, .int v5, .int p3, .ref 82]) (st1 := [.int v10, .int v6, .int v5, .int p3, .ref 82]) X sn_RX2_68 ⟨by decide, by decide⟩ rfl rfl (Nat.le_of_ble_eq_true rfl) rfl dX2_countWithin_54 jrv_i (c_X11_bitOf  hm12) rfl ?_
    refine j_iand X dX2_countWithin_57 ?_
    refine j_iload_n X 3 dX2_countWithin_58 rfl rfl ?_
    refine j_aload_n X 1 dX2_countWithin_59 rfl rfl ?_
    refine j_getR (t := (p1 + 2)) X fg_RX2_75 (jp_lt hp1) (jp_ly hp1) rfl dX2_countWithin_60 ?_
    refine j_iload X dX2_countWithin_63 rfl ?_
    refine j_iaload X (jp_lt2 hp1) (jp_ly2 hp1) dX2_countWithin_65 h (fun v13 h => ?_)
    obtain ⟨v14, σ15, hm16, h⟩ := jbd_some h
    refine j_callN (as := [.int p3, .int v13]) (st := [.int (v6 &&& v10), .int v5, .int p3, .ref 82]) (st1 := [.int v14, .int (v6 &&& v10), .int v5, .int p3, .ref 82]) X sn_RX2_68 ⟨by decide, by decide⟩ rfl rfl (Nat.le_of_ble_eq_true rfl) rfl dX2_countWithin_66 jrv_i (c_X11_bitOf  hm16) rfl ?_
    refine j_iand X dX2_countWithin_69 ?_
    refine j_iadd X dX2_countWithin_70 ?_
    refine j_iastore X ln_82 ly_82 dX2_countWithin_71 h (fun σ17 h => ?_)
    refine j_iinc (v := (x4 + 1)) (ls' := [some (.ref 80), some (.ref p1), some (.int p2), some (.int p3), some (.int (x4 + 1))]) X dX2_countWithin_72 rfl rfl (Nat.le_of_ble_eq_true rfl) rfl ?_
    refine j_goto (tgt := 24) X dX2_countWithin_75 (by decide) ?_
    exact ih (x4 + 1) σ17 _ h kk
theorem X2_countWithin_L24_ok {K : jK} (X : JX K cX2_countWithin 5 RX2 2 40) {p1 : Nat} {p2 : Int32} {p3 : Int32} (hp1 : jisP p1) : ∀ (n : Nat) (s : Int32) (σ : jMem) (o : (Unit) × jMem), X2_countWithin_L24 p1 p2 p3 n s σ = some o → (J K 78 [some (.ref 80), some (.ref p1), some (.int p2), some (.int p3), none] [] o.2) → J K 24 [some (.ref 80), some (.ref p1), some (.int p2), some (.int p3), some (.int s)] [] σ := by
  intro n
  induction n with
  | zero => intro s σ o h; cases h
  | succ n ih => intro s σ o h; exact X2_countWithin_L24_bok X hp1 ih (s) σ o h
def X2_countWithin_L7_b (p1 : Nat) (p2 : Int32) (rec : Int32 → jMem → Option ((Unit) × jMem)) (x3 : Int32) (σ : jMem) : Option ((Unit) × jMem) :=
  if (256 : Int32) ≤ x3 then
  some ((), σ)
else
  jst σ 82 256 x3 (0 : Int32) (fun σ4 =>
  jbd (X2_countWithin_L24 (p1) (p2) (x3) jFU (0 : Int32) σ4) (fun q18 σ19 =>
  rec (x3 + 1) σ19))
def X2_countWithin_L7 (p1 : Nat) (p2 : Int32) : Nat → Int32 → jMem → Option ((Unit) × jMem) := jloop (fun rec s σ => X2_countWithin_L7_b p1 p2 rec s σ)
set_option maxRecDepth 100000 in
set_option maxHeartbeats 4000000 in
theorem X2_countWithin_L7_bok {K : jK} (X : JX K cX2_countWithin 5 RX2 2 40) {p1 : Nat} {p2 : Int32} (hp1 : jisP p1) {rec : Int32 → jMem → Option ((Unit) × jMem)} (ih : ∀ (s : Int32) (σ : jMem) (o : (Unit) × jMem), rec s σ = some o → (J K 84 [none, none, none, none, none] [] o.2) → J K 7 [some (.ref 80), some (.ref p1), some (.int p2), some (.int s), none] [] σ) : ∀ (x3 : Int32) (σ : jMem) (o : (Unit) × jMem), X2_countWithin_L7_b p1 p2 rec x3 σ = some o → (J K 84 [none, none, none, none, none] [] o.2) → J K 7 [some (.ref 80), some (.ref p1), some (.int p2), some (.int x3), none] [] σ := by
  intro x3 σ o h kk
  unfold X2_countWithin_L7_b at h
  refine j_iload_n X 3 dX2_countWithin_7 rfl rfl ?_
  refine j_sipush (v := 256) X dX2_countWithin_8 (by decide) ?_
  refine j_icmp_ge (tgt := 84) X dX2_countWithin_11 (by decide) h (fun h => ?_) (fun h => ?_)
  · obtain rfl := Option.some.inj h
    exact j_sub (ls' := [none, none, none, none, none]) ⟨Or.inl rfl, Or.inl rfl, Or.inl rfl, Or.inl rfl, Or.inl rfl, trivial⟩ kk
  · refine j_aload_n X 0 dX2_countWithin_14 rfl rfl ?_
    refine j_getR (t := 82) X fg_RX2_15 ln_80 ly_80 rfl dX2_countWithin_15 ?_
    refine j_iload_n X 3 dX2_countWithin_18 rfl rfl ?_
    refine j_iconst (v := 0) X dX2_countWithin_19 (by decide) ?_
    refine j_iastore X ln_82 ly_82 dX2_countWithin_20 h (fun σ4 h => ?_)
    refine j_iconst (v := 0) X dX2_countWithin_21 (by decide) ?_
    refine j_istore (ls' := [some (.ref 80), some (.ref p1), some (.int p2), some (.int x3), some (.int (0 : Int32))]) X dX2_countWithin_22 (Nat.le_of_ble_eq_true rfl) rfl ?_
    obtain ⟨q18, σ19, hL20, h⟩ := jbd_some h
    refine X2_countWithin_L24_ok X hp1 jFU (0 : Int32) σ4 _ hL20 ?_
    refine j_iinc (v := (x3 + 1)) (ls' := [some (.ref 80), some (.ref p1), some (.int p2), some (.int (x3 + 1)), none]) X dX2_countWithin_78 rfl rfl (Nat.le_of_ble_eq_true rfl) rfl ?_
    refine j_goto (tgt := 7) X dX2_countWithin_81 (by decide) ?_
    exact ih (x3 + 1) σ19 _ h kk
theorem X2_countWithin_L7_ok {K : jK} (X : JX K cX2_countWithin 5 RX2 2 40) {p1 : Nat} {p2 : Int32} (hp1 : jisP p1) : ∀ (n : Nat) (s : Int32) (σ : jMem) (o : (Unit) × jMem), X2_countWithin_L7 p1 p2 n s σ = some o → (J K 84 [none, none, none, none, none] [] o.2) → J K 7 [some (.ref 80), some (.ref p1), some (.int p2), some (.int s), none] [] σ := by
  intro n
  induction n with
  | zero => intro s σ o h; cases h
  | succ n ih => intro s σ o h; exact X2_countWithin_L7_bok X hp1 ih (s) σ o h
def f_X2_countWithin (a0 : Nat) (σ : jMem) : Option jMem :=
  jbd (f_X5_open a0 σ) (fun v1 σ2 =>
  jbd (X2_countWithin_L7 (a0) (v1) jFU (0 : Int32) σ2) (fun q21 σ22 =>
  some σ22))
set_option maxRecDepth 100000 in
set_option maxHeartbeats 4000000 in
theorem c_X2_countWithin {l : Launch} {D : va_G} {ad : Nat → Nat} {cid : Nat → ClassId} {a0 : Nat} (ha0 : jisP a0) {σ : jMem} {σ' : jMem} (h : f_X2_countWithin a0 σ = some σ') : jMet l D ad cid yX2_countWithin cX2_countWithin 5 none 2 40 [.ref 80, .ref a0] σ none σ' := by
  refine jMet_of (ls0 := [some (.ref 80), some (.ref a0), none, none, none]) (by decide) (Nat.le_of_ble_eq_true rfl) rfl (fun K X R0 _ => ?_)
  unfold f_X2_countWithin at h
  refine j_aload_n X 1 dX2_countWithin_0 rfl rfl ?_
  obtain ⟨v1, σ2, hm3, h⟩ := jbd_some h
  refine j_callV (as := []) (st := []) (st1 := [.int v1]) X (jp_lt ha0) (jp_ly ha0) rfl rfl sv_RX2_36 ⟨by decide, by decide⟩ rfl rfl (Nat.le_of_ble_eq_true rfl) rfl dX2_countWithin_1 jrv_i (c_X5_open ha0 hm3) rfl ?_
  refine j_istore_n (ls' := [some (.ref 80), some (.ref a0), some (.int v1), none, none]) X 2 dX2_countWithin_4 rfl (Nat.le_of_ble_eq_true rfl) rfl ?_
  refine j_iconst (v := 0) X dX2_countWithin_5 (by decide) ?_
  refine j_istore_n (ls' := [some (.ref 80), some (.ref a0), some (.int v1), some (.int (0 : Int32)), none]) X 3 dX2_countWithin_6 rfl (Nat.le_of_ble_eq_true rfl) rfl ?_
  obtain ⟨q21, σ22, hL23, h⟩ := jbd_some h
  refine X2_countWithin_L7_ok X ha0 jFU (0 : Int32) σ2 _ hL23 ?_
  obtain rfl := Option.some.inj h
  exact j_vret X R0 dX2_countWithin_84
theorem sv_RX2_101 : jSiV RX2 101 yX2_casesJoined cX2_casesJoined 7 (some .long) 2 := ⟨tw_737, tw_739, ts_19, tw_11, tw_740, by decide, by decide, by decide +kernel⟩
theorem sv_RX2_93 : jSiV RX2 93 yX2_countWithin cX2_countWithin 5 none 1 := ⟨tw_729, tw_731, ts_17, tw_11, tw_732, by decide, by decide, by decide +kernel⟩
theorem sv_RX2_97 : jSiV RX2 97 yX2_fillPowers cX2_fillPowers 5 none 1 := ⟨tw_733, tw_735, ts_18, tw_11, tw_736, by decide, by decide, by decide +kernel⟩
def X2_casesThrough_L32_b (p1 : Nat) (p2 : Int32) (p4 : Int32) (rec : Int64 × Int32 → jMem → Option ((Int64) × jMem)) (x5 : Int64) (x7 : Int32) (σ : jMem) : Option ((Int64) × jMem) :=
  if (256 : Int32) ≤ x7 then
  some (x5, σ)
else
  jbd (f_X11_bitOf x7 p2 σ) (fun v7 σ8 =>
  if ¬ v7 = (1 : Int32) then
  rec (x5, (x7 + 1)) σ8
else
  jbd (f_X11_bitOf x7 (σ8.1 p1 2) σ8) (fun v10 σ11 =>
  if ¬ v10 = 0 then
  rec (x5, (x7 + 1)) σ11
else
  jbd (f_X2_casesJoined x7 p2 σ11) (fun v13 σ14 =>
  jstL σ14 83 256 x7 v13 (fun σ16 =>
  jbd (f_X2_casesParted x7 p4 σ16) (fun v17 σ18 =>
  jlet ((x5 - v17)) (fun v20 =>
  rec (v20, (x7 + 1)) σ18))))))
def X2_casesThrough_L32 (p1 : Nat) (p2 : Int32) (p4 : Int32) : Nat → Int64 × Int32 → jMem → Option ((Int64) × jMem) := jloop (fun rec s σ => X2_casesThrough_L32_b p1 p2 p4 rec s.1 s.2 σ)
set_option maxRecDepth 100000 in
set_option maxHeartbeats 4000000 in
theorem X2_casesThrough_L32_bok {K : jK} (X : JX K cX2_casesThrough 8 RX2 3 64) {p1 : Nat} {p2 : Int32} {p4 : Int32} (hp1 : jisP p1) {rec : Int64 × Int32 → jMem → Option ((Int64) × jMem)} (ih : ∀ (s : Int64 × Int32) (σ : jMem) (o : (Int64) × jMem), rec s σ = some o → (J K 95 [none, none, none, none, none, some (.long o.1), none, none] [] o.2) → J K 32 [some (.ref 80), some (.ref p1), some (.int p2), none, some (.int p4), some (.long s.1), none, some (.int s.2)] [] σ) : ∀ (x5 : Int64) (x7 : Int32) (σ : jMem) (o : (Int64) × jMem), X2_casesThrough_L32_b p1 p2 p4 rec x5 x7 σ = some o → (J K 95 [none, none, none, none, none, some (.long o.1), none, none] [] o.2) → J K 32 [some (.ref 80), some (.ref p1), some (.int p2), none, some (.int p4), some (.long x5), none, some (.int x7)] [] σ := by
  intro x5 x7 σ o h kk
  unfold X2_casesThrough_L32_b at h
  refine j_iload X dX2_casesThrough_32 rfl ?_
  refine j_sipush (v := 256) X dX2_casesThrough_34 (by decide) ?_
  refine j_icmp_ge (tgt := 95) X dX2_casesThrough_37 (by decide) h (fun h => ?_) (fun h => ?_)
  · obtain rfl := Option.some.inj h
    exact j_sub (ls' := [none, none, none, none, none, some (.long x5), none, none]) ⟨Or.inl rfl, Or.inl rfl, Or.inl rfl, Or.inl rfl, Or.inl rfl, Or.inr rfl, Or.inl rfl, Or.inl rfl, trivial⟩ kk
  · refine j_iload X dX2_casesThrough_40 rfl ?_
    refine j_iload_n X 2 dX2_casesThrough_42 rfl rfl ?_
    obtain ⟨v7, σ8, hm9, h⟩ := jbd_some h
    refine j_callN (as := [.int x7, .int p2]) (st := []) (st1 := [.int v7]) X sn_RX2_68 ⟨by decide, by decide⟩ rfl rfl (Nat.le_of_ble_eq_true rfl) rfl dX2_casesThrough_43 jrv_i (c_X11_bitOf  hm9) rfl ?_
    refine j_iconst (v := 1) X dX2_casesThrough_46 (by decide) ?_
    refine j_icmp_ne (tgt := 89) X dX2_casesThrough_47 (by decide) h (fun h => ?_) (fun h => ?_)
    · refine j_iinc (v := (x7 + 1)) (ls' := [some (.ref 80), some (.ref p1), some (.int p2), none, some (.int p4), some (.long x5), none, some (.int (x7 + 1))]) X dX2_casesThrough_89 rfl rfl (Nat.le_of_ble_eq_true rfl) rfl ?_
      refine j_goto (tgt := 32) X dX2_casesThrough_92 (by decide) ?_
      exact ih (x5, (x7 + 1)) σ8 _ h kk
    · refine j_iload X dX2_casesThrough_50 rfl ?_
      refine j_aload_n X 1 dX2_casesThrough_52 rfl rfl ?_
      refine j_getI X fg_RX2_30 (jp_lt hp1) (jp_ly hp1) rfl dX2_casesThrough_53 ?_
      obtain ⟨v10, σ11, hm12, h⟩ := jbd_some h
      refine j_callN (as := [.int x7, .int (σ8.1 p1 2)]) (st := []) (st1 := [.int v10]) X sn_RX2_68 ⟨by decide, by decide⟩ rfl rfl (Nat.le_of_ble_eq_true rfl) rfl dX2_casesThrough_56 jrv_i (c_X11_bitOf  hm12) rfl ?_
      refine j_if_ne (tgt := 89) X dX2_casesThrough_59 (by decide) h (fun h => ?_) (fun h => ?_)
      · refine j_iinc (v := (x7 + 1)) (ls' := [some (.ref 80), some (.ref p1), some (.int p2), none, some (.int p4), some (.long x5), none, some (.int (x7 + 1))]) X dX2_casesThrough_89 rfl rfl (Nat.le_of_ble_eq_true rfl) rfl ?_
        refine j_goto (tgt := 32) X dX2_casesThrough_92 (by decide) ?_
        exact ih (x5, (x7 + 1)) σ11 _ h kk
      · refine j_aload_n X 0 dX2_casesThrough_62 rfl rfl ?_
        refine j_getR (t := 83) X fg_RX2_18 ln_80 ly_80 rfl dX2_casesThrough_63 ?_
        refine j_iload X dX2_casesThrough_66 rfl ?_
        refine j_aload_n X 0 dX2_casesThrough_68 rfl rfl ?_
        refine j_iload X dX2_casesThrough_69 rfl ?_
        refine j_iload_n X 2 dX2_casesThrough_71 rfl rfl ?_
        obtain ⟨v13, σ14, hm15, h⟩ := jbd_some h
        refine j_callV (as := [.int x7, .int p2]) (st := [.int x7, .ref 83]) (st1 := [.long v13, .int x7, .ref 83]) X ln_80 ly_80 rfl rfl sv_RX2_101 ⟨by decide, by decide⟩ rfl rfl (Nat.le_of_ble_eq_true rfl) rfl dX2_casesThrough_72 jrv_l (c_X2_casesJoined  hm15) rfl ?_
        refine j_lastore X ln_83 ly_83 dX2_casesThrough_75 h (fun σ16 h => ?_)
        refine j_lload X dX2_casesThrough_76 rfl ?_
        refine j_aload_n X 0 dX2_casesThrough_78 rfl rfl ?_
        refine j_iload X dX2_casesThrough_79 rfl ?_
        refine j_iload X dX2_casesThrough_81 rfl ?_
        obtain ⟨v17, σ18, hm19, h⟩ := jbd_some h
        refine j_callV (as := [.int x7, .int p4]) (st := [.long x5]) (st1 := [.long v17, .long x5]) X ln_80 ly_80 rfl rfl sv_RX2_105 ⟨by decide, by decide⟩ rfl rfl (Nat.le_of_ble_eq_true rfl) rfl dX2_casesThrough_83 jrv_l (c_X2_casesParted  hm19) rfl ?_
        refine j_lsub X dX2_casesThrough_86 ?_
        refine j_letL h (fun v20 h => ?_)
        refine j_lstore (ls' := [some (.ref 80), some (.ref p1), some (.int p2), none, some (.int p4), some (.long v20), none, some (.int x7)]) X dX2_casesThrough_87 (Nat.le_of_ble_eq_true rfl) rfl ?_
        refine j_iinc (v := (x7 + 1)) (ls' := [some (.ref 80), some (.ref p1), some (.int p2), none, some (.int p4), some (.long v20), none, some (.int (x7 + 1))]) X dX2_casesThrough_89 rfl rfl (Nat.le_of_ble_eq_true rfl) rfl ?_
        refine j_goto (tgt := 32) X dX2_casesThrough_92 (by decide) ?_
        exact ih (v20, (x7 + 1)) σ18 _ h kk
theorem X2_casesThrough_L32_ok {K : jK} (X : JX K cX2_casesThrough 8 RX2 3 64) {p1 : Nat} {p2 : Int32} {p4 : Int32} (hp1 : jisP p1) : ∀ (n : Nat) (s : Int64 × Int32) (σ : jMem) (o : (Int64) × jMem), X2_casesThrough_L32 p1 p2 p4 n s σ = some o → (J K 95 [none, none, none, none, none, some (.long o.1), none, none] [] o.2) → J K 32 [some (.ref 80), some (.ref p1), some (.int p2), none, some (.int p4), some (.long s.1), none, some (.int s.2)] [] σ := by
  intro n
  induction n with
  | zero => intro s σ o h; cases h
  | succ n ih => intro s σ o h; exact X2_casesThrough_L32_bok X hp1 ih (s.1) (s.2) σ o h
def f_X2_casesThrough (a0 : Nat) (a1 : Int32) (a2 : Int32) (σ : jMem) : Option (Int64 × jMem) :=
  jbv (f_X2_countWithin a0 σ) (fun σ1 =>
  jbv (f_X2_fillPowers a2 σ1) (fun σ3 =>
  jld σ3 82 256 (255 : Int32) (fun v5 =>
  jldL σ3 84 13 v5 (fun v6 =>
  jbd (X2_casesThrough_L32 (a0) (a1) ((255 : Int32)) jFU (v6, (0 : Int32)) σ3) (fun q21 σ22 =>
  some ((q21, σ22)))))))
set_option maxRecDepth 100000 in
set_option maxHeartbeats 4000000 in
theorem c_X2_casesThrough {l : Launch} {D : va_G} {ad : Nat → Nat} {cid : Nat → ClassId} {a0 : Nat} {a1 : Int32} {a2 : Int32} (ha0 : jisP a0) {σ : jMem} {r : Int64} {σ' : jMem} (h : f_X2_casesThrough a0 a1 a2 σ = some (r, σ')) : jMet l D ad cid yX2_casesThrough cX2_casesThrough 8 (some .long) 3 64 [.ref 80, .ref a0, .int a1, .int a2] σ (some (.long r)) σ' := by
  refine jMet_of (ls0 := [some (.ref 80), some (.ref a0), some (.int a1), some (.int a2), none, none, none, none]) (by decide) (Nat.le_of_ble_eq_true rfl) rfl (fun K X R0 _ => ?_)
  unfold f_X2_casesThrough at h
  refine j_aload_n X 0 dX2_casesThrough_0 rfl rfl ?_
  refine j_aload_n X 1 dX2_casesThrough_1 rfl rfl ?_
  obtain ⟨σ1, hm2, h⟩ := jbv_some h
  refine j_callV (as := [.ref a0]) (st := []) (st1 := []) X ln_80 ly_80 rfl rfl sv_RX2_93 ⟨by decide, by decide⟩ rfl rfl (Nat.le_of_ble_eq_true rfl) rfl dX2_casesThrough_2 jrv_v (c_X2_countWithin ha0 hm2) rfl ?_
  refine j_aload_n X 0 dX2_casesThrough_5 rfl rfl ?_
  refine j_iload_n X 3 dX2_casesThrough_6 rfl rfl ?_
  obtain ⟨σ3, hm4, h⟩ := jbv_some h
  refine j_callV (as := [.int a2]) (st := []) (st1 := []) X ln_80 ly_80 rfl rfl sv_RX2_97 ⟨by decide, by decide⟩ rfl rfl (Nat.le_of_ble_eq_true rfl) rfl dX2_casesThrough_7 jrv_v (c_X2_fillPowers  hm4) rfl ?_
  refine j_sipush (v := 255) X dX2_casesThrough_10 (by decide) ?_
  refine j_istore (ls' := [some (.ref 80), some (.ref a0), some (.int a1), some (.int a2), some (.int (255 : Int32)), none, none, none]) X dX2_casesThrough_13 (Nat.le_of_ble_eq_true rfl) rfl ?_
  refine j_aload_n X 0 dX2_casesThrough_15 rfl rfl ?_
  refine j_getR (t := 84) X fg_RX2_22 ln_80 ly_80 rfl dX2_casesThrough_16 ?_
  refine j_aload_n X 0 dX2_casesThrough_19 rfl rfl ?_
  refine j_getR (t := 82) X fg_RX2_15 ln_80 ly_80 rfl dX2_casesThrough_20 ?_
  refine j_iload X dX2_casesThrough_23 rfl ?_
  refine j_iaload X ln_82 ly_82 dX2_casesThrough_25 h (fun v5 h => ?_)
  refine j_laload X ln_84 ly_84 dX2_casesThrough_26 h (fun v6 h => ?_)
  refine j_lstore (ls' := [some (.ref 80), some (.ref a0), some (.int a1), some (.int a2), some (.int (255 : Int32)), some (.long v6), none, none]) X dX2_casesThrough_27 (Nat.le_of_ble_eq_true rfl) rfl ?_
  refine j_iconst (v := 0) X dX2_casesThrough_29 (by decide) ?_
  refine j_istore (ls' := [some (.ref 80), some (.ref a0), some (.int a1), some (.int a2), some (.int (255 : Int32)), some (.long v6), none, some (.int (0 : Int32))]) X dX2_casesThrough_30 (Nat.le_of_ble_eq_true rfl) rfl ?_
  obtain ⟨q21, σ22, hL23, h⟩ := jbd_some h
  refine j_sub (ls' := [some (.ref 80), some (.ref a0), some (.int a1), none, some (.int (255 : Int32)), some (.long v6), none, some (.int (0 : Int32))]) ⟨Or.inr rfl, Or.inr rfl, Or.inr rfl, Or.inl rfl, Or.inr rfl, Or.inr rfl, Or.inl rfl, Or.inr rfl, trivial⟩ ?_
  refine X2_casesThrough_L32_ok X ha0 jFU (v6, (0 : Int32)) σ3 _ hL23 ?_
  refine j_lload X dX2_casesThrough_95 rfl ?_
  obtain ⟨rfl, rfl⟩ := jin2 h
  exact j_lret X R0 dX2_casesThrough_97
theorem ss_RX11_302 : jSiS RX11 302 yX11_commonDivisor cX11_commonDivisor 11 (some .long) 2 := ⟨tw_745, tw_746, tw_1, tw_747, by decide, by decide, by decide +kernel⟩
theorem sv_RX11_294 : jSiV RX11 294 yX2_casesThrough cX2_casesThrough 8 (some .long) 3 := ⟨tw_725, tw_726, tw_727, tw_11, tw_728, by decide, by decide, by decide +kernel⟩
def f_X11_locked (a0 : Int32) (a1 : Int32) (a2 : Int32) (σ : jMem) : Option (Int64 × jMem) :=
  if ¬ (σ.1 22 1) = 0 then
  jbd (f_X11_isField a0 σ) (fun v1 σ2 =>
  if v1 = 0 then
  some (((-1000001 : Int64), σ2))
else
  if a1 < 0 then
  some (((-1000001 : Int64), σ2))
else
  if (10 : Int32) < a1 then
  some (((-1000001 : Int64), σ2))
else
  jbd (f_X11_isOneOfTwo a2 σ2) (fun v4 σ5 =>
  if ¬ v4 = 0 then
  jbd (f_X2_casesThrough 22 a0 a1 σ5) (fun v7 σ8 =>
  jbd (f_X5_open 22 σ8) (fun v10 σ11 =>
  jbd (f_J6_bitCount_0f7a4 v10 σ11) (fun v13 σ14 =>
  jldL σ14 84 13 v13 (fun v16 =>
  jbd (f_X11_commonDivisor v16 v7 σ14) (fun v17 σ18 =>
  if ¬ a2 = 0 then
  jck (¬ v17 = 0) (
  some (((v16 / v17), σ18)))
else
  jck (¬ v17 = 0) (
  some (((v7 / v17), σ18))))))))
else
  some (((-1000001 : Int64), σ5))))
else
  some (((-1000002 : Int64), σ))
set_option maxRecDepth 100000 in
set_option maxHeartbeats 4000000 in
theorem c_X11_locked {l : Launch} {D : va_G} {ad : Nat → Nat} {cid : Nat → ClassId} {a0 : Int32} {a1 : Int32} {a2 : Int32}  {σ : jMem} {r : Int64} {σ' : jMem} (h : f_X11_locked a0 a1 a2 σ = some (r, σ')) : jMet l D ad cid yX11_locked cX11_locked 10 (some .long) 4 91 [.ref 0, .int a0, .int a1, .int a2] σ (some (.long r)) σ' := by
  refine jMet_of (ls0 := [some (.ref 0), some (.int a0), some (.int a1), some (.int a2), none, none, none, none, none, none]) (by decide) (Nat.le_of_ble_eq_true rfl) rfl (fun K X R0 _ => ?_)
  unfold f_X11_locked at h
  refine j_aload_n X 0 dX11_locked_0 rfl rfl ?_
  refine j_getR (t := 22) X fg_RX11_50 ln_0 ly_0 rfl dX11_locked_1 ?_
  refine j_getI X fg_RX11_170 ln_22 ly_22 rfl dX11_locked_4 ?_
  refine j_if_ne (tgt := 14) X dX11_locked_7 (by decide) h (fun h => ?_) (fun h => ?_)
  · refine j_iload_n X 1 dX11_locked_14 rfl rfl ?_
    obtain ⟨v1, σ2, hm3, h⟩ := jbd_some h
    refine j_callS (as := [.int a0]) (st := []) (st1 := [.int v1]) X ss_RX11_174 ⟨by decide, by decide⟩ rfl rfl (Nat.le_of_ble_eq_true rfl) rfl dX11_locked_15 jrv_i (c_X11_isField  hm3) rfl ?_
    refine j_if_eq (tgt := 38) X dX11_locked_18 (by decide) h (fun h => ?_) (fun h => ?_)
    · refine j_ldc2_w (v := -1000001) X tw_724 dX11_locked_38 ?_
      obtain ⟨rfl, rfl⟩ := jin2 h
      exact j_lret X R0 dX11_locked_41
    · refine j_iload_n X 2 dX11_locked_21 rfl rfl ?_
      refine j_if_lt (tgt := 38) X dX11_locked_22 (by decide) h (fun h => ?_) (fun h => ?_)
      · refine j_ldc2_w (v := -1000001) X tw_724 dX11_locked_38 ?_
        obtain ⟨rfl, rfl⟩ := jin2 h
        exact j_lret X R0 dX11_locked_41
      · refine j_iload_n X 2 dX11_locked_25 rfl rfl ?_
        refine j_bipush (v := 10) X dX11_locked_26 (by decide) ?_
        refine j_icmp_gt (tgt := 38) X dX11_locked_28 (by decide) h (fun h => ?_) (fun h => ?_)
        · refine j_ldc2_w (v := -1000001) X tw_724 dX11_locked_38 ?_
          obtain ⟨rfl, rfl⟩ := jin2 h
          exact j_lret X R0 dX11_locked_41
        · refine j_iload_n X 3 dX11_locked_31 rfl rfl ?_
          obtain ⟨v4, σ5, hm6, h⟩ := jbd_some h
          refine j_callS (as := [.int a2]) (st := []) (st1 := [.int v4]) X ss_RX11_204 ⟨by decide, by decide⟩ rfl rfl (Nat.le_of_ble_eq_true rfl) rfl dX11_locked_32 jrv_i (c_X11_isOneOfTwo  hm6) rfl ?_
          refine j_if_ne (tgt := 42) X dX11_locked_35 (by decide) h (fun h => ?_) (fun h => ?_)
          · refine j_aload_n X 0 dX11_locked_42 rfl rfl ?_
            refine j_getR (t := 80) X fg_RX11_69 ln_0 ly_0 rfl dX11_locked_43 ?_
            refine j_aload_n X 0 dX11_locked_46 rfl rfl ?_
            refine j_getR (t := 22) X fg_RX11_50 ln_0 ly_0 rfl dX11_locked_47 ?_
            refine j_iload_n X 1 dX11_locked_50 rfl rfl ?_
            refine j_iload_n X 2 dX11_locked_51 rfl rfl ?_
            obtain ⟨v7, σ8, hm9, h⟩ := jbd_some h
            refine j_callV (as := [.ref 22, .int a0, .int a1]) (st := []) (st1 := [.long v7]) X ln_80 ly_80 rfl rfl sv_RX11_294 ⟨by decide, by decide⟩ rfl rfl (Nat.le_of_ble_eq_true rfl) rfl dX11_locked_52 jrv_l (c_X2_casesThrough jisP_22 hm9) rfl ?_
            refine j_lstore (ls' := [some (.ref 0), some (.int a0), some (.int a1), some (.int a2), some (.long v7), none, none, none, none, none]) X dX11_locked_55 (Nat.le_of_ble_eq_true rfl) rfl ?_
            refine j_aload_n X 0 dX11_locked_57 rfl rfl ?_
            refine j_getR (t := 80) X fg_RX11_69 ln_0 ly_0 rfl dX11_locked_58 ?_
            refine j_getR (t := 84) X fg_RX11_298 ln_80 ly_80 rfl dX11_locked_61 ?_
            refine j_aload_n X 0 dX11_locked_64 rfl rfl ?_
            refine j_getR (t := 22) X fg_RX11_50 ln_0 ly_0 rfl dX11_locked_65 ?_
            obtain ⟨v10, σ11, hm12, h⟩ := jbd_some h
            refine j_callV (as := []) (st := [.ref 84]) (st1 := [.int v10, .ref 84]) X ln_22 ly_22 rfl rfl sv_RX11_248 ⟨by decide, by decide⟩ rfl rfl (Nat.le_of_ble_eq_true rfl) rfl dX11_locked_68 jrv_i (c_X5_open jisP_22 hm12) rfl ?_
            obtain ⟨v13, σ14, hm15, h⟩ := jbd_some h
            refine j_callS (as := [.int v10]) (st := [.ref 84]) (st1 := [.int v13, .ref 84]) X ss_RX11_265 ⟨by decide, by decide⟩ rfl rfl (Nat.le_of_ble_eq_true rfl) rfl dX11_locked_71 jrv_i (c_J6_bitCount_0f7a4  hm15) rfl ?_
            refine j_laload X ln_84 ly_84 dX11_locked_74 h (fun v16 h => ?_)
            refine j_lstore (ls' := [some (.ref 0), some (.int a0), some (.int a1), some (.int a2), some (.long v7), none, some (.long v16), none, none, none]) X dX11_locked_75 (Nat.le_of_ble_eq_true rfl) rfl ?_
            refine j_lload X dX11_locked_77 rfl ?_
            refine j_lload X dX11_locked_79 rfl ?_
            obtain ⟨v17, σ18, hm19, h⟩ := jbd_some h
            refine j_callS (as := [.long v16, .long v7]) (st := []) (st1 := [.long v17]) X ss_RX11_302 ⟨by decide, by decide⟩ rfl rfl (Nat.le_of_ble_eq_true rfl) rfl dX11_locked_81 jrv_l (c_X11_commonDivisor  hm19) rfl ?_
            refine j_lstore (ls' := [some (.ref 0), some (.int a0), some (.int a1), some (.int a2), some (.long v7), none, some (.long v16), none, some (.long v17), none]) X dX11_locked_84 (Nat.le_of_ble_eq_true rfl) rfl ?_
            refine j_iload_n X 3 dX11_locked_86 rfl rfl ?_
            refine j_if_ne (tgt := 95) X dX11_locked_87 (by decide) h (fun h => ?_) (fun h => ?_)
            · refine j_lload X dX11_locked_95 rfl ?_
              refine j_lload X dX11_locked_97 rfl ?_
              obtain ⟨hc20, h⟩ := jck_some h
              refine j_ldiv X dX11_locked_99 hc20 ?_
              obtain ⟨rfl, rfl⟩ := jin2 h
              exact j_lret X R0 dX11_locked_100
            · refine j_lload X dX11_locked_90 rfl ?_
              refine j_goto (tgt := 97) X dX11_locked_92 (by decide) ?_
              refine j_lload X dX11_locked_97 rfl ?_
              obtain ⟨hc21, h⟩ := jck_some h
              refine j_ldiv X dX11_locked_99 hc21 ?_
              obtain ⟨rfl, rfl⟩ := jin2 h
              exact j_lret X R0 dX11_locked_100
          · refine j_ldc2_w (v := -1000001) X tw_724 dX11_locked_38 ?_
            obtain ⟨rfl, rfl⟩ := jin2 h
            exact j_lret X R0 dX11_locked_41
  · refine j_ldc2_w (v := -1000002) X tw_723 dX11_locked_10 ?_
    obtain ⟨rfl, rfl⟩ := jin2 h
    exact j_lret X R0 dX11_locked_13
