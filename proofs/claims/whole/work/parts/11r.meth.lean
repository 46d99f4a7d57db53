def X2_countWithin_L24_b (p1 : Nat) (p2 : Int32) (p3 : Int32) (rec : Int32 → jMem → Option ((Unit) × jMem)) (x4 : Int32) (σ : jMem) : Option ((Unit) × jMem) :=
  if (σ.1 p1 5) ≤ x4 then
  some ((), σ)
else
  jld σ 82 256 p3 (fun v5 =>
  jbd (f_X11_bitOf p2 x4 σ) (fun v6 σ7 =>
  jld σ7 (p1 + 1) 12 x4 (fun v9 =>
  jbd (f_X11_bitOf p3 v9 σ7) (fun v10 σ11 =>
  jld σ11 (p1 + 2) 12 x4 (fun v13 =>
  jbd (f_X11_bitOf p3 v13 σ11) (fun v14 σ15 =>
  jst σ15 82 256 p3 (v5 + ((v6 &&& v10) &&& v14)) (fun σ17 =>
  rec (x4 + 1) σ17)))))))
def X2_countWithin_L24 (p1 : Nat) (p2 : Int32) (p3 : Int32) : Nat → Int32 → jMem → Option ((Unit) × jMem) := jloop (fun rec s σ => X2_countWithin_L24_b p1 p2 p3 rec s σ)
set_option maxRecDepth 100000 in
set_option maxHeartbeats 4000000 in
theorem X2_countWithin_L24_bok {K : jK} (X : JX K cX2_countWithin 5 RX2 2 40) {p1 : Nat} {p2 : Int32} {p3 : Int32} (hp1 : jisP p1) {rec : Int32 → jMem → Option ((Unit) × jMem)} (ih : ∀ (s : Int32) (σ : jMem) (o : (Unit) × jMem), rec s σ = some o → (J K 78 [some (.ref 80), some (.ref p1), some (.int p2), some (.int p3), none] [] o.2) → J K 24 [some (.ref 80), some (.ref p1), some (.int p2), some (.int p3), some (.int s)] [] σ) : ∀ (x4 : Int32) (σ : jMem) (o : (Unit) × jMem), X2_countWithin_L24_b p1 p2 p3 rec x4 σ = some o → (J K 78 [some (.ref 80), some (.ref p1), some (.int p2), some (.int p3), none] [] o.2) → J K 24 [some (.ref 80), some (.ref p1), some (.int p2), some (.int p3), some (.int x4)] [] σ := by
  intro x4 σ o h kk
  unfold X2_countWithin_L24_b at h
  refine j_iload X dX2_countWithin_24 rfl ?_
  refine j_aload_n X 1 dX2_countWithin_26 rfl rfl ?_
  refine j_getI X fg_RX2_65 (jp_lt hp1) (jp_ly hp1) rfl dX2_countWithin_27 ?_
  refine j_icmp_ge (tgt := 78) X dX2_countWithin_30 (by decide) h (fun h => ?_) (fun h => ?_)
  · obtain rfl := Option.some.inj h
    exact j_sub (ls' := [some (.ref 80), some (.ref p1), some (.int p2), some (.int p3), none]) ⟨Or.inr rfl, Or.inr rfl, Or.inr rfl, Or.inr rfl, Or.inl rfl, trivial⟩ kk
  · refine j_aload_n X 0 dX2_countWithin_33 rfl rfl ?_
    refine j_getR (t := 82) X fg_RX2_15 ln_80 ly_80 rfl dX2_countWithin_34 ?_
    refine j_iload_n X 3 dX2_countWithin_37 rfl rfl ?_
    refine j_dup2 X dX2_countWithin_38 rfl rfl ?_
    refine j_iaload X ln_82 ly_82 dX2_countWithin_39 h (fun v5 h => ?_)
    refine j_iload_n X 2 dX2_countWithin_40 rfl rfl ?_
    refine j_iload X dX2_countWithin_41 rfl ?_
    obtain ⟨v6, σ7, hm8, h⟩ := jbd_some h
    refine j_callN (as := [.int p2, .int x4]) (st := [.int v5, .int p3, .ref 82]) (st1 := [.int v6, .int v5, .int p3, .ref 82]) X sn_RX2_68 ⟨by decide, by decide⟩ rfl rfl (Nat.le_of_ble_eq_true rfl) rfl dX2_countWithin_43 jrv_i (c_X11_bitOf  hm8) rfl ?_
    refine j_iload_n X 3 dX2_countWithin_46 rfl rfl ?_
    refine j_aload_n X 1 dX2_countWithin_47 rfl rfl ?_
    refine j_getR (t := (p1 + 1)) X fg_RX2_72 (jp_lt hp1) (jp_ly hp1) rfl dX2_countWithin_48 ?_
    refine j_iload X dX2_countWithin_51 rfl ?_
    refine j_iaload X (jp_lt1 hp1) (jp_ly1 hp1) dX2_countWithin_53 h (fun v9 h => ?_)
    obtain ⟨v10, σ11, hm12, h⟩ := jbd_some h
    refine j_callN (as := [.int p3, .int v9]) (st := [.int v6, .int v5, .int p3, .ref 82]) (st1 := [.int v10, .int v6, .int v5, .int p3, .ref 82]) X sn_RX2_68 ⟨by decide, by decide⟩ rfl rfl (Nat.le_of_ble_eq_true rfl) rfl dX2_countWithin_54 jrv_i (c_X11_bitOf  hm12) rfl ?_
    refine j_iand X dX2_countWithin_57 ?_
    refine j_iload_n X 3 dX2_countWithin_58 rfl rfl ?_
    refine j_aload_n X 1 dX2_countWithin_59 rfl rfl ?_
    refine j_getR (t := (p1 + 2)) X fg_RX2_75 (jp_lt hp1) (jp_ly hp1) rfl dX2_countWithin_60 ?_
    refine j_iload X dX2_countWithin_63 rfl ?_
    refine j_iaload X (jp_lt2 hp1) (jp_ly2 hp1) dX2_countWithin_65 h (fun v13 h => ?_)
    obtain ⟨v14, σ15, hm16, h⟩ := jbd_some h
    refine j_callN (as := [.int p3, .int v13]) (st := [.int (v6 &&& v10), .int v5, .int p3, .ref 82]) (st1 := [.int v14, .int (v6 &&& v10), .int v5, .int p3, .ref 82]) X sn_RX2_68 ⟨by decide, by decide⟩ rfl rfl (Nat.le_of_ble_eq_true rfl) rfl dX2_countWithin_66 jrv_i (c_X11_bitOf  hm16) rfl ?_
    refine j_iand X dX2_countWithin_69 ?_
    refine j_iadd X dX2_countWithin_70 ?_
    refine j_iastore X ln_82 ly_82 dX2_countWithin_71 h (fun σ17 h => ?_)
    refine j_iinc (v := (x4 + 1)) (ls' := [some (.ref 80), some (.ref p1), some (.int p2), some (.int p3), some (.int (x4 + 1))]) X dX2_countWithin_72 rfl rfl (Nat.le_of_ble_eq_true rfl) rfl ?_
    refine j_goto (tgt := 24) X dX2_countWithin_75 (by decide) ?_
    exact ih (x4 + 1) σ17 _ h kk
theorem X2_countWithin_L24_ok {K : jK} (X : JX K cX2_countWithin 5 RX2 2 40) {p1 : Nat} {p2 : Int32} {p3 : Int32} (hp1 : jisP p1) : ∀ (n : Nat) (s : Int32) (σ : jMem) (o : (Unit) × jMem), X2_countWithin_L24 p1 p2 p3 n s σ = some o → (J K 78 [some (.ref 80), some (.ref p1), some (.int p2), some (.int p3), none] [] o.2) → J K 24 [some (.ref 80), some (.ref p1), some (.int p2), some (.int p3), some (.int s)] [] σ := by
  intro n
  induction n with
  | zero => intro s σ o h; cases h
  | succ n ih => intro s σ o h; exact X2_countWithin_L24_bok X hp1 ih (s) σ o h
def X2_countWithin_L7_b (p1 : Nat) (p2 : Int32) (rec : Int32 → jMem → Option ((Unit) × jMem)) (x3 : Int32) (σ : jMem) : Option ((Unit) × jMem) :=
  if (256 : Int32) ≤ x3 then
  some ((), σ)
else
  jst σ 82 256 x3 (0 : Int32) (fun σ4 =>
  jbd (X2_countWithin_L24 (p1) (p2) (x3) jFU (0 : Int32) σ4) (fun q18 σ19 =>
  rec (x3 + 1) σ19))
def X2_countWithin_L7 (p1 : Nat) (p2 : Int32) : Nat → Int32 → jMem → Option ((Unit) × jMem) := jloop (fun rec s σ => X2_countWithin_L7_b p1 p2 rec s σ)
set_option maxRecDepth 100000 in
set_option maxHeartbeats 4000000 in
theorem X2_countWithin_L7_bok {K : jK} (X : JX K cX2_countWithin 5 RX2 2 40) {p1 : Nat} {p2 : Int32} (hp1 : jisP p1) {rec : Int32 → jMem → Option ((Unit) × jMem)} (ih : ∀ (s : Int32) (σ : jMem) (o : (Unit) × jMem), rec s σ = some o → (J K 84 [none, none, none, none, none] [] o.2) → J K 7 [some (.ref 80), some (.ref p1), some (.int p2), some (.int s), none] [] σ) : ∀ (x3 : Int32) (σ : jMem) (o : (Unit) × jMem), X2_countWithin_L7_b p1 p2 rec x3 σ = some o → (J K 84 [none, none, none, none, none] [] o.2) → J K 7 [some (.ref 80), some (.ref p1), some (.int p2), some (.int x3), none] [] σ := by
  intro x3 σ o h kk
  unfold X2_countWithin_L7_b at h
  refine j_iload_n X 3 dX2_countWithin_7 rfl rfl ?_
  refine j_sipush (v := 256) X dX2_countWithin_8 (by decide) ?_
  refine j_icmp_ge (tgt := 84) X dX2_countWithin_11 (by decide) h (fun h => ?_) (fun h => ?_)
  · obtain rfl := Option.some.inj h
    exact j_sub (ls' := [none, none, none, none, none]) ⟨Or.inl rfl, Or.inl rfl, Or.inl rfl, Or.inl rfl, Or.inl rfl, trivial⟩ kk
  · refine j_aload_n X 0 dX2_countWithin_14 rfl rfl ?_
    refine j_getR (t := 82) X fg_RX2_15 ln_80 ly_80 rfl dX2_countWithin_15 ?_
    refine j_iload_n X 3 dX2_countWithin_18 rfl rfl ?_
    refine j_iconst (v := 0) X dX2_countWithin_19 (by decide) ?_
    refine j_iastore X ln_82 ly_82 dX2_countWithin_20 h (fun σ4 h => ?_)
    refine j_iconst (v := 0) X dX2_countWithin_21 (by decide) ?_
    refine j_istore (ls' := [some (.ref 80), some (.ref p1), some (.int p2), some (.int x3), some (.int (0 : Int32))]) X dX2_countWithin_22 (Nat.le_of_ble_eq_true rfl) rfl ?_
    obtain ⟨q18, σ19, hL20, h⟩ := jbd_some h
    refine X2_countWithin_L24_ok X hp1 jFU (0 : Int32) σ4 _ hL20 ?_
    refine j_iinc (v := (x3 + 1)) (ls' := [some (.ref 80), some (.ref p1), some (.int p2), some (.int (x3 + 1)), none]) X dX2_countWithin_78 rfl rfl (Nat.le_of_ble_eq_true rfl) rfl ?_
    refine j_goto (tgt := 7) X dX2_countWithin_81 (by decide) ?_
    exact ih (x3 + 1) σ19 _ h kk
theorem X2_countWithin_L7_ok {K : jK} (X : JX K cX2_countWithin 5 RX2 2 40) {p1 : Nat} {p2 : Int32} (hp1 : jisP p1) : ∀ (n : Nat) (s : Int32) (σ : jMem) (o : (Unit) × jMem), X2_countWithin_L7 p1 p2 n s σ = some o → (J K 84 [none, none, none, none, none] [] o.2) → J K 7 [some (.ref 80), some (.ref p1), some (.int p2), some (.int s), none] [] σ := by
  intro n
  induction n with
  | zero => intro s σ o h; cases h
  | succ n ih => intro s σ o h; exact X2_countWithin_L7_bok X hp1 ih (s) σ o h
def f_X2_countWithin (a0 : Nat) (σ : jMem) : Option jMem :=
  jbd (f_X5_open a0 σ) (fun v1 σ2 =>
  jbd (X2_countWithin_L7 (a0) (v1) jFU (0 : Int32) σ2) (fun q21 σ22 =>
  some σ22))
set_option maxRecDepth 100000 in
set_option maxHeartbeats 4000000 in
theorem c_X2_countWithin {l : Launch} {D : va_G} {ad : Nat → Nat} {cid : Nat → ClassId} {a0 : Nat} (ha0 : jisP a0) {σ : jMem} {σ' : jMem} (h : f_X2_countWithin a0 σ = some σ') : jMet l D ad cid yX2_countWithin cX2_countWithin 5 none 2 40 [.ref 80, .ref a0] σ none σ' := by
  refine jMet_of (ls0 := [some (.ref 80), some (.ref a0), none, none, none]) (by decide) (Nat.le_of_ble_eq_true rfl) rfl (fun K X R0 _ => ?_)
  unfold f_X2_countWithin at h
  refine j_aload_n X 1 dX2_countWithin_0 rfl rfl ?_
  obtain ⟨v1, σ2, hm3, h⟩ := jbd_some h
  refine j_callV (as := []) (st := []) (st1 := [.int v1]) X (jp_lt ha0) (jp_ly ha0) rfl rfl sv_RX2_36 ⟨by decide, by decide⟩ rfl rfl (Nat.le_of_ble_eq_true rfl) rfl dX2_countWithin_1 jrv_i (c_X5_open ha0 hm3) rfl ?_
  refine j_istore_n (ls' := [some (.ref 80), some (.ref a0), some (.int v1), none, none]) X 2 dX2_countWithin_4 rfl (Nat.le_of_ble_eq_true rfl) rfl ?_
  refine j_iconst (v := 0) X dX2_countWithin_5 (by decide) ?_
  refine j_istore_n (ls' := [some (.ref 80), some (.ref a0), some (.int v1), some (.int (0 : Int32)), none]) X 3 dX2_countWithin_6 rfl (Nat.le_of_ble_eq_true rfl) rfl ?_
  obtain ⟨q21, σ22, hL23, h⟩ := jbd_some h
  refine X2_countWithin_L7_ok X ha0 jFU (0 : Int32) σ2 _ hL23 ?_
  obtain rfl := Option.some.inj h
  exact j_vret X R0 dX2_countWithin_84
