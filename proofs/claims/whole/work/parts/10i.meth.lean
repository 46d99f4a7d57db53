theorem sv_RX2_81 : jSiV RX2 81 yX2_shorten cX2_shorten 4 (some .boolean) 3 := ⟨tw_493, tw_495, ts_12, tw_11, tw_496, by decide, by decide, by decide +kernel⟩
def X2_measure_L2_b (p1 : Nat) (p2 : Int32) (rec : Int32 → jMem → Option ((Unit) × jMem)) (x3 : Int32) (σ : jMem) : Option ((Unit) × jMem) :=
  if (8 : Int32) ≤ x3 then
  some ((), σ)
else
  jst σ 81 8 x3 (-1 : Int32) (fun σ1 =>
  rec (x3 + 1) σ1)
def X2_measure_L2 (p1 : Nat) (p2 : Int32) : Nat → Int32 → jMem → Option ((Unit) × jMem) := jloop (fun rec s σ => X2_measure_L2_b p1 p2 rec s σ)
set_option maxRecDepth 100000 in
set_option maxHeartbeats 4000000 in
theorem X2_measure_L2_bok {K : jK} (X : JX K cX2_measure 6 RX2 1 23) {p1 : Nat} {p2 : Int32} (hp1 : jisP p1) {rec : Int32 → jMem → Option ((Unit) × jMem)} (ih : ∀ (s : Int32) (σ : jMem) (o : (Unit) × jMem), rec s σ = some o → (J K 21 [some (.ref 80), some (.ref p1), some (.int p2), none, none, none] [] o.2) → J K 2 [some (.ref 80), some (.ref p1), some (.int p2), some (.int s), none, none] [] σ) : ∀ (x3 : Int32) (σ : jMem) (o : (Unit) × jMem), X2_measure_L2_b p1 p2 rec x3 σ = some o → (J K 21 [some (.ref 80), some (.ref p1), some (.int p2), none, none, none] [] o.2) → J K 2 [some (.ref 80), some (.ref p1), some (.int p2), some (.int x3), none, none] [] σ := by
  intro x3 σ o h kk
  unfold X2_measure_L2_b at h
  refine j_iload_n X 3 dX2_measure_2 rfl rfl ?_
  refine j_bipush (v := 8) X dX2_measure_3 (by decide) ?_
  refine j_icmp_ge (tgt := 21) X dX2_measure_5 (by decide) h (fun h => ?_) (fun h => ?_)
  · obtain rfl := Option.some.inj h
    exact j_sub (ls' := [some (.ref 80), some (.ref p1), some (.int p2), none, none, none]) ⟨Or.inr rfl, Or.inr rfl, Or.inr rfl, Or.inl rfl, Or.inl rfl, Or.inl rfl, trivial⟩ kk
  · refine j_aload_n X 0 dX2_measure_8 rfl rfl ?_
    refine j_getR (t := 81) X fg_RX2_9 ln_80 ly_80 rfl dX2_measure_9 ?_
    refine j_iload_n X 3 dX2_measure_12 rfl rfl ?_
    refine j_iconst (v := -1) X dX2_measure_13 (by decide) ?_
    refine j_iastore X ln_81 ly_81 dX2_measure_14 h (fun σ1 h => ?_)
    refine j_iinc (v := (x3 + 1)) (ls' := [some (.ref 80), some (.ref p1), some (.int p2), some (.int (x3 + 1)), none, none]) X dX2_measure_15 rfl rfl (Nat.le_of_ble_eq_true rfl) rfl ?_
    refine j_goto (tgt := 2) X dX2_measure_18 (by decide) ?_
    exact ih (x3 + 1) σ1 _ h kk
theorem X2_measure_L2_ok {K : jK} (X : JX K cX2_measure 6 RX2 1 23) {p1 : Nat} {p2 : Int32} (hp1 : jisP p1) : ∀ (n : Nat) (s : Int32) (σ : jMem) (o : (Unit) × jMem), X2_measure_L2 p1 p2 n s σ = some o → (J K 21 [some (.ref 80), some (.ref p1), some (.int p2), none, none, none] [] o.2) → J K 2 [some (.ref 80), some (.ref p1), some (.int p2), some (.int s), none, none] [] σ := by
  intro n
  induction n with
  | zero => intro s σ o h; cases h
  | succ n ih => intro s σ o h; exact X2_measure_L2_bok X hp1 ih (s) σ o h
def X2_measure_L52_b (p1 : Nat) (p2 : Int32) (p4 : Int32) (rec : Int32 × Int32 → jMem → Option ((Int32) × jMem)) (x3 : Int32) (x5 : Int32) (σ : jMem) : Option ((Int32) × jMem) :=
  if (σ.1 p1 5) ≤ x5 then
  some (x3, σ)
else
  jbd (f_X11_bitOf p2 x5 σ) (fun v5 σ6 =>
  if ¬ v5 = (1 : Int32) then
  rec (x3, (x5 + 1)) σ6
else
  jld σ6 (p1 + 1) 12 x5 (fun v8 =>
  jld σ6 (p1 + 2) 12 x5 (fun v9 =>
  jld σ6 (p1 + 3) 12 x5 (fun v10 =>
  jbd (f_X2_shorten v8 v9 v10 σ6) (fun v11 σ12 =>
  jlet ((x3 ||| v11)) (fun v14 =>
  jld σ12 (p1 + 2) 12 x5 (fun v15 =>
  jld σ12 (p1 + 1) 12 x5 (fun v16 =>
  jld σ12 (p1 + 3) 12 x5 (fun v17 =>
  jbd (f_X2_shorten v15 v16 v17 σ12) (fun v18 σ19 =>
  jlet ((v14 ||| v18)) (fun v21 =>
  rec (v21, (x5 + 1)) σ19)))))))))))
def X2_measure_L52 (p1 : Nat) (p2 : Int32) (p4 : Int32) : Nat → Int32 × Int32 → jMem → Option ((Int32) × jMem) := jloop (fun rec s σ => X2_measure_L52_b p1 p2 p4 rec s.1 s.2 σ)
set_option maxRecDepth 100000 in
set_option maxHeartbeats 4000000 in
theorem X2_measure_L52_bok {K : jK} (X : JX K cX2_measure 6 RX2 1 23) {p1 : Nat} {p2 : Int32} {p4 : Int32} (hp1 : jisP p1) {rec : Int32 × Int32 → jMem → Option ((Int32) × jMem)} (ih : ∀ (s : Int32 × Int32) (σ : jMem) (o : (Int32) × jMem), rec s σ = some o → (J K 133 [some (.ref 80), some (.ref p1), some (.int p2), some (.int o.1), some (.int p4), none] [] o.2) → J K 52 [some (.ref 80), some (.ref p1), some (.int p2), some (.int s.1), some (.int p4), some (.int s.2)] [] σ) : ∀ (x3 : Int32) (x5 : Int32) (σ : jMem) (o : (Int32) × jMem), X2_measure_L52_b p1 p2 p4 rec x3 x5 σ = some o → (J K 133 [some (.ref 80), some (.ref p1), some (.int p2), some (.int o.1), some (.int p4), none] [] o.2) → J K 52 [some (.ref 80), some (.ref p1), some (.int p2), some (.int x3), some (.int p4), some (.int x5)] [] σ := by
  intro x3 x5 σ o h kk
  unfold X2_measure_L52_b at h
  refine j_iload X dX2_measure_52 rfl ?_
  refine j_aload_n X 1 dX2_measure_54 rfl rfl ?_
  refine j_getI X fg_RX2_65 (jp_lt hp1) (jp_ly hp1) rfl dX2_measure_55 ?_
  refine j_icmp_ge (tgt := 133) X dX2_measure_58 (by decide) h (fun h => ?_) (fun h => ?_)
  · obtain rfl := Option.some.inj h
    exact j_sub (ls' := [some (.ref 80), some (.ref p1), some (.int p2), some (.int x3), some (.int p4), none]) ⟨Or.inr rfl, Or.inr rfl, Or.inr rfl, Or.inr rfl, Or.inr rfl, Or.inl rfl, trivial⟩ kk
  · refine j_iload_n X 2 dX2_measure_61 rfl rfl ?_
    refine j_iload X dX2_measure_62 rfl ?_
    obtain ⟨v5, σ6, hm7, h⟩ := jbd_some h
    refine j_callN (as := [.int p2, .int x5]) (st := []) (st1 := [.int v5]) X sn_RX2_68 ⟨by decide, by decide⟩ rfl rfl (Nat.le_of_ble_eq_true rfl) rfl dX2_measure_64 jrv_i (c_X11_bitOf  hm7) rfl ?_
    refine j_iconst (v := 1) X dX2_measure_67 (by decide) ?_
    refine j_icmp_ne (tgt := 127) X dX2_measure_68 (by decide) h (fun h => ?_) (fun h => ?_)
    · refine j_iinc (v := (x5 + 1)) (ls' := [some (.ref 80), some (.ref p1), some (.int p2), some (.int x3), some (.int p4), some (.int (x5 + 1))]) X dX2_measure_127 rfl rfl (Nat.le_of_ble_eq_true rfl) rfl ?_
      refine j_goto (tgt := 52) X dX2_measure_130 (by decide) ?_
      exact ih (x3, (x5 + 1)) σ6 _ h kk
    · refine j_iload_n X 3 dX2_measure_71 rfl rfl ?_
      refine j_aload_n X 0 dX2_measure_72 rfl rfl ?_
      refine j_aload_n X 1 dX2_measure_73 rfl rfl ?_
      refine j_getR (t := (p1 + 1)) X fg_RX2_72 (jp_lt hp1) (jp_ly hp1) rfl dX2_measure_74 ?_
      refine j_iload X dX2_measure_77 rfl ?_
      refine j_iaload X (jp_lt1 hp1) (jp_ly1 hp1) dX2_measure_79 h (fun v8 h => ?_)
      refine j_aload_n X 1 dX2_measure_80 rfl rfl ?_
      refine j_getR (t := (p1 + 2)) X fg_RX2_75 (jp_lt hp1) (jp_ly hp1) rfl dX2_measure_81 ?_
      refine j_iload X dX2_measure_84 rfl ?_
      refine j_iaload X (jp_lt2 hp1) (jp_ly2 hp1) dX2_measure_86 h (fun v9 h => ?_)
      refine j_aload_n X 1 dX2_measure_87 rfl rfl ?_
      refine j_getR (t := (p1 + 3)) X fg_RX2_78 (jp_lt hp1) (jp_ly hp1) rfl dX2_measure_88 ?_
      refine j_iload X dX2_measure_91 rfl ?_
      refine j_iaload X (jp_lt3 hp1) (jp_ly3 hp1) dX2_measure_93 h (fun v10 h => ?_)
      obtain ⟨v11, σ12, hm13, h⟩ := jbd_some h
      refine j_callV (as := [.int v8, .int v9, .int v10]) (st := [.int x3]) (st1 := [.int v11, .int x3]) X ln_80 ly_80 rfl rfl sv_RX2_81 ⟨by decide, by decide⟩ rfl rfl (Nat.le_of_ble_eq_true rfl) rfl dX2_measure_94 jrv_i (c_X2_shorten  hm13) rfl ?_
      refine j_ior X dX2_measure_97 ?_
      refine j_letI h (fun v14 h => ?_)
      refine j_istore_n (ls' := [some (.ref 80), some (.ref p1), some (.int p2), some (.int v14), some (.int p4), some (.int x5)]) X 3 dX2_measure_98 rfl (Nat.le_of_ble_eq_true rfl) rfl ?_
      refine j_iload_n X 3 dX2_measure_99 rfl rfl ?_
      refine j_aload_n X 0 dX2_measure_100 rfl rfl ?_
      refine j_aload_n X 1 dX2_measure_101 rfl rfl ?_
      refine j_getR (t := (p1 + 2)) X fg_RX2_75 (jp_lt hp1) (jp_ly hp1) rfl dX2_measure_102 ?_
      refine j_iload X dX2_measure_105 rfl ?_
      refine j_iaload X (jp_lt2 hp1) (jp_ly2 hp1) dX2_measure_107 h (fun v15 h => ?_)
      refine j_aload_n X 1 dX2_measure_108 rfl rfl ?_
      refine j_getR (t := (p1 + 1)) X fg_RX2_72 (jp_lt hp1) (jp_ly hp1) rfl dX2_measure_109 ?_
      refine j_iload X dX2_measure_112 rfl ?_
      refine j_iaload X (jp_lt1 hp1) (jp_ly1 hp1) dX2_measure_114 h (fun v16 h => ?_)
      refine j_aload_n X 1 dX2_measure_115 rfl rfl ?_
      refine j_getR (t := (p1 + 3)) X fg_RX2_78 (jp_lt hp1) (jp_ly hp1) rfl dX2_measure_116 ?_
      refine j_iload X dX2_measure_119 rfl ?_
      refine j_iaload X (jp_lt3 hp1) (jp_ly3 hp1) dX2_measure_121 h (fun v17 h => ?_)
      obtain ⟨v18, σ19, hm20, h⟩ := jbd_some h
      refine j_callV (as := [.int v15, .int v16, .int v17]) (st := [.int v14]) (st1 := [.int v18, .int v14]) X ln_80 ly_80 rfl rfl sv_RX2_81 ⟨by decide, by decide⟩ rfl rfl (Nat.le_of_ble_eq_true rfl) rfl dX2_measure_122 jrv_i (c_X2_shorten  hm20) rfl ?_
      refine j_ior X dX2_measure_125 ?_
      refine j_letI h (fun v21 h => ?_)
      refine j_istore_n (ls' := [some (.ref 80), some (.ref p1), some (.int p2), some (.int v21), some (.int p4), some (.int x5)]) X 3 dX2_measure_126 rfl (Nat.le_of_ble_eq_true rfl) rfl ?_
      refine j_iinc (v := (x5 + 1)) (ls' := [some (.ref 80), some (.ref p1), some (.int p2), some (.int v21), some (.int p4), some (.int (x5 + 1))]) X dX2_measure_127 rfl rfl (Nat.le_of_ble_eq_true rfl) rfl ?_
      refine j_goto (tgt := 52) X dX2_measure_130 (by decide) ?_
      exact ih (v21, (x5 + 1)) σ19 _ h kk
theorem X2_measure_L52_ok {K : jK} (X : JX K cX2_measure 6 RX2 1 23) {p1 : Nat} {p2 : Int32} {p4 : Int32} (hp1 : jisP p1) : ∀ (n : Nat) (s : Int32 × Int32) (σ : jMem) (o : (Int32) × jMem), X2_measure_L52 p1 p2 p4 n s σ = some o → (J K 133 [some (.ref 80), some (.ref p1), some (.int p2), some (.int o.1), some (.int p4), none] [] o.2) → J K 52 [some (.ref 80), some (.ref p1), some (.int p2), some (.int s.1), some (.int p4), some (.int s.2)] [] σ := by
  intro n
  induction n with
  | zero => intro s σ o h; cases h
  | succ n ih => intro s σ o h; exact X2_measure_L52_bok X hp1 ih (s.1) (s.2) σ o h
def X2_measure_L36_b (p1 : Nat) (p2 : Int32) (rec : Int32 × Int32 → jMem → Option ((Unit) × jMem)) (x3 : Int32) (x4 : Int32) (σ : jMem) : Option ((Unit) × jMem) :=
  if (8 : Int32) ≤ x4 then
  some ((), σ)
else
  if x3 = 0 then
  some ((), σ)
else
  jbd (X2_measure_L52 (p1) (p2) (x4) jFU ((0 : Int32), (0 : Int32)) σ) (fun q22 σ23 =>
  rec (q22, (x4 + 1)) σ23)
def X2_measure_L36 (p1 : Nat) (p2 : Int32) : Nat → Int32 × Int32 → jMem → Option ((Unit) × jMem) := jloop (fun rec s σ => X2_measure_L36_b p1 p2 rec s.1 s.2 σ)
set_option maxRecDepth 100000 in
set_option maxHeartbeats 4000000 in
theorem X2_measure_L36_bok {K : jK} (X : JX K cX2_measure 6 RX2 1 23) {p1 : Nat} {p2 : Int32} (hp1 : jisP p1) {rec : Int32 × Int32 → jMem → Option ((Unit) × jMem)} (ih : ∀ (s : Int32 × Int32) (σ : jMem) (o : (Unit) × jMem), rec s σ = some o → (J K 139 [none, none, none, none, none, none] [] o.2) → J K 36 [some (.ref 80), some (.ref p1), some (.int p2), some (.int s.1), some (.int s.2), none] [] σ) : ∀ (x3 : Int32) (x4 : Int32) (σ : jMem) (o : (Unit) × jMem), X2_measure_L36_b p1 p2 rec x3 x4 σ = some o → (J K 139 [none, none, none, none, none, none] [] o.2) → J K 36 [some (.ref 80), some (.ref p1), some (.int p2), some (.int x3), some (.int x4), none] [] σ := by
  intro x3 x4 σ o h kk
  unfold X2_measure_L36_b at h
  refine j_iload X dX2_measure_36 rfl ?_
  refine j_bipush (v := 8) X dX2_measure_38 (by decide) ?_
  refine j_icmp_ge (tgt := 139) X dX2_measure_40 (by decide) h (fun h => ?_) (fun h => ?_)
  · obtain rfl := Option.some.inj h
    exact j_sub (ls' := [none, none, none, none, none, none]) ⟨Or.inl rfl, Or.inl rfl, Or.inl rfl, Or.inl rfl, Or.inl rfl, Or.inl rfl, trivial⟩ kk
  · refine j_iload_n X 3 dX2_measure_43 rfl rfl ?_
    refine j_if_eq (tgt := 139) X dX2_measure_44 (by decide) h (fun h => ?_) (fun h => ?_)
    · obtain rfl := Option.some.inj h
      exact j_sub (ls' := [none, none, none, none, none, none]) ⟨Or.inl rfl, Or.inl rfl, Or.inl rfl, Or.inl rfl, Or.inl rfl, Or.inl rfl, trivial⟩ kk
    · refine j_iconst (v := 0) X dX2_measure_47 (by decide) ?_
      refine j_istore_n (ls' := [some (.ref 80), some (.ref p1), some (.int p2), some (.int (0 : Int32)), some (.int x4), none]) X 3 dX2_measure_48 rfl (Nat.le_of_ble_eq_true rfl) rfl ?_
      refine j_iconst (v := 0) X dX2_measure_49 (by decide) ?_
      refine j_istore (ls' := [some (.ref 80), some (.ref p1), some (.int p2), some (.int (0 : Int32)), some (.int x4), some (.int (0 : Int32))]) X dX2_measure_50 (Nat.le_of_ble_eq_true rfl) rfl ?_
      obtain ⟨q22, σ23, hL24, h⟩ := jbd_some h
      refine X2_measure_L52_ok X hp1 jFU ((0 : Int32), (0 : Int32)) σ _ hL24 ?_
      refine j_iinc (v := (x4 + 1)) (ls' := [some (.ref 80), some (.ref p1), some (.int p2), some (.int q22), some (.int (x4 + 1)), none]) X dX2_measure_133 rfl rfl (Nat.le_of_ble_eq_true rfl) rfl ?_
      refine j_goto (tgt := 36) X dX2_measure_136 (by decide) ?_
      exact ih (q22, (x4 + 1)) σ23 _ h kk
theorem X2_measure_L36_ok {K : jK} (X : JX K cX2_measure 6 RX2 1 23) {p1 : Nat} {p2 : Int32} (hp1 : jisP p1) : ∀ (n : Nat) (s : Int32 × Int32) (σ : jMem) (o : (Unit) × jMem), X2_measure_L36 p1 p2 n s σ = some o → (J K 139 [none, none, none, none, none, none] [] o.2) → J K 36 [some (.ref 80), some (.ref p1), some (.int p2), some (.int s.1), some (.int s.2), none] [] σ := by
  intro n
  induction n with
  | zero => intro s σ o h; cases h
  | succ n ih => intro s σ o h; exact X2_measure_L36_bok X hp1 ih (s.1) (s.2) σ o h
def f_X2_measure (a0 : Nat) (a1 : Int32) (σ : jMem) : Option jMem :=
  jbd (X2_measure_L2 (a0) (a1) jFU (0 : Int32) σ) (fun q2 σ3 =>
  jst σ3 81 8 (σ3.1 a0 2) (0 : Int32) (fun σ4 =>
  jbd (X2_measure_L36 (a0) (a1) jFU ((1 : Int32), (0 : Int32)) σ4) (fun q25 σ26 =>
  some σ26)))
set_option maxRecDepth 100000 in
set_option maxHeartbeats 4000000 in
theorem c_X2_measure {l : Launch} {D : va_G} {ad : Nat → Nat} {cid : Nat → ClassId} {a0 : Nat} {a1 : Int32} (ha0 : jisP a0) {σ : jMem} {σ' : jMem} (h : f_X2_measure a0 a1 σ = some σ') : jMet l D ad cid yX2_measure cX2_measure 6 none 1 23 [.ref 80, .ref a0, .int a1] σ none σ' := by
  refine jMet_of (ls0 := [some (.ref 80), some (.ref a0), some (.int a1), none, none, none]) (by decide) (Nat.le_of_ble_eq_true rfl) rfl (fun K X R0 _ => ?_)
  unfold f_X2_measure at h
  refine j_iconst (v := 0) X dX2_measure_0 (by decide) ?_
  refine j_istore_n (ls' := [some (.ref 80), some (.ref a0), some (.int a1), some (.int (0 : Int32)), none, none]) X 3 dX2_measure_1 rfl (Nat.le_of_ble_eq_true rfl) rfl ?_
  obtain ⟨q2, σ3, hL28, h⟩ := jbd_some h
  refine X2_measure_L2_ok X ha0 jFU (0 : Int32) σ _ hL28 ?_
  refine j_aload_n X 0 dX2_measure_21 rfl rfl ?_
  refine j_getR (t := 81) X fg_RX2_9 ln_80 ly_80 rfl dX2_measure_22 ?_
  refine j_aload_n X 1 dX2_measure_25 rfl rfl ?_
  refine j_getI X fg_RX2_30 (jp_lt ha0) (jp_ly ha0) rfl dX2_measure_26 ?_
  refine j_iconst (v := 0) X dX2_measure_29 (by decide) ?_
  refine j_iastore X ln_81 ly_81 dX2_measure_30 h (fun σ4 h => ?_)
  refine j_iconst (v := 1) X dX2_measure_31 (by decide) ?_
  refine j_istore_n (ls' := [some (.ref 80), some (.ref a0), some (.int a1), some (.int (1 : Int32)), none, none]) X 3 dX2_measure_32 rfl (Nat.le_of_ble_eq_true rfl) rfl ?_
  refine j_iconst (v := 0) X dX2_measure_33 (by decide) ?_
  refine j_istore (ls' := [some (.ref 80), some (.ref a0), some (.int a1), some (.int (1 : Int32)), some (.int (0 : Int32)), none]) X dX2_measure_34 (Nat.le_of_ble_eq_true rfl) rfl ?_
  obtain ⟨q25, σ26, hL27, h⟩ := jbd_some h
  refine X2_measure_L36_ok X ha0 jFU ((1 : Int32), (0 : Int32)) σ4 _ hL27 ?_
  obtain rfl := Option.some.inj h
  exact j_vret X R0 dX2_measure_139
theorem sv_RX2_44 : jSiV RX2 44 yX2_measure cX2_measure 6 none 2 := ⟨tw_486, tw_488, ts_11, tw_11, tw_489, by decide, by decide, by decide +kernel⟩
theorem sv_RX2_57 : jSiV RX2 57 yX2_nextField cX2_nextField 7 (some .int) 3 := ⟨tw_497, tw_499, ts_13, tw_11, tw_500, by decide, by decide, by decide +kernel⟩
theorem sv_RX2_61 : jSiV RX2 61 yX5_pathsAt cX5_pathsAt 4 (some .int) 1 := ⟨tw_501, tw_422, tw_423, tw_10, tw_424, by decide, by decide, by decide +kernel⟩
def X2_carry_L42_b (p1 : Nat) (p2 : Int32) (rec : Int32 × Int32 → jMem → Option (((Unit) × jMem) ⊕ (Int32 × jMem))) (x4 : Int32) (x5 : Int32) (σ : jMem) : Option (((Unit) × jMem) ⊕ (Int32 × jMem)) :=
  if (8 : Int32) ≤ x5 then
  some (.inl ((), σ))
else
  if x4 = (σ.1 p1 2) then
  some (.inl ((), σ))
else
  jbd (f_X2_nextField p1 p2 x4 σ) (fun v7 σ8 =>
  if ¬ v7 = (8 : Int32) then
  jbd (f_X5_pathsAt p1 x4 σ8) (fun v10 σ11 =>
  jbd (f_X5_pathsAt p1 v7 σ11) (fun v13 σ14 =>
  jlet ((v10 &&& v13)) (fun v16 =>
  jj (fun (q18 : Int32) σ19 =>
  jlet (jset σ19 80 2 q18) (fun σ20 =>
  jlet (jset σ20 80 1 ((σ20.1 80 1) ||| v16)) (fun σ21 =>
  rec (v7, (x5 + 1)) σ21))) (fun k17 =>
  if ¬ x5 = 0 then
  k17 (σ14.1 80 2) σ14
else
  k17 v16 σ14))))
else
  some (.inr ((0 : Int32), σ8)))
def X2_carry_L42 (p1 : Nat) (p2 : Int32) : Nat → Int32 × Int32 → jMem → Option (((Unit) × jMem) ⊕ (Int32 × jMem)) := jloop (fun rec s σ => X2_carry_L42_b p1 p2 rec s.1 s.2 σ)
set_option maxRecDepth 100000 in
set_option maxHeartbeats 4000000 in
theorem X2_carry_L42_bok {K : jK} (X : JX K cX2_carry 8 RX2 2 48) {p1 : Nat} {p2 : Int32} (hp1 : jisP p1) {rec : Int32 × Int32 → jMem → Option (((Unit) × jMem) ⊕ (Int32 × jMem))} (ih : ∀ (s : Int32 × Int32) (σ : jMem) (o : ((Unit) × jMem) ⊕ (Int32 × jMem)), rec s σ = some o → (∀ q, o = .inl q → J K 131 [none, none, none, none, none, none, none, none] [] q.2) → (∀ q, o = .inr q → JR K (some .boolean) (some (.int q.1)) q.2) → J K 42 [some (.ref 80), some (.ref p1), some (.int p2), none, some (.int s.1), some (.int s.2), none, none] [] σ) : ∀ (x4 : Int32) (x5 : Int32) (σ : jMem) (o : ((Unit) × jMem) ⊕ (Int32 × jMem)), X2_carry_L42_b p1 p2 rec x4 x5 σ = some o → (∀ q, o = .inl q → J K 131 [none, none, none, none, none, none, none, none] [] q.2) → (∀ q, o = .inr q → JR K (some .boolean) (some (.int q.1)) q.2) → J K 42 [some (.ref 80), some (.ref p1), some (.int p2), none, some (.int x4), some (.int x5), none, none] [] σ := by
  intro x4 x5 σ o h kk kr
  unfold X2_carry_L42_b at h
  refine j_iload X dX2_carry_42 rfl ?_
  refine j_bipush (v := 8) X dX2_carry_44 (by decide) ?_
  refine j_icmp_ge (tgt := 131) X dX2_carry_46 (by decide) h (fun h => ?_) (fun h => ?_)
  · obtain rfl := Option.some.inj h
    exact j_sub (ls' := [none, none, none, none, none, none, none, none]) ⟨Or.inl rfl, Or.inl rfl, Or.inl rfl, Or.inl rfl, Or.inl rfl, Or.inl rfl, Or.inl rfl, Or.inl rfl, trivial⟩ (kk ((), σ) rfl)
  · refine j_iload X dX2_carry_49 rfl ?_
    refine j_aload_n X 1 dX2_carry_51 rfl rfl ?_
    refine j_getI X fg_RX2_30 (jp_lt hp1) (jp_ly hp1) rfl dX2_carry_52 ?_
    refine j_icmp_eq (tgt := 131) X dX2_carry_55 (by decide) h (fun h => ?_) (fun h => ?_)
    · obtain rfl := Option.some.inj h
      exact j_sub (ls' := [none, none, none, none, none, none, none, none]) ⟨Or.inl rfl, Or.inl rfl, Or.inl rfl, Or.inl rfl, Or.inl rfl, Or.inl rfl, Or.inl rfl, Or.inl rfl, trivial⟩ (kk ((), σ) rfl)
    · refine j_aload_n X 0 dX2_carry_58 rfl rfl ?_
      refine j_aload_n X 1 dX2_carry_59 rfl rfl ?_
      refine j_iload_n X 2 dX2_carry_60 rfl rfl ?_
      refine j_iload X dX2_carry_61 rfl ?_
      obtain ⟨v7, σ8, hm9, h⟩ := jbd_some h
      refine j_callV (as := [.ref p1, .int p2, .int x4]) (st := []) (st1 := [.int v7]) X ln_80 ly_80 rfl rfl sv_RX2_57 ⟨by decide, by decide⟩ rfl rfl (Nat.le_of_ble_eq_true rfl) rfl dX2_carry_63 jrv_i (c_X2_nextField hp1 hm9) rfl ?_
      refine j_istore (ls' := [some (.ref 80), some (.ref p1), some (.int p2), none, some (.int x4), some (.int x5), some (.int v7), none]) X dX2_carry_66 (Nat.le_of_ble_eq_true rfl) rfl ?_
      refine j_iload X dX2_carry_68 rfl ?_
      refine j_bipush (v := 8) X dX2_carry_70 (by decide) ?_
      refine j_icmp_ne (tgt := 77) X dX2_carry_72 (by decide) h (fun h => ?_) (fun h => ?_)
      · refine j_aload_n X 1 dX2_carry_77 rfl rfl ?_
        refine j_iload X dX2_carry_78 rfl ?_
        obtain ⟨v10, σ11, hm12, h⟩ := jbd_some h
        refine j_callV (as := [.int x4]) (st := []) (st1 := [.int v10]) X (jp_lt hp1) (jp_ly hp1) rfl rfl sv_RX2_61 ⟨by decide, by decide⟩ rfl rfl (Nat.le_of_ble_eq_true rfl) rfl dX2_carry_80 jrv_i (c_X5_pathsAt hp1 hm12) rfl ?_
        refine j_aload_n X 1 dX2_carry_83 rfl rfl ?_
        refine j_iload X dX2_carry_84 rfl ?_
        obtain ⟨v13, σ14, hm15, h⟩ := jbd_some h
        refine j_callV (as := [.int v7]) (st := [.int v10]) (st1 := [.int v13, .int v10]) X (jp_lt hp1) (jp_ly hp1) rfl rfl sv_RX2_61 ⟨by decide, by decide⟩ rfl rfl (Nat.le_of_ble_eq_true rfl) rfl dX2_carry_86 jrv_i (c_X5_pathsAt hp1 hm15) rfl ?_
        refine j_iand X dX2_carry_89 ?_
        refine j_letI h (fun v16 h => ?_)
        refine j_istore (ls' := [some (.ref 80), some (.ref p1), some (.int p2), none, some (.int x4), some (.int x5), some (.int v7), some (.int v16)]) X dX2_carry_90 (Nat.le_of_ble_eq_true rfl) rfl ?_
        refine j_aload_n X 0 dX2_carry_92 rfl rfl ?_
        refine j_iload X dX2_carry_93 rfl ?_
        refine j_join (pcJ := 107) (lsJ := fun q18 => [some (.ref 80), some (.ref p1), some (.int p2), none, none, some (.int x5), some (.int v7), some (.int v16)]) (stJ := fun q18 => [.int q18, .ref 80]) h (fun q18 σ19 h => ?_) (fun k17 hk17 h => ?_)
        · refine j_put X fp_RX2_54 ln_80 ly_80 rfl rfl rfl dX2_carry_107 h (fun σ20 h => ?_)
          refine j_aload_n X 0 dX2_carry_110 rfl rfl ?_
          refine j_dup X dX2_carry_111 rfl ?_
          refine j_getI X fg_RX2_51 ln_80 ly_80 rfl dX2_carry_112 ?_
          refine j_iload X dX2_carry_115 rfl ?_
          refine j_ior X dX2_carry_117 ?_
          refine j_put X fp_RX2_51 ln_80 ly_80 rfl rfl rfl dX2_carry_118 h (fun σ21 h => ?_)
          refine j_iload X dX2_carry_121 rfl ?_
          refine j_istore (ls' := [some (.ref 80), some (.ref p1), some (.int p2), none, some (.int v7), some (.int x5), some (.int v7), some (.int v16)]) X dX2_carry_123 (Nat.le_of_ble_eq_true rfl) rfl ?_
          refine j_iinc (v := (x5 + 1)) (ls' := [some (.ref 80), some (.ref p1), some (.int p2), none, some (.int v7), some (.int (x5 + 1)), some (.int v7), some (.int v16)]) X dX2_carry_125 rfl rfl (Nat.le_of_ble_eq_true rfl) rfl ?_
          refine j_goto (tgt := 42) X dX2_carry_128 (by decide) ?_
          exact j_sub (ls' := [some (.ref 80), some (.ref p1), some (.int p2), none, some (.int v7), some (.int (x5 + 1)), none, none]) ⟨Or.inr rfl, Or.inr rfl, Or.inr rfl, Or.inl rfl, Or.inr rfl, Or.inr rfl, Or.inl rfl, Or.inl rfl, trivial⟩ (ih (v7, (x5 + 1)) σ21 _ h kk kr)
        · refine j_if_ne (tgt := 103) X dX2_carry_95 (by decide) h (fun h => ?_) (fun h => ?_)
          · refine j_aload_n X 0 dX2_carry_103 rfl rfl ?_
            refine j_getI X fg_RX2_54 ln_80 ly_80 rfl dX2_carry_104 ?_
            exact j_sub (ls' := [some (.ref 80), some (.ref p1), some (.int p2), none, none, some (.int x5), some (.int v7), some (.int v16)]) ⟨Or.inr rfl, Or.inr rfl, Or.inr rfl, Or.inl rfl, Or.inl rfl, Or.inr rfl, Or.inr rfl, Or.inr rfl, trivial⟩ (hk17 (σ14.1 80 2) σ14 h)
          · refine j_iload X dX2_carry_98 rfl ?_
            refine j_goto (tgt := 107) X dX2_carry_100 (by decide) ?_
            exact j_sub (ls' := [some (.ref 80), some (.ref p1), some (.int p2), none, none, some (.int x5), some (.int v7), some (.int v16)]) ⟨Or.inr rfl, Or.inr rfl, Or.inr rfl, Or.inl rfl, Or.inl rfl, Or.inr rfl, Or.inr rfl, Or.inr rfl, trivial⟩ (hk17 v16 σ14 h)
      · refine j_iconst (v := 0) X dX2_carry_75 (by decide) ?_
        obtain rfl := Option.some.inj h
        exact j_zret X (kr ((0 : Int32), σ8) rfl) rfl dX2_carry_76
theorem X2_carry_L42_ok {K : jK} (X : JX K cX2_carry 8 RX2 2 48) {p1 : Nat} {p2 : Int32} (hp1 : jisP p1) : ∀ (n : Nat) (s : Int32 × Int32) (σ : jMem) (o : ((Unit) × jMem) ⊕ (Int32 × jMem)), X2_carry_L42 p1 p2 n s σ = some o → (∀ q, o = .inl q → J K 131 [none, none, none, none, none, none, none, none] [] q.2) → (∀ q, o = .inr q → JR K (some .boolean) (some (.int q.1)) q.2) → J K 42 [some (.ref 80), some (.ref p1), some (.int p2), none, some (.int s.1), some (.int s.2), none, none] [] σ := by
  intro n
  induction n with
  | zero => intro s σ o h; cases h
  | succ n ih => intro s σ o h; exact X2_carry_L42_bok X hp1 ih (s.1) (s.2) σ o h
def f_X2_carry (a0 : Nat) (a1 : Int32) (a2 : Int32) (σ : jMem) : Option (Int32 × jMem) :=
  jbv (f_X2_measure a0 a1 σ) (fun σ1 =>
  jld σ1 81 8 a2 (fun v3 =>
  jlet (jset σ1 80 0 v3) (fun σ4 =>
  jlet (jset σ4 80 1 (0 : Int32)) (fun σ5 =>
  jlet (jset σ5 80 2 (0 : Int32)) (fun σ6 =>
  if ¬ (σ6.1 80 0) = (-1 : Int32) then
  jbr (X2_carry_L42 (a0) (a1) jFU (a2, (0 : Int32)) σ6) (fun q22 σ23 =>
  some (((1 : Int32), σ23))) (fun e25 => some e25)
else
  some (((0 : Int32), σ6)))))))
set_option maxRecDepth 100000 in
set_option maxHeartbeats 4000000 in
theorem c_X2_carry {l : Launch} {D : va_G} {ad : Nat → Nat} {cid : Nat → ClassId} {a0 : Nat} {a1 : Int32} {a2 : Int32} (ha0 : jisP a0) {σ : jMem} {r : Int32} {σ' : jMem} (h : f_X2_carry a0 a1 a2 σ = some (r, σ')) : jMet l D ad cid yX2_carry cX2_carry 8 (some .boolean) 2 48 [.ref 80, .ref a0, .int a1, .int a2] σ (some (.int r)) σ' := by
  refine jMet_of (ls0 := [some (.ref 80), some (.ref a0), some (.int a1), some (.int a2), none, none, none, none]) (by decide) (Nat.le_of_ble_eq_true rfl) rfl (fun K X R0 _ => ?_)
  unfold f_X2_carry at h
  refine j_aload_n X 0 dX2_carry_0 rfl rfl ?_
  refine j_aload_n X 1 dX2_carry_1 rfl rfl ?_
  refine j_iload_n X 2 dX2_carry_2 rfl rfl ?_
  obtain ⟨σ1, hm2, h⟩ := jbv_some h
  refine j_callV (as := [.ref a0, .int a1]) (st := []) (st1 := []) X ln_80 ly_80 rfl rfl sv_RX2_44 ⟨by decide, by decide⟩ rfl rfl (Nat.le_of_ble_eq_true rfl) rfl dX2_carry_3 jrv_v (c_X2_measure ha0 hm2) rfl ?_
  refine j_aload_n X 0 dX2_carry_6 rfl rfl ?_
  refine j_aload_n X 0 dX2_carry_7 rfl rfl ?_
  refine j_getR (t := 81) X fg_RX2_9 ln_80 ly_80 rfl dX2_carry_8 ?_
  refine j_iload_n X 3 dX2_carry_11 rfl rfl ?_
  refine j_iaload X ln_81 ly_81 dX2_carry_12 h (fun v3 h => ?_)
  refine j_put X fp_RX2_48 ln_80 ly_80 rfl rfl rfl dX2_carry_13 h (fun σ4 h => ?_)
  refine j_aload_n X 0 dX2_carry_16 rfl rfl ?_
  refine j_iconst (v := 0) X dX2_carry_17 (by decide) ?_
  refine j_put X fp_RX2_51 ln_80 ly_80 rfl rfl rfl dX2_carry_18 h (fun σ5 h => ?_)
  refine j_aload_n X 0 dX2_carry_21 rfl rfl ?_
  refine j_iconst (v := 0) X dX2_carry_22 (by decide) ?_
  refine j_put X fp_RX2_54 ln_80 ly_80 rfl rfl rfl dX2_carry_23 h (fun σ6 h => ?_)
  refine j_aload_n X 0 dX2_carry_26 rfl rfl ?_
  refine j_getI X fg_RX2_48 ln_80 ly_80 rfl dX2_carry_27 ?_
  refine j_iconst (v := -1) X dX2_carry_30 (by decide) ?_
  refine j_icmp_ne (tgt := 36) X dX2_carry_31 (by decide) h (fun h => ?_) (fun h => ?_)
  · refine j_iload_n X 3 dX2_carry_36 rfl rfl ?_
    refine j_istore (ls' := [some (.ref 80), some (.ref a0), some (.int a1), some (.int a2), some (.int a2), none, none, none]) X dX2_carry_37 (Nat.le_of_ble_eq_true rfl) rfl ?_
    refine j_iconst (v := 0) X dX2_carry_39 (by decide) ?_
    refine j_istore (ls' := [some (.ref 80), some (.ref a0), some (.int a1), some (.int a2), some (.int a2), some (.int (0 : Int32)), none, none]) X dX2_carry_40 (Nat.le_of_ble_eq_true rfl) rfl ?_
    obtain ⟨o26, hL24, hl27, hr28⟩ := jbr_some h
    refine j_sub (ls' := [some (.ref 80), some (.ref a0), some (.int a1), none, some (.int a2), some (.int (0 : Int32)), none, none]) ⟨Or.inr rfl, Or.inr rfl, Or.inr rfl, Or.inl rfl, Or.inr rfl, Or.inr rfl, Or.inl rfl, Or.inl rfl, trivial⟩ ?_
    refine X2_carry_L42_ok X ha0 jFU (a2, (0 : Int32)) σ6 o26 hL24 (fun q22w e9 => ?_) (fun q22w e9 => ?_)
    · have h := hl27 _ e9
      obtain ⟨q22, σ23⟩ := q22w
      refine j_iconst (v := 1) X dX2_carry_131 (by decide) ?_
      obtain ⟨rfl, rfl⟩ := jin2 h
      exact j_zret X R0 rfl dX2_carry_132
    · have h := hr28 _ e9
      obtain rfl := Option.some.inj h
      exact R0
  · refine j_iconst (v := 0) X dX2_carry_34 (by decide) ?_
    obtain ⟨rfl, rfl⟩ := jin2 h
    exact j_zret X R0 rfl dX2_carry_35
def f_X5_allPaths (k : Nat) (σ : jMem) : Option (Int32 × jMem) :=
  some (((((1 : Int32) <<< ((σ.1 k 5) &&& 31)) - (1 : Int32)), σ))
set_option maxRecDepth 100000 in
set_option maxHeartbeats 4000000 in
theorem c_X5_allPaths {l : Launch} {D : va_G} {ad : Nat → Nat} {cid : Nat → ClassId} {k : Nat} (hk : jisP k) {σ : jMem} {r : Int32} {σ' : jMem} (h : f_X5_allPaths k σ = some (r, σ')) : jMet l D ad cid yX5_allPaths cX5_allPaths 1 (some .int) 0 0 [.ref k] σ (some (.int r)) σ' := by
  refine jMet_of (ls0 := [some (.ref k)]) (by decide) (Nat.le_of_ble_eq_true rfl) rfl (fun K X R0 _ => ?_)
  unfold f_X5_allPaths at h
  refine j_iconst (v := 1) X dX5_allPaths_0 (by decide) ?_
  refine j_aload_n X 0 dX5_allPaths_1 rfl rfl ?_
  refine j_getI X fg_RX5_41 (jp_lt hk) (jp_ly hk) rfl dX5_allPaths_2 ?_
  refine j_ishl X dX5_allPaths_5 ?_
  refine j_iconst (v := 1) X dX5_allPaths_6 (by decide) ?_
  refine j_isub X dX5_allPaths_7 ?_
  obtain ⟨rfl, rfl⟩ := jin2 h
  exact j_iret X R0 dX5_allPaths_8
