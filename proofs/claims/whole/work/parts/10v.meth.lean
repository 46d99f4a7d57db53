theorem sv_RX2_44 : jSiV RX2 44 yX2_measure cX2_measure 6 none 2 := ⟨tw_486, tw_488, ts_11, tw_11, tw_489, by decide, by decide, by decide +kernel⟩
theorem sv_RX2_57 : jSiV RX2 57 yX2_nextField cX2_nextField 7 (some .int) 3 := ⟨tw_497, tw_499, ts_13, tw_11, tw_500, by decide, by decide, by decide +kernel⟩
theorem sv_RX2_61 : jSiV RX2 61 yX5_pathsAt cX5_pathsAt 4 (some .int) 1 := ⟨tw_501, tw_422, tw_423, tw_10, tw_424, by decide, by decide, by decide +kernel⟩
def X2_carry_L42_b (p1 : Nat) (p2 : Int32) (rec : Int32 × Int32 → jMem → Option (((Unit) × jMem) ⊕ (Int32 × jMem))) (x4 : Int32) (x5 : Int32) (σ : jMem) : Option (((Unit) × jMem) ⊕ (Int32 × jMem)) :=
  if (8 : Int32) ≤ x5 then
  some (.inl ((), σ))
else
  if x4 = (σ.1 p1 2) then
  some (.inl ((), σ))
else
  jbd (f_X2_nextField p1 p2 x4 σ) (fun v7 σ8 =>
  if ¬ v7 = (8 : Int32) then
  jbd (f_X5_pathsAt p1 x4 σ8) (fun v10 σ11 =>
  jbd (f_X5_pathsAt p1 v7 σ11) (fun v13 σ14 =>
  jlet ((v10 &&& v13)) (fun v16 =>
  jj (fun (q18 : Int32) σ19 =>
  jlet (jset σ19 80 2 q18) (fun σ20 =>
  jlet (jset σ20 80 1 ((σ20.1 80 1) ||| v16)) (fun σ21 =>
  rec (v7, (x5 + 1)) σ21))) (fun k17 =>
  if ¬ x5 = 0 then
  k17 (σ14.1 80 2) σ14
else
  k17 v16 σ14))))
else
  some (.inr ((0 : Int32), σ8)))
def X2_carry_L42 (p1 : Nat) (p2 : Int32) : Nat → Int32 × Int32 → jMem → Option (((Unit) × jMem) ⊕ (Int32 × jMem)) := jloop (fun rec s σ => X2_carry_L42_b p1 p2 rec s.1 s.2 σ)
set_option maxRecDepth 100000 in
set_option maxHeartbeats 4000000 in
theorem X2_carry_L42_bok {K : jK} (X : JX K cX2_carry 8 RX2 2 48) {p1 : Nat} {p2 : Int32} (hp1 : jisP p1) {rec : Int32 × Int32 → jMem → Option (((Unit) × jMem) ⊕ (Int32 × jMem))} (ih : ∀ (s : Int32 × Int32) (σ : jMem) (o : ((Unit) × jMem) ⊕ (Int32 × jMem)), rec s σ = some o → (∀ q, o = .inl q → J K 131 [none, none, none, none, none, none, none, none] [] q.2) → (∀ q, o = .inr q → JR K (some .boolean) (some (.int q.1)) q.2) → J K 42 [some (.ref 80), some (.ref p1), some (.int p2), none, some (.int s.1), some (.int s.2), none, none] [] σ) : ∀ (x4 : Int32) (x5 : Int32) (σ : jMem) (o : ((Unit) × jMem) ⊕ (Int32 × jMem)), X2_carry_L42_b p1 p2 rec x4 x5 σ = some o → (∀ q, o = .inl q → J K 131 [none, none, none, none, none, none, none, none] [] q.2) → (∀ q, o = .inr q → JR K (some .boolean) (some (.int q.1)) q.2) → J K 42 [some (.ref 80), some (.ref p1), some (.int p2), none, some (.int x4), some (.int x5), none, none] [] σ := by
  intro x4 x5 σ o h kk kr
  unfold X2_carry_L42_b at h
  refine j_iload X dX2_carry_42 rfl ?_
  refine j_bipush (v := 8) X dX2_carry_44 (by decide) ?_
  refine j_icmp_ge (tgt := 131) X dX2_carry_46 (by decide) h (fun h => ?_) (fun h => ?_)
  · obtain rfl := Option.some.inj h
    exact j_sub (ls' := [none, none, none, none, none, none, none, none]) ⟨Or.inl rfl, Or.inl rfl, Or.inl rfl, Or.inl rfl, Or.inl rfl, Or.inl rfl, Or.inl rfl, Or.inl rfl, trivial⟩ (kk ((), σ) rfl)
  · refine j_iload X dX2_carry_49 rfl ?_
    refine j_aload_n X 1 dX2_carry_51 rfl rfl ?_
    refine j_getI X fg_RX2_30 (jp_lt hp1) (jp_ly hp1) rfl dX2_carry_52 ?_
    refine j_icmp_eq (tgt := 131) X dX2_carry_55 (by decide) h (fun h => ?_) (fun h => ?_)
    · obtain rfl := Option.some.inj h
      exact j_sub (ls' := [none, none, none, none, none, none, none, none]) ⟨Or.inl rfl, Or.inl rfl, Or.inl rfl, Or.inl rfl, Or.inl rfl, Or.inl rfl, Or.inl rfl, Or.inl rfl, trivial⟩ (kk ((), σ) rfl)
    · refine j_aload_n X 0 dX2_carry_58 rfl rfl ?_
      refine j_aload_n X 1 dX2_carry_59 rfl rfl ?_
      refine j_iload_n X 2 dX2_carry_60 rfl rfl ?_
      refine j_iload X dX2_carry_61 rfl ?_
      obtain ⟨v7, σ8, hm9, h⟩ := jbd_some h
      refine j_callV (as := [.ref p1, .int p2, .int x4]) (st := []) (st1 := [.int v7]) X ln_80 ly_80 rfl rfl sv_RX2_57 ⟨by decide, by decide⟩ rfl rfl (Nat.le_of_ble_eq_true rfl) rfl dX2_carry_63 jrv_i (c_X2_nextField hp1 hm9) rfl ?_
      refine j_istore (ls' := [some (.ref 80), some (.ref p1), some (.int p2), none, some (.int x4), some (.int x5), some (.int v7), none]) X dX2_carry_66 (Nat.le_of_ble_eq_true rfl) rfl ?_
      refine j_iload X dX2_carry_68 rfl ?_
      refine j_bipush (v := 8) X dX2_carry_70 (by decide) ?_
      refine j_icmp_ne (tgt := 77) X dX2_carry_72 (by decide) h (fun h => ?_) (fun h => ?_)
      · refine j_aload_n X 1 dX2_carry_77 rfl rfl ?_
        refine j_iload X dX2_carry_78 rfl ?_
        obtain ⟨v10, σ11, hm12, h⟩ := jbd_some h
        refine j_callV (as := [.int x4]) (st := []) (st1 := [.int v10]) X (jp_lt hp1) (jp_ly hp1) rfl rfl sv_RX2_61 ⟨by decide, by decide⟩ rfl rfl (Nat.le_of_ble_eq_true rfl) rfl dX2_carry_80 jrv_i (c_X5_pathsAt hp1 hm12) rfl ?_
        refine j_aload_n X 1 dX2_carry_83 rfl rfl ?_
        refine j_iload X dX2_carry_84 rfl ?_
        obtain ⟨v13, σ14, hm15, h⟩ := jbd_some h
        refine j_callV (as := [.int v7]) (st := [.int v10]) (st1 := [.int v13, .int v10]) X (jp_lt hp1) (jp_ly hp1) rfl rfl sv_RX2_61 ⟨by decide, by decide⟩ rfl rfl (Nat.le_of_ble_eq_true rfl) rfl dX2_carry_86 jrv_i (c_X5_pathsAt hp1 hm15) rfl ?_
        refine j_iand X dX2_carry_89 ?_
        refine j_letI h (fun v16 h => ?_)
        refine j_istore (ls' := [some (.ref 80), some (.ref p1), some (.int p2), none, some (.int x4), some (.int x5), some (.int v7), some (.int v16)]) X dX2_carry_90 (Nat.le_of_ble_eq_true rfl) rfl ?_
        refine j_aload_n X 0 dX2_carry_92 rfl rfl ?_
        refine j_iload X dX2_carry_93 rfl ?_
        refine j_join (pcJ := 107) (lsJ := fun q18 => [some (.ref 80), some (.ref p1), some (.int p2), none, none, some (.int x5), some (.int v7), some (.int v16)]) (stJ := fun q18 => [.int q18, .ref 80]) h (fun q18 σ19 h => ?_) (fun k17 hk17 h => ?_)
        · refine j_put X fp_RX2_54 ln_80 ly_80 rfl rfl rfl dX2_carry_107 h (fun σ20 h => ?_)
          refine j_aload_n X 0 dX2_carry_110 rfl rfl ?_
          refine j_dup X dX2_carry_111 rfl ?_
          refine j_getI X fg_RX2_51 ln_80 ly_80 rfl dX2_carry_112 ?_
          refine j_iload X dX2_carry_115 rfl ?_
          refine j_ior X dX2_carry_117 ?_
          refine j_put X fp_RX2_51 ln_80 ly_80 rfl rfl rfl dX2_carry_118 h (fun σ21 h => ?_)
          refine j_iload X dX2_carry_121 rfl ?_
          refine j_istore (ls' := [some (.ref 80), some (.ref p1), some (.int p2), none, some (.int v7), some (.int x5), some (.int v7), some (.int v16)]) X dX2_carry_123 (Nat.le_of_ble_eq_true rfl) rfl ?_
          refine j_iinc (v := (x5 + 1)) (ls' := [some (.ref 80), some (.ref p1), some (.int p2), none, some (.int v7), some (.int (x5 + 1)), some (.int v7), some (.int v16)]) X dX2_carry_125 rfl rfl (Nat.le_of_ble_eq_true rfl) rfl ?_
          refine j_goto (tgt := 42) X dX2_carry_128 (by decide) ?_
          exact j_sub (ls' := [some (.ref 80), some (.ref p1), some (.int p2), none, some (.int v7), some (.int (x5 + 1)), none, none]) ⟨Or.inr rfl, Or.inr rfl, Or.inr rfl, Or.inl rfl, Or.inr rfl, Or.inr rfl, Or.inl rfl, Or.inl rfl, trivial⟩ (ih (v7, (x5 + 1)) σ21 _ h kk kr)
        · refine j_if_ne (tgt := 103) X dX2_carry_95 (by decide) h (fun h => ?_) (fun h => ?_)
          · refine j_aload_n X 0 dX2_carry_103 rfl rfl ?_
            refine j_getI X fg_RX2_54 ln_80 ly_80 rfl dX2_carry_104 ?_
            exact j_sub (ls' := [some (.ref 80), some (.ref p1), some (.int p2), none, none, some (.int x5), some (.int v7), some (.int v16)]) ⟨Or.inr rfl, Or.inr rfl, Or.inr rfl, Or.inl rfl, Or.inl rfl, Or.inr rfl, Or.inr rfl, Or.inr rfl, trivial⟩ (hk17 (σ14.1 80 2) σ14 h)
          · refine j_iload X dX2_carry_98 rfl ?_
            refine j_goto (tgt := 107) X dX2_carry_100 (by decide) ?_
            exact j_sub (ls' := [some (.ref 80), some (.ref p1), some (.int p2), none, none, some (.int x5), some (.int v7), some (.int v16)]) ⟨Or.inr rfl, Or.inr rfl, Or.inr rfl, Or.inl rfl, Or.inl rfl, Or.inr rfl, Or.inr rfl, Or.inr rfl, trivial⟩ (hk17 v16 σ14 h)
      · refine j_iconst (v := 0) X dX2_carry_75 (by decide) ?_
        obtain rfl := Option.some.inj h
        exact j_zret X (kr ((0 : Int32), σ8) rfl) rfl dX2_carry_76
theorem X2_carry_L42_ok {K : jK} (X : JX K cX2_carry 8 RX2 2 48) {p1 : Nat} {p2 : Int32} (hp1 : jisP p1) : ∀ (n : Nat) (s : Int32 × Int32) (σ : jMem) (o : ((Unit) × jMem) ⊕ (Int32 × jMem)), X2_carry_L42 p1 p2 n s σ = some o → (∀ q, o = .inl q → J K 131 [none, none, none, none, none, none, none, none] [] q.2) → (∀ q, o = .inr q → JR K (some .boolean) (some (.int q.1)) q.2) → J K 42 [some (.ref 80), some (.ref p1), some (.int p2), none, some (.int s.1), some (.int s.2), none, none] [] σ := by
  intro n
  induction n with
  | zero => intro s σ o h; cases h
  | succ n ih => intro s σ o h; exact X2_carry_L42_bok X hp1 ih (s.1) (s.2) σ o h
def f_X2_carry (a0 : Nat) (a1 : Int32) (a2 : Int32) (σ : jMem) : Option (Int32 × jMem) :=
  jbv (f_X2_measure a0 a1 σ) (fun σ1 =>
  jld σ1 81 8 a2 (fun v3 =>
  jlet (jset σ1 80 0 v3) (fun σ4 =>
  jlet (jset σ4 80 1 (0 : Int32)) (fun σ5 =>
  jlet (jset σ5 80 2 (0 : Int32)) (fun σ6 =>
  if ¬ (σ6.1 80 0) = (-1 : Int32) then
  jbr (X2_carry_L42 (a0) (a1) jFU (a2, (0 : Int32)) σ6) (fun q22 σ23 =>
  some (((1 : Int32), σ23))) (fun e25 => some e25)
else
  some (((0 : Int32), σ6)))))))
set_option maxRecDepth 100000 in
set_option maxHeartbeats 4000000 in
theorem c_X2_carry {l : Launch} {D : va_G} {ad : Nat → Nat} {cid : Nat → ClassId} {a0 : Nat} {a1 : Int32} {a2 : Int32} (ha0 : jisP a0) {σ : jMem} {r : Int32} {σ' : jMem} (h : f_X2_carry a0 a1 a2 σ = some (r, σ')) : jMet l D ad cid yX2_carry cX2_carry 8 (some .boolean) 2 48 [.ref 80, .ref a0, .int a1, .int a2] σ (some (.int r)) σ' := by
  refine jMet_of (ls0 := [some (.ref 80), some (.ref a0), some (.int a1), some (.int a2), none, none, none, none]) (by decide) (Nat.le_of_ble_eq_true rfl) rfl (fun K X R0 _ => ?_)
  unfold f_X2_carry at h
  refine j_aload_n X 0 dX2_carry_0 rfl rfl ?_
  refine j_aload_n X 1 dX2_carry_1 rfl rfl ?_
  refine j_iload_n X 2 dX2_carry_2 rfl rfl ?_
  obtain ⟨σ1, hm2, h⟩ := jbv_some h
  refine j_callV (as := [.ref a0, .int a1]) (st := []) (st1 := []) X ln_80 ly_80 rfl rfl sv_RX2_44 ⟨by decide, by decide⟩ rfl rfl (Nat.le_of_ble_eq_true rfl) rfl dX2_carry_3 jrv_v (c_X2_measure ha0 hm2) rfl ?_
  refine j_aload_n X 0 dX2_carry_6 rfl rfl ?_
  refine j_aload_n X 0 dX2_carry_7 rfl rfl ?_
  refine j_getR (t := 81) X fg_RX2_9 ln_80 ly_80 rfl dX2_carry_8 ?_
  refine j_iload_n X 3 dX2_carry_11 rfl rfl ?_
  refine j_iaload X ln_81 ly_81 dX2_carry_12 h (fun v3 h => ?_)
  refine j_put X fp_RX2_48 ln_80 ly_80 rfl rfl rfl dX2_carry_13 h (fun σ4 h => ?_)
  refine j_aload_n X 0 dX2_carry_16 rfl rfl ?_
  refine j_iconst (v := 0) X dX2_carry_17 (by decide) ?_
  refine j_put X fp_RX2_51 ln_80 ly_80 rfl rfl rfl dX2_carry_18 h (fun σ5 h => ?_)
  refine j_aload_n X 0 dX2_carry_21 rfl rfl ?_
  refine j_iconst (v := 0) X dX2_carry_22 (by decide) ?_
  refine j_put X fp_RX2_54 ln_80 ly_80 rfl rfl rfl dX2_carry_23 h (fun σ6 h => ?_)
  refine j_aload_n X 0 dX2_carry_26 rfl rfl ?_
  refine j_getI X fg_RX2_48 ln_80 ly_80 rfl dX2_carry_27 ?_
  refine j_iconst (v := -1) X dX2_carry_30 (by decide) ?_
  refine j_icmp_ne (tgt := 36) X dX2_carry_31 (by decide) h (fun h => ?_) (fun h => ?_)
  · refine j_iload_n X 3 dX2_carry_36 rfl rfl ?_
    refine j_istore (ls' := [some (.ref 80), some (.ref a0), some (.int a1), some (.int a2), some (.int a2), none, none, none]) X dX2_carry_37 (Nat.le_of_ble_eq_true rfl) rfl ?_
    refine j_iconst (v := 0) X dX2_carry_39 (by decide) ?_
    refine j_istore (ls' := [some (.ref 80), some (.ref a0), some (.int a1), some (.int a2), some (.int a2), some (.int (0 : Int32)), none, none]) X dX2_carry_40 (Nat.le_of_ble_eq_true rfl) rfl ?_
    obtain ⟨o26, hL24, hl27, hr28⟩ := jbr_some h
    refine j_sub (ls' := [some (.ref 80), some (.ref a0), some (.int a1), none, some (.int a2), some (.int (0 : Int32)), none, none]) ⟨Or.inr rfl, Or.inr rfl, Or.inr rfl, Or.inl rfl, Or.inr rfl, Or.inr rfl, Or.inl rfl, Or.inl rfl, trivial⟩ ?_
    refine X2_carry_L42_ok X ha0 jFU (a2, (0 : Int32)) σ6 o26 hL24 (fun q22w e9 => ?_) (fun q22w e9 => ?_)
    · have h := hl27 _ e9
      obtain ⟨q22, σ23⟩ := q22w
      refine j_iconst (v := 1) X dX2_carry_131 (by decide) ?_
      obtain ⟨rfl, rfl⟩ := jin2 h
      exact j_zret X R0 rfl dX2_carry_132
    · have h := hr28 _ e9
      obtain rfl := Option.some.inj h
      exact R0
  · refine j_iconst (v := 0) X dX2_carry_34 (by decide) ?_
    obtain ⟨rfl, rfl⟩ := jin2 h
    exact j_zret X R0 rfl dX2_carry_35
def f_X5_allPaths (k : Nat) (σ : jMem) : Option (Int32 × jMem) :=
  some (((((1 : Int32) <<< ((σ.1 k 5) &&& 31)) - (1 : Int32)), σ))
set_option maxRecDepth 100000 in
set_option maxHeartbeats 4000000 in
theorem c_X5_allPaths {l : Launch} {D : va_G} {ad : Nat → Nat} {cid : Nat → ClassId} {k : Nat} (hk : jisP k) {σ : jMem} {r : Int32} {σ' : jMem} (h : f_X5_allPaths k σ = some (r, σ')) : jMet l D ad cid yX5_allPaths cX5_allPaths 1 (some .int) 0 0 [.ref k] σ (some (.int r)) σ' := by
  refine jMet_of (ls0 := [some (.ref k)]) (by decide) (Nat.le_of_ble_eq_true rfl) rfl (fun K X R0 _ => ?_)
  unfold f_X5_allPaths at h
  refine j_iconst (v := 1) X dX5_allPaths_0 (by decide) ?_
  refine j_aload_n X 0 dX5_allPaths_1 rfl rfl ?_
  refine j_getI X fg_RX5_41 (jp_lt hk) (jp_ly hk) rfl dX5_allPaths_2 ?_
  refine j_ishl X dX5_allPaths_5 ?_
  refine j_iconst (v := 1) X dX5_allPaths_6 (by decide) ?_
  refine j_isub X dX5_allPaths_7 ?_
  obtain ⟨rfl, rfl⟩ := jin2 h
  exact j_iret X R0 dX5_allPaths_8
