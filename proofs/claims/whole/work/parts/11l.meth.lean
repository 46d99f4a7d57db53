def X12_live_L70_b (p1 : Int32) (p2 : Int32) (p3 : Int32) (p4 : Int32) (rec : Int32 × Int32 × Int32 → jMem → Option ((Int32 × Int32) × jMem)) (x5 : Int32) (x6 : Int32) (x7 : Int32) (σ : jMem) : Option ((Int32 × Int32) × jMem) :=
  jld σ 93 67 (4 : Int32) (fun v15 =>
  if v15 ≤ x7 then
  some ((x5, x6), σ)
else
  jbd (f_X12_has p4 x7 σ) (fun v16 σ17 =>
  jj (fun (q20 : Int32) σ21 =>
  jlet ((x5 ||| q20)) (fun v22 =>
  if x6 = 0 then
  rec (v22, (0 : Int32), (x7 + 1)) σ21
else
  jbd (f_X12_has p4 x7 σ21) (fun v23 σ24 =>
  if v23 = 0 then
  rec (v22, (1 : Int32), (x7 + 1)) σ24
else
  jbd (f_X12_lives 93 x7 σ24) (fun v26 σ27 =>
  if v26 = 0 then
  rec (v22, (0 : Int32), (x7 + 1)) σ27
else
  rec (v22, (1 : Int32), (x7 + 1)) σ27)))) (fun k19 =>
  if v16 = 0 then
  k19 (0 : Int32) σ17
else
  jbd (f_X12_swears 93 x7 σ17) (fun v29 σ30 =>
  k19 v29 σ30))))
def X12_live_L70 (p1 : Int32) (p2 : Int32) (p3 : Int32) (p4 : Int32) : Nat → Int32 × Int32 × Int32 → jMem → Option ((Int32 × Int32) × jMem) := jloop (fun rec s σ => X12_live_L70_b p1 p2 p3 p4 rec s.1 s.2.1 s.2.2 σ)
set_option maxRecDepth 100000 in
set_option maxHeartbeats 4000000 in
theorem X12_live_L70_bok {K : jK} (X : JX K cX12_live 8 RX12 3 64) {p1 : Int32} {p2 : Int32} {p3 : Int32} {p4 : Int32}  {rec : Int32 × Int32 × Int32 → jMem → Option ((Int32 × Int32) × jMem)} (ih : ∀ (s : Int32 × Int32 × Int32) (σ : jMem) (o : (Int32 × Int32) × jMem), rec s σ = some o → (J K 149 [some (.ref 89), some (.int p1), some (.int p2), some (.int p3), some (.int p4), some (.int o.1.1), some (.int o.1.2), none] [] o.2) → J K 70 [some (.ref 89), some (.int p1), some (.int p2), some (.int p3), some (.int p4), some (.int s.1), some (.int s.2.1), some (.int s.2.2)] [] σ) : ∀ (x5 : Int32) (x6 : Int32) (x7 : Int32) (σ : jMem) (o : (Int32 × Int32) × jMem), X12_live_L70_b p1 p2 p3 p4 rec x5 x6 x7 σ = some o → (J K 149 [some (.ref 89), some (.int p1), some (.int p2), some (.int p3), some (.int p4), some (.int o.1.1), some (.int o.1.2), none] [] o.2) → J K 70 [some (.ref 89), some (.int p1), some (.int p2), some (.int p3), some (.int p4), some (.int x5), some (.int x6), some (.int x7)] [] σ := by
  intro x5 x6 x7 σ o h kk
  unfold X12_live_L70_b at h
  refine j_iload X dX12_live_70 rfl ?_
  refine j_aload_n X 0 dX12_live_72 rfl rfl ?_
  refine j_getR (t := 93) X fg_RX12_19 ln_89 ly_89 rfl dX12_live_73 ?_
  refine j_iconst (v := 4) X dX12_live_76 (by decide) ?_
  refine j_iaload X ln_93 ly_93 dX12_live_77 h (fun v15 h => ?_)
  refine j_icmp_ge (tgt := 149) X dX12_live_78 (by decide) h (fun h => ?_) (fun h => ?_)
  · obtain rfl := Option.some.inj h
    exact j_sub (ls' := [some (.ref 89), some (.int p1), some (.int p2), some (.int p3), some (.int p4), some (.int x5), some (.int x6), none]) ⟨Or.inr rfl, Or.inr rfl, Or.inr rfl, Or.inr rfl, Or.inr rfl, Or.inr rfl, Or.inr rfl, Or.inl rfl, trivial⟩ kk
  · refine j_iload X dX12_live_81 rfl ?_
    refine j_iload X dX12_live_83 rfl ?_
    refine j_iload X dX12_live_85 rfl ?_
    obtain ⟨v16, σ17, hm18, h⟩ := jbd_some h
    refine j_callS (as := [.int p4, .int x7]) (st := [.int x5]) (st1 := [.int v16, .int x5]) X ss_RX12_153 ⟨by decide, by decide⟩ rfl rfl (Nat.le_of_ble_eq_true rfl) rfl dX12_live_87 jrv_i (c_X12_has  hm18) rfl ?_
    refine j_join (pcJ := 106) (lsJ := fun q20 => [some (.ref 89), some (.int p1), some (.int p2), some (.int p3), some (.int p4), none, some (.int x6), some (.int x7)]) (stJ := fun q20 => [.int q20, .int x5]) h (fun q20 σ21 h => ?_) (fun k19 hk19 h => ?_)
    · refine j_ior X dX12_live_106 ?_
      refine j_letI h (fun v22 h => ?_)
      refine j_istore (ls' := [some (.ref 89), some (.int p1), some (.int p2), some (.int p3), some (.int p4), some (.int v22), some (.int x6), some (.int x7)]) X dX12_live_107 (Nat.le_of_ble_eq_true rfl) rfl ?_
      refine j_iload X dX12_live_109 rfl ?_
      refine j_if_eq (tgt := 140) X dX12_live_111 (by decide) h (fun h => ?_) (fun h => ?_)
      · refine j_iconst (v := 0) X dX12_live_140 (by decide) ?_
        refine j_istore (ls' := [some (.ref 89), some (.int p1), some (.int p2), some (.int p3), some (.int p4), some (.int v22), some (.int (0 : Int32)), some (.int x7)]) X dX12_live_141 (Nat.le_of_ble_eq_true rfl) rfl ?_
        refine j_iinc (v := (x7 + 1)) (ls' := [some (.ref 89), some (.int p1), some (.int p2), some (.int p3), some (.int p4), some (.int v22), some (.int (0 : Int32)), some (.int (x7 + 1))]) X dX12_live_143 rfl rfl (Nat.le_of_ble_eq_true rfl) rfl ?_
        refine j_goto (tgt := 70) X dX12_live_146 (by decide) ?_
        exact ih (v22, (0 : Int32), (x7 + 1)) σ21 _ h kk
      · refine j_iload X dX12_live_114 rfl ?_
        refine j_iload X dX12_live_116 rfl ?_
        obtain ⟨v23, σ24, hm25, h⟩ := jbd_some h
        refine j_callS (as := [.int p4, .int x7]) (st := []) (st1 := [.int v23]) X ss_RX12_153 ⟨by decide, by decide⟩ rfl rfl (Nat.le_of_ble_eq_true rfl) rfl dX12_live_118 jrv_i (c_X12_has  hm25) rfl ?_
        refine j_if_eq (tgt := 136) X dX12_live_121 (by decide) h (fun h => ?_) (fun h => ?_)
        · refine j_iconst (v := 1) X dX12_live_136 (by decide) ?_
          refine j_goto (tgt := 141) X dX12_live_137 (by decide) ?_
          refine j_istore (ls' := [some (.ref 89), some (.int p1), some (.int p2), some (.int p3), some (.int p4), some (.int v22), some (.int (1 : Int32)), some (.int x7)]) X dX12_live_141 (Nat.le_of_ble_eq_true rfl) rfl ?_
          refine j_iinc (v := (x7 + 1)) (ls' := [some (.ref 89), some (.int p1), some (.int p2), some (.int p3), some (.int p4), some (.int v22), some (.int (1 : Int32)), some (.int (x7 + 1))]) X dX12_live_143 rfl rfl (Nat.le_of_ble_eq_true rfl) rfl ?_
          refine j_goto (tgt := 70) X dX12_live_146 (by decide) ?_
          exact ih (v22, (1 : Int32), (x7 + 1)) σ24 _ h kk
        · refine j_aload_n X 0 dX12_live_124 rfl rfl ?_
          refine j_getR (t := 93) X fg_RX12_19 ln_89 ly_89 rfl dX12_live_125 ?_
          refine j_iload X dX12_live_128 rfl ?_
          obtain ⟨v26, σ27, hm28, h⟩ := jbd_some h
          refine j_callS (as := [.ref 93, .int x7]) (st := []) (st1 := [.int v26]) X ss_RX12_191 ⟨by decide, by decide⟩ rfl rfl (Nat.le_of_ble_eq_true rfl) rfl dX12_live_130 jrv_i (c_X12_lives ⟨ln_93, ly_93⟩ hm28) rfl ?_
          refine j_if_eq (tgt := 140) X dX12_live_133 (by decide) h (fun h => ?_) (fun h => ?_)
          · refine j_iconst (v := 0) X dX12_live_140 (by decide) ?_
            refine j_istore (ls' := [some (.ref 89), some (.int p1), some (.int p2), some (.int p3), some (.int p4), some (.int v22), some (.int (0 : Int32)), some (.int x7)]) X dX12_live_141 (Nat.le_of_ble_eq_true rfl) rfl ?_
            refine j_iinc (v := (x7 + 1)) (ls' := [some (.ref 89), some (.int p1), some (.int p2), some (.int p3), some (.int p4), some (.int v22), some (.int (0 : Int32)), some (.int (x7 + 1))]) X dX12_live_143 rfl rfl (Nat.le_of_ble_eq_true rfl) rfl ?_
            refine j_goto (tgt := 70) X dX12_live_146 (by decide) ?_
            exact ih (v22, (0 : Int32), (x7 + 1)) σ27 _ h kk
          · refine j_iconst (v := 1) X dX12_live_136 (by decide) ?_
            refine j_goto (tgt := 141) X dX12_live_137 (by decide) ?_
            refine j_istore (ls' := [some (.ref 89), some (.int p1), some (.int p2), some (.int p3), some (.int p4), some (.int v22), some (.int (1 : Int32)), some (.int x7)]) X dX12_live_141 (Nat.le_of_ble_eq_true rfl) rfl ?_
            refine j_iinc (v := (x7 + 1)) (ls' := [some (.ref 89), some (.int p1), some (.int p2), some (.int p3), some (.int p4), some (.int v22), some (.int (1 : Int32)), some (.int (x7 + 1))]) X dX12_live_143 rfl rfl (Nat.le_of_ble_eq_true rfl) rfl ?_
            refine j_goto (tgt := 70) X dX12_live_146 (by decide) ?_
            exact ih (v22, (1 : Int32), (x7 + 1)) σ27 _ h kk
    · refine j_if_eq (tgt := 105) X dX12_live_90 (by decide) h (fun h => ?_) (fun h => ?_)
      · refine j_iconst (v := 0) X dX12_live_105 (by decide) ?_
        exact j_sub (ls' := [some (.ref 89), some (.int p1), some (.int p2), some (.int p3), some (.int p4), none, some (.int x6), some (.int x7)]) ⟨Or.inr rfl, Or.inr rfl, Or.inr rfl, Or.inr rfl, Or.inr rfl, Or.inl rfl, Or.inr rfl, Or.inr rfl, trivial⟩ (hk19 (0 : Int32) σ17 h)
      · refine j_aload_n X 0 dX12_live_93 rfl rfl ?_
        refine j_getR (t := 93) X fg_RX12_19 ln_89 ly_89 rfl dX12_live_94 ?_
        refine j_iload X dX12_live_97 rfl ?_
        obtain ⟨v29, σ30, hm31, h⟩ := jbd_some h
        refine j_callS (as := [.ref 93, .int x7]) (st := [.int x5]) (st1 := [.int v29, .int x5]) X ss_RX12_195 ⟨by decide, by decide⟩ rfl rfl (Nat.le_of_ble_eq_true rfl) rfl dX12_live_99 jrv_i (c_X12_swears ⟨ln_93, ly_93⟩ hm31) rfl ?_
        refine j_goto (tgt := 106) X dX12_live_102 (by decide) ?_
        exact j_sub (ls' := [some (.ref 89), some (.int p1), some (.int p2), some (.int p3), some (.int p4), none, some (.int x6), some (.int x7)]) ⟨Or.inr rfl, Or.inr rfl, Or.inr rfl, Or.inr rfl, Or.inr rfl, Or.inl rfl, Or.inr rfl, Or.inr rfl, trivial⟩ (hk19 v29 σ30 h)
theorem X12_live_L70_ok {K : jK} (X : JX K cX12_live 8 RX12 3 64) {p1 : Int32} {p2 : Int32} {p3 : Int32} {p4 : Int32}  : ∀ (n : Nat) (s : Int32 × Int32 × Int32) (σ : jMem) (o : (Int32 × Int32) × jMem), X12_live_L70 p1 p2 p3 p4 n s σ = some o → (J K 149 [some (.ref 89), some (.int p1), some (.int p2), some (.int p3), some (.int p4), some (.int o.1.1), some (.int o.1.2), none] [] o.2) → J K 70 [some (.ref 89), some (.int p1), some (.int p2), some (.int p3), some (.int p4), some (.int s.1), some (.int s.2.1), some (.int s.2.2)] [] σ := by
  intro n
  induction n with
  | zero => intro s σ o h; cases h
  | succ n ih => intro s σ o h; exact X12_live_L70_bok X  ih (s.1) (s.2.1) (s.2.2) σ o h
def X12_live_L48_b (p1 : Int32) (p2 : Int32) (rec : Int32 × Int32 → jMem → Option ((Int32) × jMem)) (x3 : Int32) (x4 : Int32) (σ : jMem) : Option ((Int32) × jMem) :=
  jld σ 93 67 (4 : Int32) (fun v14 =>
  if ((1 : Int32) <<< (v14 &&& 31)) ≤ x4 then
  some (x3, σ)
else
  jbd (X12_live_L70 (p1) (p2) (x3) (x4) jFU ((0 : Int32), (1 : Int32), (0 : Int32)) σ) (fun q32 σ33 =>
  jj (fun (q35 : Int32) σ36 =>
  if q35 = 0 then
  rec (x3, (x4 + 1)) σ36
else
  if q32.2 = 0 then
  rec (x3, (x4 + 1)) σ36
else
  if ¬ (p1 &&& (q32.1 ^^^ (-1 : Int32))) = 0 then
  rec (x3, (x4 + 1)) σ36
else
  rec (x4, (x4 + 1)) σ36) (fun k34 =>
  jj (fun (q38 : Unit) σ39 =>
  k34 (1 : Int32) σ39) (fun k37 =>
  if x3 = (-1000000 : Int32) then
  k37 () σ33
else
  jbd (f_X12_bits x4 σ33) (fun v40 σ41 =>
  jbd (f_X12_bits x3 σ41) (fun v43 σ44 =>
  if v43 ≤ v40 then
  k34 (0 : Int32) σ44
else
  k37 () σ44))))))
def X12_live_L48 (p1 : Int32) (p2 : Int32) : Nat → Int32 × Int32 → jMem → Option ((Int32) × jMem) := jloop (fun rec s σ => X12_live_L48_b p1 p2 rec s.1 s.2 σ)
set_option maxRecDepth 100000 in
set_option maxHeartbeats 4000000 in
theorem X12_live_L48_bok {K : jK} (X : JX K cX12_live 8 RX12 3 64) {p1 : Int32} {p2 : Int32}  {rec : Int32 × Int32 → jMem → Option ((Int32) × jMem)} (ih : ∀ (s : Int32 × Int32) (σ : jMem) (o : (Int32) × jMem), rec s σ = some o → (J K 206 [none, none, some (.int p2), some (.int o.1), none, none, none, none] [] o.2) → J K 48 [some (.ref 89), some (.int p1), some (.int p2), some (.int s.1), some (.int s.2), none, none, none] [] σ) : ∀ (x3 : Int32) (x4 : Int32) (σ : jMem) (o : (Int32) × jMem), X12_live_L48_b p1 p2 rec x3 x4 σ = some o → (J K 206 [none, none, some (.int p2), some (.int o.1), none, none, none, none] [] o.2) → J K 48 [some (.ref 89), some (.int p1), some (.int p2), some (.int x3), some (.int x4), none, none, none] [] σ := by
  intro x3 x4 σ o h kk
  unfold X12_live_L48_b at h
  refine j_iload X dX12_live_48 rfl ?_
  refine j_iconst (v := 1) X dX12_live_50 (by decide) ?_
  refine j_aload_n X 0 dX12_live_51 rfl rfl ?_
  refine j_getR (t := 93) X fg_RX12_19 ln_89 ly_89 rfl dX12_live_52 ?_
  refine j_iconst (v := 4) X dX12_live_55 (by decide) ?_
  refine j_iaload X ln_93 ly_93 dX12_live_56 h (fun v14 h => ?_)
  refine j_ishl X dX12_live_57 ?_
  refine j_icmp_ge (tgt := 206) X dX12_live_58 (by decide) h (fun h => ?_) (fun h => ?_)
  · obtain rfl := Option.some.inj h
    exact j_sub (ls' := [none, none, some (.int p2), some (.int x3), none, none, none, none]) ⟨Or.inl rfl, Or.inl rfl, Or.inr rfl, Or.inr rfl, Or.inl rfl, Or.inl rfl, Or.inl rfl, Or.inl rfl, trivial⟩ kk
  · refine j_iconst (v := 0) X dX12_live_61 (by decide) ?_
    refine j_istore (ls' := [some (.ref 89), some (.int p1), some (.int p2), some (.int x3), some (.int x4), some (.int (0 : Int32)), none, none]) X dX12_live_62 (Nat.le_of_ble_eq_true rfl) rfl ?_
    refine j_iconst (v := 1) X dX12_live_64 (by decide) ?_
    refine j_istore (ls' := [some (.ref 89), some (.int p1), some (.int p2), some (.int x3), some (.int x4), some (.int (0 : Int32)), some (.int (1 : Int32)), none]) X dX12_live_65 (Nat.le_of_ble_eq_true rfl) rfl ?_
    refine j_iconst (v := 0) X dX12_live_67 (by decide) ?_
    refine j_istore (ls' := [some (.ref 89), some (.int p1), some (.int p2), some (.int x3), some (.int x4), some (.int (0 : Int32)), some (.int (1 : Int32)), some (.int (0 : Int32))]) X dX12_live_68 (Nat.le_of_ble_eq_true rfl) rfl ?_
    obtain ⟨q32, σ33, hL46, h⟩ := jbd_some h
    refine X12_live_L70_ok X  jFU ((0 : Int32), (1 : Int32), (0 : Int32)) σ _ hL46 ?_
    refine j_iload_n X 3 dX12_live_149 rfl rfl ?_
    refine j_ldc (v := -1000000) X tw_988 dX12_live_150 ?_
    refine j_join (pcJ := 172) (lsJ := fun q35 => [some (.ref 89), some (.int p1), some (.int p2), some (.int x3), some (.int x4), some (.int q32.1), some (.int q32.2), none]) (stJ := fun q35 => [.int q35]) h (fun q35 σ36 h => ?_) (fun k34 hk34 h => ?_)
    · refine j_istore (ls' := [some (.ref 89), some (.int p1), some (.int p2), some (.int x3), some (.int x4), some (.int q32.1), some (.int q32.2), some (.int q35)]) X dX12_live_172 (Nat.le_of_ble_eq_true rfl) rfl ?_
      refine j_iload X dX12_live_174 rfl ?_
      refine j_if_eq (tgt := 198) X dX12_live_176 (by decide) h (fun h => ?_) (fun h => ?_)
      · refine j_iload_n X 3 dX12_live_198 rfl rfl ?_
        refine j_istore_n (ls' := [some (.ref 89), some (.int p1), some (.int p2), some (.int x3), some (.int x4), some (.int q32.1), some (.int q32.2), some (.int q35)]) X 3 dX12_live_199 rfl (Nat.le_of_ble_eq_true rfl) rfl ?_
        refine j_iinc (v := (x4 + 1)) (ls' := [some (.ref 89), some (.int p1), some (.int p2), some (.int x3), some (.int (x4 + 1)), some (.int q32.1), some (.int q32.2), some (.int q35)]) X dX12_live_200 rfl rfl (Nat.le_of_ble_eq_true rfl) rfl ?_
        refine j_goto (tgt := 48) X dX12_live_203 (by decide) ?_
        exact j_sub (ls' := [some (.ref 89), some (.int p1), some (.int p2), some (.int x3), some (.int (x4 + 1)), none, none, none]) ⟨Or.inr rfl, Or.inr rfl, Or.inr rfl, Or.inr rfl, Or.inr rfl, Or.inl rfl, Or.inl rfl, Or.inl rfl, trivial⟩ (ih (x3, (x4 + 1)) σ36 _ h kk)
      · refine j_iload X dX12_live_179 rfl ?_
        refine j_if_eq (tgt := 198) X dX12_live_181 (by decide) h (fun h => ?_) (fun h => ?_)
        · refine j_iload_n X 3 dX12_live_198 rfl rfl ?_
          refine j_istore_n (ls' := [some (.ref 89), some (.int p1), some (.int p2), some (.int x3), some (.int x4), some (.int q32.1), some (.int q32.2), some (.int q35)]) X 3 dX12_live_199 rfl (Nat.le_of_ble_eq_true rfl) rfl ?_
          refine j_iinc (v := (x4 + 1)) (ls' := [some (.ref 89), some (.int p1), some (.int p2), some (.int x3), some (.int (x4 + 1)), some (.int q32.1), some (.int q32.2), some (.int q35)]) X dX12_live_200 rfl rfl (Nat.le_of_ble_eq_true rfl) rfl ?_
          refine j_goto (tgt := 48) X dX12_live_203 (by decide) ?_
          exact j_sub (ls' := [some (.ref 89), some (.int p1), some (.int p2), some (.int x3), some (.int (x4 + 1)), none, none, none]) ⟨Or.inr rfl, Or.inr rfl, Or.inr rfl, Or.inr rfl, Or.inr rfl, Or.inl rfl, Or.inl rfl, Or.inl rfl, trivial⟩ (ih (x3, (x4 + 1)) σ36 _ h kk)
        · refine j_iload_n X 1 dX12_live_184 rfl rfl ?_
          refine j_iload X dX12_live_185 rfl ?_
          refine j_iconst (v := -1) X dX12_live_187 (by decide) ?_
          refine j_ixor X dX12_live_188 ?_
          refine j_iand X dX12_live_189 ?_
          refine j_if_ne (tgt := 198) X dX12_live_190 (by decide) h (fun h => ?_) (fun h => ?_)
          · refine j_iload_n X 3 dX12_live_198 rfl rfl ?_
            refine j_istore_n (ls' := [some (.ref 89), some (.int p1), some (.int p2), some (.int x3), some (.int x4), some (.int q32.1), some (.int q32.2), some (.int q35)]) X 3 dX12_live_199 rfl (Nat.le_of_ble_eq_true rfl) rfl ?_
            refine j_iinc (v := (x4 + 1)) (ls' := [some (.ref 89), some (.int p1), some (.int p2), some (.int x3), some (.int (x4 + 1)), some (.int q32.1), some (.int q32.2), some (.int q35)]) X dX12_live_200 rfl rfl (Nat.le_of_ble_eq_true rfl) rfl ?_
            refine j_goto (tgt := 48) X dX12_live_203 (by decide) ?_
            exact j_sub (ls' := [some (.ref 89), some (.int p1), some (.int p2), some (.int x3), some (.int (x4 + 1)), none, none, none]) ⟨Or.inr rfl, Or.inr rfl, Or.inr rfl, Or.inr rfl, Or.inr rfl, Or.inl rfl, Or.inl rfl, Or.inl rfl, trivial⟩ (ih (x3, (x4 + 1)) σ36 _ h kk)
          · refine j_iload X dX12_live_193 rfl ?_
            refine j_goto (tgt := 199) X dX12_live_195 (by decide) ?_
            refine j_istore_n (ls' := [some (.ref 89), some (.int p1), some (.int p2), some (.int x4), some (.int x4), some (.int q32.1), some (.int q32.2), some (.int q35)]) X 3 dX12_live_199 rfl (Nat.le_of_ble_eq_true rfl) rfl ?_
            refine j_iinc (v := (x4 + 1)) (ls' := [some (.ref 89), some (.int p1), some (.int p2), some (.int x4), some (.int (x4 + 1)), some (.int q32.1), some (.int q32.2), some (.int q35)]) X dX12_live_200 rfl rfl (Nat.le_of_ble_eq_true rfl) rfl ?_
            refine j_goto (tgt := 48) X dX12_live_203 (by decide) ?_
            exact j_sub (ls' := [some (.ref 89), some (.int p1), some (.int p2), some (.int x4), some (.int (x4 + 1)), none, none, none]) ⟨Or.inr rfl, Or.inr rfl, Or.inr rfl, Or.inr rfl, Or.inr rfl, Or.inl rfl, Or.inl rfl, Or.inl rfl, trivial⟩ (ih (x4, (x4 + 1)) σ36 _ h kk)
    · refine j_join (pcJ := 167) (lsJ := fun q38 => [some (.ref 89), some (.int p1), some (.int p2), some (.int x3), some (.int x4), some (.int q32.1), some (.int q32.2), none]) (stJ := fun q38 => []) h (fun q38 σ39 h => ?_) (fun k37 hk37 h => ?_)
      · refine j_iconst (v := 1) X dX12_live_167 (by decide) ?_
        refine j_goto (tgt := 172) X dX12_live_168 (by decide) ?_
        exact hk34 (1 : Int32) σ39 h
      · refine j_icmp_eq (tgt := 167) X dX12_live_152 (by decide) h (fun h => ?_) (fun h => ?_)
        · exact hk37 () σ33 h
        · refine j_iload X dX12_live_155 rfl ?_
          obtain ⟨v40, σ41, hm42, h⟩ := jbd_some h
          refine j_callS (as := [.int x4]) (st := []) (st1 := [.int v40]) X ss_RX12_246 ⟨by decide, by decide⟩ rfl rfl (Nat.le_of_ble_eq_true rfl) rfl dX12_live_157 jrv_i (c_X12_bits  hm42) rfl ?_
          refine j_iload_n X 3 dX12_live_160 rfl rfl ?_
          obtain ⟨v43, σ44, hm45, h⟩ := jbd_some h
          refine j_callS (as := [.int x3]) (st := [.int v40]) (st1 := [.int v43, .int v40]) X ss_RX12_246 ⟨by decide, by decide⟩ rfl rfl (Nat.le_of_ble_eq_true rfl) rfl dX12_live_161 jrv_i (c_X12_bits  hm45) rfl ?_
          refine j_icmp_ge (tgt := 171) X dX12_live_164 (by decide) h (fun h => ?_) (fun h => ?_)
          · refine j_iconst (v := 0) X dX12_live_171 (by decide) ?_
            exact hk34 (0 : Int32) σ44 h
          · exact hk37 () σ44 h
theorem X12_live_L48_ok {K : jK} (X : JX K cX12_live 8 RX12 3 64) {p1 : Int32} {p2 : Int32}  : ∀ (n : Nat) (s : Int32 × Int32) (σ : jMem) (o : (Int32) × jMem), X12_live_L48 p1 p2 n s σ = some o → (J K 206 [none, none, some (.int p2), some (.int o.1), none, none, none, none] [] o.2) → J K 48 [some (.ref 89), some (.int p1), some (.int p2), some (.int s.1), some (.int s.2), none, none, none] [] σ := by
  intro n
  induction n with
  | zero => intro s σ o h; cases h
  | succ n ih => intro s σ o h; exact X12_live_L48_bok X  ih (s.1) (s.2) σ o h
def f_X12_live (a0 : Int32) (a1 : Int32) (σ : jMem) : Option (Int32 × jMem) :=
  jlet (jset σ 89 0 (0 : Int32)) (fun σ1 =>
  jbd (f_X12_isThere  σ1) (fun v2 σ3 =>
  if ¬ v2 = 0 then
  jbd (f_X12_allPaths  σ3) (fun v5 σ6 =>
  jbd (f_X12_in ((a0).toInt64) (0 : Int64) ((v5).toInt64) σ6) (fun v8 σ9 =>
  if v8 = 0 then
  some (((-1000001 : Int32), σ9))
else
  jbd (f_X12_in ((a1).toInt64) (0 : Int64) (1 : Int64) σ9) (fun v11 σ12 =>
  if ¬ v11 = 0 then
  jbd (X12_live_L48 (a0) (a1) jFU ((-1000000 : Int32), (0 : Int32)) σ12) (fun q47 σ48 =>
  if q47 = (-1000000 : Int32) then
  some ((q47, σ48))
else
  if ¬ a1 = (1 : Int32) then
  jbd (f_X12_bits q47 σ48) (fun v49 σ50 =>
  some ((v49, σ50)))
else
  some ((q47, σ48)))
else
  some (((-1000001 : Int32), σ12)))))
else
  some (((-1000002 : Int32), σ3))))
set_option maxRecDepth 100000 in
set_option maxHeartbeats 4000000 in
theorem c_X12_live {l : Launch} {D : va_G} {ad : Nat → Nat} {cid : Nat → ClassId} {a0 : Int32} {a1 : Int32}  {σ : jMem} {r : Int32} {σ' : jMem} (h : f_X12_live a0 a1 σ = some (r, σ')) : jMet l D ad cid yX12_live cX12_live 8 (some .int) 3 64 [.ref 89, .int a0, .int a1] σ (some (.int r)) σ' := by
  refine jMet_of (ls0 := [some (.ref 89), some (.int a0), some (.int a1), none, none, none, none, none]) (by decide) (Nat.le_of_ble_eq_true rfl) rfl (fun K X R0 _ => ?_)
  unfold f_X12_live at h
  refine j_aload_n X 0 dX12_live_0 rfl rfl ?_
  refine j_iconst (v := 0) X dX12_live_1 (by decide) ?_
  refine j_put X fp_RX12_47 ln_89 ly_89 rfl rfl rfl dX12_live_2 h (fun σ1 h => ?_)
  refine j_aload_n X 0 dX12_live_5 rfl rfl ?_
  obtain ⟨v2, σ3, hm4, h⟩ := jbd_some h
  refine j_callV (as := []) (st := []) (st1 := [.int v2]) X ln_89 ly_89 rfl rfl sv_RX12_203 ⟨by decide, by decide⟩ rfl rfl (Nat.le_of_ble_eq_true rfl) rfl dX12_live_6 jrv_i (c_X12_isThere  hm4) rfl ?_
  refine j_if_ne (tgt := 15) X dX12_live_9 (by decide) h (fun h => ?_) (fun h => ?_)
  · refine j_iload_n X 1 dX12_live_15 rfl rfl ?_
    refine j_i2l X dX12_live_16 ?_
    refine j_lconst (v := 0) X dX12_live_17 (by decide) ?_
    refine j_aload_n X 0 dX12_live_18 rfl rfl ?_
    obtain ⟨v5, σ6, hm7, h⟩ := jbd_some h
    refine j_callV (as := []) (st := [.long (0 : Int64), .long ((a0).toInt64)]) (st1 := [.int v5, .long (0 : Int64), .long ((a0).toInt64)]) X ln_89 ly_89 rfl rfl sv_RX12_157 ⟨by decide, by decide⟩ rfl rfl (Nat.le_of_ble_eq_true rfl) rfl dX12_live_19 jrv_i (c_X12_allPaths  hm7) rfl ?_
    refine j_i2l X dX12_live_22 ?_
    obtain ⟨v8, σ9, hm10, h⟩ := jbd_some h
    refine j_callS (as := [.long ((a0).toInt64), .long (0 : Int64), .long ((v5).toInt64)]) (st := []) (st1 := [.int v8]) X ss_RX12_57 ⟨by decide, by decide⟩ rfl rfl (Nat.le_of_ble_eq_true rfl) rfl dX12_live_23 jrv_i (c_X12_in  hm10) rfl ?_
    refine j_if_eq (tgt := 39) X dX12_live_26 (by decide) h (fun h => ?_) (fun h => ?_)
    · refine j_ldc (v := -1000001) X tw_948 dX12_live_39 ?_
      obtain ⟨rfl, rfl⟩ := jin2 h
      exact j_iret X R0 dX12_live_41
    · refine j_iload_n X 2 dX12_live_29 rfl rfl ?_
      refine j_i2l X dX12_live_30 ?_
      refine j_lconst (v := 0) X dX12_live_31 (by decide) ?_
      refine j_lconst (v := 1) X dX12_live_32 (by decide) ?_
      obtain ⟨v11, σ12, hm13, h⟩ := jbd_some h
      refine j_callS (as := [.long ((a1).toInt64), .long (0 : Int64), .long (1 : Int64)]) (st := []) (st1 := [.int v11]) X ss_RX12_57 ⟨by decide, by decide⟩ rfl rfl (Nat.le_of_ble_eq_true rfl) rfl dX12_live_33 jrv_i (c_X12_in  hm13) rfl ?_
      refine j_if_ne (tgt := 42) X dX12_live_36 (by decide) h (fun h => ?_) (fun h => ?_)
      · refine j_ldc (v := -1000000) X tw_988 dX12_live_42 ?_
        refine j_istore_n (ls' := [some (.ref 89), some (.int a0), some (.int a1), some (.int (-1000000 : Int32)), none, none, none, none]) X 3 dX12_live_44 rfl (Nat.le_of_ble_eq_true rfl) rfl ?_
        refine j_iconst (v := 0) X dX12_live_45 (by decide) ?_
        refine j_istore (ls' := [some (.ref 89), some (.int a0), some (.int a1), some (.int (-1000000 : Int32)), some (.int (0 : Int32)), none, none, none]) X dX12_live_46 (Nat.le_of_ble_eq_true rfl) rfl ?_
        obtain ⟨q47, σ48, hL52, h⟩ := jbd_some h
        refine X12_live_L48_ok X  jFU ((-1000000 : Int32), (0 : Int32)) σ12 _ hL52 ?_
        refine j_iload_n X 3 dX12_live_206 rfl rfl ?_
        refine j_ldc (v := -1000000) X tw_988 dX12_live_207 ?_
        refine j_icmp_eq (tgt := 217) X dX12_live_209 (by decide) h (fun h => ?_) (fun h => ?_)
        · refine j_iload_n X 3 dX12_live_217 rfl rfl ?_
          refine j_goto (tgt := 225) X dX12_live_218 (by decide) ?_
          obtain ⟨rfl, rfl⟩ := jin2 h
          exact j_iret X R0 dX12_live_225
        · refine j_iload_n X 2 dX12_live_212 rfl rfl ?_
          refine j_iconst (v := 1) X dX12_live_213 (by decide) ?_
          refine j_icmp_ne (tgt := 221) X dX12_live_214 (by decide) h (fun h => ?_) (fun h => ?_)
          · refine j_iload_n X 3 dX12_live_221 rfl rfl ?_
            obtain ⟨v49, σ50, hm51, h⟩ := jbd_some h
            refine j_callS (as := [.int q47]) (st := []) (st1 := [.int v49]) X ss_RX12_246 ⟨by decide, by decide⟩ rfl rfl (Nat.le_of_ble_eq_true rfl) rfl dX12_live_222 jrv_i (c_X12_bits  hm51) rfl ?_
            obtain ⟨rfl, rfl⟩ := jin2 h
            exact j_iret X R0 dX12_live_225
          · refine j_iload_n X 3 dX12_live_217 rfl rfl ?_
            refine j_goto (tgt := 225) X dX12_live_218 (by decide) ?_
            obtain ⟨rfl, rfl⟩ := jin2 h
            exact j_iret X R0 dX12_live_225
      · refine j_ldc (v := -1000001) X tw_948 dX12_live_39 ?_
        obtain ⟨rfl, rfl⟩ := jin2 h
        exact j_iret X R0 dX12_live_41
  · refine j_ldc (v := -1000002) X tw_1041 dX12_live_12 ?_
    obtain ⟨rfl, rfl⟩ := jin2 h
    exact j_iret X R0 dX12_live_14
def f_X12_waysBehind (a0 : Int32) (σ : jMem) : Option (Int32 × jMem) :=
  jld σ 93 67 (6 : Int32) (fun v1 =>
  jbd (f_X12_isBurial v1 a0 σ) (fun v2 σ3 =>
  if ¬ v2 = 0 then
  jbv (f_X12_layThen  σ3) (fun σ5 =>
  jbv (f_X12_see 95 σ5) (fun σ7 =>
  jbd (f_X12_waysOf 95 σ7) (fun v9 σ10 =>
  some ((v9, σ10)))))
else
  some (((-1000000 : Int32), σ3))))
set_option maxRecDepth 100000 in
set_option maxHeartbeats 4000000 in
theorem c_X12_waysBehind {l : Launch} {D : va_G} {ad : Nat → Nat} {cid : Nat → ClassId} {a0 : Int32}  {σ : jMem} {r : Int32} {σ' : jMem} (h : f_X12_waysBehind a0 σ = some (r, σ')) : jMet l D ad cid yX12_waysBehind cX12_waysBehind 2 (some .int) 4 99 [.ref 89, .int a0] σ (some (.int r)) σ' := by
  refine jMet_of (ls0 := [some (.ref 89), some (.int a0)]) (by decide) (Nat.le_of_ble_eq_true rfl) rfl (fun K X R0 _ => ?_)
  unfold f_X12_waysBehind at h
  refine j_aload_n X 0 dX12_waysBehind_0 rfl rfl ?_
  refine j_aload_n X 0 dX12_waysBehind_1 rfl rfl ?_
  refine j_getR (t := 93) X fg_RX12_19 ln_89 ly_89 rfl dX12_waysBehind_2 ?_
  refine j_bipush (v := 6) X dX12_waysBehind_5 (by decide) ?_
  refine j_iaload X ln_93 ly_93 dX12_waysBehind_7 h (fun v1 h => ?_)
  refine j_iload_n X 1 dX12_waysBehind_8 rfl rfl ?_
  obtain ⟨v2, σ3, hm4, h⟩ := jbd_some h
  refine j_callV (as := [.int v1, .int a0]) (st := []) (st1 := [.int v2]) X ln_89 ly_89 rfl rfl sv_RX12_211 ⟨by decide, by decide⟩ rfl rfl (Nat.le_of_ble_eq_true rfl) rfl dX12_waysBehind_9 jrv_i (c_X12_isBurial  hm4) rfl ?_
  refine j_if_ne (tgt := 18) X dX12_waysBehind_12 (by decide) h (fun h => ?_) (fun h => ?_)
  · refine j_aload_n X 0 dX12_waysBehind_18 rfl rfl ?_
    obtain ⟨σ5, hm6, h⟩ := jbv_some h
    refine j_callV (as := []) (st := []) (st1 := []) X ln_89 ly_89 rfl rfl sv_RX12_243 ⟨by decide, by decide⟩ rfl rfl (Nat.le_of_ble_eq_true rfl) rfl dX12_waysBehind_19 jrv_v (c_X12_layThen  hm6) rfl ?_
    refine j_aload_n X 0 dX12_waysBehind_22 rfl rfl ?_
    refine j_aload_n X 0 dX12_waysBehind_23 rfl rfl ?_
    refine j_getR (t := 95) X fg_RX12_25 ln_89 ly_89 rfl dX12_waysBehind_24 ?_
    obtain ⟨σ7, hm8, h⟩ := jbv_some h
    refine j_callV (as := [.ref 95]) (st := []) (st1 := []) X ln_89 ly_89 rfl rfl sv_RX12_217 ⟨by decide, by decide⟩ rfl rfl (Nat.le_of_ble_eq_true rfl) rfl dX12_waysBehind_27 jrv_v (c_X12_see ⟨ln_95, ly_95⟩ hm8) rfl ?_
    refine j_aload_n X 0 dX12_waysBehind_30 rfl rfl ?_
    refine j_getR (t := 95) X fg_RX12_25 ln_89 ly_89 rfl dX12_waysBehind_31 ?_
    obtain ⟨v9, σ10, hm11, h⟩ := jbd_some h
    refine j_callS (as := [.ref 95]) (st := []) (st1 := [.int v9]) X ss_RX12_221 ⟨by decide, by decide⟩ rfl rfl (Nat.le_of_ble_eq_true rfl) rfl dX12_waysBehind_34 jrv_i (c_X12_waysOf ⟨ln_95, ly_95⟩ hm11) rfl ?_
    obtain ⟨rfl, rfl⟩ := jin2 h
    exact j_iret X R0 dX12_waysBehind_37
  · refine j_ldc (v := -1000000) X tw_988 dX12_waysBehind_15 ?_
    obtain ⟨rfl, rfl⟩ := jin2 h
    exact j_iret X R0 dX12_waysBehind_17
