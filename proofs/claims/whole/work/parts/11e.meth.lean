theorem sv_RX12_157 : jSiV RX12 157 yX12_allPaths cX12_allPaths 1 (some .int) 0 := ⟨tw_1053, tw_1055, ts_36, tw_13, tw_1056, by decide, by decide, by decide +kernel⟩
theorem sv_RX12_161 : jSiV RX12 161 yX12_layFars cX12_layFars 8 none 1 := ⟨tw_1057, tw_1059, ts_37, tw_13, tw_1060, by decide, by decide, by decide +kernel⟩
theorem sv_RX12_173 : jSiV RX12 173 yX12_other cX12_other 4 (some .int) 2 := ⟨tw_1064, tw_1066, ts_38, tw_13, tw_1067, by decide, by decide, by decide +kernel⟩
def X12_layWay_L69_b (p3 : Int32) (p4 : Int32) (rec : Int32 × Int32 × Int32 → jMem → Option ((Int32 × Int32) × jMem)) (x5 : Int32) (x6 : Int32) (x7 : Int32) (σ : jMem) : Option ((Int32 × Int32) × jMem) :=
  jld σ 93 67 (3 : Int32) (fun v12 =>
  if v12 ≤ x7 then
  some ((x5, x6), σ)
else
  jbd (f_X12_has p3 x7 σ) (fun v13 σ14 =>
  jj (fun (q17 : Int32) σ18 =>
  jj (fun (q20 : Int32) σ21 =>
  if q20 = 0 then
  rec (x5, x6, (x7 + 1)) σ21
else
  jj (fun (q23 : Unit) σ24 =>
  rec (x7, q17, (x7 + 1)) σ24) (fun k22 =>
  if x6 = (-1000000 : Int32) then
  k22 () σ21
else
  if x6 ≤ q17 then
  rec (x5, x6, (x7 + 1)) σ21
else
  k22 () σ21)) (fun k19 =>
  jj (fun (q26 : Unit) σ27 =>
  k19 (0 : Int32) σ27) (fun k25 =>
  if q17 = (-1000000 : Int32) then
  k25 () σ18
else
  jld σ18 98 8 q17 (fun v28 =>
  if v28 = (-1000000 : Int32) then
  k25 () σ18
else
  jld σ18 98 8 q17 (fun v29 =>
  jld σ18 93 67 (((7 : Int32) + ((3 : Int32) * x7)) + (2 : Int32)) (fun v30 =>
  jld σ18 98 8 p4 (fun v31 =>
  if ¬ (v29 + v30) = v31 then
  k25 () σ18
else
  k19 (1 : Int32) σ18))))))) (fun k16 =>
  if v13 = 0 then
  k16 (-1000000 : Int32) σ14
else
  jbd (f_X12_other x7 p4 σ14) (fun v32 σ33 =>
  k16 v32 σ33))))
def X12_layWay_L69 (p3 : Int32) (p4 : Int32) : Nat → Int32 × Int32 × Int32 → jMem → Option ((Int32 × Int32) × jMem) := jloop (fun rec s σ => X12_layWay_L69_b p3 p4 rec s.1 s.2.1 s.2.2 σ)
set_option maxRecDepth 100000 in
set_option maxHeartbeats 4000000 in
theorem X12_layWay_L69_bok {K : jK} (X : JX K cX12_layWay 10 RX12 2 48) {p3 : Int32} {p4 : Int32}  {rec : Int32 × Int32 × Int32 → jMem → Option ((Int32 × Int32) × jMem)} (ih : ∀ (s : Int32 × Int32 × Int32) (σ : jMem) (o : (Int32 × Int32) × jMem), rec s σ = some o → (J K 195 [some (.ref 89), none, none, some (.int p3), none, some (.int o.1.1), some (.int o.1.2), none, none, none] [] o.2) → J K 69 [some (.ref 89), none, none, some (.int p3), some (.int p4), some (.int s.1), some (.int s.2.1), some (.int s.2.2), none, none] [] σ) : ∀ (x5 : Int32) (x6 : Int32) (x7 : Int32) (σ : jMem) (o : (Int32 × Int32) × jMem), X12_layWay_L69_b p3 p4 rec x5 x6 x7 σ = some o → (J K 195 [some (.ref 89), none, none, some (.int p3), none, some (.int o.1.1), some (.int o.1.2), none, none, none] [] o.2) → J K 69 [some (.ref 89), none, none, some (.int p3), some (.int p4), some (.int x5), some (.int x6), some (.int x7), none, none] [] σ := by
  intro x5 x6 x7 σ o h kk
  unfold X12_layWay_L69_b at h
  refine j_iload X dX12_layWay_69 rfl ?_
  refine j_aload_n X 0 dX12_layWay_71 rfl rfl ?_
  refine j_getR (t := 93) X fg_RX12_19 ln_89 ly_89 rfl dX12_layWay_72 ?_
  refine j_iconst (v := 3) X dX12_layWay_75 (by decide) ?_
  refine j_iaload X ln_93 ly_93 dX12_layWay_76 h (fun v12 h => ?_)
  refine j_icmp_ge (tgt := 195) X dX12_layWay_77 (by decide) h (fun h => ?_) (fun h => ?_)
  · obtain rfl := Option.some.inj h
    exact j_sub (ls' := [some (.ref 89), none, none, some (.int p3), none, some (.int x5), some (.int x6), none, none, none]) ⟨Or.inr rfl, Or.inl rfl, Or.inl rfl, Or.inr rfl, Or.inl rfl, Or.inr rfl, Or.inr rfl, Or.inl rfl, Or.inl rfl, Or.inl rfl, trivial⟩ kk
  · refine j_iload_n X 3 dX12_layWay_80 rfl rfl ?_
    refine j_iload X dX12_layWay_81 rfl ?_
    obtain ⟨v13, σ14, hm15, h⟩ := jbd_some h
    refine j_callS (as := [.int p3, .int x7]) (st := []) (st1 := [.int v13]) X ss_RX12_153 ⟨by decide, by decide⟩ rfl rfl (Nat.le_of_ble_eq_true rfl) rfl dX12_layWay_83 jrv_i (c_X12_has  hm15) rfl ?_
    refine j_join (pcJ := 102) (lsJ := fun q17 => [some (.ref 89), none, none, some (.int p3), some (.int p4), some (.int x5), some (.int x6), some (.int x7), none, none]) (stJ := fun q17 => [.int q17]) h (fun q17 σ18 h => ?_) (fun k16 hk16 h => ?_)
    · refine j_istore (ls' := [some (.ref 89), none, none, some (.int p3), some (.int p4), some (.int x5), some (.int x6), some (.int x7), some (.int q17), none]) X dX12_layWay_102 (Nat.le_of_ble_eq_true rfl) rfl ?_
      refine j_iload X dX12_layWay_104 rfl ?_
      refine j_ldc (v := -1000000) X tw_988 dX12_layWay_106 ?_
      refine j_join (pcJ := 160) (lsJ := fun q20 => [some (.ref 89), none, none, some (.int p3), some (.int p4), some (.int x5), some (.int x6), some (.int x7), some (.int q17), none]) (stJ := fun q20 => [.int q20]) h (fun q20 σ21 h => ?_) (fun k19 hk19 h => ?_)
      · refine j_istore (ls' := [some (.ref 89), none, none, some (.int p3), some (.int p4), some (.int x5), some (.int x6), some (.int x7), some (.int q17), some (.int q20)]) X dX12_layWay_160 (Nat.le_of_ble_eq_true rfl) rfl ?_
        refine j_iload X dX12_layWay_162 rfl ?_
        refine j_if_eq (tgt := 189) X dX12_layWay_164 (by decide) h (fun h => ?_) (fun h => ?_)
        · refine j_iinc (v := (x7 + 1)) (ls' := [some (.ref 89), none, none, some (.int p3), some (.int p4), some (.int x5), some (.int x6), some (.int (x7 + 1)), some (.int q17), some (.int q20)]) X dX12_layWay_189 rfl rfl (Nat.le_of_ble_eq_true rfl) rfl ?_
          refine j_goto (tgt := 69) X dX12_layWay_192 (by decide) ?_
          exact j_sub (ls' := [some (.ref 89), none, none, some (.int p3), some (.int p4), some (.int x5), some (.int x6), some (.int (x7 + 1)), none, none]) ⟨Or.inr rfl, Or.inl rfl, Or.inl rfl, Or.inr rfl, Or.inr rfl, Or.inr rfl, Or.inr rfl, Or.inr rfl, Or.inl rfl, Or.inl rfl, trivial⟩ (ih (x5, x6, (x7 + 1)) σ21 _ h kk)
        · refine j_iload X dX12_layWay_167 rfl ?_
          refine j_ldc (v := -1000000) X tw_988 dX12_layWay_169 ?_
          refine j_join (pcJ := 181) (lsJ := fun q23 => [some (.ref 89), none, none, some (.int p3), some (.int p4), none, none, some (.int x7), some (.int q17), none]) (stJ := fun q23 => []) h (fun q23 σ24 h => ?_) (fun k22 hk22 h => ?_)
          · refine j_iload X dX12_layWay_181 rfl ?_
            refine j_istore (ls' := [some (.ref 89), none, none, some (.int p3), some (.int p4), none, some (.int q17), some (.int x7), some (.int q17), none]) X dX12_layWay_183 (Nat.le_of_ble_eq_true rfl) rfl ?_
            refine j_iload X dX12_layWay_185 rfl ?_
            refine j_istore (ls' := [some (.ref 89), none, none, some (.int p3), some (.int p4), some (.int x7), some (.int q17), some (.int x7), some (.int q17), none]) X dX12_layWay_187 (Nat.le_of_ble_eq_true rfl) rfl ?_
            refine j_iinc (v := (x7 + 1)) (ls' := [some (.ref 89), none, none, some (.int p3), some (.int p4), some (.int x7), some (.int q17), some (.int (x7 + 1)), some (.int q17), none]) X dX12_layWay_189 rfl rfl (Nat.le_of_ble_eq_true rfl) rfl ?_
            refine j_goto (tgt := 69) X dX12_layWay_192 (by decide) ?_
            exact j_sub (ls' := [some (.ref 89), none, none, some (.int p3), some (.int p4), some (.int x7), some (.int q17), some (.int (x7 + 1)), none, none]) ⟨Or.inr rfl, Or.inl rfl, Or.inl rfl, Or.inr rfl, Or.inr rfl, Or.inr rfl, Or.inr rfl, Or.inr rfl, Or.inl rfl, Or.inl rfl, trivial⟩ (ih (x7, q17, (x7 + 1)) σ24 _ h kk)
          · refine j_icmp_eq (tgt := 181) X dX12_layWay_171 (by decide) h (fun h => ?_) (fun h => ?_)
            · exact j_sub (ls' := [some (.ref 89), none, none, some (.int p3), some (.int p4), none, none, some (.int x7), some (.int q17), none]) ⟨Or.inr rfl, Or.inl rfl, Or.inl rfl, Or.inr rfl, Or.inr rfl, Or.inl rfl, Or.inl rfl, Or.inr rfl, Or.inr rfl, Or.inl rfl, trivial⟩ (hk22 () σ21 h)
            · refine j_iload X dX12_layWay_174 rfl ?_
              refine j_iload X dX12_layWay_176 rfl ?_
              refine j_icmp_ge (tgt := 189) X dX12_layWay_178 (by decide) h (fun h => ?_) (fun h => ?_)
              · refine j_iinc (v := (x7 + 1)) (ls' := [some (.ref 89), none, none, some (.int p3), some (.int p4), some (.int x5), some (.int x6), some (.int (x7 + 1)), some (.int q17), some (.int q20)]) X dX12_layWay_189 rfl rfl (Nat.le_of_ble_eq_true rfl) rfl ?_
                refine j_goto (tgt := 69) X dX12_layWay_192 (by decide) ?_
                exact j_sub (ls' := [some (.ref 89), none, none, some (.int p3), some (.int p4), some (.int x5), some (.int x6), some (.int (x7 + 1)), none, none]) ⟨Or.inr rfl, Or.inl rfl, Or.inl rfl, Or.inr rfl, Or.inr rfl, Or.inr rfl, Or.inr rfl, Or.inr rfl, Or.inl rfl, Or.inl rfl, trivial⟩ (ih (x5, x6, (x7 + 1)) σ21 _ h kk)
              · exact j_sub (ls' := [some (.ref 89), none, none, some (.int p3), some (.int p4), none, none, some (.int x7), some (.int q17), none]) ⟨Or.inr rfl, Or.inl rfl, Or.inl rfl, Or.inr rfl, Or.inr rfl, Or.inl rfl, Or.inl rfl, Or.inr rfl, Or.inr rfl, Or.inl rfl, trivial⟩ (hk22 () σ21 h)
      · refine j_join (pcJ := 159) (lsJ := fun q26 => [some (.ref 89), none, none, some (.int p3), some (.int p4), some (.int x5), some (.int x6), some (.int x7), some (.int q17), none]) (stJ := fun q26 => []) h (fun q26 σ27 h => ?_) (fun k25 hk25 h => ?_)
        · refine j_iconst (v := 0) X dX12_layWay_159 (by decide) ?_
          exact hk19 (0 : Int32) σ27 h
        · refine j_icmp_eq (tgt := 159) X dX12_layWay_108 (by decide) h (fun h => ?_) (fun h => ?_)
          · exact hk25 () σ18 h
          · refine j_aload_n X 0 dX12_layWay_111 rfl rfl ?_
            refine j_getR (t := 98) X fg_RX12_34 ln_89 ly_89 rfl dX12_layWay_112 ?_
            refine j_iload X dX12_layWay_115 rfl ?_
            refine j_iaload X ln_98 ly_98 dX12_layWay_117 h (fun v28 h => ?_)
            refine j_ldc (v := -1000000) X tw_988 dX12_layWay_118 ?_
            refine j_icmp_eq (tgt := 159) X dX12_layWay_120 (by decide) h (fun h => ?_) (fun h => ?_)
            · exact hk25 () σ18 h
            · refine j_aload_n X 0 dX12_layWay_123 rfl rfl ?_
              refine j_getR (t := 98) X fg_RX12_34 ln_89 ly_89 rfl dX12_layWay_124 ?_
              refine j_iload X dX12_layWay_127 rfl ?_
              refine j_iaload X ln_98 ly_98 dX12_layWay_129 h (fun v29 h => ?_)
              refine j_aload_n X 0 dX12_layWay_130 rfl rfl ?_
              refine j_getR (t := 93) X fg_RX12_19 ln_89 ly_89 rfl dX12_layWay_131 ?_
              refine j_bipush (v := 7) X dX12_layWay_134 (by decide) ?_
              refine j_iconst (v := 3) X dX12_layWay_136 (by decide) ?_
              refine j_iload X dX12_layWay_137 rfl ?_
              refine j_imul X dX12_layWay_139 ?_
              refine j_iadd X dX12_layWay_140 ?_
              refine j_iconst (v := 2) X dX12_layWay_141 (by decide) ?_
              refine j_iadd X dX12_layWay_142 ?_
              refine j_iaload X ln_93 ly_93 dX12_layWay_143 h (fun v30 h => ?_)
              refine j_iadd X dX12_layWay_144 ?_
              refine j_aload_n X 0 dX12_layWay_145 rfl rfl ?_
              refine j_getR (t := 98) X fg_RX12_34 ln_89 ly_89 rfl dX12_layWay_146 ?_
              refine j_iload X dX12_layWay_149 rfl ?_
              refine j_iaload X ln_98 ly_98 dX12_layWay_151 h (fun v31 h => ?_)
              refine j_icmp_ne (tgt := 159) X dX12_layWay_152 (by decide) h (fun h => ?_) (fun h => ?_)
              · exact hk25 () σ18 h
              · refine j_iconst (v := 1) X dX12_layWay_155 (by decide) ?_
                refine j_goto (tgt := 160) X dX12_layWay_156 (by decide) ?_
                exact hk19 (1 : Int32) σ18 h
    · refine j_if_eq (tgt := 100) X dX12_layWay_86 (by decide) h (fun h => ?_) (fun h => ?_)
      · refine j_ldc (v := -1000000) X tw_988 dX12_layWay_100 ?_
        exact hk16 (-1000000 : Int32) σ14 h
      · refine j_aload_n X 0 dX12_layWay_89 rfl rfl ?_
        refine j_iload X dX12_layWay_90 rfl ?_
        refine j_iload X dX12_layWay_92 rfl ?_
        obtain ⟨v32, σ33, hm34, h⟩ := jbd_some h
        refine j_callV (as := [.int x7, .int p4]) (st := []) (st1 := [.int v32]) X ln_89 ly_89 rfl rfl sv_RX12_173 ⟨by decide, by decide⟩ rfl rfl (Nat.le_of_ble_eq_true rfl) rfl dX12_layWay_94 jrv_i (c_X12_other  hm34) rfl ?_
        refine j_goto (tgt := 102) X dX12_layWay_97 (by decide) ?_
        exact hk16 v32 σ33 h
theorem X12_layWay_L69_ok {K : jK} (X : JX K cX12_layWay 10 RX12 2 48) {p3 : Int32} {p4 : Int32}  : ∀ (n : Nat) (s : Int32 × Int32 × Int32) (σ : jMem) (o : (Int32 × Int32) × jMem), X12_layWay_L69 p3 p4 n s σ = some o → (J K 195 [some (.ref 89), none, none, some (.int p3), none, some (.int o.1.1), some (.int o.1.2), none, none, none] [] o.2) → J K 69 [some (.ref 89), none, none, some (.int p3), some (.int p4), some (.int s.1), some (.int s.2.1), some (.int s.2.2), none, none] [] σ := by
  intro n
  induction n with
  | zero => intro s σ o h; cases h
  | succ n ih => intro s σ o h; exact X12_layWay_L69_bok X  ih (s.1) (s.2.1) (s.2.2) σ o h
def X12_layWay_L38_b (p3 : Int32) (rec : Int32 → jMem → Option ((Unit) × jMem)) (x4 : Int32) (σ : jMem) : Option ((Unit) × jMem) :=
  if (σ.1 89 22) = (-1000000 : Int32) then
  some ((), σ)
else
  jld σ 93 67 (1 : Int32) (fun v11 =>
  if x4 = v11 then
  some ((), σ)
else
  jbd (X12_layWay_L69 (p3) (x4) jFU ((-1000000 : Int32), (-1000000 : Int32), (0 : Int32)) σ) (fun q35 σ36 =>
  jlet (jset σ36 89 20 ((σ36.1 89 20) ||| ((1 : Int32) <<< (q35.1 &&& 31)))) (fun σ37 =>
  jj (fun (q39 : Int32) σ40 =>
  jlet (jset σ40 89 21 q39) (fun σ41 =>
  rec q35.2 σ41)) (fun k38 =>
  if ¬ (σ37.1 89 21) = (-1000000 : Int32) then
  k38 (σ37.1 89 21) σ37
else
  k38 q35.1 σ37))))
def X12_layWay_L38 (p3 : Int32) : Nat → Int32 → jMem → Option ((Unit) × jMem) := jloop (fun rec s σ => X12_layWay_L38_b p3 rec s σ)
set_option maxRecDepth 100000 in
set_option maxHeartbeats 4000000 in
theorem X12_layWay_L38_bok {K : jK} (X : JX K cX12_layWay 10 RX12 2 48) {p3 : Int32}  {rec : Int32 → jMem → Option ((Unit) × jMem)} (ih : ∀ (s : Int32) (σ : jMem) (o : (Unit) × jMem), rec s σ = some o → (J K 237 [none, none, none, none, none, none, none, none, none, none] [] o.2) → J K 38 [some (.ref 89), none, none, some (.int p3), some (.int s), none, none, none, none, none] [] σ) : ∀ (x4 : Int32) (σ : jMem) (o : (Unit) × jMem), X12_layWay_L38_b p3 rec x4 σ = some o → (J K 237 [none, none, none, none, none, none, none, none, none, none] [] o.2) → J K 38 [some (.ref 89), none, none, some (.int p3), some (.int x4), none, none, none, none, none] [] σ := by
  intro x4 σ o h kk
  unfold X12_layWay_L38_b at h
  refine j_aload_n X 0 dX12_layWay_38 rfl rfl ?_
  refine j_getI X fg_RX12_170 ln_89 ly_89 rfl dX12_layWay_39 ?_
  refine j_ldc (v := -1000000) X tw_988 dX12_layWay_42 ?_
  refine j_icmp_eq (tgt := 237) X dX12_layWay_44 (by decide) h (fun h => ?_) (fun h => ?_)
  · obtain rfl := Option.some.inj h
    exact j_sub (ls' := [none, none, none, none, none, none, none, none, none, none]) ⟨Or.inl rfl, Or.inl rfl, Or.inl rfl, Or.inl rfl, Or.inl rfl, Or.inl rfl, Or.inl rfl, Or.inl rfl, Or.inl rfl, Or.inl rfl, trivial⟩ kk
  · refine j_iload X dX12_layWay_47 rfl ?_
    refine j_aload_n X 0 dX12_layWay_49 rfl rfl ?_
    refine j_getR (t := 93) X fg_RX12_19 ln_89 ly_89 rfl dX12_layWay_50 ?_
    refine j_iconst (v := 1) X dX12_layWay_53 (by decide) ?_
    refine j_iaload X ln_93 ly_93 dX12_layWay_54 h (fun v11 h => ?_)
    refine j_icmp_eq (tgt := 237) X dX12_layWay_55 (by decide) h (fun h => ?_) (fun h => ?_)
    · obtain rfl := Option.some.inj h
      exact j_sub (ls' := [none, none, none, none, none, none, none, none, none, none]) ⟨Or.inl rfl, Or.inl rfl, Or.inl rfl, Or.inl rfl, Or.inl rfl, Or.inl rfl, Or.inl rfl, Or.inl rfl, Or.inl rfl, Or.inl rfl, trivial⟩ kk
    · refine j_ldc (v := -1000000) X tw_988 dX12_layWay_58 ?_
      refine j_istore (ls' := [some (.ref 89), none, none, some (.int p3), some (.int x4), some (.int (-1000000 : Int32)), none, none, none, none]) X dX12_layWay_60 (Nat.le_of_ble_eq_true rfl) rfl ?_
      refine j_ldc (v := -1000000) X tw_988 dX12_layWay_62 ?_
      refine j_istore (ls' := [some (.ref 89), none, none, some (.int p3), some (.int x4), some (.int (-1000000 : Int32)), some (.int (-1000000 : Int32)), none, none, none]) X dX12_layWay_64 (Nat.le_of_ble_eq_true rfl) rfl ?_
      refine j_iconst (v := 0) X dX12_layWay_66 (by decide) ?_
      refine j_istore (ls' := [some (.ref 89), none, none, some (.int p3), some (.int x4), some (.int (-1000000 : Int32)), some (.int (-1000000 : Int32)), some (.int (0 : Int32)), none, none]) X dX12_layWay_67 (Nat.le_of_ble_eq_true rfl) rfl ?_
      obtain ⟨q35, σ36, hL42, h⟩ := jbd_some h
      refine X12_layWay_L69_ok X  jFU ((-1000000 : Int32), (-1000000 : Int32), (0 : Int32)) σ _ hL42 ?_
      refine j_aload_n X 0 dX12_layWay_195 rfl rfl ?_
      refine j_dup X dX12_layWay_196 rfl ?_
      refine j_getI X fg_RX12_164 ln_89 ly_89 rfl dX12_layWay_197 ?_
      refine j_iconst (v := 1) X dX12_layWay_200 (by decide) ?_
      refine j_iload X dX12_layWay_201 rfl ?_
      refine j_ishl X dX12_layWay_203 ?_
      refine j_ior X dX12_layWay_204 ?_
      refine j_put X fp_RX12_164 ln_89 ly_89 rfl rfl rfl dX12_layWay_205 h (fun σ37 h => ?_)
      refine j_aload_n X 0 dX12_layWay_208 rfl rfl ?_
      refine j_aload_n X 0 dX12_layWay_209 rfl rfl ?_
      refine j_getI X fg_RX12_167 ln_89 ly_89 rfl dX12_layWay_210 ?_
      refine j_ldc (v := -1000000) X tw_988 dX12_layWay_213 ?_
      refine j_join (pcJ := 227) (lsJ := fun q39 => [some (.ref 89), none, none, some (.int p3), none, none, some (.int q35.2), none, none, none]) (stJ := fun q39 => [.int q39, .ref 89]) h (fun q39 σ40 h => ?_) (fun k38 hk38 h => ?_)
      · refine j_put X fp_RX12_167 ln_89 ly_89 rfl rfl rfl dX12_layWay_227 h (fun σ41 h => ?_)
        refine j_iload X dX12_layWay_230 rfl ?_
        refine j_istore (ls' := [some (.ref 89), none, none, some (.int p3), some (.int q35.2), none, some (.int q35.2), none, none, none]) X dX12_layWay_232 (Nat.le_of_ble_eq_true rfl) rfl ?_
        refine j_goto (tgt := 38) X dX12_layWay_234 (by decide) ?_
        exact j_sub (ls' := [some (.ref 89), none, none, some (.int p3), some (.int q35.2), none, none, none, none, none]) ⟨Or.inr rfl, Or.inl rfl, Or.inl rfl, Or.inr rfl, Or.inr rfl, Or.inl rfl, Or.inl rfl, Or.inl rfl, Or.inl rfl, Or.inl rfl, trivial⟩ (ih q35.2 σ41 _ h kk)
      · refine j_icmp_ne (tgt := 223) X dX12_layWay_215 (by decide) h (fun h => ?_) (fun h => ?_)
        · refine j_aload_n X 0 dX12_layWay_223 rfl rfl ?_
          refine j_getI X fg_RX12_167 ln_89 ly_89 rfl dX12_layWay_224 ?_
          exact j_sub (ls' := [some (.ref 89), none, none, some (.int p3), none, none, some (.int q35.2), none, none, none]) ⟨Or.inr rfl, Or.inl rfl, Or.inl rfl, Or.inr rfl, Or.inl rfl, Or.inl rfl, Or.inr rfl, Or.inl rfl, Or.inl rfl, Or.inl rfl, trivial⟩ (hk38 (σ37.1 89 21) σ37 h)
        · refine j_iload X dX12_layWay_218 rfl ?_
          refine j_goto (tgt := 227) X dX12_layWay_220 (by decide) ?_
          exact j_sub (ls' := [some (.ref 89), none, none, some (.int p3), none, none, some (.int q35.2), none, none, none]) ⟨Or.inr rfl, Or.inl rfl, Or.inl rfl, Or.inr rfl, Or.inl rfl, Or.inl rfl, Or.inr rfl, Or.inl rfl, Or.inl rfl, Or.inl rfl, trivial⟩ (hk38 q35.1 σ37 h)
theorem X12_layWay_L38_ok {K : jK} (X : JX K cX12_layWay 10 RX12 2 48) {p3 : Int32}  : ∀ (n : Nat) (s : Int32) (σ : jMem) (o : (Unit) × jMem), X12_layWay_L38 p3 n s σ = some o → (J K 237 [none, none, none, none, none, none, none, none, none, none] [] o.2) → J K 38 [some (.ref 89), none, none, some (.int p3), some (.int s), none, none, none, none, none] [] σ := by
  intro n
  induction n with
  | zero => intro s σ o h; cases h
  | succ n ih => intro s σ o h; exact X12_layWay_L38_bok X  ih (s) σ o h
def f_X12_layWay (a0 : Int32) (a1 : Int32) (σ : jMem) : Option jMem :=
  jbd (f_X12_allPaths  σ) (fun v1 σ2 =>
  jlet ((v1 &&& (a0 ^^^ (-1 : Int32)))) (fun v4 =>
  jbv (f_X12_layFars v4 σ2) (fun σ5 =>
  jlet (jset σ5 89 20 (0 : Int32)) (fun σ7 =>
  jlet (jset σ7 89 21 (-1000000 : Int32)) (fun σ8 =>
  jld σ8 98 8 a1 (fun v9 =>
  jlet (jset σ8 89 22 v9) (fun σ10 =>
  jbd (X12_layWay_L38 (v4) jFU a1 σ10) (fun q43 σ44 =>
  some σ44))))))))
set_option maxRecDepth 100000 in
set_option maxHeartbeats 4000000 in
theorem c_X12_layWay {l : Launch} {D : va_G} {ad : Nat → Nat} {cid : Nat → ClassId} {a0 : Int32} {a1 : Int32}  {σ : jMem} {σ' : jMem} (h : f_X12_layWay a0 a1 σ = some σ') : jMet l D ad cid yX12_layWay cX12_layWay 10 none 2 48 [.ref 89, .int a0, .int a1] σ none σ' := by
  refine jMet_of (ls0 := [some (.ref 89), some (.int a0), some (.int a1), none, none, none, none, none, none, none]) (by decide) (Nat.le_of_ble_eq_true rfl) rfl (fun K X R0 _ => ?_)
  unfold f_X12_layWay at h
  refine j_aload_n X 0 dX12_layWay_0 rfl rfl ?_
  obtain ⟨v1, σ2, hm3, h⟩ := jbd_some h
  refine j_callV (as := []) (st := []) (st1 := [.int v1]) X ln_89 ly_89 rfl rfl sv_RX12_157 ⟨by decide, by decide⟩ rfl rfl (Nat.le_of_ble_eq_true rfl) rfl dX12_layWay_1 jrv_i (c_X12_allPaths  hm3) rfl ?_
  refine j_iload_n X 1 dX12_layWay_4 rfl rfl ?_
  refine j_iconst (v := -1) X dX12_layWay_5 (by decide) ?_
  refine j_ixor X dX12_layWay_6 ?_
  refine j_iand X dX12_layWay_7 ?_
  refine j_letI h (fun v4 h => ?_)
  refine j_istore_n (ls' := [some (.ref 89), some (.int a0), some (.int a1), some (.int v4), none, none, none, none, none, none]) X 3 dX12_layWay_8 rfl (Nat.le_of_ble_eq_true rfl) rfl ?_
  refine j_aload_n X 0 dX12_layWay_9 rfl rfl ?_
  refine j_iload_n X 3 dX12_layWay_10 rfl rfl ?_
  obtain ⟨σ5, hm6, h⟩ := jbv_some h
  refine j_callV (as := [.int v4]) (st := []) (st1 := []) X ln_89 ly_89 rfl rfl sv_RX12_161 ⟨by decide, by decide⟩ rfl rfl (Nat.le_of_ble_eq_true rfl) rfl dX12_layWay_11 jrv_v (c_X12_layFars  hm6) rfl ?_
  refine j_aload_n X 0 dX12_layWay_14 rfl rfl ?_
  refine j_iconst (v := 0) X dX12_layWay_15 (by decide) ?_
  refine j_put X fp_RX12_164 ln_89 ly_89 rfl rfl rfl dX12_layWay_16 h (fun σ7 h => ?_)
  refine j_aload_n X 0 dX12_layWay_19 rfl rfl ?_
  refine j_ldc (v := -1000000) X tw_988 dX12_layWay_20 ?_
  refine j_put X fp_RX12_167 ln_89 ly_89 rfl rfl rfl dX12_layWay_22 h (fun σ8 h => ?_)
  refine j_aload_n X 0 dX12_layWay_25 rfl rfl ?_
  refine j_aload_n X 0 dX12_layWay_26 rfl rfl ?_
  refine j_getR (t := 98) X fg_RX12_34 ln_89 ly_89 rfl dX12_layWay_27 ?_
  refine j_iload_n X 2 dX12_layWay_30 rfl rfl ?_
  refine j_iaload X ln_98 ly_98 dX12_layWay_31 h (fun v9 h => ?_)
  refine j_put X fp_RX12_170 ln_89 ly_89 rfl rfl rfl dX12_layWay_32 h (fun σ10 h => ?_)
  refine j_iload_n X 2 dX12_layWay_35 rfl rfl ?_
  refine j_istore (ls' := [some (.ref 89), some (.int a0), some (.int a1), some (.int v4), some (.int a1), none, none, none, none, none]) X dX12_layWay_36 (Nat.le_of_ble_eq_true rfl) rfl ?_
  obtain ⟨q43, σ44, hL45, h⟩ := jbd_some h
  refine j_sub (ls' := [some (.ref 89), none, none, some (.int v4), some (.int a1), none, none, none, none, none]) ⟨Or.inr rfl, Or.inl rfl, Or.inl rfl, Or.inr rfl, Or.inr rfl, Or.inl rfl, Or.inl rfl, Or.inl rfl, Or.inl rfl, Or.inl rfl, trivial⟩ ?_
  refine X12_layWay_L38_ok X  jFU a1 σ10 _ hL45 ?_
  obtain rfl := Option.some.inj h
  exact j_vret X R0 dX12_layWay_237
theorem sv_RX12_176 : jSiV RX12 176 yX12_layWay cX12_layWay 10 none 2 := ⟨tw_1049, tw_1051, ts_35, tw_13, tw_1052, by decide, by decide, by decide +kernel⟩
def f_X12_isBurial (a0 : Int32) (a1 : Int32) (σ : jMem) : Option (Int32 × jMem) :=
  jbv (f_X12_layWay a0 a1 σ) (fun σ1 =>
  jld σ1 93 67 (1 : Int32) (fun v3 =>
  if a1 = v3 then
  some (((0 : Int32), σ1))
else
  if (σ1.1 89 22) = (-1000000 : Int32) then
  some (((0 : Int32), σ1))
else
  some (((1 : Int32), σ1))))
set_option maxRecDepth 100000 in
set_option maxHeartbeats 4000000 in
theorem c_X12_isBurial {l : Launch} {D : va_G} {ad : Nat → Nat} {cid : Nat → ClassId} {a0 : Int32} {a1 : Int32}  {σ : jMem} {r : Int32} {σ' : jMem} (h : f_X12_isBurial a0 a1 σ = some (r, σ')) : jMet l D ad cid yX12_isBurial cX12_isBurial 3 (some .boolean) 3 77 [.ref 89, .int a0, .int a1] σ (some (.int r)) σ' := by
  refine jMet_of (ls0 := [some (.ref 89), some (.int a0), some (.int a1)]) (by decide) (Nat.le_of_ble_eq_true rfl) rfl (fun K X R0 _ => ?_)
  unfold f_X12_isBurial at h
  refine j_aload_n X 0 dX12_isBurial_0 rfl rfl ?_
  refine j_iload_n X 1 dX12_isBurial_1 rfl rfl ?_
  refine j_iload_n X 2 dX12_isBurial_2 rfl rfl ?_
  obtain ⟨σ1, hm2, h⟩ := jbv_some h
  refine j_callV (as := [.int a0, .int a1]) (st := []) (st1 := []) X ln_89 ly_89 rfl rfl sv_RX12_176 ⟨by decide, by decide⟩ rfl rfl (Nat.le_of_ble_eq_true rfl) rfl dX12_isBurial_3 jrv_v (c_X12_layWay  hm2) rfl ?_
  refine j_iload_n X 2 dX12_isBurial_6 rfl rfl ?_
  refine j_aload_n X 0 dX12_isBurial_7 rfl rfl ?_
  refine j_getR (t := 93) X fg_RX12_19 ln_89 ly_89 rfl dX12_isBurial_8 ?_
  refine j_iconst (v := 1) X dX12_isBurial_11 (by decide) ?_
  refine j_iaload X ln_93 ly_93 dX12_isBurial_12 h (fun v3 h => ?_)
  refine j_icmp_eq (tgt := 29) X dX12_isBurial_13 (by decide) h (fun h => ?_) (fun h => ?_)
  · refine j_iconst (v := 0) X dX12_isBurial_29 (by decide) ?_
    obtain ⟨rfl, rfl⟩ := jin2 h
    exact j_zret X R0 rfl dX12_isBurial_30
  · refine j_aload_n X 0 dX12_isBurial_16 rfl rfl ?_
    refine j_getI X fg_RX12_170 ln_89 ly_89 rfl dX12_isBurial_17 ?_
    refine j_ldc (v := -1000000) X tw_988 dX12_isBurial_20 ?_
    refine j_icmp_eq (tgt := 29) X dX12_isBurial_22 (by decide) h (fun h => ?_) (fun h => ?_)
    · refine j_iconst (v := 0) X dX12_isBurial_29 (by decide) ?_
      obtain ⟨rfl, rfl⟩ := jin2 h
      exact j_zret X R0 rfl dX12_isBurial_30
    · refine j_iconst (v := 1) X dX12_isBurial_25 (by decide) ?_
      refine j_goto (tgt := 30) X dX12_isBurial_26 (by decide) ?_
      obtain ⟨rfl, rfl⟩ := jin2 h
      exact j_zret X R0 rfl dX12_isBurial_30
