theorem ss_RX12_153 : jSiS RX12 153 yX12_has cX12_has 2 (some .boolean) 2 := ⟨tw_1061, tw_1062, tw_13, tw_1063, by decide, by decide, by decide +kernel⟩
def X12_layFars_L2_b (p1 : Int32) (rec : Int32 → jMem → Option ((Unit) × jMem)) (x2 : Int32) (σ : jMem) : Option ((Unit) × jMem) :=
  if (8 : Int32) ≤ x2 then
  some ((), σ)
else
  jld σ 93 67 (1 : Int32) (fun v1 =>
  jj (fun (q3 : Int32) σ4 =>
  jst σ4 98 8 x2 q3 (fun σ5 =>
  rec (x2 + 1) σ5)) (fun k2 =>
  if ¬ x2 = v1 then
  k2 (-1000000 : Int32) σ
else
  k2 (0 : Int32) σ))
def X12_layFars_L2 (p1 : Int32) : Nat → Int32 → jMem → Option ((Unit) × jMem) := jloop (fun rec s σ => X12_layFars_L2_b p1 rec s σ)
set_option maxRecDepth 100000 in
set_option maxHeartbeats 4000000 in
theorem X12_layFars_L2_bok {K : jK} (X : JX K cX12_layFars 8 RX12 1 21) {p1 : Int32}  {rec : Int32 → jMem → Option ((Unit) × jMem)} (ih : ∀ (s : Int32) (σ : jMem) (o : (Unit) × jMem), rec s σ = some o → (J K 36 [some (.ref 89), some (.int p1), none, none, none, none, none, none] [] o.2) → J K 2 [some (.ref 89), some (.int p1), some (.int s), none, none, none, none, none] [] σ) : ∀ (x2 : Int32) (σ : jMem) (o : (Unit) × jMem), X12_layFars_L2_b p1 rec x2 σ = some o → (J K 36 [some (.ref 89), some (.int p1), none, none, none, none, none, none] [] o.2) → J K 2 [some (.ref 89), some (.int p1), some (.int x2), none, none, none, none, none] [] σ := by
  intro x2 σ o h kk
  unfold X12_layFars_L2_b at h
  refine j_iload_n X 2 dX12_layFars_2 rfl rfl ?_
  refine j_bipush (v := 8) X dX12_layFars_3 (by decide) ?_
  refine j_icmp_ge (tgt := 36) X dX12_layFars_5 (by decide) h (fun h => ?_) (fun h => ?_)
  · obtain rfl := Option.some.inj h
    exact j_sub (ls' := [some (.ref 89), some (.int p1), none, none, none, none, none, none]) ⟨Or.inr rfl, Or.inr rfl, Or.inl rfl, Or.inl rfl, Or.inl rfl, Or.inl rfl, Or.inl rfl, Or.inl rfl, trivial⟩ kk
  · refine j_aload_n X 0 dX12_layFars_8 rfl rfl ?_
    refine j_getR (t := 98) X fg_RX12_34 ln_89 ly_89 rfl dX12_layFars_9 ?_
    refine j_iload_n X 2 dX12_layFars_12 rfl rfl ?_
    refine j_iload_n X 2 dX12_layFars_13 rfl rfl ?_
    refine j_aload_n X 0 dX12_layFars_14 rfl rfl ?_
    refine j_getR (t := 93) X fg_RX12_19 ln_89 ly_89 rfl dX12_layFars_15 ?_
    refine j_iconst (v := 1) X dX12_layFars_18 (by decide) ?_
    refine j_iaload X ln_93 ly_93 dX12_layFars_19 h (fun v1 h => ?_)
    refine j_join (pcJ := 29) (lsJ := fun q3 => [some (.ref 89), some (.int p1), some (.int x2), none, none, none, none, none]) (stJ := fun q3 => [.int q3, .int x2, .ref 98]) h (fun q3 σ4 h => ?_) (fun k2 hk2 h => ?_)
    · refine j_iastore X ln_98 ly_98 dX12_layFars_29 h (fun σ5 h => ?_)
      refine j_iinc (v := (x2 + 1)) (ls' := [some (.ref 89), some (.int p1), some (.int (x2 + 1)), none, none, none, none, none]) X dX12_layFars_30 rfl rfl (Nat.le_of_ble_eq_true rfl) rfl ?_
      refine j_goto (tgt := 2) X dX12_layFars_33 (by decide) ?_
      exact ih (x2 + 1) σ5 _ h kk
    · refine j_icmp_ne (tgt := 27) X dX12_layFars_20 (by decide) h (fun h => ?_) (fun h => ?_)
      · refine j_ldc (v := -1000000) X tw_988 dX12_layFars_27 ?_
        exact hk2 (-1000000 : Int32) σ h
      · refine j_iconst (v := 0) X dX12_layFars_23 (by decide) ?_
        refine j_goto (tgt := 29) X dX12_layFars_24 (by decide) ?_
        exact hk2 (0 : Int32) σ h
theorem X12_layFars_L2_ok {K : jK} (X : JX K cX12_layFars 8 RX12 1 21) {p1 : Int32}  : ∀ (n : Nat) (s : Int32) (σ : jMem) (o : (Unit) × jMem), X12_layFars_L2 p1 n s σ = some o → (J K 36 [some (.ref 89), some (.int p1), none, none, none, none, none, none] [] o.2) → J K 2 [some (.ref 89), some (.int p1), some (.int s), none, none, none, none, none] [] σ := by
  intro n
  induction n with
  | zero => intro s σ o h; cases h
  | succ n ih => intro s σ o h; exact X12_layFars_L2_bok X  ih (s) σ o h
def X12_layFars_L46_b (p1 : Int32) (p2 : Int32) (rec : Int32 → jMem → Option ((Unit) × jMem)) (x3 : Int32) (σ : jMem) : Option ((Unit) × jMem) :=
  jld σ 93 67 (3 : Int32) (fun v8 =>
  if v8 ≤ x3 then
  some ((), σ)
else
  jlet (((7 : Int32) + ((3 : Int32) * x3))) (fun v9 =>
  jld σ 93 67 v9 (fun v10 =>
  jld σ 93 67 (v9 + (1 : Int32)) (fun v11 =>
  jld σ 93 67 (v9 + (2 : Int32)) (fun v12 =>
  jbd (f_X12_has p1 x3 σ) (fun v13 σ14 =>
  if v13 = 0 then
  rec (x3 + 1) σ14
else
  jld σ14 98 8 v11 (fun v16 =>
  jj (fun (q18 : Int32) σ19 =>
  jst σ19 98 8 v10 q18 (fun σ20 =>
  jld σ20 98 8 v10 (fun v21 =>
  jj (fun (q23 : Int32) σ24 =>
  jst σ24 98 8 v11 q23 (fun σ25 =>
  rec (x3 + 1) σ25)) (fun k22 =>
  jj (fun (q27 : Unit) σ28 =>
  jld σ28 98 8 v11 (fun v29 =>
  k22 v29 σ28)) (fun k26 =>
  if v21 = (-1000000 : Int32) then
  k26 () σ20
else
  jld σ20 98 8 v11 (fun v30 =>
  jj (fun (q32 : Unit) σ33 =>
  jld σ33 98 8 v10 (fun v34 =>
  k22 (v34 + v12) σ33)) (fun k31 =>
  if v30 = (-1000000 : Int32) then
  k31 () σ20
else
  jld σ20 98 8 v10 (fun v35 =>
  jld σ20 98 8 v11 (fun v36 =>
  if v36 ≤ (v35 + v12) then
  k26 () σ20
else
  k31 () σ20))))))))) (fun k17 =>
  jj (fun (q38 : Unit) σ39 =>
  jld σ39 98 8 v10 (fun v40 =>
  k17 v40 σ39)) (fun k37 =>
  if v16 = (-1000000 : Int32) then
  k37 () σ14
else
  jld σ14 98 8 v10 (fun v41 =>
  jj (fun (q43 : Unit) σ44 =>
  jld σ44 98 8 v11 (fun v45 =>
  k17 (v45 + v12) σ44)) (fun k42 =>
  if v41 = (-1000000 : Int32) then
  k42 () σ14
else
  jld σ14 98 8 v11 (fun v46 =>
  jld σ14 98 8 v10 (fun v47 =>
  if v47 ≤ (v46 + v12) then
  k37 () σ14
else
  k42 () σ14)))))))))))))
def X12_layFars_L46 (p1 : Int32) (p2 : Int32) : Nat → Int32 → jMem → Option ((Unit) × jMem) := jloop (fun rec s σ => X12_layFars_L46_b p1 p2 rec s σ)
set_option maxRecDepth 100000 in
set_option maxHeartbeats 4000000 in
theorem X12_layFars_L46_bok {K : jK} (X : JX K cX12_layFars 8 RX12 1 21) {p1 : Int32} {p2 : Int32}  {rec : Int32 → jMem → Option ((Unit) × jMem)} (ih : ∀ (s : Int32) (σ : jMem) (o : (Unit) × jMem), rec s σ = some o → (J K 251 [some (.ref 89), some (.int p1), some (.int p2), none, none, none, none, none] [] o.2) → J K 46 [some (.ref 89), some (.int p1), some (.int p2), some (.int s), none, none, none, none] [] σ) : ∀ (x3 : Int32) (σ : jMem) (o : (Unit) × jMem), X12_layFars_L46_b p1 p2 rec x3 σ = some o → (J K 251 [some (.ref 89), some (.int p1), some (.int p2), none, none, none, none, none] [] o.2) → J K 46 [some (.ref 89), some (.int p1), some (.int p2), some (.int x3), none, none, none, none] [] σ := by
  intro x3 σ o h kk
  unfold X12_layFars_L46_b at h
  refine j_iload_n X 3 dX12_layFars_46 rfl rfl ?_
  refine j_aload_n X 0 dX12_layFars_47 rfl rfl ?_
  refine j_getR (t := 93) X fg_RX12_19 ln_89 ly_89 rfl dX12_layFars_48 ?_
  refine j_iconst (v := 3) X dX12_layFars_51 (by decide) ?_
  refine j_iaload X ln_93 ly_93 dX12_layFars_52 h (fun v8 h => ?_)
  refine j_icmp_ge (tgt := 251) X dX12_layFars_53 (by decide) h (fun h => ?_) (fun h => ?_)
  · obtain rfl := Option.some.inj h
    exact j_sub (ls' := [some (.ref 89), some (.int p1), some (.int p2), none, none, none, none, none]) ⟨Or.inr rfl, Or.inr rfl, Or.inr rfl, Or.inl rfl, Or.inl rfl, Or.inl rfl, Or.inl rfl, Or.inl rfl, trivial⟩ kk
  · refine j_bipush (v := 7) X dX12_layFars_56 (by decide) ?_
    refine j_iconst (v := 3) X dX12_layFars_58 (by decide) ?_
    refine j_iload_n X 3 dX12_layFars_59 rfl rfl ?_
    refine j_imul X dX12_layFars_60 ?_
    refine j_iadd X dX12_layFars_61 ?_
    refine j_letI h (fun v9 h => ?_)
    refine j_istore (ls' := [some (.ref 89), some (.int p1), some (.int p2), some (.int x3), some (.int v9), none, none, none]) X dX12_layFars_62 (Nat.le_of_ble_eq_true rfl) rfl ?_
    refine j_aload_n X 0 dX12_layFars_64 rfl rfl ?_
    refine j_getR (t := 93) X fg_RX12_19 ln_89 ly_89 rfl dX12_layFars_65 ?_
    refine j_iload X dX12_layFars_68 rfl ?_
    refine j_iaload X ln_93 ly_93 dX12_layFars_70 h (fun v10 h => ?_)
    refine j_istore (ls' := [some (.ref 89), some (.int p1), some (.int p2), some (.int x3), some (.int v9), some (.int v10), none, none]) X dX12_layFars_71 (Nat.le_of_ble_eq_true rfl) rfl ?_
    refine j_aload_n X 0 dX12_layFars_73 rfl rfl ?_
    refine j_getR (t := 93) X fg_RX12_19 ln_89 ly_89 rfl dX12_layFars_74 ?_
    refine j_iload X dX12_layFars_77 rfl ?_
    refine j_iconst (v := 1) X dX12_layFars_79 (by decide) ?_
    refine j_iadd X dX12_layFars_80 ?_
    refine j_iaload X ln_93 ly_93 dX12_layFars_81 h (fun v11 h => ?_)
    refine j_istore (ls' := [some (.ref 89), some (.int p1), some (.int p2), some (.int x3), some (.int v9), some (.int v10), some (.int v11), none]) X dX12_layFars_82 (Nat.le_of_ble_eq_true rfl) rfl ?_
    refine j_aload_n X 0 dX12_layFars_84 rfl rfl ?_
    refine j_getR (t := 93) X fg_RX12_19 ln_89 ly_89 rfl dX12_layFars_85 ?_
    refine j_iload X dX12_layFars_88 rfl ?_
    refine j_iconst (v := 2) X dX12_layFars_90 (by decide) ?_
    refine j_iadd X dX12_layFars_91 ?_
    refine j_iaload X ln_93 ly_93 dX12_layFars_92 h (fun v12 h => ?_)
    refine j_istore (ls' := [some (.ref 89), some (.int p1), some (.int p2), some (.int x3), some (.int v9), some (.int v10), some (.int v11), some (.int v12)]) X dX12_layFars_93 (Nat.le_of_ble_eq_true rfl) rfl ?_
    refine j_iload_n X 1 dX12_layFars_95 rfl rfl ?_
    refine j_iload_n X 3 dX12_layFars_96 rfl rfl ?_
    obtain ⟨v13, σ14, hm15, h⟩ := jbd_some h
    refine j_callS (as := [.int p1, .int x3]) (st := []) (st1 := [.int v13]) X ss_RX12_153 ⟨by decide, by decide⟩ rfl rfl (Nat.le_of_ble_eq_true rfl) rfl dX12_layFars_97 jrv_i (c_X12_has  hm15) rfl ?_
    refine j_if_eq (tgt := 245) X dX12_layFars_100 (by decide) h (fun h => ?_) (fun h => ?_)
    · refine j_iinc (v := (x3 + 1)) (ls' := [some (.ref 89), some (.int p1), some (.int p2), some (.int (x3 + 1)), some (.int v9), some (.int v10), some (.int v11), some (.int v12)]) X dX12_layFars_245 rfl rfl (Nat.le_of_ble_eq_true rfl) rfl ?_
      refine j_goto (tgt := 46) X dX12_layFars_248 (by decide) ?_
      exact j_sub (ls' := [some (.ref 89), some (.int p1), some (.int p2), some (.int (x3 + 1)), none, none, none, none]) ⟨Or.inr rfl, Or.inr rfl, Or.inr rfl, Or.inr rfl, Or.inl rfl, Or.inl rfl, Or.inl rfl, Or.inl rfl, trivial⟩ (ih (x3 + 1) σ14 _ h kk)
    · refine j_aload_n X 0 dX12_layFars_103 rfl rfl ?_
      refine j_getR (t := 98) X fg_RX12_34 ln_89 ly_89 rfl dX12_layFars_104 ?_
      refine j_iload X dX12_layFars_107 rfl ?_
      refine j_aload_n X 0 dX12_layFars_109 rfl rfl ?_
      refine j_getR (t := 98) X fg_RX12_34 ln_89 ly_89 rfl dX12_layFars_110 ?_
      refine j_iload X dX12_layFars_113 rfl ?_
      refine j_iaload X ln_98 ly_98 dX12_layFars_115 h (fun v16 h => ?_)
      refine j_ldc (v := -1000000) X tw_988 dX12_layFars_116 ?_
      refine j_join (pcJ := 173) (lsJ := fun q18 => [some (.ref 89), some (.int p1), some (.int p2), some (.int x3), none, some (.int v10), some (.int v11), some (.int v12)]) (stJ := fun q18 => [.int q18, .int v10, .ref 98]) h (fun q18 σ19 h => ?_) (fun k17 hk17 h => ?_)
      · refine j_iastore X ln_98 ly_98 dX12_layFars_173 h (fun σ20 h => ?_)
        refine j_aload_n X 0 dX12_layFars_174 rfl rfl ?_
        refine j_getR (t := 98) X fg_RX12_34 ln_89 ly_89 rfl dX12_layFars_175 ?_
        refine j_iload X dX12_layFars_178 rfl ?_
        refine j_aload_n X 0 dX12_layFars_180 rfl rfl ?_
        refine j_getR (t := 98) X fg_RX12_34 ln_89 ly_89 rfl dX12_layFars_181 ?_
        refine j_iload X dX12_layFars_184 rfl ?_
        refine j_iaload X ln_98 ly_98 dX12_layFars_186 h (fun v21 h => ?_)
        refine j_ldc (v := -1000000) X tw_988 dX12_layFars_187 ?_
        refine j_join (pcJ := 244) (lsJ := fun q23 => [some (.ref 89), some (.int p1), some (.int p2), some (.int x3), none, none, none, none]) (stJ := fun q23 => [.int q23, .int v11, .ref 98]) h (fun q23 σ24 h => ?_) (fun k22 hk22 h => ?_)
        · refine j_iastore X ln_98 ly_98 dX12_layFars_244 h (fun σ25 h => ?_)
          refine j_iinc (v := (x3 + 1)) (ls' := [some (.ref 89), some (.int p1), some (.int p2), some (.int (x3 + 1)), none, none, none, none]) X dX12_layFars_245 rfl rfl (Nat.le_of_ble_eq_true rfl) rfl ?_
          refine j_goto (tgt := 46) X dX12_layFars_248 (by decide) ?_
          exact ih (x3 + 1) σ25 _ h kk
        · refine j_join (pcJ := 237) (lsJ := fun q27 => [some (.ref 89), some (.int p1), some (.int p2), some (.int x3), none, none, some (.int v11), none]) (stJ := fun q27 => [.int v11, .ref 98]) h (fun q27 σ28 h => ?_) (fun k26 hk26 h => ?_)
          · refine j_aload_n X 0 dX12_layFars_237 rfl rfl ?_
            refine j_getR (t := 98) X fg_RX12_34 ln_89 ly_89 rfl dX12_layFars_238 ?_
            refine j_iload X dX12_layFars_241 rfl ?_
            refine j_iaload X ln_98 ly_98 dX12_layFars_243 h (fun v29 h => ?_)
            exact j_sub (ls' := [some (.ref 89), some (.int p1), some (.int p2), some (.int x3), none, none, none, none]) ⟨Or.inr rfl, Or.inr rfl, Or.inr rfl, Or.inr rfl, Or.inl rfl, Or.inl rfl, Or.inl rfl, Or.inl rfl, trivial⟩ (hk22 v29 σ28 h)
          · refine j_icmp_eq (tgt := 237) X dX12_layFars_189 (by decide) h (fun h => ?_) (fun h => ?_)
            · exact j_sub (ls' := [some (.ref 89), some (.int p1), some (.int p2), some (.int x3), none, none, some (.int v11), none]) ⟨Or.inr rfl, Or.inr rfl, Or.inr rfl, Or.inr rfl, Or.inl rfl, Or.inl rfl, Or.inr rfl, Or.inl rfl, trivial⟩ (hk26 () σ20 h)
            · refine j_aload_n X 0 dX12_layFars_192 rfl rfl ?_
              refine j_getR (t := 98) X fg_RX12_34 ln_89 ly_89 rfl dX12_layFars_193 ?_
              refine j_iload X dX12_layFars_196 rfl ?_
              refine j_iaload X ln_98 ly_98 dX12_layFars_198 h (fun v30 h => ?_)
              refine j_ldc (v := -1000000) X tw_988 dX12_layFars_199 ?_
              refine j_join (pcJ := 224) (lsJ := fun q32 => [some (.ref 89), some (.int p1), some (.int p2), some (.int x3), none, some (.int v10), none, some (.int v12)]) (stJ := fun q32 => [.int v11, .ref 98]) h (fun q32 σ33 h => ?_) (fun k31 hk31 h => ?_)
              · refine j_aload_n X 0 dX12_layFars_224 rfl rfl ?_
                refine j_getR (t := 98) X fg_RX12_34 ln_89 ly_89 rfl dX12_layFars_225 ?_
                refine j_iload X dX12_layFars_228 rfl ?_
                refine j_iaload X ln_98 ly_98 dX12_layFars_230 h (fun v34 h => ?_)
                refine j_iload X dX12_layFars_231 rfl ?_
                refine j_iadd X dX12_layFars_233 ?_
                refine j_goto (tgt := 244) X dX12_layFars_234 (by decide) ?_
                exact j_sub (ls' := [some (.ref 89), some (.int p1), some (.int p2), some (.int x3), none, none, none, none]) ⟨Or.inr rfl, Or.inr rfl, Or.inr rfl, Or.inr rfl, Or.inl rfl, Or.inl rfl, Or.inl rfl, Or.inl rfl, trivial⟩ (hk22 (v34 + v12) σ33 h)
              · refine j_icmp_eq (tgt := 224) X dX12_layFars_201 (by decide) h (fun h => ?_) (fun h => ?_)
                · exact j_sub (ls' := [some (.ref 89), some (.int p1), some (.int p2), some (.int x3), none, some (.int v10), none, some (.int v12)]) ⟨Or.inr rfl, Or.inr rfl, Or.inr rfl, Or.inr rfl, Or.inl rfl, Or.inr rfl, Or.inl rfl, Or.inr rfl, trivial⟩ (hk31 () σ20 h)
                · refine j_aload_n X 0 dX12_layFars_204 rfl rfl ?_
                  refine j_getR (t := 98) X fg_RX12_34 ln_89 ly_89 rfl dX12_layFars_205 ?_
                  refine j_iload X dX12_layFars_208 rfl ?_
                  refine j_iaload X ln_98 ly_98 dX12_layFars_210 h (fun v35 h => ?_)
                  refine j_iload X dX12_layFars_211 rfl ?_
                  refine j_iadd X dX12_layFars_213 ?_
                  refine j_aload_n X 0 dX12_layFars_214 rfl rfl ?_
                  refine j_getR (t := 98) X fg_RX12_34 ln_89 ly_89 rfl dX12_layFars_215 ?_
                  refine j_iload X dX12_layFars_218 rfl ?_
                  refine j_iaload X ln_98 ly_98 dX12_layFars_220 h (fun v36 h => ?_)
                  refine j_icmp_ge (tgt := 237) X dX12_layFars_221 (by decide) h (fun h => ?_) (fun h => ?_)
                  · exact j_sub (ls' := [some (.ref 89), some (.int p1), some (.int p2), some (.int x3), none, none, some (.int v11), none]) ⟨Or.inr rfl, Or.inr rfl, Or.inr rfl, Or.inr rfl, Or.inl rfl, Or.inl rfl, Or.inr rfl, Or.inl rfl, trivial⟩ (hk26 () σ20 h)
                  · exact j_sub (ls' := [some (.ref 89), some (.int p1), some (.int p2), some (.int x3), none, some (.int v10), none, some (.int v12)]) ⟨Or.inr rfl, Or.inr rfl, Or.inr rfl, Or.inr rfl, Or.inl rfl, Or.inr rfl, Or.inl rfl, Or.inr rfl, trivial⟩ (hk31 () σ20 h)
      · refine j_join (pcJ := 166) (lsJ := fun q38 => [some (.ref 89), some (.int p1), some (.int p2), some (.int x3), none, some (.int v10), some (.int v11), some (.int v12)]) (stJ := fun q38 => [.int v10, .ref 98]) h (fun q38 σ39 h => ?_) (fun k37 hk37 h => ?_)
        · refine j_aload_n X 0 dX12_layFars_166 rfl rfl ?_
          refine j_getR (t := 98) X fg_RX12_34 ln_89 ly_89 rfl dX12_layFars_167 ?_
          refine j_iload X dX12_layFars_170 rfl ?_
          refine j_iaload X ln_98 ly_98 dX12_layFars_172 h (fun v40 h => ?_)
          exact hk17 v40 σ39 h
        · refine j_icmp_eq (tgt := 166) X dX12_layFars_118 (by decide) h (fun h => ?_) (fun h => ?_)
          · exact j_sub (ls' := [some (.ref 89), some (.int p1), some (.int p2), some (.int x3), none, some (.int v10), some (.int v11), some (.int v12)]) ⟨Or.inr rfl, Or.inr rfl, Or.inr rfl, Or.inr rfl, Or.inl rfl, Or.inr rfl, Or.inr rfl, Or.inr rfl, trivial⟩ (hk37 () σ14 h)
          · refine j_aload_n X 0 dX12_layFars_121 rfl rfl ?_
            refine j_getR (t := 98) X fg_RX12_34 ln_89 ly_89 rfl dX12_layFars_122 ?_
            refine j_iload X dX12_layFars_125 rfl ?_
            refine j_iaload X ln_98 ly_98 dX12_layFars_127 h (fun v41 h => ?_)
            refine j_ldc (v := -1000000) X tw_988 dX12_layFars_128 ?_
            refine j_join (pcJ := 153) (lsJ := fun q43 => [some (.ref 89), some (.int p1), some (.int p2), some (.int x3), none, some (.int v10), some (.int v11), some (.int v12)]) (stJ := fun q43 => [.int v10, .ref 98]) h (fun q43 σ44 h => ?_) (fun k42 hk42 h => ?_)
            · refine j_aload_n X 0 dX12_layFars_153 rfl rfl ?_
              refine j_getR (t := 98) X fg_RX12_34 ln_89 ly_89 rfl dX12_layFars_154 ?_
              refine j_iload X dX12_layFars_157 rfl ?_
              refine j_iaload X ln_98 ly_98 dX12_layFars_159 h (fun v45 h => ?_)
              refine j_iload X dX12_layFars_160 rfl ?_
              refine j_iadd X dX12_layFars_162 ?_
              refine j_goto (tgt := 173) X dX12_layFars_163 (by decide) ?_
              exact hk17 (v45 + v12) σ44 h
            · refine j_icmp_eq (tgt := 153) X dX12_layFars_130 (by decide) h (fun h => ?_) (fun h => ?_)
              · exact j_sub (ls' := [some (.ref 89), some (.int p1), some (.int p2), some (.int x3), none, some (.int v10), some (.int v11), some (.int v12)]) ⟨Or.inr rfl, Or.inr rfl, Or.inr rfl, Or.inr rfl, Or.inl rfl, Or.inr rfl, Or.inr rfl, Or.inr rfl, trivial⟩ (hk42 () σ14 h)
              · refine j_aload_n X 0 dX12_layFars_133 rfl rfl ?_
                refine j_getR (t := 98) X fg_RX12_34 ln_89 ly_89 rfl dX12_layFars_134 ?_
                refine j_iload X dX12_layFars_137 rfl ?_
                refine j_iaload X ln_98 ly_98 dX12_layFars_139 h (fun v46 h => ?_)
                refine j_iload X dX12_layFars_140 rfl ?_
                refine j_iadd X dX12_layFars_142 ?_
                refine j_aload_n X 0 dX12_layFars_143 rfl rfl ?_
                refine j_getR (t := 98) X fg_RX12_34 ln_89 ly_89 rfl dX12_layFars_144 ?_
                refine j_iload X dX12_layFars_147 rfl ?_
                refine j_iaload X ln_98 ly_98 dX12_layFars_149 h (fun v47 h => ?_)
                refine j_icmp_ge (tgt := 166) X dX12_layFars_150 (by decide) h (fun h => ?_) (fun h => ?_)
                · exact j_sub (ls' := [some (.ref 89), some (.int p1), some (.int p2), some (.int x3), none, some (.int v10), some (.int v11), some (.int v12)]) ⟨Or.inr rfl, Or.inr rfl, Or.inr rfl, Or.inr rfl, Or.inl rfl, Or.inr rfl, Or.inr rfl, Or.inr rfl, trivial⟩ (hk37 () σ14 h)
                · exact j_sub (ls' := [some (.ref 89), some (.int p1), some (.int p2), some (.int x3), none, some (.int v10), some (.int v11), some (.int v12)]) ⟨Or.inr rfl, Or.inr rfl, Or.inr rfl, Or.inr rfl, Or.inl rfl, Or.inr rfl, Or.inr rfl, Or.inr rfl, trivial⟩ (hk42 () σ14 h)
theorem X12_layFars_L46_ok {K : jK} (X : JX K cX12_layFars 8 RX12 1 21) {p1 : Int32} {p2 : Int32}  : ∀ (n : Nat) (s : Int32) (σ : jMem) (o : (Unit) × jMem), X12_layFars_L46 p1 p2 n s σ = some o → (J K 251 [some (.ref 89), some (.int p1), some (.int p2), none, none, none, none, none] [] o.2) → J K 46 [some (.ref 89), some (.int p1), some (.int p2), some (.int s), none, none, none, none] [] σ := by
  intro n
  induction n with
  | zero => intro s σ o h; cases h
  | succ n ih => intro s σ o h; exact X12_layFars_L46_bok X  ih (s) σ o h
def X12_layFars_L38_b (p1 : Int32) (rec : Int32 → jMem → Option ((Unit) × jMem)) (x2 : Int32) (σ : jMem) : Option ((Unit) × jMem) :=
  if (8 : Int32) ≤ x2 then
  some ((), σ)
else
  jbd (X12_layFars_L46 (p1) (x2) jFU (0 : Int32) σ) (fun q48 σ49 =>
  rec (x2 + 1) σ49)
def X12_layFars_L38 (p1 : Int32) : Nat → Int32 → jMem → Option ((Unit) × jMem) := jloop (fun rec s σ => X12_layFars_L38_b p1 rec s σ)
set_option maxRecDepth 100000 in
set_option maxHeartbeats 4000000 in
theorem X12_layFars_L38_bok {K : jK} (X : JX K cX12_layFars 8 RX12 1 21) {p1 : Int32}  {rec : Int32 → jMem → Option ((Unit) × jMem)} (ih : ∀ (s : Int32) (σ : jMem) (o : (Unit) × jMem), rec s σ = some o → (J K 257 [none, none, none, none, none, none, none, none] [] o.2) → J K 38 [some (.ref 89), some (.int p1), some (.int s), none, none, none, none, none] [] σ) : ∀ (x2 : Int32) (σ : jMem) (o : (Unit) × jMem), X12_layFars_L38_b p1 rec x2 σ = some o → (J K 257 [none, none, none, none, none, none, none, none] [] o.2) → J K 38 [some (.ref 89), some (.int p1), some (.int x2), none, none, none, none, none] [] σ := by
  intro x2 σ o h kk
  unfold X12_layFars_L38_b at h
  refine j_iload_n X 2 dX12_layFars_38 rfl rfl ?_
  refine j_bipush (v := 8) X dX12_layFars_39 (by decide) ?_
  refine j_icmp_ge (tgt := 257) X dX12_layFars_41 (by decide) h (fun h => ?_) (fun h => ?_)
  · obtain rfl := Option.some.inj h
    exact j_sub (ls' := [none, none, none, none, none, none, none, none]) ⟨Or.inl rfl, Or.inl rfl, Or.inl rfl, Or.inl rfl, Or.inl rfl, Or.inl rfl, Or.inl rfl, Or.inl rfl, trivial⟩ kk
  · refine j_iconst (v := 0) X dX12_layFars_44 (by decide) ?_
    refine j_istore_n (ls' := [some (.ref 89), some (.int p1), some (.int x2), some (.int (0 : Int32)), none, none, none, none]) X 3 dX12_layFars_45 rfl (Nat.le_of_ble_eq_true rfl) rfl ?_
    obtain ⟨q48, σ49, hL50, h⟩ := jbd_some h
    refine X12_layFars_L46_ok X  jFU (0 : Int32) σ _ hL50 ?_
    refine j_iinc (v := (x2 + 1)) (ls' := [some (.ref 89), some (.int p1), some (.int (x2 + 1)), none, none, none, none, none]) X dX12_layFars_251 rfl rfl (Nat.le_of_ble_eq_true rfl) rfl ?_
    refine j_goto (tgt := 38) X dX12_layFars_254 (by decide) ?_
    exact ih (x2 + 1) σ49 _ h kk
theorem X12_layFars_L38_ok {K : jK} (X : JX K cX12_layFars 8 RX12 1 21) {p1 : Int32}  : ∀ (n : Nat) (s : Int32) (σ : jMem) (o : (Unit) × jMem), X12_layFars_L38 p1 n s σ = some o → (J K 257 [none, none, none, none, none, none, none, none] [] o.2) → J K 38 [some (.ref 89), some (.int p1), some (.int s), none, none, none, none, none] [] σ := by
  intro n
  induction n with
  | zero => intro s σ o h; cases h
  | succ n ih => intro s σ o h; exact X12_layFars_L38_bok X  ih (s) σ o h
def f_X12_layFars (a0 : Int32) (σ : jMem) : Option jMem :=
  jbd (X12_layFars_L2 (a0) jFU (0 : Int32) σ) (fun q6 σ7 =>
  jbd (X12_layFars_L38 (a0) jFU (0 : Int32) σ7) (fun q51 σ52 =>
  some σ52))
set_option maxRecDepth 100000 in
set_option maxHeartbeats 4000000 in
theorem c_X12_layFars {l : Launch} {D : va_G} {ad : Nat → Nat} {cid : Nat → ClassId} {a0 : Int32}  {σ : jMem} {σ' : jMem} (h : f_X12_layFars a0 σ = some σ') : jMet l D ad cid yX12_layFars cX12_layFars 8 none 1 21 [.ref 89, .int a0] σ none σ' := by
  refine jMet_of (ls0 := [some (.ref 89), some (.int a0), none, none, none, none, none, none]) (by decide) (Nat.le_of_ble_eq_true rfl) rfl (fun K X R0 _ => ?_)
  unfold f_X12_layFars at h
  refine j_iconst (v := 0) X dX12_layFars_0 (by decide) ?_
  refine j_istore_n (ls' := [some (.ref 89), some (.int a0), some (.int (0 : Int32)), none, none, none, none, none]) X 2 dX12_layFars_1 rfl (Nat.le_of_ble_eq_true rfl) rfl ?_
  obtain ⟨q6, σ7, hL54, h⟩ := jbd_some h
  refine X12_layFars_L2_ok X  jFU (0 : Int32) σ _ hL54 ?_
  refine j_iconst (v := 0) X dX12_layFars_36 (by decide) ?_
  refine j_istore_n (ls' := [some (.ref 89), some (.int a0), some (.int (0 : Int32)), none, none, none, none, none]) X 2 dX12_layFars_37 rfl (Nat.le_of_ble_eq_true rfl) rfl ?_
  obtain ⟨q51, σ52, hL53, h⟩ := jbd_some h
  refine X12_layFars_L38_ok X  jFU (0 : Int32) σ7 _ hL53 ?_
  obtain rfl := Option.some.inj h
  exact j_vret X R0 dX12_layFars_257
