def X12_who_L83_b (p1 : Int32) (p2 : Int32) (p3 : Int32) (p4 : Int32) (rec : Int32 → jMem → Option (((Unit) × jMem) ⊕ (Int32 × jMem))) (x5 : Int32) (σ : jMem) : Option (((Unit) × jMem) ⊕ (Int32 × jMem)) :=
  if p4 ≤ x5 then
  some (.inl ((), σ))
else
  jld σ 92 320 ((((40 : Int32) * p2) + p3) + ((2 : Int32) * x5)) (fun v19 =>
  jbd (f_X12_isField ((v19).toInt64) σ) (fun v20 σ21 =>
  if ¬ v20 = 0 then
  rec (x5 + 1) σ21
else
  some (.inr ((-1000001 : Int32), σ21))))
def X12_who_L83 (p1 : Int32) (p2 : Int32) (p3 : Int32) (p4 : Int32) : Nat → Int32 → jMem → Option (((Unit) × jMem) ⊕ (Int32 × jMem)) := jloop (fun rec s σ => X12_who_L83_b p1 p2 p3 p4 rec s σ)
set_option maxRecDepth 100000 in
set_option maxHeartbeats 4000000 in
theorem X12_who_L83_bok {K : jK} (X : JX K cX12_who 13 RX12 4 99) {p1 : Int32} {p2 : Int32} {p3 : Int32} {p4 : Int32}  {rec : Int32 → jMem → Option (((Unit) × jMem) ⊕ (Int32 × jMem))} (ih : ∀ (s : Int32) (σ : jMem) (o : ((Unit) × jMem) ⊕ (Int32 × jMem)), rec s σ = some o → (∀ q, o = .inl q → J K 122 [some (.ref 89), some (.int p1), some (.int p2), some (.int p3), some (.int p4), none, none, none, none, none, none, none, none] [] q.2) → (∀ q, o = .inr q → JR K (some .int) (some (.int q.1)) q.2) → J K 83 [some (.ref 89), some (.int p1), some (.int p2), some (.int p3), some (.int p4), some (.int s), none, none, none, none, none, none, none] [] σ) : ∀ (x5 : Int32) (σ : jMem) (o : ((Unit) × jMem) ⊕ (Int32 × jMem)), X12_who_L83_b p1 p2 p3 p4 rec x5 σ = some o → (∀ q, o = .inl q → J K 122 [some (.ref 89), some (.int p1), some (.int p2), some (.int p3), some (.int p4), none, none, none, none, none, none, none, none] [] q.2) → (∀ q, o = .inr q → JR K (some .int) (some (.int q.1)) q.2) → J K 83 [some (.ref 89), some (.int p1), some (.int p2), some (.int p3), some (.int p4), some (.int x5), none, none, none, none, none, none, none] [] σ := by
  intro x5 σ o h kk kr
  unfold X12_who_L83_b at h
  refine j_iload X dX12_who_83 rfl ?_
  refine j_iload X dX12_who_85 rfl ?_
  refine j_icmp_ge (tgt := 122) X dX12_who_87 (by decide) h (fun h => ?_) (fun h => ?_)
  · obtain rfl := Option.some.inj h
    exact j_sub (ls' := [some (.ref 89), some (.int p1), some (.int p2), some (.int p3), some (.int p4), none, none, none, none, none, none, none, none]) ⟨Or.inr rfl, Or.inr rfl, Or.inr rfl, Or.inr rfl, Or.inr rfl, Or.inl rfl, Or.inl rfl, Or.inl rfl, Or.inl rfl, Or.inl rfl, Or.inl rfl, Or.inl rfl, Or.inl rfl, trivial⟩ (kk ((), σ) rfl)
  · refine j_aload_n X 0 dX12_who_90 rfl rfl ?_
    refine j_getR (t := 92) X fg_RX12_16 ln_89 ly_89 rfl dX12_who_91 ?_
    refine j_bipush (v := 40) X dX12_who_94 (by decide) ?_
    refine j_iload_n X 2 dX12_who_96 rfl rfl ?_
    refine j_imul X dX12_who_97 ?_
    refine j_iload_n X 3 dX12_who_98 rfl rfl ?_
    refine j_iadd X dX12_who_99 ?_
    refine j_iconst (v := 2) X dX12_who_100 (by decide) ?_
    refine j_iload X dX12_who_101 rfl ?_
    refine j_imul X dX12_who_103 ?_
    refine j_iadd X dX12_who_104 ?_
    refine j_iaload X ln_92 ly_92 dX12_who_105 h (fun v19 h => ?_)
    refine j_i2l X dX12_who_106 ?_
    obtain ⟨v20, σ21, hm22, h⟩ := jbd_some h
    refine j_callS (as := [.long ((v19).toInt64)]) (st := []) (st1 := [.int v20]) X ss_RX12_207 ⟨by decide, by decide⟩ rfl rfl (Nat.le_of_ble_eq_true rfl) rfl dX12_who_107 jrv_i (c_X12_isField  hm22) rfl ?_
    refine j_if_ne (tgt := 116) X dX12_who_110 (by decide) h (fun h => ?_) (fun h => ?_)
    · refine j_iinc (v := (x5 + 1)) (ls' := [some (.ref 89), some (.int p1), some (.int p2), some (.int p3), some (.int p4), some (.int (x5 + 1)), none, none, none, none, none, none, none]) X dX12_who_116 rfl rfl (Nat.le_of_ble_eq_true rfl) rfl ?_
      refine j_goto (tgt := 83) X dX12_who_119 (by decide) ?_
      exact ih (x5 + 1) σ21 _ h kk kr
    · refine j_ldc (v := -1000001) X tw_948 dX12_who_113 ?_
      obtain rfl := Option.some.inj h
      exact j_iret X (kr ((-1000001 : Int32), σ21) rfl) dX12_who_115
theorem X12_who_L83_ok {K : jK} (X : JX K cX12_who 13 RX12 4 99) {p1 : Int32} {p2 : Int32} {p3 : Int32} {p4 : Int32}  : ∀ (n : Nat) (s : Int32) (σ : jMem) (o : ((Unit) × jMem) ⊕ (Int32 × jMem)), X12_who_L83 p1 p2 p3 p4 n s σ = some o → (∀ q, o = .inl q → J K 122 [some (.ref 89), some (.int p1), some (.int p2), some (.int p3), some (.int p4), none, none, none, none, none, none, none, none] [] q.2) → (∀ q, o = .inr q → JR K (some .int) (some (.int q.1)) q.2) → J K 83 [some (.ref 89), some (.int p1), some (.int p2), some (.int p3), some (.int p4), some (.int s), none, none, none, none, none, none, none] [] σ := by
  intro n
  induction n with
  | zero => intro s σ o h; cases h
  | succ n ih => intro s σ o h; exact X12_who_L83_bok X  ih (s) σ o h
def X12_who_L176_b (p1 : Int32) (p2 : Int32) (p3 : Int32) (p4 : Int32) (p5 : Int32) (p6 : Int32) (p8 : Int32) (rec : Int32 × Int32 × Int32 → jMem → Option ((Int32) × jMem)) (x7 : Int32) (x9 : Int32) (x10 : Int32) (σ : jMem) : Option ((Int32) × jMem) :=
  if p4 ≤ x10 then
  some (x9, σ)
else
  jlet (((((40 : Int32) * p2) + p3) + ((2 : Int32) * x10))) (fun v35 =>
  jld σ 93 67 (6 : Int32) (fun v36 =>
  jld σ 92 320 v35 (fun v37 =>
  jbd (f_X12_isBurial v36 v37 σ) (fun v38 σ39 =>
  jj (fun (q42 : Int32) σ43 =>
  jlet ((x7 ||| q42)) (fun v44 =>
  if x9 = 0 then
  rec (v44, (0 : Int32), (x10 + 1)) σ43
else
  jj (fun (q46 : Int32) σ47 =>
  jld σ47 92 320 (v35 + (1 : Int32)) (fun v48 =>
  if ¬ q46 = v48 then
  rec (v44, (0 : Int32), (x10 + 1)) σ47
else
  rec (v44, (1 : Int32), (x10 + 1)) σ47)) (fun k45 =>
  if p8 = 0 then
  k45 (0 : Int32) σ43
else
  k45 v44 σ43))) (fun k41 =>
  jj (fun (q50 : Unit) σ51 =>
  k41 (0 : Int32) σ51) (fun k49 =>
  if v38 = 0 then
  k49 () σ39
else
  if p8 = 0 then
  k49 () σ39
else
  jbd (f_X12_of 93 p1 (2 : Int32) σ39) (fun v52 σ53 =>
  jld σ53 93 67 (6 : Int32) (fun v55 =>
  jbd (f_X12_sees p6 v52 v55 σ53) (fun v56 σ57 =>
  k41 v56 σ57)))))))))
def X12_who_L176 (p1 : Int32) (p2 : Int32) (p3 : Int32) (p4 : Int32) (p5 : Int32) (p6 : Int32) (p8 : Int32) : Nat → Int32 × Int32 × Int32 → jMem → Option ((Int32) × jMem) := jloop (fun rec s σ => X12_who_L176_b p1 p2 p3 p4 p5 p6 p8 rec s.1 s.2.1 s.2.2 σ)
set_option maxRecDepth 100000 in
set_option maxHeartbeats 4000000 in
theorem X12_who_L176_bok {K : jK} (X : JX K cX12_who 13 RX12 4 99) {p1 : Int32} {p2 : Int32} {p3 : Int32} {p4 : Int32} {p5 : Int32} {p6 : Int32} {p8 : Int32}  {rec : Int32 × Int32 × Int32 → jMem → Option ((Int32) × jMem)} (ih : ∀ (s : Int32 × Int32 × Int32) (σ : jMem) (o : (Int32) × jMem), rec s σ = some o → (J K 298 [some (.ref 89), some (.int p1), some (.int p2), some (.int p3), some (.int p4), some (.int p5), some (.int p6), none, none, some (.int o.1), none, none, none] [] o.2) → J K 176 [some (.ref 89), some (.int p1), some (.int p2), some (.int p3), some (.int p4), some (.int p5), some (.int p6), some (.int s.1), some (.int p8), some (.int s.2.1), some (.int s.2.2), none, none] [] σ) : ∀ (x7 : Int32) (x9 : Int32) (x10 : Int32) (σ : jMem) (o : (Int32) × jMem), X12_who_L176_b p1 p2 p3 p4 p5 p6 p8 rec x7 x9 x10 σ = some o → (J K 298 [some (.ref 89), some (.int p1), some (.int p2), some (.int p3), some (.int p4), some (.int p5), some (.int p6), none, none, some (.int o.1), none, none, none] [] o.2) → J K 176 [some (.ref 89), some (.int p1), some (.int p2), some (.int p3), some (.int p4), some (.int p5), some (.int p6), some (.int x7), some (.int p8), some (.int x9), some (.int x10), none, none] [] σ := by
  intro x7 x9 x10 σ o h kk
  unfold X12_who_L176_b at h
  refine j_iload X dX12_who_176 rfl ?_
  refine j_iload X dX12_who_178 rfl ?_
  refine j_icmp_ge (tgt := 298) X dX12_who_180 (by decide) h (fun h => ?_) (fun h => ?_)
  · obtain rfl := Option.some.inj h
    exact j_sub (ls' := [some (.ref 89), some (.int p1), some (.int p2), some (.int p3), some (.int p4), some (.int p5), some (.int p6), none, none, some (.int x9), none, none, none]) ⟨Or.inr rfl, Or.inr rfl, Or.inr rfl, Or.inr rfl, Or.inr rfl, Or.inr rfl, Or.inr rfl, Or.inl rfl, Or.inl rfl, Or.inr rfl, Or.inl rfl, Or.inl rfl, Or.inl rfl, trivial⟩ kk
  · refine j_bipush (v := 40) X dX12_who_183 (by decide) ?_
    refine j_iload_n X 2 dX12_who_185 rfl rfl ?_
    refine j_imul X dX12_who_186 ?_
    refine j_iload_n X 3 dX12_who_187 rfl rfl ?_
    refine j_iadd X dX12_who_188 ?_
    refine j_iconst (v := 2) X dX12_who_189 (by decide) ?_
    refine j_iload X dX12_who_190 rfl ?_
    refine j_imul X dX12_who_192 ?_
    refine j_iadd X dX12_who_193 ?_
    refine j_letI h (fun v35 h => ?_)
    refine j_istore (ls' := [some (.ref 89), some (.int p1), some (.int p2), some (.int p3), some (.int p4), some (.int p5), some (.int p6), some (.int x7), some (.int p8), some (.int x9), some (.int x10), some (.int v35), none]) X dX12_who_194 (Nat.le_of_ble_eq_true rfl) rfl ?_
    refine j_aload_n X 0 dX12_who_196 rfl rfl ?_
    refine j_aload_n X 0 dX12_who_197 rfl rfl ?_
    refine j_getR (t := 93) X fg_RX12_19 ln_89 ly_89 rfl dX12_who_198 ?_
    refine j_bipush (v := 6) X dX12_who_201 (by decide) ?_
    refine j_iaload X ln_93 ly_93 dX12_who_203 h (fun v36 h => ?_)
    refine j_aload_n X 0 dX12_who_204 rfl rfl ?_
    refine j_getR (t := 92) X fg_RX12_16 ln_89 ly_89 rfl dX12_who_205 ?_
    refine j_iload X dX12_who_208 rfl ?_
    refine j_iaload X ln_92 ly_92 dX12_who_210 h (fun v37 h => ?_)
    obtain ⟨v38, σ39, hm40, h⟩ := jbd_some h
    refine j_callV (as := [.int v36, .int v37]) (st := []) (st1 := [.int v38]) X ln_89 ly_89 rfl rfl sv_RX12_211 ⟨by decide, by decide⟩ rfl rfl (Nat.le_of_ble_eq_true rfl) rfl dX12_who_211 jrv_i (c_X12_isBurial  hm40) rfl ?_
    refine j_istore (ls' := [some (.ref 89), some (.int p1), some (.int p2), some (.int p3), some (.int p4), some (.int p5), some (.int p6), some (.int x7), some (.int p8), some (.int x9), some (.int x10), some (.int v35), some (.int v38)]) X dX12_who_214 (Nat.le_of_ble_eq_true rfl) rfl ?_
    refine j_iload X dX12_who_216 rfl ?_
    refine j_iload X dX12_who_218 rfl ?_
    refine j_join (pcJ := 254) (lsJ := fun q42 => [some (.ref 89), some (.int p1), some (.int p2), some (.int p3), some (.int p4), some (.int p5), some (.int p6), none, some (.int p8), some (.int x9), some (.int x10), some (.int v35), none]) (stJ := fun q42 => [.int q42, .int x7]) h (fun q42 σ43 h => ?_) (fun k41 hk41 h => ?_)
    · refine j_ior X dX12_who_254 ?_
      refine j_letI h (fun v44 h => ?_)
      refine j_istore (ls' := [some (.ref 89), some (.int p1), some (.int p2), some (.int p3), some (.int p4), some (.int p5), some (.int p6), some (.int v44), some (.int p8), some (.int x9), some (.int x10), some (.int v35), none]) X dX12_who_255 (Nat.le_of_ble_eq_true rfl) rfl ?_
      refine j_iload X dX12_who_257 rfl ?_
      refine j_if_eq (tgt := 289) X dX12_who_259 (by decide) h (fun h => ?_) (fun h => ?_)
      · refine j_iconst (v := 0) X dX12_who_289 (by decide) ?_
        refine j_istore (ls' := [some (.ref 89), some (.int p1), some (.int p2), some (.int p3), some (.int p4), some (.int p5), some (.int p6), some (.int v44), some (.int p8), some (.int (0 : Int32)), some (.int x10), some (.int v35), none]) X dX12_who_290 (Nat.le_of_ble_eq_true rfl) rfl ?_
        refine j_iinc (v := (x10 + 1)) (ls' := [some (.ref 89), some (.int p1), some (.int p2), some (.int p3), some (.int p4), some (.int p5), some (.int p6), some (.int v44), some (.int p8), some (.int (0 : Int32)), some (.int (x10 + 1)), some (.int v35), none]) X dX12_who_292 rfl rfl (Nat.le_of_ble_eq_true rfl) rfl ?_
        refine j_goto (tgt := 176) X dX12_who_295 (by decide) ?_
        exact j_sub (ls' := [some (.ref 89), some (.int p1), some (.int p2), some (.int p3), some (.int p4), some (.int p5), some (.int p6), some (.int v44), some (.int p8), some (.int (0 : Int32)), some (.int (x10 + 1)), none, none]) ⟨Or.inr rfl, Or.inr rfl, Or.inr rfl, Or.inr rfl, Or.inr rfl, Or.inr rfl, Or.inr rfl, Or.inr rfl, Or.inr rfl, Or.inr rfl, Or.inr rfl, Or.inl rfl, Or.inl rfl, trivial⟩ (ih (v44, (0 : Int32), (x10 + 1)) σ43 _ h kk)
      · refine j_iload X dX12_who_262 rfl ?_
        refine j_join (pcJ := 273) (lsJ := fun q46 => [some (.ref 89), some (.int p1), some (.int p2), some (.int p3), some (.int p4), some (.int p5), some (.int p6), some (.int v44), some (.int p8), none, some (.int x10), some (.int v35), none]) (stJ := fun q46 => [.int q46]) h (fun q46 σ47 h => ?_) (fun k45 hk45 h => ?_)
        · refine j_aload_n X 0 dX12_who_273 rfl rfl ?_
          refine j_getR (t := 92) X fg_RX12_16 ln_89 ly_89 rfl dX12_who_274 ?_
          refine j_iload X dX12_who_277 rfl ?_
          refine j_iconst (v := 1) X dX12_who_279 (by decide) ?_
          refine j_iadd X dX12_who_280 ?_
          refine j_iaload X ln_92 ly_92 dX12_who_281 h (fun v48 h => ?_)
          refine j_icmp_ne (tgt := 289) X dX12_who_282 (by decide) h (fun h => ?_) (fun h => ?_)
          · refine j_iconst (v := 0) X dX12_who_289 (by decide) ?_
            refine j_istore (ls' := [some (.ref 89), some (.int p1), some (.int p2), some (.int p3), some (.int p4), some (.int p5), some (.int p6), some (.int v44), some (.int p8), some (.int (0 : Int32)), some (.int x10), some (.int v35), none]) X dX12_who_290 (Nat.le_of_ble_eq_true rfl) rfl ?_
            refine j_iinc (v := (x10 + 1)) (ls' := [some (.ref 89), some (.int p1), some (.int p2), some (.int p3), some (.int p4), some (.int p5), some (.int p6), some (.int v44), some (.int p8), some (.int (0 : Int32)), some (.int (x10 + 1)), some (.int v35), none]) X dX12_who_292 rfl rfl (Nat.le_of_ble_eq_true rfl) rfl ?_
            refine j_goto (tgt := 176) X dX12_who_295 (by decide) ?_
            exact j_sub (ls' := [some (.ref 89), some (.int p1), some (.int p2), some (.int p3), some (.int p4), some (.int p5), some (.int p6), some (.int v44), some (.int p8), some (.int (0 : Int32)), some (.int (x10 + 1)), none, none]) ⟨Or.inr rfl, Or.inr rfl, Or.inr rfl, Or.inr rfl, Or.inr rfl, Or.inr rfl, Or.inr rfl, Or.inr rfl, Or.inr rfl, Or.inr rfl, Or.inr rfl, Or.inl rfl, Or.inl rfl, trivial⟩ (ih (v44, (0 : Int32), (x10 + 1)) σ47 _ h kk)
          · refine j_iconst (v := 1) X dX12_who_285 (by decide) ?_
            refine j_goto (tgt := 290) X dX12_who_286 (by decide) ?_
            refine j_istore (ls' := [some (.ref 89), some (.int p1), some (.int p2), some (.int p3), some (.int p4), some (.int p5), some (.int p6), some (.int v44), some (.int p8), some (.int (1 : Int32)), some (.int x10), some (.int v35), none]) X dX12_who_290 (Nat.le_of_ble_eq_true rfl) rfl ?_
            refine j_iinc (v := (x10 + 1)) (ls' := [some (.ref 89), some (.int p1), some (.int p2), some (.int p3), some (.int p4), some (.int p5), some (.int p6), some (.int v44), some (.int p8), some (.int (1 : Int32)), some (.int (x10 + 1)), some (.int v35), none]) X dX12_who_292 rfl rfl (Nat.le_of_ble_eq_true rfl) rfl ?_
            refine j_goto (tgt := 176) X dX12_who_295 (by decide) ?_
            exact j_sub (ls' := [some (.ref 89), some (.int p1), some (.int p2), some (.int p3), some (.int p4), some (.int p5), some (.int p6), some (.int v44), some (.int p8), some (.int (1 : Int32)), some (.int (x10 + 1)), none, none]) ⟨Or.inr rfl, Or.inr rfl, Or.inr rfl, Or.inr rfl, Or.inr rfl, Or.inr rfl, Or.inr rfl, Or.inr rfl, Or.inr rfl, Or.inr rfl, Or.inr rfl, Or.inl rfl, Or.inl rfl, trivial⟩ (ih (v44, (1 : Int32), (x10 + 1)) σ47 _ h kk)
        · refine j_if_eq (tgt := 272) X dX12_who_264 (by decide) h (fun h => ?_) (fun h => ?_)
          · refine j_iconst (v := 0) X dX12_who_272 (by decide) ?_
            exact j_sub (ls' := [some (.ref 89), some (.int p1), some (.int p2), some (.int p3), some (.int p4), some (.int p5), some (.int p6), some (.int v44), some (.int p8), none, some (.int x10), some (.int v35), none]) ⟨Or.inr rfl, Or.inr rfl, Or.inr rfl, Or.inr rfl, Or.inr rfl, Or.inr rfl, Or.inr rfl, Or.inr rfl, Or.inr rfl, Or.inl rfl, Or.inr rfl, Or.inr rfl, Or.inl rfl, trivial⟩ (hk45 (0 : Int32) σ43 h)
          · refine j_iload X dX12_who_267 rfl ?_
            refine j_goto (tgt := 273) X dX12_who_269 (by decide) ?_
            exact j_sub (ls' := [some (.ref 89), some (.int p1), some (.int p2), some (.int p3), some (.int p4), some (.int p5), some (.int p6), some (.int v44), some (.int p8), none, some (.int x10), some (.int v35), none]) ⟨Or.inr rfl, Or.inr rfl, Or.inr rfl, Or.inr rfl, Or.inr rfl, Or.inr rfl, Or.inr rfl, Or.inr rfl, Or.inr rfl, Or.inl rfl, Or.inr rfl, Or.inr rfl, Or.inl rfl, trivial⟩ (hk45 v44 σ43 h)
    · refine j_join (pcJ := 253) (lsJ := fun q50 => [some (.ref 89), some (.int p1), some (.int p2), some (.int p3), some (.int p4), some (.int p5), some (.int p6), none, some (.int p8), some (.int x9), some (.int x10), some (.int v35), none]) (stJ := fun q50 => [.int x7]) h (fun q50 σ51 h => ?_) (fun k49 hk49 h => ?_)
      · refine j_iconst (v := 0) X dX12_who_253 (by decide) ?_
        exact hk41 (0 : Int32) σ51 h
      · refine j_if_eq (tgt := 253) X dX12_who_220 (by decide) h (fun h => ?_) (fun h => ?_)
        · exact j_sub (ls' := [some (.ref 89), some (.int p1), some (.int p2), some (.int p3), some (.int p4), some (.int p5), some (.int p6), none, some (.int p8), some (.int x9), some (.int x10), some (.int v35), none]) ⟨Or.inr rfl, Or.inr rfl, Or.inr rfl, Or.inr rfl, Or.inr rfl, Or.inr rfl, Or.inr rfl, Or.inl rfl, Or.inr rfl, Or.inr rfl, Or.inr rfl, Or.inr rfl, Or.inl rfl, trivial⟩ (hk49 () σ39 h)
        · refine j_iload X dX12_who_223 rfl ?_
          refine j_if_eq (tgt := 253) X dX12_who_225 (by decide) h (fun h => ?_) (fun h => ?_)
          · exact j_sub (ls' := [some (.ref 89), some (.int p1), some (.int p2), some (.int p3), some (.int p4), some (.int p5), some (.int p6), none, some (.int p8), some (.int x9), some (.int x10), some (.int v35), none]) ⟨Or.inr rfl, Or.inr rfl, Or.inr rfl, Or.inr rfl, Or.inr rfl, Or.inr rfl, Or.inr rfl, Or.inl rfl, Or.inr rfl, Or.inr rfl, Or.inr rfl, Or.inr rfl, Or.inl rfl, trivial⟩ (hk49 () σ39 h)
          · refine j_aload_n X 0 dX12_who_228 rfl rfl ?_
            refine j_iload X dX12_who_229 rfl ?_
            refine j_aload_n X 0 dX12_who_231 rfl rfl ?_
            refine j_getR (t := 93) X fg_RX12_19 ln_89 ly_89 rfl dX12_who_232 ?_
            refine j_iload_n X 1 dX12_who_235 rfl rfl ?_
            refine j_iconst (v := 2) X dX12_who_236 (by decide) ?_
            obtain ⟨v52, σ53, hm54, h⟩ := jbd_some h
            refine j_callS (as := [.ref 93, .int p1, .int (2 : Int32)]) (st := [.int p6, .ref 89, .int x7]) (st1 := [.int v52, .int p6, .ref 89, .int x7]) X ss_RX12_183 ⟨by decide, by decide⟩ rfl rfl (Nat.le_of_ble_eq_true rfl) rfl dX12_who_237 jrv_i (c_X12_of ⟨ln_93, ly_93⟩ hm54) rfl ?_
            refine j_aload_n X 0 dX12_who_240 rfl rfl ?_
            refine j_getR (t := 93) X fg_RX12_19 ln_89 ly_89 rfl dX12_who_241 ?_
            refine j_bipush (v := 6) X dX12_who_244 (by decide) ?_
            refine j_iaload X ln_93 ly_93 dX12_who_246 h (fun v55 h => ?_)
            obtain ⟨v56, σ57, hm58, h⟩ := jbd_some h
            refine j_callV (as := [.int p6, .int v52, .int v55]) (st := [.int x7]) (st1 := [.int v56, .int x7]) X ln_89 ly_89 rfl rfl sv_RX12_199 ⟨by decide, by decide⟩ rfl rfl (Nat.le_of_ble_eq_true rfl) rfl dX12_who_247 jrv_i (c_X12_sees  hm58) rfl ?_
            refine j_goto (tgt := 254) X dX12_who_250 (by decide) ?_
            exact j_sub (ls' := [some (.ref 89), some (.int p1), some (.int p2), some (.int p3), some (.int p4), some (.int p5), some (.int p6), none, some (.int p8), some (.int x9), some (.int x10), some (.int v35), none]) ⟨Or.inr rfl, Or.inr rfl, Or.inr rfl, Or.inr rfl, Or.inr rfl, Or.inr rfl, Or.inr rfl, Or.inl rfl, Or.inr rfl, Or.inr rfl, Or.inr rfl, Or.inr rfl, Or.inl rfl, trivial⟩ (hk41 v56 σ57 h)
theorem X12_who_L176_ok {K : jK} (X : JX K cX12_who 13 RX12 4 99) {p1 : Int32} {p2 : Int32} {p3 : Int32} {p4 : Int32} {p5 : Int32} {p6 : Int32} {p8 : Int32}  : ∀ (n : Nat) (s : Int32 × Int32 × Int32) (σ : jMem) (o : (Int32) × jMem), X12_who_L176 p1 p2 p3 p4 p5 p6 p8 n s σ = some o → (J K 298 [some (.ref 89), some (.int p1), some (.int p2), some (.int p3), some (.int p4), some (.int p5), some (.int p6), none, none, some (.int o.1), none, none, none] [] o.2) → J K 176 [some (.ref 89), some (.int p1), some (.int p2), some (.int p3), some (.int p4), some (.int p5), some (.int p6), some (.int s.1), some (.int p8), some (.int s.2.1), some (.int s.2.2), none, none] [] σ := by
  intro n
  induction n with
  | zero => intro s σ o h; cases h
  | succ n ih => intro s σ o h; exact X12_who_L176_bok X  ih (s.1) (s.2.1) (s.2.2) σ o h
def X12_who_L133_b (p1 : Int32) (p2 : Int32) (p3 : Int32) (p4 : Int32) (rec : Int32 × Int32 → jMem → Option ((Int32) × jMem)) (x5 : Int32) (x6 : Int32) (σ : jMem) : Option ((Int32) × jMem) :=
  if (5 : Int32) < x6 then
  some (x5, σ)
else
  jbd (f_X12_of 93 p1 (3 : Int32) σ) (fun v26 σ27 =>
  jbd (f_X12_of 93 p1 (1 : Int32) σ27) (fun v29 σ30 =>
  jbd (f_X12_livesBy 93 x6 v29 σ30) (fun v32 σ33 =>
  jbd (X12_who_L176 (p1) (p2) (p3) (p4) (x5) (x6) (v32) jFU (v26, (1 : Int32), (0 : Int32)) σ33) (fun q59 σ60 =>
  if q59 = 0 then
  jlet ((x5 ||| (0 : Int32))) (fun v61 =>
  rec (v61, (x6 + 1)) σ60)
else
  jlet ((x5 ||| ((1 : Int32) <<< (x6 &&& 31)))) (fun v62 =>
  rec (v62, (x6 + 1)) σ60)))))
def X12_who_L133 (p1 : Int32) (p2 : Int32) (p3 : Int32) (p4 : Int32) : Nat → Int32 × Int32 → jMem → Option ((Int32) × jMem) := jloop (fun rec s σ => X12_who_L133_b p1 p2 p3 p4 rec s.1 s.2 σ)
set_option maxRecDepth 100000 in
set_option maxHeartbeats 4000000 in
theorem X12_who_L133_bok {K : jK} (X : JX K cX12_who 13 RX12 4 99) {p1 : Int32} {p2 : Int32} {p3 : Int32} {p4 : Int32}  {rec : Int32 × Int32 → jMem → Option ((Int32) × jMem)} (ih : ∀ (s : Int32 × Int32) (σ : jMem) (o : (Int32) × jMem), rec s σ = some o → (J K 322 [none, none, none, none, none, some (.int o.1), none, none, none, none, none, none, none] [] o.2) → J K 133 [some (.ref 89), some (.int p1), some (.int p2), some (.int p3), some (.int p4), some (.int s.1), some (.int s.2), none, none, none, none, none, none] [] σ) : ∀ (x5 : Int32) (x6 : Int32) (σ : jMem) (o : (Int32) × jMem), X12_who_L133_b p1 p2 p3 p4 rec x5 x6 σ = some o → (J K 322 [none, none, none, none, none, some (.int o.1), none, none, none, none, none, none, none] [] o.2) → J K 133 [some (.ref 89), some (.int p1), some (.int p2), some (.int p3), some (.int p4), some (.int x5), some (.int x6), none, none, none, none, none, none] [] σ := by
  intro x5 x6 σ o h kk
  unfold X12_who_L133_b at h
  refine j_iload X dX12_who_133 rfl ?_
  refine j_iconst (v := 5) X dX12_who_135 (by decide) ?_
  refine j_icmp_gt (tgt := 322) X dX12_who_136 (by decide) h (fun h => ?_) (fun h => ?_)
  · obtain rfl := Option.some.inj h
    exact j_sub (ls' := [none, none, none, none, none, some (.int x5), none, none, none, none, none, none, none]) ⟨Or.inl rfl, Or.inl rfl, Or.inl rfl, Or.inl rfl, Or.inl rfl, Or.inr rfl, Or.inl rfl, Or.inl rfl, Or.inl rfl, Or.inl rfl, Or.inl rfl, Or.inl rfl, Or.inl rfl, trivial⟩ kk
  · refine j_aload_n X 0 dX12_who_139 rfl rfl ?_
    refine j_getR (t := 93) X fg_RX12_19 ln_89 ly_89 rfl dX12_who_140 ?_
    refine j_iload_n X 1 dX12_who_143 rfl rfl ?_
    refine j_iconst (v := 3) X dX12_who_144 (by decide) ?_
    obtain ⟨v26, σ27, hm28, h⟩ := jbd_some h
    refine j_callS (as := [.ref 93, .int p1, .int (3 : Int32)]) (st := []) (st1 := [.int v26]) X ss_RX12_183 ⟨by decide, by decide⟩ rfl rfl (Nat.le_of_ble_eq_true rfl) rfl dX12_who_145 jrv_i (c_X12_of ⟨ln_93, ly_93⟩ hm28) rfl ?_
    refine j_istore (ls' := [some (.ref 89), some (.int p1), some (.int p2), some (.int p3), some (.int p4), some (.int x5), some (.int x6), some (.int v26), none, none, none, none, none]) X dX12_who_148 (Nat.le_of_ble_eq_true rfl) rfl ?_
    refine j_aload_n X 0 dX12_who_150 rfl rfl ?_
    refine j_getR (t := 93) X fg_RX12_19 ln_89 ly_89 rfl dX12_who_151 ?_
    refine j_iload X dX12_who_154 rfl ?_
    refine j_aload_n X 0 dX12_who_156 rfl rfl ?_
    refine j_getR (t := 93) X fg_RX12_19 ln_89 ly_89 rfl dX12_who_157 ?_
    refine j_iload_n X 1 dX12_who_160 rfl rfl ?_
    refine j_iconst (v := 1) X dX12_who_161 (by decide) ?_
    obtain ⟨v29, σ30, hm31, h⟩ := jbd_some h
    refine j_callS (as := [.ref 93, .int p1, .int (1 : Int32)]) (st := [.int x6, .ref 93]) (st1 := [.int v29, .int x6, .ref 93]) X ss_RX12_183 ⟨by decide, by decide⟩ rfl rfl (Nat.le_of_ble_eq_true rfl) rfl dX12_who_162 jrv_i (c_X12_of ⟨ln_93, ly_93⟩ hm31) rfl ?_
    obtain ⟨v32, σ33, hm34, h⟩ := jbd_some h
    refine j_callS (as := [.ref 93, .int x6, .int v29]) (st := []) (st1 := [.int v32]) X ss_RX12_187 ⟨by decide, by decide⟩ rfl rfl (Nat.le_of_ble_eq_true rfl) rfl dX12_who_165 jrv_i (c_X12_livesBy ⟨ln_93, ly_93⟩ hm34) rfl ?_
    refine j_istore (ls' := [some (.ref 89), some (.int p1), some (.int p2), some (.int p3), some (.int p4), some (.int x5), some (.int x6), some (.int v26), some (.int v32), none, none, none, none]) X dX12_who_168 (Nat.le_of_ble_eq_true rfl) rfl ?_
    refine j_iconst (v := 1) X dX12_who_170 (by decide) ?_
    refine j_istore (ls' := [some (.ref 89), some (.int p1), some (.int p2), some (.int p3), some (.int p4), some (.int x5), some (.int x6), some (.int v26), some (.int v32), some (.int (1 : Int32)), none, none, none]) X dX12_who_171 (Nat.le_of_ble_eq_true rfl) rfl ?_
    refine j_iconst (v := 0) X dX12_who_173 (by decide) ?_
    refine j_istore (ls' := [some (.ref 89), some (.int p1), some (.int p2), some (.int p3), some (.int p4), some (.int x5), some (.int x6), some (.int v26), some (.int v32), some (.int (1 : Int32)), some (.int (0 : Int32)), none, none]) X dX12_who_174 (Nat.le_of_ble_eq_true rfl) rfl ?_
    obtain ⟨q59, σ60, hL63, h⟩ := jbd_some h
    refine X12_who_L176_ok X  jFU (v26, (1 : Int32), (0 : Int32)) σ33 _ hL63 ?_
    refine j_iload X dX12_who_298 rfl ?_
    refine j_iload X dX12_who_300 rfl ?_
    refine j_if_eq (tgt := 312) X dX12_who_302 (by decide) h (fun h => ?_) (fun h => ?_)
    · refine j_iconst (v := 0) X dX12_who_312 (by decide) ?_
      refine j_ior X dX12_who_313 ?_
      refine j_letI h (fun v61 h => ?_)
      refine j_istore (ls' := [some (.ref 89), some (.int p1), some (.int p2), some (.int p3), some (.int p4), some (.int v61), some (.int x6), none, none, some (.int q59), none, none, none]) X dX12_who_314 (Nat.le_of_ble_eq_true rfl) rfl ?_
      refine j_iinc (v := (x6 + 1)) (ls' := [some (.ref 89), some (.int p1), some (.int p2), some (.int p3), some (.int p4), some (.int v61), some (.int (x6 + 1)), none, none, some (.int q59), none, none, none]) X dX12_who_316 rfl rfl (Nat.le_of_ble_eq_true rfl) rfl ?_
      refine j_goto (tgt := 133) X dX12_who_319 (by decide) ?_
      exact j_sub (ls' := [some (.ref 89), some (.int p1), some (.int p2), some (.int p3), some (.int p4), some (.int v61), some (.int (x6 + 1)), none, none, none, none, none, none]) ⟨Or.inr rfl, Or.inr rfl, Or.inr rfl, Or.inr rfl, Or.inr rfl, Or.inr rfl, Or.inr rfl, Or.inl rfl, Or.inl rfl, Or.inl rfl, Or.inl rfl, Or.inl rfl, Or.inl rfl, trivial⟩ (ih (v61, (x6 + 1)) σ60 _ h kk)
    · refine j_iconst (v := 1) X dX12_who_305 (by decide) ?_
      refine j_iload X dX12_who_306 rfl ?_
      refine j_ishl X dX12_who_308 ?_
      refine j_goto (tgt := 313) X dX12_who_309 (by decide) ?_
      refine j_ior X dX12_who_313 ?_
      refine j_letI h (fun v62 h => ?_)
      refine j_istore (ls' := [some (.ref 89), some (.int p1), some (.int p2), some (.int p3), some (.int p4), some (.int v62), some (.int x6), none, none, some (.int q59), none, none, none]) X dX12_who_314 (Nat.le_of_ble_eq_true rfl) rfl ?_
      refine j_iinc (v := (x6 + 1)) (ls' := [some (.ref 89), some (.int p1), some (.int p2), some (.int p3), some (.int p4), some (.int v62), some (.int (x6 + 1)), none, none, some (.int q59), none, none, none]) X dX12_who_316 rfl rfl (Nat.le_of_ble_eq_true rfl) rfl ?_
      refine j_goto (tgt := 133) X dX12_who_319 (by decide) ?_
      exact j_sub (ls' := [some (.ref 89), some (.int p1), some (.int p2), some (.int p3), some (.int p4), some (.int v62), some (.int (x6 + 1)), none, none, none, none, none, none]) ⟨Or.inr rfl, Or.inr rfl, Or.inr rfl, Or.inr rfl, Or.inr rfl, Or.inr rfl, Or.inr rfl, Or.inl rfl, Or.inl rfl, Or.inl rfl, Or.inl rfl, Or.inl rfl, Or.inl rfl, trivial⟩ (ih (v62, (x6 + 1)) σ60 _ h kk)
theorem X12_who_L133_ok {K : jK} (X : JX K cX12_who 13 RX12 4 99) {p1 : Int32} {p2 : Int32} {p3 : Int32} {p4 : Int32}  : ∀ (n : Nat) (s : Int32 × Int32) (σ : jMem) (o : (Int32) × jMem), X12_who_L133 p1 p2 p3 p4 n s σ = some o → (J K 322 [none, none, none, none, none, some (.int o.1), none, none, none, none, none, none, none] [] o.2) → J K 133 [some (.ref 89), some (.int p1), some (.int p2), some (.int p3), some (.int p4), some (.int s.1), some (.int s.2), none, none, none, none, none, none] [] σ := by
  intro n
  induction n with
  | zero => intro s σ o h; cases h
  | succ n ih => intro s σ o h; exact X12_who_L133_bok X  ih (s.1) (s.2) σ o h
def f_X12_who (a0 : Int32) (a1 : Int32) (a2 : Int32) (a3 : Int32) (σ : jMem) : Option (Int32 × jMem) :=
  jlet (jset σ 89 0 (0 : Int32)) (fun σ1 =>
  jbd (f_X12_isWitness a0 σ1) (fun v2 σ3 =>
  if v2 = 0 then
  some (((-1000001 : Int32), σ3))
else
  jbd (f_X12_isRow a1 σ3) (fun v5 σ6 =>
  if v5 = 0 then
  some (((-1000001 : Int32), σ6))
else
  jbd (f_X12_in ((a3).toInt64) (1 : Int64) (4 : Int64) σ6) (fun v8 σ9 =>
  if ¬ v8 = 0 then
  jld σ9 90 8 a1 (fun v11 =>
  if 0 ≤ v11 then
  jj (fun (q13 : Unit) σ14 =>
  jbd (f_X12_finding (2 : Int32) σ14) (fun v15 σ16 =>
  some ((v15, σ16)))) (fun k12 =>
  if a2 < 0 then
  k12 () σ9
else
  jld σ9 91 8 a1 (fun v18 =>
  if (lg_cmp (((a2).toInt64) + ((((2 : Int32) * a3)).toInt64)) ((v18).toInt64)) ≤ 0 then
  jbr (X12_who_L83 (a0) (a1) (a2) (a3) jFU (0 : Int32) σ9) (fun q23 σ24 =>
  jlet (jset σ24 89 1 (0 : Int32)) (fun σ25 =>
  jbd (X12_who_L133 (a0) (a1) (a2) (a3) jFU ((0 : Int32), (1 : Int32)) σ25) (fun q64 σ65 =>
  some ((q64, σ65))))) (fun e68 => some e68)
else
  k12 () σ9))
else
  jbd (f_X12_finding (1 : Int32) σ9) (fun v72 σ73 =>
  some ((v72, σ73))))
else
  some (((-1000001 : Int32), σ9))))))
set_option maxRecDepth 100000 in
set_option maxHeartbeats 4000000 in
theorem c_X12_who {l : Launch} {D : va_G} {ad : Nat → Nat} {cid : Nat → ClassId} {a0 : Int32} {a1 : Int32} {a2 : Int32} {a3 : Int32}  {σ : jMem} {r : Int32} {σ' : jMem} (h : f_X12_who a0 a1 a2 a3 σ = some (r, σ')) : jMet l D ad cid yX12_who cX12_who 13 (some .int) 4 99 [.ref 89, .int a0, .int a1, .int a2, .int a3] σ (some (.int r)) σ' := by
  refine jMet_of (ls0 := [some (.ref 89), some (.int a0), some (.int a1), some (.int a2), some (.int a3), none, none, none, none, none, none, none, none]) (by decide) (Nat.le_of_ble_eq_true rfl) rfl (fun K X R0 _ => ?_)
  unfold f_X12_who at h
  refine j_aload_n X 0 dX12_who_0 rfl rfl ?_
  refine j_iconst (v := 0) X dX12_who_1 (by decide) ?_
  refine j_put X fp_RX12_47 ln_89 ly_89 rfl rfl rfl dX12_who_2 h (fun σ1 h => ?_)
  refine j_aload_n X 0 dX12_who_5 rfl rfl ?_
  refine j_iload_n X 1 dX12_who_6 rfl rfl ?_
  obtain ⟨v2, σ3, hm4, h⟩ := jbd_some h
  refine j_callV (as := [.int a0]) (st := []) (st1 := [.int v2]) X ln_89 ly_89 rfl rfl sv_RX12_236 ⟨by decide, by decide⟩ rfl rfl (Nat.le_of_ble_eq_true rfl) rfl dX12_who_7 jrv_i (c_X12_isWitness  hm4) rfl ?_
  refine j_if_eq (tgt := 33) X dX12_who_10 (by decide) h (fun h => ?_) (fun h => ?_)
  · refine j_ldc (v := -1000001) X tw_948 dX12_who_33 ?_
    obtain ⟨rfl, rfl⟩ := jin2 h
    exact j_iret X R0 dX12_who_35
  · refine j_iload_n X 2 dX12_who_13 rfl rfl ?_
    obtain ⟨v5, σ6, hm7, h⟩ := jbd_some h
    refine j_callS (as := [.int a1]) (st := []) (st1 := [.int v5]) X ss_RX12_61 ⟨by decide, by decide⟩ rfl rfl (Nat.le_of_ble_eq_true rfl) rfl dX12_who_14 jrv_i (c_X12_isRow  hm7) rfl ?_
    refine j_if_eq (tgt := 33) X dX12_who_17 (by decide) h (fun h => ?_) (fun h => ?_)
    · refine j_ldc (v := -1000001) X tw_948 dX12_who_33 ?_
      obtain ⟨rfl, rfl⟩ := jin2 h
      exact j_iret X R0 dX12_who_35
    · refine j_iload X dX12_who_20 rfl ?_
      refine j_i2l X dX12_who_22 ?_
      refine j_lconst (v := 1) X dX12_who_23 (by decide) ?_
      refine j_ldc2_w (v := 4) X tw_1138 dX12_who_24 ?_
      obtain ⟨v8, σ9, hm10, h⟩ := jbd_some h
      refine j_callS (as := [.long ((a3).toInt64), .long (1 : Int64), .long (4 : Int64)]) (st := []) (st1 := [.int v8]) X ss_RX12_57 ⟨by decide, by decide⟩ rfl rfl (Nat.le_of_ble_eq_true rfl) rfl dX12_who_27 jrv_i (c_X12_in  hm10) rfl ?_
      refine j_if_ne (tgt := 36) X dX12_who_30 (by decide) h (fun h => ?_) (fun h => ?_)
      · refine j_aload_n X 0 dX12_who_36 rfl rfl ?_
        refine j_getR (t := 90) X fg_RX12_7 ln_89 ly_89 rfl dX12_who_37 ?_
        refine j_iload_n X 2 dX12_who_40 rfl rfl ?_
        refine j_iaload X ln_90 ly_90 dX12_who_41 h (fun v11 h => ?_)
        refine j_if_ge (tgt := 51) X dX12_who_42 (by decide) h (fun h => ?_) (fun h => ?_)
        · refine j_iload_n X 3 dX12_who_51 rfl rfl ?_
          refine j_join (pcJ := 74) (lsJ := fun q13 => [some (.ref 89), none, none, none, none, none, none, none, none, none, none, none, none]) (stJ := fun q13 => []) h (fun q13 σ14 h => ?_) (fun k12 hk12 h => ?_)
          · refine j_aload_n X 0 dX12_who_74 rfl rfl ?_
            refine j_iconst (v := 2) X dX12_who_75 (by decide) ?_
            obtain ⟨v15, σ16, hm17, h⟩ := jbd_some h
            refine j_callV (as := [.int (2 : Int32)]) (st := []) (st1 := [.int v15]) X ln_89 ly_89 rfl rfl sv_RX12_68 ⟨by decide, by decide⟩ rfl rfl (Nat.le_of_ble_eq_true rfl) rfl dX12_who_76 jrv_i (c_X12_finding  hm17) rfl ?_
            obtain ⟨rfl, rfl⟩ := jin2 h
            exact j_iret X R0 dX12_who_79
          · refine j_if_lt (tgt := 74) X dX12_who_52 (by decide) h (fun h => ?_) (fun h => ?_)
            · exact j_sub (ls' := [some (.ref 89), none, none, none, none, none, none, none, none, none, none, none, none]) ⟨Or.inr rfl, Or.inl rfl, Or.inl rfl, Or.inl rfl, Or.inl rfl, Or.inl rfl, Or.inl rfl, Or.inl rfl, Or.inl rfl, Or.inl rfl, Or.inl rfl, Or.inl rfl, Or.inl rfl, trivial⟩ (hk12 () σ9 h)
            · refine j_iload_n X 3 dX12_who_55 rfl rfl ?_
              refine j_i2l X dX12_who_56 ?_
              refine j_iconst (v := 2) X dX12_who_57 (by decide) ?_
              refine j_iload X dX12_who_58 rfl ?_
              refine j_imul X dX12_who_60 ?_
              refine j_i2l X dX12_who_61 ?_
              refine j_ladd X dX12_who_62 ?_
              refine j_aload_n X 0 dX12_who_63 rfl rfl ?_
              refine j_getR (t := 91) X fg_RX12_13 ln_89 ly_89 rfl dX12_who_64 ?_
              refine j_iload_n X 2 dX12_who_67 rfl rfl ?_
              refine j_iaload X ln_91 ly_91 dX12_who_68 h (fun v18 h => ?_)
              refine j_i2l X dX12_who_69 ?_
              refine j_lcmp X dX12_who_70 ?_
              refine j_if_le (tgt := 80) X dX12_who_71 (by decide) h (fun h => ?_) (fun h => ?_)
              · refine j_iconst (v := 0) X dX12_who_80 (by decide) ?_
                refine j_istore (ls' := [some (.ref 89), some (.int a0), some (.int a1), some (.int a2), some (.int a3), some (.int (0 : Int32)), none, none, none, none, none, none, none]) X dX12_who_81 (Nat.le_of_ble_eq_true rfl) rfl ?_
                obtain ⟨o69, hL67, hl70, hr71⟩ := jbr_some h
                refine X12_who_L83_ok X  jFU (0 : Int32) σ9 o69 hL67 (fun q23w e9 => ?_) (fun q23w e9 => ?_)
                · have h := hl70 _ e9
                  obtain ⟨q23, σ24⟩ := q23w
                  refine j_aload_n X 0 dX12_who_122 rfl rfl ?_
                  refine j_iconst (v := 0) X dX12_who_123 (by decide) ?_
                  refine j_put X fp_RX12_51 ln_89 ly_89 rfl rfl rfl dX12_who_124 h (fun σ25 h => ?_)
                  refine j_iconst (v := 0) X dX12_who_127 (by decide) ?_
                  refine j_istore (ls' := [some (.ref 89), some (.int a0), some (.int a1), some (.int a2), some (.int a3), some (.int (0 : Int32)), none, none, none, none, none, none, none]) X dX12_who_128 (Nat.le_of_ble_eq_true rfl) rfl ?_
                  refine j_iconst (v := 1) X dX12_who_130 (by decide) ?_
                  refine j_istore (ls' := [some (.ref 89), some (.int a0), some (.int a1), some (.int a2), some (.int a3), some (.int (0 : Int32)), some (.int (1 : Int32)), none, none, none, none, none, none]) X dX12_who_131 (Nat.le_of_ble_eq_true rfl) rfl ?_
                  obtain ⟨q64, σ65, hL66, h⟩ := jbd_some h
                  refine X12_who_L133_ok X  jFU ((0 : Int32), (1 : Int32)) σ25 _ hL66 ?_
                  refine j_iload X dX12_who_322 rfl ?_
                  obtain ⟨rfl, rfl⟩ := jin2 h
                  exact j_iret X R0 dX12_who_324
                · have h := hr71 _ e9
                  obtain rfl := Option.some.inj h
                  exact R0
              · exact j_sub (ls' := [some (.ref 89), none, none, none, none, none, none, none, none, none, none, none, none]) ⟨Or.inr rfl, Or.inl rfl, Or.inl rfl, Or.inl rfl, Or.inl rfl, Or.inl rfl, Or.inl rfl, Or.inl rfl, Or.inl rfl, Or.inl rfl, Or.inl rfl, Or.inl rfl, Or.inl rfl, trivial⟩ (hk12 () σ9 h)
        · refine j_aload_n X 0 dX12_who_45 rfl rfl ?_
          refine j_iconst (v := 1) X dX12_who_46 (by decide) ?_
          obtain ⟨v72, σ73, hm74, h⟩ := jbd_some h
          refine j_callV (as := [.int (1 : Int32)]) (st := []) (st1 := [.int v72]) X ln_89 ly_89 rfl rfl sv_RX12_68 ⟨by decide, by decide⟩ rfl rfl (Nat.le_of_ble_eq_true rfl) rfl dX12_who_47 jrv_i (c_X12_finding  hm74) rfl ?_
          obtain ⟨rfl, rfl⟩ := jin2 h
          exact j_iret X R0 dX12_who_50
      · refine j_ldc (v := -1000001) X tw_948 dX12_who_33 ?_
        obtain ⟨rfl, rfl⟩ := jin2 h
        exact j_iret X R0 dX12_who_35
