def X12_locked_L100_b (p1 : Int32) (p2 : Int32) (p3 : Int32) (p4 : Int32) (p5 : Int64) (p7 : Int64) (p9 : Int32) (rec : Int64 × Int32 → jMem → Option ((Int64) × jMem)) (x10 : Int64) (x12 : Int32) (σ : jMem) : Option ((Int64) × jMem) :=
  jld σ 93 67 (3 : Int32) (fun v22 =>
  if v22 ≤ x12 then
  some (x10, σ)
else
  jbd (f_X12_has p4 x12 σ) (fun v23 σ24 =>
  if ¬ v23 = 0 then
  jbd (f_X12_has p9 x12 σ24) (fun v26 σ27 =>
  if v26 = 0 then
  jlet ((x10 * ((10 : Int64) - ((p2).toInt64)))) (fun v29 =>
  rec (v29, (x12 + 1)) σ27)
else
  jlet ((x10 * ((p2).toInt64))) (fun v30 =>
  rec (v30, (x12 + 1)) σ27))
else
  jlet ((x10 * (1 : Int64))) (fun v31 =>
  rec (v31, (x12 + 1)) σ24)))
def X12_locked_L100 (p1 : Int32) (p2 : Int32) (p3 : Int32) (p4 : Int32) (p5 : Int64) (p7 : Int64) (p9 : Int32) : Nat → Int64 × Int32 → jMem → Option ((Int64) × jMem) := jloop (fun rec s σ => X12_locked_L100_b p1 p2 p3 p4 p5 p7 p9 rec s.1 s.2 σ)
set_option maxRecDepth 100000 in
set_option maxHeartbeats 4000000 in
theorem X12_locked_L100_bok {K : jK} (X : JX K cX12_locked 15 RX12 3 70) {p1 : Int32} {p2 : Int32} {p3 : Int32} {p4 : Int32} {p5 : Int64} {p7 : Int64} {p9 : Int32}  {rec : Int64 × Int32 → jMem → Option ((Int64) × jMem)} (ih : ∀ (s : Int64 × Int32) (σ : jMem) (o : (Int64) × jMem), rec s σ = some o → (J K 157 [some (.ref 89), some (.int p1), some (.int p2), some (.int p3), some (.int p4), some (.long p5), none, some (.long p7), none, some (.int p9), some (.long o.1), none, none, none, none] [] o.2) → J K 100 [some (.ref 89), some (.int p1), some (.int p2), some (.int p3), some (.int p4), some (.long p5), none, some (.long p7), none, some (.int p9), some (.long s.1), none, some (.int s.2), none, none] [] σ) : ∀ (x10 : Int64) (x12 : Int32) (σ : jMem) (o : (Int64) × jMem), X12_locked_L100_b p1 p2 p3 p4 p5 p7 p9 rec x10 x12 σ = some o → (J K 157 [some (.ref 89), some (.int p1), some (.int p2), some (.int p3), some (.int p4), some (.long p5), none, some (.long p7), none, some (.int p9), some (.long o.1), none, none, none, none] [] o.2) → J K 100 [some (.ref 89), some (.int p1), some (.int p2), some (.int p3), some (.int p4), some (.long p5), none, some (.long p7), none, some (.int p9), some (.long x10), none, some (.int x12), none, none] [] σ := by
  intro x10 x12 σ o h kk
  unfold X12_locked_L100_b at h
  refine j_iload X dX12_locked_100 rfl ?_
  refine j_aload_n X 0 dX12_locked_102 rfl rfl ?_
  refine j_getR (t := 93) X fg_RX12_19 ln_89 ly_89 rfl dX12_locked_103 ?_
  refine j_iconst (v := 3) X dX12_locked_106 (by decide) ?_
  refine j_iaload X ln_93 ly_93 dX12_locked_107 h (fun v22 h => ?_)
  refine j_icmp_ge (tgt := 157) X dX12_locked_108 (by decide) h (fun h => ?_) (fun h => ?_)
  · obtain rfl := Option.some.inj h
    exact j_sub (ls' := [some (.ref 89), some (.int p1), some (.int p2), some (.int p3), some (.int p4), some (.long p5), none, some (.long p7), none, some (.int p9), some (.long x10), none, none, none, none]) ⟨Or.inr rfl, Or.inr rfl, Or.inr rfl, Or.inr rfl, Or.inr rfl, Or.inr rfl, Or.inl rfl, Or.inr rfl, Or.inl rfl, Or.inr rfl, Or.inr rfl, Or.inl rfl, Or.inl rfl, Or.inl rfl, Or.inl rfl, trivial⟩ kk
  · refine j_lload X dX12_locked_111 rfl ?_
    refine j_iload X dX12_locked_113 rfl ?_
    refine j_iload X dX12_locked_115 rfl ?_
    obtain ⟨v23, σ24, hm25, h⟩ := jbd_some h
    refine j_callS (as := [.int p4, .int x12]) (st := [.long x10]) (st1 := [.int v23, .long x10]) X ss_RX12_153 ⟨by decide, by decide⟩ rfl rfl (Nat.le_of_ble_eq_true rfl) rfl dX12_locked_117 jrv_i (c_X12_has  hm25) rfl ?_
    refine j_if_ne (tgt := 127) X dX12_locked_120 (by decide) h (fun h => ?_) (fun h => ?_)
    · refine j_iload X dX12_locked_127 rfl ?_
      refine j_iload X dX12_locked_129 rfl ?_
      obtain ⟨v26, σ27, hm28, h⟩ := jbd_some h
      refine j_callS (as := [.int p9, .int x12]) (st := [.long x10]) (st1 := [.int v26, .long x10]) X ss_RX12_153 ⟨by decide, by decide⟩ rfl rfl (Nat.le_of_ble_eq_true rfl) rfl dX12_locked_131 jrv_i (c_X12_has  hm28) rfl ?_
      refine j_if_eq (tgt := 142) X dX12_locked_134 (by decide) h (fun h => ?_) (fun h => ?_)
      · refine j_ldc2_w (v := 10) X tw_1216 dX12_locked_142 ?_
        refine j_iload_n X 2 dX12_locked_145 rfl rfl ?_
        refine j_i2l X dX12_locked_146 ?_
        refine j_lsub X dX12_locked_147 ?_
        refine j_lmul X dX12_locked_148 ?_
        refine j_letL h (fun v29 h => ?_)
        refine j_lstore (ls' := [some (.ref 89), some (.int p1), some (.int p2), some (.int p3), some (.int p4), some (.long p5), none, some (.long p7), none, some (.int p9), some (.long v29), none, some (.int x12), none, none]) X dX12_locked_149 (Nat.le_of_ble_eq_true rfl) rfl ?_
        refine j_iinc (v := (x12 + 1)) (ls' := [some (.ref 89), some (.int p1), some (.int p2), some (.int p3), some (.int p4), some (.long p5), none, some (.long p7), none, some (.int p9), some (.long v29), none, some (.int (x12 + 1)), none, none]) X dX12_locked_151 rfl rfl (Nat.le_of_ble_eq_true rfl) rfl ?_
        refine j_goto (tgt := 100) X dX12_locked_154 (by decide) ?_
        exact ih (v29, (x12 + 1)) σ27 _ h kk
      · refine j_iload_n X 2 dX12_locked_137 rfl rfl ?_
        refine j_i2l X dX12_locked_138 ?_
        refine j_goto (tgt := 148) X dX12_locked_139 (by decide) ?_
        refine j_lmul X dX12_locked_148 ?_
        refine j_letL h (fun v30 h => ?_)
        refine j_lstore (ls' := [some (.ref 89), some (.int p1), some (.int p2), some (.int p3), some (.int p4), some (.long p5), none, some (.long p7), none, some (.int p9), some (.long v30), none, some (.int x12), none, none]) X dX12_locked_149 (Nat.le_of_ble_eq_true rfl) rfl ?_
        refine j_iinc (v := (x12 + 1)) (ls' := [some (.ref 89), some (.int p1), some (.int p2), some (.int p3), some (.int p4), some (.long p5), none, some (.long p7), none, some (.int p9), some (.long v30), none, some (.int (x12 + 1)), none, none]) X dX12_locked_151 rfl rfl (Nat.le_of_ble_eq_true rfl) rfl ?_
        refine j_goto (tgt := 100) X dX12_locked_154 (by decide) ?_
        exact ih (v30, (x12 + 1)) σ27 _ h kk
    · refine j_lconst (v := 1) X dX12_locked_123 (by decide) ?_
      refine j_goto (tgt := 148) X dX12_locked_124 (by decide) ?_
      refine j_lmul X dX12_locked_148 ?_
      refine j_letL h (fun v31 h => ?_)
      refine j_lstore (ls' := [some (.ref 89), some (.int p1), some (.int p2), some (.int p3), some (.int p4), some (.long p5), none, some (.long p7), none, some (.int p9), some (.long v31), none, some (.int x12), none, none]) X dX12_locked_149 (Nat.le_of_ble_eq_true rfl) rfl ?_
      refine j_iinc (v := (x12 + 1)) (ls' := [some (.ref 89), some (.int p1), some (.int p2), some (.int p3), some (.int p4), some (.long p5), none, some (.long p7), none, some (.int p9), some (.long v31), none, some (.int (x12 + 1)), none, none]) X dX12_locked_151 rfl rfl (Nat.le_of_ble_eq_true rfl) rfl ?_
      refine j_goto (tgt := 100) X dX12_locked_154 (by decide) ?_
      exact ih (v31, (x12 + 1)) σ24 _ h kk
theorem X12_locked_L100_ok {K : jK} (X : JX K cX12_locked 15 RX12 3 70) {p1 : Int32} {p2 : Int32} {p3 : Int32} {p4 : Int32} {p5 : Int64} {p7 : Int64} {p9 : Int32}  : ∀ (n : Nat) (s : Int64 × Int32) (σ : jMem) (o : (Int64) × jMem), X12_locked_L100 p1 p2 p3 p4 p5 p7 p9 n s σ = some o → (J K 157 [some (.ref 89), some (.int p1), some (.int p2), some (.int p3), some (.int p4), some (.long p5), none, some (.long p7), none, some (.int p9), some (.long o.1), none, none, none, none] [] o.2) → J K 100 [some (.ref 89), some (.int p1), some (.int p2), some (.int p3), some (.int p4), some (.long p5), none, some (.long p7), none, some (.int p9), some (.long s.1), none, some (.int s.2), none, none] [] σ := by
  intro n
  induction n with
  | zero => intro s σ o h; cases h
  | succ n ih => intro s σ o h; exact X12_locked_L100_bok X  ih (s.1) (s.2) σ o h
def X12_locked_L75_b (p1 : Int32) (p2 : Int32) (p3 : Int32) (p4 : Int32) (rec : Int64 × Int64 × Int32 → jMem → Option ((Int64 × Int64) × jMem)) (x5 : Int64) (x7 : Int64) (x9 : Int32) (σ : jMem) : Option ((Int64 × Int64) × jMem) :=
  jbd (f_X12_allPaths  σ) (fun v19 σ20 =>
  if v19 < x9 then
  some ((x5, x7), σ20)
else
  if ¬ (x9 &&& (p4 ^^^ (-1 : Int32))) = 0 then
  rec (x5, x7, (x9 + 1)) σ20
else
  jbd (X12_locked_L100 (p1) (p2) (p3) (p4) (x5) (x7) (x9) jFU ((1 : Int64), (0 : Int32)) σ20) (fun q32 σ33 =>
  jlet ((x7 + q32)) (fun v34 =>
  if (lg_cmp q32 (0 : Int64)) ≤ 0 then
  jlet ((x5 + (0 : Int64))) (fun v35 =>
  rec (v35, v34, (x9 + 1)) σ33)
else
  jld σ33 93 67 (6 : Int32) (fun v36 =>
  jbd (f_X12_comesThrough (v36 ||| x9) p1 σ33) (fun v37 σ38 =>
  if v37 = 0 then
  jlet ((x5 + (0 : Int64))) (fun v40 =>
  rec (v40, v34, (x9 + 1)) σ38)
else
  jlet ((x5 + q32)) (fun v41 =>
  rec (v41, v34, (x9 + 1)) σ38))))))
def X12_locked_L75 (p1 : Int32) (p2 : Int32) (p3 : Int32) (p4 : Int32) : Nat → Int64 × Int64 × Int32 → jMem → Option ((Int64 × Int64) × jMem) := jloop (fun rec s σ => X12_locked_L75_b p1 p2 p3 p4 rec s.1 s.2.1 s.2.2 σ)
set_option maxRecDepth 100000 in
set_option maxHeartbeats 4000000 in
theorem X12_locked_L75_bok {K : jK} (X : JX K cX12_locked 15 RX12 3 70) {p1 : Int32} {p2 : Int32} {p3 : Int32} {p4 : Int32}  {rec : Int64 × Int64 × Int32 → jMem → Option ((Int64 × Int64) × jMem)} (ih : ∀ (s : Int64 × Int64 × Int32) (σ : jMem) (o : (Int64 × Int64) × jMem), rec s σ = some o → (J K 206 [none, none, none, some (.int p3), none, some (.long o.1.1), none, some (.long o.1.2), none, none, none, none, none, none, none] [] o.2) → J K 75 [some (.ref 89), some (.int p1), some (.int p2), some (.int p3), some (.int p4), some (.long s.1), none, some (.long s.2.1), none, some (.int s.2.2), none, none, none, none, none] [] σ) : ∀ (x5 : Int64) (x7 : Int64) (x9 : Int32) (σ : jMem) (o : (Int64 × Int64) × jMem), X12_locked_L75_b p1 p2 p3 p4 rec x5 x7 x9 σ = some o → (J K 206 [none, none, none, some (.int p3), none, some (.long o.1.1), none, some (.long o.1.2), none, none, none, none, none, none, none] [] o.2) → J K 75 [some (.ref 89), some (.int p1), some (.int p2), some (.int p3), some (.int p4), some (.long x5), none, some (.long x7), none, some (.int x9), none, none, none, none, none] [] σ := by
  intro x5 x7 x9 σ o h kk
  unfold X12_locked_L75_b at h
  refine j_iload X dX12_locked_75 rfl ?_
  refine j_aload_n X 0 dX12_locked_77 rfl rfl ?_
  obtain ⟨v19, σ20, hm21, h⟩ := jbd_some h
  refine j_callV (as := []) (st := [.int x9]) (st1 := [.int v19, .int x9]) X ln_89 ly_89 rfl rfl sv_RX12_157 ⟨by decide, by decide⟩ rfl rfl (Nat.le_of_ble_eq_true rfl) rfl dX12_locked_78 jrv_i (c_X12_allPaths  hm21) rfl ?_
  refine j_icmp_gt (tgt := 206) X dX12_locked_81 (by decide) h (fun h => ?_) (fun h => ?_)
  · obtain rfl := Option.some.inj h
    exact j_sub (ls' := [none, none, none, some (.int p3), none, some (.long x5), none, some (.long x7), none, none, none, none, none, none, none]) ⟨Or.inl rfl, Or.inl rfl, Or.inl rfl, Or.inr rfl, Or.inl rfl, Or.inr rfl, Or.inl rfl, Or.inr rfl, Or.inl rfl, Or.inl rfl, Or.inl rfl, Or.inl rfl, Or.inl rfl, Or.inl rfl, Or.inl rfl, trivial⟩ kk
  · refine j_iload X dX12_locked_84 rfl ?_
    refine j_iload X dX12_locked_86 rfl ?_
    refine j_iconst (v := -1) X dX12_locked_88 (by decide) ?_
    refine j_ixor X dX12_locked_89 ?_
    refine j_iand X dX12_locked_90 ?_
    refine j_if_ne (tgt := 200) X dX12_locked_91 (by decide) h (fun h => ?_) (fun h => ?_)
    · refine j_iinc (v := (x9 + 1)) (ls' := [some (.ref 89), some (.int p1), some (.int p2), some (.int p3), some (.int p4), some (.long x5), none, some (.long x7), none, some (.int (x9 + 1)), none, none, none, none, none]) X dX12_locked_200 rfl rfl (Nat.le_of_ble_eq_true rfl) rfl ?_
      refine j_goto (tgt := 75) X dX12_locked_203 (by decide) ?_
      exact ih (x5, x7, (x9 + 1)) σ20 _ h kk
    · refine j_lconst (v := 1) X dX12_locked_94 (by decide) ?_
      refine j_lstore (ls' := [some (.ref 89), some (.int p1), some (.int p2), some (.int p3), some (.int p4), some (.long x5), none, some (.long x7), none, some (.int x9), some (.long (1 : Int64)), none, none, none, none]) X dX12_locked_95 (Nat.le_of_ble_eq_true rfl) rfl ?_
      refine j_iconst (v := 0) X dX12_locked_97 (by decide) ?_
      refine j_istore (ls' := [some (.ref 89), some (.int p1), some (.int p2), some (.int p3), some (.int p4), some (.long x5), none, some (.long x7), none, some (.int x9), some (.long (1 : Int64)), none, some (.int (0 : Int32)), none, none]) X dX12_locked_98 (Nat.le_of_ble_eq_true rfl) rfl ?_
      obtain ⟨q32, σ33, hL42, h⟩ := jbd_some h
      refine X12_locked_L100_ok X  jFU ((1 : Int64), (0 : Int32)) σ20 _ hL42 ?_
      refine j_lload X dX12_locked_157 rfl ?_
      refine j_lload X dX12_locked_159 rfl ?_
      refine j_ladd X dX12_locked_161 ?_
      refine j_letL h (fun v34 h => ?_)
      refine j_lstore (ls' := [some (.ref 89), some (.int p1), some (.int p2), some (.int p3), some (.int p4), some (.long x5), none, some (.long v34), none, some (.int x9), some (.long q32), none, none, none, none]) X dX12_locked_162 (Nat.le_of_ble_eq_true rfl) rfl ?_
      refine j_lload X dX12_locked_164 rfl ?_
      refine j_lload X dX12_locked_166 rfl ?_
      refine j_lconst (v := 0) X dX12_locked_168 (by decide) ?_
      refine j_lcmp X dX12_locked_169 ?_
      refine j_if_le (tgt := 196) X dX12_locked_170 (by decide) h (fun h => ?_) (fun h => ?_)
      · refine j_lconst (v := 0) X dX12_locked_196 (by decide) ?_
        refine j_ladd X dX12_locked_197 ?_
        refine j_letL h (fun v35 h => ?_)
        refine j_lstore (ls' := [some (.ref 89), some (.int p1), some (.int p2), some (.int p3), some (.int p4), some (.long v35), none, some (.long v34), none, some (.int x9), some (.long q32), none, none, none, none]) X dX12_locked_198 (Nat.le_of_ble_eq_true rfl) rfl ?_
        refine j_iinc (v := (x9 + 1)) (ls' := [some (.ref 89), some (.int p1), some (.int p2), some (.int p3), some (.int p4), some (.long v35), none, some (.long v34), none, some (.int (x9 + 1)), some (.long q32), none, none, none, none]) X dX12_locked_200 rfl rfl (Nat.le_of_ble_eq_true rfl) rfl ?_
        refine j_goto (tgt := 75) X dX12_locked_203 (by decide) ?_
        exact j_sub (ls' := [some (.ref 89), some (.int p1), some (.int p2), some (.int p3), some (.int p4), some (.long v35), none, some (.long v34), none, some (.int (x9 + 1)), none, none, none, none, none]) ⟨Or.inr rfl, Or.inr rfl, Or.inr rfl, Or.inr rfl, Or.inr rfl, Or.inr rfl, Or.inl rfl, Or.inr rfl, Or.inl rfl, Or.inr rfl, Or.inl rfl, Or.inl rfl, Or.inl rfl, Or.inl rfl, Or.inl rfl, trivial⟩ (ih (v35, v34, (x9 + 1)) σ33 _ h kk)
      · refine j_aload_n X 0 dX12_locked_173 rfl rfl ?_
        refine j_aload_n X 0 dX12_locked_174 rfl rfl ?_
        refine j_getR (t := 93) X fg_RX12_19 ln_89 ly_89 rfl dX12_locked_175 ?_
        refine j_bipush (v := 6) X dX12_locked_178 (by decide) ?_
        refine j_iaload X ln_93 ly_93 dX12_locked_180 h (fun v36 h => ?_)
        refine j_iload X dX12_locked_181 rfl ?_
        refine j_ior X dX12_locked_183 ?_
        refine j_iload_n X 1 dX12_locked_184 rfl rfl ?_
        obtain ⟨v37, σ38, hm39, h⟩ := jbd_some h
        refine j_callV (as := [.int (v36 ||| x9), .int p1]) (st := [.long x5]) (st1 := [.int v37, .long x5]) X ln_89 ly_89 rfl rfl sv_RX12_249 ⟨by decide, by decide⟩ rfl rfl (Nat.le_of_ble_eq_true rfl) rfl dX12_locked_185 jrv_i (c_X12_comesThrough  hm39) rfl ?_
        refine j_if_eq (tgt := 196) X dX12_locked_188 (by decide) h (fun h => ?_) (fun h => ?_)
        · refine j_lconst (v := 0) X dX12_locked_196 (by decide) ?_
          refine j_ladd X dX12_locked_197 ?_
          refine j_letL h (fun v40 h => ?_)
          refine j_lstore (ls' := [some (.ref 89), some (.int p1), some (.int p2), some (.int p3), some (.int p4), some (.long v40), none, some (.long v34), none, some (.int x9), some (.long q32), none, none, none, none]) X dX12_locked_198 (Nat.le_of_ble_eq_true rfl) rfl ?_
          refine j_iinc (v := (x9 + 1)) (ls' := [some (.ref 89), some (.int p1), some (.int p2), some (.int p3), some (.int p4), some (.long v40), none, some (.long v34), none, some (.int (x9 + 1)), some (.long q32), none, none, none, none]) X dX12_locked_200 rfl rfl (Nat.le_of_ble_eq_true rfl) rfl ?_
          refine j_goto (tgt := 75) X dX12_locked_203 (by decide) ?_
          exact j_sub (ls' := [some (.ref 89), some (.int p1), some (.int p2), some (.int p3), some (.int p4), some (.long v40), none, some (.long v34), none, some (.int (x9 + 1)), none, none, none, none, none]) ⟨Or.inr rfl, Or.inr rfl, Or.inr rfl, Or.inr rfl, Or.inr rfl, Or.inr rfl, Or.inl rfl, Or.inr rfl, Or.inl rfl, Or.inr rfl, Or.inl rfl, Or.inl rfl, Or.inl rfl, Or.inl rfl, Or.inl rfl, trivial⟩ (ih (v40, v34, (x9 + 1)) σ38 _ h kk)
        · refine j_lload X dX12_locked_191 rfl ?_
          refine j_goto (tgt := 197) X dX12_locked_193 (by decide) ?_
          refine j_ladd X dX12_locked_197 ?_
          refine j_letL h (fun v41 h => ?_)
          refine j_lstore (ls' := [some (.ref 89), some (.int p1), some (.int p2), some (.int p3), some (.int p4), some (.long v41), none, some (.long v34), none, some (.int x9), some (.long q32), none, none, none, none]) X dX12_locked_198 (Nat.le_of_ble_eq_true rfl) rfl ?_
          refine j_iinc (v := (x9 + 1)) (ls' := [some (.ref 89), some (.int p1), some (.int p2), some (.int p3), some (.int p4), some (.long v41), none, some (.long v34), none, some (.int (x9 + 1)), some (.long q32), none, none, none, none]) X dX12_locked_200 rfl rfl (Nat.le_of_ble_eq_true rfl) rfl ?_
          refine j_goto (tgt := 75) X dX12_locked_203 (by decide) ?_
          exact j_sub (ls' := [some (.ref 89), some (.int p1), some (.int p2), some (.int p3), some (.int p4), some (.long v41), none, some (.long v34), none, some (.int (x9 + 1)), none, none, none, none, none]) ⟨Or.inr rfl, Or.inr rfl, Or.inr rfl, Or.inr rfl, Or.inr rfl, Or.inr rfl, Or.inl rfl, Or.inr rfl, Or.inl rfl, Or.inr rfl, Or.inl rfl, Or.inl rfl, Or.inl rfl, Or.inl rfl, Or.inl rfl, trivial⟩ (ih (v41, v34, (x9 + 1)) σ38 _ h kk)
theorem X12_locked_L75_ok {K : jK} (X : JX K cX12_locked 15 RX12 3 70) {p1 : Int32} {p2 : Int32} {p3 : Int32} {p4 : Int32}  : ∀ (n : Nat) (s : Int64 × Int64 × Int32) (σ : jMem) (o : (Int64 × Int64) × jMem), X12_locked_L75 p1 p2 p3 p4 n s σ = some o → (J K 206 [none, none, none, some (.int p3), none, some (.long o.1.1), none, some (.long o.1.2), none, none, none, none, none, none, none] [] o.2) → J K 75 [some (.ref 89), some (.int p1), some (.int p2), some (.int p3), some (.int p4), some (.long s.1), none, some (.long s.2.1), none, some (.int s.2.2), none, none, none, none, none] [] σ := by
  intro n
  induction n with
  | zero => intro s σ o h; cases h
  | succ n ih => intro s σ o h; exact X12_locked_L75_bok X  ih (s.1) (s.2.1) (s.2.2) σ o h
def X12_locked_L214_b (p3 : Int32) (p5 : Int64) (p7 : Int64) (rec : Int64 × Int64 → jMem → Option ((Int64) × jMem)) (x9 : Int64) (x11 : Int64) (σ : jMem) : Option ((Int64) × jMem) :=
  if (lg_cmp x11 (0 : Int64)) = 0 then
  some (x9, σ)
else
  jck (¬ x11 = 0) (
  jlet ((x9 - x9 / x11 * x11)) (fun v45 =>
  rec (x11, v45) σ))
def X12_locked_L214 (p3 : Int32) (p5 : Int64) (p7 : Int64) : Nat → Int64 × Int64 → jMem → Option ((Int64) × jMem) := jloop (fun rec s σ => X12_locked_L214_b p3 p5 p7 rec s.1 s.2 σ)
set_option maxRecDepth 100000 in
set_option maxHeartbeats 4000000 in
theorem X12_locked_L214_bok {K : jK} (X : JX K cX12_locked 15 RX12 3 70) {p3 : Int32} {p5 : Int64} {p7 : Int64}  {rec : Int64 × Int64 → jMem → Option ((Int64) × jMem)} (ih : ∀ (s : Int64 × Int64) (σ : jMem) (o : (Int64) × jMem), rec s σ = some o → (J K 239 [none, none, none, some (.int p3), none, some (.long p5), none, some (.long p7), none, some (.long o.1), none, none, none, none, none] [] o.2) → J K 214 [none, none, none, some (.int p3), none, some (.long p5), none, some (.long p7), none, some (.long s.1), none, some (.long s.2), none, none, none] [] σ) : ∀ (x9 : Int64) (x11 : Int64) (σ : jMem) (o : (Int64) × jMem), X12_locked_L214_b p3 p5 p7 rec x9 x11 σ = some o → (J K 239 [none, none, none, some (.int p3), none, some (.long p5), none, some (.long p7), none, some (.long o.1), none, none, none, none, none] [] o.2) → J K 214 [none, none, none, some (.int p3), none, some (.long p5), none, some (.long p7), none, some (.long x9), none, some (.long x11), none, none, none] [] σ := by
  intro x9 x11 σ o h kk
  unfold X12_locked_L214_b at h
  refine j_lload X dX12_locked_214 rfl ?_
  refine j_lconst (v := 0) X dX12_locked_216 (by decide) ?_
  refine j_lcmp X dX12_locked_217 ?_
  refine j_if_eq (tgt := 239) X dX12_locked_218 (by decide) h (fun h => ?_) (fun h => ?_)
  · obtain rfl := Option.some.inj h
    exact j_sub (ls' := [none, none, none, some (.int p3), none, some (.long p5), none, some (.long p7), none, some (.long x9), none, none, none, none, none]) ⟨Or.inl rfl, Or.inl rfl, Or.inl rfl, Or.inr rfl, Or.inl rfl, Or.inr rfl, Or.inl rfl, Or.inr rfl, Or.inl rfl, Or.inr rfl, Or.inl rfl, Or.inl rfl, Or.inl rfl, Or.inl rfl, Or.inl rfl, trivial⟩ kk
  · refine j_lload X dX12_locked_221 rfl ?_
    refine j_lload X dX12_locked_223 rfl ?_
    obtain ⟨hc46, h⟩ := jck_some h
    refine j_lrem X dX12_locked_225 hc46 ?_
    refine j_letL h (fun v45 h => ?_)
    refine j_lstore (ls' := [none, none, none, some (.int p3), none, some (.long p5), none, some (.long p7), none, some (.long x9), none, some (.long x11), none, some (.long v45), none]) X dX12_locked_226 (Nat.le_of_ble_eq_true rfl) rfl ?_
    refine j_lload X dX12_locked_228 rfl ?_
    refine j_lstore (ls' := [none, none, none, some (.int p3), none, some (.long p5), none, some (.long p7), none, some (.long x11), none, some (.long x11), none, some (.long v45), none]) X dX12_locked_230 (Nat.le_of_ble_eq_true rfl) rfl ?_
    refine j_lload X dX12_locked_232 rfl ?_
    refine j_lstore (ls' := [none, none, none, some (.int p3), none, some (.long p5), none, some (.long p7), none, some (.long x11), none, some (.long v45), none, some (.long v45), none]) X dX12_locked_234 (Nat.le_of_ble_eq_true rfl) rfl ?_
    refine j_goto (tgt := 214) X dX12_locked_236 (by decide) ?_
    exact j_sub (ls' := [none, none, none, some (.int p3), none, some (.long p5), none, some (.long p7), none, some (.long x11), none, some (.long v45), none, none, none]) ⟨Or.inl rfl, Or.inl rfl, Or.inl rfl, Or.inr rfl, Or.inl rfl, Or.inr rfl, Or.inl rfl, Or.inr rfl, Or.inl rfl, Or.inr rfl, Or.inl rfl, Or.inr rfl, Or.inl rfl, Or.inl rfl, Or.inl rfl, trivial⟩ (ih (x11, v45) σ _ h kk)
theorem X12_locked_L214_ok {K : jK} (X : JX K cX12_locked 15 RX12 3 70) {p3 : Int32} {p5 : Int64} {p7 : Int64}  : ∀ (n : Nat) (s : Int64 × Int64) (σ : jMem) (o : (Int64) × jMem), X12_locked_L214 p3 p5 p7 n s σ = some o → (J K 239 [none, none, none, some (.int p3), none, some (.long p5), none, some (.long p7), none, some (.long o.1), none, none, none, none, none] [] o.2) → J K 214 [none, none, none, some (.int p3), none, some (.long p5), none, some (.long p7), none, some (.long s.1), none, some (.long s.2), none, none, none] [] σ := by
  intro n
  induction n with
  | zero => intro s σ o h; cases h
  | succ n ih => intro s σ o h; exact X12_locked_L214_bok X  ih (s.1) (s.2) σ o h
def f_X12_locked (a0 : Int32) (a1 : Int32) (a2 : Int32) (σ : jMem) : Option (Int64 × jMem) :=
  jlet (jset σ 89 0 (0 : Int32)) (fun σ1 =>
  jbd (f_X12_isThere  σ1) (fun v2 σ3 =>
  if ¬ v2 = 0 then
  jbd (f_X12_isField ((a0).toInt64) σ3) (fun v5 σ6 =>
  if v5 = 0 then
  some (((-1000001 : Int64), σ6))
else
  jbd (f_X12_in ((a1).toInt64) (0 : Int64) (10 : Int64) σ6) (fun v8 σ9 =>
  if v8 = 0 then
  some (((-1000001 : Int64), σ9))
else
  jbd (f_X12_in ((a2).toInt64) (0 : Int64) (1 : Int64) σ9) (fun v11 σ12 =>
  if ¬ v11 = 0 then
  jbd (f_X12_allPaths  σ12) (fun v14 σ15 =>
  jld σ15 93 67 (6 : Int32) (fun v17 =>
  jlet ((v14 &&& (v17 ^^^ (-1 : Int32)))) (fun v18 =>
  jbd (X12_locked_L75 (a0) (a1) (a2) (v18) jFU ((0 : Int64), (0 : Int64), (0 : Int32)) σ15) (fun q43 σ44 =>
  jbd (X12_locked_L214 (a2) (q43.1) (q43.2) jFU (q43.1, q43.2) σ44) (fun q47 σ48 =>
  if ¬ a2 = 0 then
  jck (¬ q47 = 0) (
  some (((q43.2 / q47), σ48)))
else
  jck (¬ q47 = 0) (
  some (((q43.1 / q47), σ48))))))))
else
  some (((-1000001 : Int64), σ12)))))
else
  some (((-1000002 : Int64), σ3))))
set_option maxRecDepth 100000 in
set_option maxHeartbeats 4000000 in
theorem c_X12_locked {l : Launch} {D : va_G} {ad : Nat → Nat} {cid : Nat → ClassId} {a0 : Int32} {a1 : Int32} {a2 : Int32}  {σ : jMem} {r : Int64} {σ' : jMem} (h : f_X12_locked a0 a1 a2 σ = some (r, σ')) : jMet l D ad cid yX12_locked cX12_locked 15 (some .long) 3 70 [.ref 89, .int a0, .int a1, .int a2] σ (some (.long r)) σ' := by
  refine jMet_of (ls0 := [some (.ref 89), some (.int a0), some (.int a1), some (.int a2), none, none, none, none, none, none, none, none, none, none, none]) (by decide) (Nat.le_of_ble_eq_true rfl) rfl (fun K X R0 _ => ?_)
  unfold f_X12_locked at h
  refine j_aload_n X 0 dX12_locked_0 rfl rfl ?_
  refine j_iconst (v := 0) X dX12_locked_1 (by decide) ?_
  refine j_put X fp_RX12_47 ln_89 ly_89 rfl rfl rfl dX12_locked_2 h (fun σ1 h => ?_)
  refine j_aload_n X 0 dX12_locked_5 rfl rfl ?_
  obtain ⟨v2, σ3, hm4, h⟩ := jbd_some h
  refine j_callV (as := []) (st := []) (st1 := [.int v2]) X ln_89 ly_89 rfl rfl sv_RX12_203 ⟨by decide, by decide⟩ rfl rfl (Nat.le_of_ble_eq_true rfl) rfl dX12_locked_6 jrv_i (c_X12_isThere  hm4) rfl ?_
  refine j_if_ne (tgt := 16) X dX12_locked_9 (by decide) h (fun h => ?_) (fun h => ?_)
  · refine j_iload_n X 1 dX12_locked_16 rfl rfl ?_
    refine j_i2l X dX12_locked_17 ?_
    obtain ⟨v5, σ6, hm7, h⟩ := jbd_some h
    refine j_callS (as := [.long ((a0).toInt64)]) (st := []) (st1 := [.int v5]) X ss_RX12_207 ⟨by decide, by decide⟩ rfl rfl (Nat.le_of_ble_eq_true rfl) rfl dX12_locked_18 jrv_i (c_X12_isField  hm7) rfl ?_
    refine j_if_eq (tgt := 46) X dX12_locked_21 (by decide) h (fun h => ?_) (fun h => ?_)
    · refine j_ldc2_w (v := -1000001) X tw_1217 dX12_locked_46 ?_
      obtain ⟨rfl, rfl⟩ := jin2 h
      exact j_lret X R0 dX12_locked_49
    · refine j_iload_n X 2 dX12_locked_24 rfl rfl ?_
      refine j_i2l X dX12_locked_25 ?_
      refine j_lconst (v := 0) X dX12_locked_26 (by decide) ?_
      refine j_ldc2_w (v := 10) X tw_1216 dX12_locked_27 ?_
      obtain ⟨v8, σ9, hm10, h⟩ := jbd_some h
      refine j_callS (as := [.long ((a1).toInt64), .long (0 : Int64), .long (10 : Int64)]) (st := []) (st1 := [.int v8]) X ss_RX12_57 ⟨by decide, by decide⟩ rfl rfl (Nat.le_of_ble_eq_true rfl) rfl dX12_locked_30 jrv_i (c_X12_in  hm10) rfl ?_
      refine j_if_eq (tgt := 46) X dX12_locked_33 (by decide) h (fun h => ?_) (fun h => ?_)
      · refine j_ldc2_w (v := -1000001) X tw_1217 dX12_locked_46 ?_
        obtain ⟨rfl, rfl⟩ := jin2 h
        exact j_lret X R0 dX12_locked_49
      · refine j_iload_n X 3 dX12_locked_36 rfl rfl ?_
        refine j_i2l X dX12_locked_37 ?_
        refine j_lconst (v := 0) X dX12_locked_38 (by decide) ?_
        refine j_lconst (v := 1) X dX12_locked_39 (by decide) ?_
        obtain ⟨v11, σ12, hm13, h⟩ := jbd_some h
        refine j_callS (as := [.long ((a2).toInt64), .long (0 : Int64), .long (1 : Int64)]) (st := []) (st1 := [.int v11]) X ss_RX12_57 ⟨by decide, by decide⟩ rfl rfl (Nat.le_of_ble_eq_true rfl) rfl dX12_locked_40 jrv_i (c_X12_in  hm13) rfl ?_
        refine j_if_ne (tgt := 50) X dX12_locked_43 (by decide) h (fun h => ?_) (fun h => ?_)
        · refine j_aload_n X 0 dX12_locked_50 rfl rfl ?_
          obtain ⟨v14, σ15, hm16, h⟩ := jbd_some h
          refine j_callV (as := []) (st := []) (st1 := [.int v14]) X ln_89 ly_89 rfl rfl sv_RX12_157 ⟨by decide, by decide⟩ rfl rfl (Nat.le_of_ble_eq_true rfl) rfl dX12_locked_51 jrv_i (c_X12_allPaths  hm16) rfl ?_
          refine j_aload_n X 0 dX12_locked_54 rfl rfl ?_
          refine j_getR (t := 93) X fg_RX12_19 ln_89 ly_89 rfl dX12_locked_55 ?_
          refine j_bipush (v := 6) X dX12_locked_58 (by decide) ?_
          refine j_iaload X ln_93 ly_93 dX12_locked_60 h (fun v17 h => ?_)
          refine j_iconst (v := -1) X dX12_locked_61 (by decide) ?_
          refine j_ixor X dX12_locked_62 ?_
          refine j_iand X dX12_locked_63 ?_
          refine j_letI h (fun v18 h => ?_)
          refine j_istore (ls' := [some (.ref 89), some (.int a0), some (.int a1), some (.int a2), some (.int v18), none, none, none, none, none, none, none, none, none, none]) X dX12_locked_64 (Nat.le_of_ble_eq_true rfl) rfl ?_
          refine j_lconst (v := 0) X dX12_locked_66 (by decide) ?_
          refine j_lstore (ls' := [some (.ref 89), some (.int a0), some (.int a1), some (.int a2), some (.int v18), some (.long (0 : Int64)), none, none, none, none, none, none, none, none, none]) X dX12_locked_67 (Nat.le_of_ble_eq_true rfl) rfl ?_
          refine j_lconst (v := 0) X dX12_locked_69 (by decide) ?_
          refine j_lstore (ls' := [some (.ref 89), some (.int a0), some (.int a1), some (.int a2), some (.int v18), some (.long (0 : Int64)), none, some (.long (0 : Int64)), none, none, none, none, none, none, none]) X dX12_locked_70 (Nat.le_of_ble_eq_true rfl) rfl ?_
          refine j_iconst (v := 0) X dX12_locked_72 (by decide) ?_
          refine j_istore (ls' := [some (.ref 89), some (.int a0), some (.int a1), some (.int a2), some (.int v18), some (.long (0 : Int64)), none, some (.long (0 : Int64)), none, some (.int (0 : Int32)), none, none, none, none, none]) X dX12_locked_73 (Nat.le_of_ble_eq_true rfl) rfl ?_
          obtain ⟨q43, σ44, hL52, h⟩ := jbd_some h
          refine X12_locked_L75_ok X  jFU ((0 : Int64), (0 : Int64), (0 : Int32)) σ15 _ hL52 ?_
          refine j_lload X dX12_locked_206 rfl ?_
          refine j_lstore (ls' := [none, none, none, some (.int a2), none, some (.long q43.1), none, some (.long q43.2), none, some (.long q43.1), none, none, none, none, none]) X dX12_locked_208 (Nat.le_of_ble_eq_true rfl) rfl ?_
          refine j_lload X dX12_locked_210 rfl ?_
          refine j_lstore (ls' := [none, none, none, some (.int a2), none, some (.long q43.1), none, some (.long q43.2), none, some (.long q43.1), none, some (.long q43.2), none, none, none]) X dX12_locked_212 (Nat.le_of_ble_eq_true rfl) rfl ?_
          obtain ⟨q47, σ48, hL51, h⟩ := jbd_some h
          refine X12_locked_L214_ok X  jFU (q43.1, q43.2) σ44 _ hL51 ?_
          refine j_iload_n X 3 dX12_locked_239 rfl rfl ?_
          refine j_if_ne (tgt := 248) X dX12_locked_240 (by decide) h (fun h => ?_) (fun h => ?_)
          · refine j_lload X dX12_locked_248 rfl ?_
            refine j_lload X dX12_locked_250 rfl ?_
            obtain ⟨hc49, h⟩ := jck_some h
            refine j_ldiv X dX12_locked_252 hc49 ?_
            obtain ⟨rfl, rfl⟩ := jin2 h
            exact j_lret X R0 dX12_locked_253
          · refine j_lload X dX12_locked_243 rfl ?_
            refine j_goto (tgt := 250) X dX12_locked_245 (by decide) ?_
            refine j_lload X dX12_locked_250 rfl ?_
            obtain ⟨hc50, h⟩ := jck_some h
            refine j_ldiv X dX12_locked_252 hc50 ?_
            obtain ⟨rfl, rfl⟩ := jin2 h
            exact j_lret X R0 dX12_locked_253
        · refine j_ldc2_w (v := -1000001) X tw_1217 dX12_locked_46 ?_
          obtain ⟨rfl, rfl⟩ := jin2 h
          exact j_lret X R0 dX12_locked_49
  · refine j_ldc2_w (v := -1000002) X tw_1215 dX12_locked_12 ?_
    obtain ⟨rfl, rfl⟩ := jin2 h
    exact j_lret X R0 dX12_locked_15
