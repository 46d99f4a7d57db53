theorem sv_RX11_229 : jSiV RX11 229 yX5_swears cX5_swears 2 (some .int) 1 := ⟨tw_625, tw_571, tw_572, tw_10, tw_573, by decide, by decide, by decide +kernel⟩
def f_X11_witness (a0 : Int32) (a1 : Int32) (σ : jMem) : Option (Int32 × jMem) :=
  jbd (f_X5_hasWitness 22 a0 σ) (fun v1 σ2 =>
  if ¬ v1 = 0 then
  if a1 = 0 then
  jld σ2 28 6 a0 (fun v5 =>
  some ((v5, σ2)))
else
  if a1 = 1 then
  jld σ2 27 6 a0 (fun v7 =>
  some ((v7, σ2)))
else
  if a1 = 2 then
  jbd (f_X5_isAlive 22 a0 σ2) (fun v9 σ10 =>
  if v9 = 0 then
  some (((0 : Int32), σ10))
else
  some (((1 : Int32), σ10)))
else
  if a1 = 3 then
  jbd (f_X5_swears 22 a0 σ2) (fun v13 σ14 =>
  some ((v13, σ14)))
else
  some (((-1000001 : Int32), σ2))
else
  some (((-1000001 : Int32), σ2)))
set_option maxRecDepth 100000 in
set_option maxHeartbeats 4000000 in
theorem c_X11_witness {l : Launch} {D : va_G} {ad : Nat → Nat} {cid : Nat → ClassId} {a0 : Int32} {a1 : Int32}  {σ : jMem} {r : Int32} {σ' : jMem} (h : f_X11_witness a0 a1 σ = some (r, σ')) : jMet l D ad cid yX11_witness cX11_witness 3 (some .int) 3 63 [.ref 0, .int a0, .int a1] σ (some (.int r)) σ' := by
  refine jMet_of (ls0 := [some (.ref 0), some (.int a0), some (.int a1)]) (by decide) (Nat.le_of_ble_eq_true rfl) rfl (fun K X R0 _ => ?_)
  unfold f_X11_witness at h
  refine j_aload_n X 0 dX11_witness_0 rfl rfl ?_
  refine j_getR (t := 22) X fg_RX11_50 ln_0 ly_0 rfl dX11_witness_1 ?_
  refine j_iload_n X 1 dX11_witness_4 rfl rfl ?_
  obtain ⟨v1, σ2, hm3, h⟩ := jbd_some h
  refine j_callV (as := [.int a0]) (st := []) (st1 := [.int v1]) X ln_22 ly_22 rfl rfl sv_RX11_214 ⟨by decide, by decide⟩ rfl rfl (Nat.le_of_ble_eq_true rfl) rfl dX11_witness_5 jrv_i (c_X5_hasWitness jisP_22 hm3) rfl ?_
  refine j_if_ne (tgt := 14) X dX11_witness_8 (by decide) h (fun h => ?_) (fun h => ?_)
  · refine j_iload_n X 2 dX11_witness_14 rfl rfl ?_
    by_cases hs4 : a1 = 0
    · rw [if_pos hs4] at h
      refine j_tab (tgt := 44) X dX11_witness_15 0 hs4 (by decide) (by decide) rfl (by decide) ?_
      refine j_aload_n X 0 dX11_witness_44 rfl rfl ?_
      refine j_getR (t := 22) X fg_RX11_50 ln_0 ly_0 rfl dX11_witness_45 ?_
      refine j_getR (t := 28) X fg_RX11_220 ln_22 ly_22 rfl dX11_witness_48 ?_
      refine j_iload_n X 1 dX11_witness_51 rfl rfl ?_
      refine j_iaload X ln_28 ly_28 dX11_witness_52 h (fun v5 h => ?_)
      obtain ⟨rfl, rfl⟩ := jin2 h
      exact j_iret X R0 dX11_witness_53
    · rw [if_neg hs4] at h
      by_cases hs6 : a1 = 1
      · rw [if_pos hs6] at h
        refine j_tab (tgt := 54) X dX11_witness_15 1 hs6 (by decide) (by decide) rfl (by decide) ?_
        refine j_aload_n X 0 dX11_witness_54 rfl rfl ?_
        refine j_getR (t := 22) X fg_RX11_50 ln_0 ly_0 rfl dX11_witness_55 ?_
        refine j_getR (t := 27) X fg_RX11_226 ln_22 ly_22 rfl dX11_witness_58 ?_
        refine j_iload_n X 1 dX11_witness_61 rfl rfl ?_
        refine j_iaload X ln_27 ly_27 dX11_witness_62 h (fun v7 h => ?_)
        obtain ⟨rfl, rfl⟩ := jin2 h
        exact j_iret X R0 dX11_witness_63
      · rw [if_neg hs6] at h
        by_cases hs8 : a1 = 2
        · rw [if_pos hs8] at h
          refine j_tab (tgt := 64) X dX11_witness_15 2 hs8 (by decide) (by decide) rfl (by decide) ?_
          refine j_aload_n X 0 dX11_witness_64 rfl rfl ?_
          refine j_getR (t := 22) X fg_RX11_50 ln_0 ly_0 rfl dX11_witness_65 ?_
          refine j_iload_n X 1 dX11_witness_68 rfl rfl ?_
          obtain ⟨v9, σ10, hm11, h⟩ := jbd_some h
          refine j_callV (as := [.int a0]) (st := []) (st1 := [.int v9]) X ln_22 ly_22 rfl rfl sv_RX11_217 ⟨by decide, by decide⟩ rfl rfl (Nat.le_of_ble_eq_true rfl) rfl dX11_witness_69 jrv_i (c_X5_isAlive jisP_22 hm11) rfl ?_
          refine j_if_eq (tgt := 79) X dX11_witness_72 (by decide) h (fun h => ?_) (fun h => ?_)
          · refine j_iconst (v := 0) X dX11_witness_79 (by decide) ?_
            obtain ⟨rfl, rfl⟩ := jin2 h
            exact j_iret X R0 dX11_witness_80
          · refine j_iconst (v := 1) X dX11_witness_75 (by decide) ?_
            refine j_goto (tgt := 80) X dX11_witness_76 (by decide) ?_
            obtain ⟨rfl, rfl⟩ := jin2 h
            exact j_iret X R0 dX11_witness_80
        · rw [if_neg hs8] at h
          by_cases hs12 : a1 = 3
          · rw [if_pos hs12] at h
            refine j_tab (tgt := 81) X dX11_witness_15 3 hs12 (by decide) (by decide) rfl (by decide) ?_
            refine j_aload_n X 0 dX11_witness_81 rfl rfl ?_
            refine j_getR (t := 22) X fg_RX11_50 ln_0 ly_0 rfl dX11_witness_82 ?_
            refine j_iload_n X 1 dX11_witness_85 rfl rfl ?_
            obtain ⟨v13, σ14, hm15, h⟩ := jbd_some h
            refine j_callV (as := [.int a0]) (st := []) (st1 := [.int v13]) X ln_22 ly_22 rfl rfl sv_RX11_229 ⟨by decide, by decide⟩ rfl rfl (Nat.le_of_ble_eq_true rfl) rfl dX11_witness_86 jrv_i (c_X5_swears jisP_22 hm15) rfl ?_
            obtain ⟨rfl, rfl⟩ := jin2 h
            exact j_iret X R0 dX11_witness_89
          · rw [if_neg hs12] at h
            refine j_tabo (tgt := 90) X dX11_witness_15 (by have w0 := lv_neT (a := 0) hs4 (by decide); have w1 := lv_neT (a := 1) hs6 (by decide); have w2 := lv_neT (a := 2) hs8 (by decide); have w3 := lv_neT (a := 3) hs12 (by decide); omega) (by decide) ?_
            refine j_ldc (v := -1000001) X tw_318 dX11_witness_90 ?_
            obtain ⟨rfl, rfl⟩ := jin2 h
            exact j_iret X R0 dX11_witness_92
  · refine j_ldc (v := -1000001) X tw_318 dX11_witness_11 ?_
    obtain ⟨rfl, rfl⟩ := jin2 h
    exact j_iret X R0 dX11_witness_13
def X5_swearing_L4_b (p0 : Nat) (p1 : Int32) (rec : Int32 × Int32 → jMem → Option ((Int32) × jMem)) (x2 : Int32) (x3 : Int32) (σ : jMem) : Option ((Int32) × jMem) :=
  if (σ.1 p0 6) ≤ x3 then
  some (x2, σ)
else
  jbd (f_X5_swears p0 x3 σ) (fun v1 σ2 =>
  jbd (f_X11_bitOf v1 p1 σ2) (fun v4 σ5 =>
  jlet ((x2 ||| (v4 <<< (x3 &&& 31)))) (fun v7 =>
  rec (v7, (x3 + 1)) σ5)))
def X5_swearing_L4 (p0 : Nat) (p1 : Int32) : Nat → Int32 × Int32 → jMem → Option ((Int32) × jMem) := jloop (fun rec s σ => X5_swearing_L4_b p0 p1 rec s.1 s.2 σ)
set_option maxRecDepth 100000 in
set_option maxHeartbeats 4000000 in
theorem X5_swearing_L4_bok {K : jK} (X : JX K cX5_swearing 4 RX5 3 63) {p0 : Nat} {p1 : Int32} (hp0 : jisP p0) {rec : Int32 × Int32 → jMem → Option ((Int32) × jMem)} (ih : ∀ (s : Int32 × Int32) (σ : jMem) (o : (Int32) × jMem), rec s σ = some o → (J K 32 [none, none, some (.int o.1), none] [] o.2) → J K 4 [some (.ref p0), some (.int p1), some (.int s.1), some (.int s.2)] [] σ) : ∀ (x2 : Int32) (x3 : Int32) (σ : jMem) (o : (Int32) × jMem), X5_swearing_L4_b p0 p1 rec x2 x3 σ = some o → (J K 32 [none, none, some (.int o.1), none] [] o.2) → J K 4 [some (.ref p0), some (.int p1), some (.int x2), some (.int x3)] [] σ := by
  intro x2 x3 σ o h kk
  unfold X5_swearing_L4_b at h
  refine j_iload_n X 3 dX5_swearing_4 rfl rfl ?_
  refine j_aload_n X 0 dX5_swearing_5 rfl rfl ?_
  refine j_getI X fg_RX5_44 (jp_lt hp0) (jp_ly hp0) rfl dX5_swearing_6 ?_
  refine j_icmp_ge (tgt := 32) X dX5_swearing_9 (by decide) h (fun h => ?_) (fun h => ?_)
  · obtain rfl := Option.some.inj h
    exact j_sub (ls' := [none, none, some (.int x2), none]) ⟨Or.inl rfl, Or.inl rfl, Or.inr rfl, Or.inl rfl, trivial⟩ kk
  · refine j_iload_n X 2 dX5_swearing_12 rfl rfl ?_
    refine j_aload_n X 0 dX5_swearing_13 rfl rfl ?_
    refine j_iload_n X 3 dX5_swearing_14 rfl rfl ?_
    obtain ⟨v1, σ2, hm3, h⟩ := jbd_some h
    refine j_callV (as := [.int x3]) (st := [.int x2]) (st1 := [.int v1, .int x2]) X (jp_lt hp0) (jp_ly hp0) rfl rfl sv_RX5_83 ⟨by decide, by decide⟩ rfl rfl (Nat.le_of_ble_eq_true rfl) rfl dX5_swearing_15 jrv_i (c_X5_swears hp0 hm3) rfl ?_
    refine j_iload_n X 1 dX5_swearing_18 rfl rfl ?_
    obtain ⟨v4, σ5, hm6, h⟩ := jbd_some h
    refine j_callN (as := [.int v1, .int p1]) (st := [.int x2]) (st1 := [.int v4, .int x2]) X sn_RX5_86 ⟨by decide, by decide⟩ rfl rfl (Nat.le_of_ble_eq_true rfl) rfl dX5_swearing_19 jrv_i (c_X11_bitOf  hm6) rfl ?_
    refine j_iload_n X 3 dX5_swearing_22 rfl rfl ?_
    refine j_ishl X dX5_swearing_23 ?_
    refine j_ior X dX5_swearing_24 ?_
    refine j_letI h (fun v7 h => ?_)
    refine j_istore_n (ls' := [some (.ref p0), some (.int p1), some (.int v7), some (.int x3)]) X 2 dX5_swearing_25 rfl (Nat.le_of_ble_eq_true rfl) rfl ?_
    refine j_iinc (v := (x3 + 1)) (ls' := [some (.ref p0), some (.int p1), some (.int v7), some (.int (x3 + 1))]) X dX5_swearing_26 rfl rfl (Nat.le_of_ble_eq_true rfl) rfl ?_
    refine j_goto (tgt := 4) X dX5_swearing_29 (by decide) ?_
    exact ih (v7, (x3 + 1)) σ5 _ h kk
theorem X5_swearing_L4_ok {K : jK} (X : JX K cX5_swearing 4 RX5 3 63) {p0 : Nat} {p1 : Int32} (hp0 : jisP p0) : ∀ (n : Nat) (s : Int32 × Int32) (σ : jMem) (o : (Int32) × jMem), X5_swearing_L4 p0 p1 n s σ = some o → (J K 32 [none, none, some (.int o.1), none] [] o.2) → J K 4 [some (.ref p0), some (.int p1), some (.int s.1), some (.int s.2)] [] σ := by
  intro n
  induction n with
  | zero => intro s σ o h; cases h
  | succ n ih => intro s σ o h; exact X5_swearing_L4_bok X hp0 ih (s.1) (s.2) σ o h
def f_X5_swearing (k : Nat) (a0 : Int32) (σ : jMem) : Option (Int32 × jMem) :=
  jbd (X5_swearing_L4 (k) (a0) jFU ((0 : Int32), (0 : Int32)) σ) (fun q8 σ9 =>
  some ((q8, σ9)))
set_option maxRecDepth 100000 in
set_option maxHeartbeats 4000000 in
theorem c_X5_swearing {l : Launch} {D : va_G} {ad : Nat → Nat} {cid : Nat → ClassId} {k : Nat} {a0 : Int32} (hk : jisP k) {σ : jMem} {r : Int32} {σ' : jMem} (h : f_X5_swearing k a0 σ = some (r, σ')) : jMet l D ad cid yX5_swearing cX5_swearing 4 (some .int) 3 63 [.ref k, .int a0] σ (some (.int r)) σ' := by
  refine jMet_of (ls0 := [some (.ref k), some (.int a0), none, none]) (by decide) (Nat.le_of_ble_eq_true rfl) rfl (fun K X R0 _ => ?_)
  unfold f_X5_swearing at h
  refine j_iconst (v := 0) X dX5_swearing_0 (by decide) ?_
  refine j_istore_n (ls' := [some (.ref k), some (.int a0), some (.int (0 : Int32)), none]) X 2 dX5_swearing_1 rfl (Nat.le_of_ble_eq_true rfl) rfl ?_
  refine j_iconst (v := 0) X dX5_swearing_2 (by decide) ?_
  refine j_istore_n (ls' := [some (.ref k), some (.int a0), some (.int (0 : Int32)), some (.int (0 : Int32))]) X 3 dX5_swearing_3 rfl (Nat.le_of_ble_eq_true rfl) rfl ?_
  obtain ⟨q8, σ9, hL10, h⟩ := jbd_some h
  refine X5_swearing_L4_ok X hk jFU ((0 : Int32), (0 : Int32)) σ _ hL10 ?_
  refine j_iload_n X 2 dX5_swearing_32 rfl rfl ?_
  obtain ⟨rfl, rfl⟩ := jin2 h
  exact j_iret X R0 dX5_swearing_33
