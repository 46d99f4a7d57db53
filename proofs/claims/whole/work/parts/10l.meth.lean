def X5_swearing_L4_b (p0 : Nat) (p1 : Int32) (rec : Int32 × Int32 → jMem → Option ((Int32) × jMem)) (x2 : Int32) (x3 : Int32) (σ : jMem) : Option ((Int32) × jMem) :=
  if (σ.1 p0 6) ≤ x3 then
  some (x2, σ)
else
  jbd (f_X5_swears p0 x3 σ) (fun v1 σ2 =>
  jbd (f_X11_bitOf v1 p1 σ2) (fun v4 σ5 =>
  jlet ((x2 ||| (v4 <<< (x3 &&& 31)))) (fun v7 =>
  rec (v7, (x3 + 1)) σ5)))
def X5_swearing_L4 (p0 : Nat) (p1 : Int32) : Nat → Int32 × Int32 → jMem → Option ((Int32) × jMem) := jloop (fun rec s σ => X5_swearing_L4_b p0 p1 rec s.1 s.2 σ)
set_option maxRecDepth 100000 in
set_option maxHeartbeats 4000000 in
theorem X5_swearing_L4_bok {K : jK} (X : JX K cX5_swearing 4 RX5 3 63) {p0 : Nat} {p1 : Int32} (hp0 : jisP p0) {rec : Int32 × Int32 → jMem → Option ((Int32) × jMem)} (ih : ∀ (s : Int32 × Int32) (σ : jMem) (o : (Int32) × jMem), rec s σ = some o → (J K 32 [none, none, some (.int o.1), none] [] o.2) → J K 4 [some (.ref p0), some (.int p1), some (.int s.1), some (.int s.2)] [] σ) : ∀ (x2 : Int32) (x3 : Int32) (σ : jMem) (o : (Int32) × jMem), X5_swearing_L4_b p0 p1 rec x2 x3 σ = some o → (J K 32 [none, none, some (.int o.1), none] [] o.2) → J K 4 [some (.ref p0), some (.int p1), some (.int x2), some (.int x3)] [] σ := by
  intro x2 x3 σ o h kk
  unfold X5_swearing_L4_b at h
  refine j_iload_n X 3 dX5_swearing_4 rfl rfl ?_
  refine j_aload_n X 0 dX5_swearing_5 rfl rfl ?_
  refine j_getI X fg_RX5_44 (jp_lt hp0) (jp_ly hp0) rfl dX5_swearing_6 ?_
  refine j_icmp_ge (tgt := 32) X dX5_swearing_9 (by decide) h (fun h => ?_) (fun h => ?_)
  · obtain rfl := Option.some.inj h
    exact j_sub (ls' := [none, none, some (.int x2), none]) ⟨Or.inl rfl, Or.inl rfl, Or.inr rfl, Or.inl rfl, trivial⟩ kk
  · refine j_iload_n X 2 dX5_swearing_12 rfl rfl ?_
    refine j_aload_n X 0 dX5_swearing_13 rfl rfl ?_
    refine j_iload_n X 3 dX5_swearing_14 rfl rfl ?_
    obtain ⟨v1, σ2, hm3, h⟩ := jbd_some h
    refine j_callV (as := [.int x3]) (st := [.int x2]) (st1 := [.int v1, .int x2]) X (jp_lt hp0) (jp_ly hp0) rfl rfl sv_RX5_83 ⟨by decide, by decide⟩ rfl rfl (Nat.le_of_ble_eq_true rfl) rfl dX5_swearing_15 jrv_i (c_X5_swears hp0 hm3) rfl ?_
    refine j_iload_n X 1 dX5_swearing_18 rfl rfl ?_
    obtain ⟨v4, σ5, hm6, h⟩ := jbd_some h
    refine j_callN (as := [.int v1, .int p1]) (st := [.int x2]) (st1 := [.int v4, .int x2]) X sn_RX5_86 ⟨by decide, by decide⟩ rfl rfl (Nat.le_of_ble_eq_true rfl) rfl dX5_swearing_19 jrv_i (c_X11_bitOf  hm6) rfl ?_
    refine j_iload_n X 3 dX5_swearing_22 rfl rfl ?_
    refine j_ishl X dX5_swearing_23 ?_
    refine j_ior X dX5_swearing_24 ?_
    refine j_letI h (fun v7 h => ?_)
    refine j_istore_n (ls' := [some (.ref p0), some (.int p1), some (.int v7), some (.int x3)]) X 2 dX5_swearing_25 rfl (Nat.le_of_ble_eq_true rfl) rfl ?_
    refine j_iinc (v := (x3 + 1)) (ls' := [some (.ref p0), some (.int p1), some (.int v7), some (.int (x3 + 1))]) X dX5_swearing_26 rfl rfl (Nat.le_of_ble_eq_true rfl) rfl ?_
    refine j_goto (tgt := 4) X dX5_swearing_29 (by decide) ?_
    exact ih (v7, (x3 + 1)) σ5 _ h kk
theorem X5_swearing_L4_ok {K : jK} (X : JX K cX5_swearing 4 RX5 3 63) {p0 : Nat} {p1 : Int32} (hp0 : jisP p0) : ∀ (n : Nat) (s : Int32 × Int32) (σ : jMem) (o : (Int32) × jMem), X5_swearing_L4 p0 p1 n s σ = some o → (J K 32 [none, none, some (.int o.1), none] [] o.2) → J K 4 [some (.ref p0), some (.int p1), some (.int s.1), some (.int s.2)] [] σ := by
  intro n
  induction n with
  | zero => intro s σ o h; cases h
  | succ n ih => intro s σ o h; exact X5_swearing_L4_bok X hp0 ih (s.1) (s.2) σ o h
def f_X5_swearing (k : Nat) (a0 : Int32) (σ : jMem) : Option (Int32 × jMem) :=
  jbd (X5_swearing_L4 (k) (a0) jFU ((0 : Int32), (0 : Int32)) σ) (fun q8 σ9 =>
  some ((q8, σ9)))
set_option maxRecDepth 100000 in
set_option maxHeartbeats 4000000 in
theorem c_X5_swearing {l : Launch} {D : va_G} {ad : Nat → Nat} {cid : Nat → ClassId} {k : Nat} {a0 : Int32} (hk : jisP k) {σ : jMem} {r : Int32} {σ' : jMem} (h : f_X5_swearing k a0 σ = some (r, σ')) : jMet l D ad cid yX5_swearing cX5_swearing 4 (some .int) 3 63 [.ref k, .int a0] σ (some (.int r)) σ' := by
  refine jMet_of (ls0 := [some (.ref k), some (.int a0), none, none]) (by decide) (Nat.le_of_ble_eq_true rfl) rfl (fun K X R0 _ => ?_)
  unfold f_X5_swearing at h
  refine j_iconst (v := 0) X dX5_swearing_0 (by decide) ?_
  refine j_istore_n (ls' := [some (.ref k), some (.int a0), some (.int (0 : Int32)), none]) X 2 dX5_swearing_1 rfl (Nat.le_of_ble_eq_true rfl) rfl ?_
  refine j_iconst (v := 0) X dX5_swearing_2 (by decide) ?_
  refine j_istore_n (ls' := [some (.ref k), some (.int a0), some (.int (0 : Int32)), some (.int (0 : Int32))]) X 3 dX5_swearing_3 rfl (Nat.le_of_ble_eq_true rfl) rfl ?_
  obtain ⟨q8, σ9, hL10, h⟩ := jbd_some h
  refine X5_swearing_L4_ok X hk jFU ((0 : Int32), (0 : Int32)) σ _ hL10 ?_
  refine j_iload_n X 2 dX5_swearing_32 rfl rfl ?_
  obtain ⟨rfl, rfl⟩ := jin2 h
  exact j_iret X R0 dX5_swearing_33
theorem sv_RX11_241 : jSiV RX11 241 yX5_swearing cX5_swearing 4 (some .int) 1 := ⟨tw_630, tw_631, tw_632, tw_10, tw_633, by decide, by decide, by decide +kernel⟩
def f_X11_path (a0 : Int32) (a1 : Int32) (σ : jMem) : Option (Int32 × jMem) :=
  jbd (f_X5_hasPath 22 a0 σ) (fun v1 σ2 =>
  if ¬ v1 = 0 then
  if a1 = 0 then
  jld σ2 23 12 a0 (fun v5 =>
  some ((v5, σ2)))
else
  if a1 = 1 then
  jld σ2 24 12 a0 (fun v7 =>
  some ((v7, σ2)))
else
  if a1 = 2 then
  jld σ2 25 12 a0 (fun v9 =>
  some ((v9, σ2)))
else
  if a1 = 3 then
  jbd (f_X11_bitOf (σ2.1 22 7) a0 σ2) (fun v11 σ12 =>
  some ((v11, σ12)))
else
  if a1 = 4 then
  jbd (f_X5_swearing 22 a0 σ2) (fun v15 σ16 =>
  some ((v15, σ16)))
else
  some (((-1000001 : Int32), σ2))
else
  some (((-1000001 : Int32), σ2)))
set_option maxRecDepth 100000 in
set_option maxHeartbeats 4000000 in
theorem c_X11_path {l : Launch} {D : va_G} {ad : Nat → Nat} {cid : Nat → ClassId} {a0 : Int32} {a1 : Int32}  {σ : jMem} {r : Int32} {σ' : jMem} (h : f_X11_path a0 a1 σ = some (r, σ')) : jMet l D ad cid yX11_path cX11_path 3 (some .int) 4 86 [.ref 0, .int a0, .int a1] σ (some (.int r)) σ' := by
  refine jMet_of (ls0 := [some (.ref 0), some (.int a0), some (.int a1)]) (by decide) (Nat.le_of_ble_eq_true rfl) rfl (fun K X R0 _ => ?_)
  unfold f_X11_path at h
  refine j_aload_n X 0 dX11_path_0 rfl rfl ?_
  refine j_getR (t := 22) X fg_RX11_50 ln_0 ly_0 rfl dX11_path_1 ?_
  refine j_iload_n X 1 dX11_path_4 rfl rfl ?_
  obtain ⟨v1, σ2, hm3, h⟩ := jbd_some h
  refine j_callV (as := [.int a0]) (st := []) (st1 := [.int v1]) X ln_22 ly_22 rfl rfl sv_RX11_201 ⟨by decide, by decide⟩ rfl rfl (Nat.le_of_ble_eq_true rfl) rfl dX11_path_5 jrv_i (c_X5_hasPath jisP_22 hm3) rfl ?_
  refine j_if_ne (tgt := 14) X dX11_path_8 (by decide) h (fun h => ?_) (fun h => ?_)
  · refine j_iload_n X 2 dX11_path_14 rfl rfl ?_
    by_cases hs4 : a1 = 0
    · rw [if_pos hs4] at h
      refine j_tab (tgt := 48) X dX11_path_15 0 hs4 (by decide) (by decide) rfl (by decide) ?_
      refine j_aload_n X 0 dX11_path_48 rfl rfl ?_
      refine j_getR (t := 22) X fg_RX11_50 ln_0 ly_0 rfl dX11_path_49 ?_
      refine j_getR (t := 23) X fg_RX11_232 ln_22 ly_22 rfl dX11_path_52 ?_
      refine j_iload_n X 1 dX11_path_55 rfl rfl ?_
      refine j_iaload X ln_23 ly_23 dX11_path_56 h (fun v5 h => ?_)
      obtain ⟨rfl, rfl⟩ := jin2 h
      exact j_iret X R0 dX11_path_57
    · rw [if_neg hs4] at h
      by_cases hs6 : a1 = 1
      · rw [if_pos hs6] at h
        refine j_tab (tgt := 58) X dX11_path_15 1 hs6 (by decide) (by decide) rfl (by decide) ?_
        refine j_aload_n X 0 dX11_path_58 rfl rfl ?_
        refine j_getR (t := 22) X fg_RX11_50 ln_0 ly_0 rfl dX11_path_59 ?_
        refine j_getR (t := 24) X fg_RX11_235 ln_22 ly_22 rfl dX11_path_62 ?_
        refine j_iload_n X 1 dX11_path_65 rfl rfl ?_
        refine j_iaload X ln_24 ly_24 dX11_path_66 h (fun v7 h => ?_)
        obtain ⟨rfl, rfl⟩ := jin2 h
        exact j_iret X R0 dX11_path_67
      · rw [if_neg hs6] at h
        by_cases hs8 : a1 = 2
        · rw [if_pos hs8] at h
          refine j_tab (tgt := 68) X dX11_path_15 2 hs8 (by decide) (by decide) rfl (by decide) ?_
          refine j_aload_n X 0 dX11_path_68 rfl rfl ?_
          refine j_getR (t := 22) X fg_RX11_50 ln_0 ly_0 rfl dX11_path_69 ?_
          refine j_getR (t := 25) X fg_RX11_238 ln_22 ly_22 rfl dX11_path_72 ?_
          refine j_iload_n X 1 dX11_path_75 rfl rfl ?_
          refine j_iaload X ln_25 ly_25 dX11_path_76 h (fun v9 h => ?_)
          obtain ⟨rfl, rfl⟩ := jin2 h
          exact j_iret X R0 dX11_path_77
        · rw [if_neg hs8] at h
          by_cases hs10 : a1 = 3
          · rw [if_pos hs10] at h
            refine j_tab (tgt := 78) X dX11_path_15 3 hs10 (by decide) (by decide) rfl (by decide) ?_
            refine j_aload_n X 0 dX11_path_78 rfl rfl ?_
            refine j_getR (t := 22) X fg_RX11_50 ln_0 ly_0 rfl dX11_path_79 ?_
            refine j_getI X fg_RX11_207 ln_22 ly_22 rfl dX11_path_82 ?_
            refine j_iload_n X 1 dX11_path_85 rfl rfl ?_
            obtain ⟨v11, σ12, hm13, h⟩ := jbd_some h
            refine j_callS (as := [.int (σ2.1 22 7), .int a0]) (st := []) (st1 := [.int v11]) X ss_RX11_210 ⟨by decide, by decide⟩ rfl rfl (Nat.le_of_ble_eq_true rfl) rfl dX11_path_86 jrv_i (c_X11_bitOf  hm13) rfl ?_
            obtain ⟨rfl, rfl⟩ := jin2 h
            exact j_iret X R0 dX11_path_89
          · rw [if_neg hs10] at h
            by_cases hs14 : a1 = 4
            · rw [if_pos hs14] at h
              refine j_tab (tgt := 90) X dX11_path_15 4 hs14 (by decide) (by decide) rfl (by decide) ?_
              refine j_aload_n X 0 dX11_path_90 rfl rfl ?_
              refine j_getR (t := 22) X fg_RX11_50 ln_0 ly_0 rfl dX11_path_91 ?_
              refine j_iload_n X 1 dX11_path_94 rfl rfl ?_
              obtain ⟨v15, σ16, hm17, h⟩ := jbd_some h
              refine j_callV (as := [.int a0]) (st := []) (st1 := [.int v15]) X ln_22 ly_22 rfl rfl sv_RX11_241 ⟨by decide, by decide⟩ rfl rfl (Nat.le_of_ble_eq_true rfl) rfl dX11_path_95 jrv_i (c_X5_swearing jisP_22 hm17) rfl ?_
              obtain ⟨rfl, rfl⟩ := jin2 h
              exact j_iret X R0 dX11_path_98
            · rw [if_neg hs14] at h
              refine j_tabo (tgt := 99) X dX11_path_15 (by have w0 := lv_neT (a := 0) hs4 (by decide); have w1 := lv_neT (a := 1) hs6 (by decide); have w2 := lv_neT (a := 2) hs8 (by decide); have w3 := lv_neT (a := 3) hs10 (by decide); have w4 := lv_neT (a := 4) hs14 (by decide); omega) (by decide) ?_
              refine j_ldc (v := -1000001) X tw_318 dX11_path_99 ?_
              obtain ⟨rfl, rfl⟩ := jin2 h
              exact j_iret X R0 dX11_path_101
  · refine j_ldc (v := -1000001) X tw_318 dX11_path_11 ?_
    obtain ⟨rfl, rfl⟩ := jin2 h
    exact j_iret X R0 dX11_path_13
def f_X11_stand (a0 : Int32) (σ : jMem) : Option (Int32 × jMem) :=
  if ¬ (σ.1 22 1) = 0 then
  if a0 = 0 then
  jbd (f_X5_ways 22 σ) (fun v2 σ3 =>
  some ((v2, σ3)))
else
  if a0 = 1 then
  some (((σ.1 22 7), σ))
else
  if a0 = 2 then
  jbd (f_X5_living 22 σ) (fun v7 σ8 =>
  some ((v7, σ8)))
else
  if a0 = 3 then
  some (((σ.1 22 2), σ))
else
  some (((-1000001 : Int32), σ))
else
  some (((-1000002 : Int32), σ))
set_option maxRecDepth 100000 in
set_option maxHeartbeats 4000000 in
theorem c_X11_stand {l : Launch} {D : va_G} {ad : Nat → Nat} {cid : Nat → ClassId} {a0 : Int32}  {σ : jMem} {r : Int32} {σ' : jMem} (h : f_X11_stand a0 σ = some (r, σ')) : jMet l D ad cid yX11_stand cX11_stand 2 (some .int) 5 106 [.ref 0, .int a0] σ (some (.int r)) σ' := by
  refine jMet_of (ls0 := [some (.ref 0), some (.int a0)]) (by decide) (Nat.le_of_ble_eq_true rfl) rfl (fun K X R0 _ => ?_)
  unfold f_X11_stand at h
  refine j_aload_n X 0 dX11_stand_0 rfl rfl ?_
  refine j_getR (t := 22) X fg_RX11_50 ln_0 ly_0 rfl dX11_stand_1 ?_
  refine j_getI X fg_RX11_170 ln_22 ly_22 rfl dX11_stand_4 ?_
  refine j_if_ne (tgt := 13) X dX11_stand_7 (by decide) h (fun h => ?_) (fun h => ?_)
  · refine j_iload_n X 1 dX11_stand_13 rfl rfl ?_
    by_cases hs1 : a0 = 0
    · rw [if_pos hs1] at h
      refine j_tab (tgt := 44) X dX11_stand_14 0 hs1 (by decide) (by decide) rfl (by decide) ?_
      refine j_aload_n X 0 dX11_stand_44 rfl rfl ?_
      refine j_getR (t := 22) X fg_RX11_50 ln_0 ly_0 rfl dX11_stand_45 ?_
      obtain ⟨v2, σ3, hm4, h⟩ := jbd_some h
      refine j_callV (as := []) (st := []) (st1 := [.int v2]) X ln_22 ly_22 rfl rfl sv_RX11_188 ⟨by decide, by decide⟩ rfl rfl (Nat.le_of_ble_eq_true rfl) rfl dX11_stand_48 jrv_i (c_X5_ways jisP_22 hm4) rfl ?_
      obtain ⟨rfl, rfl⟩ := jin2 h
      exact j_iret X R0 dX11_stand_51
    · rw [if_neg hs1] at h
      by_cases hs5 : a0 = 1
      · rw [if_pos hs5] at h
        refine j_tab (tgt := 52) X dX11_stand_14 1 hs5 (by decide) (by decide) rfl (by decide) ?_
        refine j_aload_n X 0 dX11_stand_52 rfl rfl ?_
        refine j_getR (t := 22) X fg_RX11_50 ln_0 ly_0 rfl dX11_stand_53 ?_
        refine j_getI X fg_RX11_207 ln_22 ly_22 rfl dX11_stand_56 ?_
        obtain ⟨rfl, rfl⟩ := jin2 h
        exact j_iret X R0 dX11_stand_59
      · rw [if_neg hs5] at h
        by_cases hs6 : a0 = 2
        · rw [if_pos hs6] at h
          refine j_tab (tgt := 60) X dX11_stand_14 2 hs6 (by decide) (by decide) rfl (by decide) ?_
          refine j_aload_n X 0 dX11_stand_60 rfl rfl ?_
          refine j_getR (t := 22) X fg_RX11_50 ln_0 ly_0 rfl dX11_stand_61 ?_
          obtain ⟨v7, σ8, hm9, h⟩ := jbd_some h
          refine j_callV (as := []) (st := []) (st1 := [.int v7]) X ln_22 ly_22 rfl rfl sv_RX11_198 ⟨by decide, by decide⟩ rfl rfl (Nat.le_of_ble_eq_true rfl) rfl dX11_stand_64 jrv_i (c_X5_living jisP_22 hm9) rfl ?_
          obtain ⟨rfl, rfl⟩ := jin2 h
          exact j_iret X R0 dX11_stand_67
        · rw [if_neg hs6] at h
          by_cases hs10 : a0 = 3
          · rw [if_pos hs10] at h
            refine j_tab (tgt := 68) X dX11_stand_14 3 hs10 (by decide) (by decide) rfl (by decide) ?_
            refine j_aload_n X 0 dX11_stand_68 rfl rfl ?_
            refine j_getR (t := 22) X fg_RX11_50 ln_0 ly_0 rfl dX11_stand_69 ?_
            refine j_getI X fg_RX11_244 ln_22 ly_22 rfl dX11_stand_72 ?_
            obtain ⟨rfl, rfl⟩ := jin2 h
            exact j_iret X R0 dX11_stand_75
          · rw [if_neg hs10] at h
            refine j_tabo (tgt := 76) X dX11_stand_14 (by have w0 := lv_neT (a := 0) hs1 (by decide); have w1 := lv_neT (a := 1) hs5 (by decide); have w2 := lv_neT (a := 2) hs6 (by decide); have w3 := lv_neT (a := 3) hs10 (by decide); omega) (by decide) ?_
            refine j_ldc (v := -1000001) X tw_318 dX11_stand_76 ?_
            obtain ⟨rfl, rfl⟩ := jin2 h
            exact j_iret X R0 dX11_stand_78
  · refine j_ldc (v := -1000002) X tw_458 dX11_stand_10 ?_
    obtain ⟨rfl, rfl⟩ := jin2 h
    exact j_iret X R0 dX11_stand_12
def X11_ahead_L39_b (p1 : Int32) (rec : Int32 → jMem → Option ((Unit) × jMem)) (x2 : Int32) (σ : jMem) : Option ((Unit) × jMem) :=
  if p1 ≤ x2 then
  some ((), σ)
else
  jbv (f_X5_pass 30 σ) (fun σ3 =>
  rec (x2 + 1) σ3)
def X11_ahead_L39 (p1 : Int32) : Nat → Int32 → jMem → Option ((Unit) × jMem) := jloop (fun rec s σ => X11_ahead_L39_b p1 rec s σ)
set_option maxRecDepth 100000 in
set_option maxHeartbeats 4000000 in
theorem X11_ahead_L39_bok {K : jK} (X : JX K cX11_ahead 3 RX11 5 106) {p1 : Int32}  {rec : Int32 → jMem → Option ((Unit) × jMem)} (ih : ∀ (s : Int32) (σ : jMem) (o : (Unit) × jMem), rec s σ = some o → (J K 57 [some (.ref 0), none, none] [] o.2) → J K 39 [some (.ref 0), some (.int p1), some (.int s)] [] σ) : ∀ (x2 : Int32) (σ : jMem) (o : (Unit) × jMem), X11_ahead_L39_b p1 rec x2 σ = some o → (J K 57 [some (.ref 0), none, none] [] o.2) → J K 39 [some (.ref 0), some (.int p1), some (.int x2)] [] σ := by
  intro x2 σ o h kk
  unfold X11_ahead_L39_b at h
  refine j_iload_n X 2 dX11_ahead_39 rfl rfl ?_
  refine j_iload_n X 1 dX11_ahead_40 rfl rfl ?_
  refine j_icmp_ge (tgt := 57) X dX11_ahead_41 (by decide) h (fun h => ?_) (fun h => ?_)
  · obtain rfl := Option.some.inj h
    exact j_sub (ls' := [some (.ref 0), none, none]) ⟨Or.inr rfl, Or.inl rfl, Or.inl rfl, trivial⟩ kk
  · refine j_aload_n X 0 dX11_ahead_44 rfl rfl ?_
    refine j_getR (t := 30) X fg_RX11_54 ln_0 ly_0 rfl dX11_ahead_45 ?_
    obtain ⟨σ3, hm4, h⟩ := jbv_some h
    refine j_callV (as := []) (st := []) (st1 := []) X ln_30 ly_30 rfl rfl sv_RX11_195 ⟨by decide, by decide⟩ rfl rfl (Nat.le_of_ble_eq_true rfl) rfl dX11_ahead_48 jrv_v (c_X5_pass jisP_30 hm4) rfl ?_
    refine j_iinc (v := (x2 + 1)) (ls' := [some (.ref 0), some (.int p1), some (.int (x2 + 1))]) X dX11_ahead_51 rfl rfl (Nat.le_of_ble_eq_true rfl) rfl ?_
    refine j_goto (tgt := 39) X dX11_ahead_54 (by decide) ?_
    exact ih (x2 + 1) σ3 _ h kk
theorem X11_ahead_L39_ok {K : jK} (X : JX K cX11_ahead 3 RX11 5 106) {p1 : Int32}  : ∀ (n : Nat) (s : Int32) (σ : jMem) (o : (Unit) × jMem), X11_ahead_L39 p1 n s σ = some o → (J K 57 [some (.ref 0), none, none] [] o.2) → J K 39 [some (.ref 0), some (.int p1), some (.int s)] [] σ := by
  intro n
  induction n with
  | zero => intro s σ o h; cases h
  | succ n ih => intro s σ o h; exact X11_ahead_L39_bok X  ih (s) σ o h
def f_X11_ahead (a0 : Int32) (σ : jMem) : Option (Int32 × jMem) :=
  if ¬ (σ.1 22 1) = 0 then
  if a0 < 0 then
  some (((-1000001 : Int32), σ))
else
  if a0 ≤ (60 : Int32) then
  jbv (f_X5_become 30 22 σ) (fun σ1 =>
  jbd (X11_ahead_L39 (a0) jFU (0 : Int32) σ1) (fun q5 σ6 =>
  jbd (f_X5_ways 30 σ6) (fun v7 σ8 =>
  some ((v7, σ8)))))
else
  some (((-1000001 : Int32), σ))
else
  some (((-1000002 : Int32), σ))
set_option maxRecDepth 100000 in
set_option maxHeartbeats 4000000 in
theorem c_X11_ahead {l : Launch} {D : va_G} {ad : Nat → Nat} {cid : Nat → ClassId} {a0 : Int32}  {σ : jMem} {r : Int32} {σ' : jMem} (h : f_X11_ahead a0 σ = some (r, σ')) : jMet l D ad cid yX11_ahead cX11_ahead 3 (some .int) 5 106 [.ref 0, .int a0] σ (some (.int r)) σ' := by
  refine jMet_of (ls0 := [some (.ref 0), some (.int a0), none]) (by decide) (Nat.le_of_ble_eq_true rfl) rfl (fun K X R0 _ => ?_)
  unfold f_X11_ahead at h
  refine j_aload_n X 0 dX11_ahead_0 rfl rfl ?_
  refine j_getR (t := 22) X fg_RX11_50 ln_0 ly_0 rfl dX11_ahead_1 ?_
  refine j_getI X fg_RX11_170 ln_22 ly_22 rfl dX11_ahead_4 ?_
  refine j_if_ne (tgt := 13) X dX11_ahead_7 (by decide) h (fun h => ?_) (fun h => ?_)
  · refine j_iload_n X 1 dX11_ahead_13 rfl rfl ?_
    refine j_if_lt (tgt := 23) X dX11_ahead_14 (by decide) h (fun h => ?_) (fun h => ?_)
    · refine j_ldc (v := -1000001) X tw_318 dX11_ahead_23 ?_
      obtain ⟨rfl, rfl⟩ := jin2 h
      exact j_iret X R0 dX11_ahead_25
    · refine j_iload_n X 1 dX11_ahead_17 rfl rfl ?_
      refine j_bipush (v := 60) X dX11_ahead_18 (by decide) ?_
      refine j_icmp_le (tgt := 26) X dX11_ahead_20 (by decide) h (fun h => ?_) (fun h => ?_)
      · refine j_aload_n X 0 dX11_ahead_26 rfl rfl ?_
        refine j_getR (t := 30) X fg_RX11_54 ln_0 ly_0 rfl dX11_ahead_27 ?_
        refine j_aload_n X 0 dX11_ahead_30 rfl rfl ?_
        refine j_getR (t := 22) X fg_RX11_50 ln_0 ly_0 rfl dX11_ahead_31 ?_
        obtain ⟨σ1, hm2, h⟩ := jbv_some h
        refine j_callV (as := [.ref 22]) (st := []) (st1 := []) X ln_30 ly_30 rfl rfl sv_RX11_146 ⟨by decide, by decide⟩ rfl rfl (Nat.le_of_ble_eq_true rfl) rfl dX11_ahead_34 jrv_v (c_X5_become jisP_30 jisP_22 hm2) rfl ?_
        refine j_iconst (v := 0) X dX11_ahead_37 (by decide) ?_
        refine j_istore_n (ls' := [some (.ref 0), some (.int a0), some (.int (0 : Int32))]) X 2 dX11_ahead_38 rfl (Nat.le_of_ble_eq_true rfl) rfl ?_
        obtain ⟨q5, σ6, hL10, h⟩ := jbd_some h
        refine X11_ahead_L39_ok X  jFU (0 : Int32) σ1 _ hL10 ?_
        refine j_aload_n X 0 dX11_ahead_57 rfl rfl ?_
        refine j_getR (t := 30) X fg_RX11_54 ln_0 ly_0 rfl dX11_ahead_58 ?_
        obtain ⟨v7, σ8, hm9, h⟩ := jbd_some h
        refine j_callV (as := []) (st := []) (st1 := [.int v7]) X ln_30 ly_30 rfl rfl sv_RX11_188 ⟨by decide, by decide⟩ rfl rfl (Nat.le_of_ble_eq_true rfl) rfl dX11_ahead_61 jrv_i (c_X5_ways jisP_30 hm9) rfl ?_
        obtain ⟨rfl, rfl⟩ := jin2 h
        exact j_iret X R0 dX11_ahead_64
      · refine j_ldc (v := -1000001) X tw_318 dX11_ahead_23 ?_
        obtain ⟨rfl, rfl⟩ := jin2 h
        exact j_iret X R0 dX11_ahead_25
  · refine j_ldc (v := -1000002) X tw_458 dX11_ahead_10 ?_
    obtain ⟨rfl, rfl⟩ := jin2 h
    exact j_iret X R0 dX11_ahead_12
def X11_lost_L27_b (p1 : Int32) (rec : Int32 → jMem → Option (((Unit) × jMem) ⊕ (Int32 × jMem))) (x2 : Int32) (σ : jMem) : Option (((Unit) × jMem) ⊕ (Int32 × jMem)) :=
  if (60 : Int32) < x2 then
  some (.inl ((), σ))
else
  jbd (f_X5_ways 30 σ) (fun v6 σ7 =>
  jbd (f_X11_bitOf v6 p1 σ7) (fun v9 σ10 =>
  if ¬ v9 = 0 then
  jbv (f_X5_pass 30 σ10) (fun σ12 =>
  rec (x2 + 1) σ12)
else
  some (.inr (x2, σ10))))
def X11_lost_L27 (p1 : Int32) : Nat → Int32 → jMem → Option (((Unit) × jMem) ⊕ (Int32 × jMem)) := jloop (fun rec s σ => X11_lost_L27_b p1 rec s σ)
set_option maxRecDepth 100000 in
set_option maxHeartbeats 4000000 in
theorem X11_lost_L27_bok {K : jK} (X : JX K cX11_lost 3 RX11 5 106) {p1 : Int32}  {rec : Int32 → jMem → Option (((Unit) × jMem) ⊕ (Int32 × jMem))} (ih : ∀ (s : Int32) (σ : jMem) (o : ((Unit) × jMem) ⊕ (Int32 × jMem)), rec s σ = some o → (∀ q, o = .inl q → J K 62 [none, none, none] [] q.2) → (∀ q, o = .inr q → JR K (some .int) (some (.int q.1)) q.2) → J K 27 [some (.ref 0), some (.int p1), some (.int s)] [] σ) : ∀ (x2 : Int32) (σ : jMem) (o : ((Unit) × jMem) ⊕ (Int32 × jMem)), X11_lost_L27_b p1 rec x2 σ = some o → (∀ q, o = .inl q → J K 62 [none, none, none] [] q.2) → (∀ q, o = .inr q → JR K (some .int) (some (.int q.1)) q.2) → J K 27 [some (.ref 0), some (.int p1), some (.int x2)] [] σ := by
  intro x2 σ o h kk kr
  unfold X11_lost_L27_b at h
  refine j_iload_n X 2 dX11_lost_27 rfl rfl ?_
  refine j_bipush (v := 60) X dX11_lost_28 (by decide) ?_
  refine j_icmp_gt (tgt := 62) X dX11_lost_30 (by decide) h (fun h => ?_) (fun h => ?_)
  · obtain rfl := Option.some.inj h
    exact j_sub (ls' := [none, none, none]) ⟨Or.inl rfl, Or.inl rfl, Or.inl rfl, trivial⟩ (kk ((), σ) rfl)
  · refine j_aload_n X 0 dX11_lost_33 rfl rfl ?_
    refine j_getR (t := 30) X fg_RX11_54 ln_0 ly_0 rfl dX11_lost_34 ?_
    obtain ⟨v6, σ7, hm8, h⟩ := jbd_some h
    refine j_callV (as := []) (st := []) (st1 := [.int v6]) X ln_30 ly_30 rfl rfl sv_RX11_188 ⟨by decide, by decide⟩ rfl rfl (Nat.le_of_ble_eq_true rfl) rfl dX11_lost_37 jrv_i (c_X5_ways jisP_30 hm8) rfl ?_
    refine j_iload_n X 1 dX11_lost_40 rfl rfl ?_
    obtain ⟨v9, σ10, hm11, h⟩ := jbd_some h
    refine j_callS (as := [.int v6, .int p1]) (st := []) (st1 := [.int v9]) X ss_RX11_210 ⟨by decide, by decide⟩ rfl rfl (Nat.le_of_ble_eq_true rfl) rfl dX11_lost_41 jrv_i (c_X11_bitOf  hm11) rfl ?_
    refine j_if_ne (tgt := 49) X dX11_lost_44 (by decide) h (fun h => ?_) (fun h => ?_)
    · refine j_aload_n X 0 dX11_lost_49 rfl rfl ?_
      refine j_getR (t := 30) X fg_RX11_54 ln_0 ly_0 rfl dX11_lost_50 ?_
      obtain ⟨σ12, hm13, h⟩ := jbv_some h
      refine j_callV (as := []) (st := []) (st1 := []) X ln_30 ly_30 rfl rfl sv_RX11_195 ⟨by decide, by decide⟩ rfl rfl (Nat.le_of_ble_eq_true rfl) rfl dX11_lost_53 jrv_v (c_X5_pass jisP_30 hm13) rfl ?_
      refine j_iinc (v := (x2 + 1)) (ls' := [some (.ref 0), some (.int p1), some (.int (x2 + 1))]) X dX11_lost_56 rfl rfl (Nat.le_of_ble_eq_true rfl) rfl ?_
      refine j_goto (tgt := 27) X dX11_lost_59 (by decide) ?_
      exact ih (x2 + 1) σ12 _ h kk kr
    · refine j_iload_n X 2 dX11_lost_47 rfl rfl ?_
      obtain rfl := Option.some.inj h
      exact j_iret X (kr (x2, σ10) rfl) dX11_lost_48
theorem X11_lost_L27_ok {K : jK} (X : JX K cX11_lost 3 RX11 5 106) {p1 : Int32}  : ∀ (n : Nat) (s : Int32) (σ : jMem) (o : ((Unit) × jMem) ⊕ (Int32 × jMem)), X11_lost_L27 p1 n s σ = some o → (∀ q, o = .inl q → J K 62 [none, none, none] [] q.2) → (∀ q, o = .inr q → JR K (some .int) (some (.int q.1)) q.2) → J K 27 [some (.ref 0), some (.int p1), some (.int s)] [] σ := by
  intro n
  induction n with
  | zero => intro s σ o h; cases h
  | succ n ih => intro s σ o h; exact X11_lost_L27_bok X  ih (s) σ o h
def f_X11_lost (a0 : Int32) (σ : jMem) : Option (Int32 × jMem) :=
  jbd (f_X5_hasPath 22 a0 σ) (fun v1 σ2 =>
  if ¬ v1 = 0 then
  jbv (f_X5_become 30 22 σ2) (fun σ4 =>
  jbr (X11_lost_L27 (a0) jFU (0 : Int32) σ4) (fun q14 σ15 =>
  some (((-1000000 : Int32), σ15))) (fun e17 => some e17))
else
  some (((-1000001 : Int32), σ2)))
set_option maxRecDepth 100000 in
set_option maxHeartbeats 4000000 in
theorem c_X11_lost {l : Launch} {D : va_G} {ad : Nat → Nat} {cid : Nat → ClassId} {a0 : Int32}  {σ : jMem} {r : Int32} {σ' : jMem} (h : f_X11_lost a0 σ = some (r, σ')) : jMet l D ad cid yX11_lost cX11_lost 3 (some .int) 5 106 [.ref 0, .int a0] σ (some (.int r)) σ' := by
  refine jMet_of (ls0 := [some (.ref 0), some (.int a0), none]) (by decide) (Nat.le_of_ble_eq_true rfl) rfl (fun K X R0 _ => ?_)
  unfold f_X11_lost at h
  refine j_aload_n X 0 dX11_lost_0 rfl rfl ?_
  refine j_getR (t := 22) X fg_RX11_50 ln_0 ly_0 rfl dX11_lost_1 ?_
  refine j_iload_n X 1 dX11_lost_4 rfl rfl ?_
  obtain ⟨v1, σ2, hm3, h⟩ := jbd_some h
  refine j_callV (as := [.int a0]) (st := []) (st1 := [.int v1]) X ln_22 ly_22 rfl rfl sv_RX11_201 ⟨by decide, by decide⟩ rfl rfl (Nat.le_of_ble_eq_true rfl) rfl dX11_lost_5 jrv_i (c_X5_hasPath jisP_22 hm3) rfl ?_
  refine j_if_ne (tgt := 14) X dX11_lost_8 (by decide) h (fun h => ?_) (fun h => ?_)
  · refine j_aload_n X 0 dX11_lost_14 rfl rfl ?_
    refine j_getR (t := 30) X fg_RX11_54 ln_0 ly_0 rfl dX11_lost_15 ?_
    refine j_aload_n X 0 dX11_lost_18 rfl rfl ?_
    refine j_getR (t := 22) X fg_RX11_50 ln_0 ly_0 rfl dX11_lost_19 ?_
    obtain ⟨σ4, hm5, h⟩ := jbv_some h
    refine j_callV (as := [.ref 22]) (st := []) (st1 := []) X ln_30 ly_30 rfl rfl sv_RX11_146 ⟨by decide, by decide⟩ rfl rfl (Nat.le_of_ble_eq_true rfl) rfl dX11_lost_22 jrv_v (c_X5_become jisP_30 jisP_22 hm5) rfl ?_
    refine j_iconst (v := 0) X dX11_lost_25 (by decide) ?_
    refine j_istore_n (ls' := [some (.ref 0), some (.int a0), some (.int (0 : Int32))]) X 2 dX11_lost_26 rfl (Nat.le_of_ble_eq_true rfl) rfl ?_
    obtain ⟨o18, hL16, hl19, hr20⟩ := jbr_some h
    refine X11_lost_L27_ok X  jFU (0 : Int32) σ4 o18 hL16 (fun q14w e9 => ?_) (fun q14w e9 => ?_)
    · have h := hl19 _ e9
      obtain ⟨q14, σ15⟩ := q14w
      refine j_ldc (v := -1000000) X tw_646 dX11_lost_62 ?_
      obtain ⟨rfl, rfl⟩ := jin2 h
      exact j_iret X R0 dX11_lost_64
    · have h := hr20 _ e9
      obtain rfl := Option.some.inj h
      exact R0
  · refine j_ldc (v := -1000001) X tw_318 dX11_lost_11 ?_
    obtain ⟨rfl, rfl⟩ := jin2 h
    exact j_iret X R0 dX11_lost_13
