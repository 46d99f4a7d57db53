def f_X11_trace (a0 : Int32) (σ : jMem) : Option (Int32 × jMem) :=
  if a0 < 0 then
  some (((-1000000 : Int32), σ))
else
  if (σ.1 86 3) ≤ a0 then
  some (((-1000000 : Int32), σ))
else
  jld σ 87 16 a0 (fun v1 =>
  some ((v1, σ)))
set_option maxRecDepth 100000 in
set_option maxHeartbeats 4000000 in
theorem c_X11_trace {l : Launch} {D : va_G} {ad : Nat → Nat} {cid : Nat → ClassId} {a0 : Int32}  {σ : jMem} {r : Int32} {σ' : jMem} (h : f_X11_trace a0 σ = some (r, σ')) : jMet l D ad cid yX11_trace cX11_trace 2 (some .int) 0 0 [.ref 0, .int a0] σ (some (.int r)) σ' := by
  refine jMet_of (ls0 := [some (.ref 0), some (.int a0)]) (by decide) (Nat.le_of_ble_eq_true rfl) rfl (fun K X R0 _ => ?_)
  unfold f_X11_trace at h
  refine j_iload_n X 1 dX11_trace_0 rfl rfl ?_
  refine j_if_lt (tgt := 27) X dX11_trace_1 (by decide) h (fun h => ?_) (fun h => ?_)
  · refine j_ldc (v := -1000000) X tw_646 dX11_trace_27 ?_
    obtain ⟨rfl, rfl⟩ := jin2 h
    exact j_iret X R0 dX11_trace_29
  · refine j_iload_n X 1 dX11_trace_4 rfl rfl ?_
    refine j_aload_n X 0 dX11_trace_5 rfl rfl ?_
    refine j_getR (t := 86) X fg_RX11_76 ln_0 ly_0 rfl dX11_trace_6 ?_
    refine j_getI X fg_RX11_328 ln_86 ly_86 rfl dX11_trace_9 ?_
    refine j_icmp_ge (tgt := 27) X dX11_trace_12 (by decide) h (fun h => ?_) (fun h => ?_)
    · refine j_ldc (v := -1000000) X tw_646 dX11_trace_27 ?_
      obtain ⟨rfl, rfl⟩ := jin2 h
      exact j_iret X R0 dX11_trace_29
    · refine j_aload_n X 0 dX11_trace_15 rfl rfl ?_
      refine j_getR (t := 86) X fg_RX11_76 ln_0 ly_0 rfl dX11_trace_16 ?_
      refine j_getR (t := 87) X fg_RX11_337 ln_86 ly_86 rfl dX11_trace_19 ?_
      refine j_iload_n X 1 dX11_trace_22 rfl rfl ?_
      refine j_iaload X ln_87 ly_87 dX11_trace_23 h (fun v1 h => ?_)
      refine j_goto (tgt := 29) X dX11_trace_24 (by decide) ?_
      obtain ⟨rfl, rfl⟩ := jin2 h
      exact j_iret X R0 dX11_trace_29
def X6_standing_L4_b  (rec : Int32 × Int32 → jMem → Option ((Int32) × jMem)) (x1 : Int32) (x2 : Int32) (σ : jMem) : Option ((Int32) × jMem) :=
  if (8 : Int32) ≤ x2 then
  some (x1, σ)
else
  jbd (f_X6_isMissing x2 σ) (fun v1 σ2 =>
  if ¬ v1 = 0 then
  rec (x1, (x2 + 1)) σ2
else
  rec ((x1 + 1), (x2 + 1)) σ2)
def X6_standing_L4  : Nat → Int32 × Int32 → jMem → Option ((Int32) × jMem) := jloop (fun rec s σ => X6_standing_L4_b  rec s.1 s.2 σ)
set_option maxRecDepth 100000 in
set_option maxHeartbeats 4000000 in
theorem X6_standing_L4_bok {K : jK} (X : JX K cX6_standing 3 RX6 1 21)   {rec : Int32 × Int32 → jMem → Option ((Int32) × jMem)} (ih : ∀ (s : Int32 × Int32) (σ : jMem) (o : (Int32) × jMem), rec s σ = some o → (J K 27 [none, some (.int o.1), none] [] o.2) → J K 4 [some (.ref 1), some (.int s.1), some (.int s.2)] [] σ) : ∀ (x1 : Int32) (x2 : Int32) (σ : jMem) (o : (Int32) × jMem), X6_standing_L4_b  rec x1 x2 σ = some o → (J K 27 [none, some (.int o.1), none] [] o.2) → J K 4 [some (.ref 1), some (.int x1), some (.int x2)] [] σ := by
  intro x1 x2 σ o h kk
  unfold X6_standing_L4_b at h
  refine j_iload_n X 2 dX6_standing_4 rfl rfl ?_
  refine j_bipush (v := 8) X dX6_standing_5 (by decide) ?_
  refine j_icmp_ge (tgt := 27) X dX6_standing_7 (by decide) h (fun h => ?_) (fun h => ?_)
  · obtain rfl := Option.some.inj h
    exact j_sub (ls' := [none, some (.int x1), none]) ⟨Or.inl rfl, Or.inr rfl, Or.inl rfl, trivial⟩ kk
  · refine j_aload_n X 0 dX6_standing_10 rfl rfl ?_
    refine j_iload_n X 2 dX6_standing_11 rfl rfl ?_
    obtain ⟨v1, σ2, hm3, h⟩ := jbd_some h
    refine j_callV (as := [.int x2]) (st := []) (st1 := [.int v1]) X ln_1 ly_1 rfl rfl sv_RX6_23 ⟨by decide, by decide⟩ rfl rfl (Nat.le_of_ble_eq_true rfl) rfl dX6_standing_12 jrv_i (c_X6_isMissing  hm3) rfl ?_
    refine j_if_ne (tgt := 21) X dX6_standing_15 (by decide) h (fun h => ?_) (fun h => ?_)
    · refine j_iinc (v := (x2 + 1)) (ls' := [some (.ref 1), some (.int x1), some (.int (x2 + 1))]) X dX6_standing_21 rfl rfl (Nat.le_of_ble_eq_true rfl) rfl ?_
      refine j_goto (tgt := 4) X dX6_standing_24 (by decide) ?_
      exact ih (x1, (x2 + 1)) σ2 _ h kk
    · refine j_iinc (v := (x1 + 1)) (ls' := [some (.ref 1), some (.int (x1 + 1)), some (.int x2)]) X dX6_standing_18 rfl rfl (Nat.le_of_ble_eq_true rfl) rfl ?_
      refine j_iinc (v := (x2 + 1)) (ls' := [some (.ref 1), some (.int (x1 + 1)), some (.int (x2 + 1))]) X dX6_standing_21 rfl rfl (Nat.le_of_ble_eq_true rfl) rfl ?_
      refine j_goto (tgt := 4) X dX6_standing_24 (by decide) ?_
      exact ih ((x1 + 1), (x2 + 1)) σ2 _ h kk
theorem X6_standing_L4_ok {K : jK} (X : JX K cX6_standing 3 RX6 1 21)   : ∀ (n : Nat) (s : Int32 × Int32) (σ : jMem) (o : (Int32) × jMem), X6_standing_L4  n s σ = some o → (J K 27 [none, some (.int o.1), none] [] o.2) → J K 4 [some (.ref 1), some (.int s.1), some (.int s.2)] [] σ := by
  intro n
  induction n with
  | zero => intro s σ o h; cases h
  | succ n ih => intro s σ o h; exact X6_standing_L4_bok X  ih (s.1) (s.2) σ o h
def f_X6_standing  (σ : jMem) : Option (Int32 × jMem) :=
  jbd (X6_standing_L4  jFU ((0 : Int32), (0 : Int32)) σ) (fun q4 σ5 =>
  some ((q4, σ5)))
set_option maxRecDepth 100000 in
set_option maxHeartbeats 4000000 in
theorem c_X6_standing {l : Launch} {D : va_G} {ad : Nat → Nat} {cid : Nat → ClassId}   {σ : jMem} {r : Int32} {σ' : jMem} (h : f_X6_standing  σ = some (r, σ')) : jMet l D ad cid yX6_standing cX6_standing 3 (some .int) 1 21 [.ref 1] σ (some (.int r)) σ' := by
  refine jMet_of (ls0 := [some (.ref 1), none, none]) (by decide) (Nat.le_of_ble_eq_true rfl) rfl (fun K X R0 _ => ?_)
  unfold f_X6_standing at h
  refine j_iconst (v := 0) X dX6_standing_0 (by decide) ?_
  refine j_istore_n (ls' := [some (.ref 1), some (.int (0 : Int32)), none]) X 1 dX6_standing_1 rfl (Nat.le_of_ble_eq_true rfl) rfl ?_
  refine j_iconst (v := 0) X dX6_standing_2 (by decide) ?_
  refine j_istore_n (ls' := [some (.ref 1), some (.int (0 : Int32)), some (.int (0 : Int32))]) X 2 dX6_standing_3 rfl (Nat.le_of_ble_eq_true rfl) rfl ?_
  obtain ⟨q4, σ5, hL6, h⟩ := jbd_some h
  refine X6_standing_L4_ok X  jFU ((0 : Int32), (0 : Int32)) σ _ hL6 ?_
  refine j_iload_n X 1 dX6_standing_27 rfl rfl ?_
  obtain ⟨rfl, rfl⟩ := jin2 h
  exact j_iret X R0 dX6_standing_28
theorem sv_RX11_340 : jSiV RX11 340 yX6_standing cX6_standing 3 (some .int) 0 := ⟨tw_839, tw_840, tw_841, tw_2, tw_842, by decide, by decide, by decide +kernel⟩
def f_X11_count (a0 : Int32) (σ : jMem) : Option (Int32 × jMem) :=
  if a0 = 0 then
  jbd (f_X6_standing  σ) (fun v2 σ3 =>
  some ((v2, σ3)))
else
  if a0 = 1 then
  some (((σ.1 22 5), σ))
else
  if a0 = 2 then
  some (((σ.1 22 6), σ))
else
  if a0 = 3 then
  some (((σ.1 22 4), σ))
else
  if a0 = 4 then
  jbd (f_X5_ways 22 σ) (fun v9 σ10 =>
  jbd (f_J6_bitCount_0f7a4 v9 σ10) (fun v12 σ13 =>
  some ((v12, σ13))))
else
  if a0 = 5 then
  some (((σ.1 22 3), σ))
else
  if a0 = 6 then
  some (((σ.1 0 7), σ))
else
  if a0 = 7 then
  some (((σ.1 13 1), σ))
else
  some (((-1000001 : Int32), σ))
set_option maxRecDepth 100000 in
set_option maxHeartbeats 4000000 in
theorem c_X11_count {l : Launch} {D : va_G} {ad : Nat → Nat} {cid : Nat → ClassId} {a0 : Int32}  {σ : jMem} {r : Int32} {σ' : jMem} (h : f_X11_count a0 σ = some (r, σ')) : jMet l D ad cid yX11_count cX11_count 2 (some .int) 5 106 [.ref 0, .int a0] σ (some (.int r)) σ' := by
  refine jMet_of (ls0 := [some (.ref 0), some (.int a0)]) (by decide) (Nat.le_of_ble_eq_true rfl) rfl (fun K X R0 _ => ?_)
  unfold f_X11_count at h
  refine j_iload_n X 1 dX11_count_0 rfl rfl ?_
  by_cases hs1 : a0 = 0
  · rw [if_pos hs1] at h
    refine j_tab (tgt := 48) X dX11_count_1 0 hs1 (by decide) (by decide) rfl (by decide) ?_
    refine j_aload_n X 0 dX11_count_48 rfl rfl ?_
    refine j_getR (t := 1) X fg_RX11_10 ln_0 ly_0 rfl dX11_count_49 ?_
    obtain ⟨v2, σ3, hm4, h⟩ := jbd_some h
    refine j_callV (as := []) (st := []) (st1 := [.int v2]) X ln_1 ly_1 rfl rfl sv_RX11_340 ⟨by decide, by decide⟩ rfl rfl (Nat.le_of_ble_eq_true rfl) rfl dX11_count_52 jrv_i (c_X6_standing  hm4) rfl ?_
    obtain ⟨rfl, rfl⟩ := jin2 h
    exact j_iret X R0 dX11_count_55
  · rw [if_neg hs1] at h
    by_cases hs5 : a0 = 1
    · rw [if_pos hs5] at h
      refine j_tab (tgt := 56) X dX11_count_1 1 hs5 (by decide) (by decide) rfl (by decide) ?_
      refine j_aload_n X 0 dX11_count_56 rfl rfl ?_
      refine j_getR (t := 22) X fg_RX11_50 ln_0 ly_0 rfl dX11_count_57 ?_
      refine j_getI X fg_RX11_153 ln_22 ly_22 rfl dX11_count_60 ?_
      obtain ⟨rfl, rfl⟩ := jin2 h
      exact j_iret X R0 dX11_count_63
    · rw [if_neg hs5] at h
      by_cases hs6 : a0 = 2
      · rw [if_pos hs6] at h
        refine j_tab (tgt := 64) X dX11_count_1 2 hs6 (by decide) (by decide) rfl (by decide) ?_
        refine j_aload_n X 0 dX11_count_64 rfl rfl ?_
        refine j_getR (t := 22) X fg_RX11_50 ln_0 ly_0 rfl dX11_count_65 ?_
        refine j_getI X fg_RX11_273 ln_22 ly_22 rfl dX11_count_68 ?_
        obtain ⟨rfl, rfl⟩ := jin2 h
        exact j_iret X R0 dX11_count_71
      · rw [if_neg hs6] at h
        by_cases hs7 : a0 = 3
        · rw [if_pos hs7] at h
          refine j_tab (tgt := 72) X dX11_count_1 3 hs7 (by decide) (by decide) rfl (by decide) ?_
          refine j_aload_n X 0 dX11_count_72 rfl rfl ?_
          refine j_getR (t := 22) X fg_RX11_50 ln_0 ly_0 rfl dX11_count_73 ?_
          refine j_getI X fg_RX11_192 ln_22 ly_22 rfl dX11_count_76 ?_
          obtain ⟨rfl, rfl⟩ := jin2 h
          exact j_iret X R0 dX11_count_79
        · rw [if_neg hs7] at h
          by_cases hs8 : a0 = 4
          · rw [if_pos hs8] at h
            refine j_tab (tgt := 80) X dX11_count_1 4 hs8 (by decide) (by decide) rfl (by decide) ?_
            refine j_aload_n X 0 dX11_count_80 rfl rfl ?_
            refine j_getR (t := 22) X fg_RX11_50 ln_0 ly_0 rfl dX11_count_81 ?_
            obtain ⟨v9, σ10, hm11, h⟩ := jbd_some h
            refine j_callV (as := []) (st := []) (st1 := [.int v9]) X ln_22 ly_22 rfl rfl sv_RX11_188 ⟨by decide, by decide⟩ rfl rfl (Nat.le_of_ble_eq_true rfl) rfl dX11_count_84 jrv_i (c_X5_ways jisP_22 hm11) rfl ?_
            obtain ⟨v12, σ13, hm14, h⟩ := jbd_some h
            refine j_callS (as := [.int v9]) (st := []) (st1 := [.int v12]) X ss_RX11_265 ⟨by decide, by decide⟩ rfl rfl (Nat.le_of_ble_eq_true rfl) rfl dX11_count_87 jrv_i (c_J6_bitCount_0f7a4  hm14) rfl ?_
            obtain ⟨rfl, rfl⟩ := jin2 h
            exact j_iret X R0 dX11_count_90
          · rw [if_neg hs8] at h
            by_cases hs15 : a0 = 5
            · rw [if_pos hs15] at h
              refine j_tab (tgt := 91) X dX11_count_1 5 hs15 (by decide) (by decide) rfl (by decide) ?_
              refine j_aload_n X 0 dX11_count_91 rfl rfl ?_
              refine j_getR (t := 22) X fg_RX11_50 ln_0 ly_0 rfl dX11_count_92 ?_
              refine j_getI X fg_RX11_343 ln_22 ly_22 rfl dX11_count_95 ?_
              obtain ⟨rfl, rfl⟩ := jin2 h
              exact j_iret X R0 dX11_count_98
            · rw [if_neg hs15] at h
              by_cases hs16 : a0 = 6
              · rw [if_pos hs16] at h
                refine j_tab (tgt := 99) X dX11_count_1 6 hs16 (by decide) (by decide) rfl (by decide) ?_
                refine j_aload_n X 0 dX11_count_99 rfl rfl ?_
                refine j_getI X fg_RX11_159 ln_0 ly_0 rfl dX11_count_100 ?_
                obtain ⟨rfl, rfl⟩ := jin2 h
                exact j_iret X R0 dX11_count_103
              · rw [if_neg hs16] at h
                by_cases hs17 : a0 = 7
                · rw [if_pos hs17] at h
                  refine j_tab (tgt := 104) X dX11_count_1 7 hs17 (by decide) (by decide) rfl (by decide) ?_
                  refine j_aload_n X 0 dX11_count_104 rfl rfl ?_
                  refine j_getR (t := 13) X fg_RX11_19 ln_0 ly_0 rfl dX11_count_105 ?_
                  refine j_getI X fg_RX11_129 ln_13 ly_13 rfl dX11_count_108 ?_
                  obtain ⟨rfl, rfl⟩ := jin2 h
                  exact j_iret X R0 dX11_count_111
                · rw [if_neg hs17] at h
                  refine j_tabo (tgt := 112) X dX11_count_1 (by have w0 := lv_neT (a := 0) hs1 (by decide); have w1 := lv_neT (a := 1) hs5 (by decide); have w2 := lv_neT (a := 2) hs6 (by decide); have w3 := lv_neT (a := 3) hs7 (by decide); have w4 := lv_neT (a := 4) hs8 (by decide); have w5 := lv_neT (a := 5) hs15 (by decide); have w6 := lv_neT (a := 6) hs16 (by decide); have w7 := lv_neT (a := 7) hs17 (by decide); omega) (by decide) ?_
                  refine j_ldc (v := -1000001) X tw_318 dX11_count_112 ?_
                  obtain ⟨rfl, rfl⟩ := jin2 h
                  exact j_iret X R0 dX11_count_114
def f_X11_status  (σ : jMem) : Option (Int32 × jMem) :=
  some (((σ.1 0 12), σ))
set_option maxRecDepth 100000 in
set_option maxHeartbeats 4000000 in
theorem c_X11_status {l : Launch} {D : va_G} {ad : Nat → Nat} {cid : Nat → ClassId}   {σ : jMem} {r : Int32} {σ' : jMem} (h : f_X11_status  σ = some (r, σ')) : jMet l D ad cid yX11_status cX11_status 1 (some .int) 0 0 [.ref 0] σ (some (.int r)) σ' := by
  refine jMet_of (ls0 := [some (.ref 0)]) (by decide) (Nat.le_of_ble_eq_true rfl) rfl (fun K X R0 _ => ?_)
  unfold f_X11_status at h
  refine j_aload_n X 0 dX11_status_0 rfl rfl ?_
  refine j_getI X fg_RX11_346 ln_0 ly_0 rfl dX11_status_1 ?_
  obtain ⟨rfl, rfl⟩ := jin2 h
  exact j_iret X R0 dX11_status_4
