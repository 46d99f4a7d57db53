theorem sv_RX12_292 : jSiV RX12 292 yX12_sizeOf cX12_sizeOf 4 (some .int) 1 := ⟨tw_1250, tw_1252, ts_49, tw_13, tw_1253, by decide, by decide, by decide +kernel⟩
def f_X12_ask (a0 : Int32) (a1 : Int32) (σ : jMem) : Option (Int32 × jMem) :=
  jlet (jset σ 89 0 (0 : Int32)) (fun σ1 =>
  jbd (f_X12_isWitness a0 σ1) (fun v2 σ3 =>
  if v2 = 0 then
  some (((-1000001 : Int32), σ3))
else
  jbd (f_X12_in ((a1).toInt64) (0 : Int64) (1 : Int64) σ3) (fun v5 σ6 =>
  if ¬ v5 = 0 then
  jlet (jset σ6 89 26 (0 : Int32)) (fun σ8 =>
  if ¬ a1 = 0 then
  jbd (f_X12_markOf a0 σ8) (fun v9 σ10 =>
  some ((v9, σ10)))
else
  jbd (f_X12_sizeOf a0 σ8) (fun v12 σ13 =>
  some ((v12, σ13))))
else
  some (((-1000001 : Int32), σ6)))))
set_option maxRecDepth 100000 in
set_option maxHeartbeats 4000000 in
theorem c_X12_ask {l : Launch} {D : va_G} {ad : Nat → Nat} {cid : Nat → ClassId} {a0 : Int32} {a1 : Int32}  {σ : jMem} {r : Int32} {σ' : jMem} (h : f_X12_ask a0 a1 σ = some (r, σ')) : jMet l D ad cid yX12_ask cX12_ask 3 (some .int) 7 154 [.ref 89, .int a0, .int a1] σ (some (.int r)) σ' := by
  refine jMet_of (ls0 := [some (.ref 89), some (.int a0), some (.int a1)]) (by decide) (Nat.le_of_ble_eq_true rfl) rfl (fun K X R0 _ => ?_)
  unfold f_X12_ask at h
  refine j_aload_n X 0 dX12_ask_0 rfl rfl ?_
  refine j_iconst (v := 0) X dX12_ask_1 (by decide) ?_
  refine j_put X fp_RX12_47 ln_89 ly_89 rfl rfl rfl dX12_ask_2 h (fun σ1 h => ?_)
  refine j_aload_n X 0 dX12_ask_5 rfl rfl ?_
  refine j_iload_n X 1 dX12_ask_6 rfl rfl ?_
  obtain ⟨v2, σ3, hm4, h⟩ := jbd_some h
  refine j_callV (as := [.int a0]) (st := []) (st1 := [.int v2]) X ln_89 ly_89 rfl rfl sv_RX12_236 ⟨by decide, by decide⟩ rfl rfl (Nat.le_of_ble_eq_true rfl) rfl dX12_ask_7 jrv_i (c_X12_isWitness  hm4) rfl ?_
  refine j_if_eq (tgt := 23) X dX12_ask_10 (by decide) h (fun h => ?_) (fun h => ?_)
  · refine j_ldc (v := -1000001) X tw_948 dX12_ask_23 ?_
    obtain ⟨rfl, rfl⟩ := jin2 h
    exact j_iret X R0 dX12_ask_25
  · refine j_iload_n X 2 dX12_ask_13 rfl rfl ?_
    refine j_i2l X dX12_ask_14 ?_
    refine j_lconst (v := 0) X dX12_ask_15 (by decide) ?_
    refine j_lconst (v := 1) X dX12_ask_16 (by decide) ?_
    obtain ⟨v5, σ6, hm7, h⟩ := jbd_some h
    refine j_callS (as := [.long ((a1).toInt64), .long (0 : Int64), .long (1 : Int64)]) (st := []) (st1 := [.int v5]) X ss_RX12_57 ⟨by decide, by decide⟩ rfl rfl (Nat.le_of_ble_eq_true rfl) rfl dX12_ask_17 jrv_i (c_X12_in  hm7) rfl ?_
    refine j_if_ne (tgt := 26) X dX12_ask_20 (by decide) h (fun h => ?_) (fun h => ?_)
    · refine j_aload_n X 0 dX12_ask_26 rfl rfl ?_
      refine j_iconst (v := 0) X dX12_ask_27 (by decide) ?_
      refine j_put X fp_RX12_277 ln_89 ly_89 rfl rfl rfl dX12_ask_28 h (fun σ8 h => ?_)
      refine j_iload_n X 2 dX12_ask_31 rfl rfl ?_
      refine j_if_ne (tgt := 43) X dX12_ask_32 (by decide) h (fun h => ?_) (fun h => ?_)
      · refine j_aload_n X 0 dX12_ask_43 rfl rfl ?_
        refine j_iload_n X 1 dX12_ask_44 rfl rfl ?_
        obtain ⟨v9, σ10, hm11, h⟩ := jbd_some h
        refine j_callV (as := [.int a0]) (st := []) (st1 := [.int v9]) X ln_89 ly_89 rfl rfl sv_RX12_289 ⟨by decide, by decide⟩ rfl rfl (Nat.le_of_ble_eq_true rfl) rfl dX12_ask_45 jrv_i (c_X12_markOf  hm11) rfl ?_
        obtain ⟨rfl, rfl⟩ := jin2 h
        exact j_iret X R0 dX12_ask_48
      · refine j_aload_n X 0 dX12_ask_35 rfl rfl ?_
        refine j_iload_n X 1 dX12_ask_36 rfl rfl ?_
        obtain ⟨v12, σ13, hm14, h⟩ := jbd_some h
        refine j_callV (as := [.int a0]) (st := []) (st1 := [.int v12]) X ln_89 ly_89 rfl rfl sv_RX12_292 ⟨by decide, by decide⟩ rfl rfl (Nat.le_of_ble_eq_true rfl) rfl dX12_ask_37 jrv_i (c_X12_sizeOf  hm14) rfl ?_
        refine j_goto (tgt := 48) X dX12_ask_40 (by decide) ?_
        obtain ⟨rfl, rfl⟩ := jin2 h
        exact j_iret X R0 dX12_ask_48
    · refine j_ldc (v := -1000001) X tw_948 dX12_ask_23 ?_
      obtain ⟨rfl, rfl⟩ := jin2 h
      exact j_iret X R0 dX12_ask_25
def f_X12_trace (a0 : Int32) (σ : jMem) : Option (Int32 × jMem) :=
  jlet (jset σ 89 0 (0 : Int32)) (fun σ1 =>
  jbd (f_X12_in ((a0).toInt64) (0 : Int64) ((((σ1.1 89 26) - (1 : Int32))).toInt64) σ1) (fun v2 σ3 =>
  if v2 = 0 then
  some (((-1000000 : Int32), σ3))
else
  jld σ3 101 16 a0 (fun v5 =>
  some ((v5, σ3)))))
set_option maxRecDepth 100000 in
set_option maxHeartbeats 4000000 in
theorem c_X12_trace {l : Launch} {D : va_G} {ad : Nat → Nat} {cid : Nat → ClassId} {a0 : Int32}  {σ : jMem} {r : Int32} {σ' : jMem} (h : f_X12_trace a0 σ = some (r, σ')) : jMet l D ad cid yX12_trace cX12_trace 2 (some .int) 1 25 [.ref 89, .int a0] σ (some (.int r)) σ' := by
  refine jMet_of (ls0 := [some (.ref 89), some (.int a0)]) (by decide) (Nat.le_of_ble_eq_true rfl) rfl (fun K X R0 _ => ?_)
  unfold f_X12_trace at h
  refine j_aload_n X 0 dX12_trace_0 rfl rfl ?_
  refine j_iconst (v := 0) X dX12_trace_1 (by decide) ?_
  refine j_put X fp_RX12_47 ln_89 ly_89 rfl rfl rfl dX12_trace_2 h (fun σ1 h => ?_)
  refine j_iload_n X 1 dX12_trace_5 rfl rfl ?_
  refine j_i2l X dX12_trace_6 ?_
  refine j_lconst (v := 0) X dX12_trace_7 (by decide) ?_
  refine j_aload_n X 0 dX12_trace_8 rfl rfl ?_
  refine j_getI X fg_RX12_277 ln_89 ly_89 rfl dX12_trace_9 ?_
  refine j_iconst (v := 1) X dX12_trace_12 (by decide) ?_
  refine j_isub X dX12_trace_13 ?_
  refine j_i2l X dX12_trace_14 ?_
  obtain ⟨v2, σ3, hm4, h⟩ := jbd_some h
  refine j_callS (as := [.long ((a0).toInt64), .long (0 : Int64), .long ((((σ1.1 89 26) - (1 : Int32))).toInt64)]) (st := []) (st1 := [.int v2]) X ss_RX12_57 ⟨by decide, by decide⟩ rfl rfl (Nat.le_of_ble_eq_true rfl) rfl dX12_trace_15 jrv_i (c_X12_in  hm4) rfl ?_
  refine j_if_eq (tgt := 30) X dX12_trace_18 (by decide) h (fun h => ?_) (fun h => ?_)
  · refine j_ldc (v := -1000000) X tw_988 dX12_trace_30 ?_
    obtain ⟨rfl, rfl⟩ := jin2 h
    exact j_iret X R0 dX12_trace_32
  · refine j_aload_n X 0 dX12_trace_21 rfl rfl ?_
    refine j_getR (t := 101) X fg_RX12_44 ln_89 ly_89 rfl dX12_trace_22 ?_
    refine j_iload_n X 1 dX12_trace_25 rfl rfl ?_
    refine j_iaload X ln_101 ly_101 dX12_trace_26 h (fun v5 h => ?_)
    refine j_goto (tgt := 32) X dX12_trace_27 (by decide) ?_
    obtain ⟨rfl, rfl⟩ := jin2 h
    exact j_iret X R0 dX12_trace_32
def X12_count_L58_b  (rec : Int32 × Int32 → jMem → Option ((Int32) × jMem)) (x2 : Int32) (x3 : Int32) (σ : jMem) : Option ((Int32) × jMem) :=
  if (8 : Int32) ≤ x3 then
  some (x2, σ)
else
  jld σ 90 8 x3 (fun v3 =>
  if v3 < 0 then
  jlet ((x2 + (0 : Int32))) (fun v4 =>
  rec (v4, (x3 + 1)) σ)
else
  jlet ((x2 + (1 : Int32))) (fun v5 =>
  rec (v5, (x3 + 1)) σ))
def X12_count_L58  : Nat → Int32 × Int32 → jMem → Option ((Int32) × jMem) := jloop (fun rec s σ => X12_count_L58_b  rec s.1 s.2 σ)
set_option maxRecDepth 100000 in
set_option maxHeartbeats 4000000 in
theorem X12_count_L58_bok {K : jK} (X : JX K cX12_count 4 RX12 4 86)   {rec : Int32 × Int32 → jMem → Option ((Int32) × jMem)} (ih : ∀ (s : Int32 × Int32) (σ : jMem) (o : (Int32) × jMem), rec s σ = some o → (J K 87 [none, none, some (.int o.1), none] [] o.2) → J K 58 [some (.ref 89), none, some (.int s.1), some (.int s.2)] [] σ) : ∀ (x2 : Int32) (x3 : Int32) (σ : jMem) (o : (Int32) × jMem), X12_count_L58_b  rec x2 x3 σ = some o → (J K 87 [none, none, some (.int o.1), none] [] o.2) → J K 58 [some (.ref 89), none, some (.int x2), some (.int x3)] [] σ := by
  intro x2 x3 σ o h kk
  unfold X12_count_L58_b at h
  refine j_iload_n X 3 dX12_count_58 rfl rfl ?_
  refine j_bipush (v := 8) X dX12_count_59 (by decide) ?_
  refine j_icmp_ge (tgt := 87) X dX12_count_61 (by decide) h (fun h => ?_) (fun h => ?_)
  · obtain rfl := Option.some.inj h
    exact j_sub (ls' := [none, none, some (.int x2), none]) ⟨Or.inl rfl, Or.inl rfl, Or.inr rfl, Or.inl rfl, trivial⟩ kk
  · refine j_iload_n X 2 dX12_count_64 rfl rfl ?_
    refine j_aload_n X 0 dX12_count_65 rfl rfl ?_
    refine j_getR (t := 90) X fg_RX12_7 ln_89 ly_89 rfl dX12_count_66 ?_
    refine j_iload_n X 3 dX12_count_69 rfl rfl ?_
    refine j_iaload X ln_90 ly_90 dX12_count_70 h (fun v3 h => ?_)
    refine j_if_lt (tgt := 78) X dX12_count_71 (by decide) h (fun h => ?_) (fun h => ?_)
    · refine j_iconst (v := 0) X dX12_count_78 (by decide) ?_
      refine j_iadd X dX12_count_79 ?_
      refine j_letI h (fun v4 h => ?_)
      refine j_istore_n (ls' := [some (.ref 89), none, some (.int v4), some (.int x3)]) X 2 dX12_count_80 rfl (Nat.le_of_ble_eq_true rfl) rfl ?_
      refine j_iinc (v := (x3 + 1)) (ls' := [some (.ref 89), none, some (.int v4), some (.int (x3 + 1))]) X dX12_count_81 rfl rfl (Nat.le_of_ble_eq_true rfl) rfl ?_
      refine j_goto (tgt := 58) X dX12_count_84 (by decide) ?_
      exact ih (v4, (x3 + 1)) σ _ h kk
    · refine j_iconst (v := 1) X dX12_count_74 (by decide) ?_
      refine j_goto (tgt := 79) X dX12_count_75 (by decide) ?_
      refine j_iadd X dX12_count_79 ?_
      refine j_letI h (fun v5 h => ?_)
      refine j_istore_n (ls' := [some (.ref 89), none, some (.int v5), some (.int x3)]) X 2 dX12_count_80 rfl (Nat.le_of_ble_eq_true rfl) rfl ?_
      refine j_iinc (v := (x3 + 1)) (ls' := [some (.ref 89), none, some (.int v5), some (.int (x3 + 1))]) X dX12_count_81 rfl rfl (Nat.le_of_ble_eq_true rfl) rfl ?_
      refine j_goto (tgt := 58) X dX12_count_84 (by decide) ?_
      exact ih (v5, (x3 + 1)) σ _ h kk
theorem X12_count_L58_ok {K : jK} (X : JX K cX12_count 4 RX12 4 86)   : ∀ (n : Nat) (s : Int32 × Int32) (σ : jMem) (o : (Int32) × jMem), X12_count_L58  n s σ = some o → (J K 87 [none, none, some (.int o.1), none] [] o.2) → J K 58 [some (.ref 89), none, some (.int s.1), some (.int s.2)] [] σ := by
  intro n
  induction n with
  | zero => intro s σ o h; cases h
  | succ n ih => intro s σ o h; exact X12_count_L58_bok X  ih (s.1) (s.2) σ o h
def f_X12_count (a0 : Int32) (σ : jMem) : Option (Int32 × jMem) :=
  jlet (jset σ 89 0 (0 : Int32)) (fun σ1 =>
  if a0 = 0 then
  jbd (X12_count_L58  jFU ((0 : Int32), (0 : Int32)) σ1) (fun q6 σ7 =>
  some ((q6, σ7)))
else
  if a0 = 1 then
  jld σ1 93 67 (3 : Int32) (fun v10 =>
  some ((v10, σ1)))
else
  if a0 = 2 then
  jld σ1 93 67 (4 : Int32) (fun v12 =>
  some ((v12, σ1)))
else
  if a0 = 3 then
  jld σ1 93 67 (5 : Int32) (fun v14 =>
  some ((v14, σ1)))
else
  if a0 = 4 then
  jbd (f_X12_waysOf 93 σ1) (fun v16 σ17 =>
  jbd (f_X12_bits v16 σ17) (fun v19 σ20 =>
  some ((v19, σ20))))
else
  if a0 = 5 then
  jld σ1 93 67 (2 : Int32) (fun v23 =>
  some ((v23, σ1)))
else
  if a0 = 6 then
  some (((σ1.1 89 9), σ1))
else
  if a0 = 7 then
  some (((σ1.1 89 11), σ1))
else
  some (((-1000001 : Int32), σ1)))
set_option maxRecDepth 100000 in
set_option maxHeartbeats 4000000 in
theorem c_X12_count {l : Launch} {D : va_G} {ad : Nat → Nat} {cid : Nat → ClassId} {a0 : Int32}  {σ : jMem} {r : Int32} {σ' : jMem} (h : f_X12_count a0 σ = some (r, σ')) : jMet l D ad cid yX12_count cX12_count 4 (some .int) 4 86 [.ref 89, .int a0] σ (some (.int r)) σ' := by
  refine jMet_of (ls0 := [some (.ref 89), some (.int a0), none, none]) (by decide) (Nat.le_of_ble_eq_true rfl) rfl (fun K X R0 _ => ?_)
  unfold f_X12_count at h
  refine j_aload_n X 0 dX12_count_0 rfl rfl ?_
  refine j_iconst (v := 0) X dX12_count_1 (by decide) ?_
  refine j_put X fp_RX12_47 ln_89 ly_89 rfl rfl rfl dX12_count_2 h (fun σ1 h => ?_)
  refine j_iconst (v := 0) X dX12_count_5 (by decide) ?_
  refine j_istore_n (ls' := [some (.ref 89), some (.int a0), some (.int (0 : Int32)), none]) X 2 dX12_count_6 rfl (Nat.le_of_ble_eq_true rfl) rfl ?_
  refine j_iload_n X 1 dX12_count_7 rfl rfl ?_
  by_cases hs2 : a0 = 0
  · rw [if_pos hs2] at h
    refine j_tab (tgt := 56) X dX12_count_8 0 hs2 (by decide) (by decide) rfl (by decide) ?_
    refine j_iconst (v := 0) X dX12_count_56 (by decide) ?_
    refine j_istore_n (ls' := [some (.ref 89), some (.int a0), some (.int (0 : Int32)), some (.int (0 : Int32))]) X 3 dX12_count_57 rfl (Nat.le_of_ble_eq_true rfl) rfl ?_
    obtain ⟨q6, σ7, hL8, h⟩ := jbd_some h
    refine j_sub (ls' := [some (.ref 89), none, some (.int (0 : Int32)), some (.int (0 : Int32))]) ⟨Or.inr rfl, Or.inl rfl, Or.inr rfl, Or.inr rfl, trivial⟩ ?_
    refine X12_count_L58_ok X  jFU ((0 : Int32), (0 : Int32)) σ1 _ hL8 ?_
    refine j_iload_n X 2 dX12_count_87 rfl rfl ?_
    obtain ⟨rfl, rfl⟩ := jin2 h
    exact j_iret X R0 dX12_count_88
  · rw [if_neg hs2] at h
    by_cases hs9 : a0 = 1
    · rw [if_pos hs9] at h
      refine j_tab (tgt := 89) X dX12_count_8 1 hs9 (by decide) (by decide) rfl (by decide) ?_
      refine j_aload_n X 0 dX12_count_89 rfl rfl ?_
      refine j_getR (t := 93) X fg_RX12_19 ln_89 ly_89 rfl dX12_count_90 ?_
      refine j_iconst (v := 3) X dX12_count_93 (by decide) ?_
      refine j_iaload X ln_93 ly_93 dX12_count_94 h (fun v10 h => ?_)
      obtain ⟨rfl, rfl⟩ := jin2 h
      exact j_iret X R0 dX12_count_95
    · rw [if_neg hs9] at h
      by_cases hs11 : a0 = 2
      · rw [if_pos hs11] at h
        refine j_tab (tgt := 96) X dX12_count_8 2 hs11 (by decide) (by decide) rfl (by decide) ?_
        refine j_aload_n X 0 dX12_count_96 rfl rfl ?_
        refine j_getR (t := 93) X fg_RX12_19 ln_89 ly_89 rfl dX12_count_97 ?_
        refine j_iconst (v := 4) X dX12_count_100 (by decide) ?_
        refine j_iaload X ln_93 ly_93 dX12_count_101 h (fun v12 h => ?_)
        obtain ⟨rfl, rfl⟩ := jin2 h
        exact j_iret X R0 dX12_count_102
      · rw [if_neg hs11] at h
        by_cases hs13 : a0 = 3
        · rw [if_pos hs13] at h
          refine j_tab (tgt := 103) X dX12_count_8 3 hs13 (by decide) (by decide) rfl (by decide) ?_
          refine j_aload_n X 0 dX12_count_103 rfl rfl ?_
          refine j_getR (t := 93) X fg_RX12_19 ln_89 ly_89 rfl dX12_count_104 ?_
          refine j_iconst (v := 5) X dX12_count_107 (by decide) ?_
          refine j_iaload X ln_93 ly_93 dX12_count_108 h (fun v14 h => ?_)
          obtain ⟨rfl, rfl⟩ := jin2 h
          exact j_iret X R0 dX12_count_109
        · rw [if_neg hs13] at h
          by_cases hs15 : a0 = 4
          · rw [if_pos hs15] at h
            refine j_tab (tgt := 110) X dX12_count_8 4 hs15 (by decide) (by decide) rfl (by decide) ?_
            refine j_aload_n X 0 dX12_count_110 rfl rfl ?_
            refine j_getR (t := 93) X fg_RX12_19 ln_89 ly_89 rfl dX12_count_111 ?_
            obtain ⟨v16, σ17, hm18, h⟩ := jbd_some h
            refine j_callS (as := [.ref 93]) (st := []) (st1 := [.int v16]) X ss_RX12_221 ⟨by decide, by decide⟩ rfl rfl (Nat.le_of_ble_eq_true rfl) rfl dX12_count_114 jrv_i (c_X12_waysOf ⟨ln_93, ly_93⟩ hm18) rfl ?_
            obtain ⟨v19, σ20, hm21, h⟩ := jbd_some h
            refine j_callS (as := [.int v16]) (st := []) (st1 := [.int v19]) X ss_RX12_246 ⟨by decide, by decide⟩ rfl rfl (Nat.le_of_ble_eq_true rfl) rfl dX12_count_117 jrv_i (c_X12_bits  hm21) rfl ?_
            obtain ⟨rfl, rfl⟩ := jin2 h
            exact j_iret X R0 dX12_count_120
          · rw [if_neg hs15] at h
            by_cases hs22 : a0 = 5
            · rw [if_pos hs22] at h
              refine j_tab (tgt := 121) X dX12_count_8 5 hs22 (by decide) (by decide) rfl (by decide) ?_
              refine j_aload_n X 0 dX12_count_121 rfl rfl ?_
              refine j_getR (t := 93) X fg_RX12_19 ln_89 ly_89 rfl dX12_count_122 ?_
              refine j_iconst (v := 2) X dX12_count_125 (by decide) ?_
              refine j_iaload X ln_93 ly_93 dX12_count_126 h (fun v23 h => ?_)
              obtain ⟨rfl, rfl⟩ := jin2 h
              exact j_iret X R0 dX12_count_127
            · rw [if_neg hs22] at h
              by_cases hs24 : a0 = 6
              · rw [if_pos hs24] at h
                refine j_tab (tgt := 128) X dX12_count_8 6 hs24 (by decide) (by decide) rfl (by decide) ?_
                refine j_aload_n X 0 dX12_count_128 rfl rfl ?_
                refine j_getI X fg_RX12_150 ln_89 ly_89 rfl dX12_count_129 ?_
                obtain ⟨rfl, rfl⟩ := jin2 h
                exact j_iret X R0 dX12_count_132
              · rw [if_neg hs24] at h
                by_cases hs25 : a0 = 7
                · rw [if_pos hs25] at h
                  refine j_tab (tgt := 133) X dX12_count_8 7 hs25 (by decide) (by decide) rfl (by decide) ?_
                  refine j_aload_n X 0 dX12_count_133 rfl rfl ?_
                  refine j_getI X fg_RX12_74 ln_89 ly_89 rfl dX12_count_134 ?_
                  obtain ⟨rfl, rfl⟩ := jin2 h
                  exact j_iret X R0 dX12_count_137
                · rw [if_neg hs25] at h
                  refine j_tabo (tgt := 138) X dX12_count_8 (by have w0 := lv_neT (a := 0) hs2 (by decide); have w1 := lv_neT (a := 1) hs9 (by decide); have w2 := lv_neT (a := 2) hs11 (by decide); have w3 := lv_neT (a := 3) hs13 (by decide); have w4 := lv_neT (a := 4) hs15 (by decide); have w5 := lv_neT (a := 5) hs22 (by decide); have w6 := lv_neT (a := 6) hs24 (by decide); have w7 := lv_neT (a := 7) hs25 (by decide); omega) (by decide) ?_
                  refine j_ldc (v := -1000001) X tw_948 dX12_count_138 ?_
                  obtain ⟨rfl, rfl⟩ := jin2 h
                  exact j_iret X R0 dX12_count_140
def f_X12_status  (σ : jMem) : Option (Int32 × jMem) :=
  jlet (jset σ 89 0 (0 : Int32)) (fun σ1 =>
  some (((σ1.1 89 1), σ1)))
set_option maxRecDepth 100000 in
set_option maxHeartbeats 4000000 in
theorem c_X12_status {l : Launch} {D : va_G} {ad : Nat → Nat} {cid : Nat → ClassId}   {σ : jMem} {r : Int32} {σ' : jMem} (h : f_X12_status  σ = some (r, σ')) : jMet l D ad cid yX12_status cX12_status 1 (some .int) 0 0 [.ref 89] σ (some (.int r)) σ' := by
  refine jMet_of (ls0 := [some (.ref 89)]) (by decide) (Nat.le_of_ble_eq_true rfl) rfl (fun K X R0 _ => ?_)
  unfold f_X12_status at h
  refine j_aload_n X 0 dX12_status_0 rfl rfl ?_
  refine j_iconst (v := 0) X dX12_status_1 (by decide) ?_
  refine j_put X fp_RX12_47 ln_89 ly_89 rfl rfl rfl dX12_status_2 h (fun σ1 h => ?_)
  refine j_aload_n X 0 dX12_status_5 rfl rfl ?_
  refine j_getI X fg_RX12_51 ln_89 ly_89 rfl dX12_status_6 ?_
  obtain ⟨rfl, rfl⟩ := jin2 h
  exact j_iret X R0 dX12_status_9
