def f_X12_witness (a0 : Int32) (a1 : Int32) (σ : jMem) : Option (Int32 × jMem) :=
  jlet (jset σ 89 0 (0 : Int32)) (fun σ1 =>
  jbd (f_X12_isWitness a0 σ1) (fun v2 σ3 =>
  if ¬ v2 = 0 then
  if a1 = 0 then
  jbd (f_X12_of 93 a0 (1 : Int32) σ3) (fun v6 σ7 =>
  some ((v6, σ7)))
else
  if a1 = 1 then
  jbd (f_X12_of 93 a0 (2 : Int32) σ3) (fun v10 σ11 =>
  some ((v10, σ11)))
else
  if a1 = 2 then
  jbd (f_X12_lives 93 a0 σ3) (fun v14 σ15 =>
  if v14 = 0 then
  some (((0 : Int32), σ15))
else
  some (((1 : Int32), σ15)))
else
  if a1 = 3 then
  jbd (f_X12_swears 93 a0 σ3) (fun v18 σ19 =>
  some ((v18, σ19)))
else
  some (((-1000001 : Int32), σ3))
else
  some (((-1000001 : Int32), σ3))))
set_option maxRecDepth 100000 in
set_option maxHeartbeats 4000000 in
theorem c_X12_witness {l : Launch} {D : va_G} {ad : Nat → Nat} {cid : Nat → ClassId} {a0 : Int32} {a1 : Int32}  {σ : jMem} {r : Int32} {σ' : jMem} (h : f_X12_witness a0 a1 σ = some (r, σ')) : jMet l D ad cid yX12_witness cX12_witness 3 (some .int) 3 64 [.ref 89, .int a0, .int a1] σ (some (.int r)) σ' := by
  refine jMet_of (ls0 := [some (.ref 89), some (.int a0), some (.int a1)]) (by decide) (Nat.le_of_ble_eq_true rfl) rfl (fun K X R0 _ => ?_)
  unfold f_X12_witness at h
  refine j_aload_n X 0 dX12_witness_0 rfl rfl ?_
  refine j_iconst (v := 0) X dX12_witness_1 (by decide) ?_
  refine j_put X fp_RX12_47 ln_89 ly_89 rfl rfl rfl dX12_witness_2 h (fun σ1 h => ?_)
  refine j_aload_n X 0 dX12_witness_5 rfl rfl ?_
  refine j_iload_n X 1 dX12_witness_6 rfl rfl ?_
  obtain ⟨v2, σ3, hm4, h⟩ := jbd_some h
  refine j_callV (as := [.int a0]) (st := []) (st1 := [.int v2]) X ln_89 ly_89 rfl rfl sv_RX12_236 ⟨by decide, by decide⟩ rfl rfl (Nat.le_of_ble_eq_true rfl) rfl dX12_witness_7 jrv_i (c_X12_isWitness  hm4) rfl ?_
  refine j_if_ne (tgt := 16) X dX12_witness_10 (by decide) h (fun h => ?_) (fun h => ?_)
  · refine j_iload_n X 2 dX12_witness_16 rfl rfl ?_
    by_cases hs5 : a1 = 0
    · rw [if_pos hs5] at h
      refine j_tab (tgt := 48) X dX12_witness_17 0 hs5 (by decide) (by decide) rfl (by decide) ?_
      refine j_aload_n X 0 dX12_witness_48 rfl rfl ?_
      refine j_getR (t := 93) X fg_RX12_19 ln_89 ly_89 rfl dX12_witness_49 ?_
      refine j_iload_n X 1 dX12_witness_52 rfl rfl ?_
      refine j_iconst (v := 1) X dX12_witness_53 (by decide) ?_
      obtain ⟨v6, σ7, hm8, h⟩ := jbd_some h
      refine j_callS (as := [.ref 93, .int a0, .int (1 : Int32)]) (st := []) (st1 := [.int v6]) X ss_RX12_183 ⟨by decide, by decide⟩ rfl rfl (Nat.le_of_ble_eq_true rfl) rfl dX12_witness_54 jrv_i (c_X12_of ⟨ln_93, ly_93⟩ hm8) rfl ?_
      obtain ⟨rfl, rfl⟩ := jin2 h
      exact j_iret X R0 dX12_witness_57
    · rw [if_neg hs5] at h
      by_cases hs9 : a1 = 1
      · rw [if_pos hs9] at h
        refine j_tab (tgt := 58) X dX12_witness_17 1 hs9 (by decide) (by decide) rfl (by decide) ?_
        refine j_aload_n X 0 dX12_witness_58 rfl rfl ?_
        refine j_getR (t := 93) X fg_RX12_19 ln_89 ly_89 rfl dX12_witness_59 ?_
        refine j_iload_n X 1 dX12_witness_62 rfl rfl ?_
        refine j_iconst (v := 2) X dX12_witness_63 (by decide) ?_
        obtain ⟨v10, σ11, hm12, h⟩ := jbd_some h
        refine j_callS (as := [.ref 93, .int a0, .int (2 : Int32)]) (st := []) (st1 := [.int v10]) X ss_RX12_183 ⟨by decide, by decide⟩ rfl rfl (Nat.le_of_ble_eq_true rfl) rfl dX12_witness_64 jrv_i (c_X12_of ⟨ln_93, ly_93⟩ hm12) rfl ?_
        obtain ⟨rfl, rfl⟩ := jin2 h
        exact j_iret X R0 dX12_witness_67
      · rw [if_neg hs9] at h
        by_cases hs13 : a1 = 2
        · rw [if_pos hs13] at h
          refine j_tab (tgt := 68) X dX12_witness_17 2 hs13 (by decide) (by decide) rfl (by decide) ?_
          refine j_aload_n X 0 dX12_witness_68 rfl rfl ?_
          refine j_getR (t := 93) X fg_RX12_19 ln_89 ly_89 rfl dX12_witness_69 ?_
          refine j_iload_n X 1 dX12_witness_72 rfl rfl ?_
          obtain ⟨v14, σ15, hm16, h⟩ := jbd_some h
          refine j_callS (as := [.ref 93, .int a0]) (st := []) (st1 := [.int v14]) X ss_RX12_191 ⟨by decide, by decide⟩ rfl rfl (Nat.le_of_ble_eq_true rfl) rfl dX12_witness_73 jrv_i (c_X12_lives ⟨ln_93, ly_93⟩ hm16) rfl ?_
          refine j_if_eq (tgt := 83) X dX12_witness_76 (by decide) h (fun h => ?_) (fun h => ?_)
          · refine j_iconst (v := 0) X dX12_witness_83 (by decide) ?_
            obtain ⟨rfl, rfl⟩ := jin2 h
            exact j_iret X R0 dX12_witness_84
          · refine j_iconst (v := 1) X dX12_witness_79 (by decide) ?_
            refine j_goto (tgt := 84) X dX12_witness_80 (by decide) ?_
            obtain ⟨rfl, rfl⟩ := jin2 h
            exact j_iret X R0 dX12_witness_84
        · rw [if_neg hs13] at h
          by_cases hs17 : a1 = 3
          · rw [if_pos hs17] at h
            refine j_tab (tgt := 85) X dX12_witness_17 3 hs17 (by decide) (by decide) rfl (by decide) ?_
            refine j_aload_n X 0 dX12_witness_85 rfl rfl ?_
            refine j_getR (t := 93) X fg_RX12_19 ln_89 ly_89 rfl dX12_witness_86 ?_
            refine j_iload_n X 1 dX12_witness_89 rfl rfl ?_
            obtain ⟨v18, σ19, hm20, h⟩ := jbd_some h
            refine j_callS (as := [.ref 93, .int a0]) (st := []) (st1 := [.int v18]) X ss_RX12_195 ⟨by decide, by decide⟩ rfl rfl (Nat.le_of_ble_eq_true rfl) rfl dX12_witness_90 jrv_i (c_X12_swears ⟨ln_93, ly_93⟩ hm20) rfl ?_
            obtain ⟨rfl, rfl⟩ := jin2 h
            exact j_iret X R0 dX12_witness_93
          · rw [if_neg hs17] at h
            refine j_tabo (tgt := 94) X dX12_witness_17 (by have w0 := lv_neT (a := 0) hs5 (by decide); have w1 := lv_neT (a := 1) hs9 (by decide); have w2 := lv_neT (a := 2) hs13 (by decide); have w3 := lv_neT (a := 3) hs17 (by decide); omega) (by decide) ?_
            refine j_ldc (v := -1000001) X tw_948 dX12_witness_94 ?_
            obtain ⟨rfl, rfl⟩ := jin2 h
            exact j_iret X R0 dX12_witness_96
  · refine j_ldc (v := -1000001) X tw_948 dX12_witness_13 ?_
    obtain ⟨rfl, rfl⟩ := jin2 h
    exact j_iret X R0 dX12_witness_15
def X12_path_L52_b (p1 : Int32) (p2 : Int32) (rec : Int32 × Int32 → jMem → Option ((Int32) × jMem)) (x3 : Int32) (x4 : Int32) (σ : jMem) : Option ((Int32) × jMem) :=
  jld σ 93 67 (4 : Int32) (fun v8 =>
  if v8 ≤ x4 then
  some (x3, σ)
else
  jbd (f_X12_swears 93 x4 σ) (fun v9 σ10 =>
  jbd (f_X12_has v9 p1 σ10) (fun v12 σ13 =>
  if v12 = 0 then
  jlet ((x3 ||| (0 : Int32))) (fun v15 =>
  rec (v15, (x4 + 1)) σ13)
else
  jlet ((x3 ||| ((1 : Int32) <<< (x4 &&& 31)))) (fun v16 =>
  rec (v16, (x4 + 1)) σ13))))
def X12_path_L52 (p1 : Int32) (p2 : Int32) : Nat → Int32 × Int32 → jMem → Option ((Int32) × jMem) := jloop (fun rec s σ => X12_path_L52_b p1 p2 rec s.1 s.2 σ)
set_option maxRecDepth 100000 in
set_option maxHeartbeats 4000000 in
theorem X12_path_L52_bok {K : jK} (X : JX K cX12_path 5 RX12 3 64) {p1 : Int32} {p2 : Int32}  {rec : Int32 × Int32 → jMem → Option ((Int32) × jMem)} (ih : ∀ (s : Int32 × Int32) (σ : jMem) (o : (Int32) × jMem), rec s σ = some o → (J K 96 [some (.ref 89), some (.int p1), some (.int p2), some (.int o.1), none] [] o.2) → J K 52 [some (.ref 89), some (.int p1), some (.int p2), some (.int s.1), some (.int s.2)] [] σ) : ∀ (x3 : Int32) (x4 : Int32) (σ : jMem) (o : (Int32) × jMem), X12_path_L52_b p1 p2 rec x3 x4 σ = some o → (J K 96 [some (.ref 89), some (.int p1), some (.int p2), some (.int o.1), none] [] o.2) → J K 52 [some (.ref 89), some (.int p1), some (.int p2), some (.int x3), some (.int x4)] [] σ := by
  intro x3 x4 σ o h kk
  unfold X12_path_L52_b at h
  refine j_iload X dX12_path_52 rfl ?_
  refine j_aload_n X 0 dX12_path_54 rfl rfl ?_
  refine j_getR (t := 93) X fg_RX12_19 ln_89 ly_89 rfl dX12_path_55 ?_
  refine j_iconst (v := 4) X dX12_path_58 (by decide) ?_
  refine j_iaload X ln_93 ly_93 dX12_path_59 h (fun v8 h => ?_)
  refine j_icmp_ge (tgt := 96) X dX12_path_60 (by decide) h (fun h => ?_) (fun h => ?_)
  · obtain rfl := Option.some.inj h
    exact j_sub (ls' := [some (.ref 89), some (.int p1), some (.int p2), some (.int x3), none]) ⟨Or.inr rfl, Or.inr rfl, Or.inr rfl, Or.inr rfl, Or.inl rfl, trivial⟩ kk
  · refine j_iload_n X 3 dX12_path_63 rfl rfl ?_
    refine j_aload_n X 0 dX12_path_64 rfl rfl ?_
    refine j_getR (t := 93) X fg_RX12_19 ln_89 ly_89 rfl dX12_path_65 ?_
    refine j_iload X dX12_path_68 rfl ?_
    obtain ⟨v9, σ10, hm11, h⟩ := jbd_some h
    refine j_callS (as := [.ref 93, .int x4]) (st := [.int x3]) (st1 := [.int v9, .int x3]) X ss_RX12_195 ⟨by decide, by decide⟩ rfl rfl (Nat.le_of_ble_eq_true rfl) rfl dX12_path_70 jrv_i (c_X12_swears ⟨ln_93, ly_93⟩ hm11) rfl ?_
    refine j_iload_n X 1 dX12_path_73 rfl rfl ?_
    obtain ⟨v12, σ13, hm14, h⟩ := jbd_some h
    refine j_callS (as := [.int v9, .int p1]) (st := [.int x3]) (st1 := [.int v12, .int x3]) X ss_RX12_153 ⟨by decide, by decide⟩ rfl rfl (Nat.le_of_ble_eq_true rfl) rfl dX12_path_74 jrv_i (c_X12_has  hm14) rfl ?_
    refine j_if_eq (tgt := 87) X dX12_path_77 (by decide) h (fun h => ?_) (fun h => ?_)
    · refine j_iconst (v := 0) X dX12_path_87 (by decide) ?_
      refine j_ior X dX12_path_88 ?_
      refine j_letI h (fun v15 h => ?_)
      refine j_istore_n (ls' := [some (.ref 89), some (.int p1), some (.int p2), some (.int v15), some (.int x4)]) X 3 dX12_path_89 rfl (Nat.le_of_ble_eq_true rfl) rfl ?_
      refine j_iinc (v := (x4 + 1)) (ls' := [some (.ref 89), some (.int p1), some (.int p2), some (.int v15), some (.int (x4 + 1))]) X dX12_path_90 rfl rfl (Nat.le_of_ble_eq_true rfl) rfl ?_
      refine j_goto (tgt := 52) X dX12_path_93 (by decide) ?_
      exact ih (v15, (x4 + 1)) σ13 _ h kk
    · refine j_iconst (v := 1) X dX12_path_80 (by decide) ?_
      refine j_iload X dX12_path_81 rfl ?_
      refine j_ishl X dX12_path_83 ?_
      refine j_goto (tgt := 88) X dX12_path_84 (by decide) ?_
      refine j_ior X dX12_path_88 ?_
      refine j_letI h (fun v16 h => ?_)
      refine j_istore_n (ls' := [some (.ref 89), some (.int p1), some (.int p2), some (.int v16), some (.int x4)]) X 3 dX12_path_89 rfl (Nat.le_of_ble_eq_true rfl) rfl ?_
      refine j_iinc (v := (x4 + 1)) (ls' := [some (.ref 89), some (.int p1), some (.int p2), some (.int v16), some (.int (x4 + 1))]) X dX12_path_90 rfl rfl (Nat.le_of_ble_eq_true rfl) rfl ?_
      refine j_goto (tgt := 52) X dX12_path_93 (by decide) ?_
      exact ih (v16, (x4 + 1)) σ13 _ h kk
theorem X12_path_L52_ok {K : jK} (X : JX K cX12_path 5 RX12 3 64) {p1 : Int32} {p2 : Int32}  : ∀ (n : Nat) (s : Int32 × Int32) (σ : jMem) (o : (Int32) × jMem), X12_path_L52 p1 p2 n s σ = some o → (J K 96 [some (.ref 89), some (.int p1), some (.int p2), some (.int o.1), none] [] o.2) → J K 52 [some (.ref 89), some (.int p1), some (.int p2), some (.int s.1), some (.int s.2)] [] σ := by
  intro n
  induction n with
  | zero => intro s σ o h; cases h
  | succ n ih => intro s σ o h; exact X12_path_L52_bok X  ih (s.1) (s.2) σ o h
def f_X12_path (a0 : Int32) (a1 : Int32) (σ : jMem) : Option (Int32 × jMem) :=
  jlet (jset σ 89 0 (0 : Int32)) (fun σ1 =>
  jbd (f_X12_isPath a0 σ1) (fun v2 σ3 =>
  if v2 = 0 then
  some (((-1000001 : Int32), σ3))
else
  jbd (f_X12_in ((a1).toInt64) (0 : Int64) (4 : Int64) σ3) (fun v5 σ6 =>
  if ¬ v5 = 0 then
  if (3 : Int32) ≤ a1 then
  jbd (X12_path_L52 (a0) (a1) jFU ((0 : Int32), (0 : Int32)) σ6) (fun q17 σ18 =>
  if ¬ a1 = (3 : Int32) then
  some ((q17, σ18))
else
  jld σ18 93 67 (6 : Int32) (fun v19 =>
  some ((((v19 >>> (a0 &&& 31)) &&& (1 : Int32)), σ18))))
else
  jld σ6 93 67 (((7 : Int32) + ((3 : Int32) * a0)) + a1) (fun v21 =>
  some ((v21, σ6)))
else
  some (((-1000001 : Int32), σ6)))))
set_option maxRecDepth 100000 in
set_option maxHeartbeats 4000000 in
theorem c_X12_path {l : Launch} {D : va_G} {ad : Nat → Nat} {cid : Nat → ClassId} {a0 : Int32} {a1 : Int32}  {σ : jMem} {r : Int32} {σ' : jMem} (h : f_X12_path a0 a1 σ = some (r, σ')) : jMet l D ad cid yX12_path cX12_path 5 (some .int) 3 64 [.ref 89, .int a0, .int a1] σ (some (.int r)) σ' := by
  refine jMet_of (ls0 := [some (.ref 89), some (.int a0), some (.int a1), none, none]) (by decide) (Nat.le_of_ble_eq_true rfl) rfl (fun K X R0 _ => ?_)
  unfold f_X12_path at h
  refine j_aload_n X 0 dX12_path_0 rfl rfl ?_
  refine j_iconst (v := 0) X dX12_path_1 (by decide) ?_
  refine j_put X fp_RX12_47 ln_89 ly_89 rfl rfl rfl dX12_path_2 h (fun σ1 h => ?_)
  refine j_aload_n X 0 dX12_path_5 rfl rfl ?_
  refine j_iload_n X 1 dX12_path_6 rfl rfl ?_
  obtain ⟨v2, σ3, hm4, h⟩ := jbd_some h
  refine j_callV (as := [.int a0]) (st := []) (st1 := [.int v2]) X ln_89 ly_89 rfl rfl sv_RX12_233 ⟨by decide, by decide⟩ rfl rfl (Nat.le_of_ble_eq_true rfl) rfl dX12_path_7 jrv_i (c_X12_isPath  hm4) rfl ?_
  refine j_if_eq (tgt := 25) X dX12_path_10 (by decide) h (fun h => ?_) (fun h => ?_)
  · refine j_ldc (v := -1000001) X tw_948 dX12_path_25 ?_
    obtain ⟨rfl, rfl⟩ := jin2 h
    exact j_iret X R0 dX12_path_27
  · refine j_iload_n X 2 dX12_path_13 rfl rfl ?_
    refine j_i2l X dX12_path_14 ?_
    refine j_lconst (v := 0) X dX12_path_15 (by decide) ?_
    refine j_ldc2_w (v := 4) X tw_1138 dX12_path_16 ?_
    obtain ⟨v5, σ6, hm7, h⟩ := jbd_some h
    refine j_callS (as := [.long ((a1).toInt64), .long (0 : Int64), .long (4 : Int64)]) (st := []) (st1 := [.int v5]) X ss_RX12_57 ⟨by decide, by decide⟩ rfl rfl (Nat.le_of_ble_eq_true rfl) rfl dX12_path_19 jrv_i (c_X12_in  hm7) rfl ?_
    refine j_if_ne (tgt := 28) X dX12_path_22 (by decide) h (fun h => ?_) (fun h => ?_)
    · refine j_iload_n X 2 dX12_path_28 rfl rfl ?_
      refine j_iconst (v := 3) X dX12_path_29 (by decide) ?_
      refine j_icmp_ge (tgt := 47) X dX12_path_30 (by decide) h (fun h => ?_) (fun h => ?_)
      · refine j_iconst (v := 0) X dX12_path_47 (by decide) ?_
        refine j_istore_n (ls' := [some (.ref 89), some (.int a0), some (.int a1), some (.int (0 : Int32)), none]) X 3 dX12_path_48 rfl (Nat.le_of_ble_eq_true rfl) rfl ?_
        refine j_iconst (v := 0) X dX12_path_49 (by decide) ?_
        refine j_istore (ls' := [some (.ref 89), some (.int a0), some (.int a1), some (.int (0 : Int32)), some (.int (0 : Int32))]) X dX12_path_50 (Nat.le_of_ble_eq_true rfl) rfl ?_
        obtain ⟨q17, σ18, hL20, h⟩ := jbd_some h
        refine X12_path_L52_ok X  jFU ((0 : Int32), (0 : Int32)) σ6 _ hL20 ?_
        refine j_iload_n X 2 dX12_path_96 rfl rfl ?_
        refine j_iconst (v := 3) X dX12_path_97 (by decide) ?_
        refine j_icmp_ne (tgt := 115) X dX12_path_98 (by decide) h (fun h => ?_) (fun h => ?_)
        · refine j_iload_n X 3 dX12_path_115 rfl rfl ?_
          obtain ⟨rfl, rfl⟩ := jin2 h
          exact j_iret X R0 dX12_path_116
        · refine j_aload_n X 0 dX12_path_101 rfl rfl ?_
          refine j_getR (t := 93) X fg_RX12_19 ln_89 ly_89 rfl dX12_path_102 ?_
          refine j_bipush (v := 6) X dX12_path_105 (by decide) ?_
          refine j_iaload X ln_93 ly_93 dX12_path_107 h (fun v19 h => ?_)
          refine j_iload_n X 1 dX12_path_108 rfl rfl ?_
          refine j_ishr X dX12_path_109 ?_
          refine j_iconst (v := 1) X dX12_path_110 (by decide) ?_
          refine j_iand X dX12_path_111 ?_
          refine j_goto (tgt := 116) X dX12_path_112 (by decide) ?_
          obtain ⟨rfl, rfl⟩ := jin2 h
          exact j_iret X R0 dX12_path_116
      · refine j_aload_n X 0 dX12_path_33 rfl rfl ?_
        refine j_getR (t := 93) X fg_RX12_19 ln_89 ly_89 rfl dX12_path_34 ?_
        refine j_bipush (v := 7) X dX12_path_37 (by decide) ?_
        refine j_iconst (v := 3) X dX12_path_39 (by decide) ?_
        refine j_iload_n X 1 dX12_path_40 rfl rfl ?_
        refine j_imul X dX12_path_41 ?_
        refine j_iadd X dX12_path_42 ?_
        refine j_iload_n X 2 dX12_path_43 rfl rfl ?_
        refine j_iadd X dX12_path_44 ?_
        refine j_iaload X ln_93 ly_93 dX12_path_45 h (fun v21 h => ?_)
        obtain ⟨rfl, rfl⟩ := jin2 h
        exact j_iret X R0 dX12_path_46
    · refine j_ldc (v := -1000001) X tw_948 dX12_path_25 ?_
      obtain ⟨rfl, rfl⟩ := jin2 h
      exact j_iret X R0 dX12_path_27
def f_X12_stand (a0 : Int32) (σ : jMem) : Option (Int32 × jMem) :=
  jlet (jset σ 89 0 (0 : Int32)) (fun σ1 =>
  jbd (f_X12_isThere  σ1) (fun v2 σ3 =>
  if ¬ v2 = 0 then
  if a0 = 0 then
  jbd (f_X12_waysOf 93 σ3) (fun v6 σ7 =>
  some ((v6, σ7)))
else
  if a0 = 1 then
  jld σ3 93 67 (6 : Int32) (fun v10 =>
  some ((v10, σ3)))
else
  if a0 = 2 then
  jbd (f_X12_living 93 σ3) (fun v12 σ13 =>
  some ((v12, σ13)))
else
  if a0 = 3 then
  jld σ3 93 67 (1 : Int32) (fun v16 =>
  some ((v16, σ3)))
else
  some (((-1000001 : Int32), σ3))
else
  some (((-1000002 : Int32), σ3))))
set_option maxRecDepth 100000 in
set_option maxHeartbeats 4000000 in
theorem c_X12_stand {l : Launch} {D : va_G} {ad : Nat → Nat} {cid : Nat → ClassId} {a0 : Int32}  {σ : jMem} {r : Int32} {σ' : jMem} (h : f_X12_stand a0 σ = some (r, σ')) : jMet l D ad cid yX12_stand cX12_stand 2 (some .int) 4 86 [.ref 89, .int a0] σ (some (.int r)) σ' := by
  refine jMet_of (ls0 := [some (.ref 89), some (.int a0)]) (by decide) (Nat.le_of_ble_eq_true rfl) rfl (fun K X R0 _ => ?_)
  unfold f_X12_stand at h
  refine j_aload_n X 0 dX12_stand_0 rfl rfl ?_
  refine j_iconst (v := 0) X dX12_stand_1 (by decide) ?_
  refine j_put X fp_RX12_47 ln_89 ly_89 rfl rfl rfl dX12_stand_2 h (fun σ1 h => ?_)
  refine j_aload_n X 0 dX12_stand_5 rfl rfl ?_
  obtain ⟨v2, σ3, hm4, h⟩ := jbd_some h
  refine j_callV (as := []) (st := []) (st1 := [.int v2]) X ln_89 ly_89 rfl rfl sv_RX12_203 ⟨by decide, by decide⟩ rfl rfl (Nat.le_of_ble_eq_true rfl) rfl dX12_stand_6 jrv_i (c_X12_isThere  hm4) rfl ?_
  refine j_if_ne (tgt := 15) X dX12_stand_9 (by decide) h (fun h => ?_) (fun h => ?_)
  · refine j_iload_n X 1 dX12_stand_15 rfl rfl ?_
    by_cases hs5 : a0 = 0
    · rw [if_pos hs5] at h
      refine j_tab (tgt := 48) X dX12_stand_16 0 hs5 (by decide) (by decide) rfl (by decide) ?_
      refine j_aload_n X 0 dX12_stand_48 rfl rfl ?_
      refine j_getR (t := 93) X fg_RX12_19 ln_89 ly_89 rfl dX12_stand_49 ?_
      obtain ⟨v6, σ7, hm8, h⟩ := jbd_some h
      refine j_callS (as := [.ref 93]) (st := []) (st1 := [.int v6]) X ss_RX12_221 ⟨by decide, by decide⟩ rfl rfl (Nat.le_of_ble_eq_true rfl) rfl dX12_stand_52 jrv_i (c_X12_waysOf ⟨ln_93, ly_93⟩ hm8) rfl ?_
      obtain ⟨rfl, rfl⟩ := jin2 h
      exact j_iret X R0 dX12_stand_55
    · rw [if_neg hs5] at h
      by_cases hs9 : a0 = 1
      · rw [if_pos hs9] at h
        refine j_tab (tgt := 56) X dX12_stand_16 1 hs9 (by decide) (by decide) rfl (by decide) ?_
        refine j_aload_n X 0 dX12_stand_56 rfl rfl ?_
        refine j_getR (t := 93) X fg_RX12_19 ln_89 ly_89 rfl dX12_stand_57 ?_
        refine j_bipush (v := 6) X dX12_stand_60 (by decide) ?_
        refine j_iaload X ln_93 ly_93 dX12_stand_62 h (fun v10 h => ?_)
        obtain ⟨rfl, rfl⟩ := jin2 h
        exact j_iret X R0 dX12_stand_63
      · rw [if_neg hs9] at h
        by_cases hs11 : a0 = 2
        · rw [if_pos hs11] at h
          refine j_tab (tgt := 64) X dX12_stand_16 2 hs11 (by decide) (by decide) rfl (by decide) ?_
          refine j_aload_n X 0 dX12_stand_64 rfl rfl ?_
          refine j_getR (t := 93) X fg_RX12_19 ln_89 ly_89 rfl dX12_stand_65 ?_
          obtain ⟨v12, σ13, hm14, h⟩ := jbd_some h
          refine j_callS (as := [.ref 93]) (st := []) (st1 := [.int v12]) X ss_RX12_230 ⟨by decide, by decide⟩ rfl rfl (Nat.le_of_ble_eq_true rfl) rfl dX12_stand_68 jrv_i (c_X12_living ⟨ln_93, ly_93⟩ hm14) rfl ?_
          obtain ⟨rfl, rfl⟩ := jin2 h
          exact j_iret X R0 dX12_stand_71
        · rw [if_neg hs11] at h
          by_cases hs15 : a0 = 3
          · rw [if_pos hs15] at h
            refine j_tab (tgt := 72) X dX12_stand_16 3 hs15 (by decide) (by decide) rfl (by decide) ?_
            refine j_aload_n X 0 dX12_stand_72 rfl rfl ?_
            refine j_getR (t := 93) X fg_RX12_19 ln_89 ly_89 rfl dX12_stand_73 ?_
            refine j_iconst (v := 1) X dX12_stand_76 (by decide) ?_
            refine j_iaload X ln_93 ly_93 dX12_stand_77 h (fun v16 h => ?_)
            obtain ⟨rfl, rfl⟩ := jin2 h
            exact j_iret X R0 dX12_stand_78
          · rw [if_neg hs15] at h
            refine j_tabo (tgt := 79) X dX12_stand_16 (by have w0 := lv_neT (a := 0) hs5 (by decide); have w1 := lv_neT (a := 1) hs9 (by decide); have w2 := lv_neT (a := 2) hs11 (by decide); have w3 := lv_neT (a := 3) hs15 (by decide); omega) (by decide) ?_
            refine j_ldc (v := -1000001) X tw_948 dX12_stand_79 ?_
            obtain ⟨rfl, rfl⟩ := jin2 h
            exact j_iret X R0 dX12_stand_81
  · refine j_ldc (v := -1000002) X tw_1041 dX12_stand_12 ?_
    obtain ⟨rfl, rfl⟩ := jin2 h
    exact j_iret X R0 dX12_stand_14
theorem sv_RX12_243 : jSiV RX12 243 yX12_layThen cX12_layThen 2 none 0 := ⟨tw_1148, tw_1150, ts_45, tw_13, tw_1151, by decide, by decide, by decide +kernel⟩
def X12_ahead_L36_b (p1 : Int32) (rec : Int32 → jMem → Option ((Unit) × jMem)) (x2 : Int32) (σ : jMem) : Option ((Unit) × jMem) :=
  if p1 ≤ x2 then
  some ((), σ)
else
  jbv (f_X12_year 95 σ) (fun σ10 =>
  rec (x2 + 1) σ10)
def X12_ahead_L36 (p1 : Int32) : Nat → Int32 → jMem → Option ((Unit) × jMem) := jloop (fun rec s σ => X12_ahead_L36_b p1 rec s σ)
set_option maxRecDepth 100000 in
set_option maxHeartbeats 4000000 in
theorem X12_ahead_L36_bok {K : jK} (X : JX K cX12_ahead 3 RX12 4 86) {p1 : Int32}  {rec : Int32 → jMem → Option ((Unit) × jMem)} (ih : ∀ (s : Int32) (σ : jMem) (o : (Unit) × jMem), rec s σ = some o → (J K 54 [some (.ref 89), none, none] [] o.2) → J K 36 [some (.ref 89), some (.int p1), some (.int s)] [] σ) : ∀ (x2 : Int32) (σ : jMem) (o : (Unit) × jMem), X12_ahead_L36_b p1 rec x2 σ = some o → (J K 54 [some (.ref 89), none, none] [] o.2) → J K 36 [some (.ref 89), some (.int p1), some (.int x2)] [] σ := by
  intro x2 σ o h kk
  unfold X12_ahead_L36_b at h
  refine j_iload_n X 2 dX12_ahead_36 rfl rfl ?_
  refine j_iload_n X 1 dX12_ahead_37 rfl rfl ?_
  refine j_icmp_ge (tgt := 54) X dX12_ahead_38 (by decide) h (fun h => ?_) (fun h => ?_)
  · obtain rfl := Option.some.inj h
    exact j_sub (ls' := [some (.ref 89), none, none]) ⟨Or.inr rfl, Or.inl rfl, Or.inl rfl, trivial⟩ kk
  · refine j_aload_n X 0 dX12_ahead_41 rfl rfl ?_
    refine j_getR (t := 95) X fg_RX12_25 ln_89 ly_89 rfl dX12_ahead_42 ?_
    obtain ⟨σ10, hm11, h⟩ := jbv_some h
    refine j_callS (as := [.ref 95]) (st := []) (st1 := []) X ss_RX12_227 ⟨by decide, by decide⟩ rfl rfl (Nat.le_of_ble_eq_true rfl) rfl dX12_ahead_45 jrv_v (c_X12_year ⟨ln_95, ly_95⟩ hm11) rfl ?_
    refine j_iinc (v := (x2 + 1)) (ls' := [some (.ref 89), some (.int p1), some (.int (x2 + 1))]) X dX12_ahead_48 rfl rfl (Nat.le_of_ble_eq_true rfl) rfl ?_
    refine j_goto (tgt := 36) X dX12_ahead_51 (by decide) ?_
    exact ih (x2 + 1) σ10 _ h kk
theorem X12_ahead_L36_ok {K : jK} (X : JX K cX12_ahead 3 RX12 4 86) {p1 : Int32}  : ∀ (n : Nat) (s : Int32) (σ : jMem) (o : (Unit) × jMem), X12_ahead_L36 p1 n s σ = some o → (J K 54 [some (.ref 89), none, none] [] o.2) → J K 36 [some (.ref 89), some (.int p1), some (.int s)] [] σ := by
  intro n
  induction n with
  | zero => intro s σ o h; cases h
  | succ n ih => intro s σ o h; exact X12_ahead_L36_bok X  ih (s) σ o h
def f_X12_ahead (a0 : Int32) (σ : jMem) : Option (Int32 × jMem) :=
  jlet (jset σ 89 0 (0 : Int32)) (fun σ1 =>
  jbd (f_X12_isThere  σ1) (fun v2 σ3 =>
  if ¬ v2 = 0 then
  jbd (f_X12_in ((a0).toInt64) (0 : Int64) (60 : Int64) σ3) (fun v5 σ6 =>
  if ¬ v5 = 0 then
  jbv (f_X12_layThen  σ6) (fun σ8 =>
  jbd (X12_ahead_L36 (a0) jFU (0 : Int32) σ8) (fun q12 σ13 =>
  jbd (f_X12_waysOf 95 σ13) (fun v14 σ15 =>
  some ((v14, σ15)))))
else
  some (((-1000001 : Int32), σ6)))
else
  some (((-1000002 : Int32), σ3))))
set_option maxRecDepth 100000 in
set_option maxHeartbeats 4000000 in
theorem c_X12_ahead {l : Launch} {D : va_G} {ad : Nat → Nat} {cid : Nat → ClassId} {a0 : Int32}  {σ : jMem} {r : Int32} {σ' : jMem} (h : f_X12_ahead a0 σ = some (r, σ')) : jMet l D ad cid yX12_ahead cX12_ahead 3 (some .int) 4 86 [.ref 89, .int a0] σ (some (.int r)) σ' := by
  refine jMet_of (ls0 := [some (.ref 89), some (.int a0), none]) (by decide) (Nat.le_of_ble_eq_true rfl) rfl (fun K X R0 _ => ?_)
  unfold f_X12_ahead at h
  refine j_aload_n X 0 dX12_ahead_0 rfl rfl ?_
  refine j_iconst (v := 0) X dX12_ahead_1 (by decide) ?_
  refine j_put X fp_RX12_47 ln_89 ly_89 rfl rfl rfl dX12_ahead_2 h (fun σ1 h => ?_)
  refine j_aload_n X 0 dX12_ahead_5 rfl rfl ?_
  obtain ⟨v2, σ3, hm4, h⟩ := jbd_some h
  refine j_callV (as := []) (st := []) (st1 := [.int v2]) X ln_89 ly_89 rfl rfl sv_RX12_203 ⟨by decide, by decide⟩ rfl rfl (Nat.le_of_ble_eq_true rfl) rfl dX12_ahead_6 jrv_i (c_X12_isThere  hm4) rfl ?_
  refine j_if_ne (tgt := 15) X dX12_ahead_9 (by decide) h (fun h => ?_) (fun h => ?_)
  · refine j_iload_n X 1 dX12_ahead_15 rfl rfl ?_
    refine j_i2l X dX12_ahead_16 ?_
    refine j_lconst (v := 0) X dX12_ahead_17 (by decide) ?_
    refine j_ldc2_w (v := 60) X tw_1147 dX12_ahead_18 ?_
    obtain ⟨v5, σ6, hm7, h⟩ := jbd_some h
    refine j_callS (as := [.long ((a0).toInt64), .long (0 : Int64), .long (60 : Int64)]) (st := []) (st1 := [.int v5]) X ss_RX12_57 ⟨by decide, by decide⟩ rfl rfl (Nat.le_of_ble_eq_true rfl) rfl dX12_ahead_21 jrv_i (c_X12_in  hm7) rfl ?_
    refine j_if_ne (tgt := 30) X dX12_ahead_24 (by decide) h (fun h => ?_) (fun h => ?_)
    · refine j_aload_n X 0 dX12_ahead_30 rfl rfl ?_
      obtain ⟨σ8, hm9, h⟩ := jbv_some h
      refine j_callV (as := []) (st := []) (st1 := []) X ln_89 ly_89 rfl rfl sv_RX12_243 ⟨by decide, by decide⟩ rfl rfl (Nat.le_of_ble_eq_true rfl) rfl dX12_ahead_31 jrv_v (c_X12_layThen  hm9) rfl ?_
      refine j_iconst (v := 0) X dX12_ahead_34 (by decide) ?_
      refine j_istore_n (ls' := [some (.ref 89), some (.int a0), some (.int (0 : Int32))]) X 2 dX12_ahead_35 rfl (Nat.le_of_ble_eq_true rfl) rfl ?_
      obtain ⟨q12, σ13, hL17, h⟩ := jbd_some h
      refine X12_ahead_L36_ok X  jFU (0 : Int32) σ8 _ hL17 ?_
      refine j_aload_n X 0 dX12_ahead_54 rfl rfl ?_
      refine j_getR (t := 95) X fg_RX12_25 ln_89 ly_89 rfl dX12_ahead_55 ?_
      obtain ⟨v14, σ15, hm16, h⟩ := jbd_some h
      refine j_callS (as := [.ref 95]) (st := []) (st1 := [.int v14]) X ss_RX12_221 ⟨by decide, by decide⟩ rfl rfl (Nat.le_of_ble_eq_true rfl) rfl dX12_ahead_58 jrv_i (c_X12_waysOf ⟨ln_95, ly_95⟩ hm16) rfl ?_
      obtain ⟨rfl, rfl⟩ := jin2 h
      exact j_iret X R0 dX12_ahead_61
    · refine j_ldc (v := -1000001) X tw_948 dX12_ahead_27 ?_
      obtain ⟨rfl, rfl⟩ := jin2 h
      exact j_iret X R0 dX12_ahead_29
  · refine j_ldc (v := -1000002) X tw_1041 dX12_ahead_12 ?_
    obtain ⟨rfl, rfl⟩ := jin2 h
    exact j_iret X R0 dX12_ahead_14
