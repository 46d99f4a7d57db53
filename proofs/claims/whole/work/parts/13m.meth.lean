def X12_drawn_L66_b (p1 : Int32) (p3 : Int32) (rec : Int64 × Int32 × Int32 → jMem → Option ((Int32) × jMem)) (x4 : Int64) (x6 : Int32) (x7 : Int32) (σ : jMem) : Option ((Int32) × jMem) :=
  if p1 ≤ x7 then
  some (x6, σ)
else
  jlet (((x4 * (16807 : Int64)) - (x4 * (16807 : Int64)) / (2147483647 : Int64) * (2147483647 : Int64))) (fun v17 =>
  jld σ 95 67 (6 : Int32) (fun v18 =>
  jbd (f_X12_isBurial v18 (((v17 - v17 / (8 : Int64) * (8 : Int64))).toInt32) σ) (fun v19 σ20 =>
  jj (fun (q23 : Int32) σ24 =>
  jbv (f_X12_year 95 σ24) (fun σ25 =>
  rec (v17, q23, (x7 + 1)) σ25)) (fun k22 =>
  if v19 = 0 then
  k22 x6 σ20
else
  jbv (f_X12_see 95 σ20) (fun σ27 =>
  k22 (x6 + 1) σ27)))))
def X12_drawn_L66 (p1 : Int32) (p3 : Int32) : Nat → Int64 × Int32 × Int32 → jMem → Option ((Int32) × jMem) := jloop (fun rec s σ => X12_drawn_L66_b p1 p3 rec s.1 s.2.1 s.2.2 σ)
set_option maxRecDepth 100000 in
set_option maxHeartbeats 4000000 in
theorem X12_drawn_L66_bok {K : jK} (X : JX K cX12_drawn 8 RX12 4 99) {p1 : Int32} {p3 : Int32}  {rec : Int64 × Int32 × Int32 → jMem → Option ((Int32) × jMem)} (ih : ∀ (s : Int64 × Int32 × Int32) (σ : jMem) (o : (Int32) × jMem), rec s σ = some o → (J K 129 [some (.ref 89), none, none, some (.int p3), none, none, some (.int o.1), none] [] o.2) → J K 66 [some (.ref 89), some (.int p1), none, some (.int p3), some (.long s.1), none, some (.int s.2.1), some (.int s.2.2)] [] σ) : ∀ (x4 : Int64) (x6 : Int32) (x7 : Int32) (σ : jMem) (o : (Int32) × jMem), X12_drawn_L66_b p1 p3 rec x4 x6 x7 σ = some o → (J K 129 [some (.ref 89), none, none, some (.int p3), none, none, some (.int o.1), none] [] o.2) → J K 66 [some (.ref 89), some (.int p1), none, some (.int p3), some (.long x4), none, some (.int x6), some (.int x7)] [] σ := by
  intro x4 x6 x7 σ o h kk
  unfold X12_drawn_L66_b at h
  refine j_iload X dX12_drawn_66 rfl ?_
  refine j_iload_n X 1 dX12_drawn_68 rfl rfl ?_
  refine j_icmp_ge (tgt := 129) X dX12_drawn_69 (by decide) h (fun h => ?_) (fun h => ?_)
  · obtain rfl := Option.some.inj h
    exact j_sub (ls' := [some (.ref 89), none, none, some (.int p3), none, none, some (.int x6), none]) ⟨Or.inr rfl, Or.inl rfl, Or.inl rfl, Or.inr rfl, Or.inl rfl, Or.inl rfl, Or.inr rfl, Or.inl rfl, trivial⟩ kk
  · refine j_lload X dX12_drawn_72 rfl ?_
    refine j_ldc2_w (v := 16807) X tw_1223 dX12_drawn_74 ?_
    refine j_lmul X dX12_drawn_77 ?_
    refine j_ldc2_w (v := 2147483647) X tw_1224 dX12_drawn_78 ?_
    refine j_lrem X dX12_drawn_81 (by decide) ?_
    refine j_letL h (fun v17 h => ?_)
    refine j_lstore (ls' := [some (.ref 89), some (.int p1), none, some (.int p3), some (.long v17), none, some (.int x6), some (.int x7)]) X dX12_drawn_82 (Nat.le_of_ble_eq_true rfl) rfl ?_
    refine j_aload_n X 0 dX12_drawn_84 rfl rfl ?_
    refine j_aload_n X 0 dX12_drawn_85 rfl rfl ?_
    refine j_getR (t := 95) X fg_RX12_25 ln_89 ly_89 rfl dX12_drawn_86 ?_
    refine j_bipush (v := 6) X dX12_drawn_89 (by decide) ?_
    refine j_iaload X ln_95 ly_95 dX12_drawn_91 h (fun v18 h => ?_)
    refine j_lload X dX12_drawn_92 rfl ?_
    refine j_ldc2_w (v := 8) X tw_1225 dX12_drawn_94 ?_
    refine j_lrem X dX12_drawn_97 (by decide) ?_
    refine j_l2i X dX12_drawn_98 ?_
    obtain ⟨v19, σ20, hm21, h⟩ := jbd_some h
    refine j_callV (as := [.int v18, .int (((v17 - v17 / (8 : Int64) * (8 : Int64))).toInt32)]) (st := []) (st1 := [.int v19]) X ln_89 ly_89 rfl rfl sv_RX12_211 ⟨by decide, by decide⟩ rfl rfl (Nat.le_of_ble_eq_true rfl) rfl dX12_drawn_99 jrv_i (c_X12_isBurial  hm21) rfl ?_
    refine j_join (pcJ := 116) (lsJ := fun q23 => [some (.ref 89), some (.int p1), none, some (.int p3), some (.long v17), none, some (.int q23), some (.int x7)]) (stJ := fun q23 => []) h (fun q23 σ24 h => ?_) (fun k22 hk22 h => ?_)
    · refine j_aload_n X 0 dX12_drawn_116 rfl rfl ?_
      refine j_getR (t := 95) X fg_RX12_25 ln_89 ly_89 rfl dX12_drawn_117 ?_
      obtain ⟨σ25, hm26, h⟩ := jbv_some h
      refine j_callS (as := [.ref 95]) (st := []) (st1 := []) X ss_RX12_227 ⟨by decide, by decide⟩ rfl rfl (Nat.le_of_ble_eq_true rfl) rfl dX12_drawn_120 jrv_v (c_X12_year ⟨ln_95, ly_95⟩ hm26) rfl ?_
      refine j_iinc (v := (x7 + 1)) (ls' := [some (.ref 89), some (.int p1), none, some (.int p3), some (.long v17), none, some (.int q23), some (.int (x7 + 1))]) X dX12_drawn_123 rfl rfl (Nat.le_of_ble_eq_true rfl) rfl ?_
      refine j_goto (tgt := 66) X dX12_drawn_126 (by decide) ?_
      exact ih (v17, q23, (x7 + 1)) σ25 _ h kk
    · refine j_if_eq (tgt := 116) X dX12_drawn_102 (by decide) h (fun h => ?_) (fun h => ?_)
      · exact hk22 x6 σ20 h
      · refine j_aload_n X 0 dX12_drawn_105 rfl rfl ?_
        refine j_aload_n X 0 dX12_drawn_106 rfl rfl ?_
        refine j_getR (t := 95) X fg_RX12_25 ln_89 ly_89 rfl dX12_drawn_107 ?_
        obtain ⟨σ27, hm28, h⟩ := jbv_some h
        refine j_callV (as := [.ref 95]) (st := []) (st1 := []) X ln_89 ly_89 rfl rfl sv_RX12_217 ⟨by decide, by decide⟩ rfl rfl (Nat.le_of_ble_eq_true rfl) rfl dX12_drawn_110 jrv_v (c_X12_see ⟨ln_95, ly_95⟩ hm28) rfl ?_
        refine j_iinc (v := (x6 + 1)) (ls' := [some (.ref 89), some (.int p1), none, some (.int p3), some (.long v17), none, some (.int (x6 + 1)), some (.int x7)]) X dX12_drawn_113 rfl rfl (Nat.le_of_ble_eq_true rfl) rfl ?_
        exact hk22 (x6 + 1) σ27 h
theorem X12_drawn_L66_ok {K : jK} (X : JX K cX12_drawn 8 RX12 4 99) {p1 : Int32} {p3 : Int32}  : ∀ (n : Nat) (s : Int64 × Int32 × Int32) (σ : jMem) (o : (Int32) × jMem), X12_drawn_L66 p1 p3 n s σ = some o → (J K 129 [some (.ref 89), none, none, some (.int p3), none, none, some (.int o.1), none] [] o.2) → J K 66 [some (.ref 89), some (.int p1), none, some (.int p3), some (.long s.1), none, some (.int s.2.1), some (.int s.2.2)] [] σ := by
  intro n
  induction n with
  | zero => intro s σ o h; cases h
  | succ n ih => intro s σ o h; exact X12_drawn_L66_bok X  ih (s.1) (s.2.1) (s.2.2) σ o h
def f_X12_drawn (a0 : Int32) (a1 : Int32) (a2 : Int32) (σ : jMem) : Option (Int32 × jMem) :=
  jlet (jset σ 89 0 (0 : Int32)) (fun σ1 =>
  jbd (f_X12_isThere  σ1) (fun v2 σ3 =>
  if ¬ v2 = 0 then
  jbd (f_X12_in ((a0).toInt64) (0 : Int64) (60 : Int64) σ3) (fun v5 σ6 =>
  if v5 = 0 then
  some (((-1000001 : Int32), σ6))
else
  jbd (f_X12_in ((a1).toInt64) (1 : Int64) (999999 : Int64) σ6) (fun v8 σ9 =>
  if v8 = 0 then
  some (((-1000001 : Int32), σ9))
else
  jbd (f_X12_in ((a2).toInt64) (0 : Int64) (1 : Int64) σ9) (fun v11 σ12 =>
  if ¬ v11 = 0 then
  jbv (f_X12_layThen  σ12) (fun σ14 =>
  jlet (((a1).toInt64)) (fun v16 =>
  jbd (X12_drawn_L66 (a0) (a2) jFU (v16, (0 : Int32), (0 : Int32)) σ14) (fun q29 σ30 =>
  if ¬ a2 = 0 then
  some ((q29, σ30))
else
  jbd (f_X12_waysOf 95 σ30) (fun v31 σ32 =>
  some ((v31, σ32))))))
else
  some (((-1000001 : Int32), σ12)))))
else
  some (((-1000002 : Int32), σ3))))
set_option maxRecDepth 100000 in
set_option maxHeartbeats 4000000 in
theorem c_X12_drawn {l : Launch} {D : va_G} {ad : Nat → Nat} {cid : Nat → ClassId} {a0 : Int32} {a1 : Int32} {a2 : Int32}  {σ : jMem} {r : Int32} {σ' : jMem} (h : f_X12_drawn a0 a1 a2 σ = some (r, σ')) : jMet l D ad cid yX12_drawn cX12_drawn 8 (some .int) 4 99 [.ref 89, .int a0, .int a1, .int a2] σ (some (.int r)) σ' := by
  refine jMet_of (ls0 := [some (.ref 89), some (.int a0), some (.int a1), some (.int a2), none, none, none, none]) (by decide) (Nat.le_of_ble_eq_true rfl) rfl (fun K X R0 _ => ?_)
  unfold f_X12_drawn at h
  refine j_aload_n X 0 dX12_drawn_0 rfl rfl ?_
  refine j_iconst (v := 0) X dX12_drawn_1 (by decide) ?_
  refine j_put X fp_RX12_47 ln_89 ly_89 rfl rfl rfl dX12_drawn_2 h (fun σ1 h => ?_)
  refine j_aload_n X 0 dX12_drawn_5 rfl rfl ?_
  obtain ⟨v2, σ3, hm4, h⟩ := jbd_some h
  refine j_callV (as := []) (st := []) (st1 := [.int v2]) X ln_89 ly_89 rfl rfl sv_RX12_203 ⟨by decide, by decide⟩ rfl rfl (Nat.le_of_ble_eq_true rfl) rfl dX12_drawn_6 jrv_i (c_X12_isThere  hm4) rfl ?_
  refine j_if_ne (tgt := 15) X dX12_drawn_9 (by decide) h (fun h => ?_) (fun h => ?_)
  · refine j_iload_n X 1 dX12_drawn_15 rfl rfl ?_
    refine j_i2l X dX12_drawn_16 ?_
    refine j_lconst (v := 0) X dX12_drawn_17 (by decide) ?_
    refine j_ldc2_w (v := 60) X tw_1147 dX12_drawn_18 ?_
    obtain ⟨v5, σ6, hm7, h⟩ := jbd_some h
    refine j_callS (as := [.long ((a0).toInt64), .long (0 : Int64), .long (60 : Int64)]) (st := []) (st1 := [.int v5]) X ss_RX12_57 ⟨by decide, by decide⟩ rfl rfl (Nat.le_of_ble_eq_true rfl) rfl dX12_drawn_21 jrv_i (c_X12_in  hm7) rfl ?_
    refine j_if_eq (tgt := 49) X dX12_drawn_24 (by decide) h (fun h => ?_) (fun h => ?_)
    · refine j_ldc (v := -1000001) X tw_948 dX12_drawn_49 ?_
      obtain ⟨rfl, rfl⟩ := jin2 h
      exact j_iret X R0 dX12_drawn_51
    · refine j_iload_n X 2 dX12_drawn_27 rfl rfl ?_
      refine j_i2l X dX12_drawn_28 ?_
      refine j_lconst (v := 1) X dX12_drawn_29 (by decide) ?_
      refine j_ldc2_w (v := 999999) X tw_1222 dX12_drawn_30 ?_
      obtain ⟨v8, σ9, hm10, h⟩ := jbd_some h
      refine j_callS (as := [.long ((a1).toInt64), .long (1 : Int64), .long (999999 : Int64)]) (st := []) (st1 := [.int v8]) X ss_RX12_57 ⟨by decide, by decide⟩ rfl rfl (Nat.le_of_ble_eq_true rfl) rfl dX12_drawn_33 jrv_i (c_X12_in  hm10) rfl ?_
      refine j_if_eq (tgt := 49) X dX12_drawn_36 (by decide) h (fun h => ?_) (fun h => ?_)
      · refine j_ldc (v := -1000001) X tw_948 dX12_drawn_49 ?_
        obtain ⟨rfl, rfl⟩ := jin2 h
        exact j_iret X R0 dX12_drawn_51
      · refine j_iload_n X 3 dX12_drawn_39 rfl rfl ?_
        refine j_i2l X dX12_drawn_40 ?_
        refine j_lconst (v := 0) X dX12_drawn_41 (by decide) ?_
        refine j_lconst (v := 1) X dX12_drawn_42 (by decide) ?_
        obtain ⟨v11, σ12, hm13, h⟩ := jbd_some h
        refine j_callS (as := [.long ((a2).toInt64), .long (0 : Int64), .long (1 : Int64)]) (st := []) (st1 := [.int v11]) X ss_RX12_57 ⟨by decide, by decide⟩ rfl rfl (Nat.le_of_ble_eq_true rfl) rfl dX12_drawn_43 jrv_i (c_X12_in  hm13) rfl ?_
        refine j_if_ne (tgt := 52) X dX12_drawn_46 (by decide) h (fun h => ?_) (fun h => ?_)
        · refine j_aload_n X 0 dX12_drawn_52 rfl rfl ?_
          obtain ⟨σ14, hm15, h⟩ := jbv_some h
          refine j_callV (as := []) (st := []) (st1 := []) X ln_89 ly_89 rfl rfl sv_RX12_243 ⟨by decide, by decide⟩ rfl rfl (Nat.le_of_ble_eq_true rfl) rfl dX12_drawn_53 jrv_v (c_X12_layThen  hm15) rfl ?_
          refine j_iload_n X 2 dX12_drawn_56 rfl rfl ?_
          refine j_i2l X dX12_drawn_57 ?_
          refine j_letL h (fun v16 h => ?_)
          refine j_lstore (ls' := [some (.ref 89), some (.int a0), some (.int a1), some (.int a2), some (.long v16), none, none, none]) X dX12_drawn_58 (Nat.le_of_ble_eq_true rfl) rfl ?_
          refine j_iconst (v := 0) X dX12_drawn_60 (by decide) ?_
          refine j_istore (ls' := [some (.ref 89), some (.int a0), some (.int a1), some (.int a2), some (.long v16), none, some (.int (0 : Int32)), none]) X dX12_drawn_61 (Nat.le_of_ble_eq_true rfl) rfl ?_
          refine j_iconst (v := 0) X dX12_drawn_63 (by decide) ?_
          refine j_istore (ls' := [some (.ref 89), some (.int a0), some (.int a1), some (.int a2), some (.long v16), none, some (.int (0 : Int32)), some (.int (0 : Int32))]) X dX12_drawn_64 (Nat.le_of_ble_eq_true rfl) rfl ?_
          obtain ⟨q29, σ30, hL34, h⟩ := jbd_some h
          refine j_sub (ls' := [some (.ref 89), some (.int a0), none, some (.int a2), some (.long v16), none, some (.int (0 : Int32)), some (.int (0 : Int32))]) ⟨Or.inr rfl, Or.inr rfl, Or.inl rfl, Or.inr rfl, Or.inr rfl, Or.inl rfl, Or.inr rfl, Or.inr rfl, trivial⟩ ?_
          refine X12_drawn_L66_ok X  jFU (v16, (0 : Int32), (0 : Int32)) σ14 _ hL34 ?_
          refine j_iload_n X 3 dX12_drawn_129 rfl rfl ?_
          refine j_if_ne (tgt := 143) X dX12_drawn_130 (by decide) h (fun h => ?_) (fun h => ?_)
          · refine j_iload X dX12_drawn_143 rfl ?_
            obtain ⟨rfl, rfl⟩ := jin2 h
            exact j_iret X R0 dX12_drawn_145
          · refine j_aload_n X 0 dX12_drawn_133 rfl rfl ?_
            refine j_getR (t := 95) X fg_RX12_25 ln_89 ly_89 rfl dX12_drawn_134 ?_
            obtain ⟨v31, σ32, hm33, h⟩ := jbd_some h
            refine j_callS (as := [.ref 95]) (st := []) (st1 := [.int v31]) X ss_RX12_221 ⟨by decide, by decide⟩ rfl rfl (Nat.le_of_ble_eq_true rfl) rfl dX12_drawn_137 jrv_i (c_X12_waysOf ⟨ln_95, ly_95⟩ hm33) rfl ?_
            refine j_goto (tgt := 145) X dX12_drawn_140 (by decide) ?_
            obtain ⟨rfl, rfl⟩ := jin2 h
            exact j_iret X R0 dX12_drawn_145
        · refine j_ldc (v := -1000001) X tw_948 dX12_drawn_49 ?_
          obtain ⟨rfl, rfl⟩ := jin2 h
          exact j_iret X R0 dX12_drawn_51
  · refine j_ldc (v := -1000002) X tw_1041 dX12_drawn_12 ?_
    obtain ⟨rfl, rfl⟩ := jin2 h
    exact j_iret X R0 dX12_drawn_14
