def X12_drawn_L66_b (p1 : Int32) (p3 : Int32) (rec : Int64 × Int32 × Int32 → jMem → Option ((Int32) × jMem)) (x4 : Int64) (x6 : Int32) (x7 : Int32) (σ : jMem) : Option ((Int32) × jMem) :=
  if p1 ≤ x7 then
  some (x6, σ)
else
  jlet (((x4 * (16807 : Int64)) - (x4 * (16807 : Int64)) / (2147483647 : Int64) * (2147483647 : Int64))) (fun v17 =>
  jld σ 95 67 (6 : Int32) (fun v18 =>
  jbd (f_X12_isBurial v18 (((v17 - v17 / (8 : Int64) * (8 : Int64))).toInt32) σ) (fun v19 σ20 =>
  jj (fun (q23 : Int32) σ24 =>
  jbv (f_X12_year 95 σ24) (fun σ25 =>
  rec (v17, q23, (x7 + 1)) σ25)) (fun k22 =>
  if v19 = 0 then
  k22 x6 σ20
else
  jbv (f_X12_see 95 σ20) (fun σ27 =>
  k22 (x6 + 1) σ27)))))
def X12_drawn_L66 (p1 : Int32) (p3 : Int32) : Nat → Int64 × Int32 × Int32 → jMem → Option ((Int32) × jMem) := jloop (fun rec s σ => X12_drawn_L66_b p1 p3 rec s.1 s.2.1 s.2.2 σ)
set_option maxRecDepth 100000 in
set_option maxHeartbeats 4000000 in
theorem X12_drawn_L66_bok {K : jK} (X : JX K cX12_drawn 8 RX12 4 99) {p1 : Int32} {p3 : Int32}  {rec : Int64 × Int32 × Int32 → jMem → Option ((Int32) × jMem)} (ih : ∀ (s : Int64 × Int32 × Int32) (σ : jMem) (o : (Int32) × jMem), rec s σ = some o → (J K 129 [some (.ref 89), none, none, some (.int p3), none, none, some (.int o.1), none] [] o.2) → J K 66 [some (.ref 89), some (.int p1), none, some (.int p3), some (.long s.1), none, some (.int s.2.1), some (.int s.2.2)] [] σ) : ∀ (x4 : Int64) (x6 : Int32) (x7 : Int32) (σ : jMem) (o : (Int32) × jMem), X12_drawn_L66_b p1 p3 rec x4 x6 x7 σ = some o → (J K 129 [some (.ref 89), none, none, some (.int p3), none, none, some (.int o.1), none] [] o.2) → J K 66 [some (.ref 89), some (.int p1), none, some (.int p3), some (.long x4), none, some (.int x6), some (.int x7)] [] σ := by
  intro x4 x6 x7 σ o h kk
  unfold X12_drawn_L66_b at h
  refine j_iload X dX12_drawn_66 rfl ?_
  refine j_iload_n X 1 dX12_drawn_68 rfl rfl ?_
  refine j_icmp_ge (tgt := 129) X dX12_drawn_69 (by decide) h (fun h => ?_) (fun h => ?_)
  · obtain rfl := Option.some.inj h
    exact j_sub (ls' := [some (.ref 89), none, none, some (.int p3), none, none, some (.int x6), none]) ⟨Or.inr rfl, Or.inl rfl, Or.inl rfl, Or.inr rfl, Or.inl rfl, Or.inl rfl, Or.inr rfl, Or.inl rfl, trivial⟩ kk
  · refine j_lload X dX12_drawn_72 rfl ?_
    refine j_ldc2_w (v := 16807) X tw_1223 dX12_drawn_74 ?_
    refine j_lmul X dX12_drawn_77 ?_
    refine j_ldc2_w (v := 2147483647) X tw_1224 dX12_drawn_78 ?_
    refine j_lrem X dX12_drawn_81 (by decide) ?_
    refine j_letL h (fun v17 h => ?_)
    refine j_lstore (ls' := [some (.ref 89), some (.int p1), none, some (.int p3), some (.long v17), none, some (.int x6), some (.int x7)]) X dX12_drawn_82 (Nat.le_of_ble_eq_true rfl) rfl ?_
    refine j_aload_n X 0 dX12_drawn_84 rfl rfl ?_
    refine j_aload_n X 0 dX12_drawn_85 rfl rfl ?_
    refine j_getR (t := 95) X fg_RX12_25 ln_89 ly_89 rfl dX12_drawn_86 ?_
    refine j_bipush (v := 6) X dX12_drawn_89 (by decide) ?_
    refine j_iaload X ln_95 ly_95 dX12_drawn_91 h (fun v18 h => ?_)
    refine j_lload X dX12_drawn_92 rfl ?_
    refine j_ldc2_w (v := 8) X tw_1225 dX12_drawn_94 ?_
    refine j_lrem X dX12_drawn_97 (by decide) ?_
    refine j_l2i X dX12_drawn_98 ?_
    obtain ⟨v19, σ20, hm21, h⟩ := jbd_some h
    refine j_callV (as := [.int v18, .int (((v17 - v17 / (8 : Int64) * (8 : Int64))).toInt32)]) (st := []) (st1 := [.int v19]) X ln_89 ly_89 rfl rfl sv_RX12_211 ⟨by decide, by decide⟩ rfl rfl (Nat.le_of_ble_eq_true rfl) rfl dX12_drawn_99 jrv_i (c_X12_isBurial  hm21) rfl ?_
    refine j_join (pcJ := 116) (lsJ := fun q23 => [some (.ref 89), some (.int p1), none, some (.int p3), some (.long v17), none, some (.int q23), some (.int x7)]) (stJ := fun q23 => []) h (fun q23 σ24 h => ?_) (fun k22 hk22 h => ?_)
    · refine j_aload_n X 0 dX12_drawn_116 rfl rfl ?_
      refine j_getR (t := 95) X fg_RX12_25 ln_89 ly_89 rfl dX12_drawn_117 ?_
      obtain ⟨σ25, hm26, h⟩ := jbv_some h
      refine j_callS (as := [.ref 95]) (st := []) (st1 := []) X ss_RX12_227 ⟨by decide, by decide⟩ rfl rfl (Nat.le_of_ble_eq_true rfl) rfl dX12_drawn_120 jrv_v (c_X12_year ⟨ln_95, ly_95⟩ hm26) rfl ?_
      refine j_iinc (v := (x7 + 1)) (ls' := [some (.ref 89), some (.int p1), none, some (.int p3), some (.long v17), none, some (.int q23), some (.int (x7 + 1))]) X dX12_drawn_123 rfl rfl (Nat.le_of_ble_eq_true rfl) rfl ?_
      refine j_goto (tgt := 66) X dX12_drawn_126 (by decide) ?_
      exact ih (v17, q23, (x7 + 1)) σ25 _ h kk
    · refine j_if_eq (tgt := 116) X dX12_drawn_102 (by decide) h (fun h => ?_) (fun h => ?_)
      · exact hk22 x6 σ20 h
      · refine j_aload_n X 0 dX12_drawn_105 rfl rfl ?_
        refine j_aload_n X 0 dX12_drawn_106 rfl rfl ?_
        refine j_getR (t := 95) X fg_RX12_25 ln_89 ly_89 rfl dX12_drawn_107 ?_
        obtain ⟨σ27, hm28, h⟩ := jbv_some h
        refine j_callV (as := [.ref 95]) (st := []) (st1 := []) X ln_89 ly_89 rfl rfl sv_RX12_217 ⟨by decide, by decide⟩ rfl rfl (Nat.le_of_ble_eq_true rfl) rfl dX12_drawn_110 jrv_v (c_X12_see ⟨ln_95, ly_95⟩ hm28) rfl ?_
        refine j_iinc (v := (x6 + 1)) (ls' := [some (.ref 89), some (.int p1), none, some (.int p3), some (.long v17), none, some (.int (x6 + 1)), some (.int x7)]) X dX12_drawn_113 rfl rfl (Nat.le_of_ble_eq_true rfl) rfl ?_
        exact hk22 (x6 + 1) σ27 h
theorem X12_drawn_L66_ok {K : jK} (X : JX K cX12_drawn 8 RX12 4 99) {p1 : Int32} {p3 : Int32}  : ∀ (n : Nat) (s : Int64 × Int32 × Int32) (σ : jMem) (o : (Int32) × jMem), X12_drawn_L66 p1 p3 n s σ = some o → (J K 129 [some (.ref 89), none, none, some (.int p3), none, none, some (.int o.1), none] [] o.2) → J K 66 [some (.ref 89), some (.int p1), none, some (.int p3), some (.long s.1), none, some (.int s.2.1), some (.int s.2.2)] [] σ := by
  intro n
  induction n with
  | zero => intro s σ o h; cases h
  | succ n ih => intro s σ o h; exact X12_drawn_L66_bok X  ih (s.1) (s.2.1) (s.2.2) σ o h
def f_X12_drawn (a0 : Int32) (a1 : Int32) (a2 : Int32) (σ : jMem) : Option (Int32 × jMem) :=
  jlet (jset σ 89 0 (0 : Int32)) (fun σ1 =>
  jbd (f_X12_isThere  σ1) (fun v2 σ3 =>
  if ¬ v2 = 0 then
  jbd (f_X12_in ((a0).toInt64) (0 : Int64) (60 : Int64) σ3) (fun v5 σ6 =>
  if v5 = 0 then
  some (((-1000001 : Int32), σ6))
else
  jbd (f_X12_in ((a1).toInt64) (1 : Int64) (999999 : Int64) σ6) (fun v8 σ9 =>
  if v8 = 0 then
  some (((-1000001 : Int32), σ9))
else
  jbd (f_X12_in ((a2).toInt64) (0 : Int64) (1 : Int64) σ9) (fun v11 σ12 =>
  if ¬ v11 = 0 then
  jbv (f_X12_layThen  σ12) (fun σ14 =>
  jlet (((a1).toInt64)) (fun v16 =>
  jbd (X12_drawn_L66 (a0) (a2) jFU (v16, (0 : Int32), (0 : Int32)) σ14) (fun q29 σ30 =>
  if ¬ a2 = 0 then
  some ((q29, σ30))
else
  jbd (f_X12_waysOf 95 σ30) (fun v31 σ32 =>
  some ((v31, σ32))))))
else
  some (((-1000001 : Int32), σ12)))))
else
  some (((-1000002 : Int32), σ3))))
set_option maxRecDepth 100000 in
set_option maxHeartbeats 4000000 in
theorem c_X12_drawn {l : Launch} {D : va_G} {ad : Nat → Nat} {cid : Nat → ClassId} {a0 : Int32} {a1 : Int32} {a2 : Int32}  {σ : jMem} {r : Int32} {σ' : jMem} (h : f_X12_drawn a0 a1 a2 σ = some (r, σ')) : jMet l D ad cid yX12_drawn cX12_drawn 8 (some .int) 4 99 [.ref 89, .int a0, .int a1, .int a2] σ (some (.int r)) σ' := by
  refine jMet_of (ls0 := [some (.ref 89), some (.int a0), some (.int a1), some (.int a2), none, none, none, none]) (by decide) (Nat.le_of_ble_eq_true rfl) rfl (fun K X R0 _ => ?_)
  unfold f_X12_drawn at h
  refine j_aload_n X 0 dX12_drawn_0 rfl rfl ?_
  refine j_iconst (v := 0) X dX12_drawn_1 (by decide) ?_
  refine j_put X fp_RX12_47 ln_89 ly_89 rfl rfl rfl dX12_drawn_2 h (fun σ1 h => ?_)
  refine j_aload_n X 0 dX12_drawn_5 rfl rfl ?_
  obtain ⟨v2, σ3, hm4, h⟩ := jbd_some h
  refine j_callV (as := []) (st := []) (st1 := [.int v2]) X ln_89 ly_89 rfl rfl sv_RX12_203 ⟨by decide, by decide⟩ rfl rfl (Nat.le_of_ble_eq_true rfl) rfl dX12_drawn_6 jrv_i (c_X12_isThere  hm4) rfl ?_
  refine j_if_ne (tgt := 15) X dX12_drawn_9 (by decide) h (fun h => ?_) (fun h => ?_)
  · refine j_iload_n X 1 dX12_drawn_15 rfl rfl ?_
    refine j_i2l X dX12_drawn_16 ?_
    refine j_lconst (v := 0) X dX12_drawn_17 (by decide) ?_
    refine j_ldc2_w (v := 60) X tw_1147 dX12_drawn_18 ?_
    obtain ⟨v5, σ6, hm7, h⟩ := jbd_some h
    refine j_callS (as := [.long ((a0).toInt64), .long (0 : Int64), .long (60 : Int64)]) (st := []) (st1 := [.int v5]) X ss_RX12_57 ⟨by decide, by decide⟩ rfl rfl (Nat.le_of_ble_eq_true rfl) rfl dX12_drawn_21 jrv_i (c_X12_in  hm7) rfl ?_
    refine j_if_eq (tgt := 49) X dX12_drawn_24 (by decide) h (fun h => ?_) (fun h => ?_)
    · refine j_ldc (v := -1000001) X tw_948 dX12_drawn_49 ?_
      obtain ⟨rfl, rfl⟩ := jin2 h
      exact j_iret X R0 dX12_drawn_51
    · refine j_iload_n X 2 dX12_drawn_27 rfl rfl ?_
      refine j_i2l X dX12_drawn_28 ?_
      refine j_lconst (v := 1) X dX12_drawn_29 (by decide) ?_
      refine j_ldc2_w (v := 999999) X tw_1222 dX12_drawn_30 ?_
      obtain ⟨v8, σ9, hm10, h⟩ := jbd_some h
      refine j_callS (as := [.long ((a1).toInt64), .long (1 : Int64), .long (999999 : Int64)]) (st := []) (st1 := [.int v8]) X ss_RX12_57 ⟨by decide, by decide⟩ rfl rfl (Nat.le_of_ble_eq_true rfl) rfl dX12_drawn_33 jrv_i (c_X12_in  hm10) rfl ?_
      refine j_if_eq (tgt := 49) X dX12_drawn_36 (by decide) h (fun h => ?_) (fun h => ?_)
      · refine j_ldc (v := -1000001) X tw_948 dX12_drawn_49 ?_
        obtain ⟨rfl, rfl⟩ := jin2 h
        exact j_iret X R0 dX12_drawn_51
      · refine j_iload_n X 3 dX12_drawn_39 rfl rfl ?_
        refine j_i2l X dX12_drawn_40 ?_
        refine j_lconst (v := 0) X dX12_drawn_41 (by decide) ?_
        refine j_lconst (v := 1) X dX12_drawn_42 (by decide) ?_
        obtain ⟨v11, σ12, hm13, h⟩ := jbd_some h
        refine j_callS (as := [.long ((a2).toInt64), .long (0 : Int64), .long (1 : Int64)]) (st := []) (st1 := [.int v11]) X ss_RX12_57 ⟨by decide, by decide⟩ rfl rfl (Nat.le_of_ble_eq_true rfl) rfl dX12_drawn_43 jrv_i (c_X12_in  hm13) rfl ?_
        refine j_if_ne (tgt := 52) X dX12_drawn_46 (by decide) h (fun h => ?_) (fun h => ?_)
        · refine j_aload_n X 0 dX12_drawn_52 rfl rfl ?_
          obtain ⟨σ14, hm15, h⟩ := jbv_some h
          refine j_callV (as := []) (st := []) (st1 := []) X ln_89 ly_89 rfl rfl sv_RX12_243 ⟨by decide, by decide⟩ rfl rfl (Nat.le_of_ble_eq_true rfl) rfl dX12_drawn_53 jrv_v (c_X12_layThen  hm15) rfl ?_
          refine j_iload_n X 2 dX12_drawn_56 rfl rfl ?_
          refine j_i2l X dX12_drawn_57 ?_
          refine j_letL h (fun v16 h => ?_)
          refine j_lstore (ls' := [some (.ref 89), some (.int a0), some (.int a1), some (.int a2), some (.long v16), none, none, none]) X dX12_drawn_58 (Nat.le_of_ble_eq_true rfl) rfl ?_
          refine j_iconst (v := 0) X dX12_drawn_60 (by decide) ?_
          refine j_istore (ls' := [some (.ref 89), some (.int a0), some (.int a1), some (.int a2), some (.long v16), none, some (.int (0 : Int32)), none]) X dX12_drawn_61 (Nat.le_of_ble_eq_true rfl) rfl ?_
          refine j_iconst (v := 0) X dX12_drawn_63 (by decide) ?_
          refine j_istore (ls' := [some (.ref 89), some (.int a0), some (.int a1), some (.int a2), some (.long v16), none, some (.int (0 : Int32)), some (.int (0 : Int32))]) X dX12_drawn_64 (Nat.le_of_ble_eq_true rfl) rfl ?_
          obtain ⟨q29, σ30, hL34, h⟩ := jbd_some h
          refine j_sub (ls' := [some (.ref 89), some (.int a0), none, some (.int a2), some (.long v16), none, some (.int (0 : Int32)), some (.int (0 : Int32))]) ⟨Or.inr rfl, Or.inr rfl, Or.inl rfl, Or.inr rfl, Or.inr rfl, Or.inl rfl, Or.inr rfl, Or.inr rfl, trivial⟩ ?_
          refine X12_drawn_L66_ok X  jFU (v16, (0 : Int32), (0 : Int32)) σ14 _ hL34 ?_
          refine j_iload_n X 3 dX12_drawn_129 rfl rfl ?_
          refine j_if_ne (tgt := 143) X dX12_drawn_130 (by decide) h (fun h => ?_) (fun h => ?_)
          · refine j_iload X dX12_drawn_143 rfl ?_
            obtain ⟨rfl, rfl⟩ := jin2 h
            exact j_iret X R0 dX12_drawn_145
          · refine j_aload_n X 0 dX12_drawn_133 rfl rfl ?_
            refine j_getR (t := 95) X fg_RX12_25 ln_89 ly_89 rfl dX12_drawn_134 ?_
            obtain ⟨v31, σ32, hm33, h⟩ := jbd_some h
            refine j_callS (as := [.ref 95]) (st := []) (st1 := [.int v31]) X ss_RX12_221 ⟨by decide, by decide⟩ rfl rfl (Nat.le_of_ble_eq_true rfl) rfl dX12_drawn_137 jrv_i (c_X12_waysOf ⟨ln_95, ly_95⟩ hm33) rfl ?_
            refine j_goto (tgt := 145) X dX12_drawn_140 (by decide) ?_
            obtain ⟨rfl, rfl⟩ := jin2 h
            exact j_iret X R0 dX12_drawn_145
        · refine j_ldc (v := -1000001) X tw_948 dX12_drawn_49 ?_
          obtain ⟨rfl, rfl⟩ := jin2 h
          exact j_iret X R0 dX12_drawn_51
  · refine j_ldc (v := -1000002) X tw_1041 dX12_drawn_12 ?_
    obtain ⟨rfl, rfl⟩ := jin2 h
    exact j_iret X R0 dX12_drawn_14
def X12_image_L30_b (p1 : Int32) (rec : Int32 → jMem → Option ((Unit) × jMem)) (x2 : Int32) (σ : jMem) : Option ((Unit) × jMem) :=
  if (67 : Int32) ≤ x2 then
  some ((), σ)
else
  jld σ 93 67 x2 (fun v8 =>
  jst σ 100 134 (((67 : Int32) * p1) + x2) v8 (fun σ9 =>
  rec (x2 + 1) σ9))
def X12_image_L30 (p1 : Int32) : Nat → Int32 → jMem → Option ((Unit) × jMem) := jloop (fun rec s σ => X12_image_L30_b p1 rec s σ)
set_option maxRecDepth 100000 in
set_option maxHeartbeats 4000000 in
theorem X12_image_L30_bok {K : jK} (X : JX K cX12_image 3 RX12 1 25) {p1 : Int32}  {rec : Int32 → jMem → Option ((Unit) × jMem)} (ih : ∀ (s : Int32) (σ : jMem) (o : (Unit) × jMem), rec s σ = some o → (J K 59 [some (.ref 89), some (.int p1), none] [] o.2) → J K 30 [some (.ref 89), some (.int p1), some (.int s)] [] σ) : ∀ (x2 : Int32) (σ : jMem) (o : (Unit) × jMem), X12_image_L30_b p1 rec x2 σ = some o → (J K 59 [some (.ref 89), some (.int p1), none] [] o.2) → J K 30 [some (.ref 89), some (.int p1), some (.int x2)] [] σ := by
  intro x2 σ o h kk
  unfold X12_image_L30_b at h
  refine j_iload_n X 2 dX12_image_30 rfl rfl ?_
  refine j_bipush (v := 67) X dX12_image_31 (by decide) ?_
  refine j_icmp_ge (tgt := 59) X dX12_image_33 (by decide) h (fun h => ?_) (fun h => ?_)
  · obtain rfl := Option.some.inj h
    exact j_sub (ls' := [some (.ref 89), some (.int p1), none]) ⟨Or.inr rfl, Or.inr rfl, Or.inl rfl, trivial⟩ kk
  · refine j_aload_n X 0 dX12_image_36 rfl rfl ?_
    refine j_getR (t := 100) X fg_RX12_41 ln_89 ly_89 rfl dX12_image_37 ?_
    refine j_bipush (v := 67) X dX12_image_40 (by decide) ?_
    refine j_iload_n X 1 dX12_image_42 rfl rfl ?_
    refine j_imul X dX12_image_43 ?_
    refine j_iload_n X 2 dX12_image_44 rfl rfl ?_
    refine j_iadd X dX12_image_45 ?_
    refine j_aload_n X 0 dX12_image_46 rfl rfl ?_
    refine j_getR (t := 93) X fg_RX12_19 ln_89 ly_89 rfl dX12_image_47 ?_
    refine j_iload_n X 2 dX12_image_50 rfl rfl ?_
    refine j_iaload X ln_93 ly_93 dX12_image_51 h (fun v8 h => ?_)
    refine j_iastore X ln_100 ly_100 dX12_image_52 h (fun σ9 h => ?_)
    refine j_iinc (v := (x2 + 1)) (ls' := [some (.ref 89), some (.int p1), some (.int (x2 + 1))]) X dX12_image_53 rfl rfl (Nat.le_of_ble_eq_true rfl) rfl ?_
    refine j_goto (tgt := 30) X dX12_image_56 (by decide) ?_
    exact ih (x2 + 1) σ9 _ h kk
theorem X12_image_L30_ok {K : jK} (X : JX K cX12_image 3 RX12 1 25) {p1 : Int32}  : ∀ (n : Nat) (s : Int32) (σ : jMem) (o : (Unit) × jMem), X12_image_L30 p1 n s σ = some o → (J K 59 [some (.ref 89), some (.int p1), none] [] o.2) → J K 30 [some (.ref 89), some (.int p1), some (.int s)] [] σ := by
  intro n
  induction n with
  | zero => intro s σ o h; cases h
  | succ n ih => intro s σ o h; exact X12_image_L30_bok X  ih (s) σ o h
def f_X12_image (a0 : Int32) (σ : jMem) : Option (Int32 × jMem) :=
  jlet (jset σ 89 0 (0 : Int32)) (fun σ1 =>
  jbd (f_X12_in ((a0).toInt64) (0 : Int64) (1 : Int64) σ1) (fun v2 σ3 =>
  if ¬ v2 = 0 then
  jbd (f_X12_isThere  σ3) (fun v5 σ6 =>
  if ¬ v5 = 0 then
  jbd (X12_image_L30 (a0) jFU (0 : Int32) σ6) (fun q10 σ11 =>
  jst σ11 99 2 a0 (1 : Int32) (fun σ12 =>
  some (((1 : Int32), σ12))))
else
  some (((-1000002 : Int32), σ6)))
else
  some (((-1000001 : Int32), σ3))))
set_option maxRecDepth 100000 in
set_option maxHeartbeats 4000000 in
theorem c_X12_image {l : Launch} {D : va_G} {ad : Nat → Nat} {cid : Nat → ClassId} {a0 : Int32}  {σ : jMem} {r : Int32} {σ' : jMem} (h : f_X12_image a0 σ = some (r, σ')) : jMet l D ad cid yX12_image cX12_image 3 (some .int) 1 25 [.ref 89, .int a0] σ (some (.int r)) σ' := by
  refine jMet_of (ls0 := [some (.ref 89), some (.int a0), none]) (by decide) (Nat.le_of_ble_eq_true rfl) rfl (fun K X R0 _ => ?_)
  unfold f_X12_image at h
  refine j_aload_n X 0 dX12_image_0 rfl rfl ?_
  refine j_iconst (v := 0) X dX12_image_1 (by decide) ?_
  refine j_put X fp_RX12_47 ln_89 ly_89 rfl rfl rfl dX12_image_2 h (fun σ1 h => ?_)
  refine j_iload_n X 1 dX12_image_5 rfl rfl ?_
  refine j_i2l X dX12_image_6 ?_
  refine j_lconst (v := 0) X dX12_image_7 (by decide) ?_
  refine j_lconst (v := 1) X dX12_image_8 (by decide) ?_
  obtain ⟨v2, σ3, hm4, h⟩ := jbd_some h
  refine j_callS (as := [.long ((a0).toInt64), .long (0 : Int64), .long (1 : Int64)]) (st := []) (st1 := [.int v2]) X ss_RX12_57 ⟨by decide, by decide⟩ rfl rfl (Nat.le_of_ble_eq_true rfl) rfl dX12_image_9 jrv_i (c_X12_in  hm4) rfl ?_
  refine j_if_ne (tgt := 18) X dX12_image_12 (by decide) h (fun h => ?_) (fun h => ?_)
  · refine j_aload_n X 0 dX12_image_18 rfl rfl ?_
    obtain ⟨v5, σ6, hm7, h⟩ := jbd_some h
    refine j_callV (as := []) (st := []) (st1 := [.int v5]) X ln_89 ly_89 rfl rfl sv_RX12_203 ⟨by decide, by decide⟩ rfl rfl (Nat.le_of_ble_eq_true rfl) rfl dX12_image_19 jrv_i (c_X12_isThere  hm7) rfl ?_
    refine j_if_ne (tgt := 28) X dX12_image_22 (by decide) h (fun h => ?_) (fun h => ?_)
    · refine j_iconst (v := 0) X dX12_image_28 (by decide) ?_
      refine j_istore_n (ls' := [some (.ref 89), some (.int a0), some (.int (0 : Int32))]) X 2 dX12_image_29 rfl (Nat.le_of_ble_eq_true rfl) rfl ?_
      obtain ⟨q10, σ11, hL13, h⟩ := jbd_some h
      refine X12_image_L30_ok X  jFU (0 : Int32) σ6 _ hL13 ?_
      refine j_aload_n X 0 dX12_image_59 rfl rfl ?_
      refine j_getR (t := 99) X fg_RX12_37 ln_89 ly_89 rfl dX12_image_60 ?_
      refine j_iload_n X 1 dX12_image_63 rfl rfl ?_
      refine j_iconst (v := 1) X dX12_image_64 (by decide) ?_
      refine j_bastore X ln_99 ly_99 rfl dX12_image_65 h (fun σ12 h => ?_)
      refine j_iconst (v := 1) X dX12_image_66 (by decide) ?_
      obtain ⟨rfl, rfl⟩ := jin2 h
      exact j_iret X R0 dX12_image_67
    · refine j_ldc (v := -1000002) X tw_1041 dX12_image_25 ?_
      obtain ⟨rfl, rfl⟩ := jin2 h
      exact j_iret X R0 dX12_image_27
  · refine j_ldc (v := -1000001) X tw_948 dX12_image_15 ?_
    obtain ⟨rfl, rfl⟩ := jin2 h
    exact j_iret X R0 dX12_image_17
def X12_restore_L32_b (p1 : Int32) (rec : Int32 → jMem → Option ((Unit) × jMem)) (x2 : Int32) (σ : jMem) : Option ((Unit) × jMem) :=
  if (67 : Int32) ≤ x2 then
  some ((), σ)
else
  jld σ 100 134 (((67 : Int32) * p1) + x2) (fun v6 =>
  jst σ 93 67 x2 v6 (fun σ7 =>
  rec (x2 + 1) σ7))
def X12_restore_L32 (p1 : Int32) : Nat → Int32 → jMem → Option ((Unit) × jMem) := jloop (fun rec s σ => X12_restore_L32_b p1 rec s σ)
set_option maxRecDepth 100000 in
set_option maxHeartbeats 4000000 in
theorem X12_restore_L32_bok {K : jK} (X : JX K cX12_restore 3 RX12 1 25) {p1 : Int32}  {rec : Int32 → jMem → Option ((Unit) × jMem)} (ih : ∀ (s : Int32) (σ : jMem) (o : (Unit) × jMem), rec s σ = some o → (J K 61 [some (.ref 89), none, none] [] o.2) → J K 32 [some (.ref 89), some (.int p1), some (.int s)] [] σ) : ∀ (x2 : Int32) (σ : jMem) (o : (Unit) × jMem), X12_restore_L32_b p1 rec x2 σ = some o → (J K 61 [some (.ref 89), none, none] [] o.2) → J K 32 [some (.ref 89), some (.int p1), some (.int x2)] [] σ := by
  intro x2 σ o h kk
  unfold X12_restore_L32_b at h
  refine j_iload_n X 2 dX12_restore_32 rfl rfl ?_
  refine j_bipush (v := 67) X dX12_restore_33 (by decide) ?_
  refine j_icmp_ge (tgt := 61) X dX12_restore_35 (by decide) h (fun h => ?_) (fun h => ?_)
  · obtain rfl := Option.some.inj h
    exact j_sub (ls' := [some (.ref 89), none, none]) ⟨Or.inr rfl, Or.inl rfl, Or.inl rfl, trivial⟩ kk
  · refine j_aload_n X 0 dX12_restore_38 rfl rfl ?_
    refine j_getR (t := 93) X fg_RX12_19 ln_89 ly_89 rfl dX12_restore_39 ?_
    refine j_iload_n X 2 dX12_restore_42 rfl rfl ?_
    refine j_aload_n X 0 dX12_restore_43 rfl rfl ?_
    refine j_getR (t := 100) X fg_RX12_41 ln_89 ly_89 rfl dX12_restore_44 ?_
    refine j_bipush (v := 67) X dX12_restore_47 (by decide) ?_
    refine j_iload_n X 1 dX12_restore_49 rfl rfl ?_
    refine j_imul X dX12_restore_50 ?_
    refine j_iload_n X 2 dX12_restore_51 rfl rfl ?_
    refine j_iadd X dX12_restore_52 ?_
    refine j_iaload X ln_100 ly_100 dX12_restore_53 h (fun v6 h => ?_)
    refine j_iastore X ln_93 ly_93 dX12_restore_54 h (fun σ7 h => ?_)
    refine j_iinc (v := (x2 + 1)) (ls' := [some (.ref 89), some (.int p1), some (.int (x2 + 1))]) X dX12_restore_55 rfl rfl (Nat.le_of_ble_eq_true rfl) rfl ?_
    refine j_goto (tgt := 32) X dX12_restore_58 (by decide) ?_
    exact ih (x2 + 1) σ7 _ h kk
theorem X12_restore_L32_ok {K : jK} (X : JX K cX12_restore 3 RX12 1 25) {p1 : Int32}  : ∀ (n : Nat) (s : Int32) (σ : jMem) (o : (Unit) × jMem), X12_restore_L32 p1 n s σ = some o → (J K 61 [some (.ref 89), none, none] [] o.2) → J K 32 [some (.ref 89), some (.int p1), some (.int s)] [] σ := by
  intro n
  induction n with
  | zero => intro s σ o h; cases h
  | succ n ih => intro s σ o h; exact X12_restore_L32_bok X  ih (s) σ o h
def f_X12_restore (a0 : Int32) (σ : jMem) : Option (Int32 × jMem) :=
  jlet (jset σ 89 0 (0 : Int32)) (fun σ1 =>
  jbd (f_X12_in ((a0).toInt64) (0 : Int64) (1 : Int64) σ1) (fun v2 σ3 =>
  if ¬ v2 = 0 then
  jld σ3 99 2 a0 (fun v5 =>
  if ¬ v5 = 0 then
  jbd (X12_restore_L32 (a0) jFU (0 : Int32) σ3) (fun q8 σ9 =>
  jlet (jset σ9 89 9 (0 : Int32)) (fun σ10 =>
  some (((1 : Int32), σ10))))
else
  some (((-1000002 : Int32), σ3)))
else
  some (((-1000001 : Int32), σ3))))
set_option maxRecDepth 100000 in
set_option maxHeartbeats 4000000 in
theorem c_X12_restore {l : Launch} {D : va_G} {ad : Nat → Nat} {cid : Nat → ClassId} {a0 : Int32}  {σ : jMem} {r : Int32} {σ' : jMem} (h : f_X12_restore a0 σ = some (r, σ')) : jMet l D ad cid yX12_restore cX12_restore 3 (some .int) 1 25 [.ref 89, .int a0] σ (some (.int r)) σ' := by
  refine jMet_of (ls0 := [some (.ref 89), some (.int a0), none]) (by decide) (Nat.le_of_ble_eq_true rfl) rfl (fun K X R0 _ => ?_)
  unfold f_X12_restore at h
  refine j_aload_n X 0 dX12_restore_0 rfl rfl ?_
  refine j_iconst (v := 0) X dX12_restore_1 (by decide) ?_
  refine j_put X fp_RX12_47 ln_89 ly_89 rfl rfl rfl dX12_restore_2 h (fun σ1 h => ?_)
  refine j_iload_n X 1 dX12_restore_5 rfl rfl ?_
  refine j_i2l X dX12_restore_6 ?_
  refine j_lconst (v := 0) X dX12_restore_7 (by decide) ?_
  refine j_lconst (v := 1) X dX12_restore_8 (by decide) ?_
  obtain ⟨v2, σ3, hm4, h⟩ := jbd_some h
  refine j_callS (as := [.long ((a0).toInt64), .long (0 : Int64), .long (1 : Int64)]) (st := []) (st1 := [.int v2]) X ss_RX12_57 ⟨by decide, by decide⟩ rfl rfl (Nat.le_of_ble_eq_true rfl) rfl dX12_restore_9 jrv_i (c_X12_in  hm4) rfl ?_
  refine j_if_ne (tgt := 18) X dX12_restore_12 (by decide) h (fun h => ?_) (fun h => ?_)
  · refine j_aload_n X 0 dX12_restore_18 rfl rfl ?_
    refine j_getR (t := 99) X fg_RX12_37 ln_89 ly_89 rfl dX12_restore_19 ?_
    refine j_iload_n X 1 dX12_restore_22 rfl rfl ?_
    refine j_baload X ln_99 ly_99 dX12_restore_23 h (fun v5 h => ?_)
    refine j_if_ne (tgt := 30) X dX12_restore_24 (by decide) h (fun h => ?_) (fun h => ?_)
    · refine j_iconst (v := 0) X dX12_restore_30 (by decide) ?_
      refine j_istore_n (ls' := [some (.ref 89), some (.int a0), some (.int (0 : Int32))]) X 2 dX12_restore_31 rfl (Nat.le_of_ble_eq_true rfl) rfl ?_
      obtain ⟨q8, σ9, hL11, h⟩ := jbd_some h
      refine X12_restore_L32_ok X  jFU (0 : Int32) σ3 _ hL11 ?_
      refine j_aload_n X 0 dX12_restore_61 rfl rfl ?_
      refine j_iconst (v := 0) X dX12_restore_62 (by decide) ?_
      refine j_put X fp_RX12_150 ln_89 ly_89 rfl rfl rfl dX12_restore_63 h (fun σ10 h => ?_)
      refine j_iconst (v := 1) X dX12_restore_66 (by decide) ?_
      obtain ⟨rfl, rfl⟩ := jin2 h
      exact j_iret X R0 dX12_restore_67
    · refine j_ldc (v := -1000002) X tw_1041 dX12_restore_27 ?_
      obtain ⟨rfl, rfl⟩ := jin2 h
      exact j_iret X R0 dX12_restore_29
  · refine j_ldc (v := -1000001) X tw_948 dX12_restore_15 ?_
    obtain ⟨rfl, rfl⟩ := jin2 h
    exact j_iret X R0 dX12_restore_17
def f_X12_isOf (a0 : Int32) (a1 : Int32) (σ : jMem) : Option (Int32 × jMem) :=
  if a1 = 0 then
  some (((1 : Int32), σ))
else
  if a0 = a1 then
  some (((1 : Int32), σ))
else
  jj (fun (q2 : Unit) σ3 =>
  if ¬ a1 = (4 : Int32) then
  some (((0 : Int32), σ3))
else
  if ¬ a0 = (5 : Int32) then
  some (((0 : Int32), σ3))
else
  some (((1 : Int32), σ3))) (fun k1 =>
  if ¬ a1 = (1 : Int32) then
  k1 () σ
else
  if a0 < (4 : Int32) then
  some (((1 : Int32), σ))
else
  k1 () σ)
set_option maxRecDepth 100000 in
set_option maxHeartbeats 4000000 in
theorem c_X12_isOf {l : Launch} {D : va_G} {ad : Nat → Nat} {cid : Nat → ClassId} {a0 : Int32} {a1 : Int32}  {σ : jMem} {r : Int32} {σ' : jMem} (h : f_X12_isOf a0 a1 σ = some (r, σ')) : jMet l D ad cid yX12_isOf cX12_isOf 2 (some .boolean) 0 0 [.int a0, .int a1] σ (some (.int r)) σ' := by
  refine jMet_of (ls0 := [some (.int a0), some (.int a1)]) (by decide) (Nat.le_of_ble_eq_true rfl) rfl (fun K X R0 _ => ?_)
  unfold f_X12_isOf at h
  refine j_iload_n X 1 dX12_isOf_0 rfl rfl ?_
  refine j_if_eq (tgt := 29) X dX12_isOf_1 (by decide) h (fun h => ?_) (fun h => ?_)
  · refine j_iconst (v := 1) X dX12_isOf_29 (by decide) ?_
    refine j_goto (tgt := 34) X dX12_isOf_30 (by decide) ?_
    obtain ⟨rfl, rfl⟩ := jin2 h
    exact j_zret X R0 rfl dX12_isOf_34
  · refine j_iload_n X 0 dX12_isOf_4 rfl rfl ?_
    refine j_iload_n X 1 dX12_isOf_5 rfl rfl ?_
    refine j_icmp_eq (tgt := 29) X dX12_isOf_6 (by decide) h (fun h => ?_) (fun h => ?_)
    · refine j_iconst (v := 1) X dX12_isOf_29 (by decide) ?_
      refine j_goto (tgt := 34) X dX12_isOf_30 (by decide) ?_
      obtain ⟨rfl, rfl⟩ := jin2 h
      exact j_zret X R0 rfl dX12_isOf_34
    · refine j_iload_n X 1 dX12_isOf_9 rfl rfl ?_
      refine j_iconst (v := 1) X dX12_isOf_10 (by decide) ?_
      refine j_join (pcJ := 19) (lsJ := fun q2 => [some (.int a0), some (.int a1)]) (stJ := fun q2 => []) h (fun q2 σ3 h => ?_) (fun k1 hk1 h => ?_)
      · refine j_iload_n X 1 dX12_isOf_19 rfl rfl ?_
        refine j_iconst (v := 4) X dX12_isOf_20 (by decide) ?_
        refine j_icmp_ne (tgt := 33) X dX12_isOf_21 (by decide) h (fun h => ?_) (fun h => ?_)
        · refine j_iconst (v := 0) X dX12_isOf_33 (by decide) ?_
          obtain ⟨rfl, rfl⟩ := jin2 h
          exact j_zret X R0 rfl dX12_isOf_34
        · refine j_iload_n X 0 dX12_isOf_24 rfl rfl ?_
          refine j_iconst (v := 5) X dX12_isOf_25 (by decide) ?_
          refine j_icmp_ne (tgt := 33) X dX12_isOf_26 (by decide) h (fun h => ?_) (fun h => ?_)
          · refine j_iconst (v := 0) X dX12_isOf_33 (by decide) ?_
            obtain ⟨rfl, rfl⟩ := jin2 h
            exact j_zret X R0 rfl dX12_isOf_34
          · refine j_iconst (v := 1) X dX12_isOf_29 (by decide) ?_
            refine j_goto (tgt := 34) X dX12_isOf_30 (by decide) ?_
            obtain ⟨rfl, rfl⟩ := jin2 h
            exact j_zret X R0 rfl dX12_isOf_34
      · refine j_icmp_ne (tgt := 19) X dX12_isOf_11 (by decide) h (fun h => ?_) (fun h => ?_)
        · exact hk1 () σ h
        · refine j_iload_n X 0 dX12_isOf_14 rfl rfl ?_
          refine j_iconst (v := 4) X dX12_isOf_15 (by decide) ?_
          refine j_icmp_lt (tgt := 29) X dX12_isOf_16 (by decide) h (fun h => ?_) (fun h => ?_)
          · refine j_iconst (v := 1) X dX12_isOf_29 (by decide) ?_
            refine j_goto (tgt := 34) X dX12_isOf_30 (by decide) ?_
            obtain ⟨rfl, rfl⟩ := jin2 h
            exact j_zret X R0 rfl dX12_isOf_34
          · exact hk1 () σ h
