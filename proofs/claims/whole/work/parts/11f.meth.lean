def X12_pathsAt_L4_b (p1 : Int32) (rec : Int32 × Int32 → jMem → Option ((Int32) × jMem)) (x2 : Int32) (x3 : Int32) (σ : jMem) : Option ((Int32) × jMem) :=
  jld σ 93 67 (3 : Int32) (fun v1 =>
  if v1 ≤ x3 then
  some (x2, σ)
else
  jbd (f_X12_other x3 p1 σ) (fun v2 σ3 =>
  if v2 = (-1000000 : Int32) then
  jlet ((x2 ||| (0 : Int32))) (fun v5 =>
  rec (v5, (x3 + 1)) σ3)
else
  jlet ((x2 ||| ((1 : Int32) <<< (x3 &&& 31)))) (fun v6 =>
  rec (v6, (x3 + 1)) σ3)))
def X12_pathsAt_L4 (p1 : Int32) : Nat → Int32 × Int32 → jMem → Option ((Int32) × jMem) := jloop (fun rec s σ => X12_pathsAt_L4_b p1 rec s.1 s.2 σ)
set_option maxRecDepth 100000 in
set_option maxHeartbeats 4000000 in
theorem X12_pathsAt_L4_bok {K : jK} (X : JX K cX12_pathsAt 4 RX12 1 23) {p1 : Int32}  {rec : Int32 × Int32 → jMem → Option ((Int32) × jMem)} (ih : ∀ (s : Int32 × Int32) (σ : jMem) (o : (Int32) × jMem), rec s σ = some o → (J K 41 [none, none, some (.int o.1), none] [] o.2) → J K 4 [some (.ref 89), some (.int p1), some (.int s.1), some (.int s.2)] [] σ) : ∀ (x2 : Int32) (x3 : Int32) (σ : jMem) (o : (Int32) × jMem), X12_pathsAt_L4_b p1 rec x2 x3 σ = some o → (J K 41 [none, none, some (.int o.1), none] [] o.2) → J K 4 [some (.ref 89), some (.int p1), some (.int x2), some (.int x3)] [] σ := by
  intro x2 x3 σ o h kk
  unfold X12_pathsAt_L4_b at h
  refine j_iload_n X 3 dX12_pathsAt_4 rfl rfl ?_
  refine j_aload_n X 0 dX12_pathsAt_5 rfl rfl ?_
  refine j_getR (t := 93) X fg_RX12_19 ln_89 ly_89 rfl dX12_pathsAt_6 ?_
  refine j_iconst (v := 3) X dX12_pathsAt_9 (by decide) ?_
  refine j_iaload X ln_93 ly_93 dX12_pathsAt_10 h (fun v1 h => ?_)
  refine j_icmp_ge (tgt := 41) X dX12_pathsAt_11 (by decide) h (fun h => ?_) (fun h => ?_)
  · obtain rfl := Option.some.inj h
    exact j_sub (ls' := [none, none, some (.int x2), none]) ⟨Or.inl rfl, Or.inl rfl, Or.inr rfl, Or.inl rfl, trivial⟩ kk
  · refine j_iload_n X 2 dX12_pathsAt_14 rfl rfl ?_
    refine j_aload_n X 0 dX12_pathsAt_15 rfl rfl ?_
    refine j_iload_n X 3 dX12_pathsAt_16 rfl rfl ?_
    refine j_iload_n X 1 dX12_pathsAt_17 rfl rfl ?_
    obtain ⟨v2, σ3, hm4, h⟩ := jbd_some h
    refine j_callV (as := [.int x3, .int p1]) (st := [.int x2]) (st1 := [.int v2, .int x2]) X ln_89 ly_89 rfl rfl sv_RX12_173 ⟨by decide, by decide⟩ rfl rfl (Nat.le_of_ble_eq_true rfl) rfl dX12_pathsAt_18 jrv_i (c_X12_other  hm4) rfl ?_
    refine j_ldc (v := -1000000) X tw_988 dX12_pathsAt_21 ?_
    refine j_icmp_eq (tgt := 32) X dX12_pathsAt_23 (by decide) h (fun h => ?_) (fun h => ?_)
    · refine j_iconst (v := 0) X dX12_pathsAt_32 (by decide) ?_
      refine j_ior X dX12_pathsAt_33 ?_
      refine j_letI h (fun v5 h => ?_)
      refine j_istore_n (ls' := [some (.ref 89), some (.int p1), some (.int v5), some (.int x3)]) X 2 dX12_pathsAt_34 rfl (Nat.le_of_ble_eq_true rfl) rfl ?_
      refine j_iinc (v := (x3 + 1)) (ls' := [some (.ref 89), some (.int p1), some (.int v5), some (.int (x3 + 1))]) X dX12_pathsAt_35 rfl rfl (Nat.le_of_ble_eq_true rfl) rfl ?_
      refine j_goto (tgt := 4) X dX12_pathsAt_38 (by decide) ?_
      exact ih (v5, (x3 + 1)) σ3 _ h kk
    · refine j_iconst (v := 1) X dX12_pathsAt_26 (by decide) ?_
      refine j_iload_n X 3 dX12_pathsAt_27 rfl rfl ?_
      refine j_ishl X dX12_pathsAt_28 ?_
      refine j_goto (tgt := 33) X dX12_pathsAt_29 (by decide) ?_
      refine j_ior X dX12_pathsAt_33 ?_
      refine j_letI h (fun v6 h => ?_)
      refine j_istore_n (ls' := [some (.ref 89), some (.int p1), some (.int v6), some (.int x3)]) X 2 dX12_pathsAt_34 rfl (Nat.le_of_ble_eq_true rfl) rfl ?_
      refine j_iinc (v := (x3 + 1)) (ls' := [some (.ref 89), some (.int p1), some (.int v6), some (.int (x3 + 1))]) X dX12_pathsAt_35 rfl rfl (Nat.le_of_ble_eq_true rfl) rfl ?_
      refine j_goto (tgt := 4) X dX12_pathsAt_38 (by decide) ?_
      exact ih (v6, (x3 + 1)) σ3 _ h kk
theorem X12_pathsAt_L4_ok {K : jK} (X : JX K cX12_pathsAt 4 RX12 1 23) {p1 : Int32}  : ∀ (n : Nat) (s : Int32 × Int32) (σ : jMem) (o : (Int32) × jMem), X12_pathsAt_L4 p1 n s σ = some o → (J K 41 [none, none, some (.int o.1), none] [] o.2) → J K 4 [some (.ref 89), some (.int p1), some (.int s.1), some (.int s.2)] [] σ := by
  intro n
  induction n with
  | zero => intro s σ o h; cases h
  | succ n ih => intro s σ o h; exact X12_pathsAt_L4_bok X  ih (s.1) (s.2) σ o h
def f_X12_pathsAt (a0 : Int32) (σ : jMem) : Option (Int32 × jMem) :=
  jbd (X12_pathsAt_L4 (a0) jFU ((0 : Int32), (0 : Int32)) σ) (fun q7 σ8 =>
  some ((q7, σ8)))
set_option maxRecDepth 100000 in
set_option maxHeartbeats 4000000 in
theorem c_X12_pathsAt {l : Launch} {D : va_G} {ad : Nat → Nat} {cid : Nat → ClassId} {a0 : Int32}  {σ : jMem} {r : Int32} {σ' : jMem} (h : f_X12_pathsAt a0 σ = some (r, σ')) : jMet l D ad cid yX12_pathsAt cX12_pathsAt 4 (some .int) 1 23 [.ref 89, .int a0] σ (some (.int r)) σ' := by
  refine jMet_of (ls0 := [some (.ref 89), some (.int a0), none, none]) (by decide) (Nat.le_of_ble_eq_true rfl) rfl (fun K X R0 _ => ?_)
  unfold f_X12_pathsAt at h
  refine j_iconst (v := 0) X dX12_pathsAt_0 (by decide) ?_
  refine j_istore_n (ls' := [some (.ref 89), some (.int a0), some (.int (0 : Int32)), none]) X 2 dX12_pathsAt_1 rfl (Nat.le_of_ble_eq_true rfl) rfl ?_
  refine j_iconst (v := 0) X dX12_pathsAt_2 (by decide) ?_
  refine j_istore_n (ls' := [some (.ref 89), some (.int a0), some (.int (0 : Int32)), some (.int (0 : Int32))]) X 3 dX12_pathsAt_3 rfl (Nat.le_of_ble_eq_true rfl) rfl ?_
  obtain ⟨q7, σ8, hL9, h⟩ := jbd_some h
  refine X12_pathsAt_L4_ok X  jFU ((0 : Int32), (0 : Int32)) σ _ hL9 ?_
  refine j_iload_n X 2 dX12_pathsAt_41 rfl rfl ?_
  obtain ⟨rfl, rfl⟩ := jin2 h
  exact j_iret X R0 dX12_pathsAt_42
theorem sv_RX12_180 : jSiV RX12 180 yX12_pathsAt cX12_pathsAt 4 (some .int) 1 := ⟨tw_1089, tw_1091, ts_42, tw_13, tw_1092, by decide, by decide, by decide +kernel⟩
def f_X12_sees (a0 : Int32) (a1 : Int32) (a2 : Int32) (σ : jMem) : Option (Int32 × jMem) :=
  jbd (f_X12_pathsAt a1 σ) (fun v1 σ2 =>
  jlet (((σ.1 89 20) &&& v1)) (fun v4 =>
  if a0 = 1 then
  some ((v4, σ2))
else
  if a0 = 2 then
  if ¬ v4 = 0 then
  some (((σ2.1 89 20), σ2))
else
  jld σ2 93 67 (1 : Int32) (fun v7 =>
  if ¬ a1 = v7 then
  some (((0 : Int32), σ2))
else
  some (((σ2.1 89 20), σ2)))
else
  if a0 = 3 then
  jbd (f_X12_pathsAt a1 σ2) (fun v9 σ10 =>
  if ¬ (v9 &&& a2) = 0 then
  some (((0 : Int32), σ10))
else
  some ((v4, σ10)))
else
  if a0 = 4 then
  some (((σ2.1 89 20), σ2))
else
  some ((((1 : Int32) <<< ((σ2.1 89 21) &&& 31)), σ2))))
set_option maxRecDepth 100000 in
set_option maxHeartbeats 4000000 in
theorem c_X12_sees {l : Launch} {D : va_G} {ad : Nat → Nat} {cid : Nat → ClassId} {a0 : Int32} {a1 : Int32} {a2 : Int32}  {σ : jMem} {r : Int32} {σ' : jMem} (h : f_X12_sees a0 a1 a2 σ = some (r, σ')) : jMet l D ad cid yX12_sees cX12_sees 5 (some .int) 2 46 [.ref 89, .int a0, .int a1, .int a2] σ (some (.int r)) σ' := by
  refine jMet_of (ls0 := [some (.ref 89), some (.int a0), some (.int a1), some (.int a2), none]) (by decide) (Nat.le_of_ble_eq_true rfl) rfl (fun K X R0 _ => ?_)
  unfold f_X12_sees at h
  refine j_aload_n X 0 dX12_sees_0 rfl rfl ?_
  refine j_getI X fg_RX12_164 ln_89 ly_89 rfl dX12_sees_1 ?_
  refine j_aload_n X 0 dX12_sees_4 rfl rfl ?_
  refine j_iload_n X 2 dX12_sees_5 rfl rfl ?_
  obtain ⟨v1, σ2, hm3, h⟩ := jbd_some h
  refine j_callV (as := [.int a1]) (st := [.int (σ.1 89 20)]) (st1 := [.int v1, .int (σ.1 89 20)]) X ln_89 ly_89 rfl rfl sv_RX12_180 ⟨by decide, by decide⟩ rfl rfl (Nat.le_of_ble_eq_true rfl) rfl dX12_sees_6 jrv_i (c_X12_pathsAt  hm3) rfl ?_
  refine j_iand X dX12_sees_9 ?_
  refine j_letI h (fun v4 h => ?_)
  refine j_istore (ls' := [some (.ref 89), some (.int a0), some (.int a1), some (.int a2), some (.int v4)]) X dX12_sees_10 (Nat.le_of_ble_eq_true rfl) rfl ?_
  refine j_iload_n X 1 dX12_sees_12 rfl rfl ?_
  by_cases hs5 : a0 = 1
  · rw [if_pos hs5] at h
    refine j_tab (tgt := 44) X dX12_sees_13 1 hs5 (by decide) (by decide) rfl (by decide) ?_
    refine j_iload X dX12_sees_44 rfl ?_
    obtain ⟨rfl, rfl⟩ := jin2 h
    exact j_iret X R0 dX12_sees_46
  · rw [if_neg hs5] at h
    by_cases hs6 : a0 = 2
    · rw [if_pos hs6] at h
      refine j_tab (tgt := 47) X dX12_sees_13 2 hs6 (by decide) (by decide) rfl (by decide) ?_
      refine j_iload X dX12_sees_47 rfl ?_
      refine j_if_ne (tgt := 62) X dX12_sees_49 (by decide) h (fun h => ?_) (fun h => ?_)
      · refine j_aload_n X 0 dX12_sees_62 rfl rfl ?_
        refine j_getI X fg_RX12_164 ln_89 ly_89 rfl dX12_sees_63 ?_
        refine j_goto (tgt := 70) X dX12_sees_66 (by decide) ?_
        obtain ⟨rfl, rfl⟩ := jin2 h
        exact j_iret X R0 dX12_sees_70
      · refine j_iload_n X 2 dX12_sees_52 rfl rfl ?_
        refine j_aload_n X 0 dX12_sees_53 rfl rfl ?_
        refine j_getR (t := 93) X fg_RX12_19 ln_89 ly_89 rfl dX12_sees_54 ?_
        refine j_iconst (v := 1) X dX12_sees_57 (by decide) ?_
        refine j_iaload X ln_93 ly_93 dX12_sees_58 h (fun v7 h => ?_)
        refine j_icmp_ne (tgt := 69) X dX12_sees_59 (by decide) h (fun h => ?_) (fun h => ?_)
        · refine j_iconst (v := 0) X dX12_sees_69 (by decide) ?_
          obtain ⟨rfl, rfl⟩ := jin2 h
          exact j_iret X R0 dX12_sees_70
        · refine j_aload_n X 0 dX12_sees_62 rfl rfl ?_
          refine j_getI X fg_RX12_164 ln_89 ly_89 rfl dX12_sees_63 ?_
          refine j_goto (tgt := 70) X dX12_sees_66 (by decide) ?_
          obtain ⟨rfl, rfl⟩ := jin2 h
          exact j_iret X R0 dX12_sees_70
    · rw [if_neg hs6] at h
      by_cases hs8 : a0 = 3
      · rw [if_pos hs8] at h
        refine j_tab (tgt := 71) X dX12_sees_13 3 hs8 (by decide) (by decide) rfl (by decide) ?_
        refine j_aload_n X 0 dX12_sees_71 rfl rfl ?_
        refine j_iload_n X 2 dX12_sees_72 rfl rfl ?_
        obtain ⟨v9, σ10, hm11, h⟩ := jbd_some h
        refine j_callV (as := [.int a1]) (st := []) (st1 := [.int v9]) X ln_89 ly_89 rfl rfl sv_RX12_180 ⟨by decide, by decide⟩ rfl rfl (Nat.le_of_ble_eq_true rfl) rfl dX12_sees_73 jrv_i (c_X12_pathsAt  hm11) rfl ?_
        refine j_iload_n X 3 dX12_sees_76 rfl rfl ?_
        refine j_iand X dX12_sees_77 ?_
        refine j_if_ne (tgt := 86) X dX12_sees_78 (by decide) h (fun h => ?_) (fun h => ?_)
        · refine j_iconst (v := 0) X dX12_sees_86 (by decide) ?_
          obtain ⟨rfl, rfl⟩ := jin2 h
          exact j_iret X R0 dX12_sees_87
        · refine j_iload X dX12_sees_81 rfl ?_
          refine j_goto (tgt := 87) X dX12_sees_83 (by decide) ?_
          obtain ⟨rfl, rfl⟩ := jin2 h
          exact j_iret X R0 dX12_sees_87
      · rw [if_neg hs8] at h
        by_cases hs12 : a0 = 4
        · rw [if_pos hs12] at h
          refine j_tab (tgt := 88) X dX12_sees_13 4 hs12 (by decide) (by decide) rfl (by decide) ?_
          refine j_aload_n X 0 dX12_sees_88 rfl rfl ?_
          refine j_getI X fg_RX12_164 ln_89 ly_89 rfl dX12_sees_89 ?_
          obtain ⟨rfl, rfl⟩ := jin2 h
          exact j_iret X R0 dX12_sees_92
        · rw [if_neg hs12] at h
          refine j_tabo (tgt := 93) X dX12_sees_13 (by have w0 := lv_neT (a := 1) hs5 (by decide); have w1 := lv_neT (a := 2) hs6 (by decide); have w2 := lv_neT (a := 3) hs8 (by decide); have w3 := lv_neT (a := 4) hs12 (by decide); omega) (by decide) ?_
          refine j_iconst (v := 1) X dX12_sees_93 (by decide) ?_
          refine j_aload_n X 0 dX12_sees_94 rfl rfl ?_
          refine j_getI X fg_RX12_167 ln_89 ly_89 rfl dX12_sees_95 ?_
          refine j_ishl X dX12_sees_98 ?_
          obtain ⟨rfl, rfl⟩ := jin2 h
          exact j_iret X R0 dX12_sees_99
def f_X12_of (a0 : Nat) (a1 : Int32) (a2 : Int32) (σ : jMem) : Option (Int32 × jMem) :=
  jld σ a0 67 (((43 : Int32) + ((4 : Int32) * a1)) + a2) (fun v1 =>
  some ((v1, σ)))
set_option maxRecDepth 100000 in
set_option maxHeartbeats 4000000 in
theorem c_X12_of {l : Launch} {D : va_G} {ad : Nat → Nat} {cid : Nat → ClassId} {a0 : Nat} {a1 : Int32} {a2 : Int32} (ha0 : a0 < jN ∧ jL a0 = (1, 67, [])) {σ : jMem} {r : Int32} {σ' : jMem} (h : f_X12_of a0 a1 a2 σ = some (r, σ')) : jMet l D ad cid yX12_of cX12_of 3 (some .int) 0 0 [.ref a0, .int a1, .int a2] σ (some (.int r)) σ' := by
  refine jMet_of (ls0 := [some (.ref a0), some (.int a1), some (.int a2)]) (by decide) (Nat.le_of_ble_eq_true rfl) rfl (fun K X R0 _ => ?_)
  unfold f_X12_of at h
  refine j_aload_n X 0 dX12_of_0 rfl rfl ?_
  refine j_bipush (v := 43) X dX12_of_1 (by decide) ?_
  refine j_iconst (v := 4) X dX12_of_3 (by decide) ?_
  refine j_iload_n X 1 dX12_of_4 rfl rfl ?_
  refine j_imul X dX12_of_5 ?_
  refine j_iadd X dX12_of_6 ?_
  refine j_iload_n X 2 dX12_of_7 rfl rfl ?_
  refine j_iadd X dX12_of_8 ?_
  refine j_iaload X ha0.1 ha0.2 dX12_of_9 h (fun v1 h => ?_)
  obtain ⟨rfl, rfl⟩ := jin2 h
  exact j_iret X R0 dX12_of_10
def f_X12_livesBy (a0 : Nat) (a1 : Int32) (a2 : Int32) (σ : jMem) : Option (Int32 × jMem) :=
  jld σ a0 67 (2 : Int32) (fun v1 =>
  jj (fun (q3 : Int32) σ4 =>
  if (v1 + q3) < a2 then
  some (((0 : Int32), σ4))
else
  some (((1 : Int32), σ4))) (fun k2 =>
  if ¬ a1 = (2 : Int32) then
  k2 (0 : Int32) σ
else
  k2 (9 : Int32) σ))
set_option maxRecDepth 100000 in
set_option maxHeartbeats 4000000 in
theorem c_X12_livesBy {l : Launch} {D : va_G} {ad : Nat → Nat} {cid : Nat → ClassId} {a0 : Nat} {a1 : Int32} {a2 : Int32} (ha0 : a0 < jN ∧ jL a0 = (1, 67, [])) {σ : jMem} {r : Int32} {σ' : jMem} (h : f_X12_livesBy a0 a1 a2 σ = some (r, σ')) : jMet l D ad cid yX12_livesBy cX12_livesBy 3 (some .boolean) 0 0 [.ref a0, .int a1, .int a2] σ (some (.int r)) σ' := by
  refine jMet_of (ls0 := [some (.ref a0), some (.int a1), some (.int a2)]) (by decide) (Nat.le_of_ble_eq_true rfl) rfl (fun K X R0 _ => ?_)
  unfold f_X12_livesBy at h
  refine j_iload_n X 2 dX12_livesBy_0 rfl rfl ?_
  refine j_aload_n X 0 dX12_livesBy_1 rfl rfl ?_
  refine j_iconst (v := 2) X dX12_livesBy_2 (by decide) ?_
  refine j_iaload X ha0.1 ha0.2 dX12_livesBy_3 h (fun v1 h => ?_)
  refine j_iload_n X 1 dX12_livesBy_4 rfl rfl ?_
  refine j_iconst (v := 2) X dX12_livesBy_5 (by decide) ?_
  refine j_join (pcJ := 15) (lsJ := fun q3 => [none, none, none]) (stJ := fun q3 => [.int q3, .int v1, .int a2]) h (fun q3 σ4 h => ?_) (fun k2 hk2 h => ?_)
  · refine j_iadd X dX12_livesBy_15 ?_
    refine j_icmp_gt (tgt := 23) X dX12_livesBy_16 (by decide) h (fun h => ?_) (fun h => ?_)
    · refine j_iconst (v := 0) X dX12_livesBy_23 (by decide) ?_
      obtain ⟨rfl, rfl⟩ := jin2 h
      exact j_zret X R0 rfl dX12_livesBy_24
    · refine j_iconst (v := 1) X dX12_livesBy_19 (by decide) ?_
      refine j_goto (tgt := 24) X dX12_livesBy_20 (by decide) ?_
      obtain ⟨rfl, rfl⟩ := jin2 h
      exact j_zret X R0 rfl dX12_livesBy_24
  · refine j_icmp_ne (tgt := 14) X dX12_livesBy_6 (by decide) h (fun h => ?_) (fun h => ?_)
    · refine j_iconst (v := 0) X dX12_livesBy_14 (by decide) ?_
      exact j_sub (ls' := [none, none, none]) ⟨Or.inl rfl, Or.inl rfl, Or.inl rfl, trivial⟩ (hk2 (0 : Int32) σ h)
    · refine j_bipush (v := 9) X dX12_livesBy_9 (by decide) ?_
      refine j_goto (tgt := 15) X dX12_livesBy_11 (by decide) ?_
      exact j_sub (ls' := [none, none, none]) ⟨Or.inl rfl, Or.inl rfl, Or.inl rfl, trivial⟩ (hk2 (9 : Int32) σ h)
theorem ss_RX12_183 : jSiS RX12 183 yX12_of cX12_of 3 (some .int) 3 := ⟨tw_1079, tw_1080, tw_13, tw_1081, by decide, by decide, by decide +kernel⟩
theorem ss_RX12_187 : jSiS RX12 187 yX12_livesBy cX12_livesBy 3 (some .boolean) 3 := ⟨tw_1082, tw_1083, tw_13, tw_1084, by decide, by decide, by decide +kernel⟩
def f_X12_lives (a0 : Nat) (a1 : Int32) (σ : jMem) : Option (Int32 × jMem) :=
  jbd (f_X12_of a0 a1 (0 : Int32) σ) (fun v1 σ2 =>
  jbd (f_X12_of a0 a1 (1 : Int32) σ2) (fun v4 σ5 =>
  jbd (f_X12_livesBy a0 v1 v4 σ5) (fun v7 σ8 =>
  jck (jisb v7 = true) (some ((v7, σ8))))))
set_option maxRecDepth 100000 in
set_option maxHeartbeats 4000000 in
theorem c_X12_lives {l : Launch} {D : va_G} {ad : Nat → Nat} {cid : Nat → ClassId} {a0 : Nat} {a1 : Int32} (ha0 : a0 < jN ∧ jL a0 = (1, 67, [])) {σ : jMem} {r : Int32} {σ' : jMem} (h : f_X12_lives a0 a1 σ = some (r, σ')) : jMet l D ad cid yX12_lives cX12_lives 2 (some .boolean) 1 22 [.ref a0, .int a1] σ (some (.int r)) σ' := by
  refine jMet_of (ls0 := [some (.ref a0), some (.int a1)]) (by decide) (Nat.le_of_ble_eq_true rfl) rfl (fun K X R0 _ => ?_)
  unfold f_X12_lives at h
  refine j_aload_n X 0 dX12_lives_0 rfl rfl ?_
  refine j_aload_n X 0 dX12_lives_1 rfl rfl ?_
  refine j_iload_n X 1 dX12_lives_2 rfl rfl ?_
  refine j_iconst (v := 0) X dX12_lives_3 (by decide) ?_
  obtain ⟨v1, σ2, hm3, h⟩ := jbd_some h
  refine j_callS (as := [.ref a0, .int a1, .int (0 : Int32)]) (st := [.ref a0]) (st1 := [.int v1, .ref a0]) X ss_RX12_183 ⟨by decide, by decide⟩ rfl rfl (Nat.le_of_ble_eq_true rfl) rfl dX12_lives_4 jrv_i (c_X12_of ⟨ha0.1, ha0.2⟩ hm3) rfl ?_
  refine j_aload_n X 0 dX12_lives_7 rfl rfl ?_
  refine j_iload_n X 1 dX12_lives_8 rfl rfl ?_
  refine j_iconst (v := 1) X dX12_lives_9 (by decide) ?_
  obtain ⟨v4, σ5, hm6, h⟩ := jbd_some h
  refine j_callS (as := [.ref a0, .int a1, .int (1 : Int32)]) (st := [.int v1, .ref a0]) (st1 := [.int v4, .int v1, .ref a0]) X ss_RX12_183 ⟨by decide, by decide⟩ rfl rfl (Nat.le_of_ble_eq_true rfl) rfl dX12_lives_10 jrv_i (c_X12_of ⟨ha0.1, ha0.2⟩ hm6) rfl ?_
  obtain ⟨v7, σ8, hm9, h⟩ := jbd_some h
  refine j_callS (as := [.ref a0, .int v1, .int v4]) (st := []) (st1 := [.int v7]) X ss_RX12_187 ⟨by decide, by decide⟩ rfl rfl (Nat.le_of_ble_eq_true rfl) rfl dX12_lives_13 jrv_i (c_X12_livesBy ⟨ha0.1, ha0.2⟩ hm9) rfl ?_
  obtain ⟨hc10, h⟩ := jck_some h
  obtain ⟨rfl, rfl⟩ := jin2 h
  exact j_zret X R0 hc10 dX12_lives_16
theorem ss_RX12_191 : jSiS RX12 191 yX12_lives cX12_lives 2 (some .boolean) 2 := ⟨tw_1076, tw_1077, tw_13, tw_1078, by decide, by decide, by decide +kernel⟩
def f_X12_swears (a0 : Nat) (a1 : Int32) (σ : jMem) : Option (Int32 × jMem) :=
  jbd (f_X12_lives a0 a1 σ) (fun v1 σ2 =>
  if v1 = 0 then
  some (((0 : Int32), σ2))
else
  jbd (f_X12_of a0 a1 (3 : Int32) σ2) (fun v4 σ5 =>
  some ((v4, σ5))))
set_option maxRecDepth 100000 in
set_option maxHeartbeats 4000000 in
theorem c_X12_swears {l : Launch} {D : va_G} {ad : Nat → Nat} {cid : Nat → ClassId} {a0 : Nat} {a1 : Int32} (ha0 : a0 < jN ∧ jL a0 = (1, 67, [])) {σ : jMem} {r : Int32} {σ' : jMem} (h : f_X12_swears a0 a1 σ = some (r, σ')) : jMet l D ad cid yX12_swears cX12_swears 2 (some .int) 2 43 [.ref a0, .int a1] σ (some (.int r)) σ' := by
  refine jMet_of (ls0 := [some (.ref a0), some (.int a1)]) (by decide) (Nat.le_of_ble_eq_true rfl) rfl (fun K X R0 _ => ?_)
  unfold f_X12_swears at h
  refine j_aload_n X 0 dX12_swears_0 rfl rfl ?_
  refine j_iload_n X 1 dX12_swears_1 rfl rfl ?_
  obtain ⟨v1, σ2, hm3, h⟩ := jbd_some h
  refine j_callS (as := [.ref a0, .int a1]) (st := []) (st1 := [.int v1]) X ss_RX12_191 ⟨by decide, by decide⟩ rfl rfl (Nat.le_of_ble_eq_true rfl) rfl dX12_swears_2 jrv_i (c_X12_lives ⟨ha0.1, ha0.2⟩ hm3) rfl ?_
  refine j_if_eq (tgt := 17) X dX12_swears_5 (by decide) h (fun h => ?_) (fun h => ?_)
  · refine j_iconst (v := 0) X dX12_swears_17 (by decide) ?_
    obtain ⟨rfl, rfl⟩ := jin2 h
    exact j_iret X R0 dX12_swears_18
  · refine j_aload_n X 0 dX12_swears_8 rfl rfl ?_
    refine j_iload_n X 1 dX12_swears_9 rfl rfl ?_
    refine j_iconst (v := 3) X dX12_swears_10 (by decide) ?_
    obtain ⟨v4, σ5, hm6, h⟩ := jbd_some h
    refine j_callS (as := [.ref a0, .int a1, .int (3 : Int32)]) (st := []) (st1 := [.int v4]) X ss_RX12_183 ⟨by decide, by decide⟩ rfl rfl (Nat.le_of_ble_eq_true rfl) rfl dX12_swears_11 jrv_i (c_X12_of ⟨ha0.1, ha0.2⟩ hm6) rfl ?_
    refine j_goto (tgt := 18) X dX12_swears_14 (by decide) ?_
    obtain ⟨rfl, rfl⟩ := jin2 h
    exact j_iret X R0 dX12_swears_18
theorem ss_RX12_195 : jSiS RX12 195 yX12_swears cX12_swears 2 (some .int) 2 := ⟨tw_1096, tw_1097, tw_13, tw_1098, by decide, by decide, by decide +kernel⟩
def X12_waysOf_L4_b (p0 : Nat) (rec : Int32 × Int32 → jMem → Option ((Int32) × jMem)) (x1 : Int32) (x2 : Int32) (σ : jMem) : Option ((Int32) × jMem) :=
  jld σ p0 67 (4 : Int32) (fun v1 =>
  if v1 ≤ x2 then
  some (x1, σ)
else
  jbd (f_X12_swears p0 x2 σ) (fun v2 σ3 =>
  jlet ((x1 ||| v2)) (fun v5 =>
  rec (v5, (x2 + 1)) σ3)))
def X12_waysOf_L4 (p0 : Nat) : Nat → Int32 × Int32 → jMem → Option ((Int32) × jMem) := jloop (fun rec s σ => X12_waysOf_L4_b p0 rec s.1 s.2 σ)
set_option maxRecDepth 100000 in
set_option maxHeartbeats 4000000 in
theorem X12_waysOf_L4_bok {K : jK} (X : JX K cX12_waysOf 3 RX12 3 64) {p0 : Nat} (hp0 : p0 < jN ∧ jL p0 = (1, 67, [])) {rec : Int32 × Int32 → jMem → Option ((Int32) × jMem)} (ih : ∀ (s : Int32 × Int32) (σ : jMem) (o : (Int32) × jMem), rec s σ = some o → (J K 25 [none, some (.int o.1), none] [] o.2) → J K 4 [some (.ref p0), some (.int s.1), some (.int s.2)] [] σ) : ∀ (x1 : Int32) (x2 : Int32) (σ : jMem) (o : (Int32) × jMem), X12_waysOf_L4_b p0 rec x1 x2 σ = some o → (J K 25 [none, some (.int o.1), none] [] o.2) → J K 4 [some (.ref p0), some (.int x1), some (.int x2)] [] σ := by
  intro x1 x2 σ o h kk
  unfold X12_waysOf_L4_b at h
  refine j_iload_n X 2 dX12_waysOf_4 rfl rfl ?_
  refine j_aload_n X 0 dX12_waysOf_5 rfl rfl ?_
  refine j_iconst (v := 4) X dX12_waysOf_6 (by decide) ?_
  refine j_iaload X hp0.1 hp0.2 dX12_waysOf_7 h (fun v1 h => ?_)
  refine j_icmp_ge (tgt := 25) X dX12_waysOf_8 (by decide) h (fun h => ?_) (fun h => ?_)
  · obtain rfl := Option.some.inj h
    exact j_sub (ls' := [none, some (.int x1), none]) ⟨Or.inl rfl, Or.inr rfl, Or.inl rfl, trivial⟩ kk
  · refine j_iload_n X 1 dX12_waysOf_11 rfl rfl ?_
    refine j_aload_n X 0 dX12_waysOf_12 rfl rfl ?_
    refine j_iload_n X 2 dX12_waysOf_13 rfl rfl ?_
    obtain ⟨v2, σ3, hm4, h⟩ := jbd_some h
    refine j_callS (as := [.ref p0, .int x2]) (st := [.int x1]) (st1 := [.int v2, .int x1]) X ss_RX12_195 ⟨by decide, by decide⟩ rfl rfl (Nat.le_of_ble_eq_true rfl) rfl dX12_waysOf_14 jrv_i (c_X12_swears ⟨hp0.1, hp0.2⟩ hm4) rfl ?_
    refine j_ior X dX12_waysOf_17 ?_
    refine j_letI h (fun v5 h => ?_)
    refine j_istore_n (ls' := [some (.ref p0), some (.int v5), some (.int x2)]) X 1 dX12_waysOf_18 rfl (Nat.le_of_ble_eq_true rfl) rfl ?_
    refine j_iinc (v := (x2 + 1)) (ls' := [some (.ref p0), some (.int v5), some (.int (x2 + 1))]) X dX12_waysOf_19 rfl rfl (Nat.le_of_ble_eq_true rfl) rfl ?_
    refine j_goto (tgt := 4) X dX12_waysOf_22 (by decide) ?_
    exact ih (v5, (x2 + 1)) σ3 _ h kk
theorem X12_waysOf_L4_ok {K : jK} (X : JX K cX12_waysOf 3 RX12 3 64) {p0 : Nat} (hp0 : p0 < jN ∧ jL p0 = (1, 67, [])) : ∀ (n : Nat) (s : Int32 × Int32) (σ : jMem) (o : (Int32) × jMem), X12_waysOf_L4 p0 n s σ = some o → (J K 25 [none, some (.int o.1), none] [] o.2) → J K 4 [some (.ref p0), some (.int s.1), some (.int s.2)] [] σ := by
  intro n
  induction n with
  | zero => intro s σ o h; cases h
  | succ n ih => intro s σ o h; exact X12_waysOf_L4_bok X hp0 ih (s.1) (s.2) σ o h
def f_X12_waysOf (a0 : Nat) (σ : jMem) : Option (Int32 × jMem) :=
  jbd (X12_waysOf_L4 (a0) jFU ((0 : Int32), (0 : Int32)) σ) (fun q6 σ7 =>
  some ((q6, σ7)))
set_option maxRecDepth 100000 in
set_option maxHeartbeats 4000000 in
theorem c_X12_waysOf {l : Launch} {D : va_G} {ad : Nat → Nat} {cid : Nat → ClassId} {a0 : Nat} (ha0 : a0 < jN ∧ jL a0 = (1, 67, [])) {σ : jMem} {r : Int32} {σ' : jMem} (h : f_X12_waysOf a0 σ = some (r, σ')) : jMet l D ad cid yX12_waysOf cX12_waysOf 3 (some .int) 3 64 [.ref a0] σ (some (.int r)) σ' := by
  refine jMet_of (ls0 := [some (.ref a0), none, none]) (by decide) (Nat.le_of_ble_eq_true rfl) rfl (fun K X R0 _ => ?_)
  unfold f_X12_waysOf at h
  refine j_iconst (v := 0) X dX12_waysOf_0 (by decide) ?_
  refine j_istore_n (ls' := [some (.ref a0), some (.int (0 : Int32)), none]) X 1 dX12_waysOf_1 rfl (Nat.le_of_ble_eq_true rfl) rfl ?_
  refine j_iconst (v := 0) X dX12_waysOf_2 (by decide) ?_
  refine j_istore_n (ls' := [some (.ref a0), some (.int (0 : Int32)), some (.int (0 : Int32))]) X 2 dX12_waysOf_3 rfl (Nat.le_of_ble_eq_true rfl) rfl ?_
  obtain ⟨q6, σ7, hL8, h⟩ := jbd_some h
  refine X12_waysOf_L4_ok X ⟨ha0.1, ha0.2⟩ jFU ((0 : Int32), (0 : Int32)) σ _ hL8 ?_
  refine j_iload_n X 1 dX12_waysOf_25 rfl rfl ?_
  obtain ⟨rfl, rfl⟩ := jin2 h
  exact j_iret X R0 dX12_waysOf_26
def X12_living_L4_b (p0 : Nat) (rec : Int32 × Int32 → jMem → Option ((Int32) × jMem)) (x1 : Int32) (x2 : Int32) (σ : jMem) : Option ((Int32) × jMem) :=
  jld σ p0 67 (4 : Int32) (fun v1 =>
  if v1 ≤ x2 then
  some (x1, σ)
else
  jbd (f_X12_lives p0 x2 σ) (fun v2 σ3 =>
  if v2 = 0 then
  jlet ((x1 ||| (0 : Int32))) (fun v5 =>
  rec (v5, (x2 + 1)) σ3)
else
  jlet ((x1 ||| ((1 : Int32) <<< (x2 &&& 31)))) (fun v6 =>
  rec (v6, (x2 + 1)) σ3)))
def X12_living_L4 (p0 : Nat) : Nat → Int32 × Int32 → jMem → Option ((Int32) × jMem) := jloop (fun rec s σ => X12_living_L4_b p0 rec s.1 s.2 σ)
set_option maxRecDepth 100000 in
set_option maxHeartbeats 4000000 in
theorem X12_living_L4_bok {K : jK} (X : JX K cX12_living 3 RX12 2 43) {p0 : Nat} (hp0 : p0 < jN ∧ jL p0 = (1, 67, [])) {rec : Int32 × Int32 → jMem → Option ((Int32) × jMem)} (ih : ∀ (s : Int32 × Int32) (σ : jMem) (o : (Int32) × jMem), rec s σ = some o → (J K 35 [none, some (.int o.1), none] [] o.2) → J K 4 [some (.ref p0), some (.int s.1), some (.int s.2)] [] σ) : ∀ (x1 : Int32) (x2 : Int32) (σ : jMem) (o : (Int32) × jMem), X12_living_L4_b p0 rec x1 x2 σ = some o → (J K 35 [none, some (.int o.1), none] [] o.2) → J K 4 [some (.ref p0), some (.int x1), some (.int x2)] [] σ := by
  intro x1 x2 σ o h kk
  unfold X12_living_L4_b at h
  refine j_iload_n X 2 dX12_living_4 rfl rfl ?_
  refine j_aload_n X 0 dX12_living_5 rfl rfl ?_
  refine j_iconst (v := 4) X dX12_living_6 (by decide) ?_
  refine j_iaload X hp0.1 hp0.2 dX12_living_7 h (fun v1 h => ?_)
  refine j_icmp_ge (tgt := 35) X dX12_living_8 (by decide) h (fun h => ?_) (fun h => ?_)
  · obtain rfl := Option.some.inj h
    exact j_sub (ls' := [none, some (.int x1), none]) ⟨Or.inl rfl, Or.inr rfl, Or.inl rfl, trivial⟩ kk
  · refine j_iload_n X 1 dX12_living_11 rfl rfl ?_
    refine j_aload_n X 0 dX12_living_12 rfl rfl ?_
    refine j_iload_n X 2 dX12_living_13 rfl rfl ?_
    obtain ⟨v2, σ3, hm4, h⟩ := jbd_some h
    refine j_callS (as := [.ref p0, .int x2]) (st := [.int x1]) (st1 := [.int v2, .int x1]) X ss_RX12_191 ⟨by decide, by decide⟩ rfl rfl (Nat.le_of_ble_eq_true rfl) rfl dX12_living_14 jrv_i (c_X12_lives ⟨hp0.1, hp0.2⟩ hm4) rfl ?_
    refine j_if_eq (tgt := 26) X dX12_living_17 (by decide) h (fun h => ?_) (fun h => ?_)
    · refine j_iconst (v := 0) X dX12_living_26 (by decide) ?_
      refine j_ior X dX12_living_27 ?_
      refine j_letI h (fun v5 h => ?_)
      refine j_istore_n (ls' := [some (.ref p0), some (.int v5), some (.int x2)]) X 1 dX12_living_28 rfl (Nat.le_of_ble_eq_true rfl) rfl ?_
      refine j_iinc (v := (x2 + 1)) (ls' := [some (.ref p0), some (.int v5), some (.int (x2 + 1))]) X dX12_living_29 rfl rfl (Nat.le_of_ble_eq_true rfl) rfl ?_
      refine j_goto (tgt := 4) X dX12_living_32 (by decide) ?_
      exact ih (v5, (x2 + 1)) σ3 _ h kk
    · refine j_iconst (v := 1) X dX12_living_20 (by decide) ?_
      refine j_iload_n X 2 dX12_living_21 rfl rfl ?_
      refine j_ishl X dX12_living_22 ?_
      refine j_goto (tgt := 27) X dX12_living_23 (by decide) ?_
      refine j_ior X dX12_living_27 ?_
      refine j_letI h (fun v6 h => ?_)
      refine j_istore_n (ls' := [some (.ref p0), some (.int v6), some (.int x2)]) X 1 dX12_living_28 rfl (Nat.le_of_ble_eq_true rfl) rfl ?_
      refine j_iinc (v := (x2 + 1)) (ls' := [some (.ref p0), some (.int v6), some (.int (x2 + 1))]) X dX12_living_29 rfl rfl (Nat.le_of_ble_eq_true rfl) rfl ?_
      refine j_goto (tgt := 4) X dX12_living_32 (by decide) ?_
      exact ih (v6, (x2 + 1)) σ3 _ h kk
theorem X12_living_L4_ok {K : jK} (X : JX K cX12_living 3 RX12 2 43) {p0 : Nat} (hp0 : p0 < jN ∧ jL p0 = (1, 67, [])) : ∀ (n : Nat) (s : Int32 × Int32) (σ : jMem) (o : (Int32) × jMem), X12_living_L4 p0 n s σ = some o → (J K 35 [none, some (.int o.1), none] [] o.2) → J K 4 [some (.ref p0), some (.int s.1), some (.int s.2)] [] σ := by
  intro n
  induction n with
  | zero => intro s σ o h; cases h
  | succ n ih => intro s σ o h; exact X12_living_L4_bok X hp0 ih (s.1) (s.2) σ o h
def f_X12_living (a0 : Nat) (σ : jMem) : Option (Int32 × jMem) :=
  jbd (X12_living_L4 (a0) jFU ((0 : Int32), (0 : Int32)) σ) (fun q7 σ8 =>
  some ((q7, σ8)))
set_option maxRecDepth 100000 in
set_option maxHeartbeats 4000000 in
theorem c_X12_living {l : Launch} {D : va_G} {ad : Nat → Nat} {cid : Nat → ClassId} {a0 : Nat} (ha0 : a0 < jN ∧ jL a0 = (1, 67, [])) {σ : jMem} {r : Int32} {σ' : jMem} (h : f_X12_living a0 σ = some (r, σ')) : jMet l D ad cid yX12_living cX12_living 3 (some .int) 2 43 [.ref a0] σ (some (.int r)) σ' := by
  refine jMet_of (ls0 := [some (.ref a0), none, none]) (by decide) (Nat.le_of_ble_eq_true rfl) rfl (fun K X R0 _ => ?_)
  unfold f_X12_living at h
  refine j_iconst (v := 0) X dX12_living_0 (by decide) ?_
  refine j_istore_n (ls' := [some (.ref a0), some (.int (0 : Int32)), none]) X 1 dX12_living_1 rfl (Nat.le_of_ble_eq_true rfl) rfl ?_
  refine j_iconst (v := 0) X dX12_living_2 (by decide) ?_
  refine j_istore_n (ls' := [some (.ref a0), some (.int (0 : Int32)), some (.int (0 : Int32))]) X 2 dX12_living_3 rfl (Nat.le_of_ble_eq_true rfl) rfl ?_
  obtain ⟨q7, σ8, hL9, h⟩ := jbd_some h
  refine X12_living_L4_ok X ⟨ha0.1, ha0.2⟩ jFU ((0 : Int32), (0 : Int32)) σ _ hL9 ?_
  refine j_iload_n X 1 dX12_living_35 rfl rfl ?_
  obtain ⟨rfl, rfl⟩ := jin2 h
  exact j_iret X R0 dX12_living_36
