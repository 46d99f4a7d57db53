theorem ss_RX2_85 : jSiS RX2 85 yX2_between cX2_between 5 (some .int) 3 := ⟨tw_661, tw_662, tw_11, tw_663, by decide, by decide, by decide +kernel⟩
theorem ss_RX2_88 : jSiS RX2 88 yJ6_bitCount_0f7a4 cJ6_bitCount_0f7a4 1 (some .int) 1 := ⟨tw_664, tw_665, tw_16, tw_666, by decide, by decide, by decide +kernel⟩
def X2_fewestGates_L6_b (p1 : Nat) (p2 : Int32) (p3 : Int32) (rec : Int32 × Int32 → jMem → Option ((Int32) × jMem)) (x4 : Int32) (x5 : Int32) (σ : jMem) : Option ((Int32) × jMem) :=
  if (256 : Int32) ≤ x5 then
  some (x4, σ)
else
  jbd (f_X11_bitOf x5 p3 σ) (fun v1 σ2 =>
  if ¬ v1 = (1 : Int32) then
  rec (x4, (x5 + 1)) σ2
else
  jbd (f_X11_bitOf x5 (σ2.1 p1 2) σ2) (fun v4 σ5 =>
  if ¬ v4 = 0 then
  rec (x4, (x5 + 1)) σ5
else
  jbd (f_X2_between p1 p2 x5 σ5) (fun v7 σ8 =>
  jbd (f_J6_bitCount_0f7a4 v7 σ8) (fun v10 σ11 =>
  jbd (f_J6_bitCount_0f7a4 x4 σ11) (fun v13 σ14 =>
  jlet ((v10 - v13)) (fun v16 =>
  if v16 < 0 then
  rec (v7, (x5 + 1)) σ14
else
  if ¬ v16 = 0 then
  rec (x4, (x5 + 1)) σ14
else
  if x4 ≤ v7 then
  rec (x4, (x5 + 1)) σ14
else
  rec (v7, (x5 + 1)) σ14))))))
def X2_fewestGates_L6 (p1 : Nat) (p2 : Int32) (p3 : Int32) : Nat → Int32 × Int32 → jMem → Option ((Int32) × jMem) := jloop (fun rec s σ => X2_fewestGates_L6_b p1 p2 p3 rec s.1 s.2 σ)
set_option maxRecDepth 100000 in
set_option maxHeartbeats 4000000 in
theorem X2_fewestGates_L6_bok {K : jK} (X : JX K cX2_fewestGates 8 RX2 2 45) {p1 : Nat} {p2 : Int32} {p3 : Int32} (hp1 : jisP p1) {rec : Int32 × Int32 → jMem → Option ((Int32) × jMem)} (ih : ∀ (s : Int32 × Int32) (σ : jMem) (o : (Int32) × jMem), rec s σ = some o → (J K 85 [none, none, none, none, some (.int o.1), none, none, none] [] o.2) → J K 6 [none, some (.ref p1), some (.int p2), some (.int p3), some (.int s.1), some (.int s.2), none, none] [] σ) : ∀ (x4 : Int32) (x5 : Int32) (σ : jMem) (o : (Int32) × jMem), X2_fewestGates_L6_b p1 p2 p3 rec x4 x5 σ = some o → (J K 85 [none, none, none, none, some (.int o.1), none, none, none] [] o.2) → J K 6 [none, some (.ref p1), some (.int p2), some (.int p3), some (.int x4), some (.int x5), none, none] [] σ := by
  intro x4 x5 σ o h kk
  unfold X2_fewestGates_L6_b at h
  refine j_iload X dX2_fewestGates_6 rfl ?_
  refine j_sipush (v := 256) X dX2_fewestGates_8 (by decide) ?_
  refine j_icmp_ge (tgt := 85) X dX2_fewestGates_11 (by decide) h (fun h => ?_) (fun h => ?_)
  · obtain rfl := Option.some.inj h
    exact j_sub (ls' := [none, none, none, none, some (.int x4), none, none, none]) ⟨Or.inl rfl, Or.inl rfl, Or.inl rfl, Or.inl rfl, Or.inr rfl, Or.inl rfl, Or.inl rfl, Or.inl rfl, trivial⟩ kk
  · refine j_iload X dX2_fewestGates_14 rfl ?_
    refine j_iload_n X 3 dX2_fewestGates_16 rfl rfl ?_
    obtain ⟨v1, σ2, hm3, h⟩ := jbd_some h
    refine j_callN (as := [.int x5, .int p3]) (st := []) (st1 := [.int v1]) X sn_RX2_68 ⟨by decide, by decide⟩ rfl rfl (Nat.le_of_ble_eq_true rfl) rfl dX2_fewestGates_17 jrv_i (c_X11_bitOf  hm3) rfl ?_
    refine j_iconst (v := 1) X dX2_fewestGates_20 (by decide) ?_
    refine j_icmp_ne (tgt := 79) X dX2_fewestGates_21 (by decide) h (fun h => ?_) (fun h => ?_)
    · refine j_iinc (v := (x5 + 1)) (ls' := [none, some (.ref p1), some (.int p2), some (.int p3), some (.int x4), some (.int (x5 + 1)), none, none]) X dX2_fewestGates_79 rfl rfl (Nat.le_of_ble_eq_true rfl) rfl ?_
      refine j_goto (tgt := 6) X dX2_fewestGates_82 (by decide) ?_
      exact ih (x4, (x5 + 1)) σ2 _ h kk
    · refine j_iload X dX2_fewestGates_24 rfl ?_
      refine j_aload_n X 1 dX2_fewestGates_26 rfl rfl ?_
      refine j_getI X fg_RX2_30 (jp_lt hp1) (jp_ly hp1) rfl dX2_fewestGates_27 ?_
      obtain ⟨v4, σ5, hm6, h⟩ := jbd_some h
      refine j_callN (as := [.int x5, .int (σ2.1 p1 2)]) (st := []) (st1 := [.int v4]) X sn_RX2_68 ⟨by decide, by decide⟩ rfl rfl (Nat.le_of_ble_eq_true rfl) rfl dX2_fewestGates_30 jrv_i (c_X11_bitOf  hm6) rfl ?_
      refine j_if_ne (tgt := 79) X dX2_fewestGates_33 (by decide) h (fun h => ?_) (fun h => ?_)
      · refine j_iinc (v := (x5 + 1)) (ls' := [none, some (.ref p1), some (.int p2), some (.int p3), some (.int x4), some (.int (x5 + 1)), none, none]) X dX2_fewestGates_79 rfl rfl (Nat.le_of_ble_eq_true rfl) rfl ?_
        refine j_goto (tgt := 6) X dX2_fewestGates_82 (by decide) ?_
        exact ih (x4, (x5 + 1)) σ5 _ h kk
      · refine j_aload_n X 1 dX2_fewestGates_36 rfl rfl ?_
        refine j_iload_n X 2 dX2_fewestGates_37 rfl rfl ?_
        refine j_iload X dX2_fewestGates_38 rfl ?_
        obtain ⟨v7, σ8, hm9, h⟩ := jbd_some h
        refine j_callS (as := [.ref p1, .int p2, .int x5]) (st := []) (st1 := [.int v7]) X ss_RX2_85 ⟨by decide, by decide⟩ rfl rfl (Nat.le_of_ble_eq_true rfl) rfl dX2_fewestGates_40 jrv_i (c_X2_between hp1 hm9) rfl ?_
        refine j_istore (ls' := [none, some (.ref p1), some (.int p2), some (.int p3), some (.int x4), some (.int x5), some (.int v7), none]) X dX2_fewestGates_43 (Nat.le_of_ble_eq_true rfl) rfl ?_
        refine j_iload X dX2_fewestGates_45 rfl ?_
        obtain ⟨v10, σ11, hm12, h⟩ := jbd_some h
        refine j_callS (as := [.int v7]) (st := []) (st1 := [.int v10]) X ss_RX2_88 ⟨by decide, by decide⟩ rfl rfl (Nat.le_of_ble_eq_true rfl) rfl dX2_fewestGates_47 jrv_i (c_J6_bitCount_0f7a4  hm12) rfl ?_
        refine j_iload X dX2_fewestGates_50 rfl ?_
        obtain ⟨v13, σ14, hm15, h⟩ := jbd_some h
        refine j_callS (as := [.int x4]) (st := [.int v10]) (st1 := [.int v13, .int v10]) X ss_RX2_88 ⟨by decide, by decide⟩ rfl rfl (Nat.le_of_ble_eq_true rfl) rfl dX2_fewestGates_52 jrv_i (c_J6_bitCount_0f7a4  hm15) rfl ?_
        refine j_isub X dX2_fewestGates_55 ?_
        refine j_letI h (fun v16 h => ?_)
        refine j_istore (ls' := [none, some (.ref p1), some (.int p2), some (.int p3), some (.int x4), some (.int x5), some (.int v7), some (.int v16)]) X dX2_fewestGates_56 (Nat.le_of_ble_eq_true rfl) rfl ?_
        refine j_iload X dX2_fewestGates_58 rfl ?_
        refine j_if_lt (tgt := 75) X dX2_fewestGates_60 (by decide) h (fun h => ?_) (fun h => ?_)
        · refine j_iload X dX2_fewestGates_75 rfl ?_
          refine j_istore (ls' := [none, some (.ref p1), some (.int p2), some (.int p3), some (.int v7), some (.int x5), some (.int v7), some (.int v16)]) X dX2_fewestGates_77 (Nat.le_of_ble_eq_true rfl) rfl ?_
          refine j_iinc (v := (x5 + 1)) (ls' := [none, some (.ref p1), some (.int p2), some (.int p3), some (.int v7), some (.int (x5 + 1)), some (.int v7), some (.int v16)]) X dX2_fewestGates_79 rfl rfl (Nat.le_of_ble_eq_true rfl) rfl ?_
          refine j_goto (tgt := 6) X dX2_fewestGates_82 (by decide) ?_
          exact j_sub (ls' := [none, some (.ref p1), some (.int p2), some (.int p3), some (.int v7), some (.int (x5 + 1)), none, none]) ⟨Or.inl rfl, Or.inr rfl, Or.inr rfl, Or.inr rfl, Or.inr rfl, Or.inr rfl, Or.inl rfl, Or.inl rfl, trivial⟩ (ih (v7, (x5 + 1)) σ14 _ h kk)
        · refine j_iload X dX2_fewestGates_63 rfl ?_
          refine j_if_ne (tgt := 79) X dX2_fewestGates_65 (by decide) h (fun h => ?_) (fun h => ?_)
          · refine j_iinc (v := (x5 + 1)) (ls' := [none, some (.ref p1), some (.int p2), some (.int p3), some (.int x4), some (.int (x5 + 1)), some (.int v7), some (.int v16)]) X dX2_fewestGates_79 rfl rfl (Nat.le_of_ble_eq_true rfl) rfl ?_
            refine j_goto (tgt := 6) X dX2_fewestGates_82 (by decide) ?_
            exact j_sub (ls' := [none, some (.ref p1), some (.int p2), some (.int p3), some (.int x4), some (.int (x5 + 1)), none, none]) ⟨Or.inl rfl, Or.inr rfl, Or.inr rfl, Or.inr rfl, Or.inr rfl, Or.inr rfl, Or.inl rfl, Or.inl rfl, trivial⟩ (ih (x4, (x5 + 1)) σ14 _ h kk)
          · refine j_iload X dX2_fewestGates_68 rfl ?_
            refine j_iload X dX2_fewestGates_70 rfl ?_
            refine j_icmp_ge (tgt := 79) X dX2_fewestGates_72 (by decide) h (fun h => ?_) (fun h => ?_)
            · refine j_iinc (v := (x5 + 1)) (ls' := [none, some (.ref p1), some (.int p2), some (.int p3), some (.int x4), some (.int (x5 + 1)), some (.int v7), some (.int v16)]) X dX2_fewestGates_79 rfl rfl (Nat.le_of_ble_eq_true rfl) rfl ?_
              refine j_goto (tgt := 6) X dX2_fewestGates_82 (by decide) ?_
              exact j_sub (ls' := [none, some (.ref p1), some (.int p2), some (.int p3), some (.int x4), some (.int (x5 + 1)), none, none]) ⟨Or.inl rfl, Or.inr rfl, Or.inr rfl, Or.inr rfl, Or.inr rfl, Or.inr rfl, Or.inl rfl, Or.inl rfl, trivial⟩ (ih (x4, (x5 + 1)) σ14 _ h kk)
            · refine j_iload X dX2_fewestGates_75 rfl ?_
              refine j_istore (ls' := [none, some (.ref p1), some (.int p2), some (.int p3), some (.int v7), some (.int x5), some (.int v7), some (.int v16)]) X dX2_fewestGates_77 (Nat.le_of_ble_eq_true rfl) rfl ?_
              refine j_iinc (v := (x5 + 1)) (ls' := [none, some (.ref p1), some (.int p2), some (.int p3), some (.int v7), some (.int (x5 + 1)), some (.int v7), some (.int v16)]) X dX2_fewestGates_79 rfl rfl (Nat.le_of_ble_eq_true rfl) rfl ?_
              refine j_goto (tgt := 6) X dX2_fewestGates_82 (by decide) ?_
              exact j_sub (ls' := [none, some (.ref p1), some (.int p2), some (.int p3), some (.int v7), some (.int (x5 + 1)), none, none]) ⟨Or.inl rfl, Or.inr rfl, Or.inr rfl, Or.inr rfl, Or.inr rfl, Or.inr rfl, Or.inl rfl, Or.inl rfl, trivial⟩ (ih (v7, (x5 + 1)) σ14 _ h kk)
theorem X2_fewestGates_L6_ok {K : jK} (X : JX K cX2_fewestGates 8 RX2 2 45) {p1 : Nat} {p2 : Int32} {p3 : Int32} (hp1 : jisP p1) : ∀ (n : Nat) (s : Int32 × Int32) (σ : jMem) (o : (Int32) × jMem), X2_fewestGates_L6 p1 p2 p3 n s σ = some o → (J K 85 [none, none, none, none, some (.int o.1), none, none, none] [] o.2) → J K 6 [none, some (.ref p1), some (.int p2), some (.int p3), some (.int s.1), some (.int s.2), none, none] [] σ := by
  intro n
  induction n with
  | zero => intro s σ o h; cases h
  | succ n ih => intro s σ o h; exact X2_fewestGates_L6_bok X hp1 ih (s.1) (s.2) σ o h
def f_X2_fewestGates (a0 : Nat) (a1 : Int32) (a2 : Int32) (σ : jMem) : Option (Int32 × jMem) :=
  jbd (X2_fewestGates_L6 (a0) (a1) (a2) jFU (a1, (0 : Int32)) σ) (fun q17 σ18 =>
  some ((q17, σ18)))
set_option maxRecDepth 100000 in
set_option maxHeartbeats 4000000 in
theorem c_X2_fewestGates {l : Launch} {D : va_G} {ad : Nat → Nat} {cid : Nat → ClassId} {a0 : Nat} {a1 : Int32} {a2 : Int32} (ha0 : jisP a0) {σ : jMem} {r : Int32} {σ' : jMem} (h : f_X2_fewestGates a0 a1 a2 σ = some (r, σ')) : jMet l D ad cid yX2_fewestGates cX2_fewestGates 8 (some .int) 2 45 [.ref 80, .ref a0, .int a1, .int a2] σ (some (.int r)) σ' := by
  refine jMet_of (ls0 := [some (.ref 80), some (.ref a0), some (.int a1), some (.int a2), none, none, none, none]) (by decide) (Nat.le_of_ble_eq_true rfl) rfl (fun K X R0 _ => ?_)
  unfold f_X2_fewestGates at h
  refine j_iload_n X 2 dX2_fewestGates_0 rfl rfl ?_
  refine j_istore (ls' := [some (.ref 80), some (.ref a0), some (.int a1), some (.int a2), some (.int a1), none, none, none]) X dX2_fewestGates_1 (Nat.le_of_ble_eq_true rfl) rfl ?_
  refine j_iconst (v := 0) X dX2_fewestGates_3 (by decide) ?_
  refine j_istore (ls' := [some (.ref 80), some (.ref a0), some (.int a1), some (.int a2), some (.int a1), some (.int (0 : Int32)), none, none]) X dX2_fewestGates_4 (Nat.le_of_ble_eq_true rfl) rfl ?_
  obtain ⟨q17, σ18, hL19, h⟩ := jbd_some h
  refine j_sub (ls' := [none, some (.ref a0), some (.int a1), some (.int a2), some (.int a1), some (.int (0 : Int32)), none, none]) ⟨Or.inl rfl, Or.inr rfl, Or.inr rfl, Or.inr rfl, Or.inr rfl, Or.inr rfl, Or.inl rfl, Or.inl rfl, trivial⟩ ?_
  refine X2_fewestGates_L6_ok X ha0 jFU (a1, (0 : Int32)) σ _ hL19 ?_
  refine j_iload X dX2_fewestGates_85 rfl ?_
  obtain ⟨rfl, rfl⟩ := jin2 h
  exact j_iret X R0 dX2_fewestGates_87
