def X2_between_L5_b (p0 : Nat) (p1 : Int32) (p2 : Int32) (rec : Int32 × Int32 → jMem → Option ((Int32) × jMem)) (x3 : Int32) (x4 : Int32) (σ : jMem) : Option ((Int32) × jMem) :=
  if (σ.1 p0 5) ≤ x4 then
  some (x3, σ)
else
  jld σ (p0 + 1) 12 x4 (fun v1 =>
  jbd (f_X11_bitOf p2 v1 σ) (fun v2 σ3 =>
  jld σ3 (p0 + 2) 12 x4 (fun v5 =>
  jbd (f_X11_bitOf p2 v5 σ3) (fun v6 σ7 =>
  if v2 = v6 then
  rec (x3, (x4 + 1)) σ7
else
  jlet ((x3 ||| ((1 : Int32) <<< (x4 &&& 31)))) (fun v9 =>
  rec (v9, (x4 + 1)) σ7)))))
def X2_between_L5 (p0 : Nat) (p1 : Int32) (p2 : Int32) : Nat → Int32 × Int32 → jMem → Option ((Int32) × jMem) := jloop (fun rec s σ => X2_between_L5_b p0 p1 p2 rec s.1 s.2 σ)
set_option maxRecDepth 100000 in
set_option maxHeartbeats 4000000 in
theorem X2_between_L5_bok {K : jK} (X : JX K cX2_between 5 RX2 1 21) {p0 : Nat} {p1 : Int32} {p2 : Int32} (hp0 : jisP p0) {rec : Int32 × Int32 → jMem → Option ((Int32) × jMem)} (ih : ∀ (s : Int32 × Int32) (σ : jMem) (o : (Int32) × jMem), rec s σ = some o → (J K 52 [none, some (.int p1), none, some (.int o.1), none] [] o.2) → J K 5 [some (.ref p0), some (.int p1), some (.int p2), some (.int s.1), some (.int s.2)] [] σ) : ∀ (x3 : Int32) (x4 : Int32) (σ : jMem) (o : (Int32) × jMem), X2_between_L5_b p0 p1 p2 rec x3 x4 σ = some o → (J K 52 [none, some (.int p1), none, some (.int o.1), none] [] o.2) → J K 5 [some (.ref p0), some (.int p1), some (.int p2), some (.int x3), some (.int x4)] [] σ := by
  intro x3 x4 σ o h kk
  unfold X2_between_L5_b at h
  refine j_iload X dX2_between_5 rfl ?_
  refine j_aload_n X 0 dX2_between_7 rfl rfl ?_
  refine j_getI X fg_RX2_65 (jp_lt hp0) (jp_ly hp0) rfl dX2_between_8 ?_
  refine j_icmp_ge (tgt := 52) X dX2_between_11 (by decide) h (fun h => ?_) (fun h => ?_)
  · obtain rfl := Option.some.inj h
    exact j_sub (ls' := [none, some (.int p1), none, some (.int x3), none]) ⟨Or.inl rfl, Or.inr rfl, Or.inl rfl, Or.inr rfl, Or.inl rfl, trivial⟩ kk
  · refine j_iload_n X 2 dX2_between_14 rfl rfl ?_
    refine j_aload_n X 0 dX2_between_15 rfl rfl ?_
    refine j_getR (t := (p0 + 1)) X fg_RX2_72 (jp_lt hp0) (jp_ly hp0) rfl dX2_between_16 ?_
    refine j_iload X dX2_between_19 rfl ?_
    refine j_iaload X (jp_lt1 hp0) (jp_ly1 hp0) dX2_between_21 h (fun v1 h => ?_)
    obtain ⟨v2, σ3, hm4, h⟩ := jbd_some h
    refine j_callN (as := [.int p2, .int v1]) (st := []) (st1 := [.int v2]) X sn_RX2_68 ⟨by decide, by decide⟩ rfl rfl (Nat.le_of_ble_eq_true rfl) rfl dX2_between_22 jrv_i (c_X11_bitOf  hm4) rfl ?_
    refine j_iload_n X 2 dX2_between_25 rfl rfl ?_
    refine j_aload_n X 0 dX2_between_26 rfl rfl ?_
    refine j_getR (t := (p0 + 2)) X fg_RX2_75 (jp_lt hp0) (jp_ly hp0) rfl dX2_between_27 ?_
    refine j_iload X dX2_between_30 rfl ?_
    refine j_iaload X (jp_lt2 hp0) (jp_ly2 hp0) dX2_between_32 h (fun v5 h => ?_)
    obtain ⟨v6, σ7, hm8, h⟩ := jbd_some h
    refine j_callN (as := [.int p2, .int v5]) (st := [.int v2]) (st1 := [.int v6, .int v2]) X sn_RX2_68 ⟨by decide, by decide⟩ rfl rfl (Nat.le_of_ble_eq_true rfl) rfl dX2_between_33 jrv_i (c_X11_bitOf  hm8) rfl ?_
    refine j_icmp_eq (tgt := 46) X dX2_between_36 (by decide) h (fun h => ?_) (fun h => ?_)
    · refine j_iinc (v := (x4 + 1)) (ls' := [some (.ref p0), some (.int p1), some (.int p2), some (.int x3), some (.int (x4 + 1))]) X dX2_between_46 rfl rfl (Nat.le_of_ble_eq_true rfl) rfl ?_
      refine j_goto (tgt := 5) X dX2_between_49 (by decide) ?_
      exact ih (x3, (x4 + 1)) σ7 _ h kk
    · refine j_iload_n X 3 dX2_between_39 rfl rfl ?_
      refine j_iconst (v := 1) X dX2_between_40 (by decide) ?_
      refine j_iload X dX2_between_41 rfl ?_
      refine j_ishl X dX2_between_43 ?_
      refine j_ior X dX2_between_44 ?_
      refine j_letI h (fun v9 h => ?_)
      refine j_istore_n (ls' := [some (.ref p0), some (.int p1), some (.int p2), some (.int v9), some (.int x4)]) X 3 dX2_between_45 rfl (Nat.le_of_ble_eq_true rfl) rfl ?_
      refine j_iinc (v := (x4 + 1)) (ls' := [some (.ref p0), some (.int p1), some (.int p2), some (.int v9), some (.int (x4 + 1))]) X dX2_between_46 rfl rfl (Nat.le_of_ble_eq_true rfl) rfl ?_
      refine j_goto (tgt := 5) X dX2_between_49 (by decide) ?_
      exact ih (v9, (x4 + 1)) σ7 _ h kk
theorem X2_between_L5_ok {K : jK} (X : JX K cX2_between 5 RX2 1 21) {p0 : Nat} {p1 : Int32} {p2 : Int32} (hp0 : jisP p0) : ∀ (n : Nat) (s : Int32 × Int32) (σ : jMem) (o : (Int32) × jMem), X2_between_L5 p0 p1 p2 n s σ = some o → (J K 52 [none, some (.int p1), none, some (.int o.1), none] [] o.2) → J K 5 [some (.ref p0), some (.int p1), some (.int p2), some (.int s.1), some (.int s.2)] [] σ := by
  intro n
  induction n with
  | zero => intro s σ o h; cases h
  | succ n ih => intro s σ o h; exact X2_between_L5_bok X hp0 ih (s.1) (s.2) σ o h
def f_X2_between (a0 : Nat) (a1 : Int32) (a2 : Int32) (σ : jMem) : Option (Int32 × jMem) :=
  jbd (X2_between_L5 (a0) (a1) (a2) jFU ((0 : Int32), (0 : Int32)) σ) (fun q10 σ11 =>
  some (((q10 &&& a1), σ11)))
set_option maxRecDepth 100000 in
set_option maxHeartbeats 4000000 in
theorem c_X2_between {l : Launch} {D : va_G} {ad : Nat → Nat} {cid : Nat → ClassId} {a0 : Nat} {a1 : Int32} {a2 : Int32} (ha0 : jisP a0) {σ : jMem} {r : Int32} {σ' : jMem} (h : f_X2_between a0 a1 a2 σ = some (r, σ')) : jMet l D ad cid yX2_between cX2_between 5 (some .int) 1 21 [.ref a0, .int a1, .int a2] σ (some (.int r)) σ' := by
  refine jMet_of (ls0 := [some (.ref a0), some (.int a1), some (.int a2), none, none]) (by decide) (Nat.le_of_ble_eq_true rfl) rfl (fun K X R0 _ => ?_)
  unfold f_X2_between at h
  refine j_iconst (v := 0) X dX2_between_0 (by decide) ?_
  refine j_istore_n (ls' := [some (.ref a0), some (.int a1), some (.int a2), some (.int (0 : Int32)), none]) X 3 dX2_between_1 rfl (Nat.le_of_ble_eq_true rfl) rfl ?_
  refine j_iconst (v := 0) X dX2_between_2 (by decide) ?_
  refine j_istore (ls' := [some (.ref a0), some (.int a1), some (.int a2), some (.int (0 : Int32)), some (.int (0 : Int32))]) X dX2_between_3 (Nat.le_of_ble_eq_true rfl) rfl ?_
  obtain ⟨q10, σ11, hL12, h⟩ := jbd_some h
  refine X2_between_L5_ok X ha0 jFU ((0 : Int32), (0 : Int32)) σ _ hL12 ?_
  refine j_iload_n X 3 dX2_between_52 rfl rfl ?_
  refine j_iload_n X 1 dX2_between_53 rfl rfl ?_
  refine j_iand X dX2_between_54 ?_
  obtain ⟨rfl, rfl⟩ := jin2 h
  exact j_iret X R0 dX2_between_55
