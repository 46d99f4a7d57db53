def X5_pathsAt_L4_b (p0 : Nat) (p1 : Int32) (rec : Int32 × Int32 → jMem → Option ((Int32) × jMem)) (x2 : Int32) (x3 : Int32) (σ : jMem) : Option ((Int32) × jMem) :=
  if (σ.1 p0 5) ≤ x3 then
  some (x2, σ)
else
  jld σ (p0 + 1) 12 x3 (fun v1 =>
  jj (fun (q3 : Unit) σ4 =>
  jlet ((x2 ||| ((1 : Int32) <<< (x3 &&& 31)))) (fun v5 =>
  rec (v5, (x3 + 1)) σ4)) (fun k2 =>
  if v1 = p1 then
  k2 () σ
else
  jld σ (p0 + 2) 12 x3 (fun v6 =>
  if ¬ v6 = p1 then
  rec (x2, (x3 + 1)) σ
else
  k2 () σ)))
def X5_pathsAt_L4 (p0 : Nat) (p1 : Int32) : Nat → Int32 × Int32 → jMem → Option ((Int32) × jMem) := jloop (fun rec s σ => X5_pathsAt_L4_b p0 p1 rec s.1 s.2 σ)
set_option maxRecDepth 100000 in
set_option maxHeartbeats 4000000 in
theorem X5_pathsAt_L4_bok {K : jK} (X : JX K cX5_pathsAt 4 RX5 0 0) {p0 : Nat} {p1 : Int32} (hp0 : jisP p0) {rec : Int32 × Int32 → jMem → Option ((Int32) × jMem)} (ih : ∀ (s : Int32 × Int32) (σ : jMem) (o : (Int32) × jMem), rec s σ = some o → (J K 44 [none, none, some (.int o.1), none] [] o.2) → J K 4 [some (.ref p0), some (.int p1), some (.int s.1), some (.int s.2)] [] σ) : ∀ (x2 : Int32) (x3 : Int32) (σ : jMem) (o : (Int32) × jMem), X5_pathsAt_L4_b p0 p1 rec x2 x3 σ = some o → (J K 44 [none, none, some (.int o.1), none] [] o.2) → J K 4 [some (.ref p0), some (.int p1), some (.int x2), some (.int x3)] [] σ := by
  intro x2 x3 σ o h kk
  unfold X5_pathsAt_L4_b at h
  refine j_iload_n X 3 dX5_pathsAt_4 rfl rfl ?_
  refine j_aload_n X 0 dX5_pathsAt_5 rfl rfl ?_
  refine j_getI X fg_RX5_41 (jp_lt hp0) (jp_ly hp0) rfl dX5_pathsAt_6 ?_
  refine j_icmp_ge (tgt := 44) X dX5_pathsAt_9 (by decide) h (fun h => ?_) (fun h => ?_)
  · obtain rfl := Option.some.inj h
    exact j_sub (ls' := [none, none, some (.int x2), none]) ⟨Or.inl rfl, Or.inl rfl, Or.inr rfl, Or.inl rfl, trivial⟩ kk
  · refine j_aload_n X 0 dX5_pathsAt_12 rfl rfl ?_
    refine j_getR (t := (p0 + 1)) X fg_RX5_15 (jp_lt hp0) (jp_ly hp0) rfl dX5_pathsAt_13 ?_
    refine j_iload_n X 3 dX5_pathsAt_16 rfl rfl ?_
    refine j_iaload X (jp_lt1 hp0) (jp_ly1 hp0) dX5_pathsAt_17 h (fun v1 h => ?_)
    refine j_iload_n X 1 dX5_pathsAt_18 rfl rfl ?_
    refine j_join (pcJ := 32) (lsJ := fun q3 => [some (.ref p0), some (.int p1), some (.int x2), some (.int x3)]) (stJ := fun q3 => []) h (fun q3 σ4 h => ?_) (fun k2 hk2 h => ?_)
    · refine j_iload_n X 2 dX5_pathsAt_32 rfl rfl ?_
      refine j_iconst (v := 1) X dX5_pathsAt_33 (by decide) ?_
      refine j_iload_n X 3 dX5_pathsAt_34 rfl rfl ?_
      refine j_ishl X dX5_pathsAt_35 ?_
      refine j_ior X dX5_pathsAt_36 ?_
      refine j_letI h (fun v5 h => ?_)
      refine j_istore_n (ls' := [some (.ref p0), some (.int p1), some (.int v5), some (.int x3)]) X 2 dX5_pathsAt_37 rfl (Nat.le_of_ble_eq_true rfl) rfl ?_
      refine j_iinc (v := (x3 + 1)) (ls' := [some (.ref p0), some (.int p1), some (.int v5), some (.int (x3 + 1))]) X dX5_pathsAt_38 rfl rfl (Nat.le_of_ble_eq_true rfl) rfl ?_
      refine j_goto (tgt := 4) X dX5_pathsAt_41 (by decide) ?_
      exact ih (v5, (x3 + 1)) σ4 _ h kk
    · refine j_icmp_eq (tgt := 32) X dX5_pathsAt_19 (by decide) h (fun h => ?_) (fun h => ?_)
      · exact hk2 () σ h
      · refine j_aload_n X 0 dX5_pathsAt_22 rfl rfl ?_
        refine j_getR (t := (p0 + 2)) X fg_RX5_19 (jp_lt hp0) (jp_ly hp0) rfl dX5_pathsAt_23 ?_
        refine j_iload_n X 3 dX5_pathsAt_26 rfl rfl ?_
        refine j_iaload X (jp_lt2 hp0) (jp_ly2 hp0) dX5_pathsAt_27 h (fun v6 h => ?_)
        refine j_iload_n X 1 dX5_pathsAt_28 rfl rfl ?_
        refine j_icmp_ne (tgt := 38) X dX5_pathsAt_29 (by decide) h (fun h => ?_) (fun h => ?_)
        · refine j_iinc (v := (x3 + 1)) (ls' := [some (.ref p0), some (.int p1), some (.int x2), some (.int (x3 + 1))]) X dX5_pathsAt_38 rfl rfl (Nat.le_of_ble_eq_true rfl) rfl ?_
          refine j_goto (tgt := 4) X dX5_pathsAt_41 (by decide) ?_
          exact ih (x2, (x3 + 1)) σ _ h kk
        · exact hk2 () σ h
theorem X5_pathsAt_L4_ok {K : jK} (X : JX K cX5_pathsAt 4 RX5 0 0) {p0 : Nat} {p1 : Int32} (hp0 : jisP p0) : ∀ (n : Nat) (s : Int32 × Int32) (σ : jMem) (o : (Int32) × jMem), X5_pathsAt_L4 p0 p1 n s σ = some o → (J K 44 [none, none, some (.int o.1), none] [] o.2) → J K 4 [some (.ref p0), some (.int p1), some (.int s.1), some (.int s.2)] [] σ := by
  intro n
  induction n with
  | zero => intro s σ o h; cases h
  | succ n ih => intro s σ o h; exact X5_pathsAt_L4_bok X hp0 ih (s.1) (s.2) σ o h
def f_X5_pathsAt (k : Nat) (a0 : Int32) (σ : jMem) : Option (Int32 × jMem) :=
  jbd (X5_pathsAt_L4 (k) (a0) jFU ((0 : Int32), (0 : Int32)) σ) (fun q7 σ8 =>
  some ((q7, σ8)))
set_option maxRecDepth 100000 in
set_option maxHeartbeats 4000000 in
theorem c_X5_pathsAt {l : Launch} {D : va_G} {ad : Nat → Nat} {cid : Nat → ClassId} {k : Nat} {a0 : Int32} (hk : jisP k) {σ : jMem} {r : Int32} {σ' : jMem} (h : f_X5_pathsAt k a0 σ = some (r, σ')) : jMet l D ad cid yX5_pathsAt cX5_pathsAt 4 (some .int) 0 0 [.ref k, .int a0] σ (some (.int r)) σ' := by
  refine jMet_of (ls0 := [some (.ref k), some (.int a0), none, none]) (by decide) (Nat.le_of_ble_eq_true rfl) rfl (fun K X R0 _ => ?_)
  unfold f_X5_pathsAt at h
  refine j_iconst (v := 0) X dX5_pathsAt_0 (by decide) ?_
  refine j_istore_n (ls' := [some (.ref k), some (.int a0), some (.int (0 : Int32)), none]) X 2 dX5_pathsAt_1 rfl (Nat.le_of_ble_eq_true rfl) rfl ?_
  refine j_iconst (v := 0) X dX5_pathsAt_2 (by decide) ?_
  refine j_istore_n (ls' := [some (.ref k), some (.int a0), some (.int (0 : Int32)), some (.int (0 : Int32))]) X 3 dX5_pathsAt_3 rfl (Nat.le_of_ble_eq_true rfl) rfl ?_
  obtain ⟨q7, σ8, hL9, h⟩ := jbd_some h
  refine X5_pathsAt_L4_ok X hk jFU ((0 : Int32), (0 : Int32)) σ _ hL9 ?_
  refine j_iload_n X 2 dX5_pathsAt_44 rfl rfl ?_
  obtain ⟨rfl, rfl⟩ := jin2 h
  exact j_iret X R0 dX5_pathsAt_45
theorem sv_RX5_66 : jSiV RX5 66 yX5_pathsAt cX5_pathsAt 4 (some .int) 1 := ⟨tw_421, tw_422, tw_423, tw_10, tw_424, by decide, by decide, by decide +kernel⟩
def f_X5_isJoined (k : Nat) (a0 : Int32) (a1 : Int32) (σ : jMem) : Option (Int32 × jMem) :=
  jbd (f_X5_pathsAt k a0 σ) (fun v1 σ2 =>
  jbd (f_X5_pathsAt k a1 σ2) (fun v4 σ5 =>
  if (v1 &&& v4) = 0 then
  some (((0 : Int32), σ5))
else
  some (((1 : Int32), σ5))))
set_option maxRecDepth 100000 in
set_option maxHeartbeats 4000000 in
theorem c_X5_isJoined {l : Launch} {D : va_G} {ad : Nat → Nat} {cid : Nat → ClassId} {k : Nat} {a0 : Int32} {a1 : Int32} (hk : jisP k) {σ : jMem} {r : Int32} {σ' : jMem} (h : f_X5_isJoined k a0 a1 σ = some (r, σ')) : jMet l D ad cid yX5_isJoined cX5_isJoined 3 (some .boolean) 1 23 [.ref k, .int a0, .int a1] σ (some (.int r)) σ' := by
  refine jMet_of (ls0 := [some (.ref k), some (.int a0), some (.int a1)]) (by decide) (Nat.le_of_ble_eq_true rfl) rfl (fun K X R0 _ => ?_)
  unfold f_X5_isJoined at h
  refine j_aload_n X 0 dX5_isJoined_0 rfl rfl ?_
  refine j_iload_n X 1 dX5_isJoined_1 rfl rfl ?_
  obtain ⟨v1, σ2, hm3, h⟩ := jbd_some h
  refine j_callV (as := [.int a0]) (st := []) (st1 := [.int v1]) X (jp_lt hk) (jp_ly hk) rfl rfl sv_RX5_66 ⟨by decide, by decide⟩ rfl rfl (Nat.le_of_ble_eq_true rfl) rfl dX5_isJoined_2 jrv_i (c_X5_pathsAt hk hm3) rfl ?_
  refine j_aload_n X 0 dX5_isJoined_5 rfl rfl ?_
  refine j_iload_n X 2 dX5_isJoined_6 rfl rfl ?_
  obtain ⟨v4, σ5, hm6, h⟩ := jbd_some h
  refine j_callV (as := [.int a1]) (st := [.int v1]) (st1 := [.int v4, .int v1]) X (jp_lt hk) (jp_ly hk) rfl rfl sv_RX5_66 ⟨by decide, by decide⟩ rfl rfl (Nat.le_of_ble_eq_true rfl) rfl dX5_isJoined_7 jrv_i (c_X5_pathsAt hk hm6) rfl ?_
  refine j_iand X dX5_isJoined_10 ?_
  refine j_if_eq (tgt := 18) X dX5_isJoined_11 (by decide) h (fun h => ?_) (fun h => ?_)
  · refine j_iconst (v := 0) X dX5_isJoined_18 (by decide) ?_
    obtain ⟨rfl, rfl⟩ := jin2 h
    exact j_zret X R0 rfl dX5_isJoined_19
  · refine j_iconst (v := 1) X dX5_isJoined_14 (by decide) ?_
    refine j_goto (tgt := 19) X dX5_isJoined_15 (by decide) ?_
    obtain ⟨rfl, rfl⟩ := jin2 h
    exact j_zret X R0 rfl dX5_isJoined_19
