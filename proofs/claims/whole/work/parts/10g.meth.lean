def f_X8_sees (w : Nat) (a0 : Nat) (a1 : Int32) (σ : jMem) : Option (Int32 × jMem) :=
  some (((σ.1 80 1), σ))
set_option maxRecDepth 100000 in
set_option maxHeartbeats 4000000 in
theorem c_X8_sees {l : Launch} {D : va_G} {ad : Nat → Nat} {cid : Nat → ClassId} {w : Nat} {a0 : Nat} {a1 : Int32} (hw : 20 ≤ w ∧ w ≤ 21) (ha0 : jisP a0) {σ : jMem} {r : Int32} {σ' : jMem} (h : f_X8_sees w a0 a1 σ = some (r, σ')) : jMet l D ad cid yX8_sees cX8_sees 4 (some .int) 0 0 [.ref w, .ref a0, .int a1, .ref 80] σ (some (.int r)) σ' := by
  refine jMet_of (ls0 := [some (.ref w), some (.ref a0), some (.int a1), some (.ref 80)]) (by decide) (Nat.le_of_ble_eq_true rfl) rfl (fun K X R0 _ => ?_)
  unfold f_X8_sees at h
  refine j_aload_n X 3 dX8_sees_0 rfl rfl ?_
  refine j_getI X fg_RX8_7 ln_80 ly_80 rfl dX8_sees_1 ?_
  obtain ⟨rfl, rfl⟩ := jin2 h
  exact j_iret X R0 dX8_sees_4
def f_X7_sees (w : Nat) (a0 : Nat) (a1 : Int32) (σ : jMem) : Option (Int32 × jMem) :=
  some (((σ.1 80 2), σ))
set_option maxRecDepth 100000 in
set_option maxHeartbeats 4000000 in
theorem c_X7_sees {l : Launch} {D : va_G} {ad : Nat → Nat} {cid : Nat → ClassId} {w : Nat} {a0 : Nat} {a1 : Int32} (hw : 21 ≤ w ∧ w ≤ 21) (ha0 : jisP a0) {σ : jMem} {r : Int32} {σ' : jMem} (h : f_X7_sees w a0 a1 σ = some (r, σ')) : jMet l D ad cid yX7_sees cX7_sees 4 (some .int) 0 0 [.ref w, .ref a0, .int a1, .ref 80] σ (some (.int r)) σ' := by
  refine jMet_of (ls0 := [some (.ref w), some (.ref a0), some (.int a1), some (.ref 80)]) (by decide) (Nat.le_of_ble_eq_true rfl) rfl (fun K X R0 _ => ?_)
  unfold f_X7_sees at h
  refine j_aload_n X 3 dX7_sees_0 rfl rfl ?_
  refine j_getI X fg_RX7_7 ln_80 ly_80 rfl dX7_sees_1 ?_
  obtain ⟨rfl, rfl⟩ := jin2 h
  exact j_iret X R0 dX7_sees_4
def vf_X10_sees (w : Nat) (a0 : Nat) (a1 : Int32) (σ : jMem) : Option (Int32 × jMem) :=
  if w = 16 then f_X10_sees 16 a0 a1 σ else
  if w = 17 then f_X4_sees 17 a0 a1 σ else
  if w = 18 then f_X1_sees 18 a0 a1 σ else
  if w = 19 then f_X3_sees 19 a0 a1 σ else
  if w = 20 then f_X8_sees 20 a0 a1 σ else
  if w = 21 then f_X7_sees 21 a0 a1 σ else
  none
theorem su_RX5_93_16 : jSiU RX5 93 RX10 yX10_sees yX10_sees cX10_sees 4 (some .int) 3 := ⟨tw_537, tw_540, tw_538, ⟨_, _, _, tw_560⟩, tw_539, tw_538, tw_4, tw_560, by decide, by decide, by decide +kernel⟩
theorem su_RX5_93_17 : jSiU RX5 93 RX4 yX10_sees yX4_sees cX4_sees 4 (some .int) 3 := ⟨tw_537, tw_540, tw_538, ⟨_, _, _, tw_560⟩, tw_553, tw_545, tw_5, tw_546, by decide, by decide, by decide +kernel⟩
theorem su_RX5_93_18 : jSiU RX5 93 RX1 yX10_sees yX1_sees cX1_sees 5 (some .int) 3 := ⟨tw_537, tw_540, tw_538, ⟨_, _, _, tw_560⟩, tw_541, tw_542, tw_6, tw_543, by decide, by decide, by decide +kernel⟩
theorem su_RX5_93_19 : jSiU RX5 93 RX3 yX10_sees yX3_sees cX3_sees 5 (some .int) 3 := ⟨tw_537, tw_540, tw_538, ⟨_, _, _, tw_560⟩, tw_548, tw_549, tw_7, tw_550, by decide, by decide, by decide +kernel⟩
theorem su_RX5_93_20 : jSiU RX5 93 RX8 yX10_sees yX8_sees cX8_sees 4 (some .int) 3 := ⟨tw_537, tw_540, tw_538, ⟨_, _, _, tw_560⟩, tw_557, tw_558, tw_8, tw_559, by decide, by decide, by decide +kernel⟩
theorem su_RX5_93_21 : jSiU RX5 93 RX7 yX10_sees yX7_sees cX7_sees 4 (some .int) 3 := ⟨tw_537, tw_540, tw_538, ⟨_, _, _, tw_560⟩, tw_554, tw_555, tw_9, tw_556, by decide, by decide, by decide +kernel⟩
set_option maxRecDepth 100000 in
theorem vs_X5_seenBy_27 {K : jK} (X : JX K cX5_seenBy 3 RX5 3 70) {w : Nat} (hw : 16 ≤ w ∧ w ≤ 21) {a0 : Nat} {a1 : Int32} (h0 : jisP a0) {ls : List (Option Value)} {st : List Value} {σ σ' : jMem} {v : Int32} (hnl : ls.length = 3) (h8 : (st.map fun v => v.category).sum ≤ 8) (hm : vf_X10_sees w a0 a1 σ = some (v, σ')) (kk : J K (27 + 3) ls (.int v :: st) σ') : J K 27 ls (.ref 80 :: .int a1 :: .ref a0 :: .ref w :: st) σ := by
  rcases (show w = 16 ∨ w = 17 ∨ w = 18 ∨ w = 19 ∨ w = 20 ∨ w = 21 by omega) with rfl | rfl | rfl | rfl | rfl | rfl
  · exact j_callU (as := [.ref a0, .int a1, .ref 80]) (st := st) (st1 := .int v :: st) X ln_16 ly_16 rfl su_RX5_93_16 ⟨by decide, by decide⟩ rfl rfl h8 hnl dX5_seenBy_27 jrv_i (c_X10_sees (by decide) h0 hm) rfl kk
  · exact j_callU (as := [.ref a0, .int a1, .ref 80]) (st := st) (st1 := .int v :: st) X ln_17 ly_17 rfl su_RX5_93_17 ⟨by decide, by decide⟩ rfl rfl h8 hnl dX5_seenBy_27 jrv_i (c_X4_sees (by decide) h0 hm) rfl kk
  · exact j_callU (as := [.ref a0, .int a1, .ref 80]) (st := st) (st1 := .int v :: st) X ln_18 ly_18 rfl su_RX5_93_18 ⟨by decide, by decide⟩ rfl rfl h8 hnl dX5_seenBy_27 jrv_i (c_X1_sees (by decide) h0 hm) rfl kk
  · exact j_callU (as := [.ref a0, .int a1, .ref 80]) (st := st) (st1 := .int v :: st) X ln_19 ly_19 rfl su_RX5_93_19 ⟨by decide, by decide⟩ rfl rfl h8 hnl dX5_seenBy_27 jrv_i (c_X3_sees (by decide) h0 hm) rfl kk
  · exact j_callU (as := [.ref a0, .int a1, .ref 80]) (st := st) (st1 := .int v :: st) X ln_20 ly_20 rfl su_RX5_93_20 ⟨by decide, by decide⟩ rfl rfl h8 hnl dX5_seenBy_27 jrv_i (c_X8_sees (by decide) h0 hm) rfl kk
  · exact j_callU (as := [.ref a0, .int a1, .ref 80]) (st := st) (st1 := .int v :: st) X ln_21 ly_21 rfl su_RX5_93_21 ⟨by decide, by decide⟩ rfl rfl h8 hnl dX5_seenBy_27 jrv_i (c_X7_sees (by decide) h0 hm) rfl kk
def f_X5_seenBy (k : Nat) (a0 : Int32) (σ : jMem) : Option (Int32 × jMem) :=
  jbd (f_X5_isAlive k a0 σ) (fun v1 σ2 =>
  if v1 = 0 then
  some (((0 : Int32), σ2))
else
  jld σ2 (k + 4) 6 a0 (fun v4 =>
  jldr 6 16 1 v4 (fun k5 =>
  jld σ2 (k + 5) 6 a0 (fun v6 =>
  jbd (vf_X10_sees k5 k v6  σ2) (fun v7 σ8 =>
  some ((v7, σ8)))))))
set_option maxRecDepth 100000 in
set_option maxHeartbeats 4000000 in
theorem c_X5_seenBy {l : Launch} {D : va_G} {ad : Nat → Nat} {cid : Nat → ClassId} {k : Nat} {a0 : Int32} (hk : jisP k) {σ : jMem} {r : Int32} {σ' : jMem} (h : f_X5_seenBy k a0 σ = some (r, σ')) : jMet l D ad cid yX5_seenBy cX5_seenBy 3 (some .int) 3 70 [.ref k, .int a0, .ref 80] σ (some (.int r)) σ' := by
  refine jMet_of (ls0 := [some (.ref k), some (.int a0), some (.ref 80)]) (by decide) (Nat.le_of_ble_eq_true rfl) rfl (fun K X R0 _ => ?_)
  unfold f_X5_seenBy at h
  refine j_aload_n X 0 dX5_seenBy_0 rfl rfl ?_
  refine j_iload_n X 1 dX5_seenBy_1 rfl rfl ?_
  obtain ⟨v1, σ2, hm3, h⟩ := jbd_some h
  refine j_callV (as := [.int a0]) (st := []) (st1 := [.int v1]) X (jp_lt hk) (jp_ly hk) rfl rfl sv_RX5_79 ⟨by decide, by decide⟩ rfl rfl (Nat.le_of_ble_eq_true rfl) rfl dX5_seenBy_2 jrv_i (c_X5_isAlive hk hm3) rfl ?_
  refine j_if_eq (tgt := 33) X dX5_seenBy_5 (by decide) h (fun h => ?_) (fun h => ?_)
  · refine j_iconst (v := 0) X dX5_seenBy_33 (by decide) ?_
    obtain ⟨rfl, rfl⟩ := jin2 h
    exact j_iret X R0 dX5_seenBy_34
  · refine j_aload_n X 0 dX5_seenBy_8 rfl rfl ?_
    refine j_getR (t := 15) X fg_RX5_9 (jp_lt hk) (jp_ly hk) rfl dX5_seenBy_9 ?_
    refine j_aload_n X 0 dX5_seenBy_12 rfl rfl ?_
    refine j_getR (t := (k + 4)) X fg_RX5_25 (jp_lt hk) (jp_ly hk) rfl dX5_seenBy_13 ?_
    refine j_iload_n X 1 dX5_seenBy_16 rfl rfl ?_
    refine j_iaload X (jp_lt4 hk) (jp_ly4 hk) dX5_seenBy_17 h (fun v4 h => ?_)
    refine j_aaload X ln_15 ly_15 (Or.inl rfl) dX5_seenBy_18 h (fun k5 qk5 h => ?_)
    have hk5 := jrow6 qk5
    refine j_aload_n X 0 dX5_seenBy_19 rfl rfl ?_
    refine j_aload_n X 0 dX5_seenBy_20 rfl rfl ?_
    refine j_getR (t := (k + 5)) X fg_RX5_28 (jp_lt hk) (jp_ly hk) rfl dX5_seenBy_21 ?_
    refine j_iload_n X 1 dX5_seenBy_24 rfl rfl ?_
    refine j_iaload X (jp_lt5 hk) (jp_ly5 hk) dX5_seenBy_25 h (fun v6 h => ?_)
    refine j_aload_n X 2 dX5_seenBy_26 rfl rfl ?_
    obtain ⟨v7, σ8, hm9, h⟩ := jbd_some h
    refine vs_X5_seenBy_27 (st := []) X hk5 hk rfl (Nat.le_of_ble_eq_true rfl) hm9 ?_
    refine j_goto (tgt := 34) X dX5_seenBy_30 (by decide) ?_
    obtain ⟨rfl, rfl⟩ := jin2 h
    exact j_iret X R0 dX5_seenBy_34
theorem sv_RX5_97 : jSiV RX5 97 yX5_seenBy cX5_seenBy 3 (some .int) 2 := ⟨tw_517, tw_518, tw_519, tw_10, tw_520, by decide, by decide, by decide +kernel⟩
def X5_see_L2_b (p0 : Nat) (rec : Int32 → jMem → Option ((Unit) × jMem)) (x2 : Int32) (σ : jMem) : Option ((Unit) × jMem) :=
  if (σ.1 p0 6) ≤ x2 then
  some ((), σ)
else
  jld σ (p0 + 7) 6 x2 (fun v1 =>
  jbd (f_X5_seenBy p0 x2 σ) (fun v2 σ3 =>
  jst σ3 (p0 + 7) 6 x2 (v1 ||| v2) (fun σ5 =>
  rec (x2 + 1) σ5)))
def X5_see_L2 (p0 : Nat) : Nat → Int32 → jMem → Option ((Unit) × jMem) := jloop (fun rec s σ => X5_see_L2_b p0 rec s σ)
set_option maxRecDepth 100000 in
set_option maxHeartbeats 4000000 in
theorem X5_see_L2_bok {K : jK} (X : JX K cX5_see 3 RX5 4 92) {p0 : Nat} (hp0 : jisP p0) {rec : Int32 → jMem → Option ((Unit) × jMem)} (ih : ∀ (s : Int32) (σ : jMem) (o : (Unit) × jMem), rec s σ = some o → (J K 31 [none, none, none] [] o.2) → J K 2 [some (.ref p0), some (.ref 80), some (.int s)] [] σ) : ∀ (x2 : Int32) (σ : jMem) (o : (Unit) × jMem), X5_see_L2_b p0 rec x2 σ = some o → (J K 31 [none, none, none] [] o.2) → J K 2 [some (.ref p0), some (.ref 80), some (.int x2)] [] σ := by
  intro x2 σ o h kk
  unfold X5_see_L2_b at h
  refine j_iload_n X 2 dX5_see_2 rfl rfl ?_
  refine j_aload_n X 0 dX5_see_3 rfl rfl ?_
  refine j_getI X fg_RX5_44 (jp_lt hp0) (jp_ly hp0) rfl dX5_see_4 ?_
  refine j_icmp_ge (tgt := 31) X dX5_see_7 (by decide) h (fun h => ?_) (fun h => ?_)
  · obtain rfl := Option.some.inj h
    exact j_sub (ls' := [none, none, none]) ⟨Or.inl rfl, Or.inl rfl, Or.inl rfl, trivial⟩ kk
  · refine j_aload_n X 0 dX5_see_10 rfl rfl ?_
    refine j_getR (t := (p0 + 7)) X fg_RX5_34 (jp_lt hp0) (jp_ly hp0) rfl dX5_see_11 ?_
    refine j_iload_n X 2 dX5_see_14 rfl rfl ?_
    refine j_dup2 X dX5_see_15 rfl rfl ?_
    refine j_iaload X (jp_lt7 hp0) (jp_ly7 hp0) dX5_see_16 h (fun v1 h => ?_)
    refine j_aload_n X 0 dX5_see_17 rfl rfl ?_
    refine j_iload_n X 2 dX5_see_18 rfl rfl ?_
    refine j_aload_n X 1 dX5_see_19 rfl rfl ?_
    obtain ⟨v2, σ3, hm4, h⟩ := jbd_some h
    refine j_callV (as := [.int x2, .ref 80]) (st := [.int v1, .int x2, .ref (p0 + 7)]) (st1 := [.int v2, .int v1, .int x2, .ref (p0 + 7)]) X (jp_lt hp0) (jp_ly hp0) rfl rfl sv_RX5_97 ⟨by decide, by decide⟩ rfl rfl (Nat.le_of_ble_eq_true rfl) rfl dX5_see_20 jrv_i (c_X5_seenBy hp0 hm4) rfl ?_
    refine j_ior X dX5_see_23 ?_
    refine j_iastore X (jp_lt7 hp0) (jp_ly7 hp0) dX5_see_24 h (fun σ5 h => ?_)
    refine j_iinc (v := (x2 + 1)) (ls' := [some (.ref p0), some (.ref 80), some (.int (x2 + 1))]) X dX5_see_25 rfl rfl (Nat.le_of_ble_eq_true rfl) rfl ?_
    refine j_goto (tgt := 2) X dX5_see_28 (by decide) ?_
    exact ih (x2 + 1) σ5 _ h kk
theorem X5_see_L2_ok {K : jK} (X : JX K cX5_see 3 RX5 4 92) {p0 : Nat} (hp0 : jisP p0) : ∀ (n : Nat) (s : Int32) (σ : jMem) (o : (Unit) × jMem), X5_see_L2 p0 n s σ = some o → (J K 31 [none, none, none] [] o.2) → J K 2 [some (.ref p0), some (.ref 80), some (.int s)] [] σ := by
  intro n
  induction n with
  | zero => intro s σ o h; cases h
  | succ n ih => intro s σ o h; exact X5_see_L2_bok X hp0 ih (s) σ o h
def f_X5_see (k : Nat) (σ : jMem) : Option jMem :=
  jbd (X5_see_L2 (k) jFU (0 : Int32) σ) (fun q6 σ7 =>
  some σ7)
set_option maxRecDepth 100000 in
set_option maxHeartbeats 4000000 in
theorem c_X5_see {l : Launch} {D : va_G} {ad : Nat → Nat} {cid : Nat → ClassId} {k : Nat} (hk : jisP k) {σ : jMem} {σ' : jMem} (h : f_X5_see k σ = some σ') : jMet l D ad cid yX5_see cX5_see 3 none 4 92 [.ref k, .ref 80] σ none σ' := by
  refine jMet_of (ls0 := [some (.ref k), some (.ref 80), none]) (by decide) (Nat.le_of_ble_eq_true rfl) rfl (fun K X R0 _ => ?_)
  unfold f_X5_see at h
  refine j_iconst (v := 0) X dX5_see_0 (by decide) ?_
  refine j_istore_n (ls' := [some (.ref k), some (.ref 80), some (.int (0 : Int32))]) X 2 dX5_see_1 rfl (Nat.le_of_ble_eq_true rfl) rfl ?_
  obtain ⟨q6, σ7, hL8, h⟩ := jbd_some h
  refine X5_see_L2_ok X hk jFU (0 : Int32) σ _ hL8 ?_
  obtain rfl := Option.some.inj h
  exact j_vret X R0 dX5_see_31
def f_X5_save (k : Nat) (a0 : Nat) (σ : jMem) : Option jMem :=
  jst σ a0 14 (0 : Int32) (σ.1 k 4) (fun σ1 =>
  jst σ1 a0 14 (1 : Int32) (σ1.1 k 7) (fun σ2 =>
  jcp σ2 (k + 6) 6 (0 : Int32) a0 14 (2 : Int32) (6 : Int32) (fun σ3 =>
  jcp σ3 (k + 7) 6 (0 : Int32) a0 14 (8 : Int32) (6 : Int32) (fun σ4 =>
  some σ4))))
set_option maxRecDepth 100000 in
set_option maxHeartbeats 4000000 in
theorem c_X5_save {l : Launch} {D : va_G} {ad : Nat → Nat} {cid : Nat → ClassId} {k : Nat} {a0 : Nat} (hk : jisP k) (ha0 : a0 < jN ∧ jL a0 = (1, 14, [])) {σ : jMem} {σ' : jMem} (h : f_X5_save k a0 σ = some σ') : jMet l D ad cid yX5_save cX5_save 2 none 1 36 [.ref k, .ref a0] σ none σ' := by
  refine jMet_of (ls0 := [some (.ref k), some (.ref a0)]) (by decide) (Nat.le_of_ble_eq_true rfl) rfl (fun K X R0 _ => ?_)
  unfold f_X5_save at h
  refine j_aload_n X 1 dX5_save_0 rfl rfl ?_
  refine j_iconst (v := 0) X dX5_save_1 (by decide) ?_
  refine j_aload_n X 0 dX5_save_2 rfl rfl ?_
  refine j_getI X fg_RX5_37 (jp_lt hk) (jp_ly hk) rfl dX5_save_3 ?_
  refine j_iastore X ha0.1 ha0.2 dX5_save_6 h (fun σ1 h => ?_)
  refine j_aload_n X 1 dX5_save_7 rfl rfl ?_
  refine j_iconst (v := 1) X dX5_save_8 (by decide) ?_
  refine j_aload_n X 0 dX5_save_9 rfl rfl ?_
  refine j_getI X fg_RX5_47 (jp_lt hk) (jp_ly hk) rfl dX5_save_10 ?_
  refine j_iastore X ha0.1 ha0.2 dX5_save_13 h (fun σ2 h => ?_)
  refine j_aload_n X 0 dX5_save_14 rfl rfl ?_
  refine j_getR (t := (k + 6)) X fg_RX5_31 (jp_lt hk) (jp_ly hk) rfl dX5_save_15 ?_
  refine j_iconst (v := 0) X dX5_save_18 (by decide) ?_
  refine j_aload_n X 1 dX5_save_19 rfl rfl ?_
  refine j_iconst (v := 2) X dX5_save_20 (by decide) ?_
  refine j_bipush (v := 6) X dX5_save_21 (by decide) ?_
  refine j_copy X tw_445 tw_360 tw_359 tw_14 rfl (jp_lt6 hk) (jp_ly6 hk) ha0.1 ha0.2 (Nat.le_of_ble_eq_true rfl) (Nat.le_of_ble_eq_true rfl) dX5_save_23 h (fun σ3 h => ?_)
  refine j_aload_n X 0 dX5_save_26 rfl rfl ?_
  refine j_getR (t := (k + 7)) X fg_RX5_34 (jp_lt hk) (jp_ly hk) rfl dX5_save_27 ?_
  refine j_iconst (v := 0) X dX5_save_30 (by decide) ?_
  refine j_aload_n X 1 dX5_save_31 rfl rfl ?_
  refine j_bipush (v := 8) X dX5_save_32 (by decide) ?_
  refine j_bipush (v := 6) X dX5_save_34 (by decide) ?_
  refine j_copy X tw_445 tw_360 tw_359 tw_14 rfl (jp_lt7 hk) (jp_ly7 hk) ha0.1 ha0.2 (Nat.le_of_ble_eq_true rfl) (Nat.le_of_ble_eq_true rfl) dX5_save_36 h (fun σ4 h => ?_)
  obtain rfl := Option.some.inj h
  exact j_vret X R0 dX5_save_39
theorem sv_RX11_350 : jSiV RX11 350 yX5_save cX5_save 2 none 1 := ⟨tw_506, tw_507, tw_508, tw_10, tw_509, by decide, by decide, by decide +kernel⟩
def f_X11_keepAct  (σ : jMem) : Option jMem :=
  jldr 24 56 1 (σ.1 0 8) (fun k1 =>
  jbv (f_X5_save 22 k1 σ) (fun σ2 =>
  jlet (jset σ2 0 8 (((σ2.1 0 8) + (1 : Int32)) - ((σ2.1 0 8) + (1 : Int32)) / (24 : Int32) * (24 : Int32))) (fun σ4 =>
  jlet (jset σ4 0 7 (if (24 : Int32) < ((σ4.1 0 7) + (1 : Int32)) then (24 : Int32) else ((σ4.1 0 7) + (1 : Int32)))) (fun σ5 =>
  some σ5))))
set_option maxRecDepth 100000 in
set_option maxHeartbeats 4000000 in
theorem c_X11_keepAct {l : Launch} {D : va_G} {ad : Nat → Nat} {cid : Nat → ClassId}   {σ : jMem} {σ' : jMem} (h : f_X11_keepAct  σ = some σ') : jMet l D ad cid yX11_keepAct cX11_keepAct 1 none 2 57 [.ref 0] σ none σ' := by
  refine jMet_of (ls0 := [some (.ref 0)]) (by decide) (Nat.le_of_ble_eq_true rfl) rfl (fun K X R0 _ => ?_)
  unfold f_X11_keepAct at h
  refine j_aload_n X 0 dX11_keepAct_0 rfl rfl ?_
  refine j_getR (t := 22) X fg_RX11_50 ln_0 ly_0 rfl dX11_keepAct_1 ?_
  refine j_aload_n X 0 dX11_keepAct_4 rfl rfl ?_
  refine j_getR (t := 55) X fg_RX11_63 ln_0 ly_0 rfl dX11_keepAct_5 ?_
  refine j_aload_n X 0 dX11_keepAct_8 rfl rfl ?_
  refine j_getI X fg_RX11_163 ln_0 ly_0 rfl dX11_keepAct_9 ?_
  refine j_aaload X ln_55 ly_55 (Or.inr (Or.inr rfl)) dX11_keepAct_12 h (fun k1 qk1 h => ?_)
  have hk1 := jrow24 qk1
  obtain ⟨σ2, hm3, h⟩ := jbv_some h
  refine j_callV (as := [.ref k1]) (st := []) (st1 := []) X ln_22 ly_22 rfl rfl sv_RX11_350 ⟨by decide, by decide⟩ rfl rfl (Nat.le_of_ble_eq_true rfl) rfl dX11_keepAct_13 jrv_v (c_X5_save jisP_22 ⟨hk1.1, hk1.2⟩ hm3) rfl ?_
  refine j_aload_n X 0 dX11_keepAct_16 rfl rfl ?_
  refine j_aload_n X 0 dX11_keepAct_17 rfl rfl ?_
  refine j_getI X fg_RX11_163 ln_0 ly_0 rfl dX11_keepAct_18 ?_
  refine j_iconst (v := 1) X dX11_keepAct_21 (by decide) ?_
  refine j_iadd X dX11_keepAct_22 ?_
  refine j_bipush (v := 24) X dX11_keepAct_23 (by decide) ?_
  refine j_irem X dX11_keepAct_25 (by decide) ?_
  refine j_put X fp_RX11_163 ln_0 ly_0 rfl rfl rfl dX11_keepAct_26 h (fun σ4 h => ?_)
  refine j_aload_n X 0 dX11_keepAct_29 rfl rfl ?_
  refine j_aload_n X 0 dX11_keepAct_30 rfl rfl ?_
  refine j_getI X fg_RX11_159 ln_0 ly_0 rfl dX11_keepAct_31 ?_
  refine j_iconst (v := 1) X dX11_keepAct_34 (by decide) ?_
  refine j_iadd X dX11_keepAct_35 ?_
  refine j_bipush (v := 24) X dX11_keepAct_36 (by decide) ?_
  refine j_mmin X tw_510 tw_511 tw_15 tw_512 rfl (Nat.le_of_ble_eq_true rfl) (Nat.le_of_ble_eq_true rfl) dX11_keepAct_38 ?_
  refine j_put X fp_RX11_159 ln_0 ly_0 rfl rfl rfl dX11_keepAct_41 h (fun σ5 h => ?_)
  obtain rfl := Option.some.inj h
  exact j_vret X R0 dX11_keepAct_44
