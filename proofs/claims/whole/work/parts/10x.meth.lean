def vf_X10_keeps (w : Nat) (a0 : Int32) (a1 : Int32) (σ : jMem) : Option (Int32 × jMem) :=
  if w = 16 then f_X10_keeps 16 a0 a1 σ else
  if w = 17 then f_X10_keeps 17 a0 a1 σ else
  if w = 18 then f_X10_keeps 18 a0 a1 σ else
  if w = 19 then f_X10_keeps 19 a0 a1 σ else
  if w = 20 then f_X8_keeps 20 a0 a1 σ else
  if w = 21 then f_X7_keeps 21 a0 a1 σ else
  none
theorem su_RX5_101_16 : jSiU RX5 101 RX10 yX10_keeps yX10_keeps cX10_keeps 3 (some .int) 2 := ⟨tw_582, tw_585, tw_583, ⟨_, _, _, tw_595⟩, tw_584, tw_583, tw_4, tw_595, by decide, by decide, by decide +kernel⟩
theorem su_RX5_101_17 : jSiU RX5 101 RX4 yX10_keeps yX10_keeps cX10_keeps 3 (some .int) 2 := ⟨tw_582, tw_585, tw_583, ⟨_, _, _, tw_595⟩, tw_588, tw_583, tw_4, tw_595, by decide, by decide, by decide +kernel⟩
theorem su_RX5_101_18 : jSiU RX5 101 RX1 yX10_keeps yX10_keeps cX10_keeps 3 (some .int) 2 := ⟨tw_582, tw_585, tw_583, ⟨_, _, _, tw_595⟩, tw_586, tw_583, tw_4, tw_595, by decide, by decide, by decide +kernel⟩
theorem su_RX5_101_19 : jSiU RX5 101 RX3 yX10_keeps yX10_keeps cX10_keeps 3 (some .int) 2 := ⟨tw_582, tw_585, tw_583, ⟨_, _, _, tw_595⟩, tw_587, tw_583, tw_4, tw_595, by decide, by decide, by decide +kernel⟩
theorem su_RX5_101_20 : jSiU RX5 101 RX8 yX10_keeps yX8_keeps cX8_keeps 3 (some .int) 2 := ⟨tw_582, tw_585, tw_583, ⟨_, _, _, tw_595⟩, tw_592, tw_593, tw_8, tw_594, by decide, by decide, by decide +kernel⟩
theorem su_RX5_101_21 : jSiU RX5 101 RX7 yX10_keeps yX7_keeps cX7_keeps 3 (some .int) 2 := ⟨tw_582, tw_585, tw_583, ⟨_, _, _, tw_595⟩, tw_589, tw_590, tw_9, tw_591, by decide, by decide, by decide +kernel⟩
set_option maxRecDepth 100000 in
theorem vs_X5_pass_54 {K : jK} (X : JX K cX5_pass 2 RX5 2 42) {w : Nat} (hw : 16 ≤ w ∧ w ≤ 21) {a0 : Int32} {a1 : Int32}  {ls : List (Option Value)} {st : List Value} {σ σ' : jMem} {v : Int32} (hnl : ls.length = 2) (h8 : (st.map fun v => v.category).sum ≤ 8) (hm : vf_X10_keeps w a0 a1 σ = some (v, σ')) (kk : J K (54 + 3) ls (.int v :: st) σ') : J K 54 ls (.int a1 :: .int a0 :: .ref w :: st) σ := by
  rcases (show w = 16 ∨ w = 17 ∨ w = 18 ∨ w = 19 ∨ w = 20 ∨ w = 21 by omega) with rfl | rfl | rfl | rfl | rfl | rfl
  · exact j_callU (as := [.int a0, .int a1]) (st := st) (st1 := .int v :: st) X ln_16 ly_16 rfl su_RX5_101_16 ⟨by decide, by decide⟩ rfl rfl h8 hnl dX5_pass_54 jrv_i (c_X10_keeps (by decide)  hm) rfl kk
  · exact j_callU (as := [.int a0, .int a1]) (st := st) (st1 := .int v :: st) X ln_17 ly_17 rfl su_RX5_101_17 ⟨by decide, by decide⟩ rfl rfl h8 hnl dX5_pass_54 jrv_i (c_X10_keeps (by decide)  hm) rfl kk
  · exact j_callU (as := [.int a0, .int a1]) (st := st) (st1 := .int v :: st) X ln_18 ly_18 rfl su_RX5_101_18 ⟨by decide, by decide⟩ rfl rfl h8 hnl dX5_pass_54 jrv_i (c_X10_keeps (by decide)  hm) rfl kk
  · exact j_callU (as := [.int a0, .int a1]) (st := st) (st1 := .int v :: st) X ln_19 ly_19 rfl su_RX5_101_19 ⟨by decide, by decide⟩ rfl rfl h8 hnl dX5_pass_54 jrv_i (c_X10_keeps (by decide)  hm) rfl kk
  · exact j_callU (as := [.int a0, .int a1]) (st := st) (st1 := .int v :: st) X ln_20 ly_20 rfl su_RX5_101_20 ⟨by decide, by decide⟩ rfl rfl h8 hnl dX5_pass_54 jrv_i (c_X8_keeps (by decide)  hm) rfl kk
  · exact j_callU (as := [.int a0, .int a1]) (st := st) (st1 := .int v :: st) X ln_21 ly_21 rfl su_RX5_101_21 ⟨by decide, by decide⟩ rfl rfl h8 hnl dX5_pass_54 jrv_i (c_X7_keeps (by decide)  hm) rfl kk
def X5_pass_L2_b (p0 : Nat) (rec : Int32 → jMem → Option ((Unit) × jMem)) (x1 : Int32) (σ : jMem) : Option ((Unit) × jMem) :=
  if (σ.1 p0 6) ≤ x1 then
  some ((), σ)
else
  jbd (f_X5_isAlive p0 x1 σ) (fun v1 σ2 =>
  jj (fun (q5 : Unit) σ6 =>
  jld σ6 (p0 + 4) 6 x1 (fun v7 =>
  jldr 6 16 1 v7 (fun k8 =>
  jld σ6 (p0 + 7) 6 x1 (fun v9 =>
  jbd (vf_X10_keeps k8 v9 (σ6.1 p0 4) σ6) (fun v10 σ11 =>
  jst σ11 (p0 + 7) 6 x1 v10 (fun σ13 =>
  rec (x1 + 1) σ13)))))) (fun k4 =>
  if v1 = 0 then
  k4 () σ2
else
  jld σ2 (p0 + 6) 6 x1 (fun v14 =>
  jst σ2 (p0 + 6) 6 x1 (v14 + (1 : Int32)) (fun σ15 =>
  k4 () σ15))))
def X5_pass_L2 (p0 : Nat) : Nat → Int32 → jMem → Option ((Unit) × jMem) := jloop (fun rec s σ => X5_pass_L2_b p0 rec s σ)
set_option maxRecDepth 100000 in
set_option maxHeartbeats 4000000 in
theorem X5_pass_L2_bok {K : jK} (X : JX K cX5_pass 2 RX5 2 42) {p0 : Nat} (hp0 : jisP p0) {rec : Int32 → jMem → Option ((Unit) × jMem)} (ih : ∀ (s : Int32) (σ : jMem) (o : (Unit) × jMem), rec s σ = some o → (J K 64 [some (.ref p0), none] [] o.2) → J K 2 [some (.ref p0), some (.int s)] [] σ) : ∀ (x1 : Int32) (σ : jMem) (o : (Unit) × jMem), X5_pass_L2_b p0 rec x1 σ = some o → (J K 64 [some (.ref p0), none] [] o.2) → J K 2 [some (.ref p0), some (.int x1)] [] σ := by
  intro x1 σ o h kk
  unfold X5_pass_L2_b at h
  refine j_iload_n X 1 dX5_pass_2 rfl rfl ?_
  refine j_aload_n X 0 dX5_pass_3 rfl rfl ?_
  refine j_getI X fg_RX5_44 (jp_lt hp0) (jp_ly hp0) rfl dX5_pass_4 ?_
  refine j_icmp_ge (tgt := 64) X dX5_pass_7 (by decide) h (fun h => ?_) (fun h => ?_)
  · obtain rfl := Option.some.inj h
    exact j_sub (ls' := [some (.ref p0), none]) ⟨Or.inr rfl, Or.inl rfl, trivial⟩ kk
  · refine j_aload_n X 0 dX5_pass_10 rfl rfl ?_
    refine j_iload_n X 1 dX5_pass_11 rfl rfl ?_
    obtain ⟨v1, σ2, hm3, h⟩ := jbd_some h
    refine j_callV (as := [.int x1]) (st := []) (st1 := [.int v1]) X (jp_lt hp0) (jp_ly hp0) rfl rfl sv_RX5_79 ⟨by decide, by decide⟩ rfl rfl (Nat.le_of_ble_eq_true rfl) rfl dX5_pass_12 jrv_i (c_X5_isAlive hp0 hm3) rfl ?_
    refine j_join (pcJ := 28) (lsJ := fun q5 => [some (.ref p0), some (.int x1)]) (stJ := fun q5 => []) h (fun q5 σ6 h => ?_) (fun k4 hk4 h => ?_)
    · refine j_aload_n X 0 dX5_pass_28 rfl rfl ?_
      refine j_getR (t := (p0 + 7)) X fg_RX5_34 (jp_lt hp0) (jp_ly hp0) rfl dX5_pass_29 ?_
      refine j_iload_n X 1 dX5_pass_32 rfl rfl ?_
      refine j_aload_n X 0 dX5_pass_33 rfl rfl ?_
      refine j_getR (t := 15) X fg_RX5_9 (jp_lt hp0) (jp_ly hp0) rfl dX5_pass_34 ?_
      refine j_aload_n X 0 dX5_pass_37 rfl rfl ?_
      refine j_getR (t := (p0 + 4)) X fg_RX5_25 (jp_lt hp0) (jp_ly hp0) rfl dX5_pass_38 ?_
      refine j_iload_n X 1 dX5_pass_41 rfl rfl ?_
      refine j_iaload X (jp_lt4 hp0) (jp_ly4 hp0) dX5_pass_42 h (fun v7 h => ?_)
      refine j_aaload X ln_15 ly_15 (Or.inl rfl) dX5_pass_43 h (fun k8 qk8 h => ?_)
      have hk8 := jrow6 qk8
      refine j_aload_n X 0 dX5_pass_44 rfl rfl ?_
      refine j_getR (t := (p0 + 7)) X fg_RX5_34 (jp_lt hp0) (jp_ly hp0) rfl dX5_pass_45 ?_
      refine j_iload_n X 1 dX5_pass_48 rfl rfl ?_
      refine j_iaload X (jp_lt7 hp0) (jp_ly7 hp0) dX5_pass_49 h (fun v9 h => ?_)
      refine j_aload_n X 0 dX5_pass_50 rfl rfl ?_
      refine j_getI X fg_RX5_37 (jp_lt hp0) (jp_ly hp0) rfl dX5_pass_51 ?_
      obtain ⟨v10, σ11, hm12, h⟩ := jbd_some h
      refine vs_X5_pass_54 (st := [.int x1, .ref (p0 + 7)]) X hk8  rfl (Nat.le_of_ble_eq_true rfl) hm12 ?_
      refine j_iastore X (jp_lt7 hp0) (jp_ly7 hp0) dX5_pass_57 h (fun σ13 h => ?_)
      refine j_iinc (v := (x1 + 1)) (ls' := [some (.ref p0), some (.int (x1 + 1))]) X dX5_pass_58 rfl rfl (Nat.le_of_ble_eq_true rfl) rfl ?_
      refine j_goto (tgt := 2) X dX5_pass_61 (by decide) ?_
      exact ih (x1 + 1) σ13 _ h kk
    · refine j_if_eq (tgt := 28) X dX5_pass_15 (by decide) h (fun h => ?_) (fun h => ?_)
      · exact hk4 () σ2 h
      · refine j_aload_n X 0 dX5_pass_18 rfl rfl ?_
        refine j_getR (t := (p0 + 6)) X fg_RX5_31 (jp_lt hp0) (jp_ly hp0) rfl dX5_pass_19 ?_
        refine j_iload_n X 1 dX5_pass_22 rfl rfl ?_
        refine j_dup2 X dX5_pass_23 rfl rfl ?_
        refine j_iaload X (jp_lt6 hp0) (jp_ly6 hp0) dX5_pass_24 h (fun v14 h => ?_)
        refine j_iconst (v := 1) X dX5_pass_25 (by decide) ?_
        refine j_iadd X dX5_pass_26 ?_
        refine j_iastore X (jp_lt6 hp0) (jp_ly6 hp0) dX5_pass_27 h (fun σ15 h => ?_)
        exact hk4 () σ15 h
theorem X5_pass_L2_ok {K : jK} (X : JX K cX5_pass 2 RX5 2 42) {p0 : Nat} (hp0 : jisP p0) : ∀ (n : Nat) (s : Int32) (σ : jMem) (o : (Unit) × jMem), X5_pass_L2 p0 n s σ = some o → (J K 64 [some (.ref p0), none] [] o.2) → J K 2 [some (.ref p0), some (.int s)] [] σ := by
  intro n
  induction n with
  | zero => intro s σ o h; cases h
  | succ n ih => intro s σ o h; exact X5_pass_L2_bok X hp0 ih (s) σ o h
def f_X5_pass (k : Nat) (σ : jMem) : Option jMem :=
  jbd (X5_pass_L2 (k) jFU (0 : Int32) σ) (fun q16 σ17 =>
  jlet (jset σ17 k 4 ((σ17.1 k 4) + (1 : Int32))) (fun σ18 =>
  some σ18))
set_option maxRecDepth 100000 in
set_option maxHeartbeats 4000000 in
theorem c_X5_pass {l : Launch} {D : va_G} {ad : Nat → Nat} {cid : Nat → ClassId} {k : Nat} (hk : jisP k) {σ : jMem} {σ' : jMem} (h : f_X5_pass k σ = some σ') : jMet l D ad cid yX5_pass cX5_pass 2 none 2 42 [.ref k] σ none σ' := by
  refine jMet_of (ls0 := [some (.ref k), none]) (by decide) (Nat.le_of_ble_eq_true rfl) rfl (fun K X R0 _ => ?_)
  unfold f_X5_pass at h
  refine j_iconst (v := 0) X dX5_pass_0 (by decide) ?_
  refine j_istore_n (ls' := [some (.ref k), some (.int (0 : Int32))]) X 1 dX5_pass_1 rfl (Nat.le_of_ble_eq_true rfl) rfl ?_
  obtain ⟨q16, σ17, hL19, h⟩ := jbd_some h
  refine X5_pass_L2_ok X hk jFU (0 : Int32) σ _ hL19 ?_
  refine j_aload_n X 0 dX5_pass_64 rfl rfl ?_
  refine j_dup X dX5_pass_65 rfl ?_
  refine j_getI X fg_RX5_37 (jp_lt hk) (jp_ly hk) rfl dX5_pass_66 ?_
  refine j_iconst (v := 1) X dX5_pass_69 (by decide) ?_
  refine j_iadd X dX5_pass_70 ?_
  refine j_put X fp_RX5_37 (jp_lt hk) (jp_ly hk) rfl rfl rfl dX5_pass_71 h (fun σ18 h => ?_)
  obtain rfl := Option.some.inj h
  exact j_vret X R0 dX5_pass_74
