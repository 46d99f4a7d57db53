theorem su_RX11_362_16 : jSiU RX11 362 RX10 yX10_span yX10_span cX10_span 2 (some .int) 1 := ⟨tw_710, tw_528, tw_526, ⟨_, _, _, tw_536⟩, tw_527, tw_526, tw_4, tw_536, by decide, by decide, by decide +kernel⟩
theorem su_RX11_362_17 : jSiU RX11 362 RX4 yX10_span yX10_span cX10_span 2 (some .int) 1 := ⟨tw_710, tw_528, tw_526, ⟨_, _, _, tw_536⟩, tw_533, tw_526, tw_4, tw_536, by decide, by decide, by decide +kernel⟩
theorem su_RX11_362_18 : jSiU RX11 362 RX1 yX10_span yX1_span cX1_span 2 (some .int) 1 := ⟨tw_710, tw_528, tw_526, ⟨_, _, _, tw_536⟩, tw_529, tw_530, tw_6, tw_531, by decide, by decide, by decide +kernel⟩
theorem su_RX11_362_19 : jSiU RX11 362 RX3 yX10_span yX10_span cX10_span 2 (some .int) 1 := ⟨tw_710, tw_528, tw_526, ⟨_, _, _, tw_536⟩, tw_532, tw_526, tw_4, tw_536, by decide, by decide, by decide +kernel⟩
theorem su_RX11_362_20 : jSiU RX11 362 RX8 yX10_span yX10_span cX10_span 2 (some .int) 1 := ⟨tw_710, tw_528, tw_526, ⟨_, _, _, tw_536⟩, tw_535, tw_526, tw_4, tw_536, by decide, by decide, by decide +kernel⟩
theorem su_RX11_362_21 : jSiU RX11 362 RX7 yX10_span yX10_span cX10_span 2 (some .int) 1 := ⟨tw_710, tw_528, tw_526, ⟨_, _, _, tw_536⟩, tw_534, tw_526, tw_4, tw_536, by decide, by decide, by decide +kernel⟩
set_option maxRecDepth 100000 in
theorem vs_X11_fittingKinds_150 {K : jK} (X : JX K cX11_fittingKinds 10 RX11 4 97) {w : Nat} (hw : 16 ≤ w ∧ w ≤ 21) {a0 : Int32}  {ls : List (Option Value)} {st : List Value} {σ σ' : jMem} {v : Int32} (hnl : ls.length = 10) (h8 : (st.map fun v => v.category).sum ≤ 8) (hm : vf_X10_span w a0 σ = some (v, σ')) (kk : J K (150 + 3) ls (.int v :: st) σ') : J K 150 ls (.int a0 :: .ref w :: st) σ := by
  rcases (show w = 16 ∨ w = 17 ∨ w = 18 ∨ w = 19 ∨ w = 20 ∨ w = 21 by omega) with rfl | rfl | rfl | rfl | rfl | rfl
  · exact j_callU (as := [.int a0]) (st := st) (st1 := .int v :: st) X ln_16 ly_16 rfl su_RX11_362_16 ⟨by decide, by decide⟩ rfl rfl h8 hnl dX11_fittingKinds_150 jrv_i (c_X10_span (by decide)  hm) rfl kk
  · exact j_callU (as := [.int a0]) (st := st) (st1 := .int v :: st) X ln_17 ly_17 rfl su_RX11_362_17 ⟨by decide, by decide⟩ rfl rfl h8 hnl dX11_fittingKinds_150 jrv_i (c_X10_span (by decide)  hm) rfl kk
  · exact j_callU (as := [.int a0]) (st := st) (st1 := .int v :: st) X ln_18 ly_18 rfl su_RX11_362_18 ⟨by decide, by decide⟩ rfl rfl h8 hnl dX11_fittingKinds_150 jrv_i (c_X1_span (by decide)  hm) rfl kk
  · exact j_callU (as := [.int a0]) (st := st) (st1 := .int v :: st) X ln_19 ly_19 rfl su_RX11_362_19 ⟨by decide, by decide⟩ rfl rfl h8 hnl dX11_fittingKinds_150 jrv_i (c_X10_span (by decide)  hm) rfl kk
  · exact j_callU (as := [.int a0]) (st := st) (st1 := .int v :: st) X ln_20 ly_20 rfl su_RX11_362_20 ⟨by decide, by decide⟩ rfl rfl h8 hnl dX11_fittingKinds_150 jrv_i (c_X10_span (by decide)  hm) rfl kk
  · exact j_callU (as := [.int a0]) (st := st) (st1 := .int v :: st) X ln_21 ly_21 rfl su_RX11_362_21 ⟨by decide, by decide⟩ rfl rfl h8 hnl dX11_fittingKinds_150 jrv_i (c_X10_span (by decide)  hm) rfl kk
theorem su_RX11_358_16 : jSiU RX11 358 RX10 yX10_sees yX10_sees cX10_sees 4 (some .int) 3 := ⟨tw_709, tw_540, tw_538, ⟨_, _, _, tw_560⟩, tw_539, tw_538, tw_4, tw_560, by decide, by decide, by decide +kernel⟩
theorem su_RX11_358_17 : jSiU RX11 358 RX4 yX10_sees yX4_sees cX4_sees 4 (some .int) 3 := ⟨tw_709, tw_540, tw_538, ⟨_, _, _, tw_560⟩, tw_553, tw_545, tw_5, tw_546, by decide, by decide, by decide +kernel⟩
theorem su_RX11_358_18 : jSiU RX11 358 RX1 yX10_sees yX1_sees cX1_sees 5 (some .int) 3 := ⟨tw_709, tw_540, tw_538, ⟨_, _, _, tw_560⟩, tw_541, tw_542, tw_6, tw_543, by decide, by decide, by decide +kernel⟩
theorem su_RX11_358_19 : jSiU RX11 358 RX3 yX10_sees yX3_sees cX3_sees 5 (some .int) 3 := ⟨tw_709, tw_540, tw_538, ⟨_, _, _, tw_560⟩, tw_548, tw_549, tw_7, tw_550, by decide, by decide, by decide +kernel⟩
theorem su_RX11_358_20 : jSiU RX11 358 RX8 yX10_sees yX8_sees cX8_sees 4 (some .int) 3 := ⟨tw_709, tw_540, tw_538, ⟨_, _, _, tw_560⟩, tw_557, tw_558, tw_8, tw_559, by decide, by decide, by decide +kernel⟩
theorem su_RX11_358_21 : jSiU RX11 358 RX7 yX10_sees yX7_sees cX7_sees 4 (some .int) 3 := ⟨tw_709, tw_540, tw_538, ⟨_, _, _, tw_560⟩, tw_554, tw_555, tw_9, tw_556, by decide, by decide, by decide +kernel⟩
set_option maxRecDepth 100000 in
theorem vs_X11_fittingKinds_122 {K : jK} (X : JX K cX11_fittingKinds 10 RX11 4 97) {w : Nat} (hw : 16 ≤ w ∧ w ≤ 21) {a0 : Nat} {a1 : Int32} (h0 : jisP a0) {ls : List (Option Value)} {st : List Value} {σ σ' : jMem} {v : Int32} (hnl : ls.length = 10) (h8 : (st.map fun v => v.category).sum ≤ 8) (hm : vf_X10_sees w a0 a1 σ = some (v, σ')) (kk : J K (122 + 3) ls (.int v :: st) σ') : J K 122 ls (.ref 80 :: .int a1 :: .ref a0 :: .ref w :: st) σ := by
  rcases (show w = 16 ∨ w = 17 ∨ w = 18 ∨ w = 19 ∨ w = 20 ∨ w = 21 by omega) with rfl | rfl | rfl | rfl | rfl | rfl
  · exact j_callU (as := [.ref a0, .int a1, .ref 80]) (st := st) (st1 := .int v :: st) X ln_16 ly_16 rfl su_RX11_358_16 ⟨by decide, by decide⟩ rfl rfl h8 hnl dX11_fittingKinds_122 jrv_i (c_X10_sees (by decide) h0 hm) rfl kk
  · exact j_callU (as := [.ref a0, .int a1, .ref 80]) (st := st) (st1 := .int v :: st) X ln_17 ly_17 rfl su_RX11_358_17 ⟨by decide, by decide⟩ rfl rfl h8 hnl dX11_fittingKinds_122 jrv_i (c_X4_sees (by decide) h0 hm) rfl kk
  · exact j_callU (as := [.ref a0, .int a1, .ref 80]) (st := st) (st1 := .int v :: st) X ln_18 ly_18 rfl su_RX11_358_18 ⟨by decide, by decide⟩ rfl rfl h8 hnl dX11_fittingKinds_122 jrv_i (c_X1_sees (by decide) h0 hm) rfl kk
  · exact j_callU (as := [.ref a0, .int a1, .ref 80]) (st := st) (st1 := .int v :: st) X ln_19 ly_19 rfl su_RX11_358_19 ⟨by decide, by decide⟩ rfl rfl h8 hnl dX11_fittingKinds_122 jrv_i (c_X3_sees (by decide) h0 hm) rfl kk
  · exact j_callU (as := [.ref a0, .int a1, .ref 80]) (st := st) (st1 := .int v :: st) X ln_20 ly_20 rfl su_RX11_358_20 ⟨by decide, by decide⟩ rfl rfl h8 hnl dX11_fittingKinds_122 jrv_i (c_X8_sees (by decide) h0 hm) rfl kk
  · exact j_callU (as := [.ref a0, .int a1, .ref 80]) (st := st) (st1 := .int v :: st) X ln_21 ly_21 rfl su_RX11_358_21 ⟨by decide, by decide⟩ rfl rfl h8 hnl dX11_fittingKinds_122 jrv_i (c_X7_sees (by decide) h0 hm) rfl kk
def X11_fittingKinds_L6_b (p1 : Int32) (p2 : Nat) (p3 : Int32) (p4 : Int32) (rec : Int32 × Int32 → jMem → Option ((Int32) × jMem)) (x5 : Int32) (x6 : Int32) (σ : jMem) : Option ((Int32) × jMem) :=
  if (6 : Int32) ≤ x6 then
  some (x5, σ)
else
  jld σ 29 6 p1 (fun v1 =>
  jst σ 88 6 x6 v1 (fun σ2 =>
  jlet ((x5 ||| ((1 : Int32) <<< (x6 &&& 31)))) (fun v3 =>
  rec (v3, (x6 + 1)) σ2)))
def X11_fittingKinds_L6 (p1 : Int32) (p2 : Nat) (p3 : Int32) (p4 : Int32) : Nat → Int32 × Int32 → jMem → Option ((Int32) × jMem) := jloop (fun rec s σ => X11_fittingKinds_L6_b p1 p2 p3 p4 rec s.1 s.2 σ)
set_option maxRecDepth 100000 in
set_option maxHeartbeats 4000000 in
theorem X11_fittingKinds_L6_bok {K : jK} (X : JX K cX11_fittingKinds 10 RX11 4 97) {p1 : Int32} {p2 : Nat} {p3 : Int32} {p4 : Int32} (hp2 : p2 < jN ∧ jL p2 = (1, 40, [])) {rec : Int32 × Int32 → jMem → Option ((Int32) × jMem)} (ih : ∀ (s : Int32 × Int32) (σ : jMem) (o : (Int32) × jMem), rec s σ = some o → (J K 44 [some (.ref 0), some (.int p1), some (.ref p2), some (.int p3), some (.int p4), some (.int o.1), none, none, none, none] [] o.2) → J K 6 [some (.ref 0), some (.int p1), some (.ref p2), some (.int p3), some (.int p4), some (.int s.1), some (.int s.2), none, none, none] [] σ) : ∀ (x5 : Int32) (x6 : Int32) (σ : jMem) (o : (Int32) × jMem), X11_fittingKinds_L6_b p1 p2 p3 p4 rec x5 x6 σ = some o → (J K 44 [some (.ref 0), some (.int p1), some (.ref p2), some (.int p3), some (.int p4), some (.int o.1), none, none, none, none] [] o.2) → J K 6 [some (.ref 0), some (.int p1), some (.ref p2), some (.int p3), some (.int p4), some (.int x5), some (.int x6), none, none, none] [] σ := by
  intro x5 x6 σ o h kk
  unfold X11_fittingKinds_L6_b at h
  refine j_iload X dX11_fittingKinds_6 rfl ?_
  refine j_bipush (v := 6) X dX11_fittingKinds_8 (by decide) ?_
  refine j_icmp_ge (tgt := 44) X dX11_fittingKinds_10 (by decide) h (fun h => ?_) (fun h => ?_)
  · obtain rfl := Option.some.inj h
    exact j_sub (ls' := [some (.ref 0), some (.int p1), some (.ref p2), some (.int p3), some (.int p4), some (.int x5), none, none, none, none]) ⟨Or.inr rfl, Or.inr rfl, Or.inr rfl, Or.inr rfl, Or.inr rfl, Or.inr rfl, Or.inl rfl, Or.inl rfl, Or.inl rfl, Or.inl rfl, trivial⟩ kk
  · refine j_aload_n X 0 dX11_fittingKinds_13 rfl rfl ?_
    refine j_getR (t := 88) X fg_RX11_80 ln_0 ly_0 rfl dX11_fittingKinds_14 ?_
    refine j_iload X dX11_fittingKinds_17 rfl ?_
    refine j_aload_n X 0 dX11_fittingKinds_19 rfl rfl ?_
    refine j_getR (t := 22) X fg_RX11_50 ln_0 ly_0 rfl dX11_fittingKinds_20 ?_
    refine j_getR (t := 29) X fg_RX11_223 ln_22 ly_22 rfl dX11_fittingKinds_23 ?_
    refine j_iload_n X 1 dX11_fittingKinds_26 rfl rfl ?_
    refine j_iaload X ln_29 ly_29 dX11_fittingKinds_27 h (fun v1 h => ?_)
    refine j_iastore X ln_88 ly_88 dX11_fittingKinds_28 h (fun σ2 h => ?_)
    refine j_iload X dX11_fittingKinds_29 rfl ?_
    refine j_iconst (v := 1) X dX11_fittingKinds_31 (by decide) ?_
    refine j_iload X dX11_fittingKinds_32 rfl ?_
    refine j_ishl X dX11_fittingKinds_34 ?_
    refine j_ior X dX11_fittingKinds_35 ?_
    refine j_letI h (fun v3 h => ?_)
    refine j_istore (ls' := [some (.ref 0), some (.int p1), some (.ref p2), some (.int p3), some (.int p4), some (.int v3), some (.int x6), none, none, none]) X dX11_fittingKinds_36 (Nat.le_of_ble_eq_true rfl) rfl ?_
    refine j_iinc (v := (x6 + 1)) (ls' := [some (.ref 0), some (.int p1), some (.ref p2), some (.int p3), some (.int p4), some (.int v3), some (.int (x6 + 1)), none, none, none]) X dX11_fittingKinds_38 rfl rfl (Nat.le_of_ble_eq_true rfl) rfl ?_
    refine j_goto (tgt := 6) X dX11_fittingKinds_41 (by decide) ?_
    exact ih (v3, (x6 + 1)) σ2 _ h kk
theorem X11_fittingKinds_L6_ok {K : jK} (X : JX K cX11_fittingKinds 10 RX11 4 97) {p1 : Int32} {p2 : Nat} {p3 : Int32} {p4 : Int32} (hp2 : p2 < jN ∧ jL p2 = (1, 40, [])) : ∀ (n : Nat) (s : Int32 × Int32) (σ : jMem) (o : (Int32) × jMem), X11_fittingKinds_L6 p1 p2 p3 p4 n s σ = some o → (J K 44 [some (.ref 0), some (.int p1), some (.ref p2), some (.int p3), some (.int p4), some (.int o.1), none, none, none, none] [] o.2) → J K 6 [some (.ref 0), some (.int p1), some (.ref p2), some (.int p3), some (.int p4), some (.int s.1), some (.int s.2), none, none, none] [] σ := by
  intro n
  induction n with
  | zero => intro s σ o h; cases h
  | succ n ih => intro s σ o h; exact X11_fittingKinds_L6_bok X hp2 ih (s.1) (s.2) σ o h
def X11_fittingKinds_L78_b (p1 : Int32) (p2 : Nat) (p3 : Int32) (p4 : Int32) (p6 : Int32) (p7 : Int32) (rec : Int32 × Int32 → jMem → Option ((Int32) × jMem)) (x5 : Int32) (x8 : Int32) (σ : jMem) : Option ((Int32) × jMem) :=
  if (6 : Int32) ≤ x8 then
  some (x5, σ)
else
  jj (fun (q11 : Unit) σ12 =>
  jld σ12 28 6 p1 (fun v13 =>
  jldr 6 16 1 x8 (fun k14 =>
  jbd (vf_X10_span k14 (σ12.1 22 3) σ12) (fun v15 σ16 =>
  jj (fun (q19 : Int32) σ20 =>
  jld σ20 p2 40 ((p3 + ((2 : Int32) * p6)) + (1 : Int32)) (fun v21 =>
  if q19 = v21 then
  rec (x5, (x8 + 1)) σ20
else
  jlet ((x5 &&& (((1 : Int32) <<< (x8 &&& 31)) ^^^ (-1 : Int32)))) (fun v22 =>
  rec (v22, (x8 + 1)) σ20))) (fun k18 =>
  if v13 ≤ v15 then
  jld σ16 88 6 x8 (fun v23 =>
  k18 v23 σ16)
else
  k18 (0 : Int32) σ16))))) (fun k10 =>
  if p7 = 0 then
  k10 () σ
else
  jld σ 88 6 x8 (fun v24 =>
  jldr 6 16 1 x8 (fun k25 =>
  jld σ 27 6 p1 (fun v26 =>
  jbd (vf_X10_sees k25 22 v26  σ) (fun v27 σ28 =>
  jst σ28 88 6 x8 (v24 ||| v27) (fun σ30 =>
  k10 () σ30))))))
def X11_fittingKinds_L78 (p1 : Int32) (p2 : Nat) (p3 : Int32) (p4 : Int32) (p6 : Int32) (p7 : Int32) : Nat → Int32 × Int32 → jMem → Option ((Int32) × jMem) := jloop (fun rec s σ => X11_fittingKinds_L78_b p1 p2 p3 p4 p6 p7 rec s.1 s.2 σ)
set_option maxRecDepth 100000 in
set_option maxHeartbeats 4000000 in
theorem X11_fittingKinds_L78_bok {K : jK} (X : JX K cX11_fittingKinds 10 RX11 4 97) {p1 : Int32} {p2 : Nat} {p3 : Int32} {p4 : Int32} {p6 : Int32} {p7 : Int32} (hp2 : p2 < jN ∧ jL p2 = (1, 40, [])) {rec : Int32 × Int32 → jMem → Option ((Int32) × jMem)} (ih : ∀ (s : Int32 × Int32) (σ : jMem) (o : (Int32) × jMem), rec s σ = some o → (J K 201 [some (.ref 0), some (.int p1), some (.ref p2), some (.int p3), some (.int p4), some (.int o.1), some (.int p6), none, none, none] [] o.2) → J K 78 [some (.ref 0), some (.int p1), some (.ref p2), some (.int p3), some (.int p4), some (.int s.1), some (.int p6), some (.int p7), some (.int s.2), none] [] σ) : ∀ (x5 : Int32) (x8 : Int32) (σ : jMem) (o : (Int32) × jMem), X11_fittingKinds_L78_b p1 p2 p3 p4 p6 p7 rec x5 x8 σ = some o → (J K 201 [some (.ref 0), some (.int p1), some (.ref p2), some (.int p3), some (.int p4), some (.int o.1), some (.int p6), none, none, none] [] o.2) → J K 78 [some (.ref 0), some (.int p1), some (.ref p2), some (.int p3), some (.int p4), some (.int x5), some (.int p6), some (.int p7), some (.int x8), none] [] σ := by
  intro x5 x8 σ o h kk
  unfold X11_fittingKinds_L78_b at h
  refine j_iload X dX11_fittingKinds_78 rfl ?_
  refine j_bipush (v := 6) X dX11_fittingKinds_80 (by decide) ?_
  refine j_icmp_ge (tgt := 201) X dX11_fittingKinds_82 (by decide) h (fun h => ?_) (fun h => ?_)
  · obtain rfl := Option.some.inj h
    exact j_sub (ls' := [some (.ref 0), some (.int p1), some (.ref p2), some (.int p3), some (.int p4), some (.int x5), some (.int p6), none, none, none]) ⟨Or.inr rfl, Or.inr rfl, Or.inr rfl, Or.inr rfl, Or.inr rfl, Or.inr rfl, Or.inr rfl, Or.inl rfl, Or.inl rfl, Or.inl rfl, trivial⟩ kk
  · refine j_iload X dX11_fittingKinds_85 rfl ?_
    refine j_join (pcJ := 127) (lsJ := fun q11 => [some (.ref 0), some (.int p1), some (.ref p2), some (.int p3), some (.int p4), some (.int x5), some (.int p6), some (.int p7), some (.int x8), none]) (stJ := fun q11 => []) h (fun q11 σ12 h => ?_) (fun k10 hk10 h => ?_)
    · refine j_aload_n X 0 dX11_fittingKinds_127 rfl rfl ?_
      refine j_getR (t := 22) X fg_RX11_50 ln_0 ly_0 rfl dX11_fittingKinds_128 ?_
      refine j_getR (t := 28) X fg_RX11_220 ln_22 ly_22 rfl dX11_fittingKinds_131 ?_
      refine j_iload_n X 1 dX11_fittingKinds_134 rfl rfl ?_
      refine j_iaload X ln_28 ly_28 dX11_fittingKinds_135 h (fun v13 h => ?_)
      refine j_aload_n X 0 dX11_fittingKinds_136 rfl rfl ?_
      refine j_getR (t := 15) X fg_RX11_25 ln_0 ly_0 rfl dX11_fittingKinds_137 ?_
      refine j_iload X dX11_fittingKinds_140 rfl ?_
      refine j_aaload X ln_15 ly_15 (Or.inl rfl) dX11_fittingKinds_142 h (fun k14 qk14 h => ?_)
      have hk14 := jrow6 qk14
      refine j_aload_n X 0 dX11_fittingKinds_143 rfl rfl ?_
      refine j_getR (t := 22) X fg_RX11_50 ln_0 ly_0 rfl dX11_fittingKinds_144 ?_
      refine j_getI X fg_RX11_343 ln_22 ly_22 rfl dX11_fittingKinds_147 ?_
      obtain ⟨v15, σ16, hm17, h⟩ := jbd_some h
      refine vs_X11_fittingKinds_150 (st := [.int v13]) X hk14  rfl (Nat.le_of_ble_eq_true rfl) hm17 ?_
      refine j_join (pcJ := 167) (lsJ := fun q19 => [some (.ref 0), some (.int p1), some (.ref p2), some (.int p3), some (.int p4), some (.int x5), some (.int p6), some (.int p7), some (.int x8), none]) (stJ := fun q19 => [.int q19]) h (fun q19 σ20 h => ?_) (fun k18 hk18 h => ?_)
      · refine j_istore (ls' := [some (.ref 0), some (.int p1), some (.ref p2), some (.int p3), some (.int p4), some (.int x5), some (.int p6), some (.int p7), some (.int x8), some (.int q19)]) X dX11_fittingKinds_167 (Nat.le_of_ble_eq_true rfl) rfl ?_
        refine j_iload X dX11_fittingKinds_169 rfl ?_
        refine j_aload_n X 2 dX11_fittingKinds_171 rfl rfl ?_
        refine j_iload_n X 3 dX11_fittingKinds_172 rfl rfl ?_
        refine j_iconst (v := 2) X dX11_fittingKinds_173 (by decide) ?_
        refine j_iload X dX11_fittingKinds_174 rfl ?_
        refine j_imul X dX11_fittingKinds_176 ?_
        refine j_iadd X dX11_fittingKinds_177 ?_
        refine j_iconst (v := 1) X dX11_fittingKinds_178 (by decide) ?_
        refine j_iadd X dX11_fittingKinds_179 ?_
        refine j_iaload X hp2.1 hp2.2 dX11_fittingKinds_180 h (fun v21 h => ?_)
        refine j_icmp_eq (tgt := 195) X dX11_fittingKinds_181 (by decide) h (fun h => ?_) (fun h => ?_)
        · refine j_iinc (v := (x8 + 1)) (ls' := [some (.ref 0), some (.int p1), some (.ref p2), some (.int p3), some (.int p4), some (.int x5), some (.int p6), some (.int p7), some (.int (x8 + 1)), some (.int q19)]) X dX11_fittingKinds_195 rfl rfl (Nat.le_of_ble_eq_true rfl) rfl ?_
          refine j_goto (tgt := 78) X dX11_fittingKinds_198 (by decide) ?_
          exact j_sub (ls' := [some (.ref 0), some (.int p1), some (.ref p2), some (.int p3), some (.int p4), some (.int x5), some (.int p6), some (.int p7), some (.int (x8 + 1)), none]) ⟨Or.inr rfl, Or.inr rfl, Or.inr rfl, Or.inr rfl, Or.inr rfl, Or.inr rfl, Or.inr rfl, Or.inr rfl, Or.inr rfl, Or.inl rfl, trivial⟩ (ih (x5, (x8 + 1)) σ20 _ h kk)
        · refine j_iload X dX11_fittingKinds_184 rfl ?_
          refine j_iconst (v := 1) X dX11_fittingKinds_186 (by decide) ?_
          refine j_iload X dX11_fittingKinds_187 rfl ?_
          refine j_ishl X dX11_fittingKinds_189 ?_
          refine j_iconst (v := -1) X dX11_fittingKinds_190 (by decide) ?_
          refine j_ixor X dX11_fittingKinds_191 ?_
          refine j_iand X dX11_fittingKinds_192 ?_
          refine j_letI h (fun v22 h => ?_)
          refine j_istore (ls' := [some (.ref 0), some (.int p1), some (.ref p2), some (.int p3), some (.int p4), some (.int v22), some (.int p6), some (.int p7), some (.int x8), some (.int q19)]) X dX11_fittingKinds_193 (Nat.le_of_ble_eq_true rfl) rfl ?_
          refine j_iinc (v := (x8 + 1)) (ls' := [some (.ref 0), some (.int p1), some (.ref p2), some (.int p3), some (.int p4), some (.int v22), some (.int p6), some (.int p7), some (.int (x8 + 1)), some (.int q19)]) X dX11_fittingKinds_195 rfl rfl (Nat.le_of_ble_eq_true rfl) rfl ?_
          refine j_goto (tgt := 78) X dX11_fittingKinds_198 (by decide) ?_
          exact j_sub (ls' := [some (.ref 0), some (.int p1), some (.ref p2), some (.int p3), some (.int p4), some (.int v22), some (.int p6), some (.int p7), some (.int (x8 + 1)), none]) ⟨Or.inr rfl, Or.inr rfl, Or.inr rfl, Or.inr rfl, Or.inr rfl, Or.inr rfl, Or.inr rfl, Or.inr rfl, Or.inr rfl, Or.inl rfl, trivial⟩ (ih (v22, (x8 + 1)) σ20 _ h kk)
      · refine j_icmp_le (tgt := 160) X dX11_fittingKinds_153 (by decide) h (fun h => ?_) (fun h => ?_)
        · refine j_aload_n X 0 dX11_fittingKinds_160 rfl rfl ?_
          refine j_getR (t := 88) X fg_RX11_80 ln_0 ly_0 rfl dX11_fittingKinds_161 ?_
          refine j_iload X dX11_fittingKinds_164 rfl ?_
          refine j_iaload X ln_88 ly_88 dX11_fittingKinds_166 h (fun v23 h => ?_)
          exact hk18 v23 σ16 h
        · refine j_iconst (v := 0) X dX11_fittingKinds_156 (by decide) ?_
          refine j_goto (tgt := 167) X dX11_fittingKinds_157 (by decide) ?_
          exact hk18 (0 : Int32) σ16 h
    · refine j_if_eq (tgt := 127) X dX11_fittingKinds_87 (by decide) h (fun h => ?_) (fun h => ?_)
      · exact hk10 () σ h
      · refine j_aload_n X 0 dX11_fittingKinds_90 rfl rfl ?_
        refine j_getR (t := 88) X fg_RX11_80 ln_0 ly_0 rfl dX11_fittingKinds_91 ?_
        refine j_iload X dX11_fittingKinds_94 rfl ?_
        refine j_dup2 X dX11_fittingKinds_96 rfl rfl ?_
        refine j_iaload X ln_88 ly_88 dX11_fittingKinds_97 h (fun v24 h => ?_)
        refine j_aload_n X 0 dX11_fittingKinds_98 rfl rfl ?_
        refine j_getR (t := 15) X fg_RX11_25 ln_0 ly_0 rfl dX11_fittingKinds_99 ?_
        refine j_iload X dX11_fittingKinds_102 rfl ?_
        refine j_aaload X ln_15 ly_15 (Or.inl rfl) dX11_fittingKinds_104 h (fun k25 qk25 h => ?_)
        have hk25 := jrow6 qk25
        refine j_aload_n X 0 dX11_fittingKinds_105 rfl rfl ?_
        refine j_getR (t := 22) X fg_RX11_50 ln_0 ly_0 rfl dX11_fittingKinds_106 ?_
        refine j_aload_n X 0 dX11_fittingKinds_109 rfl rfl ?_
        refine j_getR (t := 22) X fg_RX11_50 ln_0 ly_0 rfl dX11_fittingKinds_110 ?_
        refine j_getR (t := 27) X fg_RX11_226 ln_22 ly_22 rfl dX11_fittingKinds_113 ?_
        refine j_iload_n X 1 dX11_fittingKinds_116 rfl rfl ?_
        refine j_iaload X ln_27 ly_27 dX11_fittingKinds_117 h (fun v26 h => ?_)
        refine j_aload_n X 0 dX11_fittingKinds_118 rfl rfl ?_
        refine j_getR (t := 80) X fg_RX11_69 ln_0 ly_0 rfl dX11_fittingKinds_119 ?_
        obtain ⟨v27, σ28, hm29, h⟩ := jbd_some h
        refine vs_X11_fittingKinds_122 (st := [.int v24, .int x8, .ref 88]) X hk25 jisP_22 rfl (Nat.le_of_ble_eq_true rfl) hm29 ?_
        refine j_ior X dX11_fittingKinds_125 ?_
        refine j_iastore X ln_88 ly_88 dX11_fittingKinds_126 h (fun σ30 h => ?_)
        exact hk10 () σ30 h
theorem X11_fittingKinds_L78_ok {K : jK} (X : JX K cX11_fittingKinds 10 RX11 4 97) {p1 : Int32} {p2 : Nat} {p3 : Int32} {p4 : Int32} {p6 : Int32} {p7 : Int32} (hp2 : p2 < jN ∧ jL p2 = (1, 40, [])) : ∀ (n : Nat) (s : Int32 × Int32) (σ : jMem) (o : (Int32) × jMem), X11_fittingKinds_L78 p1 p2 p3 p4 p6 p7 n s σ = some o → (J K 201 [some (.ref 0), some (.int p1), some (.ref p2), some (.int p3), some (.int p4), some (.int o.1), some (.int p6), none, none, none] [] o.2) → J K 78 [some (.ref 0), some (.int p1), some (.ref p2), some (.int p3), some (.int p4), some (.int s.1), some (.int p6), some (.int p7), some (.int s.2), none] [] σ := by
  intro n
  induction n with
  | zero => intro s σ o h; cases h
  | succ n ih => intro s σ o h; exact X11_fittingKinds_L78_bok X hp2 ih (s.1) (s.2) σ o h
def X11_fittingKinds_L47_b (p1 : Int32) (p2 : Nat) (p3 : Int32) (p4 : Int32) (rec : Int32 × Int32 → jMem → Option ((Int32) × jMem)) (x5 : Int32) (x6 : Int32) (σ : jMem) : Option ((Int32) × jMem) :=
  if p4 ≤ x6 then
  some (x5, σ)
else
  jld σ p2 40 (p3 + ((2 : Int32) * x6)) (fun v6 =>
  jbd (f_X2_isBurial 22 v6 σ) (fun v7 σ8 =>
  jbd (X11_fittingKinds_L78 (p1) (p2) (p3) (p4) (x6) (v7) jFU (x5, (1 : Int32)) σ8) (fun q31 σ32 =>
  rec (q31, (x6 + 1)) σ32)))
def X11_fittingKinds_L47 (p1 : Int32) (p2 : Nat) (p3 : Int32) (p4 : Int32) : Nat → Int32 × Int32 → jMem → Option ((Int32) × jMem) := jloop (fun rec s σ => X11_fittingKinds_L47_b p1 p2 p3 p4 rec s.1 s.2 σ)
set_option maxRecDepth 100000 in
set_option maxHeartbeats 4000000 in
theorem X11_fittingKinds_L47_bok {K : jK} (X : JX K cX11_fittingKinds 10 RX11 4 97) {p1 : Int32} {p2 : Nat} {p3 : Int32} {p4 : Int32} (hp2 : p2 < jN ∧ jL p2 = (1, 40, [])) {rec : Int32 × Int32 → jMem → Option ((Int32) × jMem)} (ih : ∀ (s : Int32 × Int32) (σ : jMem) (o : (Int32) × jMem), rec s σ = some o → (J K 207 [none, none, none, none, none, some (.int o.1), none, none, none, none] [] o.2) → J K 47 [some (.ref 0), some (.int p1), some (.ref p2), some (.int p3), some (.int p4), some (.int s.1), some (.int s.2), none, none, none] [] σ) : ∀ (x5 : Int32) (x6 : Int32) (σ : jMem) (o : (Int32) × jMem), X11_fittingKinds_L47_b p1 p2 p3 p4 rec x5 x6 σ = some o → (J K 207 [none, none, none, none, none, some (.int o.1), none, none, none, none] [] o.2) → J K 47 [some (.ref 0), some (.int p1), some (.ref p2), some (.int p3), some (.int p4), some (.int x5), some (.int x6), none, none, none] [] σ := by
  intro x5 x6 σ o h kk
  unfold X11_fittingKinds_L47_b at h
  refine j_iload X dX11_fittingKinds_47 rfl ?_
  refine j_iload X dX11_fittingKinds_49 rfl ?_
  refine j_icmp_ge (tgt := 207) X dX11_fittingKinds_51 (by decide) h (fun h => ?_) (fun h => ?_)
  · obtain rfl := Option.some.inj h
    exact j_sub (ls' := [none, none, none, none, none, some (.int x5), none, none, none, none]) ⟨Or.inl rfl, Or.inl rfl, Or.inl rfl, Or.inl rfl, Or.inl rfl, Or.inr rfl, Or.inl rfl, Or.inl rfl, Or.inl rfl, Or.inl rfl, trivial⟩ kk
  · refine j_aload_n X 0 dX11_fittingKinds_54 rfl rfl ?_
    refine j_getR (t := 80) X fg_RX11_69 ln_0 ly_0 rfl dX11_fittingKinds_55 ?_
    refine j_aload_n X 0 dX11_fittingKinds_58 rfl rfl ?_
    refine j_getR (t := 22) X fg_RX11_50 ln_0 ly_0 rfl dX11_fittingKinds_59 ?_
    refine j_aload_n X 2 dX11_fittingKinds_62 rfl rfl ?_
    refine j_iload_n X 3 dX11_fittingKinds_63 rfl rfl ?_
    refine j_iconst (v := 2) X dX11_fittingKinds_64 (by decide) ?_
    refine j_iload X dX11_fittingKinds_65 rfl ?_
    refine j_imul X dX11_fittingKinds_67 ?_
    refine j_iadd X dX11_fittingKinds_68 ?_
    refine j_iaload X hp2.1 hp2.2 dX11_fittingKinds_69 h (fun v6 h => ?_)
    obtain ⟨v7, σ8, hm9, h⟩ := jbd_some h
    refine j_callV (as := [.ref 22, .int v6]) (st := []) (st1 := [.int v7]) X ln_80 ly_80 rfl rfl sv_RX11_177 ⟨by decide, by decide⟩ rfl rfl (Nat.le_of_ble_eq_true rfl) rfl dX11_fittingKinds_70 jrv_i (c_X2_isBurial jisP_22 hm9) rfl ?_
    refine j_istore (ls' := [some (.ref 0), some (.int p1), some (.ref p2), some (.int p3), some (.int p4), some (.int x5), some (.int x6), some (.int v7), none, none]) X dX11_fittingKinds_73 (Nat.le_of_ble_eq_true rfl) rfl ?_
    refine j_iconst (v := 1) X dX11_fittingKinds_75 (by decide) ?_
    refine j_istore (ls' := [some (.ref 0), some (.int p1), some (.ref p2), some (.int p3), some (.int p4), some (.int x5), some (.int x6), some (.int v7), some (.int (1 : Int32)), none]) X dX11_fittingKinds_76 (Nat.le_of_ble_eq_true rfl) rfl ?_
    obtain ⟨q31, σ32, hL33, h⟩ := jbd_some h
    refine X11_fittingKinds_L78_ok X ⟨hp2.1, hp2.2⟩ jFU (x5, (1 : Int32)) σ8 _ hL33 ?_
    refine j_iinc (v := (x6 + 1)) (ls' := [some (.ref 0), some (.int p1), some (.ref p2), some (.int p3), some (.int p4), some (.int q31), some (.int (x6 + 1)), none, none, none]) X dX11_fittingKinds_201 rfl rfl (Nat.le_of_ble_eq_true rfl) rfl ?_
    refine j_goto (tgt := 47) X dX11_fittingKinds_204 (by decide) ?_
    exact ih (q31, (x6 + 1)) σ32 _ h kk
theorem X11_fittingKinds_L47_ok {K : jK} (X : JX K cX11_fittingKinds 10 RX11 4 97) {p1 : Int32} {p2 : Nat} {p3 : Int32} {p4 : Int32} (hp2 : p2 < jN ∧ jL p2 = (1, 40, [])) : ∀ (n : Nat) (s : Int32 × Int32) (σ : jMem) (o : (Int32) × jMem), X11_fittingKinds_L47 p1 p2 p3 p4 n s σ = some o → (J K 207 [none, none, none, none, none, some (.int o.1), none, none, none, none] [] o.2) → J K 47 [some (.ref 0), some (.int p1), some (.ref p2), some (.int p3), some (.int p4), some (.int s.1), some (.int s.2), none, none, none] [] σ := by
  intro n
  induction n with
  | zero => intro s σ o h; cases h
  | succ n ih => intro s σ o h; exact X11_fittingKinds_L47_bok X hp2 ih (s.1) (s.2) σ o h
def f_X11_fittingKinds (a0 : Int32) (a1 : Nat) (a2 : Int32) (a3 : Int32) (σ : jMem) : Option (Int32 × jMem) :=
  jbd (X11_fittingKinds_L6 (a0) (a1) (a2) (a3) jFU ((0 : Int32), (1 : Int32)) σ) (fun q4 σ5 =>
  jbd (X11_fittingKinds_L47 (a0) (a1) (a2) (a3) jFU (q4, (0 : Int32)) σ5) (fun q34 σ35 =>
  some ((q34, σ35))))
set_option maxRecDepth 100000 in
set_option maxHeartbeats 4000000 in
theorem c_X11_fittingKinds {l : Launch} {D : va_G} {ad : Nat → Nat} {cid : Nat → ClassId} {a0 : Int32} {a1 : Nat} {a2 : Int32} {a3 : Int32} (ha1 : a1 < jN ∧ jL a1 = (1, 40, [])) {σ : jMem} {r : Int32} {σ' : jMem} (h : f_X11_fittingKinds a0 a1 a2 a3 σ = some (r, σ')) : jMet l D ad cid yX11_fittingKinds cX11_fittingKinds 10 (some .int) 4 97 [.ref 0, .int a0, .ref a1, .int a2, .int a3] σ (some (.int r)) σ' := by
  refine jMet_of (ls0 := [some (.ref 0), some (.int a0), some (.ref a1), some (.int a2), some (.int a3), none, none, none, none, none]) (by decide) (Nat.le_of_ble_eq_true rfl) rfl (fun K X R0 _ => ?_)
  unfold f_X11_fittingKinds at h
  refine j_iconst (v := 0) X dX11_fittingKinds_0 (by decide) ?_
  refine j_istore (ls' := [some (.ref 0), some (.int a0), some (.ref a1), some (.int a2), some (.int a3), some (.int (0 : Int32)), none, none, none, none]) X dX11_fittingKinds_1 (Nat.le_of_ble_eq_true rfl) rfl ?_
  refine j_iconst (v := 1) X dX11_fittingKinds_3 (by decide) ?_
  refine j_istore (ls' := [some (.ref 0), some (.int a0), some (.ref a1), some (.int a2), some (.int a3), some (.int (0 : Int32)), some (.int (1 : Int32)), none, none, none]) X dX11_fittingKinds_4 (Nat.le_of_ble_eq_true rfl) rfl ?_
  obtain ⟨q4, σ5, hL37, h⟩ := jbd_some h
  refine X11_fittingKinds_L6_ok X ⟨ha1.1, ha1.2⟩ jFU ((0 : Int32), (1 : Int32)) σ _ hL37 ?_
  refine j_iconst (v := 0) X dX11_fittingKinds_44 (by decide) ?_
  refine j_istore (ls' := [some (.ref 0), some (.int a0), some (.ref a1), some (.int a2), some (.int a3), some (.int q4), some (.int (0 : Int32)), none, none, none]) X dX11_fittingKinds_45 (Nat.le_of_ble_eq_true rfl) rfl ?_
  obtain ⟨q34, σ35, hL36, h⟩ := jbd_some h
  refine X11_fittingKinds_L47_ok X ⟨ha1.1, ha1.2⟩ jFU (q4, (0 : Int32)) σ5 _ hL36 ?_
  refine j_iload X dX11_fittingKinds_207 rfl ?_
  obtain ⟨rfl, rfl⟩ := jin2 h
  exact j_iret X R0 dX11_fittingKinds_209
