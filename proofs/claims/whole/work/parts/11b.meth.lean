theorem sv_RX12_136 : jSiV RX12 136 yX12_begin cX12_begin 1 none 0 := ⟨tw_980, tw_982, ts_22, tw_13, tw_983, by decide, by decide, by decide +kernel⟩
theorem sv_RX12_139 : jSiV RX12 139 yX12_readPath cX12_readPath 5 none 0 := ⟨tw_1013, tw_1015, ts_29, tw_13, tw_1016, by decide, by decide, by decide +kernel⟩
theorem sv_RX12_142 : jSiV RX12 142 yX12_readWitness cX12_readWitness 5 none 0 := ⟨tw_1024, tw_1026, ts_31, tw_13, tw_1027, by decide, by decide, by decide +kernel⟩
theorem sv_RX12_145 : jSiV RX12 145 yX12_failed cX12_failed 1 (some .boolean) 0 := ⟨tw_1028, tw_1030, ts_32, tw_13, tw_1031, by decide, by decide, by decide +kernel⟩
def X12_parish_L11_b  (rec : Int32 → jMem → Option ((Unit) × jMem)) (x1 : Int32) (σ : jMem) : Option ((Unit) × jMem) :=
  if (67 : Int32) ≤ x1 then
  some ((), σ)
else
  jst σ 94 67 x1 (0 : Int32) (fun σ4 =>
  rec (x1 + 1) σ4)
def X12_parish_L11  : Nat → Int32 → jMem → Option ((Unit) × jMem) := jloop (fun rec s σ => X12_parish_L11_b  rec s σ)
set_option maxRecDepth 100000 in
set_option maxHeartbeats 4000000 in
theorem X12_parish_L11_bok {K : jK} (X : JX K cX12_parish 2 RX12 5 113)   {rec : Int32 → jMem → Option ((Unit) × jMem)} (ih : ∀ (s : Int32) (σ : jMem) (o : (Unit) × jMem), rec s σ = some o → (J K 30 [some (.ref 89), none] [] o.2) → J K 11 [some (.ref 89), some (.int s)] [] σ) : ∀ (x1 : Int32) (σ : jMem) (o : (Unit) × jMem), X12_parish_L11_b  rec x1 σ = some o → (J K 30 [some (.ref 89), none] [] o.2) → J K 11 [some (.ref 89), some (.int x1)] [] σ := by
  intro x1 σ o h kk
  unfold X12_parish_L11_b at h
  refine j_iload_n X 1 dX12_parish_11 rfl rfl ?_
  refine j_bipush (v := 67) X dX12_parish_12 (by decide) ?_
  refine j_icmp_ge (tgt := 30) X dX12_parish_14 (by decide) h (fun h => ?_) (fun h => ?_)
  · obtain rfl := Option.some.inj h
    exact j_sub (ls' := [some (.ref 89), none]) ⟨Or.inr rfl, Or.inl rfl, trivial⟩ kk
  · refine j_aload_n X 0 dX12_parish_17 rfl rfl ?_
    refine j_getR (t := 94) X fg_RX12_22 ln_89 ly_89 rfl dX12_parish_18 ?_
    refine j_iload_n X 1 dX12_parish_21 rfl rfl ?_
    refine j_iconst (v := 0) X dX12_parish_22 (by decide) ?_
    refine j_iastore X ln_94 ly_94 dX12_parish_23 h (fun σ4 h => ?_)
    refine j_iinc (v := (x1 + 1)) (ls' := [some (.ref 89), some (.int (x1 + 1))]) X dX12_parish_24 rfl rfl (Nat.le_of_ble_eq_true rfl) rfl ?_
    refine j_goto (tgt := 11) X dX12_parish_27 (by decide) ?_
    exact ih (x1 + 1) σ4 _ h kk
theorem X12_parish_L11_ok {K : jK} (X : JX K cX12_parish 2 RX12 5 113)   : ∀ (n : Nat) (s : Int32) (σ : jMem) (o : (Unit) × jMem), X12_parish_L11  n s σ = some o → (J K 30 [some (.ref 89), none] [] o.2) → J K 11 [some (.ref 89), some (.int s)] [] σ := by
  intro n
  induction n with
  | zero => intro s σ o h; cases h
  | succ n ih => intro s σ o h; exact X12_parish_L11_bok X  ih (s) σ o h
def X12_parish_L100_b  (rec : Unit → jMem → Option ((Unit) × jMem))  (σ : jMem) : Option ((Unit) × jMem) :=
  jbd (f_X12_isLetter (112 : Int32) σ) (fun v31 σ32 =>
  if v31 = 0 then
  some ((), σ32)
else
  jbv (f_X12_readPath  σ32) (fun σ34 =>
  rec () σ34))
def X12_parish_L100  : Nat → Unit → jMem → Option ((Unit) × jMem) := jloop (fun rec s σ => X12_parish_L100_b  rec  σ)
set_option maxRecDepth 100000 in
set_option maxHeartbeats 4000000 in
theorem X12_parish_L100_bok {K : jK} (X : JX K cX12_parish 2 RX12 5 113)   {rec : Unit → jMem → Option ((Unit) × jMem)} (ih : ∀ (s : Unit) (σ : jMem) (o : (Unit) × jMem), rec s σ = some o → (J K 116 [some (.ref 89), none] [] o.2) → J K 100 [some (.ref 89), none] [] σ) : ∀  (σ : jMem) (o : (Unit) × jMem), X12_parish_L100_b  rec  σ = some o → (J K 116 [some (.ref 89), none] [] o.2) → J K 100 [some (.ref 89), none] [] σ := by
  intro  σ o h kk
  unfold X12_parish_L100_b at h
  refine j_aload_n X 0 dX12_parish_100 rfl rfl ?_
  refine j_bipush (v := 112) X dX12_parish_101 (by decide) ?_
  obtain ⟨v31, σ32, hm33, h⟩ := jbd_some h
  refine j_callV (as := [.int (112 : Int32)]) (st := []) (st1 := [.int v31]) X ln_89 ly_89 rfl rfl sv_RX12_119 ⟨by decide, by decide⟩ rfl rfl (Nat.le_of_ble_eq_true rfl) rfl dX12_parish_103 jrv_i (c_X12_isLetter  hm33) rfl ?_
  refine j_if_eq (tgt := 116) X dX12_parish_106 (by decide) h (fun h => ?_) (fun h => ?_)
  · obtain rfl := Option.some.inj h
    exact kk
  · refine j_aload_n X 0 dX12_parish_109 rfl rfl ?_
    obtain ⟨σ34, hm35, h⟩ := jbv_some h
    refine j_callV (as := []) (st := []) (st1 := []) X ln_89 ly_89 rfl rfl sv_RX12_139 ⟨by decide, by decide⟩ rfl rfl (Nat.le_of_ble_eq_true rfl) rfl dX12_parish_110 jrv_v (c_X12_readPath  hm35) rfl ?_
    refine j_goto (tgt := 100) X dX12_parish_113 (by decide) ?_
    exact ih () σ34 _ h kk
theorem X12_parish_L100_ok {K : jK} (X : JX K cX12_parish 2 RX12 5 113)   : ∀ (n : Nat) (s : Unit) (σ : jMem) (o : (Unit) × jMem), X12_parish_L100  n s σ = some o → (J K 116 [some (.ref 89), none] [] o.2) → J K 100 [some (.ref 89), none] [] σ := by
  intro n
  induction n with
  | zero => intro s σ o h; cases h
  | succ n ih => intro s σ o h; exact X12_parish_L100_bok X  ih  σ o h
def X12_parish_L116_b  (rec : Unit → jMem → Option ((Unit) × jMem))  (σ : jMem) : Option ((Unit) × jMem) :=
  if ¬ (σ.1 89 16) = 0 then
  some ((), σ)
else
  if ¬ (σ.1 89 14) = (2 : Int32) then
  some ((), σ)
else
  jbd (f_X12_kindBy (σ.1 89 15) σ) (fun v38 σ39 =>
  if v38 = (-1000000 : Int32) then
  some ((), σ39)
else
  jbv (f_X12_readWitness  σ39) (fun σ41 =>
  rec () σ41))
def X12_parish_L116  : Nat → Unit → jMem → Option ((Unit) × jMem) := jloop (fun rec s σ => X12_parish_L116_b  rec  σ)
set_option maxRecDepth 100000 in
set_option maxHeartbeats 4000000 in
theorem X12_parish_L116_bok {K : jK} (X : JX K cX12_parish 2 RX12 5 113)   {rec : Unit → jMem → Option ((Unit) × jMem)} (ih : ∀ (s : Unit) (σ : jMem) (o : (Unit) × jMem), rec s σ = some o → (J K 150 [some (.ref 89), none] [] o.2) → J K 116 [some (.ref 89), none] [] σ) : ∀  (σ : jMem) (o : (Unit) × jMem), X12_parish_L116_b  rec  σ = some o → (J K 150 [some (.ref 89), none] [] o.2) → J K 116 [some (.ref 89), none] [] σ := by
  intro  σ o h kk
  unfold X12_parish_L116_b at h
  refine j_aload_n X 0 dX12_parish_116 rfl rfl ?_
  refine j_getI X fg_RX12_78 ln_89 ly_89 rfl dX12_parish_117 ?_
  refine j_if_ne (tgt := 150) X dX12_parish_120 (by decide) h (fun h => ?_) (fun h => ?_)
  · obtain rfl := Option.some.inj h
    exact kk
  · refine j_aload_n X 0 dX12_parish_123 rfl rfl ?_
    refine j_getI X fg_RX12_102 ln_89 ly_89 rfl dX12_parish_124 ?_
    refine j_iconst (v := 2) X dX12_parish_127 (by decide) ?_
    refine j_icmp_ne (tgt := 150) X dX12_parish_128 (by decide) h (fun h => ?_) (fun h => ?_)
    · obtain rfl := Option.some.inj h
      exact kk
    · refine j_aload_n X 0 dX12_parish_131 rfl rfl ?_
      refine j_getI X fg_RX12_91 ln_89 ly_89 rfl dX12_parish_132 ?_
      obtain ⟨v38, σ39, hm40, h⟩ := jbd_some h
      refine j_callS (as := [.int (σ.1 89 15)]) (st := []) (st1 := [.int v38]) X ss_RX12_133 ⟨by decide, by decide⟩ rfl rfl (Nat.le_of_ble_eq_true rfl) rfl dX12_parish_135 jrv_i (c_X12_kindBy  hm40) rfl ?_
      refine j_ldc (v := -1000000) X tw_988 dX12_parish_138 ?_
      refine j_icmp_eq (tgt := 150) X dX12_parish_140 (by decide) h (fun h => ?_) (fun h => ?_)
      · obtain rfl := Option.some.inj h
        exact kk
      · refine j_aload_n X 0 dX12_parish_143 rfl rfl ?_
        obtain ⟨σ41, hm42, h⟩ := jbv_some h
        refine j_callV (as := []) (st := []) (st1 := []) X ln_89 ly_89 rfl rfl sv_RX12_142 ⟨by decide, by decide⟩ rfl rfl (Nat.le_of_ble_eq_true rfl) rfl dX12_parish_144 jrv_v (c_X12_readWitness  hm42) rfl ?_
        refine j_goto (tgt := 116) X dX12_parish_147 (by decide) ?_
        exact ih () σ41 _ h kk
theorem X12_parish_L116_ok {K : jK} (X : JX K cX12_parish 2 RX12 5 113)   : ∀ (n : Nat) (s : Unit) (σ : jMem) (o : (Unit) × jMem), X12_parish_L116  n s σ = some o → (J K 150 [some (.ref 89), none] [] o.2) → J K 116 [some (.ref 89), none] [] σ := by
  intro n
  induction n with
  | zero => intro s σ o h; cases h
  | succ n ih => intro s σ o h; exact X12_parish_L116_bok X  ih  σ o h
def X12_parish_L172_b  (rec : Int32 → jMem → Option ((Unit) × jMem)) (x1 : Int32) (σ : jMem) : Option ((Unit) × jMem) :=
  if (67 : Int32) ≤ x1 then
  some ((), σ)
else
  jld σ 94 67 x1 (fun v49 =>
  jst σ 93 67 x1 v49 (fun σ50 =>
  rec (x1 + 1) σ50))
def X12_parish_L172  : Nat → Int32 → jMem → Option ((Unit) × jMem) := jloop (fun rec s σ => X12_parish_L172_b  rec s σ)
set_option maxRecDepth 100000 in
set_option maxHeartbeats 4000000 in
theorem X12_parish_L172_bok {K : jK} (X : JX K cX12_parish 2 RX12 5 113)   {rec : Int32 → jMem → Option ((Unit) × jMem)} (ih : ∀ (s : Int32) (σ : jMem) (o : (Unit) × jMem), rec s σ = some o → (J K 196 [some (.ref 89), none] [] o.2) → J K 172 [some (.ref 89), some (.int s)] [] σ) : ∀ (x1 : Int32) (σ : jMem) (o : (Unit) × jMem), X12_parish_L172_b  rec x1 σ = some o → (J K 196 [some (.ref 89), none] [] o.2) → J K 172 [some (.ref 89), some (.int x1)] [] σ := by
  intro x1 σ o h kk
  unfold X12_parish_L172_b at h
  refine j_iload_n X 1 dX12_parish_172 rfl rfl ?_
  refine j_bipush (v := 67) X dX12_parish_173 (by decide) ?_
  refine j_icmp_ge (tgt := 196) X dX12_parish_175 (by decide) h (fun h => ?_) (fun h => ?_)
  · obtain rfl := Option.some.inj h
    exact j_sub (ls' := [some (.ref 89), none]) ⟨Or.inr rfl, Or.inl rfl, trivial⟩ kk
  · refine j_aload_n X 0 dX12_parish_178 rfl rfl ?_
    refine j_getR (t := 93) X fg_RX12_19 ln_89 ly_89 rfl dX12_parish_179 ?_
    refine j_iload_n X 1 dX12_parish_182 rfl rfl ?_
    refine j_aload_n X 0 dX12_parish_183 rfl rfl ?_
    refine j_getR (t := 94) X fg_RX12_22 ln_89 ly_89 rfl dX12_parish_184 ?_
    refine j_iload_n X 1 dX12_parish_187 rfl rfl ?_
    refine j_iaload X ln_94 ly_94 dX12_parish_188 h (fun v49 h => ?_)
    refine j_iastore X ln_93 ly_93 dX12_parish_189 h (fun σ50 h => ?_)
    refine j_iinc (v := (x1 + 1)) (ls' := [some (.ref 89), some (.int (x1 + 1))]) X dX12_parish_190 rfl rfl (Nat.le_of_ble_eq_true rfl) rfl ?_
    refine j_goto (tgt := 172) X dX12_parish_193 (by decide) ?_
    exact ih (x1 + 1) σ50 _ h kk
theorem X12_parish_L172_ok {K : jK} (X : JX K cX12_parish 2 RX12 5 113)   : ∀ (n : Nat) (s : Int32) (σ : jMem) (o : (Unit) × jMem), X12_parish_L172  n s σ = some o → (J K 196 [some (.ref 89), none] [] o.2) → J K 172 [some (.ref 89), some (.int s)] [] σ := by
  intro n
  induction n with
  | zero => intro s σ o h; cases h
  | succ n ih => intro s σ o h; exact X12_parish_L172_bok X  ih (s) σ o h
def f_X12_parish  (σ : jMem) : Option (Int32 × jMem) :=
  jlet (jset σ 89 0 (0 : Int32)) (fun σ1 =>
  jbv (f_X12_begin  σ1) (fun σ2 =>
  jbd (X12_parish_L11  jFU (0 : Int32) σ2) (fun q5 σ6 =>
  jst σ6 94 67 (0 : Int32) (1 : Int32) (fun σ7 =>
  jbd (f_X12_isLetter (99 : Int32) σ7) (fun v8 σ9 =>
  jbv (f_X12_must v8 σ9) (fun σ11 =>
  jbd (f_X12_number (0 : Int32) (7 : Int32) σ11) (fun v13 σ14 =>
  jst σ14 94 67 (1 : Int32) v13 (fun σ16 =>
  jbv (f_X12_mustSign (44 : Int32) σ16) (fun σ17 =>
  jbd (f_X12_number (20 : Int32) (90 : Int32) σ17) (fun v19 σ20 =>
  jst σ20 94 67 (2 : Int32) v19 (fun σ22 =>
  jbv (f_X12_mustSign (59 : Int32) σ22) (fun σ23 =>
  jbd (f_X12_isLetter (112 : Int32) σ23) (fun v25 σ26 =>
  jj (fun (q29 : Unit) σ30 =>
  jbd (X12_parish_L100  jFU () σ30) (fun q36 σ37 =>
  jbd (X12_parish_L116  jFU () σ37) (fun q43 σ44 =>
  jbd (f_X12_failed  σ44) (fun v45 σ46 =>
  if v45 = 0 then
  jlet (jset σ46 89 9 (0 : Int32)) (fun σ48 =>
  jbd (X12_parish_L172  jFU (0 : Int32) σ48) (fun q51 σ52 =>
  jld σ52 93 67 (3 : Int32) (fun v53 =>
  some ((v53, σ52)))))
else
  some ((((-1000100 : Int32) - (σ46.1 89 17)), σ46)))))) (fun k28 =>
  if ¬ v25 = 0 then
  k28 () σ26
else
  jbv (f_X12_bad (1 : Int32) σ26) (fun σ57 =>
  k28 () σ57)))))))))))))))
set_option maxRecDepth 100000 in
set_option maxHeartbeats 4000000 in
theorem c_X12_parish {l : Launch} {D : va_G} {ad : Nat → Nat} {cid : Nat → ClassId}   {σ : jMem} {r : Int32} {σ' : jMem} (h : f_X12_parish  σ = some (r, σ')) : jMet l D ad cid yX12_parish cX12_parish 2 (some .int) 5 113 [.ref 89] σ (some (.int r)) σ' := by
  refine jMet_of (ls0 := [some (.ref 89), none]) (by decide) (Nat.le_of_ble_eq_true rfl) rfl (fun K X R0 _ => ?_)
  unfold f_X12_parish at h
  refine j_aload_n X 0 dX12_parish_0 rfl rfl ?_
  refine j_iconst (v := 0) X dX12_parish_1 (by decide) ?_
  refine j_put X fp_RX12_47 ln_89 ly_89 rfl rfl rfl dX12_parish_2 h (fun σ1 h => ?_)
  refine j_aload_n X 0 dX12_parish_5 rfl rfl ?_
  obtain ⟨σ2, hm3, h⟩ := jbv_some h
  refine j_callV (as := []) (st := []) (st1 := []) X ln_89 ly_89 rfl rfl sv_RX12_136 ⟨by decide, by decide⟩ rfl rfl (Nat.le_of_ble_eq_true rfl) rfl dX12_parish_6 jrv_v (c_X12_begin  hm3) rfl ?_
  refine j_iconst (v := 0) X dX12_parish_9 (by decide) ?_
  refine j_istore_n (ls' := [some (.ref 89), some (.int (0 : Int32))]) X 1 dX12_parish_10 rfl (Nat.le_of_ble_eq_true rfl) rfl ?_
  obtain ⟨q5, σ6, hL59, h⟩ := jbd_some h
  refine X12_parish_L11_ok X  jFU (0 : Int32) σ2 _ hL59 ?_
  refine j_aload_n X 0 dX12_parish_30 rfl rfl ?_
  refine j_getR (t := 94) X fg_RX12_22 ln_89 ly_89 rfl dX12_parish_31 ?_
  refine j_iconst (v := 0) X dX12_parish_34 (by decide) ?_
  refine j_iconst (v := 1) X dX12_parish_35 (by decide) ?_
  refine j_iastore X ln_94 ly_94 dX12_parish_36 h (fun σ7 h => ?_)
  refine j_aload_n X 0 dX12_parish_37 rfl rfl ?_
  refine j_aload_n X 0 dX12_parish_38 rfl rfl ?_
  refine j_bipush (v := 99) X dX12_parish_39 (by decide) ?_
  obtain ⟨v8, σ9, hm10, h⟩ := jbd_some h
  refine j_callV (as := [.int (99 : Int32)]) (st := [.ref 89]) (st1 := [.int v8, .ref 89]) X ln_89 ly_89 rfl rfl sv_RX12_119 ⟨by decide, by decide⟩ rfl rfl (Nat.le_of_ble_eq_true rfl) rfl dX12_parish_41 jrv_i (c_X12_isLetter  hm10) rfl ?_
  obtain ⟨σ11, hm12, h⟩ := jbv_some h
  refine j_callV (as := [.int v8]) (st := []) (st1 := []) X ln_89 ly_89 rfl rfl sv_RX12_112 ⟨by decide, by decide⟩ rfl rfl (Nat.le_of_ble_eq_true rfl) rfl dX12_parish_44 jrv_v (c_X12_must  hm12) rfl ?_
  refine j_aload_n X 0 dX12_parish_47 rfl rfl ?_
  refine j_getR (t := 94) X fg_RX12_22 ln_89 ly_89 rfl dX12_parish_48 ?_
  refine j_iconst (v := 1) X dX12_parish_51 (by decide) ?_
  refine j_aload_n X 0 dX12_parish_52 rfl rfl ?_
  refine j_iconst (v := 0) X dX12_parish_53 (by decide) ?_
  refine j_bipush (v := 7) X dX12_parish_54 (by decide) ?_
  obtain ⟨v13, σ14, hm15, h⟩ := jbd_some h
  refine j_callV (as := [.int (0 : Int32), .int (7 : Int32)]) (st := [.int (1 : Int32), .ref 94]) (st1 := [.int v13, .int (1 : Int32), .ref 94]) X ln_89 ly_89 rfl rfl sv_RX12_122 ⟨by decide, by decide⟩ rfl rfl (Nat.le_of_ble_eq_true rfl) rfl dX12_parish_56 jrv_i (c_X12_number  hm15) rfl ?_
  refine j_iastore X ln_94 ly_94 dX12_parish_59 h (fun σ16 h => ?_)
  refine j_aload_n X 0 dX12_parish_60 rfl rfl ?_
  refine j_bipush (v := 44) X dX12_parish_61 (by decide) ?_
  obtain ⟨σ17, hm18, h⟩ := jbv_some h
  refine j_callV (as := [.int (44 : Int32)]) (st := []) (st1 := []) X ln_89 ly_89 rfl rfl sv_RX12_126 ⟨by decide, by decide⟩ rfl rfl (Nat.le_of_ble_eq_true rfl) rfl dX12_parish_63 jrv_v (c_X12_mustSign  hm18) rfl ?_
  refine j_aload_n X 0 dX12_parish_66 rfl rfl ?_
  refine j_getR (t := 94) X fg_RX12_22 ln_89 ly_89 rfl dX12_parish_67 ?_
  refine j_iconst (v := 2) X dX12_parish_70 (by decide) ?_
  refine j_aload_n X 0 dX12_parish_71 rfl rfl ?_
  refine j_bipush (v := 20) X dX12_parish_72 (by decide) ?_
  refine j_bipush (v := 90) X dX12_parish_74 (by decide) ?_
  obtain ⟨v19, σ20, hm21, h⟩ := jbd_some h
  refine j_callV (as := [.int (20 : Int32), .int (90 : Int32)]) (st := [.int (2 : Int32), .ref 94]) (st1 := [.int v19, .int (2 : Int32), .ref 94]) X ln_89 ly_89 rfl rfl sv_RX12_122 ⟨by decide, by decide⟩ rfl rfl (Nat.le_of_ble_eq_true rfl) rfl dX12_parish_76 jrv_i (c_X12_number  hm21) rfl ?_
  refine j_iastore X ln_94 ly_94 dX12_parish_79 h (fun σ22 h => ?_)
  refine j_aload_n X 0 dX12_parish_80 rfl rfl ?_
  refine j_bipush (v := 59) X dX12_parish_81 (by decide) ?_
  obtain ⟨σ23, hm24, h⟩ := jbv_some h
  refine j_callV (as := [.int (59 : Int32)]) (st := []) (st1 := []) X ln_89 ly_89 rfl rfl sv_RX12_126 ⟨by decide, by decide⟩ rfl rfl (Nat.le_of_ble_eq_true rfl) rfl dX12_parish_83 jrv_v (c_X12_mustSign  hm24) rfl ?_
  refine j_aload_n X 0 dX12_parish_86 rfl rfl ?_
  refine j_bipush (v := 112) X dX12_parish_87 (by decide) ?_
  obtain ⟨v25, σ26, hm27, h⟩ := jbd_some h
  refine j_callV (as := [.int (112 : Int32)]) (st := []) (st1 := [.int v25]) X ln_89 ly_89 rfl rfl sv_RX12_119 ⟨by decide, by decide⟩ rfl rfl (Nat.le_of_ble_eq_true rfl) rfl dX12_parish_89 jrv_i (c_X12_isLetter  hm27) rfl ?_
  refine j_join (pcJ := 100) (lsJ := fun q29 => [some (.ref 89), none]) (stJ := fun q29 => []) h (fun q29 σ30 h => ?_) (fun k28 hk28 h => ?_)
  · obtain ⟨q36, σ37, hL56, h⟩ := jbd_some h
    refine X12_parish_L100_ok X  jFU () σ30 _ hL56 ?_
    obtain ⟨q43, σ44, hL55, h⟩ := jbd_some h
    refine X12_parish_L116_ok X  jFU () σ37 _ hL55 ?_
    refine j_aload_n X 0 dX12_parish_150 rfl rfl ?_
    obtain ⟨v45, σ46, hm47, h⟩ := jbd_some h
    refine j_callV (as := []) (st := []) (st1 := [.int v45]) X ln_89 ly_89 rfl rfl sv_RX12_145 ⟨by decide, by decide⟩ rfl rfl (Nat.le_of_ble_eq_true rfl) rfl dX12_parish_151 jrv_i (c_X12_failed  hm47) rfl ?_
    refine j_if_eq (tgt := 165) X dX12_parish_154 (by decide) h (fun h => ?_) (fun h => ?_)
    · refine j_aload_n X 0 dX12_parish_165 rfl rfl ?_
      refine j_iconst (v := 0) X dX12_parish_166 (by decide) ?_
      refine j_put X fp_RX12_150 ln_89 ly_89 rfl rfl rfl dX12_parish_167 h (fun σ48 h => ?_)
      refine j_iconst (v := 0) X dX12_parish_170 (by decide) ?_
      refine j_istore_n (ls' := [some (.ref 89), some (.int (0 : Int32))]) X 1 dX12_parish_171 rfl (Nat.le_of_ble_eq_true rfl) rfl ?_
      obtain ⟨q51, σ52, hL54, h⟩ := jbd_some h
      refine X12_parish_L172_ok X  jFU (0 : Int32) σ48 _ hL54 ?_
      refine j_aload_n X 0 dX12_parish_196 rfl rfl ?_
      refine j_getR (t := 93) X fg_RX12_19 ln_89 ly_89 rfl dX12_parish_197 ?_
      refine j_iconst (v := 3) X dX12_parish_200 (by decide) ?_
      refine j_iaload X ln_93 ly_93 dX12_parish_201 h (fun v53 h => ?_)
      obtain ⟨rfl, rfl⟩ := jin2 h
      exact j_iret X R0 dX12_parish_202
    · refine j_ldc (v := -1000100) X tw_1032 dX12_parish_157 ?_
      refine j_aload_n X 0 dX12_parish_159 rfl rfl ?_
      refine j_getI X fg_RX12_84 ln_89 ly_89 rfl dX12_parish_160 ?_
      refine j_isub X dX12_parish_163 ?_
      obtain ⟨rfl, rfl⟩ := jin2 h
      exact j_iret X R0 dX12_parish_164
  · refine j_if_ne (tgt := 100) X dX12_parish_92 (by decide) h (fun h => ?_) (fun h => ?_)
    · exact hk28 () σ26 h
    · refine j_aload_n X 0 dX12_parish_95 rfl rfl ?_
      refine j_iconst (v := 1) X dX12_parish_96 (by decide) ?_
      obtain ⟨σ57, hm58, h⟩ := jbv_some h
      refine j_callV (as := [.int (1 : Int32)]) (st := []) (st1 := []) X ln_89 ly_89 rfl rfl sv_RX12_105 ⟨by decide, by decide⟩ rfl rfl (Nat.le_of_ble_eq_true rfl) rfl dX12_parish_97 jrv_v (c_X12_bad  hm58) rfl ?_
      exact hk28 () σ57 h
def f_X12_isThere  (σ : jMem) : Option (Int32 × jMem) :=
  jld σ 93 67 (0 : Int32) (fun v1 =>
  if ¬ v1 = (1 : Int32) then
  some (((0 : Int32), σ))
else
  some (((1 : Int32), σ)))
set_option maxRecDepth 100000 in
set_option maxHeartbeats 4000000 in
theorem c_X12_isThere {l : Launch} {D : va_G} {ad : Nat → Nat} {cid : Nat → ClassId}   {σ : jMem} {r : Int32} {σ' : jMem} (h : f_X12_isThere  σ = some (r, σ')) : jMet l D ad cid yX12_isThere cX12_isThere 1 (some .boolean) 0 0 [.ref 89] σ (some (.int r)) σ' := by
  refine jMet_of (ls0 := [some (.ref 89)]) (by decide) (Nat.le_of_ble_eq_true rfl) rfl (fun K X R0 _ => ?_)
  unfold f_X12_isThere at h
  refine j_aload_n X 0 dX12_isThere_0 rfl rfl ?_
  refine j_getR (t := 93) X fg_RX12_19 ln_89 ly_89 rfl dX12_isThere_1 ?_
  refine j_iconst (v := 0) X dX12_isThere_4 (by decide) ?_
  refine j_iaload X ln_93 ly_93 dX12_isThere_5 h (fun v1 h => ?_)
  refine j_iconst (v := 1) X dX12_isThere_6 (by decide) ?_
  refine j_icmp_ne (tgt := 14) X dX12_isThere_7 (by decide) h (fun h => ?_) (fun h => ?_)
  · refine j_iconst (v := 0) X dX12_isThere_14 (by decide) ?_
    obtain ⟨rfl, rfl⟩ := jin2 h
    exact j_zret X R0 rfl dX12_isThere_15
  · refine j_iconst (v := 1) X dX12_isThere_10 (by decide) ?_
    refine j_goto (tgt := 15) X dX12_isThere_11 (by decide) ?_
    obtain ⟨rfl, rfl⟩ := jin2 h
    exact j_zret X R0 rfl dX12_isThere_15
def f_X12_isField (a0 : Int64) (σ : jMem) : Option (Int32 × jMem) :=
  jbd (f_X12_in a0 (0 : Int64) (7 : Int64) σ) (fun v1 σ2 =>
  jck (jisb v1 = true) (some ((v1, σ2))))
set_option maxRecDepth 100000 in
set_option maxHeartbeats 4000000 in
theorem c_X12_isField {l : Launch} {D : va_G} {ad : Nat → Nat} {cid : Nat → ClassId} {a0 : Int64}  {σ : jMem} {r : Int32} {σ' : jMem} (h : f_X12_isField a0 σ = some (r, σ')) : jMet l D ad cid yX12_isField cX12_isField 2 (some .boolean) 1 25 [.long a0] σ (some (.int r)) σ' := by
  refine jMet_of (ls0 := [some (.long a0), none]) (by decide) (Nat.le_of_ble_eq_true rfl) rfl (fun K X R0 _ => ?_)
  unfold f_X12_isField at h
  refine j_lload_n X 0 dX12_isField_0 rfl rfl ?_
  refine j_lconst (v := 0) X dX12_isField_1 (by decide) ?_
  refine j_ldc2_w (v := 7) X tw_943 dX12_isField_2 ?_
  obtain ⟨v1, σ2, hm3, h⟩ := jbd_some h
  refine j_callS (as := [.long a0, .long (0 : Int64), .long (7 : Int64)]) (st := []) (st1 := [.int v1]) X ss_RX12_57 ⟨by decide, by decide⟩ rfl rfl (Nat.le_of_ble_eq_true rfl) rfl dX12_isField_5 jrv_i (c_X12_in  hm3) rfl ?_
  obtain ⟨hc4, h⟩ := jck_some h
  obtain ⟨rfl, rfl⟩ := jin2 h
  exact j_zret X R0 hc4 dX12_isField_8
def f_X12_isPath (a0 : Int32) (σ : jMem) : Option (Int32 × jMem) :=
  jld σ 93 67 (3 : Int32) (fun v1 =>
  jbd (f_X12_in ((a0).toInt64) (0 : Int64) (((v1 - (1 : Int32))).toInt64) σ) (fun v2 σ3 =>
  jck (jisb v2 = true) (some ((v2, σ3)))))
set_option maxRecDepth 100000 in
set_option maxHeartbeats 4000000 in
theorem c_X12_isPath {l : Launch} {D : va_G} {ad : Nat → Nat} {cid : Nat → ClassId} {a0 : Int32}  {σ : jMem} {r : Int32} {σ' : jMem} (h : f_X12_isPath a0 σ = some (r, σ')) : jMet l D ad cid yX12_isPath cX12_isPath 2 (some .boolean) 1 25 [.ref 89, .int a0] σ (some (.int r)) σ' := by
  refine jMet_of (ls0 := [some (.ref 89), some (.int a0)]) (by decide) (Nat.le_of_ble_eq_true rfl) rfl (fun K X R0 _ => ?_)
  unfold f_X12_isPath at h
  refine j_iload_n X 1 dX12_isPath_0 rfl rfl ?_
  refine j_i2l X dX12_isPath_1 ?_
  refine j_lconst (v := 0) X dX12_isPath_2 (by decide) ?_
  refine j_aload_n X 0 dX12_isPath_3 rfl rfl ?_
  refine j_getR (t := 93) X fg_RX12_19 ln_89 ly_89 rfl dX12_isPath_4 ?_
  refine j_iconst (v := 3) X dX12_isPath_7 (by decide) ?_
  refine j_iaload X ln_93 ly_93 dX12_isPath_8 h (fun v1 h => ?_)
  refine j_iconst (v := 1) X dX12_isPath_9 (by decide) ?_
  refine j_isub X dX12_isPath_10 ?_
  refine j_i2l X dX12_isPath_11 ?_
  obtain ⟨v2, σ3, hm4, h⟩ := jbd_some h
  refine j_callS (as := [.long ((a0).toInt64), .long (0 : Int64), .long (((v1 - (1 : Int32))).toInt64)]) (st := []) (st1 := [.int v2]) X ss_RX12_57 ⟨by decide, by decide⟩ rfl rfl (Nat.le_of_ble_eq_true rfl) rfl dX12_isPath_12 jrv_i (c_X12_in  hm4) rfl ?_
  obtain ⟨hc5, h⟩ := jck_some h
  obtain ⟨rfl, rfl⟩ := jin2 h
  exact j_zret X R0 hc5 dX12_isPath_15
def f_X12_isWitness (a0 : Int32) (σ : jMem) : Option (Int32 × jMem) :=
  jld σ 93 67 (4 : Int32) (fun v1 =>
  jbd (f_X12_in ((a0).toInt64) (0 : Int64) (((v1 - (1 : Int32))).toInt64) σ) (fun v2 σ3 =>
  jck (jisb v2 = true) (some ((v2, σ3)))))
set_option maxRecDepth 100000 in
set_option maxHeartbeats 4000000 in
theorem c_X12_isWitness {l : Launch} {D : va_G} {ad : Nat → Nat} {cid : Nat → ClassId} {a0 : Int32}  {σ : jMem} {r : Int32} {σ' : jMem} (h : f_X12_isWitness a0 σ = some (r, σ')) : jMet l D ad cid yX12_isWitness cX12_isWitness 2 (some .boolean) 1 25 [.ref 89, .int a0] σ (some (.int r)) σ' := by
  refine jMet_of (ls0 := [some (.ref 89), some (.int a0)]) (by decide) (Nat.le_of_ble_eq_true rfl) rfl (fun K X R0 _ => ?_)
  unfold f_X12_isWitness at h
  refine j_iload_n X 1 dX12_isWitness_0 rfl rfl ?_
  refine j_i2l X dX12_isWitness_1 ?_
  refine j_lconst (v := 0) X dX12_isWitness_2 (by decide) ?_
  refine j_aload_n X 0 dX12_isWitness_3 rfl rfl ?_
  refine j_getR (t := 93) X fg_RX12_19 ln_89 ly_89 rfl dX12_isWitness_4 ?_
  refine j_iconst (v := 4) X dX12_isWitness_7 (by decide) ?_
  refine j_iaload X ln_93 ly_93 dX12_isWitness_8 h (fun v1 h => ?_)
  refine j_iconst (v := 1) X dX12_isWitness_9 (by decide) ?_
  refine j_isub X dX12_isWitness_10 ?_
  refine j_i2l X dX12_isWitness_11 ?_
  obtain ⟨v2, σ3, hm4, h⟩ := jbd_some h
  refine j_callS (as := [.long ((a0).toInt64), .long (0 : Int64), .long (((v1 - (1 : Int32))).toInt64)]) (st := []) (st1 := [.int v2]) X ss_RX12_57 ⟨by decide, by decide⟩ rfl rfl (Nat.le_of_ble_eq_true rfl) rfl dX12_isWitness_12 jrv_i (c_X12_in  hm4) rfl ?_
  obtain ⟨hc5, h⟩ := jck_some h
  obtain ⟨rfl, rfl⟩ := jin2 h
  exact j_zret X R0 hc5 dX12_isWitness_15
def f_X12_has (a0 : Int32) (a1 : Int32) (σ : jMem) : Option (Int32 × jMem) :=
  if ¬ ((a0 >>> (a1 &&& 31)) &&& (1 : Int32)) = (1 : Int32) then
  some (((0 : Int32), σ))
else
  some (((1 : Int32), σ))
set_option maxRecDepth 100000 in
set_option maxHeartbeats 4000000 in
theorem c_X12_has {l : Launch} {D : va_G} {ad : Nat → Nat} {cid : Nat → ClassId} {a0 : Int32} {a1 : Int32}  {σ : jMem} {r : Int32} {σ' : jMem} (h : f_X12_has a0 a1 σ = some (r, σ')) : jMet l D ad cid yX12_has cX12_has 2 (some .boolean) 0 0 [.int a0, .int a1] σ (some (.int r)) σ' := by
  refine jMet_of (ls0 := [some (.int a0), some (.int a1)]) (by decide) (Nat.le_of_ble_eq_true rfl) rfl (fun K X R0 _ => ?_)
  unfold f_X12_has at h
  refine j_iload_n X 0 dX12_has_0 rfl rfl ?_
  refine j_iload_n X 1 dX12_has_1 rfl rfl ?_
  refine j_ishr X dX12_has_2 ?_
  refine j_iconst (v := 1) X dX12_has_3 (by decide) ?_
  refine j_iand X dX12_has_4 ?_
  refine j_iconst (v := 1) X dX12_has_5 (by decide) ?_
  refine j_icmp_ne (tgt := 13) X dX12_has_6 (by decide) h (fun h => ?_) (fun h => ?_)
  · refine j_iconst (v := 0) X dX12_has_13 (by decide) ?_
    obtain ⟨rfl, rfl⟩ := jin2 h
    exact j_zret X R0 rfl dX12_has_14
  · refine j_iconst (v := 1) X dX12_has_9 (by decide) ?_
    refine j_goto (tgt := 14) X dX12_has_10 (by decide) ?_
    obtain ⟨rfl, rfl⟩ := jin2 h
    exact j_zret X R0 rfl dX12_has_14
