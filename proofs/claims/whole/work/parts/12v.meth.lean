def X12_keep_L51_b  (rec : Int32 → jMem → Option ((Unit) × jMem)) (x1 : Int32) (σ : jMem) : Option ((Unit) × jMem) :=
  if (67 : Int32) ≤ x1 then
  some ((), σ)
else
  jld σ 93 67 x1 (fun v4 =>
  jst σ 96 1608 (((67 : Int32) * (σ.1 89 9)) + x1) v4 (fun σ5 =>
  rec (x1 + 1) σ5))
def X12_keep_L51  : Nat → Int32 → jMem → Option ((Unit) × jMem) := jloop (fun rec s σ => X12_keep_L51_b  rec s σ)
set_option maxRecDepth 100000 in
set_option maxHeartbeats 4000000 in
theorem X12_keep_L51_bok {K : jK} (X : JX K cX12_keep 2 RX12 0 0)   {rec : Int32 → jMem → Option ((Unit) × jMem)} (ih : ∀ (s : Int32) (σ : jMem) (o : (Unit) × jMem), rec s σ = some o → (J K 83 [some (.ref 89), none] [] o.2) → J K 51 [some (.ref 89), some (.int s)] [] σ) : ∀ (x1 : Int32) (σ : jMem) (o : (Unit) × jMem), X12_keep_L51_b  rec x1 σ = some o → (J K 83 [some (.ref 89), none] [] o.2) → J K 51 [some (.ref 89), some (.int x1)] [] σ := by
  intro x1 σ o h kk
  unfold X12_keep_L51_b at h
  refine j_iload_n X 1 dX12_keep_51 rfl rfl ?_
  refine j_bipush (v := 67) X dX12_keep_52 (by decide) ?_
  refine j_icmp_ge (tgt := 83) X dX12_keep_54 (by decide) h (fun h => ?_) (fun h => ?_)
  · obtain rfl := Option.some.inj h
    exact j_sub (ls' := [some (.ref 89), none]) ⟨Or.inr rfl, Or.inl rfl, trivial⟩ kk
  · refine j_aload_n X 0 dX12_keep_57 rfl rfl ?_
    refine j_getR (t := 96) X fg_RX12_28 ln_89 ly_89 rfl dX12_keep_58 ?_
    refine j_bipush (v := 67) X dX12_keep_61 (by decide) ?_
    refine j_aload_n X 0 dX12_keep_63 rfl rfl ?_
    refine j_getI X fg_RX12_150 ln_89 ly_89 rfl dX12_keep_64 ?_
    refine j_imul X dX12_keep_67 ?_
    refine j_iload_n X 1 dX12_keep_68 rfl rfl ?_
    refine j_iadd X dX12_keep_69 ?_
    refine j_aload_n X 0 dX12_keep_70 rfl rfl ?_
    refine j_getR (t := 93) X fg_RX12_19 ln_89 ly_89 rfl dX12_keep_71 ?_
    refine j_iload_n X 1 dX12_keep_74 rfl rfl ?_
    refine j_iaload X ln_93 ly_93 dX12_keep_75 h (fun v4 h => ?_)
    refine j_iastore X ln_96 ly_96 dX12_keep_76 h (fun σ5 h => ?_)
    refine j_iinc (v := (x1 + 1)) (ls' := [some (.ref 89), some (.int (x1 + 1))]) X dX12_keep_77 rfl rfl (Nat.le_of_ble_eq_true rfl) rfl ?_
    refine j_goto (tgt := 51) X dX12_keep_80 (by decide) ?_
    exact ih (x1 + 1) σ5 _ h kk
theorem X12_keep_L51_ok {K : jK} (X : JX K cX12_keep 2 RX12 0 0)   : ∀ (n : Nat) (s : Int32) (σ : jMem) (o : (Unit) × jMem), X12_keep_L51  n s σ = some o → (J K 83 [some (.ref 89), none] [] o.2) → J K 51 [some (.ref 89), some (.int s)] [] σ := by
  intro n
  induction n with
  | zero => intro s σ o h; cases h
  | succ n ih => intro s σ o h; exact X12_keep_L51_bok X  ih (s) σ o h
def X12_keep_L11_b  (rec : Int32 → jMem → Option ((Unit) × jMem)) (x1 : Int32) (σ : jMem) : Option ((Unit) × jMem) :=
  if (1541 : Int32) ≤ x1 then
  some ((), σ)
else
  jld σ 96 1608 (x1 + (67 : Int32)) (fun v10 =>
  jst σ 96 1608 x1 v10 (fun σ11 =>
  rec (x1 + 1) σ11))
def X12_keep_L11  : Nat → Int32 → jMem → Option ((Unit) × jMem) := jloop (fun rec s σ => X12_keep_L11_b  rec s σ)
set_option maxRecDepth 100000 in
set_option maxHeartbeats 4000000 in
theorem X12_keep_L11_bok {K : jK} (X : JX K cX12_keep 2 RX12 0 0)   {rec : Int32 → jMem → Option ((Unit) × jMem)} (ih : ∀ (s : Int32) (σ : jMem) (o : (Unit) × jMem), rec s σ = some o → (J K 39 [some (.ref 89), none] [] o.2) → J K 11 [some (.ref 89), some (.int s)] [] σ) : ∀ (x1 : Int32) (σ : jMem) (o : (Unit) × jMem), X12_keep_L11_b  rec x1 σ = some o → (J K 39 [some (.ref 89), none] [] o.2) → J K 11 [some (.ref 89), some (.int x1)] [] σ := by
  intro x1 σ o h kk
  unfold X12_keep_L11_b at h
  refine j_iload_n X 1 dX12_keep_11 rfl rfl ?_
  refine j_sipush (v := 1541) X dX12_keep_12 (by decide) ?_
  refine j_icmp_ge (tgt := 39) X dX12_keep_15 (by decide) h (fun h => ?_) (fun h => ?_)
  · obtain rfl := Option.some.inj h
    exact j_sub (ls' := [some (.ref 89), none]) ⟨Or.inr rfl, Or.inl rfl, trivial⟩ kk
  · refine j_aload_n X 0 dX12_keep_18 rfl rfl ?_
    refine j_getR (t := 96) X fg_RX12_28 ln_89 ly_89 rfl dX12_keep_19 ?_
    refine j_iload_n X 1 dX12_keep_22 rfl rfl ?_
    refine j_aload_n X 0 dX12_keep_23 rfl rfl ?_
    refine j_getR (t := 96) X fg_RX12_28 ln_89 ly_89 rfl dX12_keep_24 ?_
    refine j_iload_n X 1 dX12_keep_27 rfl rfl ?_
    refine j_bipush (v := 67) X dX12_keep_28 (by decide) ?_
    refine j_iadd X dX12_keep_30 ?_
    refine j_iaload X ln_96 ly_96 dX12_keep_31 h (fun v10 h => ?_)
    refine j_iastore X ln_96 ly_96 dX12_keep_32 h (fun σ11 h => ?_)
    refine j_iinc (v := (x1 + 1)) (ls' := [some (.ref 89), some (.int (x1 + 1))]) X dX12_keep_33 rfl rfl (Nat.le_of_ble_eq_true rfl) rfl ?_
    refine j_goto (tgt := 11) X dX12_keep_36 (by decide) ?_
    exact ih (x1 + 1) σ11 _ h kk
theorem X12_keep_L11_ok {K : jK} (X : JX K cX12_keep 2 RX12 0 0)   : ∀ (n : Nat) (s : Int32) (σ : jMem) (o : (Unit) × jMem), X12_keep_L11  n s σ = some o → (J K 39 [some (.ref 89), none] [] o.2) → J K 11 [some (.ref 89), some (.int s)] [] σ := by
  intro n
  induction n with
  | zero => intro s σ o h; cases h
  | succ n ih => intro s σ o h; exact X12_keep_L11_bok X  ih (s) σ o h
def f_X12_keep  (σ : jMem) : Option jMem :=
  jj (fun (q2 : Unit) σ3 =>
  jbd (X12_keep_L51  jFU (0 : Int32) σ3) (fun q6 σ7 =>
  jlet (jset σ7 89 9 ((σ7.1 89 9) + (1 : Int32))) (fun σ8 =>
  some σ8))) (fun k1 =>
  if ¬ (σ.1 89 9) = (24 : Int32) then
  k1 () σ
else
  jbd (X12_keep_L11  jFU (0 : Int32) σ) (fun q12 σ13 =>
  jlet (jset σ13 89 9 ((σ13.1 89 9) - (1 : Int32))) (fun σ14 =>
  k1 () σ14)))
set_option maxRecDepth 100000 in
set_option maxHeartbeats 4000000 in
theorem c_X12_keep {l : Launch} {D : va_G} {ad : Nat → Nat} {cid : Nat → ClassId}   {σ : jMem} {σ' : jMem} (h : f_X12_keep  σ = some σ') : jMet l D ad cid yX12_keep cX12_keep 2 none 0 0 [.ref 89] σ none σ' := by
  refine jMet_of (ls0 := [some (.ref 89), none]) (by decide) (Nat.le_of_ble_eq_true rfl) rfl (fun K X R0 _ => ?_)
  unfold f_X12_keep at h
  refine j_aload_n X 0 dX12_keep_0 rfl rfl ?_
  refine j_getI X fg_RX12_150 ln_89 ly_89 rfl dX12_keep_1 ?_
  refine j_bipush (v := 24) X dX12_keep_4 (by decide) ?_
  refine j_join (pcJ := 49) (lsJ := fun q2 => [some (.ref 89), none]) (stJ := fun q2 => []) h (fun q2 σ3 h => ?_) (fun k1 hk1 h => ?_)
  · refine j_iconst (v := 0) X dX12_keep_49 (by decide) ?_
    refine j_istore_n (ls' := [some (.ref 89), some (.int (0 : Int32))]) X 1 dX12_keep_50 rfl (Nat.le_of_ble_eq_true rfl) rfl ?_
    obtain ⟨q6, σ7, hL9, h⟩ := jbd_some h
    refine X12_keep_L51_ok X  jFU (0 : Int32) σ3 _ hL9 ?_
    refine j_aload_n X 0 dX12_keep_83 rfl rfl ?_
    refine j_dup X dX12_keep_84 rfl ?_
    refine j_getI X fg_RX12_150 ln_89 ly_89 rfl dX12_keep_85 ?_
    refine j_iconst (v := 1) X dX12_keep_88 (by decide) ?_
    refine j_iadd X dX12_keep_89 ?_
    refine j_put X fp_RX12_150 ln_89 ly_89 rfl rfl rfl dX12_keep_90 h (fun σ8 h => ?_)
    obtain rfl := Option.some.inj h
    exact j_vret X R0 dX12_keep_93
  · refine j_icmp_ne (tgt := 49) X dX12_keep_6 (by decide) h (fun h => ?_) (fun h => ?_)
    · exact hk1 () σ h
    · refine j_iconst (v := 0) X dX12_keep_9 (by decide) ?_
      refine j_istore_n (ls' := [some (.ref 89), some (.int (0 : Int32))]) X 1 dX12_keep_10 rfl (Nat.le_of_ble_eq_true rfl) rfl ?_
      obtain ⟨q12, σ13, hL15, h⟩ := jbd_some h
      refine X12_keep_L11_ok X  jFU (0 : Int32) σ _ hL15 ?_
      refine j_aload_n X 0 dX12_keep_39 rfl rfl ?_
      refine j_dup X dX12_keep_40 rfl ?_
      refine j_getI X fg_RX12_150 ln_89 ly_89 rfl dX12_keep_41 ?_
      refine j_iconst (v := 1) X dX12_keep_44 (by decide) ?_
      refine j_isub X dX12_keep_45 ?_
      refine j_put X fp_RX12_150 ln_89 ly_89 rfl rfl rfl dX12_keep_46 h (fun σ14 h => ?_)
      exact hk1 () σ14 h
theorem ss_RX12_207 : jSiS RX12 207 yX12_isField cX12_isField 2 (some .boolean) 1 := ⟨tw_1042, tw_1043, tw_13, tw_1044, by decide, by decide, by decide +kernel⟩
theorem ss_RX12_221 : jSiS RX12 221 yX12_waysOf cX12_waysOf 3 (some .int) 1 := ⟨tw_1093, tw_1094, tw_13, tw_1095, by decide, by decide, by decide +kernel⟩
theorem sv_RX12_203 : jSiV RX12 203 yX12_isThere cX12_isThere 1 (some .boolean) 0 := ⟨tw_1037, tw_1039, ts_33, tw_13, tw_1040, by decide, by decide, by decide +kernel⟩
theorem sv_RX12_211 : jSiV RX12 211 yX12_isBurial cX12_isBurial 3 (some .boolean) 2 := ⟨tw_1045, tw_1047, ts_34, tw_13, tw_1048, by decide, by decide, by decide +kernel⟩
theorem sv_RX12_214 : jSiV RX12 214 yX12_keep cX12_keep 2 none 0 := ⟨tw_1068, tw_1070, ts_39, tw_13, tw_1071, by decide, by decide, by decide +kernel⟩
theorem sv_RX12_217 : jSiV RX12 217 yX12_see cX12_see 3 none 1 := ⟨tw_1072, tw_1074, ts_40, tw_13, tw_1075, by decide, by decide, by decide +kernel⟩
def f_X12_bury (a0 : Int32) (σ : jMem) : Option (Int32 × jMem) :=
  jlet (jset σ 89 0 (0 : Int32)) (fun σ1 =>
  jbd (f_X12_isThere  σ1) (fun v2 σ3 =>
  if ¬ v2 = 0 then
  jbd (f_X12_isField ((a0).toInt64) σ3) (fun v5 σ6 =>
  if ¬ v5 = 0 then
  jld σ6 93 67 (6 : Int32) (fun v8 =>
  jbd (f_X12_isBurial v8 a0 σ6) (fun v9 σ10 =>
  if ¬ v9 = 0 then
  jbv (f_X12_keep  σ10) (fun σ12 =>
  jbv (f_X12_see 93 σ12) (fun σ14 =>
  jbd (f_X12_waysOf 93 σ14) (fun v16 σ17 =>
  some ((v16, σ17)))))
else
  some (((-1000002 : Int32), σ10))))
else
  some (((-1000001 : Int32), σ6)))
else
  some (((-1000002 : Int32), σ3))))
set_option maxRecDepth 100000 in
set_option maxHeartbeats 4000000 in
theorem c_X12_bury {l : Launch} {D : va_G} {ad : Nat → Nat} {cid : Nat → ClassId} {a0 : Int32}  {σ : jMem} {r : Int32} {σ' : jMem} (h : f_X12_bury a0 σ = some (r, σ')) : jMet l D ad cid yX12_bury cX12_bury 2 (some .int) 4 99 [.ref 89, .int a0] σ (some (.int r)) σ' := by
  refine jMet_of (ls0 := [some (.ref 89), some (.int a0)]) (by decide) (Nat.le_of_ble_eq_true rfl) rfl (fun K X R0 _ => ?_)
  unfold f_X12_bury at h
  refine j_aload_n X 0 dX12_bury_0 rfl rfl ?_
  refine j_iconst (v := 0) X dX12_bury_1 (by decide) ?_
  refine j_put X fp_RX12_47 ln_89 ly_89 rfl rfl rfl dX12_bury_2 h (fun σ1 h => ?_)
  refine j_aload_n X 0 dX12_bury_5 rfl rfl ?_
  obtain ⟨v2, σ3, hm4, h⟩ := jbd_some h
  refine j_callV (as := []) (st := []) (st1 := [.int v2]) X ln_89 ly_89 rfl rfl sv_RX12_203 ⟨by decide, by decide⟩ rfl rfl (Nat.le_of_ble_eq_true rfl) rfl dX12_bury_6 jrv_i (c_X12_isThere  hm4) rfl ?_
  refine j_if_ne (tgt := 15) X dX12_bury_9 (by decide) h (fun h => ?_) (fun h => ?_)
  · refine j_iload_n X 1 dX12_bury_15 rfl rfl ?_
    refine j_i2l X dX12_bury_16 ?_
    obtain ⟨v5, σ6, hm7, h⟩ := jbd_some h
    refine j_callS (as := [.long ((a0).toInt64)]) (st := []) (st1 := [.int v5]) X ss_RX12_207 ⟨by decide, by decide⟩ rfl rfl (Nat.le_of_ble_eq_true rfl) rfl dX12_bury_17 jrv_i (c_X12_isField  hm7) rfl ?_
    refine j_if_ne (tgt := 26) X dX12_bury_20 (by decide) h (fun h => ?_) (fun h => ?_)
    · refine j_aload_n X 0 dX12_bury_26 rfl rfl ?_
      refine j_aload_n X 0 dX12_bury_27 rfl rfl ?_
      refine j_getR (t := 93) X fg_RX12_19 ln_89 ly_89 rfl dX12_bury_28 ?_
      refine j_bipush (v := 6) X dX12_bury_31 (by decide) ?_
      refine j_iaload X ln_93 ly_93 dX12_bury_33 h (fun v8 h => ?_)
      refine j_iload_n X 1 dX12_bury_34 rfl rfl ?_
      obtain ⟨v9, σ10, hm11, h⟩ := jbd_some h
      refine j_callV (as := [.int v8, .int a0]) (st := []) (st1 := [.int v9]) X ln_89 ly_89 rfl rfl sv_RX12_211 ⟨by decide, by decide⟩ rfl rfl (Nat.le_of_ble_eq_true rfl) rfl dX12_bury_35 jrv_i (c_X12_isBurial  hm11) rfl ?_
      refine j_if_ne (tgt := 44) X dX12_bury_38 (by decide) h (fun h => ?_) (fun h => ?_)
      · refine j_aload_n X 0 dX12_bury_44 rfl rfl ?_
        obtain ⟨σ12, hm13, h⟩ := jbv_some h
        refine j_callV (as := []) (st := []) (st1 := []) X ln_89 ly_89 rfl rfl sv_RX12_214 ⟨by decide, by decide⟩ rfl rfl (Nat.le_of_ble_eq_true rfl) rfl dX12_bury_45 jrv_v (c_X12_keep  hm13) rfl ?_
        refine j_aload_n X 0 dX12_bury_48 rfl rfl ?_
        refine j_aload_n X 0 dX12_bury_49 rfl rfl ?_
        refine j_getR (t := 93) X fg_RX12_19 ln_89 ly_89 rfl dX12_bury_50 ?_
        obtain ⟨σ14, hm15, h⟩ := jbv_some h
        refine j_callV (as := [.ref 93]) (st := []) (st1 := []) X ln_89 ly_89 rfl rfl sv_RX12_217 ⟨by decide, by decide⟩ rfl rfl (Nat.le_of_ble_eq_true rfl) rfl dX12_bury_53 jrv_v (c_X12_see ⟨ln_93, ly_93⟩ hm15) rfl ?_
        refine j_aload_n X 0 dX12_bury_56 rfl rfl ?_
        refine j_getR (t := 93) X fg_RX12_19 ln_89 ly_89 rfl dX12_bury_57 ?_
        obtain ⟨v16, σ17, hm18, h⟩ := jbd_some h
        refine j_callS (as := [.ref 93]) (st := []) (st1 := [.int v16]) X ss_RX12_221 ⟨by decide, by decide⟩ rfl rfl (Nat.le_of_ble_eq_true rfl) rfl dX12_bury_60 jrv_i (c_X12_waysOf ⟨ln_93, ly_93⟩ hm18) rfl ?_
        obtain ⟨rfl, rfl⟩ := jin2 h
        exact j_iret X R0 dX12_bury_63
      · refine j_ldc (v := -1000002) X tw_1041 dX12_bury_41 ?_
        obtain ⟨rfl, rfl⟩ := jin2 h
        exact j_iret X R0 dX12_bury_43
    · refine j_ldc (v := -1000001) X tw_948 dX12_bury_23 ?_
      obtain ⟨rfl, rfl⟩ := jin2 h
      exact j_iret X R0 dX12_bury_25
  · refine j_ldc (v := -1000002) X tw_1041 dX12_bury_12 ?_
    obtain ⟨rfl, rfl⟩ := jin2 h
    exact j_iret X R0 dX12_bury_14
