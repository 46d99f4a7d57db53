theorem ss_RX12_207 : jSiS RX12 207 yX12_isField cX12_isField 2 (some .boolean) 1 := ⟨tw_1042, tw_1043, tw_13, tw_1044, by decide, by decide, by decide +kernel⟩
theorem ss_RX12_221 : jSiS RX12 221 yX12_waysOf cX12_waysOf 3 (some .int) 1 := ⟨tw_1093, tw_1094, tw_13, tw_1095, by decide, by decide, by decide +kernel⟩
theorem sv_RX12_203 : jSiV RX12 203 yX12_isThere cX12_isThere 1 (some .boolean) 0 := ⟨tw_1037, tw_1039, ts_33, tw_13, tw_1040, by decide, by decide, by decide +kernel⟩
theorem sv_RX12_211 : jSiV RX12 211 yX12_isBurial cX12_isBurial 3 (some .boolean) 2 := ⟨tw_1045, tw_1047, ts_34, tw_13, tw_1048, by decide, by decide, by decide +kernel⟩
theorem sv_RX12_214 : jSiV RX12 214 yX12_keep cX12_keep 2 none 0 := ⟨tw_1068, tw_1070, ts_39, tw_13, tw_1071, by decide, by decide, by decide +kernel⟩
theorem sv_RX12_217 : jSiV RX12 217 yX12_see cX12_see 3 none 1 := ⟨tw_1072, tw_1074, ts_40, tw_13, tw_1075, by decide, by decide, by decide +kernel⟩
def f_X12_bury (a0 : Int32) (σ : jMem) : Option (Int32 × jMem) :=
  jlet (jset σ 89 0 (0 : Int32)) (fun σ1 =>
  jbd (f_X12_isThere  σ1) (fun v2 σ3 =>
  if ¬ v2 = 0 then
  jbd (f_X12_isField ((a0).toInt64) σ3) (fun v5 σ6 =>
  if ¬ v5 = 0 then
  jld σ6 93 67 (6 : Int32) (fun v8 =>
  jbd (f_X12_isBurial v8 a0 σ6) (fun v9 σ10 =>
  if ¬ v9 = 0 then
  jbv (f_X12_keep  σ10) (fun σ12 =>
  jbv (f_X12_see 93 σ12) (fun σ14 =>
  jbd (f_X12_waysOf 93 σ14) (fun v16 σ17 =>
  some ((v16, σ17)))))
else
  some (((-1000002 : Int32), σ10))))
else
  some (((-1000001 : Int32), σ6)))
else
  some (((-1000002 : Int32), σ3))))
set_option maxRecDepth 100000 in
set_option maxHeartbeats 4000000 in
theorem c_X12_bury {l : Launch} {D : va_G} {ad : Nat → Nat} {cid : Nat → ClassId} {a0 : Int32}  {σ : jMem} {r : Int32} {σ' : jMem} (h : f_X12_bury a0 σ = some (r, σ')) : jMet l D ad cid yX12_bury cX12_bury 2 (some .int) 4 99 [.ref 89, .int a0] σ (some (.int r)) σ' := by
  refine jMet_of (ls0 := [some (.ref 89), some (.int a0)]) (by decide) (Nat.le_of_ble_eq_true rfl) rfl (fun K X R0 _ => ?_)
  unfold f_X12_bury at h
  refine j_aload_n X 0 dX12_bury_0 rfl rfl ?_
  refine j_iconst (v := 0) X dX12_bury_1 (by decide) ?_
  refine j_put X fp_RX12_47 ln_89 ly_89 rfl rfl rfl dX12_bury_2 h (fun σ1 h => ?_)
  refine j_aload_n X 0 dX12_bury_5 rfl rfl ?_
  obtain ⟨v2, σ3, hm4, h⟩ := jbd_some h
  refine j_callV (as := []) (st := []) (st1 := [.int v2]) X ln_89 ly_89 rfl rfl sv_RX12_203 ⟨by decide, by decide⟩ rfl rfl (Nat.le_of_ble_eq_true rfl) rfl dX12_bury_6 jrv_i (c_X12_isThere  hm4) rfl ?_
  refine j_if_ne (tgt := 15) X dX12_bury_9 (by decide) h (fun h => ?_) (fun h => ?_)
  · refine j_iload_n X 1 dX12_bury_15 rfl rfl ?_
    refine j_i2l X dX12_bury_16 ?_
    obtain ⟨v5, σ6, hm7, h⟩ := jbd_some h
    refine j_callS (as := [.long ((a0).toInt64)]) (st := []) (st1 := [.int v5]) X ss_RX12_207 ⟨by decide, by decide⟩ rfl rfl (Nat.le_of_ble_eq_true rfl) rfl dX12_bury_17 jrv_i (c_X12_isField  hm7) rfl ?_
    refine j_if_ne (tgt := 26) X dX12_bury_20 (by decide) h (fun h => ?_) (fun h => ?_)
    · refine j_aload_n X 0 dX12_bury_26 rfl rfl ?_
      refine j_aload_n X 0 dX12_bury_27 rfl rfl ?_
      refine j_getR (t := 93) X fg_RX12_19 ln_89 ly_89 rfl dX12_bury_28 ?_
      refine j_bipush (v := 6) X dX12_bury_31 (by decide) ?_
      refine j_iaload X ln_93 ly_93 dX12_bury_33 h (fun v8 h => ?_)
      refine j_iload_n X 1 dX12_bury_34 rfl rfl ?_
      obtain ⟨v9, σ10, hm11, h⟩ := jbd_some h
      refine j_callV (as := [.int v8, .int a0]) (st := []) (st1 := [.int v9]) X ln_89 ly_89 rfl rfl sv_RX12_211 ⟨by decide, by decide⟩ rfl rfl (Nat.le_of_ble_eq_true rfl) rfl dX12_bury_35 jrv_i (c_X12_isBurial  hm11) rfl ?_
      refine j_if_ne (tgt := 44) X dX12_bury_38 (by decide) h (fun h => ?_) (fun h => ?_)
      · refine j_aload_n X 0 dX12_bury_44 rfl rfl ?_
        obtain ⟨σ12, hm13, h⟩ := jbv_some h
        refine j_callV (as := []) (st := []) (st1 := []) X ln_89 ly_89 rfl rfl sv_RX12_214 ⟨by decide, by decide⟩ rfl rfl (Nat.le_of_ble_eq_true rfl) rfl dX12_bury_45 jrv_v (c_X12_keep  hm13) rfl ?_
        refine j_aload_n X 0 dX12_bury_48 rfl rfl ?_
        refine j_aload_n X 0 dX12_bury_49 rfl rfl ?_
        refine j_getR (t := 93) X fg_RX12_19 ln_89 ly_89 rfl dX12_bury_50 ?_
        obtain ⟨σ14, hm15, h⟩ := jbv_some h
        refine j_callV (as := [.ref 93]) (st := []) (st1 := []) X ln_89 ly_89 rfl rfl sv_RX12_217 ⟨by decide, by decide⟩ rfl rfl (Nat.le_of_ble_eq_true rfl) rfl dX12_bury_53 jrv_v (c_X12_see ⟨ln_93, ly_93⟩ hm15) rfl ?_
        refine j_aload_n X 0 dX12_bury_56 rfl rfl ?_
        refine j_getR (t := 93) X fg_RX12_19 ln_89 ly_89 rfl dX12_bury_57 ?_
        obtain ⟨v16, σ17, hm18, h⟩ := jbd_some h
        refine j_callS (as := [.ref 93]) (st := []) (st1 := [.int v16]) X ss_RX12_221 ⟨by decide, by decide⟩ rfl rfl (Nat.le_of_ble_eq_true rfl) rfl dX12_bury_60 jrv_i (c_X12_waysOf ⟨ln_93, ly_93⟩ hm18) rfl ?_
        obtain ⟨rfl, rfl⟩ := jin2 h
        exact j_iret X R0 dX12_bury_63
      · refine j_ldc (v := -1000002) X tw_1041 dX12_bury_41 ?_
        obtain ⟨rfl, rfl⟩ := jin2 h
        exact j_iret X R0 dX12_bury_43
    · refine j_ldc (v := -1000001) X tw_948 dX12_bury_23 ?_
      obtain ⟨rfl, rfl⟩ := jin2 h
      exact j_iret X R0 dX12_bury_25
  · refine j_ldc (v := -1000002) X tw_1041 dX12_bury_12 ?_
    obtain ⟨rfl, rfl⟩ := jin2 h
    exact j_iret X R0 dX12_bury_14
theorem ss_RX12_227 : jSiS RX12 227 yX12_year cX12_year 4 none 1 := ⟨tw_1104, tw_1105, tw_13, tw_1106, by decide, by decide, by decide +kernel⟩
theorem ss_RX12_230 : jSiS RX12 230 yX12_living cX12_living 3 (some .int) 1 := ⟨tw_1107, tw_1108, tw_13, tw_1109, by decide, by decide, by decide +kernel⟩
def X12_years_L49_b (p1 : Int32) (rec : Int32 → jMem → Option ((Unit) × jMem)) (x2 : Int32) (σ : jMem) : Option ((Unit) × jMem) :=
  if p1 ≤ x2 then
  some ((), σ)
else
  jbv (f_X12_keep  σ) (fun σ9 =>
  jbv (f_X12_year 93 σ9) (fun σ11 =>
  rec (x2 + 1) σ11))
def X12_years_L49 (p1 : Int32) : Nat → Int32 → jMem → Option ((Unit) × jMem) := jloop (fun rec s σ => X12_years_L49_b p1 rec s σ)
set_option maxRecDepth 100000 in
set_option maxHeartbeats 4000000 in
theorem X12_years_L49_bok {K : jK} (X : JX K cX12_years 3 RX12 3 66) {p1 : Int32}  {rec : Int32 → jMem → Option ((Unit) × jMem)} (ih : ∀ (s : Int32) (σ : jMem) (o : (Unit) × jMem), rec s σ = some o → (J K 71 [some (.ref 89), none, none] [] o.2) → J K 49 [some (.ref 89), some (.int p1), some (.int s)] [] σ) : ∀ (x2 : Int32) (σ : jMem) (o : (Unit) × jMem), X12_years_L49_b p1 rec x2 σ = some o → (J K 71 [some (.ref 89), none, none] [] o.2) → J K 49 [some (.ref 89), some (.int p1), some (.int x2)] [] σ := by
  intro x2 σ o h kk
  unfold X12_years_L49_b at h
  refine j_iload_n X 2 dX12_years_49 rfl rfl ?_
  refine j_iload_n X 1 dX12_years_50 rfl rfl ?_
  refine j_icmp_ge (tgt := 71) X dX12_years_51 (by decide) h (fun h => ?_) (fun h => ?_)
  · obtain rfl := Option.some.inj h
    exact j_sub (ls' := [some (.ref 89), none, none]) ⟨Or.inr rfl, Or.inl rfl, Or.inl rfl, trivial⟩ kk
  · refine j_aload_n X 0 dX12_years_54 rfl rfl ?_
    obtain ⟨σ9, hm10, h⟩ := jbv_some h
    refine j_callV (as := []) (st := []) (st1 := []) X ln_89 ly_89 rfl rfl sv_RX12_214 ⟨by decide, by decide⟩ rfl rfl (Nat.le_of_ble_eq_true rfl) rfl dX12_years_55 jrv_v (c_X12_keep  hm10) rfl ?_
    refine j_aload_n X 0 dX12_years_58 rfl rfl ?_
    refine j_getR (t := 93) X fg_RX12_19 ln_89 ly_89 rfl dX12_years_59 ?_
    obtain ⟨σ11, hm12, h⟩ := jbv_some h
    refine j_callS (as := [.ref 93]) (st := []) (st1 := []) X ss_RX12_227 ⟨by decide, by decide⟩ rfl rfl (Nat.le_of_ble_eq_true rfl) rfl dX12_years_62 jrv_v (c_X12_year ⟨ln_93, ly_93⟩ hm12) rfl ?_
    refine j_iinc (v := (x2 + 1)) (ls' := [some (.ref 89), some (.int p1), some (.int (x2 + 1))]) X dX12_years_65 rfl rfl (Nat.le_of_ble_eq_true rfl) rfl ?_
    refine j_goto (tgt := 49) X dX12_years_68 (by decide) ?_
    exact ih (x2 + 1) σ11 _ h kk
theorem X12_years_L49_ok {K : jK} (X : JX K cX12_years 3 RX12 3 66) {p1 : Int32}  : ∀ (n : Nat) (s : Int32) (σ : jMem) (o : (Unit) × jMem), X12_years_L49 p1 n s σ = some o → (J K 71 [some (.ref 89), none, none] [] o.2) → J K 49 [some (.ref 89), some (.int p1), some (.int s)] [] σ := by
  intro n
  induction n with
  | zero => intro s σ o h; cases h
  | succ n ih => intro s σ o h; exact X12_years_L49_bok X  ih (s) σ o h
def f_X12_years (a0 : Int32) (σ : jMem) : Option (Int32 × jMem) :=
  jlet (jset σ 89 0 (0 : Int32)) (fun σ1 =>
  jbd (f_X12_isThere  σ1) (fun v2 σ3 =>
  if ¬ v2 = 0 then
  jbd (f_X12_in ((a0).toInt64) (1 : Int64) (24 : Int64) σ3) (fun v5 σ6 =>
  if ¬ v5 = 0 then
  jld σ6 93 67 (5 : Int32) (fun v8 =>
  if (v8 + a0) ≤ (999 : Int32) then
  jbd (X12_years_L49 (a0) jFU (0 : Int32) σ6) (fun q13 σ14 =>
  jbd (f_X12_living 93 σ14) (fun v15 σ16 =>
  some ((v15, σ16))))
else
  some (((-1000003 : Int32), σ6)))
else
  some (((-1000001 : Int32), σ6)))
else
  some (((-1000002 : Int32), σ3))))
set_option maxRecDepth 100000 in
set_option maxHeartbeats 4000000 in
theorem c_X12_years {l : Launch} {D : va_G} {ad : Nat → Nat} {cid : Nat → ClassId} {a0 : Int32}  {σ : jMem} {r : Int32} {σ' : jMem} (h : f_X12_years a0 σ = some (r, σ')) : jMet l D ad cid yX12_years cX12_years 3 (some .int) 3 66 [.ref 89, .int a0] σ (some (.int r)) σ' := by
  refine jMet_of (ls0 := [some (.ref 89), some (.int a0), none]) (by decide) (Nat.le_of_ble_eq_true rfl) rfl (fun K X R0 _ => ?_)
  unfold f_X12_years at h
  refine j_aload_n X 0 dX12_years_0 rfl rfl ?_
  refine j_iconst (v := 0) X dX12_years_1 (by decide) ?_
  refine j_put X fp_RX12_47 ln_89 ly_89 rfl rfl rfl dX12_years_2 h (fun σ1 h => ?_)
  refine j_aload_n X 0 dX12_years_5 rfl rfl ?_
  obtain ⟨v2, σ3, hm4, h⟩ := jbd_some h
  refine j_callV (as := []) (st := []) (st1 := [.int v2]) X ln_89 ly_89 rfl rfl sv_RX12_203 ⟨by decide, by decide⟩ rfl rfl (Nat.le_of_ble_eq_true rfl) rfl dX12_years_6 jrv_i (c_X12_isThere  hm4) rfl ?_
  refine j_if_ne (tgt := 15) X dX12_years_9 (by decide) h (fun h => ?_) (fun h => ?_)
  · refine j_iload_n X 1 dX12_years_15 rfl rfl ?_
    refine j_i2l X dX12_years_16 ?_
    refine j_lconst (v := 1) X dX12_years_17 (by decide) ?_
    refine j_ldc2_w (v := 24) X tw_1103 dX12_years_18 ?_
    obtain ⟨v5, σ6, hm7, h⟩ := jbd_some h
    refine j_callS (as := [.long ((a0).toInt64), .long (1 : Int64), .long (24 : Int64)]) (st := []) (st1 := [.int v5]) X ss_RX12_57 ⟨by decide, by decide⟩ rfl rfl (Nat.le_of_ble_eq_true rfl) rfl dX12_years_21 jrv_i (c_X12_in  hm7) rfl ?_
    refine j_if_ne (tgt := 30) X dX12_years_24 (by decide) h (fun h => ?_) (fun h => ?_)
    · refine j_aload_n X 0 dX12_years_30 rfl rfl ?_
      refine j_getR (t := 93) X fg_RX12_19 ln_89 ly_89 rfl dX12_years_31 ?_
      refine j_iconst (v := 5) X dX12_years_34 (by decide) ?_
      refine j_iaload X ln_93 ly_93 dX12_years_35 h (fun v8 h => ?_)
      refine j_iload_n X 1 dX12_years_36 rfl rfl ?_
      refine j_iadd X dX12_years_37 ?_
      refine j_sipush (v := 999) X dX12_years_38 (by decide) ?_
      refine j_icmp_le (tgt := 47) X dX12_years_41 (by decide) h (fun h => ?_) (fun h => ?_)
      · refine j_iconst (v := 0) X dX12_years_47 (by decide) ?_
        refine j_istore_n (ls' := [some (.ref 89), some (.int a0), some (.int (0 : Int32))]) X 2 dX12_years_48 rfl (Nat.le_of_ble_eq_true rfl) rfl ?_
        obtain ⟨q13, σ14, hL18, h⟩ := jbd_some h
        refine X12_years_L49_ok X  jFU (0 : Int32) σ6 _ hL18 ?_
        refine j_aload_n X 0 dX12_years_71 rfl rfl ?_
        refine j_getR (t := 93) X fg_RX12_19 ln_89 ly_89 rfl dX12_years_72 ?_
        obtain ⟨v15, σ16, hm17, h⟩ := jbd_some h
        refine j_callS (as := [.ref 93]) (st := []) (st1 := [.int v15]) X ss_RX12_230 ⟨by decide, by decide⟩ rfl rfl (Nat.le_of_ble_eq_true rfl) rfl dX12_years_75 jrv_i (c_X12_living ⟨ln_93, ly_93⟩ hm17) rfl ?_
        obtain ⟨rfl, rfl⟩ := jin2 h
        exact j_iret X R0 dX12_years_78
      · refine j_ldc (v := -1000003) X tw_971 dX12_years_44 ?_
        obtain ⟨rfl, rfl⟩ := jin2 h
        exact j_iret X R0 dX12_years_46
    · refine j_ldc (v := -1000001) X tw_948 dX12_years_27 ?_
      obtain ⟨rfl, rfl⟩ := jin2 h
      exact j_iret X R0 dX12_years_29
  · refine j_ldc (v := -1000002) X tw_1041 dX12_years_12 ?_
    obtain ⟨rfl, rfl⟩ := jin2 h
    exact j_iret X R0 dX12_years_14
theorem sv_RX12_233 : jSiV RX12 233 yX12_isPath cX12_isPath 2 (some .boolean) 1 := ⟨tw_1114, tw_1116, ts_43, tw_13, tw_1117, by decide, by decide, by decide +kernel⟩
def f_X12_lock (a0 : Int32) (a1 : Int32) (σ : jMem) : Option (Int32 × jMem) :=
  jlet (jset σ 89 0 (0 : Int32)) (fun σ1 =>
  jbd (f_X12_isPath a0 σ1) (fun v2 σ3 =>
  if v2 = 0 then
  some (((-1000001 : Int32), σ3))
else
  jbd (f_X12_in ((a1).toInt64) (0 : Int64) (1 : Int64) σ3) (fun v5 σ6 =>
  if ¬ v5 = 0 then
  jld σ6 93 67 (6 : Int32) (fun v8 =>
  if ¬ ((v8 >>> (a0 &&& 31)) &&& (1 : Int32)) = a1 then
  jbv (f_X12_keep  σ6) (fun σ9 =>
  jld σ9 93 67 (6 : Int32) (fun v11 =>
  jst σ9 93 67 (6 : Int32) (v11 ^^^ ((1 : Int32) <<< (a0 &&& 31))) (fun σ12 =>
  jld σ12 93 67 (6 : Int32) (fun v13 =>
  some ((v13, σ12))))))
else
  some (((-1000002 : Int32), σ6)))
else
  some (((-1000001 : Int32), σ6)))))
set_option maxRecDepth 100000 in
set_option maxHeartbeats 4000000 in
theorem c_X12_lock {l : Launch} {D : va_G} {ad : Nat → Nat} {cid : Nat → ClassId} {a0 : Int32} {a1 : Int32}  {σ : jMem} {r : Int32} {σ' : jMem} (h : f_X12_lock a0 a1 σ = some (r, σ')) : jMet l D ad cid yX12_lock cX12_lock 3 (some .int) 2 46 [.ref 89, .int a0, .int a1] σ (some (.int r)) σ' := by
  refine jMet_of (ls0 := [some (.ref 89), some (.int a0), some (.int a1)]) (by decide) (Nat.le_of_ble_eq_true rfl) rfl (fun K X R0 _ => ?_)
  unfold f_X12_lock at h
  refine j_aload_n X 0 dX12_lock_0 rfl rfl ?_
  refine j_iconst (v := 0) X dX12_lock_1 (by decide) ?_
  refine j_put X fp_RX12_47 ln_89 ly_89 rfl rfl rfl dX12_lock_2 h (fun σ1 h => ?_)
  refine j_aload_n X 0 dX12_lock_5 rfl rfl ?_
  refine j_iload_n X 1 dX12_lock_6 rfl rfl ?_
  obtain ⟨v2, σ3, hm4, h⟩ := jbd_some h
  refine j_callV (as := [.int a0]) (st := []) (st1 := [.int v2]) X ln_89 ly_89 rfl rfl sv_RX12_233 ⟨by decide, by decide⟩ rfl rfl (Nat.le_of_ble_eq_true rfl) rfl dX12_lock_7 jrv_i (c_X12_isPath  hm4) rfl ?_
  refine j_if_eq (tgt := 23) X dX12_lock_10 (by decide) h (fun h => ?_) (fun h => ?_)
  · refine j_ldc (v := -1000001) X tw_948 dX12_lock_23 ?_
    obtain ⟨rfl, rfl⟩ := jin2 h
    exact j_iret X R0 dX12_lock_25
  · refine j_iload_n X 2 dX12_lock_13 rfl rfl ?_
    refine j_i2l X dX12_lock_14 ?_
    refine j_lconst (v := 0) X dX12_lock_15 (by decide) ?_
    refine j_lconst (v := 1) X dX12_lock_16 (by decide) ?_
    obtain ⟨v5, σ6, hm7, h⟩ := jbd_some h
    refine j_callS (as := [.long ((a1).toInt64), .long (0 : Int64), .long (1 : Int64)]) (st := []) (st1 := [.int v5]) X ss_RX12_57 ⟨by decide, by decide⟩ rfl rfl (Nat.le_of_ble_eq_true rfl) rfl dX12_lock_17 jrv_i (c_X12_in  hm7) rfl ?_
    refine j_if_ne (tgt := 26) X dX12_lock_20 (by decide) h (fun h => ?_) (fun h => ?_)
    · refine j_aload_n X 0 dX12_lock_26 rfl rfl ?_
      refine j_getR (t := 93) X fg_RX12_19 ln_89 ly_89 rfl dX12_lock_27 ?_
      refine j_bipush (v := 6) X dX12_lock_30 (by decide) ?_
      refine j_iaload X ln_93 ly_93 dX12_lock_32 h (fun v8 h => ?_)
      refine j_iload_n X 1 dX12_lock_33 rfl rfl ?_
      refine j_ishr X dX12_lock_34 ?_
      refine j_iconst (v := 1) X dX12_lock_35 (by decide) ?_
      refine j_iand X dX12_lock_36 ?_
      refine j_iload_n X 2 dX12_lock_37 rfl rfl ?_
      refine j_icmp_ne (tgt := 44) X dX12_lock_38 (by decide) h (fun h => ?_) (fun h => ?_)
      · refine j_aload_n X 0 dX12_lock_44 rfl rfl ?_
        obtain ⟨σ9, hm10, h⟩ := jbv_some h
        refine j_callV (as := []) (st := []) (st1 := []) X ln_89 ly_89 rfl rfl sv_RX12_214 ⟨by decide, by decide⟩ rfl rfl (Nat.le_of_ble_eq_true rfl) rfl dX12_lock_45 jrv_v (c_X12_keep  hm10) rfl ?_
        refine j_aload_n X 0 dX12_lock_48 rfl rfl ?_
        refine j_getR (t := 93) X fg_RX12_19 ln_89 ly_89 rfl dX12_lock_49 ?_
        refine j_bipush (v := 6) X dX12_lock_52 (by decide) ?_
        refine j_dup2 X dX12_lock_54 rfl rfl ?_
        refine j_iaload X ln_93 ly_93 dX12_lock_55 h (fun v11 h => ?_)
        refine j_iconst (v := 1) X dX12_lock_56 (by decide) ?_
        refine j_iload_n X 1 dX12_lock_57 rfl rfl ?_
        refine j_ishl X dX12_lock_58 ?_
        refine j_ixor X dX12_lock_59 ?_
        refine j_iastore X ln_93 ly_93 dX12_lock_60 h (fun σ12 h => ?_)
        refine j_aload_n X 0 dX12_lock_61 rfl rfl ?_
        refine j_getR (t := 93) X fg_RX12_19 ln_89 ly_89 rfl dX12_lock_62 ?_
        refine j_bipush (v := 6) X dX12_lock_65 (by decide) ?_
        refine j_iaload X ln_93 ly_93 dX12_lock_67 h (fun v13 h => ?_)
        obtain ⟨rfl, rfl⟩ := jin2 h
        exact j_iret X R0 dX12_lock_68
      · refine j_ldc (v := -1000002) X tw_1041 dX12_lock_41 ?_
        obtain ⟨rfl, rfl⟩ := jin2 h
        exact j_iret X R0 dX12_lock_43
    · refine j_ldc (v := -1000001) X tw_948 dX12_lock_23 ?_
      obtain ⟨rfl, rfl⟩ := jin2 h
      exact j_iret X R0 dX12_lock_25
theorem sv_RX12_236 : jSiV RX12 236 yX12_isWitness cX12_isWitness 2 (some .boolean) 1 := ⟨tw_1122, tw_1124, ts_44, tw_13, tw_1125, by decide, by decide, by decide +kernel⟩
def f_X12_follow (a0 : Int32) (σ : jMem) : Option (Int32 × jMem) :=
  jlet (jset σ 89 0 (0 : Int32)) (fun σ1 =>
  jbd (f_X12_isWitness a0 σ1) (fun v2 σ3 =>
  if ¬ v2 = 0 then
  jbd (f_X12_lives 93 a0 σ3) (fun v5 σ6 =>
  if v5 = 0 then
  jbv (f_X12_keep  σ6) (fun σ8 =>
  jst σ8 93 67 (((43 : Int32) + ((4 : Int32) * a0)) + (1 : Int32)) (0 : Int32) (fun σ10 =>
  jst σ10 93 67 (((43 : Int32) + ((4 : Int32) * a0)) + (3 : Int32)) (0 : Int32) (fun σ11 =>
  jbd (f_X12_living 93 σ11) (fun v12 σ13 =>
  some ((v12, σ13))))))
else
  some (((-1000002 : Int32), σ6)))
else
  some (((-1000001 : Int32), σ3))))
set_option maxRecDepth 100000 in
set_option maxHeartbeats 4000000 in
theorem c_X12_follow {l : Launch} {D : va_G} {ad : Nat → Nat} {cid : Nat → ClassId} {a0 : Int32}  {σ : jMem} {r : Int32} {σ' : jMem} (h : f_X12_follow a0 σ = some (r, σ')) : jMet l D ad cid yX12_follow cX12_follow 2 (some .int) 3 65 [.ref 89, .int a0] σ (some (.int r)) σ' := by
  refine jMet_of (ls0 := [some (.ref 89), some (.int a0)]) (by decide) (Nat.le_of_ble_eq_true rfl) rfl (fun K X R0 _ => ?_)
  unfold f_X12_follow at h
  refine j_aload_n X 0 dX12_follow_0 rfl rfl ?_
  refine j_iconst (v := 0) X dX12_follow_1 (by decide) ?_
  refine j_put X fp_RX12_47 ln_89 ly_89 rfl rfl rfl dX12_follow_2 h (fun σ1 h => ?_)
  refine j_aload_n X 0 dX12_follow_5 rfl rfl ?_
  refine j_iload_n X 1 dX12_follow_6 rfl rfl ?_
  obtain ⟨v2, σ3, hm4, h⟩ := jbd_some h
  refine j_callV (as := [.int a0]) (st := []) (st1 := [.int v2]) X ln_89 ly_89 rfl rfl sv_RX12_236 ⟨by decide, by decide⟩ rfl rfl (Nat.le_of_ble_eq_true rfl) rfl dX12_follow_7 jrv_i (c_X12_isWitness  hm4) rfl ?_
  refine j_if_ne (tgt := 16) X dX12_follow_10 (by decide) h (fun h => ?_) (fun h => ?_)
  · refine j_aload_n X 0 dX12_follow_16 rfl rfl ?_
    refine j_getR (t := 93) X fg_RX12_19 ln_89 ly_89 rfl dX12_follow_17 ?_
    refine j_iload_n X 1 dX12_follow_20 rfl rfl ?_
    obtain ⟨v5, σ6, hm7, h⟩ := jbd_some h
    refine j_callS (as := [.ref 93, .int a0]) (st := []) (st1 := [.int v5]) X ss_RX12_191 ⟨by decide, by decide⟩ rfl rfl (Nat.le_of_ble_eq_true rfl) rfl dX12_follow_21 jrv_i (c_X12_lives ⟨ln_93, ly_93⟩ hm7) rfl ?_
    refine j_if_eq (tgt := 30) X dX12_follow_24 (by decide) h (fun h => ?_) (fun h => ?_)
    · refine j_aload_n X 0 dX12_follow_30 rfl rfl ?_
      obtain ⟨σ8, hm9, h⟩ := jbv_some h
      refine j_callV (as := []) (st := []) (st1 := []) X ln_89 ly_89 rfl rfl sv_RX12_214 ⟨by decide, by decide⟩ rfl rfl (Nat.le_of_ble_eq_true rfl) rfl dX12_follow_31 jrv_v (c_X12_keep  hm9) rfl ?_
      refine j_aload_n X 0 dX12_follow_34 rfl rfl ?_
      refine j_getR (t := 93) X fg_RX12_19 ln_89 ly_89 rfl dX12_follow_35 ?_
      refine j_bipush (v := 43) X dX12_follow_38 (by decide) ?_
      refine j_iconst (v := 4) X dX12_follow_40 (by decide) ?_
      refine j_iload_n X 1 dX12_follow_41 rfl rfl ?_
      refine j_imul X dX12_follow_42 ?_
      refine j_iadd X dX12_follow_43 ?_
      refine j_iconst (v := 1) X dX12_follow_44 (by decide) ?_
      refine j_iadd X dX12_follow_45 ?_
      refine j_iconst (v := 0) X dX12_follow_46 (by decide) ?_
      refine j_iastore X ln_93 ly_93 dX12_follow_47 h (fun σ10 h => ?_)
      refine j_aload_n X 0 dX12_follow_48 rfl rfl ?_
      refine j_getR (t := 93) X fg_RX12_19 ln_89 ly_89 rfl dX12_follow_49 ?_
      refine j_bipush (v := 43) X dX12_follow_52 (by decide) ?_
      refine j_iconst (v := 4) X dX12_follow_54 (by decide) ?_
      refine j_iload_n X 1 dX12_follow_55 rfl rfl ?_
      refine j_imul X dX12_follow_56 ?_
      refine j_iadd X dX12_follow_57 ?_
      refine j_iconst (v := 3) X dX12_follow_58 (by decide) ?_
      refine j_iadd X dX12_follow_59 ?_
      refine j_iconst (v := 0) X dX12_follow_60 (by decide) ?_
      refine j_iastore X ln_93 ly_93 dX12_follow_61 h (fun σ11 h => ?_)
      refine j_aload_n X 0 dX12_follow_62 rfl rfl ?_
      refine j_getR (t := 93) X fg_RX12_19 ln_89 ly_89 rfl dX12_follow_63 ?_
      obtain ⟨v12, σ13, hm14, h⟩ := jbd_some h
      refine j_callS (as := [.ref 93]) (st := []) (st1 := [.int v12]) X ss_RX12_230 ⟨by decide, by decide⟩ rfl rfl (Nat.le_of_ble_eq_true rfl) rfl dX12_follow_66 jrv_i (c_X12_living ⟨ln_93, ly_93⟩ hm14) rfl ?_
      obtain ⟨rfl, rfl⟩ := jin2 h
      exact j_iret X R0 dX12_follow_69
    · refine j_ldc (v := -1000002) X tw_1041 dX12_follow_27 ?_
      obtain ⟨rfl, rfl⟩ := jin2 h
      exact j_iret X R0 dX12_follow_29
  · refine j_ldc (v := -1000001) X tw_948 dX12_follow_13 ?_
    obtain ⟨rfl, rfl⟩ := jin2 h
    exact j_iret X R0 dX12_follow_15
def X12_undo_L27_b  (rec : Int32 → jMem → Option ((Unit) × jMem)) (x1 : Int32) (σ : jMem) : Option ((Unit) × jMem) :=
  if (67 : Int32) ≤ x1 then
  some ((), σ)
else
  jld σ 96 1608 (((67 : Int32) * (σ.1 89 9)) + x1) (fun v3 =>
  jst σ 93 67 x1 v3 (fun σ4 =>
  rec (x1 + 1) σ4))
def X12_undo_L27  : Nat → Int32 → jMem → Option ((Unit) × jMem) := jloop (fun rec s σ => X12_undo_L27_b  rec s σ)
set_option maxRecDepth 100000 in
set_option maxHeartbeats 4000000 in
theorem X12_undo_L27_bok {K : jK} (X : JX K cX12_undo 2 RX12 0 0)   {rec : Int32 → jMem → Option ((Unit) × jMem)} (ih : ∀ (s : Int32) (σ : jMem) (o : (Unit) × jMem), rec s σ = some o → (J K 59 [some (.ref 89), none] [] o.2) → J K 27 [some (.ref 89), some (.int s)] [] σ) : ∀ (x1 : Int32) (σ : jMem) (o : (Unit) × jMem), X12_undo_L27_b  rec x1 σ = some o → (J K 59 [some (.ref 89), none] [] o.2) → J K 27 [some (.ref 89), some (.int x1)] [] σ := by
  intro x1 σ o h kk
  unfold X12_undo_L27_b at h
  refine j_iload_n X 1 dX12_undo_27 rfl rfl ?_
  refine j_bipush (v := 67) X dX12_undo_28 (by decide) ?_
  refine j_icmp_ge (tgt := 59) X dX12_undo_30 (by decide) h (fun h => ?_) (fun h => ?_)
  · obtain rfl := Option.some.inj h
    exact j_sub (ls' := [some (.ref 89), none]) ⟨Or.inr rfl, Or.inl rfl, trivial⟩ kk
  · refine j_aload_n X 0 dX12_undo_33 rfl rfl ?_
    refine j_getR (t := 93) X fg_RX12_19 ln_89 ly_89 rfl dX12_undo_34 ?_
    refine j_iload_n X 1 dX12_undo_37 rfl rfl ?_
    refine j_aload_n X 0 dX12_undo_38 rfl rfl ?_
    refine j_getR (t := 96) X fg_RX12_28 ln_89 ly_89 rfl dX12_undo_39 ?_
    refine j_bipush (v := 67) X dX12_undo_42 (by decide) ?_
    refine j_aload_n X 0 dX12_undo_44 rfl rfl ?_
    refine j_getI X fg_RX12_150 ln_89 ly_89 rfl dX12_undo_45 ?_
    refine j_imul X dX12_undo_48 ?_
    refine j_iload_n X 1 dX12_undo_49 rfl rfl ?_
    refine j_iadd X dX12_undo_50 ?_
    refine j_iaload X ln_96 ly_96 dX12_undo_51 h (fun v3 h => ?_)
    refine j_iastore X ln_93 ly_93 dX12_undo_52 h (fun σ4 h => ?_)
    refine j_iinc (v := (x1 + 1)) (ls' := [some (.ref 89), some (.int (x1 + 1))]) X dX12_undo_53 rfl rfl (Nat.le_of_ble_eq_true rfl) rfl ?_
    refine j_goto (tgt := 27) X dX12_undo_56 (by decide) ?_
    exact ih (x1 + 1) σ4 _ h kk
theorem X12_undo_L27_ok {K : jK} (X : JX K cX12_undo 2 RX12 0 0)   : ∀ (n : Nat) (s : Int32) (σ : jMem) (o : (Unit) × jMem), X12_undo_L27  n s σ = some o → (J K 59 [some (.ref 89), none] [] o.2) → J K 27 [some (.ref 89), some (.int s)] [] σ := by
  intro n
  induction n with
  | zero => intro s σ o h; cases h
  | succ n ih => intro s σ o h; exact X12_undo_L27_bok X  ih (s) σ o h
def f_X12_undo  (σ : jMem) : Option (Int32 × jMem) :=
  jlet (jset σ 89 0 (0 : Int32)) (fun σ1 =>
  if ¬ (σ1.1 89 9) = 0 then
  jlet (jset σ1 89 9 ((σ1.1 89 9) - (1 : Int32))) (fun σ2 =>
  jbd (X12_undo_L27  jFU (0 : Int32) σ2) (fun q5 σ6 =>
  some (((σ6.1 89 9), σ6))))
else
  some (((-1000002 : Int32), σ1)))
set_option maxRecDepth 100000 in
set_option maxHeartbeats 4000000 in
theorem c_X12_undo {l : Launch} {D : va_G} {ad : Nat → Nat} {cid : Nat → ClassId}   {σ : jMem} {r : Int32} {σ' : jMem} (h : f_X12_undo  σ = some (r, σ')) : jMet l D ad cid yX12_undo cX12_undo 2 (some .int) 0 0 [.ref 89] σ (some (.int r)) σ' := by
  refine jMet_of (ls0 := [some (.ref 89), none]) (by decide) (Nat.le_of_ble_eq_true rfl) rfl (fun K X R0 _ => ?_)
  unfold f_X12_undo at h
  refine j_aload_n X 0 dX12_undo_0 rfl rfl ?_
  refine j_iconst (v := 0) X dX12_undo_1 (by decide) ?_
  refine j_put X fp_RX12_47 ln_89 ly_89 rfl rfl rfl dX12_undo_2 h (fun σ1 h => ?_)
  refine j_aload_n X 0 dX12_undo_5 rfl rfl ?_
  refine j_getI X fg_RX12_150 ln_89 ly_89 rfl dX12_undo_6 ?_
  refine j_if_ne (tgt := 15) X dX12_undo_9 (by decide) h (fun h => ?_) (fun h => ?_)
  · refine j_aload_n X 0 dX12_undo_15 rfl rfl ?_
    refine j_dup X dX12_undo_16 rfl ?_
    refine j_getI X fg_RX12_150 ln_89 ly_89 rfl dX12_undo_17 ?_
    refine j_iconst (v := 1) X dX12_undo_20 (by decide) ?_
    refine j_isub X dX12_undo_21 ?_
    refine j_put X fp_RX12_150 ln_89 ly_89 rfl rfl rfl dX12_undo_22 h (fun σ2 h => ?_)
    refine j_iconst (v := 0) X dX12_undo_25 (by decide) ?_
    refine j_istore_n (ls' := [some (.ref 89), some (.int (0 : Int32))]) X 1 dX12_undo_26 rfl (Nat.le_of_ble_eq_true rfl) rfl ?_
    obtain ⟨q5, σ6, hL7, h⟩ := jbd_some h
    refine X12_undo_L27_ok X  jFU (0 : Int32) σ2 _ hL7 ?_
    refine j_aload_n X 0 dX12_undo_59 rfl rfl ?_
    refine j_getI X fg_RX12_150 ln_89 ly_89 rfl dX12_undo_60 ?_
    obtain ⟨rfl, rfl⟩ := jin2 h
    exact j_iret X R0 dX12_undo_63
  · refine j_ldc (v := -1000002) X tw_1041 dX12_undo_12 ?_
    obtain ⟨rfl, rfl⟩ := jin2 h
    exact j_iret X R0 dX12_undo_14
