theorem ss_RX12_227 : jSiS RX12 227 yX12_year cX12_year 4 none 1 := ⟨tw_1104, tw_1105, tw_13, tw_1106, by decide, by decide, by decide +kernel⟩
theorem ss_RX12_230 : jSiS RX12 230 yX12_living cX12_living 3 (some .int) 1 := ⟨tw_1107, tw_1108, tw_13, tw_1109, by decide, by decide, by decide +kernel⟩
def X12_years_L49_b (p1 : Int32) (rec : Int32 → jMem → Option ((Unit) × jMem)) (x2 : Int32) (σ : jMem) : Option ((Unit) × jMem) :=
  if p1 ≤ x2 then
  some ((), σ)
else
  jbv (f_X12_keep  σ) (fun σ9 =>
  jbv (f_X12_year 93 σ9) (fun σ11 =>
  rec (x2 + 1) σ11))
def X12_years_L49 (p1 : Int32) : Nat → Int32 → jMem → Option ((Unit) × jMem) := jloop (fun rec s σ => X12_years_L49_b p1 rec s σ)
set_option maxRecDepth 100000 in
set_option maxHeartbeats 4000000 in
theorem X12_years_L49_bok {K : jK} (X : JX K cX12_years 3 RX12 3 66) {p1 : Int32}  {rec : Int32 → jMem → Option ((Unit) × jMem)} (ih : ∀ (s : Int32) (σ : jMem) (o : (Unit) × jMem), rec s σ = some o → (J K 71 [some (.ref 89), none, none] [] o.2) → J K 49 [some (.ref 89), some (.int p1), some (.int s)] [] σ) : ∀ (x2 : Int32) (σ : jMem) (o : (Unit) × jMem), X12_years_L49_b p1 rec x2 σ = some o → (J K 71 [some (.ref 89), none, none] [] o.2) → J K 49 [some (.ref 89), some (.int p1), some (.int x2)] [] σ := by
  intro x2 σ o h kk
  unfold X12_years_L49_b at h
  refine j_iload_n X 2 dX12_years_49 rfl rfl ?_
  refine j_iload_n X 1 dX12_years_50 rfl rfl ?_
  refine j_icmp_ge (tgt := 71) X dX12_years_51 (by decide) h (fun h => ?_) (fun h => ?_)
  · obtain rfl := Option.some.inj h
    exact j_sub (ls' := [some (.ref 89), none, none]) ⟨Or.inr rfl, Or.inl rfl, Or.inl rfl, trivial⟩ kk
  · refine j_aload_n X 0 dX12_years_54 rfl rfl ?_
    obtain ⟨σ9, hm10, h⟩ := jbv_some h
    refine j_callV (as := []) (st := []) (st1 := []) X ln_89 ly_89 rfl rfl sv_RX12_214 ⟨by decide, by decide⟩ rfl rfl (Nat.le_of_ble_eq_true rfl) rfl dX12_years_55 jrv_v (c_X12_keep  hm10) rfl ?_
    refine j_aload_n X 0 dX12_years_58 rfl rfl ?_
    refine j_getR (t := 93) X fg_RX12_19 ln_89 ly_89 rfl dX12_years_59 ?_
    obtain ⟨σ11, hm12, h⟩ := jbv_some h
    refine j_callS (as := [.ref 93]) (st := []) (st1 := []) X ss_RX12_227 ⟨by decide, by decide⟩ rfl rfl (Nat.le_of_ble_eq_true rfl) rfl dX12_years_62 jrv_v (c_X12_year ⟨ln_93, ly_93⟩ hm12) rfl ?_
    refine j_iinc (v := (x2 + 1)) (ls' := [some (.ref 89), some (.int p1), some (.int (x2 + 1))]) X dX12_years_65 rfl rfl (Nat.le_of_ble_eq_true rfl) rfl ?_
    refine j_goto (tgt := 49) X dX12_years_68 (by decide) ?_
    exact ih (x2 + 1) σ11 _ h kk
theorem X12_years_L49_ok {K : jK} (X : JX K cX12_years 3 RX12 3 66) {p1 : Int32}  : ∀ (n : Nat) (s : Int32) (σ : jMem) (o : (Unit) × jMem), X12_years_L49 p1 n s σ = some o → (J K 71 [some (.ref 89), none, none] [] o.2) → J K 49 [some (.ref 89), some (.int p1), some (.int s)] [] σ := by
  intro n
  induction n with
  | zero => intro s σ o h; cases h
  | succ n ih => intro s σ o h; exact X12_years_L49_bok X  ih (s) σ o h
def f_X12_years (a0 : Int32) (σ : jMem) : Option (Int32 × jMem) :=
  jlet (jset σ 89 0 (0 : Int32)) (fun σ1 =>
  jbd (f_X12_isThere  σ1) (fun v2 σ3 =>
  if ¬ v2 = 0 then
  jbd (f_X12_in ((a0).toInt64) (1 : Int64) (24 : Int64) σ3) (fun v5 σ6 =>
  if ¬ v5 = 0 then
  jld σ6 93 67 (5 : Int32) (fun v8 =>
  if (v8 + a0) ≤ (999 : Int32) then
  jbd (X12_years_L49 (a0) jFU (0 : Int32) σ6) (fun q13 σ14 =>
  jbd (f_X12_living 93 σ14) (fun v15 σ16 =>
  some ((v15, σ16))))
else
  some (((-1000003 : Int32), σ6)))
else
  some (((-1000001 : Int32), σ6)))
else
  some (((-1000002 : Int32), σ3))))
set_option maxRecDepth 100000 in
set_option maxHeartbeats 4000000 in
theorem c_X12_years {l : Launch} {D : va_G} {ad : Nat → Nat} {cid : Nat → ClassId} {a0 : Int32}  {σ : jMem} {r : Int32} {σ' : jMem} (h : f_X12_years a0 σ = some (r, σ')) : jMet l D ad cid yX12_years cX12_years 3 (some .int) 3 66 [.ref 89, .int a0] σ (some (.int r)) σ' := by
  refine jMet_of (ls0 := [some (.ref 89), some (.int a0), none]) (by decide) (Nat.le_of_ble_eq_true rfl) rfl (fun K X R0 _ => ?_)
  unfold f_X12_years at h
  refine j_aload_n X 0 dX12_years_0 rfl rfl ?_
  refine j_iconst (v := 0) X dX12_years_1 (by decide) ?_
  refine j_put X fp_RX12_47 ln_89 ly_89 rfl rfl rfl dX12_years_2 h (fun σ1 h => ?_)
  refine j_aload_n X 0 dX12_years_5 rfl rfl ?_
  obtain ⟨v2, σ3, hm4, h⟩ := jbd_some h
  refine j_callV (as := []) (st := []) (st1 := [.int v2]) X ln_89 ly_89 rfl rfl sv_RX12_203 ⟨by decide, by decide⟩ rfl rfl (Nat.le_of_ble_eq_true rfl) rfl dX12_years_6 jrv_i (c_X12_isThere  hm4) rfl ?_
  refine j_if_ne (tgt := 15) X dX12_years_9 (by decide) h (fun h => ?_) (fun h => ?_)
  · refine j_iload_n X 1 dX12_years_15 rfl rfl ?_
    refine j_i2l X dX12_years_16 ?_
    refine j_lconst (v := 1) X dX12_years_17 (by decide) ?_
    refine j_ldc2_w (v := 24) X tw_1103 dX12_years_18 ?_
    obtain ⟨v5, σ6, hm7, h⟩ := jbd_some h
    refine j_callS (as := [.long ((a0).toInt64), .long (1 : Int64), .long (24 : Int64)]) (st := []) (st1 := [.int v5]) X ss_RX12_57 ⟨by decide, by decide⟩ rfl rfl (Nat.le_of_ble_eq_true rfl) rfl dX12_years_21 jrv_i (c_X12_in  hm7) rfl ?_
    refine j_if_ne (tgt := 30) X dX12_years_24 (by decide) h (fun h => ?_) (fun h => ?_)
    · refine j_aload_n X 0 dX12_years_30 rfl rfl ?_
      refine j_getR (t := 93) X fg_RX12_19 ln_89 ly_89 rfl dX12_years_31 ?_
      refine j_iconst (v := 5) X dX12_years_34 (by decide) ?_
      refine j_iaload X ln_93 ly_93 dX12_years_35 h (fun v8 h => ?_)
      refine j_iload_n X 1 dX12_years_36 rfl rfl ?_
      refine j_iadd X dX12_years_37 ?_
      refine j_sipush (v := 999) X dX12_years_38 (by decide) ?_
      refine j_icmp_le (tgt := 47) X dX12_years_41 (by decide) h (fun h => ?_) (fun h => ?_)
      · refine j_iconst (v := 0) X dX12_years_47 (by decide) ?_
        refine j_istore_n (ls' := [some (.ref 89), some (.int a0), some (.int (0 : Int32))]) X 2 dX12_years_48 rfl (Nat.le_of_ble_eq_true rfl) rfl ?_
        obtain ⟨q13, σ14, hL18, h⟩ := jbd_some h
        refine X12_years_L49_ok X  jFU (0 : Int32) σ6 _ hL18 ?_
        refine j_aload_n X 0 dX12_years_71 rfl rfl ?_
        refine j_getR (t := 93) X fg_RX12_19 ln_89 ly_89 rfl dX12_years_72 ?_
        obtain ⟨v15, σ16, hm17, h⟩ := jbd_some h
        refine j_callS (as := [.ref 93]) (st := []) (st1 := [.int v15]) X ss_RX12_230 ⟨by decide, by decide⟩ rfl rfl (Nat.le_of_ble_eq_true rfl) rfl dX12_years_75 jrv_i (c_X12_living ⟨ln_93, ly_93⟩ hm17) rfl ?_
        obtain ⟨rfl, rfl⟩ := jin2 h
        exact j_iret X R0 dX12_years_78
      · refine j_ldc (v := -1000003) X tw_971 dX12_years_44 ?_
        obtain ⟨rfl, rfl⟩ := jin2 h
        exact j_iret X R0 dX12_years_46
    · refine j_ldc (v := -1000001) X tw_948 dX12_years_27 ?_
      obtain ⟨rfl, rfl⟩ := jin2 h
      exact j_iret X R0 dX12_years_29
  · refine j_ldc (v := -1000002) X tw_1041 dX12_years_12 ?_
    obtain ⟨rfl, rfl⟩ := jin2 h
    exact j_iret X R0 dX12_years_14
theorem sv_RX12_233 : jSiV RX12 233 yX12_isPath cX12_isPath 2 (some .boolean) 1 := ⟨tw_1114, tw_1116, ts_43, tw_13, tw_1117, by decide, by decide, by decide +kernel⟩
def f_X12_lock (a0 : Int32) (a1 : Int32) (σ : jMem) : Option (Int32 × jMem) :=
  jlet (jset σ 89 0 (0 : Int32)) (fun σ1 =>
  jbd (f_X12_isPath a0 σ1) (fun v2 σ3 =>
  if v2 = 0 then
  some (((-1000001 : Int32), σ3))
else
  jbd (f_X12_in ((a1).toInt64) (0 : Int64) (1 : Int64) σ3) (fun v5 σ6 =>
  if ¬ v5 = 0 then
  jld σ6 93 67 (6 : Int32) (fun v8 =>
  if ¬ ((v8 >>> (a0 &&& 31)) &&& (1 : Int32)) = a1 then
  jbv (f_X12_keep  σ6) (fun σ9 =>
  jld σ9 93 67 (6 : Int32) (fun v11 =>
  jst σ9 93 67 (6 : Int32) (v11 ^^^ ((1 : Int32) <<< (a0 &&& 31))) (fun σ12 =>
  jld σ12 93 67 (6 : Int32) (fun v13 =>
  some ((v13, σ12))))))
else
  some (((-1000002 : Int32), σ6)))
else
  some (((-1000001 : Int32), σ6)))))
set_option maxRecDepth 100000 in
set_option maxHeartbeats 4000000 in
theorem c_X12_lock {l : Launch} {D : va_G} {ad : Nat → Nat} {cid : Nat → ClassId} {a0 : Int32} {a1 : Int32}  {σ : jMem} {r : Int32} {σ' : jMem} (h : f_X12_lock a0 a1 σ = some (r, σ')) : jMet l D ad cid yX12_lock cX12_lock 3 (some .int) 2 46 [.ref 89, .int a0, .int a1] σ (some (.int r)) σ' := by
  refine jMet_of (ls0 := [some (.ref 89), some (.int a0), some (.int a1)]) (by decide) (Nat.le_of_ble_eq_true rfl) rfl (fun K X R0 _ => ?_)
  unfold f_X12_lock at h
  refine j_aload_n X 0 dX12_lock_0 rfl rfl ?_
  refine j_iconst (v := 0) X dX12_lock_1 (by decide) ?_
  refine j_put X fp_RX12_47 ln_89 ly_89 rfl rfl rfl dX12_lock_2 h (fun σ1 h => ?_)
  refine j_aload_n X 0 dX12_lock_5 rfl rfl ?_
  refine j_iload_n X 1 dX12_lock_6 rfl rfl ?_
  obtain ⟨v2, σ3, hm4, h⟩ := jbd_some h
  refine j_callV (as := [.int a0]) (st := []) (st1 := [.int v2]) X ln_89 ly_89 rfl rfl sv_RX12_233 ⟨by decide, by decide⟩ rfl rfl (Nat.le_of_ble_eq_true rfl) rfl dX12_lock_7 jrv_i (c_X12_isPath  hm4) rfl ?_
  refine j_if_eq (tgt := 23) X dX12_lock_10 (by decide) h (fun h => ?_) (fun h => ?_)
  · refine j_ldc (v := -1000001) X tw_948 dX12_lock_23 ?_
    obtain ⟨rfl, rfl⟩ := jin2 h
    exact j_iret X R0 dX12_lock_25
  · refine j_iload_n X 2 dX12_lock_13 rfl rfl ?_
    refine j_i2l X dX12_lock_14 ?_
    refine j_lconst (v := 0) X dX12_lock_15 (by decide) ?_
    refine j_lconst (v := 1) X dX12_lock_16 (by decide) ?_
    obtain ⟨v5, σ6, hm7, h⟩ := jbd_some h
    refine j_callS (as := [.long ((a1).toInt64), .long (0 : Int64), .long (1 : Int64)]) (st := []) (st1 := [.int v5]) X ss_RX12_57 ⟨by decide, by decide⟩ rfl rfl (Nat.le_of_ble_eq_true rfl) rfl dX12_lock_17 jrv_i (c_X12_in  hm7) rfl ?_
    refine j_if_ne (tgt := 26) X dX12_lock_20 (by decide) h (fun h => ?_) (fun h => ?_)
    · refine j_aload_n X 0 dX12_lock_26 rfl rfl ?_
      refine j_getR (t := 93) X fg_RX12_19 ln_89 ly_89 rfl dX12_lock_27 ?_
      refine j_bipush (v := 6) X dX12_lock_30 (by decide) ?_
      refine j_iaload X ln_93 ly_93 dX12_lock_32 h (fun v8 h => ?_)
      refine j_iload_n X 1 dX12_lock_33 rfl rfl ?_
      refine j_ishr X dX12_lock_34 ?_
      refine j_iconst (v := 1) X dX12_lock_35 (by decide) ?_
      refine j_iand X dX12_lock_36 ?_
      refine j_iload_n X 2 dX12_lock_37 rfl rfl ?_
      refine j_icmp_ne (tgt := 44) X dX12_lock_38 (by decide) h (fun h => ?_) (fun h => ?_)
      · refine j_aload_n X 0 dX12_lock_44 rfl rfl ?_
        obtain ⟨σ9, hm10, h⟩ := jbv_some h
        refine j_callV (as := []) (st := []) (st1 := []) X ln_89 ly_89 rfl rfl sv_RX12_214 ⟨by decide, by decide⟩ rfl rfl (Nat.le_of_ble_eq_true rfl) rfl dX12_lock_45 jrv_v (c_X12_keep  hm10) rfl ?_
        refine j_aload_n X 0 dX12_lock_48 rfl rfl ?_
        refine j_getR (t := 93) X fg_RX12_19 ln_89 ly_89 rfl dX12_lock_49 ?_
        refine j_bipush (v := 6) X dX12_lock_52 (by decide) ?_
        refine j_dup2 X dX12_lock_54 rfl rfl ?_
        refine j_iaload X ln_93 ly_93 dX12_lock_55 h (fun v11 h => ?_)
        refine j_iconst (v := 1) X dX12_lock_56 (by decide) ?_
        refine j_iload_n X 1 dX12_lock_57 rfl rfl ?_
        refine j_ishl X dX12_lock_58 ?_
        refine j_ixor X dX12_lock_59 ?_
        refine j_iastore X ln_93 ly_93 dX12_lock_60 h (fun σ12 h => ?_)
        refine j_aload_n X 0 dX12_lock_61 rfl rfl ?_
        refine j_getR (t := 93) X fg_RX12_19 ln_89 ly_89 rfl dX12_lock_62 ?_
        refine j_bipush (v := 6) X dX12_lock_65 (by decide) ?_
        refine j_iaload X ln_93 ly_93 dX12_lock_67 h (fun v13 h => ?_)
        obtain ⟨rfl, rfl⟩ := jin2 h
        exact j_iret X R0 dX12_lock_68
      · refine j_ldc (v := -1000002) X tw_1041 dX12_lock_41 ?_
        obtain ⟨rfl, rfl⟩ := jin2 h
        exact j_iret X R0 dX12_lock_43
    · refine j_ldc (v := -1000001) X tw_948 dX12_lock_23 ?_
      obtain ⟨rfl, rfl⟩ := jin2 h
      exact j_iret X R0 dX12_lock_25
