def X12_lost_L22_b (p1 : Int32) (rec : Int32 → jMem → Option (((Unit) × jMem) ⊕ (Int32 × jMem))) (x2 : Int32) (σ : jMem) : Option (((Unit) × jMem) ⊕ (Int32 × jMem)) :=
  if (61 : Int32) ≤ x2 then
  some (.inl ((), σ))
else
  jbd (f_X12_waysOf 95 σ) (fun v7 σ8 =>
  jbd (f_X12_has v7 p1 σ8) (fun v10 σ11 =>
  if ¬ v10 = 0 then
  jbv (f_X12_year 95 σ11) (fun σ13 =>
  rec (x2 + 1) σ13)
else
  some (.inr (x2, σ11))))
def X12_lost_L22 (p1 : Int32) : Nat → Int32 → jMem → Option (((Unit) × jMem) ⊕ (Int32 × jMem)) := jloop (fun rec s σ => X12_lost_L22_b p1 rec s σ)
set_option maxRecDepth 100000 in
set_option maxHeartbeats 4000000 in
theorem X12_lost_L22_bok {K : jK} (X : JX K cX12_lost 3 RX12 4 86) {p1 : Int32}  {rec : Int32 → jMem → Option (((Unit) × jMem) ⊕ (Int32 × jMem))} (ih : ∀ (s : Int32) (σ : jMem) (o : ((Unit) × jMem) ⊕ (Int32 × jMem)), rec s σ = some o → (∀ q, o = .inl q → J K 57 [none, none, none] [] q.2) → (∀ q, o = .inr q → JR K (some .int) (some (.int q.1)) q.2) → J K 22 [some (.ref 89), some (.int p1), some (.int s)] [] σ) : ∀ (x2 : Int32) (σ : jMem) (o : ((Unit) × jMem) ⊕ (Int32 × jMem)), X12_lost_L22_b p1 rec x2 σ = some o → (∀ q, o = .inl q → J K 57 [none, none, none] [] q.2) → (∀ q, o = .inr q → JR K (some .int) (some (.int q.1)) q.2) → J K 22 [some (.ref 89), some (.int p1), some (.int x2)] [] σ := by
  intro x2 σ o h kk kr
  unfold X12_lost_L22_b at h
  refine j_iload_n X 2 dX12_lost_22 rfl rfl ?_
  refine j_bipush (v := 61) X dX12_lost_23 (by decide) ?_
  refine j_icmp_ge (tgt := 57) X dX12_lost_25 (by decide) h (fun h => ?_) (fun h => ?_)
  · obtain rfl := Option.some.inj h
    exact j_sub (ls' := [none, none, none]) ⟨Or.inl rfl, Or.inl rfl, Or.inl rfl, trivial⟩ (kk ((), σ) rfl)
  · refine j_aload_n X 0 dX12_lost_28 rfl rfl ?_
    refine j_getR (t := 95) X fg_RX12_25 ln_89 ly_89 rfl dX12_lost_29 ?_
    obtain ⟨v7, σ8, hm9, h⟩ := jbd_some h
    refine j_callS (as := [.ref 95]) (st := []) (st1 := [.int v7]) X ss_RX12_221 ⟨by decide, by decide⟩ rfl rfl (Nat.le_of_ble_eq_true rfl) rfl dX12_lost_32 jrv_i (c_X12_waysOf ⟨ln_95, ly_95⟩ hm9) rfl ?_
    refine j_iload_n X 1 dX12_lost_35 rfl rfl ?_
    obtain ⟨v10, σ11, hm12, h⟩ := jbd_some h
    refine j_callS (as := [.int v7, .int p1]) (st := []) (st1 := [.int v10]) X ss_RX12_153 ⟨by decide, by decide⟩ rfl rfl (Nat.le_of_ble_eq_true rfl) rfl dX12_lost_36 jrv_i (c_X12_has  hm12) rfl ?_
    refine j_if_ne (tgt := 44) X dX12_lost_39 (by decide) h (fun h => ?_) (fun h => ?_)
    · refine j_aload_n X 0 dX12_lost_44 rfl rfl ?_
      refine j_getR (t := 95) X fg_RX12_25 ln_89 ly_89 rfl dX12_lost_45 ?_
      obtain ⟨σ13, hm14, h⟩ := jbv_some h
      refine j_callS (as := [.ref 95]) (st := []) (st1 := []) X ss_RX12_227 ⟨by decide, by decide⟩ rfl rfl (Nat.le_of_ble_eq_true rfl) rfl dX12_lost_48 jrv_v (c_X12_year ⟨ln_95, ly_95⟩ hm14) rfl ?_
      refine j_iinc (v := (x2 + 1)) (ls' := [some (.ref 89), some (.int p1), some (.int (x2 + 1))]) X dX12_lost_51 rfl rfl (Nat.le_of_ble_eq_true rfl) rfl ?_
      refine j_goto (tgt := 22) X dX12_lost_54 (by decide) ?_
      exact ih (x2 + 1) σ13 _ h kk kr
    · refine j_iload_n X 2 dX12_lost_42 rfl rfl ?_
      obtain rfl := Option.some.inj h
      exact j_iret X (kr (x2, σ11) rfl) dX12_lost_43
theorem X12_lost_L22_ok {K : jK} (X : JX K cX12_lost 3 RX12 4 86) {p1 : Int32}  : ∀ (n : Nat) (s : Int32) (σ : jMem) (o : ((Unit) × jMem) ⊕ (Int32 × jMem)), X12_lost_L22 p1 n s σ = some o → (∀ q, o = .inl q → J K 57 [none, none, none] [] q.2) → (∀ q, o = .inr q → JR K (some .int) (some (.int q.1)) q.2) → J K 22 [some (.ref 89), some (.int p1), some (.int s)] [] σ := by
  intro n
  induction n with
  | zero => intro s σ o h; cases h
  | succ n ih => intro s σ o h; exact X12_lost_L22_bok X  ih (s) σ o h
def f_X12_lost (a0 : Int32) (σ : jMem) : Option (Int32 × jMem) :=
  jlet (jset σ 89 0 (0 : Int32)) (fun σ1 =>
  jbd (f_X12_isPath a0 σ1) (fun v2 σ3 =>
  if ¬ v2 = 0 then
  jbv (f_X12_layThen  σ3) (fun σ5 =>
  jbr (X12_lost_L22 (a0) jFU (0 : Int32) σ5) (fun q15 σ16 =>
  some (((-1000000 : Int32), σ16))) (fun e18 => some e18))
else
  some (((-1000001 : Int32), σ3))))
set_option maxRecDepth 100000 in
set_option maxHeartbeats 4000000 in
theorem c_X12_lost {l : Launch} {D : va_G} {ad : Nat → Nat} {cid : Nat → ClassId} {a0 : Int32}  {σ : jMem} {r : Int32} {σ' : jMem} (h : f_X12_lost a0 σ = some (r, σ')) : jMet l D ad cid yX12_lost cX12_lost 3 (some .int) 4 86 [.ref 89, .int a0] σ (some (.int r)) σ' := by
  refine jMet_of (ls0 := [some (.ref 89), some (.int a0), none]) (by decide) (Nat.le_of_ble_eq_true rfl) rfl (fun K X R0 _ => ?_)
  unfold f_X12_lost at h
  refine j_aload_n X 0 dX12_lost_0 rfl rfl ?_
  refine j_iconst (v := 0) X dX12_lost_1 (by decide) ?_
  refine j_put X fp_RX12_47 ln_89 ly_89 rfl rfl rfl dX12_lost_2 h (fun σ1 h => ?_)
  refine j_aload_n X 0 dX12_lost_5 rfl rfl ?_
  refine j_iload_n X 1 dX12_lost_6 rfl rfl ?_
  obtain ⟨v2, σ3, hm4, h⟩ := jbd_some h
  refine j_callV (as := [.int a0]) (st := []) (st1 := [.int v2]) X ln_89 ly_89 rfl rfl sv_RX12_233 ⟨by decide, by decide⟩ rfl rfl (Nat.le_of_ble_eq_true rfl) rfl dX12_lost_7 jrv_i (c_X12_isPath  hm4) rfl ?_
  refine j_if_ne (tgt := 16) X dX12_lost_10 (by decide) h (fun h => ?_) (fun h => ?_)
  · refine j_aload_n X 0 dX12_lost_16 rfl rfl ?_
    obtain ⟨σ5, hm6, h⟩ := jbv_some h
    refine j_callV (as := []) (st := []) (st1 := []) X ln_89 ly_89 rfl rfl sv_RX12_243 ⟨by decide, by decide⟩ rfl rfl (Nat.le_of_ble_eq_true rfl) rfl dX12_lost_17 jrv_v (c_X12_layThen  hm6) rfl ?_
    refine j_iconst (v := 0) X dX12_lost_20 (by decide) ?_
    refine j_istore_n (ls' := [some (.ref 89), some (.int a0), some (.int (0 : Int32))]) X 2 dX12_lost_21 rfl (Nat.le_of_ble_eq_true rfl) rfl ?_
    obtain ⟨o19, hL17, hl20, hr21⟩ := jbr_some h
    refine X12_lost_L22_ok X  jFU (0 : Int32) σ5 o19 hL17 (fun q15w e9 => ?_) (fun q15w e9 => ?_)
    · have h := hl20 _ e9
      obtain ⟨q15, σ16⟩ := q15w
      refine j_ldc (v := -1000000) X tw_988 dX12_lost_57 ?_
      obtain ⟨rfl, rfl⟩ := jin2 h
      exact j_iret X R0 dX12_lost_59
    · have h := hr21 _ e9
      obtain rfl := Option.some.inj h
      exact R0
  · refine j_ldc (v := -1000001) X tw_948 dX12_lost_13 ?_
    obtain ⟨rfl, rfl⟩ := jin2 h
    exact j_iret X R0 dX12_lost_15
def f_X12_goes (a0 : Int32) (a1 : Int32) (σ : jMem) : Option (Int32 × jMem) :=
  jlet (jset σ 89 0 (0 : Int32)) (fun σ1 =>
  jbd (f_X12_isThere  σ1) (fun v2 σ3 =>
  if ¬ v2 = 0 then
  jbd (f_X12_isField ((a0).toInt64) σ3) (fun v5 σ6 =>
  if v5 = 0 then
  some (((-1000001 : Int32), σ6))
else
  jbd (f_X12_in ((a1).toInt64) (0 : Int64) (1 : Int64) σ6) (fun v8 σ9 =>
  if ¬ v8 = 0 then
  jld σ9 93 67 (6 : Int32) (fun v11 =>
  jbv (f_X12_layWay v11 a0 σ9) (fun σ12 =>
  if (σ12.1 89 22) = (-1000000 : Int32) then
  some (((σ12.1 89 22), σ12))
else
  if ¬ a1 = 0 then
  some (((σ12.1 89 20), σ12))
else
  some (((σ12.1 89 22), σ12))))
else
  some (((-1000001 : Int32), σ9))))
else
  some (((-1000002 : Int32), σ3))))
set_option maxRecDepth 100000 in
set_option maxHeartbeats 4000000 in
theorem c_X12_goes {l : Launch} {D : va_G} {ad : Nat → Nat} {cid : Nat → ClassId} {a0 : Int32} {a1 : Int32}  {σ : jMem} {r : Int32} {σ' : jMem} (h : f_X12_goes a0 a1 σ = some (r, σ')) : jMet l D ad cid yX12_goes cX12_goes 3 (some .int) 3 77 [.ref 89, .int a0, .int a1] σ (some (.int r)) σ' := by
  refine jMet_of (ls0 := [some (.ref 89), some (.int a0), some (.int a1)]) (by decide) (Nat.le_of_ble_eq_true rfl) rfl (fun K X R0 _ => ?_)
  unfold f_X12_goes at h
  refine j_aload_n X 0 dX12_goes_0 rfl rfl ?_
  refine j_iconst (v := 0) X dX12_goes_1 (by decide) ?_
  refine j_put X fp_RX12_47 ln_89 ly_89 rfl rfl rfl dX12_goes_2 h (fun σ1 h => ?_)
  refine j_aload_n X 0 dX12_goes_5 rfl rfl ?_
  obtain ⟨v2, σ3, hm4, h⟩ := jbd_some h
  refine j_callV (as := []) (st := []) (st1 := [.int v2]) X ln_89 ly_89 rfl rfl sv_RX12_203 ⟨by decide, by decide⟩ rfl rfl (Nat.le_of_ble_eq_true rfl) rfl dX12_goes_6 jrv_i (c_X12_isThere  hm4) rfl ?_
  refine j_if_ne (tgt := 15) X dX12_goes_9 (by decide) h (fun h => ?_) (fun h => ?_)
  · refine j_iload_n X 1 dX12_goes_15 rfl rfl ?_
    refine j_i2l X dX12_goes_16 ?_
    obtain ⟨v5, σ6, hm7, h⟩ := jbd_some h
    refine j_callS (as := [.long ((a0).toInt64)]) (st := []) (st1 := [.int v5]) X ss_RX12_207 ⟨by decide, by decide⟩ rfl rfl (Nat.le_of_ble_eq_true rfl) rfl dX12_goes_17 jrv_i (c_X12_isField  hm7) rfl ?_
    refine j_if_eq (tgt := 33) X dX12_goes_20 (by decide) h (fun h => ?_) (fun h => ?_)
    · refine j_ldc (v := -1000001) X tw_948 dX12_goes_33 ?_
      obtain ⟨rfl, rfl⟩ := jin2 h
      exact j_iret X R0 dX12_goes_35
    · refine j_iload_n X 2 dX12_goes_23 rfl rfl ?_
      refine j_i2l X dX12_goes_24 ?_
      refine j_lconst (v := 0) X dX12_goes_25 (by decide) ?_
      refine j_lconst (v := 1) X dX12_goes_26 (by decide) ?_
      obtain ⟨v8, σ9, hm10, h⟩ := jbd_some h
      refine j_callS (as := [.long ((a1).toInt64), .long (0 : Int64), .long (1 : Int64)]) (st := []) (st1 := [.int v8]) X ss_RX12_57 ⟨by decide, by decide⟩ rfl rfl (Nat.le_of_ble_eq_true rfl) rfl dX12_goes_27 jrv_i (c_X12_in  hm10) rfl ?_
      refine j_if_ne (tgt := 36) X dX12_goes_30 (by decide) h (fun h => ?_) (fun h => ?_)
      · refine j_aload_n X 0 dX12_goes_36 rfl rfl ?_
        refine j_aload_n X 0 dX12_goes_37 rfl rfl ?_
        refine j_getR (t := 93) X fg_RX12_19 ln_89 ly_89 rfl dX12_goes_38 ?_
        refine j_bipush (v := 6) X dX12_goes_41 (by decide) ?_
        refine j_iaload X ln_93 ly_93 dX12_goes_43 h (fun v11 h => ?_)
        refine j_iload_n X 1 dX12_goes_44 rfl rfl ?_
        obtain ⟨σ12, hm13, h⟩ := jbv_some h
        refine j_callV (as := [.int v11, .int a0]) (st := []) (st1 := []) X ln_89 ly_89 rfl rfl sv_RX12_176 ⟨by decide, by decide⟩ rfl rfl (Nat.le_of_ble_eq_true rfl) rfl dX12_goes_45 jrv_v (c_X12_layWay  hm13) rfl ?_
        refine j_aload_n X 0 dX12_goes_48 rfl rfl ?_
        refine j_getI X fg_RX12_170 ln_89 ly_89 rfl dX12_goes_49 ?_
        refine j_ldc (v := -1000000) X tw_988 dX12_goes_52 ?_
        refine j_icmp_eq (tgt := 61) X dX12_goes_54 (by decide) h (fun h => ?_) (fun h => ?_)
        · refine j_aload_n X 0 dX12_goes_61 rfl rfl ?_
          refine j_getI X fg_RX12_170 ln_89 ly_89 rfl dX12_goes_62 ?_
          refine j_goto (tgt := 72) X dX12_goes_65 (by decide) ?_
          obtain ⟨rfl, rfl⟩ := jin2 h
          exact j_iret X R0 dX12_goes_72
        · refine j_iload_n X 2 dX12_goes_57 rfl rfl ?_
          refine j_if_ne (tgt := 68) X dX12_goes_58 (by decide) h (fun h => ?_) (fun h => ?_)
          · refine j_aload_n X 0 dX12_goes_68 rfl rfl ?_
            refine j_getI X fg_RX12_164 ln_89 ly_89 rfl dX12_goes_69 ?_
            obtain ⟨rfl, rfl⟩ := jin2 h
            exact j_iret X R0 dX12_goes_72
          · refine j_aload_n X 0 dX12_goes_61 rfl rfl ?_
            refine j_getI X fg_RX12_170 ln_89 ly_89 rfl dX12_goes_62 ?_
            refine j_goto (tgt := 72) X dX12_goes_65 (by decide) ?_
            obtain ⟨rfl, rfl⟩ := jin2 h
            exact j_iret X R0 dX12_goes_72
      · refine j_ldc (v := -1000001) X tw_948 dX12_goes_33 ?_
        obtain ⟨rfl, rfl⟩ := jin2 h
        exact j_iret X R0 dX12_goes_35
  · refine j_ldc (v := -1000002) X tw_1041 dX12_goes_12 ?_
    obtain ⟨rfl, rfl⟩ := jin2 h
    exact j_iret X R0 dX12_goes_14
def f_X12_comesThrough (a0 : Int32) (a1 : Int32) (σ : jMem) : Option (Int32 × jMem) :=
  jbd (f_X12_allPaths  σ) (fun v1 σ2 =>
  jbv (f_X12_layFars (v1 &&& (a0 ^^^ (-1 : Int32))) σ2) (fun σ4 =>
  jld σ4 98 8 a1 (fun v6 =>
  if v6 = (-1000000 : Int32) then
  some (((0 : Int32), σ4))
else
  some (((1 : Int32), σ4)))))
set_option maxRecDepth 100000 in
set_option maxHeartbeats 4000000 in
theorem c_X12_comesThrough {l : Launch} {D : va_G} {ad : Nat → Nat} {cid : Nat → ClassId} {a0 : Int32} {a1 : Int32}  {σ : jMem} {r : Int32} {σ' : jMem} (h : f_X12_comesThrough a0 a1 σ = some (r, σ')) : jMet l D ad cid yX12_comesThrough cX12_comesThrough 3 (some .boolean) 2 48 [.ref 89, .int a0, .int a1] σ (some (.int r)) σ' := by
  refine jMet_of (ls0 := [some (.ref 89), some (.int a0), some (.int a1)]) (by decide) (Nat.le_of_ble_eq_true rfl) rfl (fun K X R0 _ => ?_)
  unfold f_X12_comesThrough at h
  refine j_aload_n X 0 dX12_comesThrough_0 rfl rfl ?_
  refine j_aload_n X 0 dX12_comesThrough_1 rfl rfl ?_
  obtain ⟨v1, σ2, hm3, h⟩ := jbd_some h
  refine j_callV (as := []) (st := [.ref 89]) (st1 := [.int v1, .ref 89]) X ln_89 ly_89 rfl rfl sv_RX12_157 ⟨by decide, by decide⟩ rfl rfl (Nat.le_of_ble_eq_true rfl) rfl dX12_comesThrough_2 jrv_i (c_X12_allPaths  hm3) rfl ?_
  refine j_iload_n X 1 dX12_comesThrough_5 rfl rfl ?_
  refine j_iconst (v := -1) X dX12_comesThrough_6 (by decide) ?_
  refine j_ixor X dX12_comesThrough_7 ?_
  refine j_iand X dX12_comesThrough_8 ?_
  obtain ⟨σ4, hm5, h⟩ := jbv_some h
  refine j_callV (as := [.int (v1 &&& (a0 ^^^ (-1 : Int32)))]) (st := []) (st1 := []) X ln_89 ly_89 rfl rfl sv_RX12_161 ⟨by decide, by decide⟩ rfl rfl (Nat.le_of_ble_eq_true rfl) rfl dX12_comesThrough_9 jrv_v (c_X12_layFars  hm5) rfl ?_
  refine j_aload_n X 0 dX12_comesThrough_12 rfl rfl ?_
  refine j_getR (t := 98) X fg_RX12_34 ln_89 ly_89 rfl dX12_comesThrough_13 ?_
  refine j_iload_n X 2 dX12_comesThrough_16 rfl rfl ?_
  refine j_iaload X ln_98 ly_98 dX12_comesThrough_17 h (fun v6 h => ?_)
  refine j_ldc (v := -1000000) X tw_988 dX12_comesThrough_18 ?_
  refine j_icmp_eq (tgt := 27) X dX12_comesThrough_20 (by decide) h (fun h => ?_) (fun h => ?_)
  · refine j_iconst (v := 0) X dX12_comesThrough_27 (by decide) ?_
    obtain ⟨rfl, rfl⟩ := jin2 h
    exact j_zret X R0 rfl dX12_comesThrough_28
  · refine j_iconst (v := 1) X dX12_comesThrough_23 (by decide) ?_
    refine j_goto (tgt := 28) X dX12_comesThrough_24 (by decide) ?_
    obtain ⟨rfl, rfl⟩ := jin2 h
    exact j_zret X R0 rfl dX12_comesThrough_28
theorem ss_RX12_246 : jSiS RX12 246 yX12_bits cX12_bits 3 (some .int) 1 := ⟨tw_1164, tw_1165, tw_13, tw_1166, by decide, by decide, by decide +kernel⟩
theorem sv_RX12_249 : jSiV RX12 249 yX12_comesThrough cX12_comesThrough 3 (some .boolean) 2 := ⟨tw_1167, tw_1169, ts_46, tw_13, tw_1170, by decide, by decide, by decide +kernel⟩
def X12_stop_L55_b (p1 : Int32) (p2 : Int32) (rec : Int32 × Int32 → jMem → Option ((Int32) × jMem)) (x3 : Int32) (x4 : Int32) (σ : jMem) : Option ((Int32) × jMem) :=
  jbd (f_X12_allPaths  σ) (fun v12 σ13 =>
  if v12 < x4 then
  some (x3, σ13)
else
  jld σ13 93 67 (6 : Int32) (fun v15 =>
  jj (fun (q17 : Int32) σ18 =>
  if q17 = 0 then
  rec (x3, (x4 + 1)) σ18
else
  jld σ18 93 67 (6 : Int32) (fun v19 =>
  jbd (f_X12_comesThrough (v19 ||| x4) p1 σ18) (fun v20 σ21 =>
  if ¬ v20 = 0 then
  rec (x3, (x4 + 1)) σ21
else
  rec (x4, (x4 + 1)) σ21))) (fun k16 =>
  jj (fun (q24 : Unit) σ25 =>
  k16 (0 : Int32) σ25) (fun k23 =>
  if ¬ (x4 &&& v15) = 0 then
  k23 () σ13
else
  jj (fun (q27 : Unit) σ28 =>
  k16 (1 : Int32) σ28) (fun k26 =>
  if x3 = (-1000000 : Int32) then
  k26 () σ13
else
  jbd (f_X12_bits x4 σ13) (fun v29 σ30 =>
  jbd (f_X12_bits x3 σ30) (fun v32 σ33 =>
  if v32 ≤ v29 then
  k23 () σ33
else
  k26 () σ33)))))))
def X12_stop_L55 (p1 : Int32) (p2 : Int32) : Nat → Int32 × Int32 → jMem → Option ((Int32) × jMem) := jloop (fun rec s σ => X12_stop_L55_b p1 p2 rec s.1 s.2 σ)
set_option maxRecDepth 100000 in
set_option maxHeartbeats 4000000 in
theorem X12_stop_L55_bok {K : jK} (X : JX K cX12_stop 6 RX12 3 70) {p1 : Int32} {p2 : Int32}  {rec : Int32 × Int32 → jMem → Option ((Int32) × jMem)} (ih : ∀ (s : Int32 × Int32) (σ : jMem) (o : (Int32) × jMem), rec s σ = some o → (J K 138 [none, none, some (.int p2), some (.int o.1), none, none] [] o.2) → J K 55 [some (.ref 89), some (.int p1), some (.int p2), some (.int s.1), some (.int s.2), none] [] σ) : ∀ (x3 : Int32) (x4 : Int32) (σ : jMem) (o : (Int32) × jMem), X12_stop_L55_b p1 p2 rec x3 x4 σ = some o → (J K 138 [none, none, some (.int p2), some (.int o.1), none, none] [] o.2) → J K 55 [some (.ref 89), some (.int p1), some (.int p2), some (.int x3), some (.int x4), none] [] σ := by
  intro x3 x4 σ o h kk
  unfold X12_stop_L55_b at h
  refine j_iload X dX12_stop_55 rfl ?_
  refine j_aload_n X 0 dX12_stop_57 rfl rfl ?_
  obtain ⟨v12, σ13, hm14, h⟩ := jbd_some h
  refine j_callV (as := []) (st := [.int x4]) (st1 := [.int v12, .int x4]) X ln_89 ly_89 rfl rfl sv_RX12_157 ⟨by decide, by decide⟩ rfl rfl (Nat.le_of_ble_eq_true rfl) rfl dX12_stop_58 jrv_i (c_X12_allPaths  hm14) rfl ?_
  refine j_icmp_gt (tgt := 138) X dX12_stop_61 (by decide) h (fun h => ?_) (fun h => ?_)
  · obtain rfl := Option.some.inj h
    exact j_sub (ls' := [none, none, some (.int p2), some (.int x3), none, none]) ⟨Or.inl rfl, Or.inl rfl, Or.inr rfl, Or.inr rfl, Or.inl rfl, Or.inl rfl, trivial⟩ kk
  · refine j_iload X dX12_stop_64 rfl ?_
    refine j_aload_n X 0 dX12_stop_66 rfl rfl ?_
    refine j_getR (t := 93) X fg_RX12_19 ln_89 ly_89 rfl dX12_stop_67 ?_
    refine j_bipush (v := 6) X dX12_stop_70 (by decide) ?_
    refine j_iaload X ln_93 ly_93 dX12_stop_72 h (fun v15 h => ?_)
    refine j_iand X dX12_stop_73 ?_
    refine j_join (pcJ := 100) (lsJ := fun q17 => [some (.ref 89), some (.int p1), some (.int p2), some (.int x3), some (.int x4), none]) (stJ := fun q17 => [.int q17]) h (fun q17 σ18 h => ?_) (fun k16 hk16 h => ?_)
    · refine j_istore (ls' := [some (.ref 89), some (.int p1), some (.int p2), some (.int x3), some (.int x4), some (.int q17)]) X dX12_stop_100 (Nat.le_of_ble_eq_true rfl) rfl ?_
      refine j_iload X dX12_stop_102 rfl ?_
      refine j_if_eq (tgt := 130) X dX12_stop_104 (by decide) h (fun h => ?_) (fun h => ?_)
      · refine j_iload_n X 3 dX12_stop_130 rfl rfl ?_
        refine j_istore_n (ls' := [some (.ref 89), some (.int p1), some (.int p2), some (.int x3), some (.int x4), some (.int q17)]) X 3 dX12_stop_131 rfl (Nat.le_of_ble_eq_true rfl) rfl ?_
        refine j_iinc (v := (x4 + 1)) (ls' := [some (.ref 89), some (.int p1), some (.int p2), some (.int x3), some (.int (x4 + 1)), some (.int q17)]) X dX12_stop_132 rfl rfl (Nat.le_of_ble_eq_true rfl) rfl ?_
        refine j_goto (tgt := 55) X dX12_stop_135 (by decide) ?_
        exact j_sub (ls' := [some (.ref 89), some (.int p1), some (.int p2), some (.int x3), some (.int (x4 + 1)), none]) ⟨Or.inr rfl, Or.inr rfl, Or.inr rfl, Or.inr rfl, Or.inr rfl, Or.inl rfl, trivial⟩ (ih (x3, (x4 + 1)) σ18 _ h kk)
      · refine j_aload_n X 0 dX12_stop_107 rfl rfl ?_
        refine j_aload_n X 0 dX12_stop_108 rfl rfl ?_
        refine j_getR (t := 93) X fg_RX12_19 ln_89 ly_89 rfl dX12_stop_109 ?_
        refine j_bipush (v := 6) X dX12_stop_112 (by decide) ?_
        refine j_iaload X ln_93 ly_93 dX12_stop_114 h (fun v19 h => ?_)
        refine j_iload X dX12_stop_115 rfl ?_
        refine j_ior X dX12_stop_117 ?_
        refine j_iload_n X 1 dX12_stop_118 rfl rfl ?_
        obtain ⟨v20, σ21, hm22, h⟩ := jbd_some h
        refine j_callV (as := [.int (v19 ||| x4), .int p1]) (st := []) (st1 := [.int v20]) X ln_89 ly_89 rfl rfl sv_RX12_249 ⟨by decide, by decide⟩ rfl rfl (Nat.le_of_ble_eq_true rfl) rfl dX12_stop_119 jrv_i (c_X12_comesThrough  hm22) rfl ?_
        refine j_if_ne (tgt := 130) X dX12_stop_122 (by decide) h (fun h => ?_) (fun h => ?_)
        · refine j_iload_n X 3 dX12_stop_130 rfl rfl ?_
          refine j_istore_n (ls' := [some (.ref 89), some (.int p1), some (.int p2), some (.int x3), some (.int x4), some (.int q17)]) X 3 dX12_stop_131 rfl (Nat.le_of_ble_eq_true rfl) rfl ?_
          refine j_iinc (v := (x4 + 1)) (ls' := [some (.ref 89), some (.int p1), some (.int p2), some (.int x3), some (.int (x4 + 1)), some (.int q17)]) X dX12_stop_132 rfl rfl (Nat.le_of_ble_eq_true rfl) rfl ?_
          refine j_goto (tgt := 55) X dX12_stop_135 (by decide) ?_
          exact j_sub (ls' := [some (.ref 89), some (.int p1), some (.int p2), some (.int x3), some (.int (x4 + 1)), none]) ⟨Or.inr rfl, Or.inr rfl, Or.inr rfl, Or.inr rfl, Or.inr rfl, Or.inl rfl, trivial⟩ (ih (x3, (x4 + 1)) σ21 _ h kk)
        · refine j_iload X dX12_stop_125 rfl ?_
          refine j_goto (tgt := 131) X dX12_stop_127 (by decide) ?_
          refine j_istore_n (ls' := [some (.ref 89), some (.int p1), some (.int p2), some (.int x4), some (.int x4), some (.int q17)]) X 3 dX12_stop_131 rfl (Nat.le_of_ble_eq_true rfl) rfl ?_
          refine j_iinc (v := (x4 + 1)) (ls' := [some (.ref 89), some (.int p1), some (.int p2), some (.int x4), some (.int (x4 + 1)), some (.int q17)]) X dX12_stop_132 rfl rfl (Nat.le_of_ble_eq_true rfl) rfl ?_
          refine j_goto (tgt := 55) X dX12_stop_135 (by decide) ?_
          exact j_sub (ls' := [some (.ref 89), some (.int p1), some (.int p2), some (.int x4), some (.int (x4 + 1)), none]) ⟨Or.inr rfl, Or.inr rfl, Or.inr rfl, Or.inr rfl, Or.inr rfl, Or.inl rfl, trivial⟩ (ih (x4, (x4 + 1)) σ21 _ h kk)
    · refine j_join (pcJ := 99) (lsJ := fun q24 => [some (.ref 89), some (.int p1), some (.int p2), some (.int x3), some (.int x4), none]) (stJ := fun q24 => []) h (fun q24 σ25 h => ?_) (fun k23 hk23 h => ?_)
      · refine j_iconst (v := 0) X dX12_stop_99 (by decide) ?_
        exact hk16 (0 : Int32) σ25 h
      · refine j_if_ne (tgt := 99) X dX12_stop_74 (by decide) h (fun h => ?_) (fun h => ?_)
        · exact hk23 () σ13 h
        · refine j_iload_n X 3 dX12_stop_77 rfl rfl ?_
          refine j_ldc (v := -1000000) X tw_988 dX12_stop_78 ?_
          refine j_join (pcJ := 95) (lsJ := fun q27 => [some (.ref 89), some (.int p1), some (.int p2), some (.int x3), some (.int x4), none]) (stJ := fun q27 => []) h (fun q27 σ28 h => ?_) (fun k26 hk26 h => ?_)
          · refine j_iconst (v := 1) X dX12_stop_95 (by decide) ?_
            refine j_goto (tgt := 100) X dX12_stop_96 (by decide) ?_
            exact hk16 (1 : Int32) σ28 h
          · refine j_icmp_eq (tgt := 95) X dX12_stop_80 (by decide) h (fun h => ?_) (fun h => ?_)
            · exact hk26 () σ13 h
            · refine j_iload X dX12_stop_83 rfl ?_
              obtain ⟨v29, σ30, hm31, h⟩ := jbd_some h
              refine j_callS (as := [.int x4]) (st := []) (st1 := [.int v29]) X ss_RX12_246 ⟨by decide, by decide⟩ rfl rfl (Nat.le_of_ble_eq_true rfl) rfl dX12_stop_85 jrv_i (c_X12_bits  hm31) rfl ?_
              refine j_iload_n X 3 dX12_stop_88 rfl rfl ?_
              obtain ⟨v32, σ33, hm34, h⟩ := jbd_some h
              refine j_callS (as := [.int x3]) (st := [.int v29]) (st1 := [.int v32, .int v29]) X ss_RX12_246 ⟨by decide, by decide⟩ rfl rfl (Nat.le_of_ble_eq_true rfl) rfl dX12_stop_89 jrv_i (c_X12_bits  hm34) rfl ?_
              refine j_icmp_ge (tgt := 99) X dX12_stop_92 (by decide) h (fun h => ?_) (fun h => ?_)
              · exact hk23 () σ33 h
              · exact hk26 () σ33 h
theorem X12_stop_L55_ok {K : jK} (X : JX K cX12_stop 6 RX12 3 70) {p1 : Int32} {p2 : Int32}  : ∀ (n : Nat) (s : Int32 × Int32) (σ : jMem) (o : (Int32) × jMem), X12_stop_L55 p1 p2 n s σ = some o → (J K 138 [none, none, some (.int p2), some (.int o.1), none, none] [] o.2) → J K 55 [some (.ref 89), some (.int p1), some (.int p2), some (.int s.1), some (.int s.2), none] [] σ := by
  intro n
  induction n with
  | zero => intro s σ o h; cases h
  | succ n ih => intro s σ o h; exact X12_stop_L55_bok X  ih (s.1) (s.2) σ o h
def f_X12_stop (a0 : Int32) (a1 : Int32) (σ : jMem) : Option (Int32 × jMem) :=
  jlet (jset σ 89 0 (0 : Int32)) (fun σ1 =>
  jbd (f_X12_isThere  σ1) (fun v2 σ3 =>
  if ¬ v2 = 0 then
  jbd (f_X12_isField ((a0).toInt64) σ3) (fun v5 σ6 =>
  if v5 = 0 then
  some (((-1000001 : Int32), σ6))
else
  jbd (f_X12_in ((a1).toInt64) (0 : Int64) (1 : Int64) σ6) (fun v8 σ9 =>
  if ¬ v8 = 0 then
  jld σ9 93 67 (1 : Int32) (fun v11 =>
  if ¬ a0 = v11 then
  jbd (X12_stop_L55 (a0) (a1) jFU ((-1000000 : Int32), (0 : Int32)) σ9) (fun q35 σ36 =>
  if ¬ a1 = 0 then
  some ((q35, σ36))
else
  jbd (f_X12_bits q35 σ36) (fun v37 σ38 =>
  some ((v37, σ38))))
else
  some (((-1000000 : Int32), σ9)))
else
  some (((-1000001 : Int32), σ9))))
else
  some (((-1000002 : Int32), σ3))))
set_option maxRecDepth 100000 in
set_option maxHeartbeats 4000000 in
theorem c_X12_stop {l : Launch} {D : va_G} {ad : Nat → Nat} {cid : Nat → ClassId} {a0 : Int32} {a1 : Int32}  {σ : jMem} {r : Int32} {σ' : jMem} (h : f_X12_stop a0 a1 σ = some (r, σ')) : jMet l D ad cid yX12_stop cX12_stop 6 (some .int) 3 70 [.ref 89, .int a0, .int a1] σ (some (.int r)) σ' := by
  refine jMet_of (ls0 := [some (.ref 89), some (.int a0), some (.int a1), none, none, none]) (by decide) (Nat.le_of_ble_eq_true rfl) rfl (fun K X R0 _ => ?_)
  unfold f_X12_stop at h
  refine j_aload_n X 0 dX12_stop_0 rfl rfl ?_
  refine j_iconst (v := 0) X dX12_stop_1 (by decide) ?_
  refine j_put X fp_RX12_47 ln_89 ly_89 rfl rfl rfl dX12_stop_2 h (fun σ1 h => ?_)
  refine j_aload_n X 0 dX12_stop_5 rfl rfl ?_
  obtain ⟨v2, σ3, hm4, h⟩ := jbd_some h
  refine j_callV (as := []) (st := []) (st1 := [.int v2]) X ln_89 ly_89 rfl rfl sv_RX12_203 ⟨by decide, by decide⟩ rfl rfl (Nat.le_of_ble_eq_true rfl) rfl dX12_stop_6 jrv_i (c_X12_isThere  hm4) rfl ?_
  refine j_if_ne (tgt := 15) X dX12_stop_9 (by decide) h (fun h => ?_) (fun h => ?_)
  · refine j_iload_n X 1 dX12_stop_15 rfl rfl ?_
    refine j_i2l X dX12_stop_16 ?_
    obtain ⟨v5, σ6, hm7, h⟩ := jbd_some h
    refine j_callS (as := [.long ((a0).toInt64)]) (st := []) (st1 := [.int v5]) X ss_RX12_207 ⟨by decide, by decide⟩ rfl rfl (Nat.le_of_ble_eq_true rfl) rfl dX12_stop_17 jrv_i (c_X12_isField  hm7) rfl ?_
    refine j_if_eq (tgt := 33) X dX12_stop_20 (by decide) h (fun h => ?_) (fun h => ?_)
    · refine j_ldc (v := -1000001) X tw_948 dX12_stop_33 ?_
      obtain ⟨rfl, rfl⟩ := jin2 h
      exact j_iret X R0 dX12_stop_35
    · refine j_iload_n X 2 dX12_stop_23 rfl rfl ?_
      refine j_i2l X dX12_stop_24 ?_
      refine j_lconst (v := 0) X dX12_stop_25 (by decide) ?_
      refine j_lconst (v := 1) X dX12_stop_26 (by decide) ?_
      obtain ⟨v8, σ9, hm10, h⟩ := jbd_some h
      refine j_callS (as := [.long ((a1).toInt64), .long (0 : Int64), .long (1 : Int64)]) (st := []) (st1 := [.int v8]) X ss_RX12_57 ⟨by decide, by decide⟩ rfl rfl (Nat.le_of_ble_eq_true rfl) rfl dX12_stop_27 jrv_i (c_X12_in  hm10) rfl ?_
      refine j_if_ne (tgt := 36) X dX12_stop_30 (by decide) h (fun h => ?_) (fun h => ?_)
      · refine j_iload_n X 1 dX12_stop_36 rfl rfl ?_
        refine j_aload_n X 0 dX12_stop_37 rfl rfl ?_
        refine j_getR (t := 93) X fg_RX12_19 ln_89 ly_89 rfl dX12_stop_38 ?_
        refine j_iconst (v := 1) X dX12_stop_41 (by decide) ?_
        refine j_iaload X ln_93 ly_93 dX12_stop_42 h (fun v11 h => ?_)
        refine j_icmp_ne (tgt := 49) X dX12_stop_43 (by decide) h (fun h => ?_) (fun h => ?_)
        · refine j_ldc (v := -1000000) X tw_988 dX12_stop_49 ?_
          refine j_istore_n (ls' := [some (.ref 89), some (.int a0), some (.int a1), some (.int (-1000000 : Int32)), none, none]) X 3 dX12_stop_51 rfl (Nat.le_of_ble_eq_true rfl) rfl ?_
          refine j_iconst (v := 0) X dX12_stop_52 (by decide) ?_
          refine j_istore (ls' := [some (.ref 89), some (.int a0), some (.int a1), some (.int (-1000000 : Int32)), some (.int (0 : Int32)), none]) X dX12_stop_53 (Nat.le_of_ble_eq_true rfl) rfl ?_
          obtain ⟨q35, σ36, hL40, h⟩ := jbd_some h
          refine X12_stop_L55_ok X  jFU ((-1000000 : Int32), (0 : Int32)) σ9 _ hL40 ?_
          refine j_iload_n X 2 dX12_stop_138 rfl rfl ?_
          refine j_if_ne (tgt := 149) X dX12_stop_139 (by decide) h (fun h => ?_) (fun h => ?_)
          · refine j_iload_n X 3 dX12_stop_149 rfl rfl ?_
            obtain ⟨rfl, rfl⟩ := jin2 h
            exact j_iret X R0 dX12_stop_150
          · refine j_iload_n X 3 dX12_stop_142 rfl rfl ?_
            obtain ⟨v37, σ38, hm39, h⟩ := jbd_some h
            refine j_callS (as := [.int q35]) (st := []) (st1 := [.int v37]) X ss_RX12_246 ⟨by decide, by decide⟩ rfl rfl (Nat.le_of_ble_eq_true rfl) rfl dX12_stop_143 jrv_i (c_X12_bits  hm39) rfl ?_
            refine j_goto (tgt := 150) X dX12_stop_146 (by decide) ?_
            obtain ⟨rfl, rfl⟩ := jin2 h
            exact j_iret X R0 dX12_stop_150
        · refine j_ldc (v := -1000000) X tw_988 dX12_stop_46 ?_
          obtain ⟨rfl, rfl⟩ := jin2 h
          exact j_iret X R0 dX12_stop_48
      · refine j_ldc (v := -1000001) X tw_948 dX12_stop_33 ?_
        obtain ⟨rfl, rfl⟩ := jin2 h
        exact j_iret X R0 dX12_stop_35
  · refine j_ldc (v := -1000002) X tw_1041 dX12_stop_12 ?_
    obtain ⟨rfl, rfl⟩ := jin2 h
    exact j_iret X R0 dX12_stop_14
