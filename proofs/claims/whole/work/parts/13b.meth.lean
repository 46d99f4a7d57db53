def X12_lost_L22_b (p1 : Int32) (rec : Int32 → jMem → Option (((Unit) × jMem) ⊕ (Int32 × jMem))) (x2 : Int32) (σ : jMem) : Option (((Unit) × jMem) ⊕ (Int32 × jMem)) :=
  if (61 : Int32) ≤ x2 then
  some (.inl ((), σ))
else
  jbd (f_X12_waysOf 95 σ) (fun v7 σ8 =>
  jbd (f_X12_has v7 p1 σ8) (fun v10 σ11 =>
  if ¬ v10 = 0 then
  jbv (f_X12_year 95 σ11) (fun σ13 =>
  rec (x2 + 1) σ13)
else
  some (.inr (x2, σ11))))
def X12_lost_L22 (p1 : Int32) : Nat → Int32 → jMem → Option (((Unit) × jMem) ⊕ (Int32 × jMem)) := jloop (fun rec s σ => X12_lost_L22_b p1 rec s σ)
set_option maxRecDepth 100000 in
set_option maxHeartbeats 4000000 in
theorem X12_lost_L22_bok {K : jK} (X : JX K cX12_lost 3 RX12 4 86) {p1 : Int32}  {rec : Int32 → jMem → Option (((Unit) × jMem) ⊕ (Int32 × jMem))} (ih : ∀ (s : Int32) (σ : jMem) (o : ((Unit) × jMem) ⊕ (Int32 × jMem)), rec s σ = some o → (∀ q, o = .inl q → J K 57 [none, none, none] [] q.2) → (∀ q, o = .inr q → JR K (some .int) (some (.int q.1)) q.2) → J K 22 [some (.ref 89), some (.int p1), some (.int s)] [] σ) : ∀ (x2 : Int32) (σ : jMem) (o : ((Unit) × jMem) ⊕ (Int32 × jMem)), X12_lost_L22_b p1 rec x2 σ = some o → (∀ q, o = .inl q → J K 57 [none, none, none] [] q.2) → (∀ q, o = .inr q → JR K (some .int) (some (.int q.1)) q.2) → J K 22 [some (.ref 89), some (.int p1), some (.int x2)] [] σ := by
  intro x2 σ o h kk kr
  unfold X12_lost_L22_b at h
  refine j_iload_n X 2 dX12_lost_22 rfl rfl ?_
  refine j_bipush (v := 61) X dX12_lost_23 (by decide) ?_
  refine j_icmp_ge (tgt := 57) X dX12_lost_25 (by decide) h (fun h => ?_) (fun h => ?_)
  · obtain rfl := Option.some.inj h
    exact j_sub (ls' := [none, none, none]) ⟨Or.inl rfl, Or.inl rfl, Or.inl rfl, trivial⟩ (kk ((), σ) rfl)
  · refine j_aload_n X 0 dX12_lost_28 rfl rfl ?_
    refine j_getR (t := 95) X fg_RX12_25 ln_89 ly_89 rfl dX12_lost_29 ?_
    obtain ⟨v7, σ8, hm9, h⟩ := jbd_some h
    refine j_callS (as := [.ref 95]) (st := []) (st1 := [.int v7]) X ss_RX12_221 ⟨by decide, by decide⟩ rfl rfl (Nat.le_of_ble_eq_true rfl) rfl dX12_lost_32 jrv_i (c_X12_waysOf ⟨ln_95, ly_95⟩ hm9) rfl ?_
    refine j_iload_n X 1 dX12_lost_35 rfl rfl ?_
    obtain ⟨v10, σ11, hm12, h⟩ := jbd_some h
    refine j_callS (as := [.int v7, .int p1]) (st := []) (st1 := [.int v10]) X ss_RX12_153 ⟨by decide, by decide⟩ rfl rfl (Nat.le_of_ble_eq_true rfl) rfl dX12_lost_36 jrv_i (c_X12_has  hm12) rfl ?_
    refine j_if_ne (tgt := 44) X dX12_lost_39 (by decide) h (fun h => ?_) (fun h => ?_)
    · refine j_aload_n X 0 dX12_lost_44 rfl rfl ?_
      refine j_getR (t := 95) X fg_RX12_25 ln_89 ly_89 rfl dX12_lost_45 ?_
      obtain ⟨σ13, hm14, h⟩ := jbv_some h
      refine j_callS (as := [.ref 95]) (st := []) (st1 := []) X ss_RX12_227 ⟨by decide, by decide⟩ rfl rfl (Nat.le_of_ble_eq_true rfl) rfl dX12_lost_48 jrv_v (c_X12_year ⟨ln_95, ly_95⟩ hm14) rfl ?_
      refine j_iinc (v := (x2 + 1)) (ls' := [some (.ref 89), some (.int p1), some (.int (x2 + 1))]) X dX12_lost_51 rfl rfl (Nat.le_of_ble_eq_true rfl) rfl ?_
      refine j_goto (tgt := 22) X dX12_lost_54 (by decide) ?_
      exact ih (x2 + 1) σ13 _ h kk kr
    · refine j_iload_n X 2 dX12_lost_42 rfl rfl ?_
      obtain rfl := Option.some.inj h
      exact j_iret X (kr (x2, σ11) rfl) dX12_lost_43
theorem X12_lost_L22_ok {K : jK} (X : JX K cX12_lost 3 RX12 4 86) {p1 : Int32}  : ∀ (n : Nat) (s : Int32) (σ : jMem) (o : ((Unit) × jMem) ⊕ (Int32 × jMem)), X12_lost_L22 p1 n s σ = some o → (∀ q, o = .inl q → J K 57 [none, none, none] [] q.2) → (∀ q, o = .inr q → JR K (some .int) (some (.int q.1)) q.2) → J K 22 [some (.ref 89), some (.int p1), some (.int s)] [] σ := by
  intro n
  induction n with
  | zero => intro s σ o h; cases h
  | succ n ih => intro s σ o h; exact X12_lost_L22_bok X  ih (s) σ o h
def f_X12_lost (a0 : Int32) (σ : jMem) : Option (Int32 × jMem) :=
  jlet (jset σ 89 0 (0 : Int32)) (fun σ1 =>
  jbd (f_X12_isPath a0 σ1) (fun v2 σ3 =>
  if ¬ v2 = 0 then
  jbv (f_X12_layThen  σ3) (fun σ5 =>
  jbr (X12_lost_L22 (a0) jFU (0 : Int32) σ5) (fun q15 σ16 =>
  some (((-1000000 : Int32), σ16))) (fun e18 => some e18))
else
  some (((-1000001 : Int32), σ3))))
set_option maxRecDepth 100000 in
set_option maxHeartbeats 4000000 in
theorem c_X12_lost {l : Launch} {D : va_G} {ad : Nat → Nat} {cid : Nat → ClassId} {a0 : Int32}  {σ : jMem} {r : Int32} {σ' : jMem} (h : f_X12_lost a0 σ = some (r, σ')) : jMet l D ad cid yX12_lost cX12_lost 3 (some .int) 4 86 [.ref 89, .int a0] σ (some (.int r)) σ' := by
  refine jMet_of (ls0 := [some (.ref 89), some (.int a0), none]) (by decide) (Nat.le_of_ble_eq_true rfl) rfl (fun K X R0 _ => ?_)
  unfold f_X12_lost at h
  refine j_aload_n X 0 dX12_lost_0 rfl rfl ?_
  refine j_iconst (v := 0) X dX12_lost_1 (by decide) ?_
  refine j_put X fp_RX12_47 ln_89 ly_89 rfl rfl rfl dX12_lost_2 h (fun σ1 h => ?_)
  refine j_aload_n X 0 dX12_lost_5 rfl rfl ?_
  refine j_iload_n X 1 dX12_lost_6 rfl rfl ?_
  obtain ⟨v2, σ3, hm4, h⟩ := jbd_some h
  refine j_callV (as := [.int a0]) (st := []) (st1 := [.int v2]) X ln_89 ly_89 rfl rfl sv_RX12_233 ⟨by decide, by decide⟩ rfl rfl (Nat.le_of_ble_eq_true rfl) rfl dX12_lost_7 jrv_i (c_X12_isPath  hm4) rfl ?_
  refine j_if_ne (tgt := 16) X dX12_lost_10 (by decide) h (fun h => ?_) (fun h => ?_)
  · refine j_aload_n X 0 dX12_lost_16 rfl rfl ?_
    obtain ⟨σ5, hm6, h⟩ := jbv_some h
    refine j_callV (as := []) (st := []) (st1 := []) X ln_89 ly_89 rfl rfl sv_RX12_243 ⟨by decide, by decide⟩ rfl rfl (Nat.le_of_ble_eq_true rfl) rfl dX12_lost_17 jrv_v (c_X12_layThen  hm6) rfl ?_
    refine j_iconst (v := 0) X dX12_lost_20 (by decide) ?_
    refine j_istore_n (ls' := [some (.ref 89), some (.int a0), some (.int (0 : Int32))]) X 2 dX12_lost_21 rfl (Nat.le_of_ble_eq_true rfl) rfl ?_
    obtain ⟨o19, hL17, hl20, hr21⟩ := jbr_some h
    refine X12_lost_L22_ok X  jFU (0 : Int32) σ5 o19 hL17 (fun q15w e9 => ?_) (fun q15w e9 => ?_)
    · have h := hl20 _ e9
      obtain ⟨q15, σ16⟩ := q15w
      refine j_ldc (v := -1000000) X tw_988 dX12_lost_57 ?_
      obtain ⟨rfl, rfl⟩ := jin2 h
      exact j_iret X R0 dX12_lost_59
    · have h := hr21 _ e9
      obtain rfl := Option.some.inj h
      exact R0
  · refine j_ldc (v := -1000001) X tw_948 dX12_lost_13 ?_
    obtain ⟨rfl, rfl⟩ := jin2 h
    exact j_iret X R0 dX12_lost_15
def f_X12_goes (a0 : Int32) (a1 : Int32) (σ : jMem) : Option (Int32 × jMem) :=
  jlet (jset σ 89 0 (0 : Int32)) (fun σ1 =>
  jbd (f_X12_isThere  σ1) (fun v2 σ3 =>
  if ¬ v2 = 0 then
  jbd (f_X12_isField ((a0).toInt64) σ3) (fun v5 σ6 =>
  if v5 = 0 then
  some (((-1000001 : Int32), σ6))
else
  jbd (f_X12_in ((a1).toInt64) (0 : Int64) (1 : Int64) σ6) (fun v8 σ9 =>
  if ¬ v8 = 0 then
  jld σ9 93 67 (6 : Int32) (fun v11 =>
  jbv (f_X12_layWay v11 a0 σ9) (fun σ12 =>
  if (σ12.1 89 22) = (-1000000 : Int32) then
  some (((σ12.1 89 22), σ12))
else
  if ¬ a1 = 0 then
  some (((σ12.1 89 20), σ12))
else
  some (((σ12.1 89 22), σ12))))
else
  some (((-1000001 : Int32), σ9))))
else
  some (((-1000002 : Int32), σ3))))
set_option maxRecDepth 100000 in
set_option maxHeartbeats 4000000 in
theorem c_X12_goes {l : Launch} {D : va_G} {ad : Nat → Nat} {cid : Nat → ClassId} {a0 : Int32} {a1 : Int32}  {σ : jMem} {r : Int32} {σ' : jMem} (h : f_X12_goes a0 a1 σ = some (r, σ')) : jMet l D ad cid yX12_goes cX12_goes 3 (some .int) 3 77 [.ref 89, .int a0, .int a1] σ (some (.int r)) σ' := by
  refine jMet_of (ls0 := [some (.ref 89), some (.int a0), some (.int a1)]) (by decide) (Nat.le_of_ble_eq_true rfl) rfl (fun K X R0 _ => ?_)
  unfold f_X12_goes at h
  refine j_aload_n X 0 dX12_goes_0 rfl rfl ?_
  refine j_iconst (v := 0) X dX12_goes_1 (by decide) ?_
  refine j_put X fp_RX12_47 ln_89 ly_89 rfl rfl rfl dX12_goes_2 h (fun σ1 h => ?_)
  refine j_aload_n X 0 dX12_goes_5 rfl rfl ?_
  obtain ⟨v2, σ3, hm4, h⟩ := jbd_some h
  refine j_callV (as := []) (st := []) (st1 := [.int v2]) X ln_89 ly_89 rfl rfl sv_RX12_203 ⟨by decide, by decide⟩ rfl rfl (Nat.le_of_ble_eq_true rfl) rfl dX12_goes_6 jrv_i (c_X12_isThere  hm4) rfl ?_
  refine j_if_ne (tgt := 15) X dX12_goes_9 (by decide) h (fun h => ?_) (fun h => ?_)
  · refine j_iload_n X 1 dX12_goes_15 rfl rfl ?_
    refine j_i2l X dX12_goes_16 ?_
    obtain ⟨v5, σ6, hm7, h⟩ := jbd_some h
    refine j_callS (as := [.long ((a0).toInt64)]) (st := []) (st1 := [.int v5]) X ss_RX12_207 ⟨by decide, by decide⟩ rfl rfl (Nat.le_of_ble_eq_true rfl) rfl dX12_goes_17 jrv_i (c_X12_isField  hm7) rfl ?_
    refine j_if_eq (tgt := 33) X dX12_goes_20 (by decide) h (fun h => ?_) (fun h => ?_)
    · refine j_ldc (v := -1000001) X tw_948 dX12_goes_33 ?_
      obtain ⟨rfl, rfl⟩ := jin2 h
      exact j_iret X R0 dX12_goes_35
    · refine j_iload_n X 2 dX12_goes_23 rfl rfl ?_
      refine j_i2l X dX12_goes_24 ?_
      refine j_lconst (v := 0) X dX12_goes_25 (by decide) ?_
      refine j_lconst (v := 1) X dX12_goes_26 (by decide) ?_
      obtain ⟨v8, σ9, hm10, h⟩ := jbd_some h
      refine j_callS (as := [.long ((a1).toInt64), .long (0 : Int64), .long (1 : Int64)]) (st := []) (st1 := [.int v8]) X ss_RX12_57 ⟨by decide, by decide⟩ rfl rfl (Nat.le_of_ble_eq_true rfl) rfl dX12_goes_27 jrv_i (c_X12_in  hm10) rfl ?_
      refine j_if_ne (tgt := 36) X dX12_goes_30 (by decide) h (fun h => ?_) (fun h => ?_)
      · refine j_aload_n X 0 dX12_goes_36 rfl rfl ?_
        refine j_aload_n X 0 dX12_goes_37 rfl rfl ?_
        refine j_getR (t := 93) X fg_RX12_19 ln_89 ly_89 rfl dX12_goes_38 ?_
        refine j_bipush (v := 6) X dX12_goes_41 (by decide) ?_
        refine j_iaload X ln_93 ly_93 dX12_goes_43 h (fun v11 h => ?_)
        refine j_iload_n X 1 dX12_goes_44 rfl rfl ?_
        obtain ⟨σ12, hm13, h⟩ := jbv_some h
        refine j_callV (as := [.int v11, .int a0]) (st := []) (st1 := []) X ln_89 ly_89 rfl rfl sv_RX12_176 ⟨by decide, by decide⟩ rfl rfl (Nat.le_of_ble_eq_true rfl) rfl dX12_goes_45 jrv_v (c_X12_layWay  hm13) rfl ?_
        refine j_aload_n X 0 dX12_goes_48 rfl rfl ?_
        refine j_getI X fg_RX12_170 ln_89 ly_89 rfl dX12_goes_49 ?_
        refine j_ldc (v := -1000000) X tw_988 dX12_goes_52 ?_
        refine j_icmp_eq (tgt := 61) X dX12_goes_54 (by decide) h (fun h => ?_) (fun h => ?_)
        · refine j_aload_n X 0 dX12_goes_61 rfl rfl ?_
          refine j_getI X fg_RX12_170 ln_89 ly_89 rfl dX12_goes_62 ?_
          refine j_goto (tgt := 72) X dX12_goes_65 (by decide) ?_
          obtain ⟨rfl, rfl⟩ := jin2 h
          exact j_iret X R0 dX12_goes_72
        · refine j_iload_n X 2 dX12_goes_57 rfl rfl ?_
          refine j_if_ne (tgt := 68) X dX12_goes_58 (by decide) h (fun h => ?_) (fun h => ?_)
          · refine j_aload_n X 0 dX12_goes_68 rfl rfl ?_
            refine j_getI X fg_RX12_164 ln_89 ly_89 rfl dX12_goes_69 ?_
            obtain ⟨rfl, rfl⟩ := jin2 h
            exact j_iret X R0 dX12_goes_72
          · refine j_aload_n X 0 dX12_goes_61 rfl rfl ?_
            refine j_getI X fg_RX12_170 ln_89 ly_89 rfl dX12_goes_62 ?_
            refine j_goto (tgt := 72) X dX12_goes_65 (by decide) ?_
            obtain ⟨rfl, rfl⟩ := jin2 h
            exact j_iret X R0 dX12_goes_72
      · refine j_ldc (v := -1000001) X tw_948 dX12_goes_33 ?_
        obtain ⟨rfl, rfl⟩ := jin2 h
        exact j_iret X R0 dX12_goes_35
  · refine j_ldc (v := -1000002) X tw_1041 dX12_goes_12 ?_
    obtain ⟨rfl, rfl⟩ := jin2 h
    exact j_iret X R0 dX12_goes_14
def f_X12_comesThrough (a0 : Int32) (a1 : Int32) (σ : jMem) : Option (Int32 × jMem) :=
  jbd (f_X12_allPaths  σ) (fun v1 σ2 =>
  jbv (f_X12_layFars (v1 &&& (a0 ^^^ (-1 : Int32))) σ2) (fun σ4 =>
  jld σ4 98 8 a1 (fun v6 =>
  if v6 = (-1000000 : Int32) then
  some (((0 : Int32), σ4))
else
  some (((1 : Int32), σ4)))))
set_option maxRecDepth 100000 in
set_option maxHeartbeats 4000000 in
theorem c_X12_comesThrough {l : Launch} {D : va_G} {ad : Nat → Nat} {cid : Nat → ClassId} {a0 : Int32} {a1 : Int32}  {σ : jMem} {r : Int32} {σ' : jMem} (h : f_X12_comesThrough a0 a1 σ = some (r, σ')) : jMet l D ad cid yX12_comesThrough cX12_comesThrough 3 (some .boolean) 2 48 [.ref 89, .int a0, .int a1] σ (some (.int r)) σ' := by
  refine jMet_of (ls0 := [some (.ref 89), some (.int a0), some (.int a1)]) (by decide) (Nat.le_of_ble_eq_true rfl) rfl (fun K X R0 _ => ?_)
  unfold f_X12_comesThrough at h
  refine j_aload_n X 0 dX12_comesThrough_0 rfl rfl ?_
  refine j_aload_n X 0 dX12_comesThrough_1 rfl rfl ?_
  obtain ⟨v1, σ2, hm3, h⟩ := jbd_some h
  refine j_callV (as := []) (st := [.ref 89]) (st1 := [.int v1, .ref 89]) X ln_89 ly_89 rfl rfl sv_RX12_157 ⟨by decide, by decide⟩ rfl rfl (Nat.le_of_ble_eq_true rfl) rfl dX12_comesThrough_2 jrv_i (c_X12_allPaths  hm3) rfl ?_
  refine j_iload_n X 1 dX12_comesThrough_5 rfl rfl ?_
  refine j_iconst (v := -1) X dX12_comesThrough_6 (by decide) ?_
  refine j_ixor X dX12_comesThrough_7 ?_
  refine j_iand X dX12_comesThrough_8 ?_
  obtain ⟨σ4, hm5, h⟩ := jbv_some h
  refine j_callV (as := [.int (v1 &&& (a0 ^^^ (-1 : Int32)))]) (st := []) (st1 := []) X ln_89 ly_89 rfl rfl sv_RX12_161 ⟨by decide, by decide⟩ rfl rfl (Nat.le_of_ble_eq_true rfl) rfl dX12_comesThrough_9 jrv_v (c_X12_layFars  hm5) rfl ?_
  refine j_aload_n X 0 dX12_comesThrough_12 rfl rfl ?_
  refine j_getR (t := 98) X fg_RX12_34 ln_89 ly_89 rfl dX12_comesThrough_13 ?_
  refine j_iload_n X 2 dX12_comesThrough_16 rfl rfl ?_
  refine j_iaload X ln_98 ly_98 dX12_comesThrough_17 h (fun v6 h => ?_)
  refine j_ldc (v := -1000000) X tw_988 dX12_comesThrough_18 ?_
  refine j_icmp_eq (tgt := 27) X dX12_comesThrough_20 (by decide) h (fun h => ?_) (fun h => ?_)
  · refine j_iconst (v := 0) X dX12_comesThrough_27 (by decide) ?_
    obtain ⟨rfl, rfl⟩ := jin2 h
    exact j_zret X R0 rfl dX12_comesThrough_28
  · refine j_iconst (v := 1) X dX12_comesThrough_23 (by decide) ?_
    refine j_goto (tgt := 28) X dX12_comesThrough_24 (by decide) ?_
    obtain ⟨rfl, rfl⟩ := jin2 h
    exact j_zret X R0 rfl dX12_comesThrough_28
