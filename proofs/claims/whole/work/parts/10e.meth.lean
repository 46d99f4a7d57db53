def f_X9_readLaw (a0 : Nat) (σ : jMem) : Option (Int32 × jMem) :=
  jbd (f_X9_takes (99 : Int32) σ) (fun v1 σ2 =>
  if v1 = 0 then
  some (((0 : Int32), σ2))
else
  jbd (f_X9_isNumber (0 : Int32) (7 : Int32) σ2) (fun v4 σ5 =>
  if ¬ v4 = 0 then
  jlet (jset σ5 a0 2 (σ5.1 13 6)) (fun σ7 =>
  jbv (f_X9_take  σ7) (fun σ8 =>
  jbd (f_X9_takes (44 : Int32) σ8) (fun v10 σ11 =>
  if v10 = 0 then
  some (((0 : Int32), σ11))
else
  jbd (f_X9_isNumber (20 : Int32) (90 : Int32) σ11) (fun v13 σ14 =>
  if ¬ v13 = 0 then
  jlet (jset σ14 a0 3 (σ14.1 13 6)) (fun σ16 =>
  jbv (f_X9_take  σ16) (fun σ17 =>
  jbd (f_X9_takes (59 : Int32) σ17) (fun v19 σ20 =>
  jck (jisb v19 = true) (some ((v19, σ20))))))
else
  some (((0 : Int32), σ14))))))
else
  some (((0 : Int32), σ5))))
set_option maxRecDepth 100000 in
set_option maxHeartbeats 4000000 in
theorem c_X9_readLaw {l : Launch} {D : va_G} {ad : Nat → Nat} {cid : Nat → ClassId} {a0 : Nat} (ha0 : jisP a0) {σ : jMem} {r : Int32} {σ' : jMem} (h : f_X9_readLaw a0 σ = some (r, σ')) : jMet l D ad cid yX9_readLaw cX9_readLaw 2 (some .boolean) 4 82 [.ref 13, .ref a0] σ (some (.int r)) σ' := by
  refine jMet_of (ls0 := [some (.ref 13), some (.ref a0)]) (by decide) (Nat.le_of_ble_eq_true rfl) rfl (fun K X R0 _ => ?_)
  unfold f_X9_readLaw at h
  refine j_aload_n X 0 dX9_readLaw_0 rfl rfl ?_
  refine j_bipush (v := 99) X dX9_readLaw_1 (by decide) ?_
  obtain ⟨v1, σ2, hm3, h⟩ := jbd_some h
  refine j_callV (as := [.int (99 : Int32)]) (st := []) (st1 := [.int v1]) X ln_13 ly_13 rfl rfl sv_RX9_55 ⟨by decide, by decide⟩ rfl rfl (Nat.le_of_ble_eq_true rfl) rfl dX9_readLaw_3 jrv_i (c_X9_takes  hm3) rfl ?_
  refine j_if_eq (tgt := 19) X dX9_readLaw_6 (by decide) h (fun h => ?_) (fun h => ?_)
  · refine j_iconst (v := 0) X dX9_readLaw_19 (by decide) ?_
    obtain ⟨rfl, rfl⟩ := jin2 h
    exact j_zret X R0 rfl dX9_readLaw_20
  · refine j_aload_n X 0 dX9_readLaw_9 rfl rfl ?_
    refine j_iconst (v := 0) X dX9_readLaw_10 (by decide) ?_
    refine j_bipush (v := 7) X dX9_readLaw_11 (by decide) ?_
    obtain ⟨v4, σ5, hm6, h⟩ := jbd_some h
    refine j_callV (as := [.int (0 : Int32), .int (7 : Int32)]) (st := []) (st1 := [.int v4]) X ln_13 ly_13 rfl rfl sv_RX9_58 ⟨by decide, by decide⟩ rfl rfl (Nat.le_of_ble_eq_true rfl) rfl dX9_readLaw_13 jrv_i (c_X9_isNumber  hm6) rfl ?_
    refine j_if_ne (tgt := 21) X dX9_readLaw_16 (by decide) h (fun h => ?_) (fun h => ?_)
    · refine j_aload_n X 1 dX9_readLaw_21 rfl rfl ?_
      refine j_aload_n X 0 dX9_readLaw_22 rfl rfl ?_
      refine j_getI X fg_RX9_62 ln_13 ly_13 rfl dX9_readLaw_23 ?_
      refine j_put X fp_RX9_65 (jp_lt ha0) (jp_ly ha0) rfl rfl rfl dX9_readLaw_26 h (fun σ7 h => ?_)
      refine j_aload_n X 0 dX9_readLaw_29 rfl rfl ?_
      obtain ⟨σ8, hm9, h⟩ := jbv_some h
      refine j_callV (as := []) (st := []) (st1 := []) X ln_13 ly_13 rfl rfl sv_RX9_27 ⟨by decide, by decide⟩ rfl rfl (Nat.le_of_ble_eq_true rfl) rfl dX9_readLaw_30 jrv_v (c_X9_take  hm9) rfl ?_
      refine j_aload_n X 0 dX9_readLaw_33 rfl rfl ?_
      refine j_bipush (v := 44) X dX9_readLaw_34 (by decide) ?_
      obtain ⟨v10, σ11, hm12, h⟩ := jbd_some h
      refine j_callV (as := [.int (44 : Int32)]) (st := []) (st1 := [.int v10]) X ln_13 ly_13 rfl rfl sv_RX9_55 ⟨by decide, by decide⟩ rfl rfl (Nat.le_of_ble_eq_true rfl) rfl dX9_readLaw_36 jrv_i (c_X9_takes  hm12) rfl ?_
      refine j_if_eq (tgt := 53) X dX9_readLaw_39 (by decide) h (fun h => ?_) (fun h => ?_)
      · refine j_iconst (v := 0) X dX9_readLaw_53 (by decide) ?_
        obtain ⟨rfl, rfl⟩ := jin2 h
        exact j_zret X R0 rfl dX9_readLaw_54
      · refine j_aload_n X 0 dX9_readLaw_42 rfl rfl ?_
        refine j_bipush (v := 20) X dX9_readLaw_43 (by decide) ?_
        refine j_bipush (v := 90) X dX9_readLaw_45 (by decide) ?_
        obtain ⟨v13, σ14, hm15, h⟩ := jbd_some h
        refine j_callV (as := [.int (20 : Int32), .int (90 : Int32)]) (st := []) (st1 := [.int v13]) X ln_13 ly_13 rfl rfl sv_RX9_58 ⟨by decide, by decide⟩ rfl rfl (Nat.le_of_ble_eq_true rfl) rfl dX9_readLaw_47 jrv_i (c_X9_isNumber  hm15) rfl ?_
        refine j_if_ne (tgt := 55) X dX9_readLaw_50 (by decide) h (fun h => ?_) (fun h => ?_)
        · refine j_aload_n X 1 dX9_readLaw_55 rfl rfl ?_
          refine j_aload_n X 0 dX9_readLaw_56 rfl rfl ?_
          refine j_getI X fg_RX9_62 ln_13 ly_13 rfl dX9_readLaw_57 ?_
          refine j_put X fp_RX9_68 (jp_lt ha0) (jp_ly ha0) rfl rfl rfl dX9_readLaw_60 h (fun σ16 h => ?_)
          refine j_aload_n X 0 dX9_readLaw_63 rfl rfl ?_
          obtain ⟨σ17, hm18, h⟩ := jbv_some h
          refine j_callV (as := []) (st := []) (st1 := []) X ln_13 ly_13 rfl rfl sv_RX9_27 ⟨by decide, by decide⟩ rfl rfl (Nat.le_of_ble_eq_true rfl) rfl dX9_readLaw_64 jrv_v (c_X9_take  hm18) rfl ?_
          refine j_aload_n X 0 dX9_readLaw_67 rfl rfl ?_
          refine j_bipush (v := 59) X dX9_readLaw_68 (by decide) ?_
          obtain ⟨v19, σ20, hm21, h⟩ := jbd_some h
          refine j_callV (as := [.int (59 : Int32)]) (st := []) (st1 := [.int v19]) X ln_13 ly_13 rfl rfl sv_RX9_55 ⟨by decide, by decide⟩ rfl rfl (Nat.le_of_ble_eq_true rfl) rfl dX9_readLaw_70 jrv_i (c_X9_takes  hm21) rfl ?_
          obtain ⟨hc22, h⟩ := jck_some h
          obtain ⟨rfl, rfl⟩ := jin2 h
          exact j_zret X R0 hc22 dX9_readLaw_73
        · refine j_iconst (v := 0) X dX9_readLaw_53 (by decide) ?_
          obtain ⟨rfl, rfl⟩ := jin2 h
          exact j_zret X R0 rfl dX9_readLaw_54
    · refine j_iconst (v := 0) X dX9_readLaw_19 (by decide) ?_
      obtain ⟨rfl, rfl⟩ := jin2 h
      exact j_zret X R0 rfl dX9_readLaw_20
def f_X5_clear (k : Nat) (σ : jMem) : Option jMem :=
  jlet (jset σ k 4 (0 : Int32)) (fun σ1 =>
  jlet (jset σ1 k 5 (0 : Int32)) (fun σ2 =>
  jlet (jset σ2 k 6 (0 : Int32)) (fun σ3 =>
  jlet (jset σ3 k 7 (0 : Int32)) (fun σ4 =>
  some σ4))))
set_option maxRecDepth 100000 in
set_option maxHeartbeats 4000000 in
theorem c_X5_clear {l : Launch} {D : va_G} {ad : Nat → Nat} {cid : Nat → ClassId} {k : Nat} (hk : jisP k) {σ : jMem} {σ' : jMem} (h : f_X5_clear k σ = some σ') : jMet l D ad cid yX5_clear cX5_clear 1 none 0 0 [.ref k] σ none σ' := by
  refine jMet_of (ls0 := [some (.ref k)]) (by decide) (Nat.le_of_ble_eq_true rfl) rfl (fun K X R0 _ => ?_)
  unfold f_X5_clear at h
  refine j_aload_n X 0 dX5_clear_0 rfl rfl ?_
  refine j_iconst (v := 0) X dX5_clear_1 (by decide) ?_
  refine j_put X fp_RX5_37 (jp_lt hk) (jp_ly hk) rfl rfl rfl dX5_clear_2 h (fun σ1 h => ?_)
  refine j_aload_n X 0 dX5_clear_5 rfl rfl ?_
  refine j_iconst (v := 0) X dX5_clear_6 (by decide) ?_
  refine j_put X fp_RX5_41 (jp_lt hk) (jp_ly hk) rfl rfl rfl dX5_clear_7 h (fun σ2 h => ?_)
  refine j_aload_n X 0 dX5_clear_10 rfl rfl ?_
  refine j_iconst (v := 0) X dX5_clear_11 (by decide) ?_
  refine j_put X fp_RX5_44 (jp_lt hk) (jp_ly hk) rfl rfl rfl dX5_clear_12 h (fun σ3 h => ?_)
  refine j_aload_n X 0 dX5_clear_15 rfl rfl ?_
  refine j_iconst (v := 0) X dX5_clear_16 (by decide) ?_
  refine j_put X fp_RX5_47 (jp_lt hk) (jp_ly hk) rfl rfl rfl dX5_clear_17 h (fun σ4 h => ?_)
  obtain rfl := Option.some.inj h
  exact j_vret X R0 dX5_clear_20
theorem sv_RX9_19 : jSiV RX9 19 yX5_clear cX5_clear 1 none 0 := ⟨tw_382, tw_383, tw_384, tw_10, tw_385, by decide, by decide, by decide +kernel⟩
theorem sv_RX9_30 : jSiV RX9 30 yX9_readLaw cX9_readLaw 2 (some .boolean) 1 := ⟨tw_397, tw_399, ts_4, tw_3, tw_400, by decide, by decide, by decide +kernel⟩
theorem sv_RX9_37 : jSiV RX9 37 yX9_readPath cX9_readPath 4 (some .boolean) 1 := ⟨tw_413, tw_415, ts_8, tw_3, tw_416, by decide, by decide, by decide +kernel⟩
theorem sv_RX9_44 : jSiV RX9 44 yX9_readWitness cX9_readWitness 4 (some .boolean) 1 := ⟨tw_432, tw_434, ts_9, tw_3, tw_435, by decide, by decide, by decide +kernel⟩
def X9_read_L25_b (p1 : Nat) (rec : Int32 → jMem → Option (((Unit) × jMem) ⊕ (Int32 × jMem))) (x2 : Int32) (σ : jMem) : Option (((Unit) × jMem) ⊕ (Int32 × jMem)) :=
  if (12 : Int32) < x2 then
  some (.inl ((), σ))
else
  jj (fun (q10 : Unit) σ11 =>
  jbd (f_X9_readPath p1 σ11) (fun v12 σ13 =>
  if ¬ v12 = 0 then
  rec (x2 + 1) σ13
else
  some (.inr ((0 : Int32), σ13)))) (fun k9 =>
  if x2 = 0 then
  k9 () σ
else
  if ¬ (σ.1 13 5) = (112 : Int32) then
  some (.inl ((), σ))
else
  k9 () σ)
def X9_read_L25 (p1 : Nat) : Nat → Int32 → jMem → Option (((Unit) × jMem) ⊕ (Int32 × jMem)) := jloop (fun rec s σ => X9_read_L25_b p1 rec s σ)
set_option maxRecDepth 100000 in
set_option maxHeartbeats 4000000 in
theorem X9_read_L25_bok {K : jK} (X : JX K cX9_read 3 RX9 5 105) {p1 : Nat} (hp1 : jisP p1) {rec : Int32 → jMem → Option (((Unit) × jMem) ⊕ (Int32 × jMem))} (ih : ∀ (s : Int32) (σ : jMem) (o : ((Unit) × jMem) ⊕ (Int32 × jMem)), rec s σ = some o → (∀ q, o = .inl q → J K 60 [some (.ref 13), some (.ref p1), none] [] q.2) → (∀ q, o = .inr q → JR K (some .boolean) (some (.int q.1)) q.2) → J K 25 [some (.ref 13), some (.ref p1), some (.int s)] [] σ) : ∀ (x2 : Int32) (σ : jMem) (o : ((Unit) × jMem) ⊕ (Int32 × jMem)), X9_read_L25_b p1 rec x2 σ = some o → (∀ q, o = .inl q → J K 60 [some (.ref 13), some (.ref p1), none] [] q.2) → (∀ q, o = .inr q → JR K (some .boolean) (some (.int q.1)) q.2) → J K 25 [some (.ref 13), some (.ref p1), some (.int x2)] [] σ := by
  intro x2 σ o h kk kr
  unfold X9_read_L25_b at h
  refine j_iload_n X 2 dX9_read_25 rfl rfl ?_
  refine j_bipush (v := 12) X dX9_read_26 (by decide) ?_
  refine j_icmp_gt (tgt := 60) X dX9_read_28 (by decide) h (fun h => ?_) (fun h => ?_)
  · obtain rfl := Option.some.inj h
    exact j_sub (ls' := [some (.ref 13), some (.ref p1), none]) ⟨Or.inr rfl, Or.inr rfl, Or.inl rfl, trivial⟩ (kk ((), σ) rfl)
  · refine j_iload_n X 2 dX9_read_31 rfl rfl ?_
    refine j_join (pcJ := 44) (lsJ := fun q10 => [some (.ref 13), some (.ref p1), some (.int x2)]) (stJ := fun q10 => []) h (fun q10 σ11 h => ?_) (fun k9 hk9 h => ?_)
    · refine j_aload_n X 0 dX9_read_44 rfl rfl ?_
      refine j_aload_n X 1 dX9_read_45 rfl rfl ?_
      obtain ⟨v12, σ13, hm14, h⟩ := jbd_some h
      refine j_callV (as := [.ref p1]) (st := []) (st1 := [.int v12]) X ln_13 ly_13 rfl rfl sv_RX9_37 ⟨by decide, by decide⟩ rfl rfl (Nat.le_of_ble_eq_true rfl) rfl dX9_read_46 jrv_i (c_X9_readPath hp1 hm14) rfl ?_
      refine j_if_ne (tgt := 54) X dX9_read_49 (by decide) h (fun h => ?_) (fun h => ?_)
      · refine j_iinc (v := (x2 + 1)) (ls' := [some (.ref 13), some (.ref p1), some (.int (x2 + 1))]) X dX9_read_54 rfl rfl (Nat.le_of_ble_eq_true rfl) rfl ?_
        refine j_goto (tgt := 25) X dX9_read_57 (by decide) ?_
        exact ih (x2 + 1) σ13 _ h kk kr
      · refine j_iconst (v := 0) X dX9_read_52 (by decide) ?_
        obtain rfl := Option.some.inj h
        exact j_zret X (kr ((0 : Int32), σ13) rfl) rfl dX9_read_53
    · refine j_if_eq (tgt := 44) X dX9_read_32 (by decide) h (fun h => ?_) (fun h => ?_)
      · exact hk9 () σ h
      · refine j_aload_n X 0 dX9_read_35 rfl rfl ?_
        refine j_getI X fg_RX9_34 ln_13 ly_13 rfl dX9_read_36 ?_
        refine j_bipush (v := 112) X dX9_read_39 (by decide) ?_
        refine j_icmp_ne (tgt := 60) X dX9_read_41 (by decide) h (fun h => ?_) (fun h => ?_)
        · obtain rfl := Option.some.inj h
          exact j_sub (ls' := [some (.ref 13), some (.ref p1), none]) ⟨Or.inr rfl, Or.inr rfl, Or.inl rfl, trivial⟩ (kk ((), σ) rfl)
        · exact hk9 () σ h
theorem X9_read_L25_ok {K : jK} (X : JX K cX9_read 3 RX9 5 105) {p1 : Nat} (hp1 : jisP p1) : ∀ (n : Nat) (s : Int32) (σ : jMem) (o : ((Unit) × jMem) ⊕ (Int32 × jMem)), X9_read_L25 p1 n s σ = some o → (∀ q, o = .inl q → J K 60 [some (.ref 13), some (.ref p1), none] [] q.2) → (∀ q, o = .inr q → JR K (some .boolean) (some (.int q.1)) q.2) → J K 25 [some (.ref 13), some (.ref p1), some (.int s)] [] σ := by
  intro n
  induction n with
  | zero => intro s σ o h; cases h
  | succ n ih => intro s σ o h; exact X9_read_L25_bok X hp1 ih (s) σ o h
def X9_read_L62_b (p1 : Nat) (rec : Int32 → jMem → Option (((Unit) × jMem) ⊕ (Int32 × jMem))) (x2 : Int32) (σ : jMem) : Option (((Unit) × jMem) ⊕ (Int32 × jMem)) :=
  if (6 : Int32) < x2 then
  some (.inl ((), σ))
else
  jbd (f_X9_sortOf (σ.1 13 5) σ) (fun v17 σ18 =>
  if v17 = 0 then
  some (.inl ((), σ18))
else
  jbd (f_X9_readWitness p1 σ18) (fun v20 σ21 =>
  if ¬ v20 = 0 then
  rec (x2 + 1) σ21
else
  some (.inr ((0 : Int32), σ21))))
def X9_read_L62 (p1 : Nat) : Nat → Int32 → jMem → Option (((Unit) × jMem) ⊕ (Int32 × jMem)) := jloop (fun rec s σ => X9_read_L62_b p1 rec s σ)
set_option maxRecDepth 100000 in
set_option maxHeartbeats 4000000 in
theorem X9_read_L62_bok {K : jK} (X : JX K cX9_read 3 RX9 5 105) {p1 : Nat} (hp1 : jisP p1) {rec : Int32 → jMem → Option (((Unit) × jMem) ⊕ (Int32 × jMem))} (ih : ∀ (s : Int32) (σ : jMem) (o : ((Unit) × jMem) ⊕ (Int32 × jMem)), rec s σ = some o → (∀ q, o = .inl q → J K 94 [some (.ref 13), some (.ref p1), none] [] q.2) → (∀ q, o = .inr q → JR K (some .boolean) (some (.int q.1)) q.2) → J K 62 [some (.ref 13), some (.ref p1), some (.int s)] [] σ) : ∀ (x2 : Int32) (σ : jMem) (o : ((Unit) × jMem) ⊕ (Int32 × jMem)), X9_read_L62_b p1 rec x2 σ = some o → (∀ q, o = .inl q → J K 94 [some (.ref 13), some (.ref p1), none] [] q.2) → (∀ q, o = .inr q → JR K (some .boolean) (some (.int q.1)) q.2) → J K 62 [some (.ref 13), some (.ref p1), some (.int x2)] [] σ := by
  intro x2 σ o h kk kr
  unfold X9_read_L62_b at h
  refine j_iload_n X 2 dX9_read_62 rfl rfl ?_
  refine j_bipush (v := 6) X dX9_read_63 (by decide) ?_
  refine j_icmp_gt (tgt := 94) X dX9_read_65 (by decide) h (fun h => ?_) (fun h => ?_)
  · obtain rfl := Option.some.inj h
    exact j_sub (ls' := [some (.ref 13), some (.ref p1), none]) ⟨Or.inr rfl, Or.inr rfl, Or.inl rfl, trivial⟩ (kk ((), σ) rfl)
  · refine j_aload_n X 0 dX9_read_68 rfl rfl ?_
    refine j_getI X fg_RX9_34 ln_13 ly_13 rfl dX9_read_69 ?_
    obtain ⟨v17, σ18, hm19, h⟩ := jbd_some h
    refine j_callS (as := [.int (σ.1 13 5)]) (st := []) (st1 := [.int v17]) X ss_RX9_40 ⟨by decide, by decide⟩ rfl rfl (Nat.le_of_ble_eq_true rfl) rfl dX9_read_72 jrv_i (c_X9_sortOf  hm19) rfl ?_
    refine j_if_eq (tgt := 94) X dX9_read_75 (by decide) h (fun h => ?_) (fun h => ?_)
    · obtain rfl := Option.some.inj h
      exact j_sub (ls' := [some (.ref 13), some (.ref p1), none]) ⟨Or.inr rfl, Or.inr rfl, Or.inl rfl, trivial⟩ (kk ((), σ18) rfl)
    · refine j_aload_n X 0 dX9_read_78 rfl rfl ?_
      refine j_aload_n X 1 dX9_read_79 rfl rfl ?_
      obtain ⟨v20, σ21, hm22, h⟩ := jbd_some h
      refine j_callV (as := [.ref p1]) (st := []) (st1 := [.int v20]) X ln_13 ly_13 rfl rfl sv_RX9_44 ⟨by decide, by decide⟩ rfl rfl (Nat.le_of_ble_eq_true rfl) rfl dX9_read_80 jrv_i (c_X9_readWitness hp1 hm22) rfl ?_
      refine j_if_ne (tgt := 88) X dX9_read_83 (by decide) h (fun h => ?_) (fun h => ?_)
      · refine j_iinc (v := (x2 + 1)) (ls' := [some (.ref 13), some (.ref p1), some (.int (x2 + 1))]) X dX9_read_88 rfl rfl (Nat.le_of_ble_eq_true rfl) rfl ?_
        refine j_goto (tgt := 62) X dX9_read_91 (by decide) ?_
        exact ih (x2 + 1) σ21 _ h kk kr
      · refine j_iconst (v := 0) X dX9_read_86 (by decide) ?_
        obtain rfl := Option.some.inj h
        exact j_zret X (kr ((0 : Int32), σ21) rfl) rfl dX9_read_87
theorem X9_read_L62_ok {K : jK} (X : JX K cX9_read 3 RX9 5 105) {p1 : Nat} (hp1 : jisP p1) : ∀ (n : Nat) (s : Int32) (σ : jMem) (o : ((Unit) × jMem) ⊕ (Int32 × jMem)), X9_read_L62 p1 n s σ = some o → (∀ q, o = .inl q → J K 94 [some (.ref 13), some (.ref p1), none] [] q.2) → (∀ q, o = .inr q → JR K (some .boolean) (some (.int q.1)) q.2) → J K 62 [some (.ref 13), some (.ref p1), some (.int s)] [] σ := by
  intro n
  induction n with
  | zero => intro s σ o h; cases h
  | succ n ih => intro s σ o h; exact X9_read_L62_bok X hp1 ih (s) σ o h
def f_X9_read (a0 : Nat) (σ : jMem) : Option (Int32 × jMem) :=
  jbv (f_X5_clear a0 σ) (fun σ1 =>
  jlet (jset σ1 13 7 (0 : Int32)) (fun σ3 =>
  jbv (f_X9_take  σ3) (fun σ4 =>
  jbd (f_X9_readLaw a0 σ4) (fun v6 σ7 =>
  if ¬ v6 = 0 then
  jbr (X9_read_L25 (a0) jFU (0 : Int32) σ7) (fun q15 σ16 =>
  jbr (X9_read_L62 (a0) jFU (0 : Int32) σ16) (fun q23 σ24 =>
  if (σ24.1 13 5) = 0 then
  jlet (jset σ24 a0 1 (1 : Int32)) (fun σ25 =>
  some (((1 : Int32), σ25)))
else
  jbd (f_X9_fails (1 : Int32) σ24) (fun v26 σ27 =>
  jck (jisb v26 = true) (some ((v26, σ27))))) (fun e31 => some e31)) (fun e36 => some e36)
else
  some (((0 : Int32), σ7))))))
set_option maxRecDepth 100000 in
set_option maxHeartbeats 4000000 in
theorem c_X9_read {l : Launch} {D : va_G} {ad : Nat → Nat} {cid : Nat → ClassId} {a0 : Nat} (ha0 : jisP a0) {σ : jMem} {r : Int32} {σ' : jMem} (h : f_X9_read a0 σ = some (r, σ')) : jMet l D ad cid yX9_read cX9_read 3 (some .boolean) 5 105 [.ref 13, .ref a0] σ (some (.int r)) σ' := by
  refine jMet_of (ls0 := [some (.ref 13), some (.ref a0), none]) (by decide) (Nat.le_of_ble_eq_true rfl) rfl (fun K X R0 _ => ?_)
  unfold f_X9_read at h
  refine j_aload_n X 1 dX9_read_0 rfl rfl ?_
  obtain ⟨σ1, hm2, h⟩ := jbv_some h
  refine j_callV (as := []) (st := []) (st1 := []) X (jp_lt ha0) (jp_ly ha0) rfl rfl sv_RX9_19 ⟨by decide, by decide⟩ rfl rfl (Nat.le_of_ble_eq_true rfl) rfl dX9_read_1 jrv_v (c_X5_clear ha0 hm2) rfl ?_
  refine j_aload_n X 0 dX9_read_4 rfl rfl ?_
  refine j_iconst (v := 0) X dX9_read_5 (by decide) ?_
  refine j_put X fp_RX9_24 ln_13 ly_13 rfl rfl rfl dX9_read_6 h (fun σ3 h => ?_)
  refine j_aload_n X 0 dX9_read_9 rfl rfl ?_
  obtain ⟨σ4, hm5, h⟩ := jbv_some h
  refine j_callV (as := []) (st := []) (st1 := []) X ln_13 ly_13 rfl rfl sv_RX9_27 ⟨by decide, by decide⟩ rfl rfl (Nat.le_of_ble_eq_true rfl) rfl dX9_read_10 jrv_v (c_X9_take  hm5) rfl ?_
  refine j_aload_n X 0 dX9_read_13 rfl rfl ?_
  refine j_aload_n X 1 dX9_read_14 rfl rfl ?_
  obtain ⟨v6, σ7, hm8, h⟩ := jbd_some h
  refine j_callV (as := [.ref a0]) (st := []) (st1 := [.int v6]) X ln_13 ly_13 rfl rfl sv_RX9_30 ⟨by decide, by decide⟩ rfl rfl (Nat.le_of_ble_eq_true rfl) rfl dX9_read_15 jrv_i (c_X9_readLaw ha0 hm8) rfl ?_
  refine j_if_ne (tgt := 23) X dX9_read_18 (by decide) h (fun h => ?_) (fun h => ?_)
  · refine j_iconst (v := 0) X dX9_read_23 (by decide) ?_
    refine j_istore_n (ls' := [some (.ref 13), some (.ref a0), some (.int (0 : Int32))]) X 2 dX9_read_24 rfl (Nat.le_of_ble_eq_true rfl) rfl ?_
    obtain ⟨o37, hL35, hl38, hr39⟩ := jbr_some h
    refine X9_read_L25_ok X ha0 jFU (0 : Int32) σ7 o37 hL35 (fun q15w e9 => ?_) (fun q15w e9 => ?_)
    · have h := hl38 _ e9
      obtain ⟨q15, σ16⟩ := q15w
      refine j_iconst (v := 0) X dX9_read_60 (by decide) ?_
      refine j_istore_n (ls' := [some (.ref 13), some (.ref a0), some (.int (0 : Int32))]) X 2 dX9_read_61 rfl (Nat.le_of_ble_eq_true rfl) rfl ?_
      obtain ⟨o32, hL30, hl33, hr34⟩ := jbr_some h
      refine X9_read_L62_ok X ha0 jFU (0 : Int32) σ16 o32 hL30 (fun q23w e9 => ?_) (fun q23w e9 => ?_)
      · have h := hl33 _ e9
        obtain ⟨q23, σ24⟩ := q23w
        refine j_aload_n X 0 dX9_read_94 rfl rfl ?_
        refine j_getI X fg_RX9_34 ln_13 ly_13 rfl dX9_read_95 ?_
        refine j_if_eq (tgt := 107) X dX9_read_98 (by decide) h (fun h => ?_) (fun h => ?_)
        · refine j_aload_n X 1 dX9_read_107 rfl rfl ?_
          refine j_iconst (v := 1) X dX9_read_108 (by decide) ?_
          refine j_put X fp_RX9_51 (jp_lt ha0) (jp_ly ha0) rfl rfl rfl dX9_read_109 h (fun σ25 h => ?_)
          refine j_iconst (v := 1) X dX9_read_112 (by decide) ?_
          obtain ⟨rfl, rfl⟩ := jin2 h
          exact j_zret X R0 rfl dX9_read_113
        · refine j_aload_n X 0 dX9_read_101 rfl rfl ?_
          refine j_iconst (v := 1) X dX9_read_102 (by decide) ?_
          obtain ⟨v26, σ27, hm28, h⟩ := jbd_some h
          refine j_callV (as := [.int (1 : Int32)]) (st := []) (st1 := [.int v26]) X ln_13 ly_13 rfl rfl sv_RX9_47 ⟨by decide, by decide⟩ rfl rfl (Nat.le_of_ble_eq_true rfl) rfl dX9_read_103 jrv_i (c_X9_fails  hm28) rfl ?_
          obtain ⟨hc29, h⟩ := jck_some h
          obtain ⟨rfl, rfl⟩ := jin2 h
          exact j_zret X R0 hc29 dX9_read_106
      · have h := hr34 _ e9
        obtain rfl := Option.some.inj h
        exact R0
    · have h := hr39 _ e9
      obtain rfl := Option.some.inj h
      exact R0
  · refine j_iconst (v := 0) X dX9_read_21 (by decide) ?_
    obtain ⟨rfl, rfl⟩ := jin2 h
    exact j_zret X R0 rfl dX9_read_22
theorem sv_RX11_138 : jSiV RX11 138 yX9_read cX9_read 3 (some .boolean) 1 := ⟨tw_378, tw_379, tw_380, tw_3, tw_381, by decide, by decide, by decide +kernel⟩
theorem sv_RX11_146 : jSiV RX11 146 yX5_become cX5_become 2 none 1 := ⟨tw_441, tw_442, tw_443, tw_10, tw_444, by decide, by decide, by decide +kernel⟩
theorem sv_RX11_150 : jSiV RX11 150 yX11_forgetActs cX11_forgetActs 1 none 0 := ⟨tw_446, tw_448, ts_10, tw_1, tw_449, by decide, by decide, by decide +kernel⟩
def f_X11_parish  (σ : jMem) : Option (Int32 × jMem) :=
  jbd (f_X9_read 30 σ) (fun v1 σ2 =>
  jlet (jset σ2 13 1 (0 : Int32)) (fun σ4 =>
  if ¬ v1 = 0 then
  jbv (f_X5_become 22 30 σ4) (fun σ5 =>
  jbv (f_X11_forgetActs  σ5) (fun σ7 =>
  some (((σ7.1 22 5), σ7))))
else
  some ((((-1000100 : Int32) - (σ4.1 13 3)), σ4))))
set_option maxRecDepth 100000 in
set_option maxHeartbeats 4000000 in
theorem c_X11_parish {l : Launch} {D : va_G} {ad : Nat → Nat} {cid : Nat → ClassId}   {σ : jMem} {r : Int32} {σ' : jMem} (h : f_X11_parish  σ = some (r, σ')) : jMet l D ad cid yX11_parish cX11_parish 2 (some .int) 6 127 [.ref 0] σ (some (.int r)) σ' := by
  refine jMet_of (ls0 := [some (.ref 0), none]) (by decide) (Nat.le_of_ble_eq_true rfl) rfl (fun K X R0 _ => ?_)
  unfold f_X11_parish at h
  refine j_aload_n X 0 dX11_parish_0 rfl rfl ?_
  refine j_getR (t := 13) X fg_RX11_19 ln_0 ly_0 rfl dX11_parish_1 ?_
  refine j_aload_n X 0 dX11_parish_4 rfl rfl ?_
  refine j_getR (t := 30) X fg_RX11_54 ln_0 ly_0 rfl dX11_parish_5 ?_
  obtain ⟨v1, σ2, hm3, h⟩ := jbd_some h
  refine j_callV (as := [.ref 30]) (st := []) (st1 := [.int v1]) X ln_13 ly_13 rfl rfl sv_RX11_138 ⟨by decide, by decide⟩ rfl rfl (Nat.le_of_ble_eq_true rfl) rfl dX11_parish_8 jrv_i (c_X9_read jisP_30 hm3) rfl ?_
  refine j_istore_n (ls' := [some (.ref 0), some (.int v1)]) X 1 dX11_parish_11 rfl (Nat.le_of_ble_eq_true rfl) rfl ?_
  refine j_aload_n X 0 dX11_parish_12 rfl rfl ?_
  refine j_getR (t := 13) X fg_RX11_19 ln_0 ly_0 rfl dX11_parish_13 ?_
  refine j_iconst (v := 0) X dX11_parish_16 (by decide) ?_
  refine j_put X fp_RX11_129 ln_13 ly_13 rfl rfl rfl dX11_parish_17 h (fun σ4 h => ?_)
  refine j_iload_n X 1 dX11_parish_20 rfl rfl ?_
  refine j_if_ne (tgt := 35) X dX11_parish_21 (by decide) h (fun h => ?_) (fun h => ?_)
  · refine j_aload_n X 0 dX11_parish_35 rfl rfl ?_
    refine j_getR (t := 22) X fg_RX11_50 ln_0 ly_0 rfl dX11_parish_36 ?_
    refine j_aload_n X 0 dX11_parish_39 rfl rfl ?_
    refine j_getR (t := 30) X fg_RX11_54 ln_0 ly_0 rfl dX11_parish_40 ?_
    obtain ⟨σ5, hm6, h⟩ := jbv_some h
    refine j_callV (as := [.ref 30]) (st := []) (st1 := []) X ln_22 ly_22 rfl rfl sv_RX11_146 ⟨by decide, by decide⟩ rfl rfl (Nat.le_of_ble_eq_true rfl) rfl dX11_parish_43 jrv_v (c_X5_become jisP_22 jisP_30 hm6) rfl ?_
    refine j_aload_n X 0 dX11_parish_46 rfl rfl ?_
    obtain ⟨σ7, hm8, h⟩ := jbv_some h
    refine j_callV (as := []) (st := []) (st1 := []) X ln_0 ly_0 rfl rfl sv_RX11_150 ⟨by decide, by decide⟩ rfl rfl (Nat.le_of_ble_eq_true rfl) rfl dX11_parish_47 jrv_v (c_X11_forgetActs  hm8) rfl ?_
    refine j_aload_n X 0 dX11_parish_50 rfl rfl ?_
    refine j_getR (t := 22) X fg_RX11_50 ln_0 ly_0 rfl dX11_parish_51 ?_
    refine j_getI X fg_RX11_153 ln_22 ly_22 rfl dX11_parish_54 ?_
    obtain ⟨rfl, rfl⟩ := jin2 h
    exact j_iret X R0 dX11_parish_57
  · refine j_ldc (v := -1000100) X tw_440 dX11_parish_24 ?_
    refine j_aload_n X 0 dX11_parish_26 rfl rfl ?_
    refine j_getR (t := 13) X fg_RX11_19 ln_0 ly_0 rfl dX11_parish_27 ?_
    refine j_getI X fg_RX11_143 ln_13 ly_13 rfl dX11_parish_30 ?_
    refine j_isub X dX11_parish_33 ?_
    obtain ⟨rfl, rfl⟩ := jin2 h
    exact j_iret X R0 dX11_parish_34
def f_X11_fault  (σ : jMem) : Option (Int32 × jMem) :=
  some (((σ.1 13 2), σ))
set_option maxRecDepth 100000 in
set_option maxHeartbeats 4000000 in
theorem c_X11_fault {l : Launch} {D : va_G} {ad : Nat → Nat} {cid : Nat → ClassId}   {σ : jMem} {r : Int32} {σ' : jMem} (h : f_X11_fault  σ = some (r, σ')) : jMet l D ad cid yX11_fault cX11_fault 1 (some .int) 0 0 [.ref 0] σ (some (.int r)) σ' := by
  refine jMet_of (ls0 := [some (.ref 0)]) (by decide) (Nat.le_of_ble_eq_true rfl) rfl (fun K X R0 _ => ?_)
  unfold f_X11_fault at h
  refine j_aload_n X 0 dX11_fault_0 rfl rfl ?_
  refine j_getR (t := 13) X fg_RX11_19 ln_0 ly_0 rfl dX11_fault_1 ?_
  refine j_getI X fg_RX11_156 ln_13 ly_13 rfl dX11_fault_4 ?_
  obtain ⟨rfl, rfl⟩ := jin2 h
  exact j_iret X R0 dX11_fault_7
def f_X5_load (k : Nat) (a0 : Nat) (σ : jMem) : Option jMem :=
  jld σ a0 14 (0 : Int32) (fun v1 =>
  jlet (jset σ k 4 v1) (fun σ2 =>
  jld σ2 a0 14 (1 : Int32) (fun v3 =>
  jlet (jset σ2 k 7 v3) (fun σ4 =>
  jcp σ4 a0 14 (2 : Int32) (k + 6) 6 (0 : Int32) (6 : Int32) (fun σ5 =>
  jcp σ5 a0 14 (8 : Int32) (k + 7) 6 (0 : Int32) (6 : Int32) (fun σ6 =>
  some σ6))))))
set_option maxRecDepth 100000 in
set_option maxHeartbeats 4000000 in
theorem c_X5_load {l : Launch} {D : va_G} {ad : Nat → Nat} {cid : Nat → ClassId} {k : Nat} {a0 : Nat} (hk : jisP k) (ha0 : a0 < jN ∧ jL a0 = (1, 14, [])) {σ : jMem} {σ' : jMem} (h : f_X5_load k a0 σ = some σ') : jMet l D ad cid yX5_load cX5_load 2 none 1 36 [.ref k, .ref a0] σ none σ' := by
  refine jMet_of (ls0 := [some (.ref k), some (.ref a0)]) (by decide) (Nat.le_of_ble_eq_true rfl) rfl (fun K X R0 _ => ?_)
  unfold f_X5_load at h
  refine j_aload_n X 0 dX5_load_0 rfl rfl ?_
  refine j_aload_n X 1 dX5_load_1 rfl rfl ?_
  refine j_iconst (v := 0) X dX5_load_2 (by decide) ?_
  refine j_iaload X ha0.1 ha0.2 dX5_load_3 h (fun v1 h => ?_)
  refine j_put X fp_RX5_37 (jp_lt hk) (jp_ly hk) rfl rfl rfl dX5_load_4 h (fun σ2 h => ?_)
  refine j_aload_n X 0 dX5_load_7 rfl rfl ?_
  refine j_aload_n X 1 dX5_load_8 rfl rfl ?_
  refine j_iconst (v := 1) X dX5_load_9 (by decide) ?_
  refine j_iaload X ha0.1 ha0.2 dX5_load_10 h (fun v3 h => ?_)
  refine j_put X fp_RX5_47 (jp_lt hk) (jp_ly hk) rfl rfl rfl dX5_load_11 h (fun σ4 h => ?_)
  refine j_aload_n X 1 dX5_load_14 rfl rfl ?_
  refine j_iconst (v := 2) X dX5_load_15 (by decide) ?_
  refine j_aload_n X 0 dX5_load_16 rfl rfl ?_
  refine j_getR (t := (k + 6)) X fg_RX5_31 (jp_lt hk) (jp_ly hk) rfl dX5_load_17 ?_
  refine j_iconst (v := 0) X dX5_load_20 (by decide) ?_
  refine j_bipush (v := 6) X dX5_load_21 (by decide) ?_
  refine j_copy X tw_445 tw_360 tw_359 tw_14 rfl ha0.1 ha0.2 (jp_lt6 hk) (jp_ly6 hk) (Nat.le_of_ble_eq_true rfl) (Nat.le_of_ble_eq_true rfl) dX5_load_23 h (fun σ5 h => ?_)
  refine j_aload_n X 1 dX5_load_26 rfl rfl ?_
  refine j_bipush (v := 8) X dX5_load_27 (by decide) ?_
  refine j_aload_n X 0 dX5_load_29 rfl rfl ?_
  refine j_getR (t := (k + 7)) X fg_RX5_34 (jp_lt hk) (jp_ly hk) rfl dX5_load_30 ?_
  refine j_iconst (v := 0) X dX5_load_33 (by decide) ?_
  refine j_bipush (v := 6) X dX5_load_34 (by decide) ?_
  refine j_copy X tw_445 tw_360 tw_359 tw_14 rfl ha0.1 ha0.2 (jp_lt7 hk) (jp_ly7 hk) (Nat.le_of_ble_eq_true rfl) (Nat.le_of_ble_eq_true rfl) dX5_load_36 h (fun σ6 h => ?_)
  obtain rfl := Option.some.inj h
  exact j_vret X R0 dX5_load_39
