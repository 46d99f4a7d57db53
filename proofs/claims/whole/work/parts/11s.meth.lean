theorem sv_RX2_101 : jSiV RX2 101 yX2_casesJoined cX2_casesJoined 7 (some .long) 2 := ⟨tw_737, tw_739, ts_19, tw_11, tw_740, by decide, by decide, by decide +kernel⟩
theorem sv_RX2_93 : jSiV RX2 93 yX2_countWithin cX2_countWithin 5 none 1 := ⟨tw_729, tw_731, ts_17, tw_11, tw_732, by decide, by decide, by decide +kernel⟩
theorem sv_RX2_97 : jSiV RX2 97 yX2_fillPowers cX2_fillPowers 5 none 1 := ⟨tw_733, tw_735, ts_18, tw_11, tw_736, by decide, by decide, by decide +kernel⟩
def X2_casesThrough_L32_b (p1 : Nat) (p2 : Int32) (p4 : Int32) (rec : Int64 × Int32 → jMem → Option ((Int64) × jMem)) (x5 : Int64) (x7 : Int32) (σ : jMem) : Option ((Int64) × jMem) :=
  if (256 : Int32) ≤ x7 then
  some (x5, σ)
else
  jbd (f_X11_bitOf x7 p2 σ) (fun v7 σ8 =>
  if ¬ v7 = (1 : Int32) then
  rec (x5, (x7 + 1)) σ8
else
  jbd (f_X11_bitOf x7 (σ8.1 p1 2) σ8) (fun v10 σ11 =>
  if ¬ v10 = 0 then
  rec (x5, (x7 + 1)) σ11
else
  jbd (f_X2_casesJoined x7 p2 σ11) (fun v13 σ14 =>
  jstL σ14 83 256 x7 v13 (fun σ16 =>
  jbd (f_X2_casesParted x7 p4 σ16) (fun v17 σ18 =>
  jlet ((x5 - v17)) (fun v20 =>
  rec (v20, (x7 + 1)) σ18))))))
def X2_casesThrough_L32 (p1 : Nat) (p2 : Int32) (p4 : Int32) : Nat → Int64 × Int32 → jMem → Option ((Int64) × jMem) := jloop (fun rec s σ => X2_casesThrough_L32_b p1 p2 p4 rec s.1 s.2 σ)
set_option maxRecDepth 100000 in
set_option maxHeartbeats 4000000 in
theorem X2_casesThrough_L32_bok {K : jK} (X : JX K cX2_casesThrough 8 RX2 3 64) {p1 : Nat} {p2 : Int32} {p4 : Int32} (hp1 : jisP p1) {rec : Int64 × Int32 → jMem → Option ((Int64) × jMem)} (ih : ∀ (s : Int64 × Int32) (σ : jMem) (o : (Int64) × jMem), rec s σ = some o → (J K 95 [none, none, none, none, none, some (.long o.1), none, none] [] o.2) → J K 32 [some (.ref 80), some (.ref p1), some (.int p2), none, some (.int p4), some (.long s.1), none, some (.int s.2)] [] σ) : ∀ (x5 : Int64) (x7 : Int32) (σ : jMem) (o : (Int64) × jMem), X2_casesThrough_L32_b p1 p2 p4 rec x5 x7 σ = some o → (J K 95 [none, none, none, none, none, some (.long o.1), none, none] [] o.2) → J K 32 [some (.ref 80), some (.ref p1), some (.int p2), none, some (.int p4), some (.long x5), none, some (.int x7)] [] σ := by
  intro x5 x7 σ o h kk
  unfold X2_casesThrough_L32_b at h
  refine j_iload X dX2_casesThrough_32 rfl ?_
  refine j_sipush (v := 256) X dX2_casesThrough_34 (by decide) ?_
  refine j_icmp_ge (tgt := 95) X dX2_casesThrough_37 (by decide) h (fun h => ?_) (fun h => ?_)
  · obtain rfl := Option.some.inj h
    exact j_sub (ls' := [none, none, none, none, none, some (.long x5), none, none]) ⟨Or.inl rfl, Or.inl rfl, Or.inl rfl, Or.inl rfl, Or.inl rfl, Or.inr rfl, Or.inl rfl, Or.inl rfl, trivial⟩ kk
  · refine j_iload X dX2_casesThrough_40 rfl ?_
    refine j_iload_n X 2 dX2_casesThrough_42 rfl rfl ?_
    obtain ⟨v7, σ8, hm9, h⟩ := jbd_some h
    refine j_callN (as := [.int x7, .int p2]) (st := []) (st1 := [.int v7]) X sn_RX2_68 ⟨by decide, by decide⟩ rfl rfl (Nat.le_of_ble_eq_true rfl) rfl dX2_casesThrough_43 jrv_i (c_X11_bitOf  hm9) rfl ?_
    refine j_iconst (v := 1) X dX2_casesThrough_46 (by decide) ?_
    refine j_icmp_ne (tgt := 89) X dX2_casesThrough_47 (by decide) h (fun h => ?_) (fun h => ?_)
    · refine j_iinc (v := (x7 + 1)) (ls' := [some (.ref 80), some (.ref p1), some (.int p2), none, some (.int p4), some (.long x5), none, some (.int (x7 + 1))]) X dX2_casesThrough_89 rfl rfl (Nat.le_of_ble_eq_true rfl) rfl ?_
      refine j_goto (tgt := 32) X dX2_casesThrough_92 (by decide) ?_
      exact ih (x5, (x7 + 1)) σ8 _ h kk
    · refine j_iload X dX2_casesThrough_50 rfl ?_
      refine j_aload_n X 1 dX2_casesThrough_52 rfl rfl ?_
      refine j_getI X fg_RX2_30 (jp_lt hp1) (jp_ly hp1) rfl dX2_casesThrough_53 ?_
      obtain ⟨v10, σ11, hm12, h⟩ := jbd_some h
      refine j_callN (as := [.int x7, .int (σ8.1 p1 2)]) (st := []) (st1 := [.int v10]) X sn_RX2_68 ⟨by decide, by decide⟩ rfl rfl (Nat.le_of_ble_eq_true rfl) rfl dX2_casesThrough_56 jrv_i (c_X11_bitOf  hm12) rfl ?_
      refine j_if_ne (tgt := 89) X dX2_casesThrough_59 (by decide) h (fun h => ?_) (fun h => ?_)
      · refine j_iinc (v := (x7 + 1)) (ls' := [some (.ref 80), some (.ref p1), some (.int p2), none, some (.int p4), some (.long x5), none, some (.int (x7 + 1))]) X dX2_casesThrough_89 rfl rfl (Nat.le_of_ble_eq_true rfl) rfl ?_
        refine j_goto (tgt := 32) X dX2_casesThrough_92 (by decide) ?_
        exact ih (x5, (x7 + 1)) σ11 _ h kk
      · refine j_aload_n X 0 dX2_casesThrough_62 rfl rfl ?_
        refine j_getR (t := 83) X fg_RX2_18 ln_80 ly_80 rfl dX2_casesThrough_63 ?_
        refine j_iload X dX2_casesThrough_66 rfl ?_
        refine j_aload_n X 0 dX2_casesThrough_68 rfl rfl ?_
        refine j_iload X dX2_casesThrough_69 rfl ?_
        refine j_iload_n X 2 dX2_casesThrough_71 rfl rfl ?_
        obtain ⟨v13, σ14, hm15, h⟩ := jbd_some h
        refine j_callV (as := [.int x7, .int p2]) (st := [.int x7, .ref 83]) (st1 := [.long v13, .int x7, .ref 83]) X ln_80 ly_80 rfl rfl sv_RX2_101 ⟨by decide, by decide⟩ rfl rfl (Nat.le_of_ble_eq_true rfl) rfl dX2_casesThrough_72 jrv_l (c_X2_casesJoined  hm15) rfl ?_
        refine j_lastore X ln_83 ly_83 dX2_casesThrough_75 h (fun σ16 h => ?_)
        refine j_lload X dX2_casesThrough_76 rfl ?_
        refine j_aload_n X 0 dX2_casesThrough_78 rfl rfl ?_
        refine j_iload X dX2_casesThrough_79 rfl ?_
        refine j_iload X dX2_casesThrough_81 rfl ?_
        obtain ⟨v17, σ18, hm19, h⟩ := jbd_some h
        refine j_callV (as := [.int x7, .int p4]) (st := [.long x5]) (st1 := [.long v17, .long x5]) X ln_80 ly_80 rfl rfl sv_RX2_105 ⟨by decide, by decide⟩ rfl rfl (Nat.le_of_ble_eq_true rfl) rfl dX2_casesThrough_83 jrv_l (c_X2_casesParted  hm19) rfl ?_
        refine j_lsub X dX2_casesThrough_86 ?_
        refine j_letL h (fun v20 h => ?_)
        refine j_lstore (ls' := [some (.ref 80), some (.ref p1), some (.int p2), none, some (.int p4), some (.long v20), none, some (.int x7)]) X dX2_casesThrough_87 (Nat.le_of_ble_eq_true rfl) rfl ?_
        refine j_iinc (v := (x7 + 1)) (ls' := [some (.ref 80), some (.ref p1), some (.int p2), none, some (.int p4), some (.long v20), none, some (.int (x7 + 1))]) X dX2_casesThrough_89 rfl rfl (Nat.le_of_ble_eq_true rfl) rfl ?_
        refine j_goto (tgt := 32) X dX2_casesThrough_92 (by decide) ?_
        exact ih (v20, (x7 + 1)) σ18 _ h kk
theorem X2_casesThrough_L32_ok {K : jK} (X : JX K cX2_casesThrough 8 RX2 3 64) {p1 : Nat} {p2 : Int32} {p4 : Int32} (hp1 : jisP p1) : ∀ (n : Nat) (s : Int64 × Int32) (σ : jMem) (o : (Int64) × jMem), X2_casesThrough_L32 p1 p2 p4 n s σ = some o → (J K 95 [none, none, none, none, none, some (.long o.1), none, none] [] o.2) → J K 32 [some (.ref 80), some (.ref p1), some (.int p2), none, some (.int p4), some (.long s.1), none, some (.int s.2)] [] σ := by
  intro n
  induction n with
  | zero => intro s σ o h; cases h
  | succ n ih => intro s σ o h; exact X2_casesThrough_L32_bok X hp1 ih (s.1) (s.2) σ o h
def f_X2_casesThrough (a0 : Nat) (a1 : Int32) (a2 : Int32) (σ : jMem) : Option (Int64 × jMem) :=
  jbv (f_X2_countWithin a0 σ) (fun σ1 =>
  jbv (f_X2_fillPowers a2 σ1) (fun σ3 =>
  jld σ3 82 256 (255 : Int32) (fun v5 =>
  jldL σ3 84 13 v5 (fun v6 =>
  jbd (X2_casesThrough_L32 (a0) (a1) ((255 : Int32)) jFU (v6, (0 : Int32)) σ3) (fun q21 σ22 =>
  some ((q21, σ22)))))))
set_option maxRecDepth 100000 in
set_option maxHeartbeats 4000000 in
theorem c_X2_casesThrough {l : Launch} {D : va_G} {ad : Nat → Nat} {cid : Nat → ClassId} {a0 : Nat} {a1 : Int32} {a2 : Int32} (ha0 : jisP a0) {σ : jMem} {r : Int64} {σ' : jMem} (h : f_X2_casesThrough a0 a1 a2 σ = some (r, σ')) : jMet l D ad cid yX2_casesThrough cX2_casesThrough 8 (some .long) 3 64 [.ref 80, .ref a0, .int a1, .int a2] σ (some (.long r)) σ' := by
  refine jMet_of (ls0 := [some (.ref 80), some (.ref a0), some (.int a1), some (.int a2), none, none, none, none]) (by decide) (Nat.le_of_ble_eq_true rfl) rfl (fun K X R0 _ => ?_)
  unfold f_X2_casesThrough at h
  refine j_aload_n X 0 dX2_casesThrough_0 rfl rfl ?_
  refine j_aload_n X 1 dX2_casesThrough_1 rfl rfl ?_
  obtain ⟨σ1, hm2, h⟩ := jbv_some h
  refine j_callV (as := [.ref a0]) (st := []) (st1 := []) X ln_80 ly_80 rfl rfl sv_RX2_93 ⟨by decide, by decide⟩ rfl rfl (Nat.le_of_ble_eq_true rfl) rfl dX2_casesThrough_2 jrv_v (c_X2_countWithin ha0 hm2) rfl ?_
  refine j_aload_n X 0 dX2_casesThrough_5 rfl rfl ?_
  refine j_iload_n X 3 dX2_casesThrough_6 rfl rfl ?_
  obtain ⟨σ3, hm4, h⟩ := jbv_some h
  refine j_callV (as := [.int a2]) (st := []) (st1 := []) X ln_80 ly_80 rfl rfl sv_RX2_97 ⟨by decide, by decide⟩ rfl rfl (Nat.le_of_ble_eq_true rfl) rfl dX2_casesThrough_7 jrv_v (c_X2_fillPowers  hm4) rfl ?_
  refine j_sipush (v := 255) X dX2_casesThrough_10 (by decide) ?_
  refine j_istore (ls' := [some (.ref 80), some (.ref a0), some (.int a1), some (.int a2), some (.int (255 : Int32)), none, none, none]) X dX2_casesThrough_13 (Nat.le_of_ble_eq_true rfl) rfl ?_
  refine j_aload_n X 0 dX2_casesThrough_15 rfl rfl ?_
  refine j_getR (t := 84) X fg_RX2_22 ln_80 ly_80 rfl dX2_casesThrough_16 ?_
  refine j_aload_n X 0 dX2_casesThrough_19 rfl rfl ?_
  refine j_getR (t := 82) X fg_RX2_15 ln_80 ly_80 rfl dX2_casesThrough_20 ?_
  refine j_iload X dX2_casesThrough_23 rfl ?_
  refine j_iaload X ln_82 ly_82 dX2_casesThrough_25 h (fun v5 h => ?_)
  refine j_laload X ln_84 ly_84 dX2_casesThrough_26 h (fun v6 h => ?_)
  refine j_lstore (ls' := [some (.ref 80), some (.ref a0), some (.int a1), some (.int a2), some (.int (255 : Int32)), some (.long v6), none, none]) X dX2_casesThrough_27 (Nat.le_of_ble_eq_true rfl) rfl ?_
  refine j_iconst (v := 0) X dX2_casesThrough_29 (by decide) ?_
  refine j_istore (ls' := [some (.ref 80), some (.ref a0), some (.int a1), some (.int a2), some (.int (255 : Int32)), some (.long v6), none, some (.int (0 : Int32))]) X dX2_casesThrough_30 (Nat.le_of_ble_eq_true rfl) rfl ?_
  obtain ⟨q21, σ22, hL23, h⟩ := jbd_some h
  refine j_sub (ls' := [some (.ref 80), some (.ref a0), some (.int a1), none, some (.int (255 : Int32)), some (.long v6), none, some (.int (0 : Int32))]) ⟨Or.inr rfl, Or.inr rfl, Or.inr rfl, Or.inl rfl, Or.inr rfl, Or.inr rfl, Or.inl rfl, Or.inr rfl, trivial⟩ ?_
  refine X2_casesThrough_L32_ok X ha0 jFU (v6, (0 : Int32)) σ3 _ hL23 ?_
  refine j_lload X dX2_casesThrough_95 rfl ?_
  obtain ⟨rfl, rfl⟩ := jin2 h
  exact j_lret X R0 dX2_casesThrough_97
