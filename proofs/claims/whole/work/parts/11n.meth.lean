theorem sv_RX11_286 : jSiV RX11 286 yX11_fittingKinds cX11_fittingKinds 10 (some .int) 4 := ⟨tw_705, tw_707, ts_16, tw_1, tw_708, by decide, by decide, by decide +kernel⟩
def X11_who_L63_b (p1 : Int32) (p2 : Int32) (p3 : Int32) (p4 : Int32) (rec : Int32 → jMem → Option (((Unit) × jMem) ⊕ (Int32 × jMem))) (x6 : Int32) (σ : jMem) : Option (((Unit) × jMem) ⊕ (Int32 × jMem)) :=
  if p4 ≤ x6 then
  some (.inl ((), σ))
else
  jldr 8 3 1 p2 (fun k10 =>
  jld σ k10 40 (p3 + ((2 : Int32) * x6)) (fun v11 =>
  jbd (f_X11_isField v11 σ) (fun v12 σ13 =>
  if ¬ v12 = 0 then
  rec (x6 + 1) σ13
else
  some (.inr ((-1000001 : Int32), σ13)))))
def X11_who_L63 (p1 : Int32) (p2 : Int32) (p3 : Int32) (p4 : Int32) : Nat → Int32 → jMem → Option (((Unit) × jMem) ⊕ (Int32 × jMem)) := jloop (fun rec s σ => X11_who_L63_b p1 p2 p3 p4 rec s σ)
set_option maxRecDepth 100000 in
set_option maxHeartbeats 4000000 in
theorem X11_who_L63_bok {K : jK} (X : JX K cX11_who 7 RX11 5 126) {p1 : Int32} {p2 : Int32} {p3 : Int32} {p4 : Int32}  {rec : Int32 → jMem → Option (((Unit) × jMem) ⊕ (Int32 × jMem))} (ih : ∀ (s : Int32) (σ : jMem) (o : ((Unit) × jMem) ⊕ (Int32 × jMem)), rec s σ = some o → (∀ q, o = .inl q → J K 101 [some (.ref 0), some (.int p1), some (.int p2), some (.int p3), some (.int p4), none, none] [] q.2) → (∀ q, o = .inr q → JR K (some .int) (some (.int q.1)) q.2) → J K 63 [some (.ref 0), some (.int p1), some (.int p2), some (.int p3), some (.int p4), none, some (.int s)] [] σ) : ∀ (x6 : Int32) (σ : jMem) (o : ((Unit) × jMem) ⊕ (Int32 × jMem)), X11_who_L63_b p1 p2 p3 p4 rec x6 σ = some o → (∀ q, o = .inl q → J K 101 [some (.ref 0), some (.int p1), some (.int p2), some (.int p3), some (.int p4), none, none] [] q.2) → (∀ q, o = .inr q → JR K (some .int) (some (.int q.1)) q.2) → J K 63 [some (.ref 0), some (.int p1), some (.int p2), some (.int p3), some (.int p4), none, some (.int x6)] [] σ := by
  intro x6 σ o h kk kr
  unfold X11_who_L63_b at h
  refine j_iload X dX11_who_63 rfl ?_
  refine j_iload X dX11_who_65 rfl ?_
  refine j_icmp_ge (tgt := 101) X dX11_who_67 (by decide) h (fun h => ?_) (fun h => ?_)
  · obtain rfl := Option.some.inj h
    exact j_sub (ls' := [some (.ref 0), some (.int p1), some (.int p2), some (.int p3), some (.int p4), none, none]) ⟨Or.inr rfl, Or.inr rfl, Or.inr rfl, Or.inr rfl, Or.inr rfl, Or.inl rfl, Or.inl rfl, trivial⟩ (kk ((), σ) rfl)
  · refine j_aload_n X 0 dX11_who_70 rfl rfl ?_
    refine j_getR (t := 1) X fg_RX11_10 ln_0 ly_0 rfl dX11_who_71 ?_
    refine j_getR (t := 2) X fg_RX11_117 ln_1 ly_1 rfl dX11_who_74 ?_
    refine j_iload_n X 2 dX11_who_77 rfl rfl ?_
    refine j_aaload X ln_2 ly_2 (Or.inr (Or.inr rfl)) dX11_who_78 h (fun k10 qk10 h => ?_)
    have hk10 := jrow8 qk10
    refine j_iload_n X 3 dX11_who_79 rfl rfl ?_
    refine j_iconst (v := 2) X dX11_who_80 (by decide) ?_
    refine j_iload X dX11_who_81 rfl ?_
    refine j_imul X dX11_who_83 ?_
    refine j_iadd X dX11_who_84 ?_
    refine j_iaload X hk10.1 hk10.2 dX11_who_85 h (fun v11 h => ?_)
    obtain ⟨v12, σ13, hm14, h⟩ := jbd_some h
    refine j_callS (as := [.int v11]) (st := []) (st1 := [.int v12]) X ss_RX11_174 ⟨by decide, by decide⟩ rfl rfl (Nat.le_of_ble_eq_true rfl) rfl dX11_who_86 jrv_i (c_X11_isField  hm14) rfl ?_
    refine j_if_ne (tgt := 95) X dX11_who_89 (by decide) h (fun h => ?_) (fun h => ?_)
    · refine j_iinc (v := (x6 + 1)) (ls' := [some (.ref 0), some (.int p1), some (.int p2), some (.int p3), some (.int p4), none, some (.int (x6 + 1))]) X dX11_who_95 rfl rfl (Nat.le_of_ble_eq_true rfl) rfl ?_
      refine j_goto (tgt := 63) X dX11_who_98 (by decide) ?_
      exact ih (x6 + 1) σ13 _ h kk kr
    · refine j_ldc (v := -1000001) X tw_318 dX11_who_92 ?_
      obtain rfl := Option.some.inj h
      exact j_iret X (kr ((-1000001 : Int32), σ13) rfl) dX11_who_94
theorem X11_who_L63_ok {K : jK} (X : JX K cX11_who 7 RX11 5 126) {p1 : Int32} {p2 : Int32} {p3 : Int32} {p4 : Int32}  : ∀ (n : Nat) (s : Int32) (σ : jMem) (o : ((Unit) × jMem) ⊕ (Int32 × jMem)), X11_who_L63 p1 p2 p3 p4 n s σ = some o → (∀ q, o = .inl q → J K 101 [some (.ref 0), some (.int p1), some (.int p2), some (.int p3), some (.int p4), none, none] [] q.2) → (∀ q, o = .inr q → JR K (some .int) (some (.int q.1)) q.2) → J K 63 [some (.ref 0), some (.int p1), some (.int p2), some (.int p3), some (.int p4), none, some (.int s)] [] σ := by
  intro n
  induction n with
  | zero => intro s σ o h; cases h
  | succ n ih => intro s σ o h; exact X11_who_L63_bok X  ih (s) σ o h
def f_X11_who (a0 : Int32) (a1 : Int32) (a2 : Int32) (a3 : Int32) (σ : jMem) : Option (Int32 × jMem) :=
  jbd (f_X5_hasWitness 22 a0 σ) (fun v1 σ2 =>
  if v1 = 0 then
  some (((-1000001 : Int32), σ2))
else
  jbd (f_X11_isRow a1 σ2) (fun v4 σ5 =>
  if v4 = 0 then
  some (((-1000001 : Int32), σ5))
else
  if a3 < (1 : Int32) then
  some (((-1000001 : Int32), σ5))
else
  if a3 ≤ (4 : Int32) then
  jbd (f_X6_amiss a1 a2 ((2 : Int32) * a3) σ5) (fun v7 σ8 =>
  if v7 = 0 then
  jbr (X11_who_L63 (a0) (a1) (a2) (a3) jFU (0 : Int32) σ8) (fun q15 σ16 =>
  jldr 8 3 1 a1 (fun k17 =>
  jbd (f_X11_fittingKinds a0 k17 a2 a3 σ16) (fun v18 σ19 =>
  jbd (f_X11_unfound v18 σ19) (fun v21 σ22 =>
  some ((v21, σ22)))))) (fun e25 => some e25)
else
  jbd (f_X11_found v7 σ8) (fun v29 σ30 =>
  some ((v29, σ30))))
else
  some (((-1000001 : Int32), σ5))))
set_option maxRecDepth 100000 in
set_option maxHeartbeats 4000000 in
theorem c_X11_who {l : Launch} {D : va_G} {ad : Nat → Nat} {cid : Nat → ClassId} {a0 : Int32} {a1 : Int32} {a2 : Int32} {a3 : Int32}  {σ : jMem} {r : Int32} {σ' : jMem} (h : f_X11_who a0 a1 a2 a3 σ = some (r, σ')) : jMet l D ad cid yX11_who cX11_who 7 (some .int) 5 126 [.ref 0, .int a0, .int a1, .int a2, .int a3] σ (some (.int r)) σ' := by
  refine jMet_of (ls0 := [some (.ref 0), some (.int a0), some (.int a1), some (.int a2), some (.int a3), none, none]) (by decide) (Nat.le_of_ble_eq_true rfl) rfl (fun K X R0 _ => ?_)
  unfold f_X11_who at h
  refine j_aload_n X 0 dX11_who_0 rfl rfl ?_
  refine j_getR (t := 22) X fg_RX11_50 ln_0 ly_0 rfl dX11_who_1 ?_
  refine j_iload_n X 1 dX11_who_4 rfl rfl ?_
  obtain ⟨v1, σ2, hm3, h⟩ := jbd_some h
  refine j_callV (as := [.int a0]) (st := []) (st1 := [.int v1]) X ln_22 ly_22 rfl rfl sv_RX11_214 ⟨by decide, by decide⟩ rfl rfl (Nat.le_of_ble_eq_true rfl) rfl dX11_who_5 jrv_i (c_X5_hasWitness jisP_22 hm3) rfl ?_
  refine j_if_eq (tgt := 30) X dX11_who_8 (by decide) h (fun h => ?_) (fun h => ?_)
  · refine j_ldc (v := -1000001) X tw_318 dX11_who_30 ?_
    obtain ⟨rfl, rfl⟩ := jin2 h
    exact j_iret X R0 dX11_who_32
  · refine j_iload_n X 2 dX11_who_11 rfl rfl ?_
    obtain ⟨v4, σ5, hm6, h⟩ := jbd_some h
    refine j_callS (as := [.int a1]) (st := []) (st1 := [.int v4]) X ss_RX11_84 ⟨by decide, by decide⟩ rfl rfl (Nat.le_of_ble_eq_true rfl) rfl dX11_who_12 jrv_i (c_X11_isRow  hm6) rfl ?_
    refine j_if_eq (tgt := 30) X dX11_who_15 (by decide) h (fun h => ?_) (fun h => ?_)
    · refine j_ldc (v := -1000001) X tw_318 dX11_who_30 ?_
      obtain ⟨rfl, rfl⟩ := jin2 h
      exact j_iret X R0 dX11_who_32
    · refine j_iload X dX11_who_18 rfl ?_
      refine j_iconst (v := 1) X dX11_who_20 (by decide) ?_
      refine j_icmp_lt (tgt := 30) X dX11_who_21 (by decide) h (fun h => ?_) (fun h => ?_)
      · refine j_ldc (v := -1000001) X tw_318 dX11_who_30 ?_
        obtain ⟨rfl, rfl⟩ := jin2 h
        exact j_iret X R0 dX11_who_32
      · refine j_iload X dX11_who_24 rfl ?_
        refine j_iconst (v := 4) X dX11_who_26 (by decide) ?_
        refine j_icmp_le (tgt := 33) X dX11_who_27 (by decide) h (fun h => ?_) (fun h => ?_)
        · refine j_aload_n X 0 dX11_who_33 rfl rfl ?_
          refine j_getR (t := 1) X fg_RX11_10 ln_0 ly_0 rfl dX11_who_34 ?_
          refine j_iload_n X 2 dX11_who_37 rfl rfl ?_
          refine j_iload_n X 3 dX11_who_38 rfl rfl ?_
          refine j_iconst (v := 2) X dX11_who_39 (by decide) ?_
          refine j_iload X dX11_who_40 rfl ?_
          refine j_imul X dX11_who_42 ?_
          obtain ⟨v7, σ8, hm9, h⟩ := jbd_some h
          refine j_callV (as := [.int a1, .int a2, .int ((2 : Int32) * a3)]) (st := []) (st1 := [.int v7]) X ln_1 ly_1 rfl rfl sv_RX11_100 ⟨by decide, by decide⟩ rfl rfl (Nat.le_of_ble_eq_true rfl) rfl dX11_who_43 jrv_i (c_X6_amiss  hm9) rfl ?_
          refine j_istore (ls' := [some (.ref 0), some (.int a0), some (.int a1), some (.int a2), some (.int a3), some (.int v7), none]) X dX11_who_46 (Nat.le_of_ble_eq_true rfl) rfl ?_
          refine j_iload X dX11_who_48 rfl ?_
          refine j_if_eq (tgt := 60) X dX11_who_50 (by decide) h (fun h => ?_) (fun h => ?_)
          · refine j_iconst (v := 0) X dX11_who_60 (by decide) ?_
            refine j_istore (ls' := [some (.ref 0), some (.int a0), some (.int a1), some (.int a2), some (.int a3), some (.int v7), some (.int (0 : Int32))]) X dX11_who_61 (Nat.le_of_ble_eq_true rfl) rfl ?_
            obtain ⟨o26, hL24, hl27, hr28⟩ := jbr_some h
            refine j_sub (ls' := [some (.ref 0), some (.int a0), some (.int a1), some (.int a2), some (.int a3), none, some (.int (0 : Int32))]) ⟨Or.inr rfl, Or.inr rfl, Or.inr rfl, Or.inr rfl, Or.inr rfl, Or.inl rfl, Or.inr rfl, trivial⟩ ?_
            refine X11_who_L63_ok X  jFU (0 : Int32) σ8 o26 hL24 (fun q15w e9 => ?_) (fun q15w e9 => ?_)
            · have h := hl27 _ e9
              obtain ⟨q15, σ16⟩ := q15w
              refine j_aload_n X 0 dX11_who_101 rfl rfl ?_
              refine j_aload_n X 0 dX11_who_102 rfl rfl ?_
              refine j_iload_n X 1 dX11_who_103 rfl rfl ?_
              refine j_aload_n X 0 dX11_who_104 rfl rfl ?_
              refine j_getR (t := 1) X fg_RX11_10 ln_0 ly_0 rfl dX11_who_105 ?_
              refine j_getR (t := 2) X fg_RX11_117 ln_1 ly_1 rfl dX11_who_108 ?_
              refine j_iload_n X 2 dX11_who_111 rfl rfl ?_
              refine j_aaload X ln_2 ly_2 (Or.inr (Or.inr rfl)) dX11_who_112 h (fun k17 qk17 h => ?_)
              have hk17 := jrow8 qk17
              refine j_iload_n X 3 dX11_who_113 rfl rfl ?_
              refine j_iload X dX11_who_114 rfl ?_
              obtain ⟨v18, σ19, hm20, h⟩ := jbd_some h
              refine j_callV (as := [.int a0, .ref k17, .int a2, .int a3]) (st := [.ref 0]) (st1 := [.int v18, .ref 0]) X ln_0 ly_0 rfl rfl sv_RX11_286 ⟨by decide, by decide⟩ rfl rfl (Nat.le_of_ble_eq_true rfl) rfl dX11_who_116 jrv_i (c_X11_fittingKinds ⟨hk17.1, hk17.2⟩ hm20) rfl ?_
              obtain ⟨v21, σ22, hm23, h⟩ := jbd_some h
              refine j_callV (as := [.int v18]) (st := []) (st1 := [.int v21]) X ln_0 ly_0 rfl rfl sv_RX11_97 ⟨by decide, by decide⟩ rfl rfl (Nat.le_of_ble_eq_true rfl) rfl dX11_who_119 jrv_i (c_X11_unfound  hm23) rfl ?_
              obtain ⟨rfl, rfl⟩ := jin2 h
              exact j_iret X R0 dX11_who_122
            · have h := hr28 _ e9
              obtain rfl := Option.some.inj h
              exact R0
          · refine j_aload_n X 0 dX11_who_53 rfl rfl ?_
            refine j_iload X dX11_who_54 rfl ?_
            obtain ⟨v29, σ30, hm31, h⟩ := jbd_some h
            refine j_callV (as := [.int v7]) (st := []) (st1 := [.int v29]) X ln_0 ly_0 rfl rfl sv_RX11_89 ⟨by decide, by decide⟩ rfl rfl (Nat.le_of_ble_eq_true rfl) rfl dX11_who_56 jrv_i (c_X11_found  hm31) rfl ?_
            obtain ⟨rfl, rfl⟩ := jin2 h
            exact j_iret X R0 dX11_who_59
        · refine j_ldc (v := -1000001) X tw_318 dX11_who_30 ?_
          obtain ⟨rfl, rfl⟩ := jin2 h
          exact j_iret X R0 dX11_who_32
