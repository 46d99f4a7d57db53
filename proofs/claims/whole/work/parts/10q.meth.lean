theorem sv_RX11_286 : jSiV RX11 286 yX11_fittingKinds cX11_fittingKinds 10 (some .int) 4 := ⟨tw_705, tw_707, ts_16, tw_1, tw_708, by decide, by decide, by decide +kernel⟩
def X11_who_L63_b (p1 : Int32) (p2 : Int32) (p3 : Int32) (p4 : Int32) (rec : Int32 → jMem → Option (((Unit) × jMem) ⊕ (Int32 × jMem))) (x6 : Int32) (σ : jMem) : Option (((Unit) × jMem) ⊕ (Int32 × jMem)) :=
  if p4 ≤ x6 then
  some (.inl ((), σ))
else
  jldr 8 3 1 p2 (fun k10 =>
  jld σ k10 40 (p3 + ((2 : Int32) * x6)) (fun v11 =>
  jbd (f_X11_isField v11 σ) (fun v12 σ13 =>
  if ¬ v12 = 0 then
  rec (x6 + 1) σ13
else
  some (.inr ((-1000001 : Int32), σ13)))))
def X11_who_L63 (p1 : Int32) (p2 : Int32) (p3 : Int32) (p4 : Int32) : Nat → Int32 → jMem → Option (((Unit) × jMem) ⊕ (Int32 × jMem)) := jloop (fun rec s σ => X11_who_L63_b p1 p2 p3 p4 rec s σ)
set_option maxRecDepth 100000 in
set_option maxHeartbeats 4000000 in
theorem X11_who_L63_bok {K : jK} (X : JX K cX11_who 7 RX11 5 126) {p1 : Int32} {p2 : Int32} {p3 : Int32} {p4 : Int32}  {rec : Int32 → jMem → Option (((Unit) × jMem) ⊕ (Int32 × jMem))} (ih : ∀ (s : Int32) (σ : jMem) (o : ((Unit) × jMem) ⊕ (Int32 × jMem)), rec s σ = some o → (∀ q, o = .inl q → J K 101 [some (.ref 0), some (.int p1), some (.int p2), some (.int p3), some (.int p4), none, none] [] q.2) → (∀ q, o = .inr q → JR K (some .int) (some (.int q.1)) q.2) → J K 63 [some (.ref 0), some (.int p1), some (.int p2), some (.int p3), some (.int p4), none, some (.int s)] [] σ) : ∀ (x6 : Int32) (σ : jMem) (o : ((Unit) × jMem) ⊕ (Int32 × jMem)), X11_who_L63_b p1 p2 p3 p4 rec x6 σ = some o → (∀ q, o = .inl q → J K 101 [some (.ref 0), some (.int p1), some (.int p2), some (.int p3), some (.int p4), none, none] [] q.2) → (∀ q, o = .inr q → JR K (some .int) (some (.int q.1)) q.2) → J K 63 [some (.ref 0), some (.int p1), some (.int p2), some (.int p3), some (.int p4), none, some (.int x6)] [] σ := by
  intro x6 σ o h kk kr
  unfold X11_who_L63_b at h
  refine j_iload X dX11_who_63 rfl ?_
  refine j_iload X dX11_who_65 rfl ?_
  refine j_icmp_ge (tgt := 101) X dX11_who_67 (by decide) h (fun h => ?_) (fun h => ?_)
  · obtain rfl := Option.some.inj h
    exact j_sub (ls' := [some (.ref 0), some (.int p1), some (.int p2), some (.int p3), some (.int p4), none, none]) ⟨Or.inr rfl, Or.inr rfl, Or.inr rfl, Or.inr rfl, Or.inr rfl, Or.inl rfl, Or.inl rfl, trivial⟩ (kk ((), σ) rfl)
  · refine j_aload_n X 0 dX11_who_70 rfl rfl ?_
    refine j_getR (t := 1) X fg_RX11_10 ln_0 ly_0 rfl dX11_who_71 ?_
    refine j_getR (t := 2) X fg_RX11_117 ln_1 ly_1 rfl dX11_who_74 ?_
    refine j_iload_n X 2 dX11_who_77 rfl rfl ?_
    refine j_aaload X ln_2 ly_2 (Or.inr (Or.inr rfl)) dX11_who_78 h (fun k10 qk10 h => ?_)
    have hk10 := jrow8 qk10
    refine j_iload_n X 3 dX11_who_79 rfl rfl ?_
    refine j_iconst (v := 2) X dX11_who_80 (by decide) ?_
    refine j_iload X dX11_who_81 rfl ?_
    refine j_imul X dX11_who_83 ?_
    refine j_iadd X dX11_who_84 ?_
    refine j_iaload X hk10.1 hk10.2 dX11_who_85 h (fun v11 h => ?_)
    obtain ⟨v12, σ13, hm14, h⟩ := jbd_some h
    refine j_callS (as := [.int v11]) (st := []) (st1 := [.int v12]) X ss_RX11_174 ⟨by decide, by decide⟩ rfl rfl (Nat.le_of_ble_eq_true rfl) rfl dX11_who_86 jrv_i (c_X11_isField  hm14) rfl ?_
    refine j_if_ne (tgt := 95) X dX11_who_89 (by decide) h (fun h => ?_) (fun h => ?_)
    · refine j_iinc (v := (x6 + 1)) (ls' := [some (.ref 0), some (.int p1), some (.int p2), some (.int p3), some (.int p4), none, some (.int (x6 + 1))]) X dX11_who_95 rfl rfl (Nat.le_of_ble_eq_true rfl) rfl ?_
      refine j_goto (tgt := 63) X dX11_who_98 (by decide) ?_
      exact ih (x6 + 1) σ13 _ h kk kr
    · refine j_ldc (v := -1000001) X tw_318 dX11_who_92 ?_
      obtain rfl := Option.some.inj h
      exact j_iret X (kr ((-1000001 : Int32), σ13) rfl) dX11_who_94
theorem X11_who_L63_ok {K : jK} (X : JX K cX11_who 7 RX11 5 126) {p1 : Int32} {p2 : Int32} {p3 : Int32} {p4 : Int32}  : ∀ (n : Nat) (s : Int32) (σ : jMem) (o : ((Unit) × jMem) ⊕ (Int32 × jMem)), X11_who_L63 p1 p2 p3 p4 n s σ = some o → (∀ q, o = .inl q → J K 101 [some (.ref 0), some (.int p1), some (.int p2), some (.int p3), some (.int p4), none, none] [] q.2) → (∀ q, o = .inr q → JR K (some .int) (some (.int q.1)) q.2) → J K 63 [some (.ref 0), some (.int p1), some (.int p2), some (.int p3), some (.int p4), none, some (.int s)] [] σ := by
  intro n
  induction n with
  | zero => intro s σ o h; cases h
  | succ n ih => intro s σ o h; exact X11_who_L63_bok X  ih (s) σ o h
def f_X11_who (a0 : Int32) (a1 : Int32) (a2 : Int32) (a3 : Int32) (σ : jMem) : Option (Int32 × jMem) :=
  jbd (f_X5_hasWitness 22 a0 σ) (fun v1 σ2 =>
  if v1 = 0 then
  some (((-1000001 : Int32), σ2))
else
  jbd (f_X11_isRow a1 σ2) (fun v4 σ5 =>
  if v4 = 0 then
  some (((-1000001 : Int32), σ5))
else
  if a3 < (1 : Int32) then
  some (((-1000001 : Int32), σ5))
else
  if a3 ≤ (4 : Int32) then
  jbd (f_X6_amiss a1 a2 ((2 : Int32) * a3) σ5) (fun v7 σ8 =>
  if v7 = 0 then
  jbr (X11_who_L63 (a0) (a1) (a2) (a3) jFU (0 : Int32) σ8) (fun q15 σ16 =>
  jldr 8 3 1 a1 (fun k17 =>
  jbd (f_X11_fittingKinds a0 k17 a2 a3 σ16) (fun v18 σ19 =>
  jbd (f_X11_unfound v18 σ19) (fun v21 σ22 =>
  some ((v21, σ22)))))) (fun e25 => some e25)
else
  jbd (f_X11_found v7 σ8) (fun v29 σ30 =>
  some ((v29, σ30))))
else
  some (((-1000001 : Int32), σ5))))
set_option maxRecDepth 100000 in
set_option maxHeartbeats 4000000 in
theorem c_X11_who {l : Launch} {D : va_G} {ad : Nat → Nat} {cid : Nat → ClassId} {a0 : Int32} {a1 : Int32} {a2 : Int32} {a3 : Int32}  {σ : jMem} {r : Int32} {σ' : jMem} (h : f_X11_who a0 a1 a2 a3 σ = some (r, σ')) : jMet l D ad cid yX11_who cX11_who 7 (some .int) 5 126 [.ref 0, .int a0, .int a1, .int a2, .int a3] σ (some (.int r)) σ' := by
  refine jMet_of (ls0 := [some (.ref 0), some (.int a0), some (.int a1), some (.int a2), some (.int a3), none, none]) (by decide) (Nat.le_of_ble_eq_true rfl) rfl (fun K X R0 _ => ?_)
  unfold f_X11_who at h
  refine j_aload_n X 0 dX11_who_0 rfl rfl ?_
  refine j_getR (t := 22) X fg_RX11_50 ln_0 ly_0 rfl dX11_who_1 ?_
  refine j_iload_n X 1 dX11_who_4 rfl rfl ?_
  obtain ⟨v1, σ2, hm3, h⟩ := jbd_some h
  refine j_callV (as := [.int a0]) (st := []) (st1 := [.int v1]) X ln_22 ly_22 rfl rfl sv_RX11_214 ⟨by decide, by decide⟩ rfl rfl (Nat.le_of_ble_eq_true rfl) rfl dX11_who_5 jrv_i (c_X5_hasWitness jisP_22 hm3) rfl ?_
  refine j_if_eq (tgt := 30) X dX11_who_8 (by decide) h (fun h => ?_) (fun h => ?_)
  · refine j_ldc (v := -1000001) X tw_318 dX11_who_30 ?_
    obtain ⟨rfl, rfl⟩ := jin2 h
    exact j_iret X R0 dX11_who_32
  · refine j_iload_n X 2 dX11_who_11 rfl rfl ?_
    obtain ⟨v4, σ5, hm6, h⟩ := jbd_some h
    refine j_callS (as := [.int a1]) (st := []) (st1 := [.int v4]) X ss_RX11_84 ⟨by decide, by decide⟩ rfl rfl (Nat.le_of_ble_eq_true rfl) rfl dX11_who_12 jrv_i (c_X11_isRow  hm6) rfl ?_
    refine j_if_eq (tgt := 30) X dX11_who_15 (by decide) h (fun h => ?_) (fun h => ?_)
    · refine j_ldc (v := -1000001) X tw_318 dX11_who_30 ?_
      obtain ⟨rfl, rfl⟩ := jin2 h
      exact j_iret X R0 dX11_who_32
    · refine j_iload X dX11_who_18 rfl ?_
      refine j_iconst (v := 1) X dX11_who_20 (by decide) ?_
      refine j_icmp_lt (tgt := 30) X dX11_who_21 (by decide) h (fun h => ?_) (fun h => ?_)
      · refine j_ldc (v := -1000001) X tw_318 dX11_who_30 ?_
        obtain ⟨rfl, rfl⟩ := jin2 h
        exact j_iret X R0 dX11_who_32
      · refine j_iload X dX11_who_24 rfl ?_
        refine j_iconst (v := 4) X dX11_who_26 (by decide) ?_
        refine j_icmp_le (tgt := 33) X dX11_who_27 (by decide) h (fun h => ?_) (fun h => ?_)
        · refine j_aload_n X 0 dX11_who_33 rfl rfl ?_
          refine j_getR (t := 1) X fg_RX11_10 ln_0 ly_0 rfl dX11_who_34 ?_
          refine j_iload_n X 2 dX11_who_37 rfl rfl ?_
          refine j_iload_n X 3 dX11_who_38 rfl rfl ?_
          refine j_iconst (v := 2) X dX11_who_39 (by decide) ?_
          refine j_iload X dX11_who_40 rfl ?_
          refine j_imul X dX11_who_42 ?_
          obtain ⟨v7, σ8, hm9, h⟩ := jbd_some h
          refine j_callV (as := [.int a1, .int a2, .int ((2 : Int32) * a3)]) (st := []) (st1 := [.int v7]) X ln_1 ly_1 rfl rfl sv_RX11_100 ⟨by decide, by decide⟩ rfl rfl (Nat.le_of_ble_eq_true rfl) rfl dX11_who_43 jrv_i (c_X6_amiss  hm9) rfl ?_
          refine j_istore (ls' := [some (.ref 0), some (.int a0), some (.int a1), some (.int a2), some (.int a3), some (.int v7), none]) X dX11_who_46 (Nat.le_of_ble_eq_true rfl) rfl ?_
          refine j_iload X dX11_who_48 rfl ?_
          refine j_if_eq (tgt := 60) X dX11_who_50 (by decide) h (fun h => ?_) (fun h => ?_)
          · refine j_iconst (v := 0) X dX11_who_60 (by decide) ?_
            refine j_istore (ls' := [some (.ref 0), some (.int a0), some (.int a1), some (.int a2), some (.int a3), some (.int v7), some (.int (0 : Int32))]) X dX11_who_61 (Nat.le_of_ble_eq_true rfl) rfl ?_
            obtain ⟨o26, hL24, hl27, hr28⟩ := jbr_some h
            refine j_sub (ls' := [some (.ref 0), some (.int a0), some (.int a1), some (.int a2), some (.int a3), none, some (.int (0 : Int32))]) ⟨Or.inr rfl, Or.inr rfl, Or.inr rfl, Or.inr rfl, Or.inr rfl, Or.inl rfl, Or.inr rfl, trivial⟩ ?_
            refine X11_who_L63_ok X  jFU (0 : Int32) σ8 o26 hL24 (fun q15w e9 => ?_) (fun q15w e9 => ?_)
            · have h := hl27 _ e9
              obtain ⟨q15, σ16⟩ := q15w
              refine j_aload_n X 0 dX11_who_101 rfl rfl ?_
              refine j_aload_n X 0 dX11_who_102 rfl rfl ?_
              refine j_iload_n X 1 dX11_who_103 rfl rfl ?_
              refine j_aload_n X 0 dX11_who_104 rfl rfl ?_
              refine j_getR (t := 1) X fg_RX11_10 ln_0 ly_0 rfl dX11_who_105 ?_
              refine j_getR (t := 2) X fg_RX11_117 ln_1 ly_1 rfl dX11_who_108 ?_
              refine j_iload_n X 2 dX11_who_111 rfl rfl ?_
              refine j_aaload X ln_2 ly_2 (Or.inr (Or.inr rfl)) dX11_who_112 h (fun k17 qk17 h => ?_)
              have hk17 := jrow8 qk17
              refine j_iload_n X 3 dX11_who_113 rfl rfl ?_
              refine j_iload X dX11_who_114 rfl ?_
              obtain ⟨v18, σ19, hm20, h⟩ := jbd_some h
              refine j_callV (as := [.int a0, .ref k17, .int a2, .int a3]) (st := [.ref 0]) (st1 := [.int v18, .ref 0]) X ln_0 ly_0 rfl rfl sv_RX11_286 ⟨by decide, by decide⟩ rfl rfl (Nat.le_of_ble_eq_true rfl) rfl dX11_who_116 jrv_i (c_X11_fittingKinds ⟨hk17.1, hk17.2⟩ hm20) rfl ?_
              obtain ⟨v21, σ22, hm23, h⟩ := jbd_some h
              refine j_callV (as := [.int v18]) (st := []) (st1 := [.int v21]) X ln_0 ly_0 rfl rfl sv_RX11_97 ⟨by decide, by decide⟩ rfl rfl (Nat.le_of_ble_eq_true rfl) rfl dX11_who_119 jrv_i (c_X11_unfound  hm23) rfl ?_
              obtain ⟨rfl, rfl⟩ := jin2 h
              exact j_iret X R0 dX11_who_122
            · have h := hr28 _ e9
              obtain rfl := Option.some.inj h
              exact R0
          · refine j_aload_n X 0 dX11_who_53 rfl rfl ?_
            refine j_iload X dX11_who_54 rfl ?_
            obtain ⟨v29, σ30, hm31, h⟩ := jbd_some h
            refine j_callV (as := [.int v7]) (st := []) (st1 := [.int v29]) X ln_0 ly_0 rfl rfl sv_RX11_89 ⟨by decide, by decide⟩ rfl rfl (Nat.le_of_ble_eq_true rfl) rfl dX11_who_56 jrv_i (c_X11_found  hm31) rfl ?_
            obtain ⟨rfl, rfl⟩ := jin2 h
            exact j_iret X R0 dX11_who_59
        · refine j_ldc (v := -1000001) X tw_318 dX11_who_30 ?_
          obtain ⟨rfl, rfl⟩ := jin2 h
          exact j_iret X R0 dX11_who_32
def f_X11_far (a0 : Int32) (σ : jMem) : Option (Int32 × jMem) :=
  if ¬ (σ.1 22 1) = 0 then
  jbd (f_X11_isField a0 σ) (fun v1 σ2 =>
  if ¬ v1 = 0 then
  jbd (f_X5_allPaths 22 σ2) (fun v4 σ5 =>
  jbd (f_X2_carry 22 v4 a0 σ5) (fun v7 σ8 =>
  if v7 = 0 then
  some (((-1000000 : Int32), σ8))
else
  some (((σ8.1 80 0), σ8))))
else
  some (((-1000001 : Int32), σ2)))
else
  some (((-1000002 : Int32), σ))
set_option maxRecDepth 100000 in
set_option maxHeartbeats 4000000 in
theorem c_X11_far {l : Launch} {D : va_G} {ad : Nat → Nat} {cid : Nat → ClassId} {a0 : Int32}  {σ : jMem} {r : Int32} {σ' : jMem} (h : f_X11_far a0 σ = some (r, σ')) : jMet l D ad cid yX11_far cX11_far 2 (some .int) 3 75 [.ref 0, .int a0] σ (some (.int r)) σ' := by
  refine jMet_of (ls0 := [some (.ref 0), some (.int a0)]) (by decide) (Nat.le_of_ble_eq_true rfl) rfl (fun K X R0 _ => ?_)
  unfold f_X11_far at h
  refine j_aload_n X 0 dX11_far_0 rfl rfl ?_
  refine j_getR (t := 22) X fg_RX11_50 ln_0 ly_0 rfl dX11_far_1 ?_
  refine j_getI X fg_RX11_170 ln_22 ly_22 rfl dX11_far_4 ?_
  refine j_if_ne (tgt := 13) X dX11_far_7 (by decide) h (fun h => ?_) (fun h => ?_)
  · refine j_iload_n X 1 dX11_far_13 rfl rfl ?_
    obtain ⟨v1, σ2, hm3, h⟩ := jbd_some h
    refine j_callS (as := [.int a0]) (st := []) (st1 := [.int v1]) X ss_RX11_174 ⟨by decide, by decide⟩ rfl rfl (Nat.le_of_ble_eq_true rfl) rfl dX11_far_14 jrv_i (c_X11_isField  hm3) rfl ?_
    refine j_if_ne (tgt := 23) X dX11_far_17 (by decide) h (fun h => ?_) (fun h => ?_)
    · refine j_aload_n X 0 dX11_far_23 rfl rfl ?_
      refine j_getR (t := 80) X fg_RX11_69 ln_0 ly_0 rfl dX11_far_24 ?_
      refine j_aload_n X 0 dX11_far_27 rfl rfl ?_
      refine j_getR (t := 22) X fg_RX11_50 ln_0 ly_0 rfl dX11_far_28 ?_
      refine j_aload_n X 0 dX11_far_31 rfl rfl ?_
      refine j_getR (t := 22) X fg_RX11_50 ln_0 ly_0 rfl dX11_far_32 ?_
      obtain ⟨v4, σ5, hm6, h⟩ := jbd_some h
      refine j_callV (as := []) (st := [.ref 22, .ref 80]) (st1 := [.int v4, .ref 22, .ref 80]) X ln_22 ly_22 rfl rfl sv_RX11_270 ⟨by decide, by decide⟩ rfl rfl (Nat.le_of_ble_eq_true rfl) rfl dX11_far_35 jrv_i (c_X5_allPaths jisP_22 hm6) rfl ?_
      refine j_iload_n X 1 dX11_far_38 rfl rfl ?_
      obtain ⟨v7, σ8, hm9, h⟩ := jbd_some h
      refine j_callV (as := [.ref 22, .int v4, .int a0]) (st := []) (st1 := [.int v7]) X ln_80 ly_80 rfl rfl sv_RX11_251 ⟨by decide, by decide⟩ rfl rfl (Nat.le_of_ble_eq_true rfl) rfl dX11_far_39 jrv_i (c_X2_carry jisP_22 hm9) rfl ?_
      refine j_if_eq (tgt := 55) X dX11_far_42 (by decide) h (fun h => ?_) (fun h => ?_)
      · refine j_ldc (v := -1000000) X tw_646 dX11_far_55 ?_
        obtain ⟨rfl, rfl⟩ := jin2 h
        exact j_iret X R0 dX11_far_57
      · refine j_aload_n X 0 dX11_far_45 rfl rfl ?_
        refine j_getR (t := 80) X fg_RX11_69 ln_0 ly_0 rfl dX11_far_46 ?_
        refine j_getI X fg_RX11_255 ln_80 ly_80 rfl dX11_far_49 ?_
        refine j_goto (tgt := 57) X dX11_far_52 (by decide) ?_
        obtain ⟨rfl, rfl⟩ := jin2 h
        exact j_iret X R0 dX11_far_57
    · refine j_ldc (v := -1000001) X tw_318 dX11_far_20 ?_
      obtain ⟨rfl, rfl⟩ := jin2 h
      exact j_iret X R0 dX11_far_22
  · refine j_ldc (v := -1000002) X tw_458 dX11_far_10 ?_
    obtain ⟨rfl, rfl⟩ := jin2 h
    exact j_iret X R0 dX11_far_12
def X11_pairs_L42_b (p2 : Int32) (p3 : Int32) (rec : Int32 × Int32 → jMem → Option ((Int32) × jMem)) (x1 : Int32) (x4 : Int32) (σ : jMem) : Option ((Int32) × jMem) :=
  if (σ.1 22 6) ≤ x4 then
  some (x1, σ)
else
  if p3 = 0 then
  some (x1, σ)
else
  jbd (f_X5_swears 22 x4 σ) (fun v5 σ6 =>
  if ¬ v5 = p3 then
  rec (x1, (x4 + 1)) σ6
else
  rec ((x1 + 1), (x4 + 1)) σ6)
def X11_pairs_L42 (p2 : Int32) (p3 : Int32) : Nat → Int32 × Int32 → jMem → Option ((Int32) × jMem) := jloop (fun rec s σ => X11_pairs_L42_b p2 p3 rec s.1 s.2 σ)
set_option maxRecDepth 100000 in
set_option maxHeartbeats 4000000 in
theorem X11_pairs_L42_bok {K : jK} (X : JX K cX11_pairs 5 RX11 3 63) {p2 : Int32} {p3 : Int32}  {rec : Int32 × Int32 → jMem → Option ((Int32) × jMem)} (ih : ∀ (s : Int32 × Int32) (σ : jMem) (o : (Int32) × jMem), rec s σ = some o → (J K 80 [some (.ref 0), some (.int o.1), some (.int p2), none, none] [] o.2) → J K 42 [some (.ref 0), some (.int s.1), some (.int p2), some (.int p3), some (.int s.2)] [] σ) : ∀ (x1 : Int32) (x4 : Int32) (σ : jMem) (o : (Int32) × jMem), X11_pairs_L42_b p2 p3 rec x1 x4 σ = some o → (J K 80 [some (.ref 0), some (.int o.1), some (.int p2), none, none] [] o.2) → J K 42 [some (.ref 0), some (.int x1), some (.int p2), some (.int p3), some (.int x4)] [] σ := by
  intro x1 x4 σ o h kk
  unfold X11_pairs_L42_b at h
  refine j_iload X dX11_pairs_42 rfl ?_
  refine j_aload_n X 0 dX11_pairs_44 rfl rfl ?_
  refine j_getR (t := 22) X fg_RX11_50 ln_0 ly_0 rfl dX11_pairs_45 ?_
  refine j_getI X fg_RX11_273 ln_22 ly_22 rfl dX11_pairs_48 ?_
  refine j_icmp_ge (tgt := 80) X dX11_pairs_51 (by decide) h (fun h => ?_) (fun h => ?_)
  · obtain rfl := Option.some.inj h
    exact j_sub (ls' := [some (.ref 0), some (.int x1), some (.int p2), none, none]) ⟨Or.inr rfl, Or.inr rfl, Or.inr rfl, Or.inl rfl, Or.inl rfl, trivial⟩ kk
  · refine j_iload_n X 3 dX11_pairs_54 rfl rfl ?_
    refine j_if_eq (tgt := 80) X dX11_pairs_55 (by decide) h (fun h => ?_) (fun h => ?_)
    · obtain rfl := Option.some.inj h
      exact j_sub (ls' := [some (.ref 0), some (.int x1), some (.int p2), none, none]) ⟨Or.inr rfl, Or.inr rfl, Or.inr rfl, Or.inl rfl, Or.inl rfl, trivial⟩ kk
    · refine j_aload_n X 0 dX11_pairs_58 rfl rfl ?_
      refine j_getR (t := 22) X fg_RX11_50 ln_0 ly_0 rfl dX11_pairs_59 ?_
      refine j_iload X dX11_pairs_62 rfl ?_
      obtain ⟨v5, σ6, hm7, h⟩ := jbd_some h
      refine j_callV (as := [.int x4]) (st := []) (st1 := [.int v5]) X ln_22 ly_22 rfl rfl sv_RX11_229 ⟨by decide, by decide⟩ rfl rfl (Nat.le_of_ble_eq_true rfl) rfl dX11_pairs_64 jrv_i (c_X5_swears jisP_22 hm7) rfl ?_
      refine j_iload_n X 3 dX11_pairs_67 rfl rfl ?_
      refine j_icmp_ne (tgt := 74) X dX11_pairs_68 (by decide) h (fun h => ?_) (fun h => ?_)
      · refine j_iinc (v := (x4 + 1)) (ls' := [some (.ref 0), some (.int x1), some (.int p2), some (.int p3), some (.int (x4 + 1))]) X dX11_pairs_74 rfl rfl (Nat.le_of_ble_eq_true rfl) rfl ?_
        refine j_goto (tgt := 42) X dX11_pairs_77 (by decide) ?_
        exact ih (x1, (x4 + 1)) σ6 _ h kk
      · refine j_iinc (v := (x1 + 1)) (ls' := [some (.ref 0), some (.int (x1 + 1)), some (.int p2), some (.int p3), some (.int x4)]) X dX11_pairs_71 rfl rfl (Nat.le_of_ble_eq_true rfl) rfl ?_
        refine j_iinc (v := (x4 + 1)) (ls' := [some (.ref 0), some (.int (x1 + 1)), some (.int p2), some (.int p3), some (.int (x4 + 1))]) X dX11_pairs_74 rfl rfl (Nat.le_of_ble_eq_true rfl) rfl ?_
        refine j_goto (tgt := 42) X dX11_pairs_77 (by decide) ?_
        exact ih ((x1 + 1), (x4 + 1)) σ6 _ h kk
theorem X11_pairs_L42_ok {K : jK} (X : JX K cX11_pairs 5 RX11 3 63) {p2 : Int32} {p3 : Int32}  : ∀ (n : Nat) (s : Int32 × Int32) (σ : jMem) (o : (Int32) × jMem), X11_pairs_L42 p2 p3 n s σ = some o → (J K 80 [some (.ref 0), some (.int o.1), some (.int p2), none, none] [] o.2) → J K 42 [some (.ref 0), some (.int s.1), some (.int p2), some (.int p3), some (.int s.2)] [] σ := by
  intro n
  induction n with
  | zero => intro s σ o h; cases h
  | succ n ih => intro s σ o h; exact X11_pairs_L42_bok X  ih (s.1) (s.2) σ o h
def X11_pairs_L17_b  (rec : Int32 × Int32 → jMem → Option ((Int32) × jMem)) (x1 : Int32) (x2 : Int32) (σ : jMem) : Option ((Int32) × jMem) :=
  if (σ.1 22 6) ≤ x2 then
  some (x1, σ)
else
  jbd (f_X5_swears 22 x2 σ) (fun v1 σ2 =>
  jlet ((x2 + (1 : Int32))) (fun v4 =>
  jbd (X11_pairs_L42 (x2) (v1) jFU (x1, v4) σ2) (fun q8 σ9 =>
  rec (q8, (x2 + 1)) σ9)))
def X11_pairs_L17  : Nat → Int32 × Int32 → jMem → Option ((Int32) × jMem) := jloop (fun rec s σ => X11_pairs_L17_b  rec s.1 s.2 σ)
set_option maxRecDepth 100000 in
set_option maxHeartbeats 4000000 in
theorem X11_pairs_L17_bok {K : jK} (X : JX K cX11_pairs 5 RX11 3 63)   {rec : Int32 × Int32 → jMem → Option ((Int32) × jMem)} (ih : ∀ (s : Int32 × Int32) (σ : jMem) (o : (Int32) × jMem), rec s σ = some o → (J K 86 [none, some (.int o.1), none, none, none] [] o.2) → J K 17 [some (.ref 0), some (.int s.1), some (.int s.2), none, none] [] σ) : ∀ (x1 : Int32) (x2 : Int32) (σ : jMem) (o : (Int32) × jMem), X11_pairs_L17_b  rec x1 x2 σ = some o → (J K 86 [none, some (.int o.1), none, none, none] [] o.2) → J K 17 [some (.ref 0), some (.int x1), some (.int x2), none, none] [] σ := by
  intro x1 x2 σ o h kk
  unfold X11_pairs_L17_b at h
  refine j_iload_n X 2 dX11_pairs_17 rfl rfl ?_
  refine j_aload_n X 0 dX11_pairs_18 rfl rfl ?_
  refine j_getR (t := 22) X fg_RX11_50 ln_0 ly_0 rfl dX11_pairs_19 ?_
  refine j_getI X fg_RX11_273 ln_22 ly_22 rfl dX11_pairs_22 ?_
  refine j_icmp_ge (tgt := 86) X dX11_pairs_25 (by decide) h (fun h => ?_) (fun h => ?_)
  · obtain rfl := Option.some.inj h
    exact j_sub (ls' := [none, some (.int x1), none, none, none]) ⟨Or.inl rfl, Or.inr rfl, Or.inl rfl, Or.inl rfl, Or.inl rfl, trivial⟩ kk
  · refine j_aload_n X 0 dX11_pairs_28 rfl rfl ?_
    refine j_getR (t := 22) X fg_RX11_50 ln_0 ly_0 rfl dX11_pairs_29 ?_
    refine j_iload_n X 2 dX11_pairs_32 rfl rfl ?_
    obtain ⟨v1, σ2, hm3, h⟩ := jbd_some h
    refine j_callV (as := [.int x2]) (st := []) (st1 := [.int v1]) X ln_22 ly_22 rfl rfl sv_RX11_229 ⟨by decide, by decide⟩ rfl rfl (Nat.le_of_ble_eq_true rfl) rfl dX11_pairs_33 jrv_i (c_X5_swears jisP_22 hm3) rfl ?_
    refine j_istore_n (ls' := [some (.ref 0), some (.int x1), some (.int x2), some (.int v1), none]) X 3 dX11_pairs_36 rfl (Nat.le_of_ble_eq_true rfl) rfl ?_
    refine j_iload_n X 2 dX11_pairs_37 rfl rfl ?_
    refine j_iconst (v := 1) X dX11_pairs_38 (by decide) ?_
    refine j_iadd X dX11_pairs_39 ?_
    refine j_letI h (fun v4 h => ?_)
    refine j_istore (ls' := [some (.ref 0), some (.int x1), some (.int x2), some (.int v1), some (.int v4)]) X dX11_pairs_40 (Nat.le_of_ble_eq_true rfl) rfl ?_
    obtain ⟨q8, σ9, hL10, h⟩ := jbd_some h
    refine X11_pairs_L42_ok X  jFU (x1, v4) σ2 _ hL10 ?_
    refine j_iinc (v := (x2 + 1)) (ls' := [some (.ref 0), some (.int q8), some (.int (x2 + 1)), none, none]) X dX11_pairs_80 rfl rfl (Nat.le_of_ble_eq_true rfl) rfl ?_
    refine j_goto (tgt := 17) X dX11_pairs_83 (by decide) ?_
    exact ih (q8, (x2 + 1)) σ9 _ h kk
theorem X11_pairs_L17_ok {K : jK} (X : JX K cX11_pairs 5 RX11 3 63)   : ∀ (n : Nat) (s : Int32 × Int32) (σ : jMem) (o : (Int32) × jMem), X11_pairs_L17  n s σ = some o → (J K 86 [none, some (.int o.1), none, none, none] [] o.2) → J K 17 [some (.ref 0), some (.int s.1), some (.int s.2), none, none] [] σ := by
  intro n
  induction n with
  | zero => intro s σ o h; cases h
  | succ n ih => intro s σ o h; exact X11_pairs_L17_bok X  ih (s.1) (s.2) σ o h
def f_X11_pairs  (σ : jMem) : Option (Int32 × jMem) :=
  if ¬ (σ.1 22 1) = 0 then
  jbd (X11_pairs_L17  jFU ((0 : Int32), (0 : Int32)) σ) (fun q11 σ12 =>
  some ((q11, σ12)))
else
  some (((-1000002 : Int32), σ))
set_option maxRecDepth 100000 in
set_option maxHeartbeats 4000000 in
theorem c_X11_pairs {l : Launch} {D : va_G} {ad : Nat → Nat} {cid : Nat → ClassId}   {σ : jMem} {r : Int32} {σ' : jMem} (h : f_X11_pairs  σ = some (r, σ')) : jMet l D ad cid yX11_pairs cX11_pairs 5 (some .int) 3 63 [.ref 0] σ (some (.int r)) σ' := by
  refine jMet_of (ls0 := [some (.ref 0), none, none, none, none]) (by decide) (Nat.le_of_ble_eq_true rfl) rfl (fun K X R0 _ => ?_)
  unfold f_X11_pairs at h
  refine j_aload_n X 0 dX11_pairs_0 rfl rfl ?_
  refine j_getR (t := 22) X fg_RX11_50 ln_0 ly_0 rfl dX11_pairs_1 ?_
  refine j_getI X fg_RX11_170 ln_22 ly_22 rfl dX11_pairs_4 ?_
  refine j_if_ne (tgt := 13) X dX11_pairs_7 (by decide) h (fun h => ?_) (fun h => ?_)
  · refine j_iconst (v := 0) X dX11_pairs_13 (by decide) ?_
    refine j_istore_n (ls' := [some (.ref 0), some (.int (0 : Int32)), none, none, none]) X 1 dX11_pairs_14 rfl (Nat.le_of_ble_eq_true rfl) rfl ?_
    refine j_iconst (v := 0) X dX11_pairs_15 (by decide) ?_
    refine j_istore_n (ls' := [some (.ref 0), some (.int (0 : Int32)), some (.int (0 : Int32)), none, none]) X 2 dX11_pairs_16 rfl (Nat.le_of_ble_eq_true rfl) rfl ?_
    obtain ⟨q11, σ12, hL13, h⟩ := jbd_some h
    refine X11_pairs_L17_ok X  jFU ((0 : Int32), (0 : Int32)) σ _ hL13 ?_
    refine j_iload_n X 1 dX11_pairs_86 rfl rfl ?_
    obtain ⟨rfl, rfl⟩ := jin2 h
    exact j_iret X R0 dX11_pairs_87
  · refine j_ldc (v := -1000002) X tw_458 dX11_pairs_10 ?_
    obtain ⟨rfl, rfl⟩ := jin2 h
    exact j_iret X R0 dX11_pairs_12
