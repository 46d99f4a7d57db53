def X11_ahead_L39_b (p1 : Int32) (rec : Int32 → jMem → Option ((Unit) × jMem)) (x2 : Int32) (σ : jMem) : Option ((Unit) × jMem) :=
  if p1 ≤ x2 then
  some ((), σ)
else
  jbv (f_X5_pass 30 σ) (fun σ3 =>
  rec (x2 + 1) σ3)
def X11_ahead_L39 (p1 : Int32) : Nat → Int32 → jMem → Option ((Unit) × jMem) := jloop (fun rec s σ => X11_ahead_L39_b p1 rec s σ)
set_option maxRecDepth 100000 in
set_option maxHeartbeats 4000000 in
theorem X11_ahead_L39_bok {K : jK} (X : JX K cX11_ahead 3 RX11 5 106) {p1 : Int32}  {rec : Int32 → jMem → Option ((Unit) × jMem)} (ih : ∀ (s : Int32) (σ : jMem) (o : (Unit) × jMem), rec s σ = some o → (J K 57 [some (.ref 0), none, none] [] o.2) → J K 39 [some (.ref 0), some (.int p1), some (.int s)] [] σ) : ∀ (x2 : Int32) (σ : jMem) (o : (Unit) × jMem), X11_ahead_L39_b p1 rec x2 σ = some o → (J K 57 [some (.ref 0), none, none] [] o.2) → J K 39 [some (.ref 0), some (.int p1), some (.int x2)] [] σ := by
  intro x2 σ o h kk
  unfold X11_ahead_L39_b at h
  refine j_iload_n X 2 dX11_ahead_39 rfl rfl ?_
  refine j_iload_n X 1 dX11_ahead_40 rfl rfl ?_
  refine j_icmp_ge (tgt := 57) X dX11_ahead_41 (by decide) h (fun h => ?_) (fun h => ?_)
  · obtain rfl := Option.some.inj h
    exact j_sub (ls' := [some (.ref 0), none, none]) ⟨Or.inr rfl, Or.inl rfl, Or.inl rfl, trivial⟩ kk
  · refine j_aload_n X 0 dX11_ahead_44 rfl rfl ?_
    refine j_getR (t := 30) X fg_RX11_54 ln_0 ly_0 rfl dX11_ahead_45 ?_
    obtain ⟨σ3, hm4, h⟩ := jbv_some h
    refine j_callV (as := []) (st := []) (st1 := []) X ln_30 ly_30 rfl rfl sv_RX11_195 ⟨by decide, by decide⟩ rfl rfl (Nat.le_of_ble_eq_true rfl) rfl dX11_ahead_48 jrv_v (c_X5_pass jisP_30 hm4) rfl ?_
    refine j_iinc (v := (x2 + 1)) (ls' := [some (.ref 0), some (.int p1), some (.int (x2 + 1))]) X dX11_ahead_51 rfl rfl (Nat.le_of_ble_eq_true rfl) rfl ?_
    refine j_goto (tgt := 39) X dX11_ahead_54 (by decide) ?_
    exact ih (x2 + 1) σ3 _ h kk
theorem X11_ahead_L39_ok {K : jK} (X : JX K cX11_ahead 3 RX11 5 106) {p1 : Int32}  : ∀ (n : Nat) (s : Int32) (σ : jMem) (o : (Unit) × jMem), X11_ahead_L39 p1 n s σ = some o → (J K 57 [some (.ref 0), none, none] [] o.2) → J K 39 [some (.ref 0), some (.int p1), some (.int s)] [] σ := by
  intro n
  induction n with
  | zero => intro s σ o h; cases h
  | succ n ih => intro s σ o h; exact X11_ahead_L39_bok X  ih (s) σ o h
def f_X11_ahead (a0 : Int32) (σ : jMem) : Option (Int32 × jMem) :=
  if ¬ (σ.1 22 1) = 0 then
  if a0 < 0 then
  some (((-1000001 : Int32), σ))
else
  if a0 ≤ (60 : Int32) then
  jbv (f_X5_become 30 22 σ) (fun σ1 =>
  jbd (X11_ahead_L39 (a0) jFU (0 : Int32) σ1) (fun q5 σ6 =>
  jbd (f_X5_ways 30 σ6) (fun v7 σ8 =>
  some ((v7, σ8)))))
else
  some (((-1000001 : Int32), σ))
else
  some (((-1000002 : Int32), σ))
set_option maxRecDepth 100000 in
set_option maxHeartbeats 4000000 in
theorem c_X11_ahead {l : Launch} {D : va_G} {ad : Nat → Nat} {cid : Nat → ClassId} {a0 : Int32}  {σ : jMem} {r : Int32} {σ' : jMem} (h : f_X11_ahead a0 σ = some (r, σ')) : jMet l D ad cid yX11_ahead cX11_ahead 3 (some .int) 5 106 [.ref 0, .int a0] σ (some (.int r)) σ' := by
  refine jMet_of (ls0 := [some (.ref 0), some (.int a0), none]) (by decide) (Nat.le_of_ble_eq_true rfl) rfl (fun K X R0 _ => ?_)
  unfold f_X11_ahead at h
  refine j_aload_n X 0 dX11_ahead_0 rfl rfl ?_
  refine j_getR (t := 22) X fg_RX11_50 ln_0 ly_0 rfl dX11_ahead_1 ?_
  refine j_getI X fg_RX11_170 ln_22 ly_22 rfl dX11_ahead_4 ?_
  refine j_if_ne (tgt := 13) X dX11_ahead_7 (by decide) h (fun h => ?_) (fun h => ?_)
  · refine j_iload_n X 1 dX11_ahead_13 rfl rfl ?_
    refine j_if_lt (tgt := 23) X dX11_ahead_14 (by decide) h (fun h => ?_) (fun h => ?_)
    · refine j_ldc (v := -1000001) X tw_318 dX11_ahead_23 ?_
      obtain ⟨rfl, rfl⟩ := jin2 h
      exact j_iret X R0 dX11_ahead_25
    · refine j_iload_n X 1 dX11_ahead_17 rfl rfl ?_
      refine j_bipush (v := 60) X dX11_ahead_18 (by decide) ?_
      refine j_icmp_le (tgt := 26) X dX11_ahead_20 (by decide) h (fun h => ?_) (fun h => ?_)
      · refine j_aload_n X 0 dX11_ahead_26 rfl rfl ?_
        refine j_getR (t := 30) X fg_RX11_54 ln_0 ly_0 rfl dX11_ahead_27 ?_
        refine j_aload_n X 0 dX11_ahead_30 rfl rfl ?_
        refine j_getR (t := 22) X fg_RX11_50 ln_0 ly_0 rfl dX11_ahead_31 ?_
        obtain ⟨σ1, hm2, h⟩ := jbv_some h
        refine j_callV (as := [.ref 22]) (st := []) (st1 := []) X ln_30 ly_30 rfl rfl sv_RX11_146 ⟨by decide, by decide⟩ rfl rfl (Nat.le_of_ble_eq_true rfl) rfl dX11_ahead_34 jrv_v (c_X5_become jisP_30 jisP_22 hm2) rfl ?_
        refine j_iconst (v := 0) X dX11_ahead_37 (by decide) ?_
        refine j_istore_n (ls' := [some (.ref 0), some (.int a0), some (.int (0 : Int32))]) X 2 dX11_ahead_38 rfl (Nat.le_of_ble_eq_true rfl) rfl ?_
        obtain ⟨q5, σ6, hL10, h⟩ := jbd_some h
        refine X11_ahead_L39_ok X  jFU (0 : Int32) σ1 _ hL10 ?_
        refine j_aload_n X 0 dX11_ahead_57 rfl rfl ?_
        refine j_getR (t := 30) X fg_RX11_54 ln_0 ly_0 rfl dX11_ahead_58 ?_
        obtain ⟨v7, σ8, hm9, h⟩ := jbd_some h
        refine j_callV (as := []) (st := []) (st1 := [.int v7]) X ln_30 ly_30 rfl rfl sv_RX11_188 ⟨by decide, by decide⟩ rfl rfl (Nat.le_of_ble_eq_true rfl) rfl dX11_ahead_61 jrv_i (c_X5_ways jisP_30 hm9) rfl ?_
        obtain ⟨rfl, rfl⟩ := jin2 h
        exact j_iret X R0 dX11_ahead_64
      · refine j_ldc (v := -1000001) X tw_318 dX11_ahead_23 ?_
        obtain ⟨rfl, rfl⟩ := jin2 h
        exact j_iret X R0 dX11_ahead_25
  · refine j_ldc (v := -1000002) X tw_458 dX11_ahead_10 ?_
    obtain ⟨rfl, rfl⟩ := jin2 h
    exact j_iret X R0 dX11_ahead_12
def X11_lost_L27_b (p1 : Int32) (rec : Int32 → jMem → Option (((Unit) × jMem) ⊕ (Int32 × jMem))) (x2 : Int32) (σ : jMem) : Option (((Unit) × jMem) ⊕ (Int32 × jMem)) :=
  if (60 : Int32) < x2 then
  some (.inl ((), σ))
else
  jbd (f_X5_ways 30 σ) (fun v6 σ7 =>
  jbd (f_X11_bitOf v6 p1 σ7) (fun v9 σ10 =>
  if ¬ v9 = 0 then
  jbv (f_X5_pass 30 σ10) (fun σ12 =>
  rec (x2 + 1) σ12)
else
  some (.inr (x2, σ10))))
def X11_lost_L27 (p1 : Int32) : Nat → Int32 → jMem → Option (((Unit) × jMem) ⊕ (Int32 × jMem)) := jloop (fun rec s σ => X11_lost_L27_b p1 rec s σ)
set_option maxRecDepth 100000 in
set_option maxHeartbeats 4000000 in
theorem X11_lost_L27_bok {K : jK} (X : JX K cX11_lost 3 RX11 5 106) {p1 : Int32}  {rec : Int32 → jMem → Option (((Unit) × jMem) ⊕ (Int32 × jMem))} (ih : ∀ (s : Int32) (σ : jMem) (o : ((Unit) × jMem) ⊕ (Int32 × jMem)), rec s σ = some o → (∀ q, o = .inl q → J K 62 [none, none, none] [] q.2) → (∀ q, o = .inr q → JR K (some .int) (some (.int q.1)) q.2) → J K 27 [some (.ref 0), some (.int p1), some (.int s)] [] σ) : ∀ (x2 : Int32) (σ : jMem) (o : ((Unit) × jMem) ⊕ (Int32 × jMem)), X11_lost_L27_b p1 rec x2 σ = some o → (∀ q, o = .inl q → J K 62 [none, none, none] [] q.2) → (∀ q, o = .inr q → JR K (some .int) (some (.int q.1)) q.2) → J K 27 [some (.ref 0), some (.int p1), some (.int x2)] [] σ := by
  intro x2 σ o h kk kr
  unfold X11_lost_L27_b at h
  refine j_iload_n X 2 dX11_lost_27 rfl rfl ?_
  refine j_bipush (v := 60) X dX11_lost_28 (by decide) ?_
  refine j_icmp_gt (tgt := 62) X dX11_lost_30 (by decide) h (fun h => ?_) (fun h => ?_)
  · obtain rfl := Option.some.inj h
    exact j_sub (ls' := [none, none, none]) ⟨Or.inl rfl, Or.inl rfl, Or.inl rfl, trivial⟩ (kk ((), σ) rfl)
  · refine j_aload_n X 0 dX11_lost_33 rfl rfl ?_
    refine j_getR (t := 30) X fg_RX11_54 ln_0 ly_0 rfl dX11_lost_34 ?_
    obtain ⟨v6, σ7, hm8, h⟩ := jbd_some h
    refine j_callV (as := []) (st := []) (st1 := [.int v6]) X ln_30 ly_30 rfl rfl sv_RX11_188 ⟨by decide, by decide⟩ rfl rfl (Nat.le_of_ble_eq_true rfl) rfl dX11_lost_37 jrv_i (c_X5_ways jisP_30 hm8) rfl ?_
    refine j_iload_n X 1 dX11_lost_40 rfl rfl ?_
    obtain ⟨v9, σ10, hm11, h⟩ := jbd_some h
    refine j_callS (as := [.int v6, .int p1]) (st := []) (st1 := [.int v9]) X ss_RX11_210 ⟨by decide, by decide⟩ rfl rfl (Nat.le_of_ble_eq_true rfl) rfl dX11_lost_41 jrv_i (c_X11_bitOf  hm11) rfl ?_
    refine j_if_ne (tgt := 49) X dX11_lost_44 (by decide) h (fun h => ?_) (fun h => ?_)
    · refine j_aload_n X 0 dX11_lost_49 rfl rfl ?_
      refine j_getR (t := 30) X fg_RX11_54 ln_0 ly_0 rfl dX11_lost_50 ?_
      obtain ⟨σ12, hm13, h⟩ := jbv_some h
      refine j_callV (as := []) (st := []) (st1 := []) X ln_30 ly_30 rfl rfl sv_RX11_195 ⟨by decide, by decide⟩ rfl rfl (Nat.le_of_ble_eq_true rfl) rfl dX11_lost_53 jrv_v (c_X5_pass jisP_30 hm13) rfl ?_
      refine j_iinc (v := (x2 + 1)) (ls' := [some (.ref 0), some (.int p1), some (.int (x2 + 1))]) X dX11_lost_56 rfl rfl (Nat.le_of_ble_eq_true rfl) rfl ?_
      refine j_goto (tgt := 27) X dX11_lost_59 (by decide) ?_
      exact ih (x2 + 1) σ12 _ h kk kr
    · refine j_iload_n X 2 dX11_lost_47 rfl rfl ?_
      obtain rfl := Option.some.inj h
      exact j_iret X (kr (x2, σ10) rfl) dX11_lost_48
theorem X11_lost_L27_ok {K : jK} (X : JX K cX11_lost 3 RX11 5 106) {p1 : Int32}  : ∀ (n : Nat) (s : Int32) (σ : jMem) (o : ((Unit) × jMem) ⊕ (Int32 × jMem)), X11_lost_L27 p1 n s σ = some o → (∀ q, o = .inl q → J K 62 [none, none, none] [] q.2) → (∀ q, o = .inr q → JR K (some .int) (some (.int q.1)) q.2) → J K 27 [some (.ref 0), some (.int p1), some (.int s)] [] σ := by
  intro n
  induction n with
  | zero => intro s σ o h; cases h
  | succ n ih => intro s σ o h; exact X11_lost_L27_bok X  ih (s) σ o h
def f_X11_lost (a0 : Int32) (σ : jMem) : Option (Int32 × jMem) :=
  jbd (f_X5_hasPath 22 a0 σ) (fun v1 σ2 =>
  if ¬ v1 = 0 then
  jbv (f_X5_become 30 22 σ2) (fun σ4 =>
  jbr (X11_lost_L27 (a0) jFU (0 : Int32) σ4) (fun q14 σ15 =>
  some (((-1000000 : Int32), σ15))) (fun e17 => some e17))
else
  some (((-1000001 : Int32), σ2)))
set_option maxRecDepth 100000 in
set_option maxHeartbeats 4000000 in
theorem c_X11_lost {l : Launch} {D : va_G} {ad : Nat → Nat} {cid : Nat → ClassId} {a0 : Int32}  {σ : jMem} {r : Int32} {σ' : jMem} (h : f_X11_lost a0 σ = some (r, σ')) : jMet l D ad cid yX11_lost cX11_lost 3 (some .int) 5 106 [.ref 0, .int a0] σ (some (.int r)) σ' := by
  refine jMet_of (ls0 := [some (.ref 0), some (.int a0), none]) (by decide) (Nat.le_of_ble_eq_true rfl) rfl (fun K X R0 _ => ?_)
  unfold f_X11_lost at h
  refine j_aload_n X 0 dX11_lost_0 rfl rfl ?_
  refine j_getR (t := 22) X fg_RX11_50 ln_0 ly_0 rfl dX11_lost_1 ?_
  refine j_iload_n X 1 dX11_lost_4 rfl rfl ?_
  obtain ⟨v1, σ2, hm3, h⟩ := jbd_some h
  refine j_callV (as := [.int a0]) (st := []) (st1 := [.int v1]) X ln_22 ly_22 rfl rfl sv_RX11_201 ⟨by decide, by decide⟩ rfl rfl (Nat.le_of_ble_eq_true rfl) rfl dX11_lost_5 jrv_i (c_X5_hasPath jisP_22 hm3) rfl ?_
  refine j_if_ne (tgt := 14) X dX11_lost_8 (by decide) h (fun h => ?_) (fun h => ?_)
  · refine j_aload_n X 0 dX11_lost_14 rfl rfl ?_
    refine j_getR (t := 30) X fg_RX11_54 ln_0 ly_0 rfl dX11_lost_15 ?_
    refine j_aload_n X 0 dX11_lost_18 rfl rfl ?_
    refine j_getR (t := 22) X fg_RX11_50 ln_0 ly_0 rfl dX11_lost_19 ?_
    obtain ⟨σ4, hm5, h⟩ := jbv_some h
    refine j_callV (as := [.ref 22]) (st := []) (st1 := []) X ln_30 ly_30 rfl rfl sv_RX11_146 ⟨by decide, by decide⟩ rfl rfl (Nat.le_of_ble_eq_true rfl) rfl dX11_lost_22 jrv_v (c_X5_become jisP_30 jisP_22 hm5) rfl ?_
    refine j_iconst (v := 0) X dX11_lost_25 (by decide) ?_
    refine j_istore_n (ls' := [some (.ref 0), some (.int a0), some (.int (0 : Int32))]) X 2 dX11_lost_26 rfl (Nat.le_of_ble_eq_true rfl) rfl ?_
    obtain ⟨o18, hL16, hl19, hr20⟩ := jbr_some h
    refine X11_lost_L27_ok X  jFU (0 : Int32) σ4 o18 hL16 (fun q14w e9 => ?_) (fun q14w e9 => ?_)
    · have h := hl19 _ e9
      obtain ⟨q14, σ15⟩ := q14w
      refine j_ldc (v := -1000000) X tw_646 dX11_lost_62 ?_
      obtain ⟨rfl, rfl⟩ := jin2 h
      exact j_iret X R0 dX11_lost_64
    · have h := hr20 _ e9
      obtain rfl := Option.some.inj h
      exact R0
  · refine j_ldc (v := -1000001) X tw_318 dX11_lost_11 ?_
    obtain ⟨rfl, rfl⟩ := jin2 h
    exact j_iret X R0 dX11_lost_13
