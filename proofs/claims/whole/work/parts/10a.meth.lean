def f_X11_unfound (a0 : Int32) (σ : jMem) : Option (Int32 × jMem) :=
  jlet (jset σ 0 12 (0 : Int32)) (fun σ1 =>
  some ((a0, σ1)))
set_option maxRecDepth 100000 in
set_option maxHeartbeats 4000000 in
theorem c_X11_unfound {l : Launch} {D : va_G} {ad : Nat → Nat} {cid : Nat → ClassId} {a0 : Int32}  {σ : jMem} {r : Int32} {σ' : jMem} (h : f_X11_unfound a0 σ = some (r, σ')) : jMet l D ad cid yX11_unfound cX11_unfound 2 (some .int) 0 0 [.ref 0, .int a0] σ (some (.int r)) σ' := by
  refine jMet_of (ls0 := [some (.ref 0), some (.int a0)]) (by decide) (Nat.le_of_ble_eq_true rfl) rfl (fun K X R0 _ => ?_)
  unfold f_X11_unfound at h
  refine j_aload_n X 0 dX11_unfound_0 rfl rfl ?_
  refine j_iconst (v := 0) X dX11_unfound_1 (by decide) ?_
  refine j_put X fp_RX11_346 ln_0 ly_0 rfl rfl rfl dX11_unfound_2 h (fun σ1 h => ?_)
  refine j_iload_n X 1 dX11_unfound_5 rfl rfl ?_
  obtain ⟨rfl, rfl⟩ := jin2 h
  exact j_iret X R0 dX11_unfound_6
def X6_lay_L17_b (p1 : Int32) (p3 : Int32) (rec : Int32 → jMem → Option ((Unit) × jMem)) (x4 : Int32) (σ : jMem) : Option ((Unit) × jMem) :=
  if p3 ≤ x4 then
  some ((), σ)
else
  jldr 8 3 1 p1 (fun k3 =>
  jst σ k3 40 x4 (0 : Int32) (fun σ4 =>
  rec (x4 + 1) σ4))
def X6_lay_L17 (p1 : Int32) (p3 : Int32) : Nat → Int32 → jMem → Option ((Unit) × jMem) := jloop (fun rec s σ => X6_lay_L17_b p1 p3 rec s σ)
set_option maxRecDepth 100000 in
set_option maxHeartbeats 4000000 in
theorem X6_lay_L17_bok {K : jK} (X : JX K cX6_lay 5 RX6 0 0) {p1 : Int32} {p3 : Int32}  {rec : Int32 → jMem → Option ((Unit) × jMem)} (ih : ∀ (s : Int32) (σ : jMem) (o : (Unit) × jMem), rec s σ = some o → (J K 39 [none, none, none, none, none] [] o.2) → J K 17 [some (.ref 1), some (.int p1), none, some (.int p3), some (.int s)] [] σ) : ∀ (x4 : Int32) (σ : jMem) (o : (Unit) × jMem), X6_lay_L17_b p1 p3 rec x4 σ = some o → (J K 39 [none, none, none, none, none] [] o.2) → J K 17 [some (.ref 1), some (.int p1), none, some (.int p3), some (.int x4)] [] σ := by
  intro x4 σ o h kk
  unfold X6_lay_L17_b at h
  refine j_iload X dX6_lay_17 rfl ?_
  refine j_iload_n X 3 dX6_lay_19 rfl rfl ?_
  refine j_icmp_ge (tgt := 39) X dX6_lay_20 (by decide) h (fun h => ?_) (fun h => ?_)
  · obtain rfl := Option.some.inj h
    exact j_sub (ls' := [none, none, none, none, none]) ⟨Or.inl rfl, Or.inl rfl, Or.inl rfl, Or.inl rfl, Or.inl rfl, trivial⟩ kk
  · refine j_aload_n X 0 dX6_lay_23 rfl rfl ?_
    refine j_getR (t := 2) X fg_RX6_11 ln_1 ly_1 rfl dX6_lay_24 ?_
    refine j_iload_n X 1 dX6_lay_27 rfl rfl ?_
    refine j_aaload X ln_2 ly_2 (Or.inr (Or.inr rfl)) dX6_lay_28 h (fun k3 qk3 h => ?_)
    have hk3 := jrow8 qk3
    refine j_iload X dX6_lay_29 rfl ?_
    refine j_iconst (v := 0) X dX6_lay_31 (by decide) ?_
    refine j_iastore X hk3.1 hk3.2 dX6_lay_32 h (fun σ4 h => ?_)
    refine j_iinc (v := (x4 + 1)) (ls' := [some (.ref 1), some (.int p1), none, some (.int p3), some (.int (x4 + 1))]) X dX6_lay_33 rfl rfl (Nat.le_of_ble_eq_true rfl) rfl ?_
    refine j_goto (tgt := 17) X dX6_lay_36 (by decide) ?_
    exact ih (x4 + 1) σ4 _ h kk
theorem X6_lay_L17_ok {K : jK} (X : JX K cX6_lay 5 RX6 0 0) {p1 : Int32} {p3 : Int32}  : ∀ (n : Nat) (s : Int32) (σ : jMem) (o : (Unit) × jMem), X6_lay_L17 p1 p3 n s σ = some o → (J K 39 [none, none, none, none, none] [] o.2) → J K 17 [some (.ref 1), some (.int p1), none, some (.int p3), some (.int s)] [] σ := by
  intro n
  induction n with
  | zero => intro s σ o h; cases h
  | succ n ih => intro s σ o h; exact X6_lay_L17_bok X  ih (s) σ o h
def f_X6_lay (a0 : Int32) (a1 : Int32) (a2 : Int32) (σ : jMem) : Option jMem :=
  jst σ 11 8 a0 a1 (fun σ1 =>
  jst σ1 12 8 a0 a2 (fun σ2 =>
  jbd (X6_lay_L17 (a0) (a2) jFU (0 : Int32) σ2) (fun q5 σ6 =>
  some σ6)))
set_option maxRecDepth 100000 in
set_option maxHeartbeats 4000000 in
theorem c_X6_lay {l : Launch} {D : va_G} {ad : Nat → Nat} {cid : Nat → ClassId} {a0 : Int32} {a1 : Int32} {a2 : Int32}  {σ : jMem} {σ' : jMem} (h : f_X6_lay a0 a1 a2 σ = some σ') : jMet l D ad cid yX6_lay cX6_lay 5 none 0 0 [.ref 1, .int a0, .int a1, .int a2] σ none σ' := by
  refine jMet_of (ls0 := [some (.ref 1), some (.int a0), some (.int a1), some (.int a2), none]) (by decide) (Nat.le_of_ble_eq_true rfl) rfl (fun K X R0 _ => ?_)
  unfold f_X6_lay at h
  refine j_aload_n X 0 dX6_lay_0 rfl rfl ?_
  refine j_getR (t := 11) X fg_RX6_16 ln_1 ly_1 rfl dX6_lay_1 ?_
  refine j_iload_n X 1 dX6_lay_4 rfl rfl ?_
  refine j_iload_n X 2 dX6_lay_5 rfl rfl ?_
  refine j_iastore X ln_11 ly_11 dX6_lay_6 h (fun σ1 h => ?_)
  refine j_aload_n X 0 dX6_lay_7 rfl rfl ?_
  refine j_getR (t := 12) X fg_RX6_20 ln_1 ly_1 rfl dX6_lay_8 ?_
  refine j_iload_n X 1 dX6_lay_11 rfl rfl ?_
  refine j_iload_n X 3 dX6_lay_12 rfl rfl ?_
  refine j_iastore X ln_12 ly_12 dX6_lay_13 h (fun σ2 h => ?_)
  refine j_iconst (v := 0) X dX6_lay_14 (by decide) ?_
  refine j_istore (ls' := [some (.ref 1), some (.int a0), some (.int a1), some (.int a2), some (.int (0 : Int32))]) X dX6_lay_15 (Nat.le_of_ble_eq_true rfl) rfl ?_
  obtain ⟨q5, σ6, hL7, h⟩ := jbd_some h
  refine j_sub (ls' := [some (.ref 1), some (.int a0), none, some (.int a2), some (.int (0 : Int32))]) ⟨Or.inr rfl, Or.inr rfl, Or.inl rfl, Or.inr rfl, Or.inr rfl, trivial⟩ ?_
  refine X6_lay_L17_ok X  jFU (0 : Int32) σ2 _ hL7 ?_
  obtain rfl := Option.some.inj h
  exact j_vret X R0 dX6_lay_39
def f_X11_found (a0 : Int32) (σ : jMem) : Option (Int32 × jMem) :=
  jlet (jset σ 0 12 a0) (fun σ1 =>
  some ((((-1000010 : Int32) - a0), σ1)))
set_option maxRecDepth 100000 in
set_option maxHeartbeats 4000000 in
theorem c_X11_found {l : Launch} {D : va_G} {ad : Nat → Nat} {cid : Nat → ClassId} {a0 : Int32}  {σ : jMem} {r : Int32} {σ' : jMem} (h : f_X11_found a0 σ = some (r, σ')) : jMet l D ad cid yX11_found cX11_found 2 (some .int) 0 0 [.ref 0, .int a0] σ (some (.int r)) σ' := by
  refine jMet_of (ls0 := [some (.ref 0), some (.int a0)]) (by decide) (Nat.le_of_ble_eq_true rfl) rfl (fun K X R0 _ => ?_)
  unfold f_X11_found at h
  refine j_aload_n X 0 dX11_found_0 rfl rfl ?_
  refine j_iload_n X 1 dX11_found_1 rfl rfl ?_
  refine j_put X fp_RX11_346 ln_0 ly_0 rfl rfl rfl dX11_found_2 h (fun σ1 h => ?_)
  refine j_ldc_w (v := -1000010) X tw_323 dX11_found_5 ?_
  refine j_iload_n X 1 dX11_found_8 rfl rfl ?_
  refine j_isub X dX11_found_9 ?_
  obtain ⟨rfl, rfl⟩ := jin2 h
  exact j_iret X R0 dX11_found_10
def f_X11_isRow (a0 : Int32) (σ : jMem) : Option (Int32 × jMem) :=
  if a0 < 0 then
  some (((0 : Int32), σ))
else
  if (8 : Int32) ≤ a0 then
  some (((0 : Int32), σ))
else
  some (((1 : Int32), σ))
set_option maxRecDepth 100000 in
set_option maxHeartbeats 4000000 in
theorem c_X11_isRow {l : Launch} {D : va_G} {ad : Nat → Nat} {cid : Nat → ClassId} {a0 : Int32}  {σ : jMem} {r : Int32} {σ' : jMem} (h : f_X11_isRow a0 σ = some (r, σ')) : jMet l D ad cid yX11_isRow cX11_isRow 1 (some .boolean) 0 0 [.int a0] σ (some (.int r)) σ' := by
  refine jMet_of (ls0 := [some (.int a0)]) (by decide) (Nat.le_of_ble_eq_true rfl) rfl (fun K X R0 _ => ?_)
  unfold f_X11_isRow at h
  refine j_iload_n X 0 dX11_isRow_0 rfl rfl ?_
  refine j_if_lt (tgt := 14) X dX11_isRow_1 (by decide) h (fun h => ?_) (fun h => ?_)
  · refine j_iconst (v := 0) X dX11_isRow_14 (by decide) ?_
    obtain ⟨rfl, rfl⟩ := jin2 h
    exact j_zret X R0 rfl dX11_isRow_15
  · refine j_iload_n X 0 dX11_isRow_4 rfl rfl ?_
    refine j_bipush (v := 8) X dX11_isRow_5 (by decide) ?_
    refine j_icmp_ge (tgt := 14) X dX11_isRow_7 (by decide) h (fun h => ?_) (fun h => ?_)
    · refine j_iconst (v := 0) X dX11_isRow_14 (by decide) ?_
      obtain ⟨rfl, rfl⟩ := jin2 h
      exact j_zret X R0 rfl dX11_isRow_15
    · refine j_iconst (v := 1) X dX11_isRow_10 (by decide) ?_
      refine j_goto (tgt := 15) X dX11_isRow_11 (by decide) ?_
      obtain ⟨rfl, rfl⟩ := jin2 h
      exact j_zret X R0 rfl dX11_isRow_15
theorem ss_RX11_84 : jSiS RX11 84 yX11_isRow cX11_isRow 1 (some .boolean) 1 := ⟨tw_315, tw_316, tw_1, tw_317, by decide, by decide, by decide +kernel⟩
theorem sv_RX11_89 : jSiV RX11 89 yX11_found cX11_found 2 (some .int) 1 := ⟨tw_319, tw_321, ts_0, tw_1, tw_322, by decide, by decide, by decide +kernel⟩
theorem sv_RX11_93 : jSiV RX11 93 yX6_lay cX6_lay 5 none 3 := ⟨tw_324, tw_325, tw_326, tw_2, tw_327, by decide, by decide, by decide +kernel⟩
theorem sv_RX11_97 : jSiV RX11 97 yX11_unfound cX11_unfound 2 (some .int) 1 := ⟨tw_328, tw_330, ts_1, tw_1, tw_331, by decide, by decide, by decide +kernel⟩
def f_X11_row (a0 : Int32) (a1 : Int32) (a2 : Int32) (σ : jMem) : Option (Int32 × jMem) :=
  jbd (f_X11_isRow a0 σ) (fun v1 σ2 =>
  if v1 = 0 then
  some (((-1000001 : Int32), σ2))
else
  if a1 < 0 then
  some (((-1000001 : Int32), σ2))
else
  if (2 : Int32) < a1 then
  some (((-1000001 : Int32), σ2))
else
  if a2 ≤ (40 : Int32) then
  if 0 ≤ a2 then
  jbv (f_X6_lay a0 a1 a2 σ2) (fun σ4 =>
  jbd (f_X11_unfound a2 σ4) (fun v6 σ7 =>
  some ((v6, σ7))))
else
  jbd (f_X11_found (4 : Int32) σ2) (fun v9 σ10 =>
  some ((v9, σ10)))
else
  some (((-1000001 : Int32), σ2)))
set_option maxRecDepth 100000 in
set_option maxHeartbeats 4000000 in
theorem c_X11_row {l : Launch} {D : va_G} {ad : Nat → Nat} {cid : Nat → ClassId} {a0 : Int32} {a1 : Int32} {a2 : Int32}  {σ : jMem} {r : Int32} {σ' : jMem} (h : f_X11_row a0 a1 a2 σ = some (r, σ')) : jMet l D ad cid yX11_row cX11_row 4 (some .int) 1 24 [.ref 0, .int a0, .int a1, .int a2] σ (some (.int r)) σ' := by
  refine jMet_of (ls0 := [some (.ref 0), some (.int a0), some (.int a1), some (.int a2)]) (by decide) (Nat.le_of_ble_eq_true rfl) rfl (fun K X R0 _ => ?_)
  unfold f_X11_row at h
  refine j_iload_n X 1 dX11_row_0 rfl rfl ?_
  obtain ⟨v1, σ2, hm3, h⟩ := jbd_some h
  refine j_callS (as := [.int a0]) (st := []) (st1 := [.int v1]) X ss_RX11_84 ⟨by decide, by decide⟩ rfl rfl (Nat.le_of_ble_eq_true rfl) rfl dX11_row_1 jrv_i (c_X11_isRow  hm3) rfl ?_
  refine j_if_eq (tgt := 22) X dX11_row_4 (by decide) h (fun h => ?_) (fun h => ?_)
  · refine j_ldc (v := -1000001) X tw_318 dX11_row_22 ?_
    obtain ⟨rfl, rfl⟩ := jin2 h
    exact j_iret X R0 dX11_row_24
  · refine j_iload_n X 2 dX11_row_7 rfl rfl ?_
    refine j_if_lt (tgt := 22) X dX11_row_8 (by decide) h (fun h => ?_) (fun h => ?_)
    · refine j_ldc (v := -1000001) X tw_318 dX11_row_22 ?_
      obtain ⟨rfl, rfl⟩ := jin2 h
      exact j_iret X R0 dX11_row_24
    · refine j_iload_n X 2 dX11_row_11 rfl rfl ?_
      refine j_iconst (v := 2) X dX11_row_12 (by decide) ?_
      refine j_icmp_gt (tgt := 22) X dX11_row_13 (by decide) h (fun h => ?_) (fun h => ?_)
      · refine j_ldc (v := -1000001) X tw_318 dX11_row_22 ?_
        obtain ⟨rfl, rfl⟩ := jin2 h
        exact j_iret X R0 dX11_row_24
      · refine j_iload_n X 3 dX11_row_16 rfl rfl ?_
        refine j_bipush (v := 40) X dX11_row_17 (by decide) ?_
        refine j_icmp_le (tgt := 25) X dX11_row_19 (by decide) h (fun h => ?_) (fun h => ?_)
        · refine j_iload_n X 3 dX11_row_25 rfl rfl ?_
          refine j_if_ge (tgt := 35) X dX11_row_26 (by decide) h (fun h => ?_) (fun h => ?_)
          · refine j_aload_n X 0 dX11_row_35 rfl rfl ?_
            refine j_getR (t := 1) X fg_RX11_10 ln_0 ly_0 rfl dX11_row_36 ?_
            refine j_iload_n X 1 dX11_row_39 rfl rfl ?_
            refine j_iload_n X 2 dX11_row_40 rfl rfl ?_
            refine j_iload_n X 3 dX11_row_41 rfl rfl ?_
            obtain ⟨σ4, hm5, h⟩ := jbv_some h
            refine j_callV (as := [.int a0, .int a1, .int a2]) (st := []) (st1 := []) X ln_1 ly_1 rfl rfl sv_RX11_93 ⟨by decide, by decide⟩ rfl rfl (Nat.le_of_ble_eq_true rfl) rfl dX11_row_42 jrv_v (c_X6_lay  hm5) rfl ?_
            refine j_aload_n X 0 dX11_row_45 rfl rfl ?_
            refine j_iload_n X 3 dX11_row_46 rfl rfl ?_
            obtain ⟨v6, σ7, hm8, h⟩ := jbd_some h
            refine j_callV (as := [.int a2]) (st := []) (st1 := [.int v6]) X ln_0 ly_0 rfl rfl sv_RX11_97 ⟨by decide, by decide⟩ rfl rfl (Nat.le_of_ble_eq_true rfl) rfl dX11_row_47 jrv_i (c_X11_unfound  hm8) rfl ?_
            obtain ⟨rfl, rfl⟩ := jin2 h
            exact j_iret X R0 dX11_row_50
          · refine j_aload_n X 0 dX11_row_29 rfl rfl ?_
            refine j_iconst (v := 4) X dX11_row_30 (by decide) ?_
            obtain ⟨v9, σ10, hm11, h⟩ := jbd_some h
            refine j_callV (as := [.int (4 : Int32)]) (st := []) (st1 := [.int v9]) X ln_0 ly_0 rfl rfl sv_RX11_89 ⟨by decide, by decide⟩ rfl rfl (Nat.le_of_ble_eq_true rfl) rfl dX11_row_31 jrv_i (c_X11_found  hm11) rfl ?_
            obtain ⟨rfl, rfl⟩ := jin2 h
            exact j_iret X R0 dX11_row_34
        · refine j_ldc (v := -1000001) X tw_318 dX11_row_22 ?_
          obtain ⟨rfl, rfl⟩ := jin2 h
          exact j_iret X R0 dX11_row_24
def f_X6_put (a0 : Int32) (a1 : Int32) (a2 : Int32) (σ : jMem) : Option (Int32 × jMem) :=
  jld σ 11 8 a0 (fun v1 =>
  jj (fun (q3 : Int32) σ4 =>
  jldr 8 3 1 a0 (fun k5 =>
  jst σ4 k5 40 a1 q3 (fun σ6 =>
  some ((q3, σ6))))) (fun k2 =>
  if ¬ v1 = 0 then
  jld σ 11 8 a0 (fun v7 =>
  if ¬ v7 = (1 : Int32) then
  k2 a2 σ
else
  k2 ((a2).toInt16.toInt32) σ)
else
  k2 ((a2).toInt8.toInt32) σ))
set_option maxRecDepth 100000 in
set_option maxHeartbeats 4000000 in
theorem c_X6_put {l : Launch} {D : va_G} {ad : Nat → Nat} {cid : Nat → ClassId} {a0 : Int32} {a1 : Int32} {a2 : Int32}  {σ : jMem} {r : Int32} {σ' : jMem} (h : f_X6_put a0 a1 a2 σ = some (r, σ')) : jMet l D ad cid yX6_put cX6_put 5 (some .int) 0 0 [.ref 1, .int a0, .int a1, .int a2] σ (some (.int r)) σ' := by
  refine jMet_of (ls0 := [some (.ref 1), some (.int a0), some (.int a1), some (.int a2), none]) (by decide) (Nat.le_of_ble_eq_true rfl) rfl (fun K X R0 _ => ?_)
  unfold f_X6_put at h
  refine j_aload_n X 0 dX6_put_0 rfl rfl ?_
  refine j_getR (t := 11) X fg_RX6_16 ln_1 ly_1 rfl dX6_put_1 ?_
  refine j_iload_n X 1 dX6_put_4 rfl rfl ?_
  refine j_iaload X ln_11 ly_11 dX6_put_5 h (fun v1 h => ?_)
  refine j_join (pcJ := 30) (lsJ := fun q3 => [some (.ref 1), some (.int a0), some (.int a1), none, none]) (stJ := fun q3 => [.int q3]) h (fun q3 σ4 h => ?_) (fun k2 hk2 h => ?_)
  · refine j_istore (ls' := [some (.ref 1), some (.int a0), some (.int a1), none, some (.int q3)]) X dX6_put_30 (Nat.le_of_ble_eq_true rfl) rfl ?_
    refine j_aload_n X 0 dX6_put_32 rfl rfl ?_
    refine j_getR (t := 2) X fg_RX6_11 ln_1 ly_1 rfl dX6_put_33 ?_
    refine j_iload_n X 1 dX6_put_36 rfl rfl ?_
    refine j_aaload X ln_2 ly_2 (Or.inr (Or.inr rfl)) dX6_put_37 h (fun k5 qk5 h => ?_)
    have hk5 := jrow8 qk5
    refine j_iload_n X 2 dX6_put_38 rfl rfl ?_
    refine j_iload X dX6_put_39 rfl ?_
    refine j_iastore X hk5.1 hk5.2 dX6_put_41 h (fun σ6 h => ?_)
    refine j_iload X dX6_put_42 rfl ?_
    obtain ⟨rfl, rfl⟩ := jin2 h
    exact j_iret X R0 dX6_put_44
  · refine j_if_ne (tgt := 14) X dX6_put_6 (by decide) h (fun h => ?_) (fun h => ?_)
    · refine j_aload_n X 0 dX6_put_14 rfl rfl ?_
      refine j_getR (t := 11) X fg_RX6_16 ln_1 ly_1 rfl dX6_put_15 ?_
      refine j_iload_n X 1 dX6_put_18 rfl rfl ?_
      refine j_iaload X ln_11 ly_11 dX6_put_19 h (fun v7 h => ?_)
      refine j_iconst (v := 1) X dX6_put_20 (by decide) ?_
      refine j_icmp_ne (tgt := 29) X dX6_put_21 (by decide) h (fun h => ?_) (fun h => ?_)
      · refine j_iload_n X 3 dX6_put_29 rfl rfl ?_
        exact j_sub (ls' := [some (.ref 1), some (.int a0), some (.int a1), none, none]) ⟨Or.inr rfl, Or.inr rfl, Or.inr rfl, Or.inl rfl, Or.inl rfl, trivial⟩ (hk2 a2 σ h)
      · refine j_iload_n X 3 dX6_put_24 rfl rfl ?_
        refine j_i2s X dX6_put_25 ?_
        refine j_goto (tgt := 30) X dX6_put_26 (by decide) ?_
        exact j_sub (ls' := [some (.ref 1), some (.int a0), some (.int a1), none, none]) ⟨Or.inr rfl, Or.inr rfl, Or.inr rfl, Or.inl rfl, Or.inl rfl, trivial⟩ (hk2 ((a2).toInt16.toInt32) σ h)
    · refine j_iload_n X 3 dX6_put_9 rfl rfl ?_
      refine j_i2b X dX6_put_10 ?_
      refine j_goto (tgt := 30) X dX6_put_11 (by decide) ?_
      exact j_sub (ls' := [some (.ref 1), some (.int a0), some (.int a1), none, none]) ⟨Or.inr rfl, Or.inr rfl, Or.inr rfl, Or.inl rfl, Or.inl rfl, trivial⟩ (hk2 ((a2).toInt8.toInt32) σ h)
def f_X6_has (a0 : Int32) (a1 : Int32) (a2 : Int32) (σ : jMem) : Option (Int32 × jMem) :=
  if a1 < 0 then
  some (((0 : Int32), σ))
else
  if a2 < 0 then
  some (((0 : Int32), σ))
else
  jld σ 12 8 a0 (fun v1 =>
  if v1 < a1 then
  some (((0 : Int32), σ))
else
  jld σ 12 8 a0 (fun v2 =>
  if (v2 - a1) < a2 then
  some (((0 : Int32), σ))
else
  some (((1 : Int32), σ))))
set_option maxRecDepth 100000 in
set_option maxHeartbeats 4000000 in
theorem c_X6_has {l : Launch} {D : va_G} {ad : Nat → Nat} {cid : Nat → ClassId} {a0 : Int32} {a1 : Int32} {a2 : Int32}  {σ : jMem} {r : Int32} {σ' : jMem} (h : f_X6_has a0 a1 a2 σ = some (r, σ')) : jMet l D ad cid yX6_has cX6_has 4 (some .boolean) 0 0 [.ref 1, .int a0, .int a1, .int a2] σ (some (.int r)) σ' := by
  refine jMet_of (ls0 := [some (.ref 1), some (.int a0), some (.int a1), some (.int a2)]) (by decide) (Nat.le_of_ble_eq_true rfl) rfl (fun K X R0 _ => ?_)
  unfold f_X6_has at h
  refine j_iload_n X 2 dX6_has_0 rfl rfl ?_
  refine j_if_lt (tgt := 34) X dX6_has_1 (by decide) h (fun h => ?_) (fun h => ?_)
  · refine j_iconst (v := 0) X dX6_has_34 (by decide) ?_
    obtain ⟨rfl, rfl⟩ := jin2 h
    exact j_zret X R0 rfl dX6_has_35
  · refine j_iload_n X 3 dX6_has_4 rfl rfl ?_
    refine j_if_lt (tgt := 34) X dX6_has_5 (by decide) h (fun h => ?_) (fun h => ?_)
    · refine j_iconst (v := 0) X dX6_has_34 (by decide) ?_
      obtain ⟨rfl, rfl⟩ := jin2 h
      exact j_zret X R0 rfl dX6_has_35
    · refine j_iload_n X 2 dX6_has_8 rfl rfl ?_
      refine j_aload_n X 0 dX6_has_9 rfl rfl ?_
      refine j_getR (t := 12) X fg_RX6_20 ln_1 ly_1 rfl dX6_has_10 ?_
      refine j_iload_n X 1 dX6_has_13 rfl rfl ?_
      refine j_iaload X ln_12 ly_12 dX6_has_14 h (fun v1 h => ?_)
      refine j_icmp_gt (tgt := 34) X dX6_has_15 (by decide) h (fun h => ?_) (fun h => ?_)
      · refine j_iconst (v := 0) X dX6_has_34 (by decide) ?_
        obtain ⟨rfl, rfl⟩ := jin2 h
        exact j_zret X R0 rfl dX6_has_35
      · refine j_iload_n X 3 dX6_has_18 rfl rfl ?_
        refine j_aload_n X 0 dX6_has_19 rfl rfl ?_
        refine j_getR (t := 12) X fg_RX6_20 ln_1 ly_1 rfl dX6_has_20 ?_
        refine j_iload_n X 1 dX6_has_23 rfl rfl ?_
        refine j_iaload X ln_12 ly_12 dX6_has_24 h (fun v2 h => ?_)
        refine j_iload_n X 2 dX6_has_25 rfl rfl ?_
        refine j_isub X dX6_has_26 ?_
        refine j_icmp_gt (tgt := 34) X dX6_has_27 (by decide) h (fun h => ?_) (fun h => ?_)
        · refine j_iconst (v := 0) X dX6_has_34 (by decide) ?_
          obtain ⟨rfl, rfl⟩ := jin2 h
          exact j_zret X R0 rfl dX6_has_35
        · refine j_iconst (v := 1) X dX6_has_30 (by decide) ?_
          refine j_goto (tgt := 35) X dX6_has_31 (by decide) ?_
          obtain ⟨rfl, rfl⟩ := jin2 h
          exact j_zret X R0 rfl dX6_has_35
def f_X6_isMissing (a0 : Int32) (σ : jMem) : Option (Int32 × jMem) :=
  jld σ 12 8 a0 (fun v1 =>
  if ¬ v1 = (-1 : Int32) then
  some (((0 : Int32), σ))
else
  some (((1 : Int32), σ)))
set_option maxRecDepth 100000 in
set_option maxHeartbeats 4000000 in
theorem c_X6_isMissing {l : Launch} {D : va_G} {ad : Nat → Nat} {cid : Nat → ClassId} {a0 : Int32}  {σ : jMem} {r : Int32} {σ' : jMem} (h : f_X6_isMissing a0 σ = some (r, σ')) : jMet l D ad cid yX6_isMissing cX6_isMissing 2 (some .boolean) 0 0 [.ref 1, .int a0] σ (some (.int r)) σ' := by
  refine jMet_of (ls0 := [some (.ref 1), some (.int a0)]) (by decide) (Nat.le_of_ble_eq_true rfl) rfl (fun K X R0 _ => ?_)
  unfold f_X6_isMissing at h
  refine j_aload_n X 0 dX6_isMissing_0 rfl rfl ?_
  refine j_getR (t := 12) X fg_RX6_20 ln_1 ly_1 rfl dX6_isMissing_1 ?_
  refine j_iload_n X 1 dX6_isMissing_4 rfl rfl ?_
  refine j_iaload X ln_12 ly_12 dX6_isMissing_5 h (fun v1 h => ?_)
  refine j_iconst (v := -1) X dX6_isMissing_6 (by decide) ?_
  refine j_icmp_ne (tgt := 14) X dX6_isMissing_7 (by decide) h (fun h => ?_) (fun h => ?_)
  · refine j_iconst (v := 0) X dX6_isMissing_14 (by decide) ?_
    obtain ⟨rfl, rfl⟩ := jin2 h
    exact j_zret X R0 rfl dX6_isMissing_15
  · refine j_iconst (v := 1) X dX6_isMissing_10 (by decide) ?_
    refine j_goto (tgt := 15) X dX6_isMissing_11 (by decide) ?_
    obtain ⟨rfl, rfl⟩ := jin2 h
    exact j_zret X R0 rfl dX6_isMissing_15
theorem sv_RX6_23 : jSiV RX6 23 yX6_isMissing cX6_isMissing 2 (some .boolean) 1 := ⟨tw_340, tw_341, tw_342, tw_2, tw_343, by decide, by decide, by decide +kernel⟩
theorem sv_RX6_27 : jSiV RX6 27 yX6_has cX6_has 4 (some .boolean) 3 := ⟨tw_344, tw_345, tw_346, tw_2, tw_347, by decide, by decide, by decide +kernel⟩
def f_X6_amiss (a0 : Int32) (a1 : Int32) (a2 : Int32) (σ : jMem) : Option (Int32 × jMem) :=
  jbd (f_X6_isMissing a0 σ) (fun v1 σ2 =>
  if v1 = 0 then
  jbd (f_X6_has a0 a1 a2 σ2) (fun v4 σ5 =>
  if v4 = 0 then
  some (((2 : Int32), σ5))
else
  some (((0 : Int32), σ5)))
else
  some (((1 : Int32), σ2)))
set_option maxRecDepth 100000 in
set_option maxHeartbeats 4000000 in
theorem c_X6_amiss {l : Launch} {D : va_G} {ad : Nat → Nat} {cid : Nat → ClassId} {a0 : Int32} {a1 : Int32} {a2 : Int32}  {σ : jMem} {r : Int32} {σ' : jMem} (h : f_X6_amiss a0 a1 a2 σ = some (r, σ')) : jMet l D ad cid yX6_amiss cX6_amiss 4 (some .int) 1 23 [.ref 1, .int a0, .int a1, .int a2] σ (some (.int r)) σ' := by
  refine jMet_of (ls0 := [some (.ref 1), some (.int a0), some (.int a1), some (.int a2)]) (by decide) (Nat.le_of_ble_eq_true rfl) rfl (fun K X R0 _ => ?_)
  unfold f_X6_amiss at h
  refine j_aload_n X 0 dX6_amiss_0 rfl rfl ?_
  refine j_iload_n X 1 dX6_amiss_1 rfl rfl ?_
  obtain ⟨v1, σ2, hm3, h⟩ := jbd_some h
  refine j_callV (as := [.int a0]) (st := []) (st1 := [.int v1]) X ln_1 ly_1 rfl rfl sv_RX6_23 ⟨by decide, by decide⟩ rfl rfl (Nat.le_of_ble_eq_true rfl) rfl dX6_amiss_2 jrv_i (c_X6_isMissing  hm3) rfl ?_
  refine j_if_eq (tgt := 12) X dX6_amiss_5 (by decide) h (fun h => ?_) (fun h => ?_)
  · refine j_aload_n X 0 dX6_amiss_12 rfl rfl ?_
    refine j_iload_n X 1 dX6_amiss_13 rfl rfl ?_
    refine j_iload_n X 2 dX6_amiss_14 rfl rfl ?_
    refine j_iload_n X 3 dX6_amiss_15 rfl rfl ?_
    obtain ⟨v4, σ5, hm6, h⟩ := jbd_some h
    refine j_callV (as := [.int a0, .int a1, .int a2]) (st := []) (st1 := [.int v4]) X ln_1 ly_1 rfl rfl sv_RX6_27 ⟨by decide, by decide⟩ rfl rfl (Nat.le_of_ble_eq_true rfl) rfl dX6_amiss_16 jrv_i (c_X6_has  hm6) rfl ?_
    refine j_if_eq (tgt := 26) X dX6_amiss_19 (by decide) h (fun h => ?_) (fun h => ?_)
    · refine j_iconst (v := 2) X dX6_amiss_26 (by decide) ?_
      obtain ⟨rfl, rfl⟩ := jin2 h
      exact j_iret X R0 dX6_amiss_27
    · refine j_iconst (v := 0) X dX6_amiss_22 (by decide) ?_
      refine j_goto (tgt := 27) X dX6_amiss_23 (by decide) ?_
      obtain ⟨rfl, rfl⟩ := jin2 h
      exact j_iret X R0 dX6_amiss_27
  · refine j_iconst (v := 1) X dX6_amiss_8 (by decide) ?_
    refine j_goto (tgt := 27) X dX6_amiss_9 (by decide) ?_
    obtain ⟨rfl, rfl⟩ := jin2 h
    exact j_iret X R0 dX6_amiss_27
theorem sv_RX11_100 : jSiV RX11 100 yX6_amiss cX6_amiss 4 (some .int) 3 := ⟨tw_336, tw_337, tw_338, tw_2, tw_339, by decide, by decide, by decide +kernel⟩
theorem sv_RX11_104 : jSiV RX11 104 yX6_put cX6_put 5 (some .int) 3 := ⟨tw_348, tw_349, tw_350, tw_2, tw_351, by decide, by decide, by decide +kernel⟩
def f_X11_set (a0 : Int32) (a1 : Int32) (a2 : Int32) (σ : jMem) : Option (Int32 × jMem) :=
  jbd (f_X11_isRow a0 σ) (fun v1 σ2 =>
  if ¬ v1 = 0 then
  jbd (f_X6_amiss a0 a1 (1 : Int32) σ2) (fun v4 σ5 =>
  if v4 = 0 then
  jbd (f_X6_put a0 a1 a2 σ5) (fun v7 σ8 =>
  jbd (f_X11_unfound v7 σ8) (fun v10 σ11 =>
  some ((v10, σ11))))
else
  jbd (f_X11_found v4 σ5) (fun v13 σ14 =>
  some ((v13, σ14))))
else
  some (((-1000001 : Int32), σ2)))
set_option maxRecDepth 100000 in
set_option maxHeartbeats 4000000 in
theorem c_X11_set {l : Launch} {D : va_G} {ad : Nat → Nat} {cid : Nat → ClassId} {a0 : Int32} {a1 : Int32} {a2 : Int32}  {σ : jMem} {r : Int32} {σ' : jMem} (h : f_X11_set a0 a1 a2 σ = some (r, σ')) : jMet l D ad cid yX11_set cX11_set 5 (some .int) 2 46 [.ref 0, .int a0, .int a1, .int a2] σ (some (.int r)) σ' := by
  refine jMet_of (ls0 := [some (.ref 0), some (.int a0), some (.int a1), some (.int a2), none]) (by decide) (Nat.le_of_ble_eq_true rfl) rfl (fun K X R0 _ => ?_)
  unfold f_X11_set at h
  refine j_iload_n X 1 dX11_set_0 rfl rfl ?_
  obtain ⟨v1, σ2, hm3, h⟩ := jbd_some h
  refine j_callS (as := [.int a0]) (st := []) (st1 := [.int v1]) X ss_RX11_84 ⟨by decide, by decide⟩ rfl rfl (Nat.le_of_ble_eq_true rfl) rfl dX11_set_1 jrv_i (c_X11_isRow  hm3) rfl ?_
  refine j_if_ne (tgt := 10) X dX11_set_4 (by decide) h (fun h => ?_) (fun h => ?_)
  · refine j_aload_n X 0 dX11_set_10 rfl rfl ?_
    refine j_getR (t := 1) X fg_RX11_10 ln_0 ly_0 rfl dX11_set_11 ?_
    refine j_iload_n X 1 dX11_set_14 rfl rfl ?_
    refine j_iload_n X 2 dX11_set_15 rfl rfl ?_
    refine j_iconst (v := 1) X dX11_set_16 (by decide) ?_
    obtain ⟨v4, σ5, hm6, h⟩ := jbd_some h
    refine j_callV (as := [.int a0, .int a1, .int (1 : Int32)]) (st := []) (st1 := [.int v4]) X ln_1 ly_1 rfl rfl sv_RX11_100 ⟨by decide, by decide⟩ rfl rfl (Nat.le_of_ble_eq_true rfl) rfl dX11_set_17 jrv_i (c_X6_amiss  hm6) rfl ?_
    refine j_istore (ls' := [some (.ref 0), some (.int a0), some (.int a1), some (.int a2), some (.int v4)]) X dX11_set_20 (Nat.le_of_ble_eq_true rfl) rfl ?_
    refine j_iload X dX11_set_22 rfl ?_
    refine j_if_eq (tgt := 34) X dX11_set_24 (by decide) h (fun h => ?_) (fun h => ?_)
    · refine j_aload_n X 0 dX11_set_34 rfl rfl ?_
      refine j_aload_n X 0 dX11_set_35 rfl rfl ?_
      refine j_getR (t := 1) X fg_RX11_10 ln_0 ly_0 rfl dX11_set_36 ?_
      refine j_iload_n X 1 dX11_set_39 rfl rfl ?_
      refine j_iload_n X 2 dX11_set_40 rfl rfl ?_
      refine j_iload_n X 3 dX11_set_41 rfl rfl ?_
      obtain ⟨v7, σ8, hm9, h⟩ := jbd_some h
      refine j_callV (as := [.int a0, .int a1, .int a2]) (st := [.ref 0]) (st1 := [.int v7, .ref 0]) X ln_1 ly_1 rfl rfl sv_RX11_104 ⟨by decide, by decide⟩ rfl rfl (Nat.le_of_ble_eq_true rfl) rfl dX11_set_42 jrv_i (c_X6_put  hm9) rfl ?_
      obtain ⟨v10, σ11, hm12, h⟩ := jbd_some h
      refine j_callV (as := [.int v7]) (st := []) (st1 := [.int v10]) X ln_0 ly_0 rfl rfl sv_RX11_97 ⟨by decide, by decide⟩ rfl rfl (Nat.le_of_ble_eq_true rfl) rfl dX11_set_45 jrv_i (c_X11_unfound  hm12) rfl ?_
      obtain ⟨rfl, rfl⟩ := jin2 h
      exact j_iret X R0 dX11_set_48
    · refine j_aload_n X 0 dX11_set_27 rfl rfl ?_
      refine j_iload X dX11_set_28 rfl ?_
      obtain ⟨v13, σ14, hm15, h⟩ := jbd_some h
      refine j_callV (as := [.int v4]) (st := []) (st1 := [.int v13]) X ln_0 ly_0 rfl rfl sv_RX11_89 ⟨by decide, by decide⟩ rfl rfl (Nat.le_of_ble_eq_true rfl) rfl dX11_set_30 jrv_i (c_X11_found  hm15) rfl ?_
      obtain ⟨rfl, rfl⟩ := jin2 h
      exact j_iret X R0 dX11_set_33
  · refine j_ldc (v := -1000001) X tw_318 dX11_set_7 ?_
    obtain ⟨rfl, rfl⟩ := jin2 h
    exact j_iret X R0 dX11_set_9
