theorem sv_RX11_195 : jSiV RX11 195 yX5_pass cX5_pass 2 none 0 := ⟨tw_578, tw_579, tw_580, tw_10, tw_581, by decide, by decide, by decide +kernel⟩
theorem sv_RX11_198 : jSiV RX11 198 yX5_living cX5_living 3 (some .int) 0 := ⟨tw_596, tw_597, tw_598, tw_10, tw_599, by decide, by decide, by decide +kernel⟩
def X11_years_L47_b (p1 : Int32) (rec : Int32 → jMem → Option ((Unit) × jMem)) (x2 : Int32) (σ : jMem) : Option ((Unit) × jMem) :=
  if p1 ≤ x2 then
  some ((), σ)
else
  jbv (f_X11_keepAct  σ) (fun σ1 =>
  jbv (f_X5_pass 22 σ1) (fun σ3 =>
  rec (x2 + 1) σ3))
def X11_years_L47 (p1 : Int32) : Nat → Int32 → jMem → Option ((Unit) × jMem) := jloop (fun rec s σ => X11_years_L47_b p1 rec s σ)
set_option maxRecDepth 100000 in
set_option maxHeartbeats 4000000 in
theorem X11_years_L47_bok {K : jK} (X : JX K cX11_years 3 RX11 3 77) {p1 : Int32}  {rec : Int32 → jMem → Option ((Unit) × jMem)} (ih : ∀ (s : Int32) (σ : jMem) (o : (Unit) × jMem), rec s σ = some o → (J K 69 [some (.ref 0), none, none] [] o.2) → J K 47 [some (.ref 0), some (.int p1), some (.int s)] [] σ) : ∀ (x2 : Int32) (σ : jMem) (o : (Unit) × jMem), X11_years_L47_b p1 rec x2 σ = some o → (J K 69 [some (.ref 0), none, none] [] o.2) → J K 47 [some (.ref 0), some (.int p1), some (.int x2)] [] σ := by
  intro x2 σ o h kk
  unfold X11_years_L47_b at h
  refine j_iload_n X 2 dX11_years_47 rfl rfl ?_
  refine j_iload_n X 1 dX11_years_48 rfl rfl ?_
  refine j_icmp_ge (tgt := 69) X dX11_years_49 (by decide) h (fun h => ?_) (fun h => ?_)
  · obtain rfl := Option.some.inj h
    exact j_sub (ls' := [some (.ref 0), none, none]) ⟨Or.inr rfl, Or.inl rfl, Or.inl rfl, trivial⟩ kk
  · refine j_aload_n X 0 dX11_years_52 rfl rfl ?_
    obtain ⟨σ1, hm2, h⟩ := jbv_some h
    refine j_callV (as := []) (st := []) (st1 := []) X ln_0 ly_0 rfl rfl sv_RX11_181 ⟨by decide, by decide⟩ rfl rfl (Nat.le_of_ble_eq_true rfl) rfl dX11_years_53 jrv_v (c_X11_keepAct  hm2) rfl ?_
    refine j_aload_n X 0 dX11_years_56 rfl rfl ?_
    refine j_getR (t := 22) X fg_RX11_50 ln_0 ly_0 rfl dX11_years_57 ?_
    obtain ⟨σ3, hm4, h⟩ := jbv_some h
    refine j_callV (as := []) (st := []) (st1 := []) X ln_22 ly_22 rfl rfl sv_RX11_195 ⟨by decide, by decide⟩ rfl rfl (Nat.le_of_ble_eq_true rfl) rfl dX11_years_60 jrv_v (c_X5_pass jisP_22 hm4) rfl ?_
    refine j_iinc (v := (x2 + 1)) (ls' := [some (.ref 0), some (.int p1), some (.int (x2 + 1))]) X dX11_years_63 rfl rfl (Nat.le_of_ble_eq_true rfl) rfl ?_
    refine j_goto (tgt := 47) X dX11_years_66 (by decide) ?_
    exact ih (x2 + 1) σ3 _ h kk
theorem X11_years_L47_ok {K : jK} (X : JX K cX11_years 3 RX11 3 77) {p1 : Int32}  : ∀ (n : Nat) (s : Int32) (σ : jMem) (o : (Unit) × jMem), X11_years_L47 p1 n s σ = some o → (J K 69 [some (.ref 0), none, none] [] o.2) → J K 47 [some (.ref 0), some (.int p1), some (.int s)] [] σ := by
  intro n
  induction n with
  | zero => intro s σ o h; cases h
  | succ n ih => intro s σ o h; exact X11_years_L47_bok X  ih (s) σ o h
def f_X11_years (a0 : Int32) (σ : jMem) : Option (Int32 × jMem) :=
  if ¬ (σ.1 22 1) = 0 then
  if a0 < (1 : Int32) then
  some (((-1000001 : Int32), σ))
else
  if a0 ≤ (24 : Int32) then
  if ((σ.1 22 4) + a0) ≤ (999 : Int32) then
  jbd (X11_years_L47 (a0) jFU (0 : Int32) σ) (fun q5 σ6 =>
  jbd (f_X5_living 22 σ6) (fun v7 σ8 =>
  some ((v7, σ8))))
else
  some (((-1000003 : Int32), σ))
else
  some (((-1000001 : Int32), σ))
else
  some (((-1000002 : Int32), σ))
set_option maxRecDepth 100000 in
set_option maxHeartbeats 4000000 in
theorem c_X11_years {l : Launch} {D : va_G} {ad : Nat → Nat} {cid : Nat → ClassId} {a0 : Int32}  {σ : jMem} {r : Int32} {σ' : jMem} (h : f_X11_years a0 σ = some (r, σ')) : jMet l D ad cid yX11_years cX11_years 3 (some .int) 3 77 [.ref 0, .int a0] σ (some (.int r)) σ' := by
  refine jMet_of (ls0 := [some (.ref 0), some (.int a0), none]) (by decide) (Nat.le_of_ble_eq_true rfl) rfl (fun K X R0 _ => ?_)
  unfold f_X11_years at h
  refine j_aload_n X 0 dX11_years_0 rfl rfl ?_
  refine j_getR (t := 22) X fg_RX11_50 ln_0 ly_0 rfl dX11_years_1 ?_
  refine j_getI X fg_RX11_170 ln_22 ly_22 rfl dX11_years_4 ?_
  refine j_if_ne (tgt := 13) X dX11_years_7 (by decide) h (fun h => ?_) (fun h => ?_)
  · refine j_iload_n X 1 dX11_years_13 rfl rfl ?_
    refine j_iconst (v := 1) X dX11_years_14 (by decide) ?_
    refine j_icmp_lt (tgt := 24) X dX11_years_15 (by decide) h (fun h => ?_) (fun h => ?_)
    · refine j_ldc (v := -1000001) X tw_318 dX11_years_24 ?_
      obtain ⟨rfl, rfl⟩ := jin2 h
      exact j_iret X R0 dX11_years_26
    · refine j_iload_n X 1 dX11_years_18 rfl rfl ?_
      refine j_bipush (v := 24) X dX11_years_19 (by decide) ?_
      refine j_icmp_le (tgt := 27) X dX11_years_21 (by decide) h (fun h => ?_) (fun h => ?_)
      · refine j_aload_n X 0 dX11_years_27 rfl rfl ?_
        refine j_getR (t := 22) X fg_RX11_50 ln_0 ly_0 rfl dX11_years_28 ?_
        refine j_getI X fg_RX11_192 ln_22 ly_22 rfl dX11_years_31 ?_
        refine j_iload_n X 1 dX11_years_34 rfl rfl ?_
        refine j_iadd X dX11_years_35 ?_
        refine j_sipush (v := 999) X dX11_years_36 (by decide) ?_
        refine j_icmp_le (tgt := 45) X dX11_years_39 (by decide) h (fun h => ?_) (fun h => ?_)
        · refine j_iconst (v := 0) X dX11_years_45 (by decide) ?_
          refine j_istore_n (ls' := [some (.ref 0), some (.int a0), some (.int (0 : Int32))]) X 2 dX11_years_46 rfl (Nat.le_of_ble_eq_true rfl) rfl ?_
          obtain ⟨q5, σ6, hL10, h⟩ := jbd_some h
          refine X11_years_L47_ok X  jFU (0 : Int32) σ _ hL10 ?_
          refine j_aload_n X 0 dX11_years_69 rfl rfl ?_
          refine j_getR (t := 22) X fg_RX11_50 ln_0 ly_0 rfl dX11_years_70 ?_
          obtain ⟨v7, σ8, hm9, h⟩ := jbd_some h
          refine j_callV (as := []) (st := []) (st1 := [.int v7]) X ln_22 ly_22 rfl rfl sv_RX11_198 ⟨by decide, by decide⟩ rfl rfl (Nat.le_of_ble_eq_true rfl) rfl dX11_years_73 jrv_i (c_X5_living jisP_22 hm9) rfl ?_
          obtain ⟨rfl, rfl⟩ := jin2 h
          exact j_iret X R0 dX11_years_76
        · refine j_ldc (v := -1000003) X tw_369 dX11_years_42 ?_
          obtain ⟨rfl, rfl⟩ := jin2 h
          exact j_iret X R0 dX11_years_44
      · refine j_ldc (v := -1000001) X tw_318 dX11_years_24 ?_
        obtain ⟨rfl, rfl⟩ := jin2 h
        exact j_iret X R0 dX11_years_26
  · refine j_ldc (v := -1000002) X tw_458 dX11_years_10 ?_
    obtain ⟨rfl, rfl⟩ := jin2 h
    exact j_iret X R0 dX11_years_12
def f_X11_isOneOfTwo (a0 : Int32) (σ : jMem) : Option (Int32 × jMem) :=
  if a0 = 0 then
  some (((1 : Int32), σ))
else
  if ¬ a0 = (1 : Int32) then
  some (((0 : Int32), σ))
else
  some (((1 : Int32), σ))
set_option maxRecDepth 100000 in
set_option maxHeartbeats 4000000 in
theorem c_X11_isOneOfTwo {l : Launch} {D : va_G} {ad : Nat → Nat} {cid : Nat → ClassId} {a0 : Int32}  {σ : jMem} {r : Int32} {σ' : jMem} (h : f_X11_isOneOfTwo a0 σ = some (r, σ')) : jMet l D ad cid yX11_isOneOfTwo cX11_isOneOfTwo 1 (some .boolean) 0 0 [.int a0] σ (some (.int r)) σ' := by
  refine jMet_of (ls0 := [some (.int a0)]) (by decide) (Nat.le_of_ble_eq_true rfl) rfl (fun K X R0 _ => ?_)
  unfold f_X11_isOneOfTwo at h
  refine j_iload_n X 0 dX11_isOneOfTwo_0 rfl rfl ?_
  refine j_if_eq (tgt := 9) X dX11_isOneOfTwo_1 (by decide) h (fun h => ?_) (fun h => ?_)
  · refine j_iconst (v := 1) X dX11_isOneOfTwo_9 (by decide) ?_
    refine j_goto (tgt := 14) X dX11_isOneOfTwo_10 (by decide) ?_
    obtain ⟨rfl, rfl⟩ := jin2 h
    exact j_zret X R0 rfl dX11_isOneOfTwo_14
  · refine j_iload_n X 0 dX11_isOneOfTwo_4 rfl rfl ?_
    refine j_iconst (v := 1) X dX11_isOneOfTwo_5 (by decide) ?_
    refine j_icmp_ne (tgt := 13) X dX11_isOneOfTwo_6 (by decide) h (fun h => ?_) (fun h => ?_)
    · refine j_iconst (v := 0) X dX11_isOneOfTwo_13 (by decide) ?_
      obtain ⟨rfl, rfl⟩ := jin2 h
      exact j_zret X R0 rfl dX11_isOneOfTwo_14
    · refine j_iconst (v := 1) X dX11_isOneOfTwo_9 (by decide) ?_
      refine j_goto (tgt := 14) X dX11_isOneOfTwo_10 (by decide) ?_
      obtain ⟨rfl, rfl⟩ := jin2 h
      exact j_zret X R0 rfl dX11_isOneOfTwo_14
def f_X5_hasPath (k : Nat) (a0 : Int32) (σ : jMem) : Option (Int32 × jMem) :=
  if a0 < 0 then
  some (((0 : Int32), σ))
else
  if (σ.1 k 5) ≤ a0 then
  some (((0 : Int32), σ))
else
  some (((1 : Int32), σ))
set_option maxRecDepth 100000 in
set_option maxHeartbeats 4000000 in
theorem c_X5_hasPath {l : Launch} {D : va_G} {ad : Nat → Nat} {cid : Nat → ClassId} {k : Nat} {a0 : Int32} (hk : jisP k) {σ : jMem} {r : Int32} {σ' : jMem} (h : f_X5_hasPath k a0 σ = some (r, σ')) : jMet l D ad cid yX5_hasPath cX5_hasPath 2 (some .boolean) 0 0 [.ref k, .int a0] σ (some (.int r)) σ' := by
  refine jMet_of (ls0 := [some (.ref k), some (.int a0)]) (by decide) (Nat.le_of_ble_eq_true rfl) rfl (fun K X R0 _ => ?_)
  unfold f_X5_hasPath at h
  refine j_iload_n X 1 dX5_hasPath_0 rfl rfl ?_
  refine j_if_lt (tgt := 16) X dX5_hasPath_1 (by decide) h (fun h => ?_) (fun h => ?_)
  · refine j_iconst (v := 0) X dX5_hasPath_16 (by decide) ?_
    obtain ⟨rfl, rfl⟩ := jin2 h
    exact j_zret X R0 rfl dX5_hasPath_17
  · refine j_iload_n X 1 dX5_hasPath_4 rfl rfl ?_
    refine j_aload_n X 0 dX5_hasPath_5 rfl rfl ?_
    refine j_getI X fg_RX5_41 (jp_lt hk) (jp_ly hk) rfl dX5_hasPath_6 ?_
    refine j_icmp_ge (tgt := 16) X dX5_hasPath_9 (by decide) h (fun h => ?_) (fun h => ?_)
    · refine j_iconst (v := 0) X dX5_hasPath_16 (by decide) ?_
      obtain ⟨rfl, rfl⟩ := jin2 h
      exact j_zret X R0 rfl dX5_hasPath_17
    · refine j_iconst (v := 1) X dX5_hasPath_12 (by decide) ?_
      refine j_goto (tgt := 17) X dX5_hasPath_13 (by decide) ?_
      obtain ⟨rfl, rfl⟩ := jin2 h
      exact j_zret X R0 rfl dX5_hasPath_17
theorem ss_RX11_204 : jSiS RX11 204 yX11_isOneOfTwo cX11_isOneOfTwo 1 (some .boolean) 1 := ⟨tw_608, tw_609, tw_1, tw_610, by decide, by decide, by decide +kernel⟩
theorem ss_RX11_210 : jSiS RX11 210 yX11_bitOf cX11_bitOf 2 (some .int) 2 := ⟨tw_611, tw_491, tw_1, tw_492, by decide, by decide, by decide +kernel⟩
theorem sv_RX11_201 : jSiV RX11 201 yX5_hasPath cX5_hasPath 2 (some .boolean) 1 := ⟨tw_604, tw_605, tw_606, tw_10, tw_607, by decide, by decide, by decide +kernel⟩
def f_X11_lock (a0 : Int32) (a1 : Int32) (σ : jMem) : Option (Int32 × jMem) :=
  jbd (f_X5_hasPath 22 a0 σ) (fun v1 σ2 =>
  if v1 = 0 then
  some (((-1000001 : Int32), σ2))
else
  jbd (f_X11_isOneOfTwo a1 σ2) (fun v4 σ5 =>
  if ¬ v4 = 0 then
  jbd (f_X11_bitOf (σ5.1 22 7) a0 σ5) (fun v7 σ8 =>
  if ¬ v7 = a1 then
  jbv (f_X11_keepAct  σ8) (fun σ10 =>
  jlet (jset σ10 22 7 ((σ10.1 22 7) ^^^ ((1 : Int32) <<< (a0 &&& 31)))) (fun σ12 =>
  some (((σ12.1 22 7), σ12))))
else
  some (((-1000002 : Int32), σ8)))
else
  some (((-1000001 : Int32), σ5))))
set_option maxRecDepth 100000 in
set_option maxHeartbeats 4000000 in
theorem c_X11_lock {l : Launch} {D : va_G} {ad : Nat → Nat} {cid : Nat → ClassId} {a0 : Int32} {a1 : Int32}  {σ : jMem} {r : Int32} {σ' : jMem} (h : f_X11_lock a0 a1 σ = some (r, σ')) : jMet l D ad cid yX11_lock cX11_lock 3 (some .int) 3 77 [.ref 0, .int a0, .int a1] σ (some (.int r)) σ' := by
  refine jMet_of (ls0 := [some (.ref 0), some (.int a0), some (.int a1)]) (by decide) (Nat.le_of_ble_eq_true rfl) rfl (fun K X R0 _ => ?_)
  unfold f_X11_lock at h
  refine j_aload_n X 0 dX11_lock_0 rfl rfl ?_
  refine j_getR (t := 22) X fg_RX11_50 ln_0 ly_0 rfl dX11_lock_1 ?_
  refine j_iload_n X 1 dX11_lock_4 rfl rfl ?_
  obtain ⟨v1, σ2, hm3, h⟩ := jbd_some h
  refine j_callV (as := [.int a0]) (st := []) (st1 := [.int v1]) X ln_22 ly_22 rfl rfl sv_RX11_201 ⟨by decide, by decide⟩ rfl rfl (Nat.le_of_ble_eq_true rfl) rfl dX11_lock_5 jrv_i (c_X5_hasPath jisP_22 hm3) rfl ?_
  refine j_if_eq (tgt := 18) X dX11_lock_8 (by decide) h (fun h => ?_) (fun h => ?_)
  · refine j_ldc (v := -1000001) X tw_318 dX11_lock_18 ?_
    obtain ⟨rfl, rfl⟩ := jin2 h
    exact j_iret X R0 dX11_lock_20
  · refine j_iload_n X 2 dX11_lock_11 rfl rfl ?_
    obtain ⟨v4, σ5, hm6, h⟩ := jbd_some h
    refine j_callS (as := [.int a1]) (st := []) (st1 := [.int v4]) X ss_RX11_204 ⟨by decide, by decide⟩ rfl rfl (Nat.le_of_ble_eq_true rfl) rfl dX11_lock_12 jrv_i (c_X11_isOneOfTwo  hm6) rfl ?_
    refine j_if_ne (tgt := 21) X dX11_lock_15 (by decide) h (fun h => ?_) (fun h => ?_)
    · refine j_aload_n X 0 dX11_lock_21 rfl rfl ?_
      refine j_getR (t := 22) X fg_RX11_50 ln_0 ly_0 rfl dX11_lock_22 ?_
      refine j_getI X fg_RX11_207 ln_22 ly_22 rfl dX11_lock_25 ?_
      refine j_iload_n X 1 dX11_lock_28 rfl rfl ?_
      obtain ⟨v7, σ8, hm9, h⟩ := jbd_some h
      refine j_callS (as := [.int (σ5.1 22 7), .int a0]) (st := []) (st1 := [.int v7]) X ss_RX11_210 ⟨by decide, by decide⟩ rfl rfl (Nat.le_of_ble_eq_true rfl) rfl dX11_lock_29 jrv_i (c_X11_bitOf  hm9) rfl ?_
      refine j_iload_n X 2 dX11_lock_32 rfl rfl ?_
      refine j_icmp_ne (tgt := 39) X dX11_lock_33 (by decide) h (fun h => ?_) (fun h => ?_)
      · refine j_aload_n X 0 dX11_lock_39 rfl rfl ?_
        obtain ⟨σ10, hm11, h⟩ := jbv_some h
        refine j_callV (as := []) (st := []) (st1 := []) X ln_0 ly_0 rfl rfl sv_RX11_181 ⟨by decide, by decide⟩ rfl rfl (Nat.le_of_ble_eq_true rfl) rfl dX11_lock_40 jrv_v (c_X11_keepAct  hm11) rfl ?_
        refine j_aload_n X 0 dX11_lock_43 rfl rfl ?_
        refine j_getR (t := 22) X fg_RX11_50 ln_0 ly_0 rfl dX11_lock_44 ?_
        refine j_dup X dX11_lock_47 rfl ?_
        refine j_getI X fg_RX11_207 ln_22 ly_22 rfl dX11_lock_48 ?_
        refine j_iconst (v := 1) X dX11_lock_51 (by decide) ?_
        refine j_iload_n X 1 dX11_lock_52 rfl rfl ?_
        refine j_ishl X dX11_lock_53 ?_
        refine j_ixor X dX11_lock_54 ?_
        refine j_put X fp_RX11_207 ln_22 ly_22 rfl rfl rfl dX11_lock_55 h (fun σ12 h => ?_)
        refine j_aload_n X 0 dX11_lock_58 rfl rfl ?_
        refine j_getR (t := 22) X fg_RX11_50 ln_0 ly_0 rfl dX11_lock_59 ?_
        refine j_getI X fg_RX11_207 ln_22 ly_22 rfl dX11_lock_62 ?_
        obtain ⟨rfl, rfl⟩ := jin2 h
        exact j_iret X R0 dX11_lock_65
      · refine j_ldc (v := -1000002) X tw_458 dX11_lock_36 ?_
        obtain ⟨rfl, rfl⟩ := jin2 h
        exact j_iret X R0 dX11_lock_38
    · refine j_ldc (v := -1000001) X tw_318 dX11_lock_18 ?_
      obtain ⟨rfl, rfl⟩ := jin2 h
      exact j_iret X R0 dX11_lock_20
def f_X5_hasWitness (k : Nat) (a0 : Int32) (σ : jMem) : Option (Int32 × jMem) :=
  if a0 < 0 then
  some (((0 : Int32), σ))
else
  if (σ.1 k 6) ≤ a0 then
  some (((0 : Int32), σ))
else
  some (((1 : Int32), σ))
set_option maxRecDepth 100000 in
set_option maxHeartbeats 4000000 in
theorem c_X5_hasWitness {l : Launch} {D : va_G} {ad : Nat → Nat} {cid : Nat → ClassId} {k : Nat} {a0 : Int32} (hk : jisP k) {σ : jMem} {r : Int32} {σ' : jMem} (h : f_X5_hasWitness k a0 σ = some (r, σ')) : jMet l D ad cid yX5_hasWitness cX5_hasWitness 2 (some .boolean) 0 0 [.ref k, .int a0] σ (some (.int r)) σ' := by
  refine jMet_of (ls0 := [some (.ref k), some (.int a0)]) (by decide) (Nat.le_of_ble_eq_true rfl) rfl (fun K X R0 _ => ?_)
  unfold f_X5_hasWitness at h
  refine j_iload_n X 1 dX5_hasWitness_0 rfl rfl ?_
  refine j_if_lt (tgt := 16) X dX5_hasWitness_1 (by decide) h (fun h => ?_) (fun h => ?_)
  · refine j_iconst (v := 0) X dX5_hasWitness_16 (by decide) ?_
    obtain ⟨rfl, rfl⟩ := jin2 h
    exact j_zret X R0 rfl dX5_hasWitness_17
  · refine j_iload_n X 1 dX5_hasWitness_4 rfl rfl ?_
    refine j_aload_n X 0 dX5_hasWitness_5 rfl rfl ?_
    refine j_getI X fg_RX5_44 (jp_lt hk) (jp_ly hk) rfl dX5_hasWitness_6 ?_
    refine j_icmp_ge (tgt := 16) X dX5_hasWitness_9 (by decide) h (fun h => ?_) (fun h => ?_)
    · refine j_iconst (v := 0) X dX5_hasWitness_16 (by decide) ?_
      obtain ⟨rfl, rfl⟩ := jin2 h
      exact j_zret X R0 rfl dX5_hasWitness_17
    · refine j_iconst (v := 1) X dX5_hasWitness_12 (by decide) ?_
      refine j_goto (tgt := 17) X dX5_hasWitness_13 (by decide) ?_
      obtain ⟨rfl, rfl⟩ := jin2 h
      exact j_zret X R0 rfl dX5_hasWitness_17
theorem sv_RX11_214 : jSiV RX11 214 yX5_hasWitness cX5_hasWitness 2 (some .boolean) 1 := ⟨tw_616, tw_617, tw_618, tw_10, tw_619, by decide, by decide, by decide +kernel⟩
theorem sv_RX11_217 : jSiV RX11 217 yX5_isAlive cX5_isAlive 2 (some .boolean) 1 := ⟨tw_620, tw_522, tw_523, tw_10, tw_524, by decide, by decide, by decide +kernel⟩
def f_X11_follow (a0 : Int32) (σ : jMem) : Option (Int32 × jMem) :=
  jbd (f_X5_hasWitness 22 a0 σ) (fun v1 σ2 =>
  if ¬ v1 = 0 then
  jbd (f_X5_isAlive 22 a0 σ2) (fun v4 σ5 =>
  if v4 = 0 then
  jbv (f_X11_keepAct  σ5) (fun σ7 =>
  jst σ7 28 6 a0 (0 : Int32) (fun σ9 =>
  jst σ9 29 6 a0 (0 : Int32) (fun σ10 =>
  jbd (f_X5_living 22 σ10) (fun v11 σ12 =>
  some ((v11, σ12))))))
else
  some (((-1000002 : Int32), σ5)))
else
  some (((-1000001 : Int32), σ2)))
set_option maxRecDepth 100000 in
set_option maxHeartbeats 4000000 in
theorem c_X11_follow {l : Launch} {D : va_G} {ad : Nat → Nat} {cid : Nat → ClassId} {a0 : Int32}  {σ : jMem} {r : Int32} {σ' : jMem} (h : f_X11_follow a0 σ = some (r, σ')) : jMet l D ad cid yX11_follow cX11_follow 2 (some .int) 3 77 [.ref 0, .int a0] σ (some (.int r)) σ' := by
  refine jMet_of (ls0 := [some (.ref 0), some (.int a0)]) (by decide) (Nat.le_of_ble_eq_true rfl) rfl (fun K X R0 _ => ?_)
  unfold f_X11_follow at h
  refine j_aload_n X 0 dX11_follow_0 rfl rfl ?_
  refine j_getR (t := 22) X fg_RX11_50 ln_0 ly_0 rfl dX11_follow_1 ?_
  refine j_iload_n X 1 dX11_follow_4 rfl rfl ?_
  obtain ⟨v1, σ2, hm3, h⟩ := jbd_some h
  refine j_callV (as := [.int a0]) (st := []) (st1 := [.int v1]) X ln_22 ly_22 rfl rfl sv_RX11_214 ⟨by decide, by decide⟩ rfl rfl (Nat.le_of_ble_eq_true rfl) rfl dX11_follow_5 jrv_i (c_X5_hasWitness jisP_22 hm3) rfl ?_
  refine j_if_ne (tgt := 14) X dX11_follow_8 (by decide) h (fun h => ?_) (fun h => ?_)
  · refine j_aload_n X 0 dX11_follow_14 rfl rfl ?_
    refine j_getR (t := 22) X fg_RX11_50 ln_0 ly_0 rfl dX11_follow_15 ?_
    refine j_iload_n X 1 dX11_follow_18 rfl rfl ?_
    obtain ⟨v4, σ5, hm6, h⟩ := jbd_some h
    refine j_callV (as := [.int a0]) (st := []) (st1 := [.int v4]) X ln_22 ly_22 rfl rfl sv_RX11_217 ⟨by decide, by decide⟩ rfl rfl (Nat.le_of_ble_eq_true rfl) rfl dX11_follow_19 jrv_i (c_X5_isAlive jisP_22 hm6) rfl ?_
    refine j_if_eq (tgt := 28) X dX11_follow_22 (by decide) h (fun h => ?_) (fun h => ?_)
    · refine j_aload_n X 0 dX11_follow_28 rfl rfl ?_
      obtain ⟨σ7, hm8, h⟩ := jbv_some h
      refine j_callV (as := []) (st := []) (st1 := []) X ln_0 ly_0 rfl rfl sv_RX11_181 ⟨by decide, by decide⟩ rfl rfl (Nat.le_of_ble_eq_true rfl) rfl dX11_follow_29 jrv_v (c_X11_keepAct  hm8) rfl ?_
      refine j_aload_n X 0 dX11_follow_32 rfl rfl ?_
      refine j_getR (t := 22) X fg_RX11_50 ln_0 ly_0 rfl dX11_follow_33 ?_
      refine j_getR (t := 28) X fg_RX11_220 ln_22 ly_22 rfl dX11_follow_36 ?_
      refine j_iload_n X 1 dX11_follow_39 rfl rfl ?_
      refine j_iconst (v := 0) X dX11_follow_40 (by decide) ?_
      refine j_iastore X ln_28 ly_28 dX11_follow_41 h (fun σ9 h => ?_)
      refine j_aload_n X 0 dX11_follow_42 rfl rfl ?_
      refine j_getR (t := 22) X fg_RX11_50 ln_0 ly_0 rfl dX11_follow_43 ?_
      refine j_getR (t := 29) X fg_RX11_223 ln_22 ly_22 rfl dX11_follow_46 ?_
      refine j_iload_n X 1 dX11_follow_49 rfl rfl ?_
      refine j_iconst (v := 0) X dX11_follow_50 (by decide) ?_
      refine j_iastore X ln_29 ly_29 dX11_follow_51 h (fun σ10 h => ?_)
      refine j_aload_n X 0 dX11_follow_52 rfl rfl ?_
      refine j_getR (t := 22) X fg_RX11_50 ln_0 ly_0 rfl dX11_follow_53 ?_
      obtain ⟨v11, σ12, hm13, h⟩ := jbd_some h
      refine j_callV (as := []) (st := []) (st1 := [.int v11]) X ln_22 ly_22 rfl rfl sv_RX11_198 ⟨by decide, by decide⟩ rfl rfl (Nat.le_of_ble_eq_true rfl) rfl dX11_follow_56 jrv_i (c_X5_living jisP_22 hm13) rfl ?_
      obtain ⟨rfl, rfl⟩ := jin2 h
      exact j_iret X R0 dX11_follow_59
    · refine j_ldc (v := -1000002) X tw_458 dX11_follow_25 ?_
      obtain ⟨rfl, rfl⟩ := jin2 h
      exact j_iret X R0 dX11_follow_27
  · refine j_ldc (v := -1000001) X tw_318 dX11_follow_11 ?_
    obtain ⟨rfl, rfl⟩ := jin2 h
    exact j_iret X R0 dX11_follow_13
theorem sv_RX11_229 : jSiV RX11 229 yX5_swears cX5_swears 2 (some .int) 1 := ⟨tw_625, tw_571, tw_572, tw_10, tw_573, by decide, by decide, by decide +kernel⟩
def f_X11_witness (a0 : Int32) (a1 : Int32) (σ : jMem) : Option (Int32 × jMem) :=
  jbd (f_X5_hasWitness 22 a0 σ) (fun v1 σ2 =>
  if ¬ v1 = 0 then
  if a1 = 0 then
  jld σ2 28 6 a0 (fun v5 =>
  some ((v5, σ2)))
else
  if a1 = 1 then
  jld σ2 27 6 a0 (fun v7 =>
  some ((v7, σ2)))
else
  if a1 = 2 then
  jbd (f_X5_isAlive 22 a0 σ2) (fun v9 σ10 =>
  if v9 = 0 then
  some (((0 : Int32), σ10))
else
  some (((1 : Int32), σ10)))
else
  if a1 = 3 then
  jbd (f_X5_swears 22 a0 σ2) (fun v13 σ14 =>
  some ((v13, σ14)))
else
  some (((-1000001 : Int32), σ2))
else
  some (((-1000001 : Int32), σ2)))
set_option maxRecDepth 100000 in
set_option maxHeartbeats 4000000 in
theorem c_X11_witness {l : Launch} {D : va_G} {ad : Nat → Nat} {cid : Nat → ClassId} {a0 : Int32} {a1 : Int32}  {σ : jMem} {r : Int32} {σ' : jMem} (h : f_X11_witness a0 a1 σ = some (r, σ')) : jMet l D ad cid yX11_witness cX11_witness 3 (some .int) 3 63 [.ref 0, .int a0, .int a1] σ (some (.int r)) σ' := by
  refine jMet_of (ls0 := [some (.ref 0), some (.int a0), some (.int a1)]) (by decide) (Nat.le_of_ble_eq_true rfl) rfl (fun K X R0 _ => ?_)
  unfold f_X11_witness at h
  refine j_aload_n X 0 dX11_witness_0 rfl rfl ?_
  refine j_getR (t := 22) X fg_RX11_50 ln_0 ly_0 rfl dX11_witness_1 ?_
  refine j_iload_n X 1 dX11_witness_4 rfl rfl ?_
  obtain ⟨v1, σ2, hm3, h⟩ := jbd_some h
  refine j_callV (as := [.int a0]) (st := []) (st1 := [.int v1]) X ln_22 ly_22 rfl rfl sv_RX11_214 ⟨by decide, by decide⟩ rfl rfl (Nat.le_of_ble_eq_true rfl) rfl dX11_witness_5 jrv_i (c_X5_hasWitness jisP_22 hm3) rfl ?_
  refine j_if_ne (tgt := 14) X dX11_witness_8 (by decide) h (fun h => ?_) (fun h => ?_)
  · refine j_iload_n X 2 dX11_witness_14 rfl rfl ?_
    by_cases hs4 : a1 = 0
    · rw [if_pos hs4] at h
      refine j_tab (tgt := 44) X dX11_witness_15 0 hs4 (by decide) (by decide) rfl (by decide) ?_
      refine j_aload_n X 0 dX11_witness_44 rfl rfl ?_
      refine j_getR (t := 22) X fg_RX11_50 ln_0 ly_0 rfl dX11_witness_45 ?_
      refine j_getR (t := 28) X fg_RX11_220 ln_22 ly_22 rfl dX11_witness_48 ?_
      refine j_iload_n X 1 dX11_witness_51 rfl rfl ?_
      refine j_iaload X ln_28 ly_28 dX11_witness_52 h (fun v5 h => ?_)
      obtain ⟨rfl, rfl⟩ := jin2 h
      exact j_iret X R0 dX11_witness_53
    · rw [if_neg hs4] at h
      by_cases hs6 : a1 = 1
      · rw [if_pos hs6] at h
        refine j_tab (tgt := 54) X dX11_witness_15 1 hs6 (by decide) (by decide) rfl (by decide) ?_
        refine j_aload_n X 0 dX11_witness_54 rfl rfl ?_
        refine j_getR (t := 22) X fg_RX11_50 ln_0 ly_0 rfl dX11_witness_55 ?_
        refine j_getR (t := 27) X fg_RX11_226 ln_22 ly_22 rfl dX11_witness_58 ?_
        refine j_iload_n X 1 dX11_witness_61 rfl rfl ?_
        refine j_iaload X ln_27 ly_27 dX11_witness_62 h (fun v7 h => ?_)
        obtain ⟨rfl, rfl⟩ := jin2 h
        exact j_iret X R0 dX11_witness_63
      · rw [if_neg hs6] at h
        by_cases hs8 : a1 = 2
        · rw [if_pos hs8] at h
          refine j_tab (tgt := 64) X dX11_witness_15 2 hs8 (by decide) (by decide) rfl (by decide) ?_
          refine j_aload_n X 0 dX11_witness_64 rfl rfl ?_
          refine j_getR (t := 22) X fg_RX11_50 ln_0 ly_0 rfl dX11_witness_65 ?_
          refine j_iload_n X 1 dX11_witness_68 rfl rfl ?_
          obtain ⟨v9, σ10, hm11, h⟩ := jbd_some h
          refine j_callV (as := [.int a0]) (st := []) (st1 := [.int v9]) X ln_22 ly_22 rfl rfl sv_RX11_217 ⟨by decide, by decide⟩ rfl rfl (Nat.le_of_ble_eq_true rfl) rfl dX11_witness_69 jrv_i (c_X5_isAlive jisP_22 hm11) rfl ?_
          refine j_if_eq (tgt := 79) X dX11_witness_72 (by decide) h (fun h => ?_) (fun h => ?_)
          · refine j_iconst (v := 0) X dX11_witness_79 (by decide) ?_
            obtain ⟨rfl, rfl⟩ := jin2 h
            exact j_iret X R0 dX11_witness_80
          · refine j_iconst (v := 1) X dX11_witness_75 (by decide) ?_
            refine j_goto (tgt := 80) X dX11_witness_76 (by decide) ?_
            obtain ⟨rfl, rfl⟩ := jin2 h
            exact j_iret X R0 dX11_witness_80
        · rw [if_neg hs8] at h
          by_cases hs12 : a1 = 3
          · rw [if_pos hs12] at h
            refine j_tab (tgt := 81) X dX11_witness_15 3 hs12 (by decide) (by decide) rfl (by decide) ?_
            refine j_aload_n X 0 dX11_witness_81 rfl rfl ?_
            refine j_getR (t := 22) X fg_RX11_50 ln_0 ly_0 rfl dX11_witness_82 ?_
            refine j_iload_n X 1 dX11_witness_85 rfl rfl ?_
            obtain ⟨v13, σ14, hm15, h⟩ := jbd_some h
            refine j_callV (as := [.int a0]) (st := []) (st1 := [.int v13]) X ln_22 ly_22 rfl rfl sv_RX11_229 ⟨by decide, by decide⟩ rfl rfl (Nat.le_of_ble_eq_true rfl) rfl dX11_witness_86 jrv_i (c_X5_swears jisP_22 hm15) rfl ?_
            obtain ⟨rfl, rfl⟩ := jin2 h
            exact j_iret X R0 dX11_witness_89
          · rw [if_neg hs12] at h
            refine j_tabo (tgt := 90) X dX11_witness_15 (by have w0 := lv_neT (a := 0) hs4 (by decide); have w1 := lv_neT (a := 1) hs6 (by decide); have w2 := lv_neT (a := 2) hs8 (by decide); have w3 := lv_neT (a := 3) hs12 (by decide); omega) (by decide) ?_
            refine j_ldc (v := -1000001) X tw_318 dX11_witness_90 ?_
            obtain ⟨rfl, rfl⟩ := jin2 h
            exact j_iret X R0 dX11_witness_92
  · refine j_ldc (v := -1000001) X tw_318 dX11_witness_11 ?_
    obtain ⟨rfl, rfl⟩ := jin2 h
    exact j_iret X R0 dX11_witness_13
