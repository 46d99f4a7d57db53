def X12_image_L30_b (p1 : Int32) (rec : Int32 → jMem → Option ((Unit) × jMem)) (x2 : Int32) (σ : jMem) : Option ((Unit) × jMem) :=
  if (67 : Int32) ≤ x2 then
  some ((), σ)
else
  jld σ 93 67 x2 (fun v8 =>
  jst σ 100 134 (((67 : Int32) * p1) + x2) v8 (fun σ9 =>
  rec (x2 + 1) σ9))
def X12_image_L30 (p1 : Int32) : Nat → Int32 → jMem → Option ((Unit) × jMem) := jloop (fun rec s σ => X12_image_L30_b p1 rec s σ)
set_option maxRecDepth 100000 in
set_option maxHeartbeats 4000000 in
theorem X12_image_L30_bok {K : jK} (X : JX K cX12_image 3 RX12 1 25) {p1 : Int32}  {rec : Int32 → jMem → Option ((Unit) × jMem)} (ih : ∀ (s : Int32) (σ : jMem) (o : (Unit) × jMem), rec s σ = some o → (J K 59 [some (.ref 89), some (.int p1), none] [] o.2) → J K 30 [some (.ref 89), some (.int p1), some (.int s)] [] σ) : ∀ (x2 : Int32) (σ : jMem) (o : (Unit) × jMem), X12_image_L30_b p1 rec x2 σ = some o → (J K 59 [some (.ref 89), some (.int p1), none] [] o.2) → J K 30 [some (.ref 89), some (.int p1), some (.int x2)] [] σ := by
  intro x2 σ o h kk
  unfold X12_image_L30_b at h
  refine j_iload_n X 2 dX12_image_30 rfl rfl ?_
  refine j_bipush (v := 67) X dX12_image_31 (by decide) ?_
  refine j_icmp_ge (tgt := 59) X dX12_image_33 (by decide) h (fun h => ?_) (fun h => ?_)
  · obtain rfl := Option.some.inj h
    exact j_sub (ls' := [some (.ref 89), some (.int p1), none]) ⟨Or.inr rfl, Or.inr rfl, Or.inl rfl, trivial⟩ kk
  · refine j_aload_n X 0 dX12_image_36 rfl rfl ?_
    refine j_getR (t := 100) X fg_RX12_41 ln_89 ly_89 rfl dX12_image_37 ?_
    refine j_bipush (v := 67) X dX12_image_40 (by decide) ?_
    refine j_iload_n X 1 dX12_image_42 rfl rfl ?_
    refine j_imul X dX12_image_43 ?_
    refine j_iload_n X 2 dX12_image_44 rfl rfl ?_
    refine j_iadd X dX12_image_45 ?_
    refine j_aload_n X 0 dX12_image_46 rfl rfl ?_
    refine j_getR (t := 93) X fg_RX12_19 ln_89 ly_89 rfl dX12_image_47 ?_
    refine j_iload_n X 2 dX12_image_50 rfl rfl ?_
    refine j_iaload X ln_93 ly_93 dX12_image_51 h (fun v8 h => ?_)
    refine j_iastore X ln_100 ly_100 dX12_image_52 h (fun σ9 h => ?_)
    refine j_iinc (v := (x2 + 1)) (ls' := [some (.ref 89), some (.int p1), some (.int (x2 + 1))]) X dX12_image_53 rfl rfl (Nat.le_of_ble_eq_true rfl) rfl ?_
    refine j_goto (tgt := 30) X dX12_image_56 (by decide) ?_
    exact ih (x2 + 1) σ9 _ h kk
theorem X12_image_L30_ok {K : jK} (X : JX K cX12_image 3 RX12 1 25) {p1 : Int32}  : ∀ (n : Nat) (s : Int32) (σ : jMem) (o : (Unit) × jMem), X12_image_L30 p1 n s σ = some o → (J K 59 [some (.ref 89), some (.int p1), none] [] o.2) → J K 30 [some (.ref 89), some (.int p1), some (.int s)] [] σ := by
  intro n
  induction n with
  | zero => intro s σ o h; cases h
  | succ n ih => intro s σ o h; exact X12_image_L30_bok X  ih (s) σ o h
def f_X12_image (a0 : Int32) (σ : jMem) : Option (Int32 × jMem) :=
  jlet (jset σ 89 0 (0 : Int32)) (fun σ1 =>
  jbd (f_X12_in ((a0).toInt64) (0 : Int64) (1 : Int64) σ1) (fun v2 σ3 =>
  if ¬ v2 = 0 then
  jbd (f_X12_isThere  σ3) (fun v5 σ6 =>
  if ¬ v5 = 0 then
  jbd (X12_image_L30 (a0) jFU (0 : Int32) σ6) (fun q10 σ11 =>
  jst σ11 99 2 a0 (1 : Int32) (fun σ12 =>
  some (((1 : Int32), σ12))))
else
  some (((-1000002 : Int32), σ6)))
else
  some (((-1000001 : Int32), σ3))))
set_option maxRecDepth 100000 in
set_option maxHeartbeats 4000000 in
theorem c_X12_image {l : Launch} {D : va_G} {ad : Nat → Nat} {cid : Nat → ClassId} {a0 : Int32}  {σ : jMem} {r : Int32} {σ' : jMem} (h : f_X12_image a0 σ = some (r, σ')) : jMet l D ad cid yX12_image cX12_image 3 (some .int) 1 25 [.ref 89, .int a0] σ (some (.int r)) σ' := by
  refine jMet_of (ls0 := [some (.ref 89), some (.int a0), none]) (by decide) (Nat.le_of_ble_eq_true rfl) rfl (fun K X R0 _ => ?_)
  unfold f_X12_image at h
  refine j_aload_n X 0 dX12_image_0 rfl rfl ?_
  refine j_iconst (v := 0) X dX12_image_1 (by decide) ?_
  refine j_put X fp_RX12_47 ln_89 ly_89 rfl rfl rfl dX12_image_2 h (fun σ1 h => ?_)
  refine j_iload_n X 1 dX12_image_5 rfl rfl ?_
  refine j_i2l X dX12_image_6 ?_
  refine j_lconst (v := 0) X dX12_image_7 (by decide) ?_
  refine j_lconst (v := 1) X dX12_image_8 (by decide) ?_
  obtain ⟨v2, σ3, hm4, h⟩ := jbd_some h
  refine j_callS (as := [.long ((a0).toInt64), .long (0 : Int64), .long (1 : Int64)]) (st := []) (st1 := [.int v2]) X ss_RX12_57 ⟨by decide, by decide⟩ rfl rfl (Nat.le_of_ble_eq_true rfl) rfl dX12_image_9 jrv_i (c_X12_in  hm4) rfl ?_
  refine j_if_ne (tgt := 18) X dX12_image_12 (by decide) h (fun h => ?_) (fun h => ?_)
  · refine j_aload_n X 0 dX12_image_18 rfl rfl ?_
    obtain ⟨v5, σ6, hm7, h⟩ := jbd_some h
    refine j_callV (as := []) (st := []) (st1 := [.int v5]) X ln_89 ly_89 rfl rfl sv_RX12_203 ⟨by decide, by decide⟩ rfl rfl (Nat.le_of_ble_eq_true rfl) rfl dX12_image_19 jrv_i (c_X12_isThere  hm7) rfl ?_
    refine j_if_ne (tgt := 28) X dX12_image_22 (by decide) h (fun h => ?_) (fun h => ?_)
    · refine j_iconst (v := 0) X dX12_image_28 (by decide) ?_
      refine j_istore_n (ls' := [some (.ref 89), some (.int a0), some (.int (0 : Int32))]) X 2 dX12_image_29 rfl (Nat.le_of_ble_eq_true rfl) rfl ?_
      obtain ⟨q10, σ11, hL13, h⟩ := jbd_some h
      refine X12_image_L30_ok X  jFU (0 : Int32) σ6 _ hL13 ?_
      refine j_aload_n X 0 dX12_image_59 rfl rfl ?_
      refine j_getR (t := 99) X fg_RX12_37 ln_89 ly_89 rfl dX12_image_60 ?_
      refine j_iload_n X 1 dX12_image_63 rfl rfl ?_
      refine j_iconst (v := 1) X dX12_image_64 (by decide) ?_
      refine j_bastore X ln_99 ly_99 rfl dX12_image_65 h (fun σ12 h => ?_)
      refine j_iconst (v := 1) X dX12_image_66 (by decide) ?_
      obtain ⟨rfl, rfl⟩ := jin2 h
      exact j_iret X R0 dX12_image_67
    · refine j_ldc (v := -1000002) X tw_1041 dX12_image_25 ?_
      obtain ⟨rfl, rfl⟩ := jin2 h
      exact j_iret X R0 dX12_image_27
  · refine j_ldc (v := -1000001) X tw_948 dX12_image_15 ?_
    obtain ⟨rfl, rfl⟩ := jin2 h
    exact j_iret X R0 dX12_image_17
def X12_restore_L32_b (p1 : Int32) (rec : Int32 → jMem → Option ((Unit) × jMem)) (x2 : Int32) (σ : jMem) : Option ((Unit) × jMem) :=
  if (67 : Int32) ≤ x2 then
  some ((), σ)
else
  jld σ 100 134 (((67 : Int32) * p1) + x2) (fun v6 =>
  jst σ 93 67 x2 v6 (fun σ7 =>
  rec (x2 + 1) σ7))
def X12_restore_L32 (p1 : Int32) : Nat → Int32 → jMem → Option ((Unit) × jMem) := jloop (fun rec s σ => X12_restore_L32_b p1 rec s σ)
set_option maxRecDepth 100000 in
set_option maxHeartbeats 4000000 in
theorem X12_restore_L32_bok {K : jK} (X : JX K cX12_restore 3 RX12 1 25) {p1 : Int32}  {rec : Int32 → jMem → Option ((Unit) × jMem)} (ih : ∀ (s : Int32) (σ : jMem) (o : (Unit) × jMem), rec s σ = some o → (J K 61 [some (.ref 89), none, none] [] o.2) → J K 32 [some (.ref 89), some (.int p1), some (.int s)] [] σ) : ∀ (x2 : Int32) (σ : jMem) (o : (Unit) × jMem), X12_restore_L32_b p1 rec x2 σ = some o → (J K 61 [some (.ref 89), none, none] [] o.2) → J K 32 [some (.ref 89), some (.int p1), some (.int x2)] [] σ := by
  intro x2 σ o h kk
  unfold X12_restore_L32_b at h
  refine j_iload_n X 2 dX12_restore_32 rfl rfl ?_
  refine j_bipush (v := 67) X dX12_restore_33 (by decide) ?_
  refine j_icmp_ge (tgt := 61) X dX12_restore_35 (by decide) h (fun h => ?_) (fun h => ?_)
  · obtain rfl := Option.some.inj h
    exact j_sub (ls' := [some (.ref 89), none, none]) ⟨Or.inr rfl, Or.inl rfl, Or.inl rfl, trivial⟩ kk
  · refine j_aload_n X 0 dX12_restore_38 rfl rfl ?_
    refine j_getR (t := 93) X fg_RX12_19 ln_89 ly_89 rfl dX12_restore_39 ?_
    refine j_iload_n X 2 dX12_restore_42 rfl rfl ?_
    refine j_aload_n X 0 dX12_restore_43 rfl rfl ?_
    refine j_getR (t := 100) X fg_RX12_41 ln_89 ly_89 rfl dX12_restore_44 ?_
    refine j_bipush (v := 67) X dX12_restore_47 (by decide) ?_
    refine j_iload_n X 1 dX12_restore_49 rfl rfl ?_
    refine j_imul X dX12_restore_50 ?_
    refine j_iload_n X 2 dX12_restore_51 rfl rfl ?_
    refine j_iadd X dX12_restore_52 ?_
    refine j_iaload X ln_100 ly_100 dX12_restore_53 h (fun v6 h => ?_)
    refine j_iastore X ln_93 ly_93 dX12_restore_54 h (fun σ7 h => ?_)
    refine j_iinc (v := (x2 + 1)) (ls' := [some (.ref 89), some (.int p1), some (.int (x2 + 1))]) X dX12_restore_55 rfl rfl (Nat.le_of_ble_eq_true rfl) rfl ?_
    refine j_goto (tgt := 32) X dX12_restore_58 (by decide) ?_
    exact ih (x2 + 1) σ7 _ h kk
theorem X12_restore_L32_ok {K : jK} (X : JX K cX12_restore 3 RX12 1 25) {p1 : Int32}  : ∀ (n : Nat) (s : Int32) (σ : jMem) (o : (Unit) × jMem), X12_restore_L32 p1 n s σ = some o → (J K 61 [some (.ref 89), none, none] [] o.2) → J K 32 [some (.ref 89), some (.int p1), some (.int s)] [] σ := by
  intro n
  induction n with
  | zero => intro s σ o h; cases h
  | succ n ih => intro s σ o h; exact X12_restore_L32_bok X  ih (s) σ o h
def f_X12_restore (a0 : Int32) (σ : jMem) : Option (Int32 × jMem) :=
  jlet (jset σ 89 0 (0 : Int32)) (fun σ1 =>
  jbd (f_X12_in ((a0).toInt64) (0 : Int64) (1 : Int64) σ1) (fun v2 σ3 =>
  if ¬ v2 = 0 then
  jld σ3 99 2 a0 (fun v5 =>
  if ¬ v5 = 0 then
  jbd (X12_restore_L32 (a0) jFU (0 : Int32) σ3) (fun q8 σ9 =>
  jlet (jset σ9 89 9 (0 : Int32)) (fun σ10 =>
  some (((1 : Int32), σ10))))
else
  some (((-1000002 : Int32), σ3)))
else
  some (((-1000001 : Int32), σ3))))
set_option maxRecDepth 100000 in
set_option maxHeartbeats 4000000 in
theorem c_X12_restore {l : Launch} {D : va_G} {ad : Nat → Nat} {cid : Nat → ClassId} {a0 : Int32}  {σ : jMem} {r : Int32} {σ' : jMem} (h : f_X12_restore a0 σ = some (r, σ')) : jMet l D ad cid yX12_restore cX12_restore 3 (some .int) 1 25 [.ref 89, .int a0] σ (some (.int r)) σ' := by
  refine jMet_of (ls0 := [some (.ref 89), some (.int a0), none]) (by decide) (Nat.le_of_ble_eq_true rfl) rfl (fun K X R0 _ => ?_)
  unfold f_X12_restore at h
  refine j_aload_n X 0 dX12_restore_0 rfl rfl ?_
  refine j_iconst (v := 0) X dX12_restore_1 (by decide) ?_
  refine j_put X fp_RX12_47 ln_89 ly_89 rfl rfl rfl dX12_restore_2 h (fun σ1 h => ?_)
  refine j_iload_n X 1 dX12_restore_5 rfl rfl ?_
  refine j_i2l X dX12_restore_6 ?_
  refine j_lconst (v := 0) X dX12_restore_7 (by decide) ?_
  refine j_lconst (v := 1) X dX12_restore_8 (by decide) ?_
  obtain ⟨v2, σ3, hm4, h⟩ := jbd_some h
  refine j_callS (as := [.long ((a0).toInt64), .long (0 : Int64), .long (1 : Int64)]) (st := []) (st1 := [.int v2]) X ss_RX12_57 ⟨by decide, by decide⟩ rfl rfl (Nat.le_of_ble_eq_true rfl) rfl dX12_restore_9 jrv_i (c_X12_in  hm4) rfl ?_
  refine j_if_ne (tgt := 18) X dX12_restore_12 (by decide) h (fun h => ?_) (fun h => ?_)
  · refine j_aload_n X 0 dX12_restore_18 rfl rfl ?_
    refine j_getR (t := 99) X fg_RX12_37 ln_89 ly_89 rfl dX12_restore_19 ?_
    refine j_iload_n X 1 dX12_restore_22 rfl rfl ?_
    refine j_baload X ln_99 ly_99 dX12_restore_23 h (fun v5 h => ?_)
    refine j_if_ne (tgt := 30) X dX12_restore_24 (by decide) h (fun h => ?_) (fun h => ?_)
    · refine j_iconst (v := 0) X dX12_restore_30 (by decide) ?_
      refine j_istore_n (ls' := [some (.ref 89), some (.int a0), some (.int (0 : Int32))]) X 2 dX12_restore_31 rfl (Nat.le_of_ble_eq_true rfl) rfl ?_
      obtain ⟨q8, σ9, hL11, h⟩ := jbd_some h
      refine X12_restore_L32_ok X  jFU (0 : Int32) σ3 _ hL11 ?_
      refine j_aload_n X 0 dX12_restore_61 rfl rfl ?_
      refine j_iconst (v := 0) X dX12_restore_62 (by decide) ?_
      refine j_put X fp_RX12_150 ln_89 ly_89 rfl rfl rfl dX12_restore_63 h (fun σ10 h => ?_)
      refine j_iconst (v := 1) X dX12_restore_66 (by decide) ?_
      obtain ⟨rfl, rfl⟩ := jin2 h
      exact j_iret X R0 dX12_restore_67
    · refine j_ldc (v := -1000002) X tw_1041 dX12_restore_27 ?_
      obtain ⟨rfl, rfl⟩ := jin2 h
      exact j_iret X R0 dX12_restore_29
  · refine j_ldc (v := -1000001) X tw_948 dX12_restore_15 ?_
    obtain ⟨rfl, rfl⟩ := jin2 h
    exact j_iret X R0 dX12_restore_17
