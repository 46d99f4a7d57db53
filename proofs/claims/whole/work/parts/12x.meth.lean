theorem sv_RX12_236 : jSiV RX12 236 yX12_isWitness cX12_isWitness 2 (some .boolean) 1 := ⟨tw_1122, tw_1124, ts_44, tw_13, tw_1125, by decide, by decide, by decide +kernel⟩
def f_X12_follow (a0 : Int32) (σ : jMem) : Option (Int32 × jMem) :=
  jlet (jset σ 89 0 (0 : Int32)) (fun σ1 =>
  jbd (f_X12_isWitness a0 σ1) (fun v2 σ3 =>
  if ¬ v2 = 0 then
  jbd (f_X12_lives 93 a0 σ3) (fun v5 σ6 =>
  if v5 = 0 then
  jbv (f_X12_keep  σ6) (fun σ8 =>
  jst σ8 93 67 (((43 : Int32) + ((4 : Int32) * a0)) + (1 : Int32)) (0 : Int32) (fun σ10 =>
  jst σ10 93 67 (((43 : Int32) + ((4 : Int32) * a0)) + (3 : Int32)) (0 : Int32) (fun σ11 =>
  jbd (f_X12_living 93 σ11) (fun v12 σ13 =>
  some ((v12, σ13))))))
else
  some (((-1000002 : Int32), σ6)))
else
  some (((-1000001 : Int32), σ3))))
set_option maxRecDepth 100000 in
set_option maxHeartbeats 4000000 in
theorem c_X12_follow {l : Launch} {D : va_G} {ad : Nat → Nat} {cid : Nat → ClassId} {a0 : Int32}  {σ : jMem} {r : Int32} {σ' : jMem} (h : f_X12_follow a0 σ = some (r, σ')) : jMet l D ad cid yX12_follow cX12_follow 2 (some .int) 3 65 [.ref 89, .int a0] σ (some (.int r)) σ' := by
  refine jMet_of (ls0 := [some (.ref 89), some (.int a0)]) (by decide) (Nat.le_of_ble_eq_true rfl) rfl (fun K X R0 _ => ?_)
  unfold f_X12_follow at h
  refine j_aload_n X 0 dX12_follow_0 rfl rfl ?_
  refine j_iconst (v := 0) X dX12_follow_1 (by decide) ?_
  refine j_put X fp_RX12_47 ln_89 ly_89 rfl rfl rfl dX12_follow_2 h (fun σ1 h => ?_)
  refine j_aload_n X 0 dX12_follow_5 rfl rfl ?_
  refine j_iload_n X 1 dX12_follow_6 rfl rfl ?_
  obtain ⟨v2, σ3, hm4, h⟩ := jbd_some h
  refine j_callV (as := [.int a0]) (st := []) (st1 := [.int v2]) X ln_89 ly_89 rfl rfl sv_RX12_236 ⟨by decide, by decide⟩ rfl rfl (Nat.le_of_ble_eq_true rfl) rfl dX12_follow_7 jrv_i (c_X12_isWitness  hm4) rfl ?_
  refine j_if_ne (tgt := 16) X dX12_follow_10 (by decide) h (fun h => ?_) (fun h => ?_)
  · refine j_aload_n X 0 dX12_follow_16 rfl rfl ?_
    refine j_getR (t := 93) X fg_RX12_19 ln_89 ly_89 rfl dX12_follow_17 ?_
    refine j_iload_n X 1 dX12_follow_20 rfl rfl ?_
    obtain ⟨v5, σ6, hm7, h⟩ := jbd_some h
    refine j_callS (as := [.ref 93, .int a0]) (st := []) (st1 := [.int v5]) X ss_RX12_191 ⟨by decide, by decide⟩ rfl rfl (Nat.le_of_ble_eq_true rfl) rfl dX12_follow_21 jrv_i (c_X12_lives ⟨ln_93, ly_93⟩ hm7) rfl ?_
    refine j_if_eq (tgt := 30) X dX12_follow_24 (by decide) h (fun h => ?_) (fun h => ?_)
    · refine j_aload_n X 0 dX12_follow_30 rfl rfl ?_
      obtain ⟨σ8, hm9, h⟩ := jbv_some h
      refine j_callV (as := []) (st := []) (st1 := []) X ln_89 ly_89 rfl rfl sv_RX12_214 ⟨by decide, by decide⟩ rfl rfl (Nat.le_of_ble_eq_true rfl) rfl dX12_follow_31 jrv_v (c_X12_keep  hm9) rfl ?_
      refine j_aload_n X 0 dX12_follow_34 rfl rfl ?_
      refine j_getR (t := 93) X fg_RX12_19 ln_89 ly_89 rfl dX12_follow_35 ?_
      refine j_bipush (v := 43) X dX12_follow_38 (by decide) ?_
      refine j_iconst (v := 4) X dX12_follow_40 (by decide) ?_
      refine j_iload_n X 1 dX12_follow_41 rfl rfl ?_
      refine j_imul X dX12_follow_42 ?_
      refine j_iadd X dX12_follow_43 ?_
      refine j_iconst (v := 1) X dX12_follow_44 (by decide) ?_
      refine j_iadd X dX12_follow_45 ?_
      refine j_iconst (v := 0) X dX12_follow_46 (by decide) ?_
      refine j_iastore X ln_93 ly_93 dX12_follow_47 h (fun σ10 h => ?_)
      refine j_aload_n X 0 dX12_follow_48 rfl rfl ?_
      refine j_getR (t := 93) X fg_RX12_19 ln_89 ly_89 rfl dX12_follow_49 ?_
      refine j_bipush (v := 43) X dX12_follow_52 (by decide) ?_
      refine j_iconst (v := 4) X dX12_follow_54 (by decide) ?_
      refine j_iload_n X 1 dX12_follow_55 rfl rfl ?_
      refine j_imul X dX12_follow_56 ?_
      refine j_iadd X dX12_follow_57 ?_
      refine j_iconst (v := 3) X dX12_follow_58 (by decide) ?_
      refine j_iadd X dX12_follow_59 ?_
      refine j_iconst (v := 0) X dX12_follow_60 (by decide) ?_
      refine j_iastore X ln_93 ly_93 dX12_follow_61 h (fun σ11 h => ?_)
      refine j_aload_n X 0 dX12_follow_62 rfl rfl ?_
      refine j_getR (t := 93) X fg_RX12_19 ln_89 ly_89 rfl dX12_follow_63 ?_
      obtain ⟨v12, σ13, hm14, h⟩ := jbd_some h
      refine j_callS (as := [.ref 93]) (st := []) (st1 := [.int v12]) X ss_RX12_230 ⟨by decide, by decide⟩ rfl rfl (Nat.le_of_ble_eq_true rfl) rfl dX12_follow_66 jrv_i (c_X12_living ⟨ln_93, ly_93⟩ hm14) rfl ?_
      obtain ⟨rfl, rfl⟩ := jin2 h
      exact j_iret X R0 dX12_follow_69
    · refine j_ldc (v := -1000002) X tw_1041 dX12_follow_27 ?_
      obtain ⟨rfl, rfl⟩ := jin2 h
      exact j_iret X R0 dX12_follow_29
  · refine j_ldc (v := -1000001) X tw_948 dX12_follow_13 ?_
    obtain ⟨rfl, rfl⟩ := jin2 h
    exact j_iret X R0 dX12_follow_15
def X12_undo_L27_b  (rec : Int32 → jMem → Option ((Unit) × jMem)) (x1 : Int32) (σ : jMem) : Option ((Unit) × jMem) :=
  if (67 : Int32) ≤ x1 then
  some ((), σ)
else
  jld σ 96 1608 (((67 : Int32) * (σ.1 89 9)) + x1) (fun v3 =>
  jst σ 93 67 x1 v3 (fun σ4 =>
  rec (x1 + 1) σ4))
def X12_undo_L27  : Nat → Int32 → jMem → Option ((Unit) × jMem) := jloop (fun rec s σ => X12_undo_L27_b  rec s σ)
set_option maxRecDepth 100000 in
set_option maxHeartbeats 4000000 in
theorem X12_undo_L27_bok {K : jK} (X : JX K cX12_undo 2 RX12 0 0)   {rec : Int32 → jMem → Option ((Unit) × jMem)} (ih : ∀ (s : Int32) (σ : jMem) (o : (Unit) × jMem), rec s σ = some o → (J K 59 [some (.ref 89), none] [] o.2) → J K 27 [some (.ref 89), some (.int s)] [] σ) : ∀ (x1 : Int32) (σ : jMem) (o : (Unit) × jMem), X12_undo_L27_b  rec x1 σ = some o → (J K 59 [some (.ref 89), none] [] o.2) → J K 27 [some (.ref 89), some (.int x1)] [] σ := by
  intro x1 σ o h kk
  unfold X12_undo_L27_b at h
  refine j_iload_n X 1 dX12_undo_27 rfl rfl ?_
  refine j_bipush (v := 67) X dX12_undo_28 (by decide) ?_
  refine j_icmp_ge (tgt := 59) X dX12_undo_30 (by decide) h (fun h => ?_) (fun h => ?_)
  · obtain rfl := Option.some.inj h
    exact j_sub (ls' := [some (.ref 89), none]) ⟨Or.inr rfl, Or.inl rfl, trivial⟩ kk
  · refine j_aload_n X 0 dX12_undo_33 rfl rfl ?_
    refine j_getR (t := 93) X fg_RX12_19 ln_89 ly_89 rfl dX12_undo_34 ?_
    refine j_iload_n X 1 dX12_undo_37 rfl rfl ?_
    refine j_aload_n X 0 dX12_undo_38 rfl rfl ?_
    refine j_getR (t := 96) X fg_RX12_28 ln_89 ly_89 rfl dX12_undo_39 ?_
    refine j_bipush (v := 67) X dX12_undo_42 (by decide) ?_
    refine j_aload_n X 0 dX12_undo_44 rfl rfl ?_
    refine j_getI X fg_RX12_150 ln_89 ly_89 rfl dX12_undo_45 ?_
    refine j_imul X dX12_undo_48 ?_
    refine j_iload_n X 1 dX12_undo_49 rfl rfl ?_
    refine j_iadd X dX12_undo_50 ?_
    refine j_iaload X ln_96 ly_96 dX12_undo_51 h (fun v3 h => ?_)
    refine j_iastore X ln_93 ly_93 dX12_undo_52 h (fun σ4 h => ?_)
    refine j_iinc (v := (x1 + 1)) (ls' := [some (.ref 89), some (.int (x1 + 1))]) X dX12_undo_53 rfl rfl (Nat.le_of_ble_eq_true rfl) rfl ?_
    refine j_goto (tgt := 27) X dX12_undo_56 (by decide) ?_
    exact ih (x1 + 1) σ4 _ h kk
theorem X12_undo_L27_ok {K : jK} (X : JX K cX12_undo 2 RX12 0 0)   : ∀ (n : Nat) (s : Int32) (σ : jMem) (o : (Unit) × jMem), X12_undo_L27  n s σ = some o → (J K 59 [some (.ref 89), none] [] o.2) → J K 27 [some (.ref 89), some (.int s)] [] σ := by
  intro n
  induction n with
  | zero => intro s σ o h; cases h
  | succ n ih => intro s σ o h; exact X12_undo_L27_bok X  ih (s) σ o h
def f_X12_undo  (σ : jMem) : Option (Int32 × jMem) :=
  jlet (jset σ 89 0 (0 : Int32)) (fun σ1 =>
  if ¬ (σ1.1 89 9) = 0 then
  jlet (jset σ1 89 9 ((σ1.1 89 9) - (1 : Int32))) (fun σ2 =>
  jbd (X12_undo_L27  jFU (0 : Int32) σ2) (fun q5 σ6 =>
  some (((σ6.1 89 9), σ6))))
else
  some (((-1000002 : Int32), σ1)))
set_option maxRecDepth 100000 in
set_option maxHeartbeats 4000000 in
theorem c_X12_undo {l : Launch} {D : va_G} {ad : Nat → Nat} {cid : Nat → ClassId}   {σ : jMem} {r : Int32} {σ' : jMem} (h : f_X12_undo  σ = some (r, σ')) : jMet l D ad cid yX12_undo cX12_undo 2 (some .int) 0 0 [.ref 89] σ (some (.int r)) σ' := by
  refine jMet_of (ls0 := [some (.ref 89), none]) (by decide) (Nat.le_of_ble_eq_true rfl) rfl (fun K X R0 _ => ?_)
  unfold f_X12_undo at h
  refine j_aload_n X 0 dX12_undo_0 rfl rfl ?_
  refine j_iconst (v := 0) X dX12_undo_1 (by decide) ?_
  refine j_put X fp_RX12_47 ln_89 ly_89 rfl rfl rfl dX12_undo_2 h (fun σ1 h => ?_)
  refine j_aload_n X 0 dX12_undo_5 rfl rfl ?_
  refine j_getI X fg_RX12_150 ln_89 ly_89 rfl dX12_undo_6 ?_
  refine j_if_ne (tgt := 15) X dX12_undo_9 (by decide) h (fun h => ?_) (fun h => ?_)
  · refine j_aload_n X 0 dX12_undo_15 rfl rfl ?_
    refine j_dup X dX12_undo_16 rfl ?_
    refine j_getI X fg_RX12_150 ln_89 ly_89 rfl dX12_undo_17 ?_
    refine j_iconst (v := 1) X dX12_undo_20 (by decide) ?_
    refine j_isub X dX12_undo_21 ?_
    refine j_put X fp_RX12_150 ln_89 ly_89 rfl rfl rfl dX12_undo_22 h (fun σ2 h => ?_)
    refine j_iconst (v := 0) X dX12_undo_25 (by decide) ?_
    refine j_istore_n (ls' := [some (.ref 89), some (.int (0 : Int32))]) X 1 dX12_undo_26 rfl (Nat.le_of_ble_eq_true rfl) rfl ?_
    obtain ⟨q5, σ6, hL7, h⟩ := jbd_some h
    refine X12_undo_L27_ok X  jFU (0 : Int32) σ2 _ hL7 ?_
    refine j_aload_n X 0 dX12_undo_59 rfl rfl ?_
    refine j_getI X fg_RX12_150 ln_89 ly_89 rfl dX12_undo_60 ?_
    obtain ⟨rfl, rfl⟩ := jin2 h
    exact j_iret X R0 dX12_undo_63
  · refine j_ldc (v := -1000002) X tw_1041 dX12_undo_12 ?_
    obtain ⟨rfl, rfl⟩ := jin2 h
    exact j_iret X R0 dX12_undo_14
