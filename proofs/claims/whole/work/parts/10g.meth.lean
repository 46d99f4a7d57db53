theorem ss_RX9_96 : jSiS RX9 96 yX9_isFigure cX9_isFigure 1 (some .boolean) 1 := ⟨tw_390, tw_391, tw_3, tw_392, by decide, by decide, by decide +kernel⟩
def X9_takeNumber_L13_b  (rec : Unit → jMem → Option ((Unit) × jMem))  (σ : jMem) : Option ((Unit) × jMem) :=
  if (σ.1 13 1) ≤ (σ.1 13 7) then
  some ((), σ)
else
  jld σ 14 140 (σ.1 13 7) (fun v3 =>
  jbd (f_X9_isFigure v3 σ) (fun v4 σ5 =>
  if v4 = 0 then
  some ((), σ5)
else
  jj (fun (q8 : Int32) σ9 =>
  jlet (jset σ9 13 6 q8) (fun σ10 =>
  jlet (jset σ10 13 7 ((σ10.1 13 7) + (1 : Int32))) (fun σ11 =>
  rec () σ11))) (fun k7 =>
  if (2 : Int32) ≤ ((σ5.1 13 7) - (σ5.1 13 4)) then
  k7 (σ5.1 13 6) σ5
else
  jld σ5 14 140 (σ5.1 13 7) (fun v12 =>
  k7 ((((σ5.1 13 6) * (10 : Int32)) + v12) - (48 : Int32)) σ5))))
def X9_takeNumber_L13  : Nat → Unit → jMem → Option ((Unit) × jMem) := jloop (fun rec s σ => X9_takeNumber_L13_b  rec  σ)
set_option maxRecDepth 100000 in
set_option maxHeartbeats 4000000 in
theorem X9_takeNumber_L13_bok {K : jK} (X : JX K cX9_takeNumber 1 RX9 1 20)   {rec : Unit → jMem → Option ((Unit) × jMem)} (ih : ∀ (s : Unit) (σ : jMem) (o : (Unit) × jMem), rec s σ = some o → (J K 96 [some (.ref 13)] [] o.2) → J K 13 [some (.ref 13)] [] σ) : ∀  (σ : jMem) (o : (Unit) × jMem), X9_takeNumber_L13_b  rec  σ = some o → (J K 96 [some (.ref 13)] [] o.2) → J K 13 [some (.ref 13)] [] σ := by
  intro  σ o h kk
  unfold X9_takeNumber_L13_b at h
  refine j_aload_n X 0 dX9_takeNumber_13 rfl rfl ?_
  refine j_getI X fg_RX9_24 ln_13 ly_13 rfl dX9_takeNumber_14 ?_
  refine j_aload_n X 0 dX9_takeNumber_17 rfl rfl ?_
  refine j_getI X fg_RX9_15 ln_13 ly_13 rfl dX9_takeNumber_18 ?_
  refine j_icmp_ge (tgt := 96) X dX9_takeNumber_21 (by decide) h (fun h => ?_) (fun h => ?_)
  · obtain rfl := Option.some.inj h
    exact kk
  · refine j_aload_n X 0 dX9_takeNumber_24 rfl rfl ?_
    refine j_getR (t := 14) X fg_RX9_9 ln_13 ly_13 rfl dX9_takeNumber_25 ?_
    refine j_aload_n X 0 dX9_takeNumber_28 rfl rfl ?_
    refine j_getI X fg_RX9_24 ln_13 ly_13 rfl dX9_takeNumber_29 ?_
    refine j_iaload X ln_14 ly_14 dX9_takeNumber_32 h (fun v3 h => ?_)
    obtain ⟨v4, σ5, hm6, h⟩ := jbd_some h
    refine j_callS (as := [.int v3]) (st := []) (st1 := [.int v4]) X ss_RX9_96 ⟨by decide, by decide⟩ rfl rfl (Nat.le_of_ble_eq_true rfl) rfl dX9_takeNumber_33 jrv_i (c_X9_isFigure  hm6) rfl ?_
    refine j_if_eq (tgt := 96) X dX9_takeNumber_36 (by decide) h (fun h => ?_) (fun h => ?_)
    · obtain rfl := Option.some.inj h
      exact kk
    · refine j_aload_n X 0 dX9_takeNumber_39 rfl rfl ?_
      refine j_aload_n X 0 dX9_takeNumber_40 rfl rfl ?_
      refine j_getI X fg_RX9_24 ln_13 ly_13 rfl dX9_takeNumber_41 ?_
      refine j_aload_n X 0 dX9_takeNumber_44 rfl rfl ?_
      refine j_getI X fg_RX9_90 ln_13 ly_13 rfl dX9_takeNumber_45 ?_
      refine j_isub X dX9_takeNumber_48 ?_
      refine j_iconst (v := 2) X dX9_takeNumber_49 (by decide) ?_
      refine j_join (pcJ := 80) (lsJ := fun q8 => [some (.ref 13)]) (stJ := fun q8 => [.int q8, .ref 13]) h (fun q8 σ9 h => ?_) (fun k7 hk7 h => ?_)
      · refine j_put X fp_RX9_62 ln_13 ly_13 rfl rfl rfl dX9_takeNumber_80 h (fun σ10 h => ?_)
        refine j_aload_n X 0 dX9_takeNumber_83 rfl rfl ?_
        refine j_dup X dX9_takeNumber_84 rfl ?_
        refine j_getI X fg_RX9_24 ln_13 ly_13 rfl dX9_takeNumber_85 ?_
        refine j_iconst (v := 1) X dX9_takeNumber_88 (by decide) ?_
        refine j_iadd X dX9_takeNumber_89 ?_
        refine j_put X fp_RX9_24 ln_13 ly_13 rfl rfl rfl dX9_takeNumber_90 h (fun σ11 h => ?_)
        refine j_goto (tgt := 13) X dX9_takeNumber_93 (by decide) ?_
        exact ih () σ11 _ h kk
      · refine j_icmp_ge (tgt := 76) X dX9_takeNumber_50 (by decide) h (fun h => ?_) (fun h => ?_)
        · refine j_aload_n X 0 dX9_takeNumber_76 rfl rfl ?_
          refine j_getI X fg_RX9_62 ln_13 ly_13 rfl dX9_takeNumber_77 ?_
          exact hk7 (σ5.1 13 6) σ5 h
        · refine j_aload_n X 0 dX9_takeNumber_53 rfl rfl ?_
          refine j_getI X fg_RX9_62 ln_13 ly_13 rfl dX9_takeNumber_54 ?_
          refine j_bipush (v := 10) X dX9_takeNumber_57 (by decide) ?_
          refine j_imul X dX9_takeNumber_59 ?_
          refine j_aload_n X 0 dX9_takeNumber_60 rfl rfl ?_
          refine j_getR (t := 14) X fg_RX9_9 ln_13 ly_13 rfl dX9_takeNumber_61 ?_
          refine j_aload_n X 0 dX9_takeNumber_64 rfl rfl ?_
          refine j_getI X fg_RX9_24 ln_13 ly_13 rfl dX9_takeNumber_65 ?_
          refine j_iaload X ln_14 ly_14 dX9_takeNumber_68 h (fun v12 h => ?_)
          refine j_iadd X dX9_takeNumber_69 ?_
          refine j_bipush (v := 48) X dX9_takeNumber_70 (by decide) ?_
          refine j_isub X dX9_takeNumber_72 ?_
          refine j_goto (tgt := 80) X dX9_takeNumber_73 (by decide) ?_
          exact hk7 ((((σ5.1 13 6) * (10 : Int32)) + v12) - (48 : Int32)) σ5 h
theorem X9_takeNumber_L13_ok {K : jK} (X : JX K cX9_takeNumber 1 RX9 1 20)   : ∀ (n : Nat) (s : Unit) (σ : jMem) (o : (Unit) × jMem), X9_takeNumber_L13  n s σ = some o → (J K 96 [some (.ref 13)] [] o.2) → J K 13 [some (.ref 13)] [] σ := by
  intro n
  induction n with
  | zero => intro s σ o h; cases h
  | succ n ih => intro s σ o h; exact X9_takeNumber_L13_bok X  ih  σ o h
def f_X9_takeNumber  (σ : jMem) : Option jMem :=
  jlet (jset σ 13 6 (0 : Int32)) (fun σ1 =>
  jlet (jset σ1 13 7 (σ1.1 13 4)) (fun σ2 =>
  jbd (X9_takeNumber_L13  jFU () σ2) (fun q13 σ14 =>
  jj (fun (q16 : Int32) σ17 =>
  jlet (jset σ17 13 5 q16) (fun σ18 =>
  some σ18)) (fun k15 =>
  if ((σ14.1 13 7) - (σ14.1 13 4)) ≤ (2 : Int32) then
  k15 (1 : Int32) σ14
else
  k15 (-1 : Int32) σ14))))
set_option maxRecDepth 100000 in
set_option maxHeartbeats 4000000 in
theorem c_X9_takeNumber {l : Launch} {D : va_G} {ad : Nat → Nat} {cid : Nat → ClassId}   {σ : jMem} {σ' : jMem} (h : f_X9_takeNumber  σ = some σ') : jMet l D ad cid yX9_takeNumber cX9_takeNumber 1 none 1 20 [.ref 13] σ none σ' := by
  refine jMet_of (ls0 := [some (.ref 13)]) (by decide) (Nat.le_of_ble_eq_true rfl) rfl (fun K X R0 _ => ?_)
  unfold f_X9_takeNumber at h
  refine j_aload_n X 0 dX9_takeNumber_0 rfl rfl ?_
  refine j_iconst (v := 0) X dX9_takeNumber_1 (by decide) ?_
  refine j_put X fp_RX9_62 ln_13 ly_13 rfl rfl rfl dX9_takeNumber_2 h (fun σ1 h => ?_)
  refine j_aload_n X 0 dX9_takeNumber_5 rfl rfl ?_
  refine j_aload_n X 0 dX9_takeNumber_6 rfl rfl ?_
  refine j_getI X fg_RX9_90 ln_13 ly_13 rfl dX9_takeNumber_7 ?_
  refine j_put X fp_RX9_24 ln_13 ly_13 rfl rfl rfl dX9_takeNumber_10 h (fun σ2 h => ?_)
  obtain ⟨q13, σ14, hL19, h⟩ := jbd_some h
  refine X9_takeNumber_L13_ok X  jFU () σ2 _ hL19 ?_
  refine j_aload_n X 0 dX9_takeNumber_96 rfl rfl ?_
  refine j_aload_n X 0 dX9_takeNumber_97 rfl rfl ?_
  refine j_getI X fg_RX9_24 ln_13 ly_13 rfl dX9_takeNumber_98 ?_
  refine j_aload_n X 0 dX9_takeNumber_101 rfl rfl ?_
  refine j_getI X fg_RX9_90 ln_13 ly_13 rfl dX9_takeNumber_102 ?_
  refine j_isub X dX9_takeNumber_105 ?_
  refine j_iconst (v := 2) X dX9_takeNumber_106 (by decide) ?_
  refine j_join (pcJ := 115) (lsJ := fun q16 => [none]) (stJ := fun q16 => [.int q16, .ref 13]) h (fun q16 σ17 h => ?_) (fun k15 hk15 h => ?_)
  · refine j_put X fp_RX9_34 ln_13 ly_13 rfl rfl rfl dX9_takeNumber_115 h (fun σ18 h => ?_)
    obtain rfl := Option.some.inj h
    exact j_vret X R0 dX9_takeNumber_118
  · refine j_icmp_le (tgt := 114) X dX9_takeNumber_107 (by decide) h (fun h => ?_) (fun h => ?_)
    · refine j_iconst (v := 1) X dX9_takeNumber_114 (by decide) ?_
      exact j_sub (ls' := [none]) ⟨Or.inl rfl, trivial⟩ (hk15 (1 : Int32) σ14 h)
    · refine j_iconst (v := -1) X dX9_takeNumber_110 (by decide) ?_
      refine j_goto (tgt := 115) X dX9_takeNumber_111 (by decide) ?_
      exact j_sub (ls' := [none]) ⟨Or.inl rfl, trivial⟩ (hk15 (-1 : Int32) σ14 h)
theorem sv_RX9_99 : jSiV RX9 99 yX9_takeNumber cX9_takeNumber 1 none 0 := ⟨tw_393, tw_395, ts_3, tw_3, tw_396, by decide, by decide, by decide +kernel⟩
def f_X9_take  (σ : jMem) : Option jMem :=
  jlet (jset σ 13 4 (σ.1 13 7)) (fun σ1 =>
  if (σ1.1 13 4) < (σ1.1 13 1) then
  jld σ1 14 140 (σ1.1 13 4) (fun v2 =>
  jlet (jset σ1 13 7 ((σ1.1 13 4) + (1 : Int32))) (fun σ3 =>
  jbd (f_X9_isFigure v2 σ3) (fun v4 σ5 =>
  if v4 = 0 then
  jj (fun (q8 : Unit) σ9 =>
  jlet (jset σ9 13 5 v2) (fun σ10 =>
  some σ10)) (fun k7 =>
  jj (fun (q12 : Unit) σ13 =>
  if v2 = (44 : Int32) then
  k7 () σ13
else
  if ¬ v2 = (59 : Int32) then
  jlet (jset σ13 13 5 (-1 : Int32)) (fun σ14 =>
  some σ14)
else
  k7 () σ13) (fun k11 =>
  if v2 < (97 : Int32) then
  k11 () σ5
else
  if v2 ≤ (122 : Int32) then
  k7 () σ5
else
  k11 () σ5))
else
  jbv (f_X9_takeNumber  σ5) (fun σ15 =>
  some σ15))))
else
  jlet (jset σ1 13 5 (0 : Int32)) (fun σ17 =>
  some σ17))
set_option maxRecDepth 100000 in
set_option maxHeartbeats 4000000 in
theorem c_X9_take {l : Launch} {D : va_G} {ad : Nat → Nat} {cid : Nat → ClassId}   {σ : jMem} {σ' : jMem} (h : f_X9_take  σ = some σ') : jMet l D ad cid yX9_take cX9_take 2 none 2 40 [.ref 13] σ none σ' := by
  refine jMet_of (ls0 := [some (.ref 13), none]) (by decide) (Nat.le_of_ble_eq_true rfl) rfl (fun K X R0 _ => ?_)
  unfold f_X9_take at h
  refine j_aload_n X 0 dX9_take_0 rfl rfl ?_
  refine j_aload_n X 0 dX9_take_1 rfl rfl ?_
  refine j_getI X fg_RX9_24 ln_13 ly_13 rfl dX9_take_2 ?_
  refine j_put X fp_RX9_90 ln_13 ly_13 rfl rfl rfl dX9_take_5 h (fun σ1 h => ?_)
  refine j_aload_n X 0 dX9_take_8 rfl rfl ?_
  refine j_getI X fg_RX9_90 ln_13 ly_13 rfl dX9_take_9 ?_
  refine j_aload_n X 0 dX9_take_12 rfl rfl ?_
  refine j_getI X fg_RX9_15 ln_13 ly_13 rfl dX9_take_13 ?_
  refine j_icmp_lt (tgt := 25) X dX9_take_16 (by decide) h (fun h => ?_) (fun h => ?_)
  · refine j_aload_n X 0 dX9_take_25 rfl rfl ?_
    refine j_getR (t := 14) X fg_RX9_9 ln_13 ly_13 rfl dX9_take_26 ?_
    refine j_aload_n X 0 dX9_take_29 rfl rfl ?_
    refine j_getI X fg_RX9_90 ln_13 ly_13 rfl dX9_take_30 ?_
    refine j_iaload X ln_14 ly_14 dX9_take_33 h (fun v2 h => ?_)
    refine j_istore_n (ls' := [some (.ref 13), some (.int v2)]) X 1 dX9_take_34 rfl (Nat.le_of_ble_eq_true rfl) rfl ?_
    refine j_aload_n X 0 dX9_take_35 rfl rfl ?_
    refine j_aload_n X 0 dX9_take_36 rfl rfl ?_
    refine j_getI X fg_RX9_90 ln_13 ly_13 rfl dX9_take_37 ?_
    refine j_iconst (v := 1) X dX9_take_40 (by decide) ?_
    refine j_iadd X dX9_take_41 ?_
    refine j_put X fp_RX9_24 ln_13 ly_13 rfl rfl rfl dX9_take_42 h (fun σ3 h => ?_)
    refine j_iload_n X 1 dX9_take_45 rfl rfl ?_
    obtain ⟨v4, σ5, hm6, h⟩ := jbd_some h
    refine j_callS (as := [.int v2]) (st := []) (st1 := [.int v4]) X ss_RX9_96 ⟨by decide, by decide⟩ rfl rfl (Nat.le_of_ble_eq_true rfl) rfl dX9_take_46 jrv_i (c_X9_isFigure  hm6) rfl ?_
    refine j_if_eq (tgt := 59) X dX9_take_49 (by decide) h (fun h => ?_) (fun h => ?_)
    · refine j_iload_n X 1 dX9_take_59 rfl rfl ?_
      refine j_bipush (v := 97) X dX9_take_60 (by decide) ?_
      refine j_join (pcJ := 83) (lsJ := fun q8 => [some (.ref 13), some (.int v2)]) (stJ := fun q8 => []) h (fun q8 σ9 h => ?_) (fun k7 hk7 h => ?_)
      · refine j_aload_n X 0 dX9_take_83 rfl rfl ?_
        refine j_iload_n X 1 dX9_take_84 rfl rfl ?_
        refine j_put X fp_RX9_34 ln_13 ly_13 rfl rfl rfl dX9_take_85 h (fun σ10 h => ?_)
        refine j_goto (tgt := 96) X dX9_take_88 (by decide) ?_
        obtain rfl := Option.some.inj h
        exact j_vret X R0 dX9_take_96
      · refine j_join (pcJ := 71) (lsJ := fun q12 => [some (.ref 13), some (.int v2)]) (stJ := fun q12 => []) h (fun q12 σ13 h => ?_) (fun k11 hk11 h => ?_)
        · refine j_iload_n X 1 dX9_take_71 rfl rfl ?_
          refine j_bipush (v := 44) X dX9_take_72 (by decide) ?_
          refine j_icmp_eq (tgt := 83) X dX9_take_74 (by decide) h (fun h => ?_) (fun h => ?_)
          · exact hk7 () σ13 h
          · refine j_iload_n X 1 dX9_take_77 rfl rfl ?_
            refine j_bipush (v := 59) X dX9_take_78 (by decide) ?_
            refine j_icmp_ne (tgt := 91) X dX9_take_80 (by decide) h (fun h => ?_) (fun h => ?_)
            · refine j_aload_n X 0 dX9_take_91 rfl rfl ?_
              refine j_iconst (v := -1) X dX9_take_92 (by decide) ?_
              refine j_put X fp_RX9_34 ln_13 ly_13 rfl rfl rfl dX9_take_93 h (fun σ14 h => ?_)
              obtain rfl := Option.some.inj h
              exact j_vret X R0 dX9_take_96
            · exact hk7 () σ13 h
        · refine j_icmp_lt (tgt := 71) X dX9_take_62 (by decide) h (fun h => ?_) (fun h => ?_)
          · exact hk11 () σ5 h
          · refine j_iload_n X 1 dX9_take_65 rfl rfl ?_
            refine j_bipush (v := 122) X dX9_take_66 (by decide) ?_
            refine j_icmp_le (tgt := 83) X dX9_take_68 (by decide) h (fun h => ?_) (fun h => ?_)
            · exact hk7 () σ5 h
            · exact hk11 () σ5 h
    · refine j_aload_n X 0 dX9_take_52 rfl rfl ?_
      obtain ⟨σ15, hm16, h⟩ := jbv_some h
      refine j_callV (as := []) (st := []) (st1 := []) X ln_13 ly_13 rfl rfl sv_RX9_99 ⟨by decide, by decide⟩ rfl rfl (Nat.le_of_ble_eq_true rfl) rfl dX9_take_53 jrv_v (c_X9_takeNumber  hm16) rfl ?_
      refine j_goto (tgt := 96) X dX9_take_56 (by decide) ?_
      obtain rfl := Option.some.inj h
      exact j_vret X R0 dX9_take_96
  · refine j_aload_n X 0 dX9_take_19 rfl rfl ?_
    refine j_iconst (v := 0) X dX9_take_20 (by decide) ?_
    refine j_put X fp_RX9_34 ln_13 ly_13 rfl rfl rfl dX9_take_21 h (fun σ17 h => ?_)
    obtain rfl := Option.some.inj h
    exact j_vret X R0 dX9_take_24
