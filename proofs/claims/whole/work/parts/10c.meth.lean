theorem ss_RX9_96 : jSiS RX9 96 yX9_isFigure cX9_isFigure 1 (some .boolean) 1 := ⟨tw_390, tw_391, tw_3, tw_392, by decide, by decide, by decide +kernel⟩
def X9_takeNumber_L13_b  (rec : Unit → jMem → Option ((Unit) × jMem))  (σ : jMem) : Option ((Unit) × jMem) :=
  if (σ.1 13 1) ≤ (σ.1 13 7) then
  some ((), σ)
else
  jld σ 14 140 (σ.1 13 7) (fun v3 =>
  jbd (f_X9_isFigure v3 σ) (fun v4 σ5 =>
  if v4 = 0 then
  some ((), σ5)
else
  jj (fun (q8 : Int32) σ9 =>
  jlet (jset σ9 13 6 q8) (fun σ10 =>
  jlet (jset σ10 13 7 ((σ10.1 13 7) + (1 : Int32))) (fun σ11 =>
  rec () σ11))) (fun k7 =>
  if (2 : Int32) ≤ ((σ5.1 13 7) - (σ5.1 13 4)) then
  k7 (σ5.1 13 6) σ5
else
  jld σ5 14 140 (σ5.1 13 7) (fun v12 =>
  k7 ((((σ5.1 13 6) * (10 : Int32)) + v12) - (48 : Int32)) σ5))))
def X9_takeNumber_L13  : Nat → Unit → jMem → Option ((Unit) × jMem) := jloop (fun rec s σ => X9_takeNumber_L13_b  rec  σ)
set_option maxRecDepth 100000 in
set_option maxHeartbeats 4000000 in
theorem X9_takeNumber_L13_bok {K : jK} (X : JX K cX9_takeNumber 1 RX9 1 20)   {rec : Unit → jMem → Option ((Unit) × jMem)} (ih : ∀ (s : Unit) (σ : jMem) (o : (Unit) × jMem), rec s σ = some o → (J K 96 [some (.ref 13)] [] o.2) → J K 13 [some (.ref 13)] [] σ) : ∀  (σ : jMem) (o : (Unit) × jMem), X9_takeNumber_L13_b  rec  σ = some o → (J K 96 [some (.ref 13)] [] o.2) → J K 13 [some (.ref 13)] [] σ := by
  intro  σ o h kk
  unfold X9_takeNumber_L13_b at h
  refine j_aload_n X 0 dX9_takeNumber_13 rfl rfl ?_
  refine j_getI X fg_RX9_24 ln_13 ly_13 rfl dX9_takeNumber_14 ?_
  refine j_aload_n X 0 dX9_takeNumber_17 rfl rfl ?_
  refine j_getI X fg_RX9_15 ln_13 ly_13 rfl dX9_takeNumber_18 ?_
  refine j_icmp_ge (tgt := 96) X dX9_takeNumber_21 (by decide) h (fun h => ?_) (fun h => ?_)
  · obtain rfl := Option.some.inj h
    exact kk
  · refine j_aload_n X 0 dX9_takeNumber_24 rfl rfl ?_
    refine j_getR (t := 14) X fg_RX9_9 ln_13 ly_13 rfl dX9_takeNumber_25 ?_
    refine j_aload_n X 0 dX9_takeNumber_28 rfl rfl ?_
    refine j_getI X fg_RX9_24 ln_13 ly_13 rfl dX9_takeNumber_29 ?_
    refine j_iaload X ln_14 ly_14 dX9_takeNumber_32 h (fun v3 h => ?_)
    obtain ⟨v4, σ5, hm6, h⟩ := jbd_some h
    refine j_callS (as := [.int v3]) (st := []) (st1 := [.int v4]) X ss_RX9_96 ⟨by decide, by decide⟩ rfl rfl (Nat.le_of_ble_eq_true rfl) rfl dX9_takeNumber_33 jrv_i (c_X9_isFigure  hm6) rfl ?_
    refine j_if_eq (tgt := 96) X dX9_takeNumber_36 (by decide) h (fun h => ?_) (fun h => ?_)
    · obtain rfl := Option.some.inj h
      exact kk
    · refine j_aload_n X 0 dX9_takeNumber_39 rfl rfl ?_
      refine j_aload_n X 0 dX9_takeNumber_40 rfl rfl ?_
      refine j_getI X fg_RX9_24 ln_13 ly_13 rfl dX9_takeNumber_41 ?_
      refine j_aload_n X 0 dX9_takeNumber_44 rfl rfl ?_
      refine j_getI X fg_RX9_90 ln_13 ly_13 rfl dX9_takeNumber_45 ?_
      refine j_isub X dX9_takeNumber_48 ?_
      refine j_iconst (v := 2) X dX9_takeNumber_49 (by decide) ?_
      refine j_join (pcJ := 80) (lsJ := fun q8 => [some (.ref 13)]) (stJ := fun q8 => [.int q8, .ref 13]) h (fun q8 σ9 h => ?_) (fun k7 hk7 h => ?_)
      · refine j_put X fp_RX9_62 ln_13 ly_13 rfl rfl rfl dX9_takeNumber_80 h (fun σ10 h => ?_)
        refine j_aload_n X 0 dX9_takeNumber_83 rfl rfl ?_
        refine j_dup X dX9_takeNumber_84 rfl ?_
        refine j_getI X fg_RX9_24 ln_13 ly_13 rfl dX9_takeNumber_85 ?_
        refine j_iconst (v := 1) X dX9_takeNumber_88 (by decide) ?_
        refine j_iadd X dX9_takeNumber_89 ?_
        refine j_put X fp_RX9_24 ln_13 ly_13 rfl rfl rfl dX9_takeNumber_90 h (fun σ11 h => ?_)
        refine j_goto (tgt := 13) X dX9_takeNumber_93 (by decide) ?_
        exact ih () σ11 _ h kk
      · refine j_icmp_ge (tgt := 76) X dX9_takeNumber_50 (by decide) h (fun h => ?_) (fun h => ?_)
        · refine j_aload_n X 0 dX9_takeNumber_76 rfl rfl ?_
          refine j_getI X fg_RX9_62 ln_13 ly_13 rfl dX9_takeNumber_77 ?_
          exact hk7 (σ5.1 13 6) σ5 h
        · refine j_aload_n X 0 dX9_takeNumber_53 rfl rfl ?_
          refine j_getI X fg_RX9_62 ln_13 ly_13 rfl dX9_takeNumber_54 ?_
          refine j_bipush (v := 10) X dX9_takeNumber_57 (by decide) ?_
          refine j_imul X dX9_takeNumber_59 ?_
          refine j_aload_n X 0 dX9_takeNumber_60 rfl rfl ?_
          refine j_getR (t := 14) X fg_RX9_9 ln_13 ly_13 rfl dX9_takeNumber_61 ?_
          refine j_aload_n X 0 dX9_takeNumber_64 rfl rfl ?_
          refine j_getI X fg_RX9_24 ln_13 ly_13 rfl dX9_takeNumber_65 ?_
          refine j_iaload X ln_14 ly_14 dX9_takeNumber_68 h (fun v12 h => ?_)
          refine j_iadd X dX9_takeNumber_69 ?_
          refine j_bipush (v := 48) X dX9_takeNumber_70 (by decide) ?_
          refine j_isub X dX9_takeNumber_72 ?_
          refine j_goto (tgt := 80) X dX9_takeNumber_73 (by decide) ?_
          exact hk7 ((((σ5.1 13 6) * (10 : Int32)) + v12) - (48 : Int32)) σ5 h
theorem X9_takeNumber_L13_ok {K : jK} (X : JX K cX9_takeNumber 1 RX9 1 20)   : ∀ (n : Nat) (s : Unit) (σ : jMem) (o : (Unit) × jMem), X9_takeNumber_L13  n s σ = some o → (J K 96 [some (.ref 13)] [] o.2) → J K 13 [some (.ref 13)] [] σ := by
  intro n
  induction n with
  | zero => intro s σ o h; cases h
  | succ n ih => intro s σ o h; exact X9_takeNumber_L13_bok X  ih  σ o h
def f_X9_takeNumber  (σ : jMem) : Option jMem :=
  jlet (jset σ 13 6 (0 : Int32)) (fun σ1 =>
  jlet (jset σ1 13 7 (σ1.1 13 4)) (fun σ2 =>
  jbd (X9_takeNumber_L13  jFU () σ2) (fun q13 σ14 =>
  jj (fun (q16 : Int32) σ17 =>
  jlet (jset σ17 13 5 q16) (fun σ18 =>
  some σ18)) (fun k15 =>
  if ((σ14.1 13 7) - (σ14.1 13 4)) ≤ (2 : Int32) then
  k15 (1 : Int32) σ14
else
  k15 (-1 : Int32) σ14))))
set_option maxRecDepth 100000 in
set_option maxHeartbeats 4000000 in
theorem c_X9_takeNumber {l : Launch} {D : va_G} {ad : Nat → Nat} {cid : Nat → ClassId}   {σ : jMem} {σ' : jMem} (h : f_X9_takeNumber  σ = some σ') : jMet l D ad cid yX9_takeNumber cX9_takeNumber 1 none 1 20 [.ref 13] σ none σ' := by
  refine jMet_of (ls0 := [some (.ref 13)]) (by decide) (Nat.le_of_ble_eq_true rfl) rfl (fun K X R0 _ => ?_)
  unfold f_X9_takeNumber at h
  refine j_aload_n X 0 dX9_takeNumber_0 rfl rfl ?_
  refine j_iconst (v := 0) X dX9_takeNumber_1 (by decide) ?_
  refine j_put X fp_RX9_62 ln_13 ly_13 rfl rfl rfl dX9_takeNumber_2 h (fun σ1 h => ?_)
  refine j_aload_n X 0 dX9_takeNumber_5 rfl rfl ?_
  refine j_aload_n X 0 dX9_takeNumber_6 rfl rfl ?_
  refine j_getI X fg_RX9_90 ln_13 ly_13 rfl dX9_takeNumber_7 ?_
  refine j_put X fp_RX9_24 ln_13 ly_13 rfl rfl rfl dX9_takeNumber_10 h (fun σ2 h => ?_)
  obtain ⟨q13, σ14, hL19, h⟩ := jbd_some h
  refine X9_takeNumber_L13_ok X  jFU () σ2 _ hL19 ?_
  refine j_aload_n X 0 dX9_takeNumber_96 rfl rfl ?_
  refine j_aload_n X 0 dX9_takeNumber_97 rfl rfl ?_
  refine j_getI X fg_RX9_24 ln_13 ly_13 rfl dX9_takeNumber_98 ?_
  refine j_aload_n X 0 dX9_takeNumber_101 rfl rfl ?_
  refine j_getI X fg_RX9_90 ln_13 ly_13 rfl dX9_takeNumber_102 ?_
  refine j_isub X dX9_takeNumber_105 ?_
  refine j_iconst (v := 2) X dX9_takeNumber_106 (by decide) ?_
  refine j_join (pcJ := 115) (lsJ := fun q16 => [none]) (stJ := fun q16 => [.int q16, .ref 13]) h (fun q16 σ17 h => ?_) (fun k15 hk15 h => ?_)
  · refine j_put X fp_RX9_34 ln_13 ly_13 rfl rfl rfl dX9_takeNumber_115 h (fun σ18 h => ?_)
    obtain rfl := Option.some.inj h
    exact j_vret X R0 dX9_takeNumber_118
  · refine j_icmp_le (tgt := 114) X dX9_takeNumber_107 (by decide) h (fun h => ?_) (fun h => ?_)
    · refine j_iconst (v := 1) X dX9_takeNumber_114 (by decide) ?_
      exact j_sub (ls' := [none]) ⟨Or.inl rfl, trivial⟩ (hk15 (1 : Int32) σ14 h)
    · refine j_iconst (v := -1) X dX9_takeNumber_110 (by decide) ?_
      refine j_goto (tgt := 115) X dX9_takeNumber_111 (by decide) ?_
      exact j_sub (ls' := [none]) ⟨Or.inl rfl, trivial⟩ (hk15 (-1 : Int32) σ14 h)
theorem sv_RX9_99 : jSiV RX9 99 yX9_takeNumber cX9_takeNumber 1 none 0 := ⟨tw_393, tw_395, ts_3, tw_3, tw_396, by decide, by decide, by decide +kernel⟩
def f_X9_take  (σ : jMem) : Option jMem :=
  jlet (jset σ 13 4 (σ.1 13 7)) (fun σ1 =>
  if (σ1.1 13 4) < (σ1.1 13 1) then
  jld σ1 14 140 (σ1.1 13 4) (fun v2 =>
  jlet (jset σ1 13 7 ((σ1.1 13 4) + (1 : Int32))) (fun σ3 =>
  jbd (f_X9_isFigure v2 σ3) (fun v4 σ5 =>
  if v4 = 0 then
  jj (fun (q8 : Unit) σ9 =>
  jlet (jset σ9 13 5 v2) (fun σ10 =>
  some σ10)) (fun k7 =>
  jj (fun (q12 : Unit) σ13 =>
  if v2 = (44 : Int32) then
  k7 () σ13
else
  if ¬ v2 = (59 : Int32) then
  jlet (jset σ13 13 5 (-1 : Int32)) (fun σ14 =>
  some σ14)
else
  k7 () σ13) (fun k11 =>
  if v2 < (97 : Int32) then
  k11 () σ5
else
  if v2 ≤ (122 : Int32) then
  k7 () σ5
else
  k11 () σ5))
else
  jbv (f_X9_takeNumber  σ5) (fun σ15 =>
  some σ15))))
else
  jlet (jset σ1 13 5 (0 : Int32)) (fun σ17 =>
  some σ17))
set_option maxRecDepth 100000 in
set_option maxHeartbeats 4000000 in
theorem c_X9_take {l : Launch} {D : va_G} {ad : Nat → Nat} {cid : Nat → ClassId}   {σ : jMem} {σ' : jMem} (h : f_X9_take  σ = some σ') : jMet l D ad cid yX9_take cX9_take 2 none 2 40 [.ref 13] σ none σ' := by
  refine jMet_of (ls0 := [some (.ref 13), none]) (by decide) (Nat.le_of_ble_eq_true rfl) rfl (fun K X R0 _ => ?_)
  unfold f_X9_take at h
  refine j_aload_n X 0 dX9_take_0 rfl rfl ?_
  refine j_aload_n X 0 dX9_take_1 rfl rfl ?_
  refine j_getI X fg_RX9_24 ln_13 ly_13 rfl dX9_take_2 ?_
  refine j_put X fp_RX9_90 ln_13 ly_13 rfl rfl rfl dX9_take_5 h (fun σ1 h => ?_)
  refine j_aload_n X 0 dX9_take_8 rfl rfl ?_
  refine j_getI X fg_RX9_90 ln_13 ly_13 rfl dX9_take_9 ?_
  refine j_aload_n X 0 dX9_take_12 rfl rfl ?_
  refine j_getI X fg_RX9_15 ln_13 ly_13 rfl dX9_take_13 ?_
  refine j_icmp_lt (tgt := 25) X dX9_take_16 (by decide) h (fun h => ?_) (fun h => ?_)
  · refine j_aload_n X 0 dX9_take_25 rfl rfl ?_
    refine j_getR (t := 14) X fg_RX9_9 ln_13 ly_13 rfl dX9_take_26 ?_
    refine j_aload_n X 0 dX9_take_29 rfl rfl ?_
    refine j_getI X fg_RX9_90 ln_13 ly_13 rfl dX9_take_30 ?_
    refine j_iaload X ln_14 ly_14 dX9_take_33 h (fun v2 h => ?_)
    refine j_istore_n (ls' := [some (.ref 13), some (.int v2)]) X 1 dX9_take_34 rfl (Nat.le_of_ble_eq_true rfl) rfl ?_
    refine j_aload_n X 0 dX9_take_35 rfl rfl ?_
    refine j_aload_n X 0 dX9_take_36 rfl rfl ?_
    refine j_getI X fg_RX9_90 ln_13 ly_13 rfl dX9_take_37 ?_
    refine j_iconst (v := 1) X dX9_take_40 (by decide) ?_
    refine j_iadd X dX9_take_41 ?_
    refine j_put X fp_RX9_24 ln_13 ly_13 rfl rfl rfl dX9_take_42 h (fun σ3 h => ?_)
    refine j_iload_n X 1 dX9_take_45 rfl rfl ?_
    obtain ⟨v4, σ5, hm6, h⟩ := jbd_some h
    refine j_callS (as := [.int v2]) (st := []) (st1 := [.int v4]) X ss_RX9_96 ⟨by decide, by decide⟩ rfl rfl (Nat.le_of_ble_eq_true rfl) rfl dX9_take_46 jrv_i (c_X9_isFigure  hm6) rfl ?_
    refine j_if_eq (tgt := 59) X dX9_take_49 (by decide) h (fun h => ?_) (fun h => ?_)
    · refine j_iload_n X 1 dX9_take_59 rfl rfl ?_
      refine j_bipush (v := 97) X dX9_take_60 (by decide) ?_
      refine j_join (pcJ := 83) (lsJ := fun q8 => [some (.ref 13), some (.int v2)]) (stJ := fun q8 => []) h (fun q8 σ9 h => ?_) (fun k7 hk7 h => ?_)
      · refine j_aload_n X 0 dX9_take_83 rfl rfl ?_
        refine j_iload_n X 1 dX9_take_84 rfl rfl ?_
        refine j_put X fp_RX9_34 ln_13 ly_13 rfl rfl rfl dX9_take_85 h (fun σ10 h => ?_)
        refine j_goto (tgt := 96) X dX9_take_88 (by decide) ?_
        obtain rfl := Option.some.inj h
        exact j_vret X R0 dX9_take_96
      · refine j_join (pcJ := 71) (lsJ := fun q12 => [some (.ref 13), some (.int v2)]) (stJ := fun q12 => []) h (fun q12 σ13 h => ?_) (fun k11 hk11 h => ?_)
        · refine j_iload_n X 1 dX9_take_71 rfl rfl ?_
          refine j_bipush (v := 44) X dX9_take_72 (by decide) ?_
          refine j_icmp_eq (tgt := 83) X dX9_take_74 (by decide) h (fun h => ?_) (fun h => ?_)
          · exact hk7 () σ13 h
          · refine j_iload_n X 1 dX9_take_77 rfl rfl ?_
            refine j_bipush (v := 59) X dX9_take_78 (by decide) ?_
            refine j_icmp_ne (tgt := 91) X dX9_take_80 (by decide) h (fun h => ?_) (fun h => ?_)
            · refine j_aload_n X 0 dX9_take_91 rfl rfl ?_
              refine j_iconst (v := -1) X dX9_take_92 (by decide) ?_
              refine j_put X fp_RX9_34 ln_13 ly_13 rfl rfl rfl dX9_take_93 h (fun σ14 h => ?_)
              obtain rfl := Option.some.inj h
              exact j_vret X R0 dX9_take_96
            · exact hk7 () σ13 h
        · refine j_icmp_lt (tgt := 71) X dX9_take_62 (by decide) h (fun h => ?_) (fun h => ?_)
          · exact hk11 () σ5 h
          · refine j_iload_n X 1 dX9_take_65 rfl rfl ?_
            refine j_bipush (v := 122) X dX9_take_66 (by decide) ?_
            refine j_icmp_le (tgt := 83) X dX9_take_68 (by decide) h (fun h => ?_) (fun h => ?_)
            · exact hk7 () σ5 h
            · exact hk11 () σ5 h
    · refine j_aload_n X 0 dX9_take_52 rfl rfl ?_
      obtain ⟨σ15, hm16, h⟩ := jbv_some h
      refine j_callV (as := []) (st := []) (st1 := []) X ln_13 ly_13 rfl rfl sv_RX9_99 ⟨by decide, by decide⟩ rfl rfl (Nat.le_of_ble_eq_true rfl) rfl dX9_take_53 jrv_v (c_X9_takeNumber  hm16) rfl ?_
      refine j_goto (tgt := 96) X dX9_take_56 (by decide) ?_
      obtain rfl := Option.some.inj h
      exact j_vret X R0 dX9_take_96
  · refine j_aload_n X 0 dX9_take_19 rfl rfl ?_
    refine j_iconst (v := 0) X dX9_take_20 (by decide) ?_
    refine j_put X fp_RX9_34 ln_13 ly_13 rfl rfl rfl dX9_take_21 h (fun σ17 h => ?_)
    obtain rfl := Option.some.inj h
    exact j_vret X R0 dX9_take_24
theorem sv_RX9_27 : jSiV RX9 27 yX9_take cX9_take 2 none 0 := ⟨tw_386, tw_388, ts_2, tw_3, tw_389, by decide, by decide, by decide +kernel⟩
theorem sv_RX9_47 : jSiV RX9 47 yX9_fails cX9_fails 2 (some .boolean) 1 := ⟨tw_405, tw_407, ts_6, tw_3, tw_408, by decide, by decide, by decide +kernel⟩
def f_X9_takes (a0 : Int32) (σ : jMem) : Option (Int32 × jMem) :=
  if (σ.1 13 5) = a0 then
  jbv (f_X9_take  σ) (fun σ1 =>
  some (((1 : Int32), σ1)))
else
  jbd (f_X9_fails (1 : Int32) σ) (fun v3 σ4 =>
  jck (jisb v3 = true) (some ((v3, σ4))))
set_option maxRecDepth 100000 in
set_option maxHeartbeats 4000000 in
theorem c_X9_takes {l : Launch} {D : va_G} {ad : Nat → Nat} {cid : Nat → ClassId} {a0 : Int32}  {σ : jMem} {r : Int32} {σ' : jMem} (h : f_X9_takes a0 σ = some (r, σ')) : jMet l D ad cid yX9_takes cX9_takes 2 (some .boolean) 3 61 [.ref 13, .int a0] σ (some (.int r)) σ' := by
  refine jMet_of (ls0 := [some (.ref 13), some (.int a0)]) (by decide) (Nat.le_of_ble_eq_true rfl) rfl (fun K X R0 _ => ?_)
  unfold f_X9_takes at h
  refine j_aload_n X 0 dX9_takes_0 rfl rfl ?_
  refine j_getI X fg_RX9_34 ln_13 ly_13 rfl dX9_takes_1 ?_
  refine j_iload_n X 1 dX9_takes_4 rfl rfl ?_
  refine j_icmp_eq (tgt := 14) X dX9_takes_5 (by decide) h (fun h => ?_) (fun h => ?_)
  · refine j_aload_n X 0 dX9_takes_14 rfl rfl ?_
    obtain ⟨σ1, hm2, h⟩ := jbv_some h
    refine j_callV (as := []) (st := []) (st1 := []) X ln_13 ly_13 rfl rfl sv_RX9_27 ⟨by decide, by decide⟩ rfl rfl (Nat.le_of_ble_eq_true rfl) rfl dX9_takes_15 jrv_v (c_X9_take  hm2) rfl ?_
    refine j_iconst (v := 1) X dX9_takes_18 (by decide) ?_
    obtain ⟨rfl, rfl⟩ := jin2 h
    exact j_zret X R0 rfl dX9_takes_19
  · refine j_aload_n X 0 dX9_takes_8 rfl rfl ?_
    refine j_iconst (v := 1) X dX9_takes_9 (by decide) ?_
    obtain ⟨v3, σ4, hm5, h⟩ := jbd_some h
    refine j_callV (as := [.int (1 : Int32)]) (st := []) (st1 := [.int v3]) X ln_13 ly_13 rfl rfl sv_RX9_47 ⟨by decide, by decide⟩ rfl rfl (Nat.le_of_ble_eq_true rfl) rfl dX9_takes_10 jrv_i (c_X9_fails  hm5) rfl ?_
    obtain ⟨hc6, h⟩ := jck_some h
    obtain ⟨rfl, rfl⟩ := jin2 h
    exact j_zret X R0 hc6 dX9_takes_13
def f_X5_addPath (k : Nat) (a0 : Int32) (a1 : Int32) (a2 : Int32) (σ : jMem) : Option jMem :=
  jst σ (k + 1) 12 (σ.1 k 5) a0 (fun σ1 =>
  jst σ1 (k + 2) 12 (σ1.1 k 5) a1 (fun σ2 =>
  jst σ2 (k + 3) 12 (σ2.1 k 5) a2 (fun σ3 =>
  jlet (jset σ3 k 5 ((σ3.1 k 5) + (1 : Int32))) (fun σ4 =>
  some σ4))))
set_option maxRecDepth 100000 in
set_option maxHeartbeats 4000000 in
theorem c_X5_addPath {l : Launch} {D : va_G} {ad : Nat → Nat} {cid : Nat → ClassId} {k : Nat} {a0 : Int32} {a1 : Int32} {a2 : Int32} (hk : jisP k) {σ : jMem} {σ' : jMem} (h : f_X5_addPath k a0 a1 a2 σ = some σ') : jMet l D ad cid yX5_addPath cX5_addPath 4 none 0 0 [.ref k, .int a0, .int a1, .int a2] σ none σ' := by
  refine jMet_of (ls0 := [some (.ref k), some (.int a0), some (.int a1), some (.int a2)]) (by decide) (Nat.le_of_ble_eq_true rfl) rfl (fun K X R0 _ => ?_)
  unfold f_X5_addPath at h
  refine j_aload_n X 0 dX5_addPath_0 rfl rfl ?_
  refine j_getR (t := (k + 1)) X fg_RX5_15 (jp_lt hk) (jp_ly hk) rfl dX5_addPath_1 ?_
  refine j_aload_n X 0 dX5_addPath_4 rfl rfl ?_
  refine j_getI X fg_RX5_41 (jp_lt hk) (jp_ly hk) rfl dX5_addPath_5 ?_
  refine j_iload_n X 1 dX5_addPath_8 rfl rfl ?_
  refine j_iastore X (jp_lt1 hk) (jp_ly1 hk) dX5_addPath_9 h (fun σ1 h => ?_)
  refine j_aload_n X 0 dX5_addPath_10 rfl rfl ?_
  refine j_getR (t := (k + 2)) X fg_RX5_19 (jp_lt hk) (jp_ly hk) rfl dX5_addPath_11 ?_
  refine j_aload_n X 0 dX5_addPath_14 rfl rfl ?_
  refine j_getI X fg_RX5_41 (jp_lt hk) (jp_ly hk) rfl dX5_addPath_15 ?_
  refine j_iload_n X 2 dX5_addPath_18 rfl rfl ?_
  refine j_iastore X (jp_lt2 hk) (jp_ly2 hk) dX5_addPath_19 h (fun σ2 h => ?_)
  refine j_aload_n X 0 dX5_addPath_20 rfl rfl ?_
  refine j_getR (t := (k + 3)) X fg_RX5_22 (jp_lt hk) (jp_ly hk) rfl dX5_addPath_21 ?_
  refine j_aload_n X 0 dX5_addPath_24 rfl rfl ?_
  refine j_getI X fg_RX5_41 (jp_lt hk) (jp_ly hk) rfl dX5_addPath_25 ?_
  refine j_iload_n X 3 dX5_addPath_28 rfl rfl ?_
  refine j_iastore X (jp_lt3 hk) (jp_ly3 hk) dX5_addPath_29 h (fun σ3 h => ?_)
  refine j_aload_n X 0 dX5_addPath_30 rfl rfl ?_
  refine j_dup X dX5_addPath_31 rfl ?_
  refine j_getI X fg_RX5_41 (jp_lt hk) (jp_ly hk) rfl dX5_addPath_32 ?_
  refine j_iconst (v := 1) X dX5_addPath_35 (by decide) ?_
  refine j_iadd X dX5_addPath_36 ?_
  refine j_put X fp_RX5_41 (jp_lt hk) (jp_ly hk) rfl rfl rfl dX5_addPath_37 h (fun σ4 h => ?_)
  obtain rfl := Option.some.inj h
  exact j_vret X R0 dX5_addPath_40
def f_X9_isNumber (a0 : Int32) (a1 : Int32) (σ : jMem) : Option (Int32 × jMem) :=
  if (σ.1 13 5) = (1 : Int32) then
  jj (fun (q2 : Unit) σ3 =>
  jbd (f_X9_fails (2 : Int32) σ3) (fun v4 σ5 =>
  if v4 = 0 then
  some (((0 : Int32), σ5))
else
  some (((1 : Int32), σ5)))) (fun k1 =>
  if (σ.1 13 6) < a0 then
  k1 () σ
else
  if (σ.1 13 6) ≤ a1 then
  some (((1 : Int32), σ))
else
  k1 () σ)
else
  jbd (f_X9_fails (1 : Int32) σ) (fun v7 σ8 =>
  jck (jisb v7 = true) (some ((v7, σ8))))
set_option maxRecDepth 100000 in
set_option maxHeartbeats 4000000 in
theorem c_X9_isNumber {l : Launch} {D : va_G} {ad : Nat → Nat} {cid : Nat → ClassId} {a0 : Int32} {a1 : Int32}  {σ : jMem} {r : Int32} {σ' : jMem} (h : f_X9_isNumber a0 a1 σ = some (r, σ')) : jMet l D ad cid yX9_isNumber cX9_isNumber 3 (some .boolean) 1 21 [.ref 13, .int a0, .int a1] σ (some (.int r)) σ' := by
  refine jMet_of (ls0 := [some (.ref 13), some (.int a0), some (.int a1)]) (by decide) (Nat.le_of_ble_eq_true rfl) rfl (fun K X R0 _ => ?_)
  unfold f_X9_isNumber at h
  refine j_aload_n X 0 dX9_isNumber_0 rfl rfl ?_
  refine j_getI X fg_RX9_34 ln_13 ly_13 rfl dX9_isNumber_1 ?_
  refine j_iconst (v := 1) X dX9_isNumber_4 (by decide) ?_
  refine j_icmp_eq (tgt := 14) X dX9_isNumber_5 (by decide) h (fun h => ?_) (fun h => ?_)
  · refine j_aload_n X 0 dX9_isNumber_14 rfl rfl ?_
    refine j_getI X fg_RX9_62 ln_13 ly_13 rfl dX9_isNumber_15 ?_
    refine j_iload_n X 1 dX9_isNumber_18 rfl rfl ?_
    refine j_join (pcJ := 30) (lsJ := fun q2 => [some (.ref 13), none, none]) (stJ := fun q2 => []) h (fun q2 σ3 h => ?_) (fun k1 hk1 h => ?_)
    · refine j_aload_n X 0 dX9_isNumber_30 rfl rfl ?_
      refine j_iconst (v := 2) X dX9_isNumber_31 (by decide) ?_
      obtain ⟨v4, σ5, hm6, h⟩ := jbd_some h
      refine j_callV (as := [.int (2 : Int32)]) (st := []) (st1 := [.int v4]) X ln_13 ly_13 rfl rfl sv_RX9_47 ⟨by decide, by decide⟩ rfl rfl (Nat.le_of_ble_eq_true rfl) rfl dX9_isNumber_32 jrv_i (c_X9_fails  hm6) rfl ?_
      refine j_if_eq (tgt := 42) X dX9_isNumber_35 (by decide) h (fun h => ?_) (fun h => ?_)
      · refine j_iconst (v := 0) X dX9_isNumber_42 (by decide) ?_
        obtain ⟨rfl, rfl⟩ := jin2 h
        exact j_zret X R0 rfl dX9_isNumber_43
      · refine j_iconst (v := 1) X dX9_isNumber_38 (by decide) ?_
        refine j_goto (tgt := 43) X dX9_isNumber_39 (by decide) ?_
        obtain ⟨rfl, rfl⟩ := jin2 h
        exact j_zret X R0 rfl dX9_isNumber_43
    · refine j_icmp_lt (tgt := 30) X dX9_isNumber_19 (by decide) h (fun h => ?_) (fun h => ?_)
      · exact j_sub (ls' := [some (.ref 13), none, none]) ⟨Or.inr rfl, Or.inl rfl, Or.inl rfl, trivial⟩ (hk1 () σ h)
      · refine j_aload_n X 0 dX9_isNumber_22 rfl rfl ?_
        refine j_getI X fg_RX9_62 ln_13 ly_13 rfl dX9_isNumber_23 ?_
        refine j_iload_n X 2 dX9_isNumber_26 rfl rfl ?_
        refine j_icmp_le (tgt := 38) X dX9_isNumber_27 (by decide) h (fun h => ?_) (fun h => ?_)
        · refine j_iconst (v := 1) X dX9_isNumber_38 (by decide) ?_
          refine j_goto (tgt := 43) X dX9_isNumber_39 (by decide) ?_
          obtain ⟨rfl, rfl⟩ := jin2 h
          exact j_zret X R0 rfl dX9_isNumber_43
        · exact j_sub (ls' := [some (.ref 13), none, none]) ⟨Or.inr rfl, Or.inl rfl, Or.inl rfl, trivial⟩ (hk1 () σ h)
  · refine j_aload_n X 0 dX9_isNumber_8 rfl rfl ?_
    refine j_iconst (v := 1) X dX9_isNumber_9 (by decide) ?_
    obtain ⟨v7, σ8, hm9, h⟩ := jbd_some h
    refine j_callV (as := [.int (1 : Int32)]) (st := []) (st1 := [.int v7]) X ln_13 ly_13 rfl rfl sv_RX9_47 ⟨by decide, by decide⟩ rfl rfl (Nat.le_of_ble_eq_true rfl) rfl dX9_isNumber_10 jrv_i (c_X9_fails  hm9) rfl ?_
    obtain ⟨hc10, h⟩ := jck_some h
    obtain ⟨rfl, rfl⟩ := jin2 h
    exact j_zret X R0 hc10 dX9_isNumber_13
def X5_pathsAt_L4_b (p0 : Nat) (p1 : Int32) (rec : Int32 × Int32 → jMem → Option ((Int32) × jMem)) (x2 : Int32) (x3 : Int32) (σ : jMem) : Option ((Int32) × jMem) :=
  if (σ.1 p0 5) ≤ x3 then
  some (x2, σ)
else
  jld σ (p0 + 1) 12 x3 (fun v1 =>
  jj (fun (q3 : Unit) σ4 =>
  jlet ((x2 ||| ((1 : Int32) <<< (x3 &&& 31)))) (fun v5 =>
  rec (v5, (x3 + 1)) σ4)) (fun k2 =>
  if v1 = p1 then
  k2 () σ
else
  jld σ (p0 + 2) 12 x3 (fun v6 =>
  if ¬ v6 = p1 then
  rec (x2, (x3 + 1)) σ
else
  k2 () σ)))
def X5_pathsAt_L4 (p0 : Nat) (p1 : Int32) : Nat → Int32 × Int32 → jMem → Option ((Int32) × jMem) := jloop (fun rec s σ => X5_pathsAt_L4_b p0 p1 rec s.1 s.2 σ)
set_option maxRecDepth 100000 in
set_option maxHeartbeats 4000000 in
theorem X5_pathsAt_L4_bok {K : jK} (X : JX K cX5_pathsAt 4 RX5 0 0) {p0 : Nat} {p1 : Int32} (hp0 : jisP p0) {rec : Int32 × Int32 → jMem → Option ((Int32) × jMem)} (ih : ∀ (s : Int32 × Int32) (σ : jMem) (o : (Int32) × jMem), rec s σ = some o → (J K 44 [none, none, some (.int o.1), none] [] o.2) → J K 4 [some (.ref p0), some (.int p1), some (.int s.1), some (.int s.2)] [] σ) : ∀ (x2 : Int32) (x3 : Int32) (σ : jMem) (o : (Int32) × jMem), X5_pathsAt_L4_b p0 p1 rec x2 x3 σ = some o → (J K 44 [none, none, some (.int o.1), none] [] o.2) → J K 4 [some (.ref p0), some (.int p1), some (.int x2), some (.int x3)] [] σ := by
  intro x2 x3 σ o h kk
  unfold X5_pathsAt_L4_b at h
  refine j_iload_n X 3 dX5_pathsAt_4 rfl rfl ?_
  refine j_aload_n X 0 dX5_pathsAt_5 rfl rfl ?_
  refine j_getI X fg_RX5_41 (jp_lt hp0) (jp_ly hp0) rfl dX5_pathsAt_6 ?_
  refine j_icmp_ge (tgt := 44) X dX5_pathsAt_9 (by decide) h (fun h => ?_) (fun h => ?_)
  · obtain rfl := Option.some.inj h
    exact j_sub (ls' := [none, none, some (.int x2), none]) ⟨Or.inl rfl, Or.inl rfl, Or.inr rfl, Or.inl rfl, trivial⟩ kk
  · refine j_aload_n X 0 dX5_pathsAt_12 rfl rfl ?_
    refine j_getR (t := (p0 + 1)) X fg_RX5_15 (jp_lt hp0) (jp_ly hp0) rfl dX5_pathsAt_13 ?_
    refine j_iload_n X 3 dX5_pathsAt_16 rfl rfl ?_
    refine j_iaload X (jp_lt1 hp0) (jp_ly1 hp0) dX5_pathsAt_17 h (fun v1 h => ?_)
    refine j_iload_n X 1 dX5_pathsAt_18 rfl rfl ?_
    refine j_join (pcJ := 32) (lsJ := fun q3 => [some (.ref p0), some (.int p1), some (.int x2), some (.int x3)]) (stJ := fun q3 => []) h (fun q3 σ4 h => ?_) (fun k2 hk2 h => ?_)
    · refine j_iload_n X 2 dX5_pathsAt_32 rfl rfl ?_
      refine j_iconst (v := 1) X dX5_pathsAt_33 (by decide) ?_
      refine j_iload_n X 3 dX5_pathsAt_34 rfl rfl ?_
      refine j_ishl X dX5_pathsAt_35 ?_
      refine j_ior X dX5_pathsAt_36 ?_
      refine j_letI h (fun v5 h => ?_)
      refine j_istore_n (ls' := [some (.ref p0), some (.int p1), some (.int v5), some (.int x3)]) X 2 dX5_pathsAt_37 rfl (Nat.le_of_ble_eq_true rfl) rfl ?_
      refine j_iinc (v := (x3 + 1)) (ls' := [some (.ref p0), some (.int p1), some (.int v5), some (.int (x3 + 1))]) X dX5_pathsAt_38 rfl rfl (Nat.le_of_ble_eq_true rfl) rfl ?_
      refine j_goto (tgt := 4) X dX5_pathsAt_41 (by decide) ?_
      exact ih (v5, (x3 + 1)) σ4 _ h kk
    · refine j_icmp_eq (tgt := 32) X dX5_pathsAt_19 (by decide) h (fun h => ?_) (fun h => ?_)
      · exact hk2 () σ h
      · refine j_aload_n X 0 dX5_pathsAt_22 rfl rfl ?_
        refine j_getR (t := (p0 + 2)) X fg_RX5_19 (jp_lt hp0) (jp_ly hp0) rfl dX5_pathsAt_23 ?_
        refine j_iload_n X 3 dX5_pathsAt_26 rfl rfl ?_
        refine j_iaload X (jp_lt2 hp0) (jp_ly2 hp0) dX5_pathsAt_27 h (fun v6 h => ?_)
        refine j_iload_n X 1 dX5_pathsAt_28 rfl rfl ?_
        refine j_icmp_ne (tgt := 38) X dX5_pathsAt_29 (by decide) h (fun h => ?_) (fun h => ?_)
        · refine j_iinc (v := (x3 + 1)) (ls' := [some (.ref p0), some (.int p1), some (.int x2), some (.int (x3 + 1))]) X dX5_pathsAt_38 rfl rfl (Nat.le_of_ble_eq_true rfl) rfl ?_
          refine j_goto (tgt := 4) X dX5_pathsAt_41 (by decide) ?_
          exact ih (x2, (x3 + 1)) σ _ h kk
        · exact hk2 () σ h
theorem X5_pathsAt_L4_ok {K : jK} (X : JX K cX5_pathsAt 4 RX5 0 0) {p0 : Nat} {p1 : Int32} (hp0 : jisP p0) : ∀ (n : Nat) (s : Int32 × Int32) (σ : jMem) (o : (Int32) × jMem), X5_pathsAt_L4 p0 p1 n s σ = some o → (J K 44 [none, none, some (.int o.1), none] [] o.2) → J K 4 [some (.ref p0), some (.int p1), some (.int s.1), some (.int s.2)] [] σ := by
  intro n
  induction n with
  | zero => intro s σ o h; cases h
  | succ n ih => intro s σ o h; exact X5_pathsAt_L4_bok X hp0 ih (s.1) (s.2) σ o h
def f_X5_pathsAt (k : Nat) (a0 : Int32) (σ : jMem) : Option (Int32 × jMem) :=
  jbd (X5_pathsAt_L4 (k) (a0) jFU ((0 : Int32), (0 : Int32)) σ) (fun q7 σ8 =>
  some ((q7, σ8)))
set_option maxRecDepth 100000 in
set_option maxHeartbeats 4000000 in
theorem c_X5_pathsAt {l : Launch} {D : va_G} {ad : Nat → Nat} {cid : Nat → ClassId} {k : Nat} {a0 : Int32} (hk : jisP k) {σ : jMem} {r : Int32} {σ' : jMem} (h : f_X5_pathsAt k a0 σ = some (r, σ')) : jMet l D ad cid yX5_pathsAt cX5_pathsAt 4 (some .int) 0 0 [.ref k, .int a0] σ (some (.int r)) σ' := by
  refine jMet_of (ls0 := [some (.ref k), some (.int a0), none, none]) (by decide) (Nat.le_of_ble_eq_true rfl) rfl (fun K X R0 _ => ?_)
  unfold f_X5_pathsAt at h
  refine j_iconst (v := 0) X dX5_pathsAt_0 (by decide) ?_
  refine j_istore_n (ls' := [some (.ref k), some (.int a0), some (.int (0 : Int32)), none]) X 2 dX5_pathsAt_1 rfl (Nat.le_of_ble_eq_true rfl) rfl ?_
  refine j_iconst (v := 0) X dX5_pathsAt_2 (by decide) ?_
  refine j_istore_n (ls' := [some (.ref k), some (.int a0), some (.int (0 : Int32)), some (.int (0 : Int32))]) X 3 dX5_pathsAt_3 rfl (Nat.le_of_ble_eq_true rfl) rfl ?_
  obtain ⟨q7, σ8, hL9, h⟩ := jbd_some h
  refine X5_pathsAt_L4_ok X hk jFU ((0 : Int32), (0 : Int32)) σ _ hL9 ?_
  refine j_iload_n X 2 dX5_pathsAt_44 rfl rfl ?_
  obtain ⟨rfl, rfl⟩ := jin2 h
  exact j_iret X R0 dX5_pathsAt_45
theorem sv_RX5_66 : jSiV RX5 66 yX5_pathsAt cX5_pathsAt 4 (some .int) 1 := ⟨tw_421, tw_422, tw_423, tw_10, tw_424, by decide, by decide, by decide +kernel⟩
def f_X5_isJoined (k : Nat) (a0 : Int32) (a1 : Int32) (σ : jMem) : Option (Int32 × jMem) :=
  jbd (f_X5_pathsAt k a0 σ) (fun v1 σ2 =>
  jbd (f_X5_pathsAt k a1 σ2) (fun v4 σ5 =>
  if (v1 &&& v4) = 0 then
  some (((0 : Int32), σ5))
else
  some (((1 : Int32), σ5))))
set_option maxRecDepth 100000 in
set_option maxHeartbeats 4000000 in
theorem c_X5_isJoined {l : Launch} {D : va_G} {ad : Nat → Nat} {cid : Nat → ClassId} {k : Nat} {a0 : Int32} {a1 : Int32} (hk : jisP k) {σ : jMem} {r : Int32} {σ' : jMem} (h : f_X5_isJoined k a0 a1 σ = some (r, σ')) : jMet l D ad cid yX5_isJoined cX5_isJoined 3 (some .boolean) 1 23 [.ref k, .int a0, .int a1] σ (some (.int r)) σ' := by
  refine jMet_of (ls0 := [some (.ref k), some (.int a0), some (.int a1)]) (by decide) (Nat.le_of_ble_eq_true rfl) rfl (fun K X R0 _ => ?_)
  unfold f_X5_isJoined at h
  refine j_aload_n X 0 dX5_isJoined_0 rfl rfl ?_
  refine j_iload_n X 1 dX5_isJoined_1 rfl rfl ?_
  obtain ⟨v1, σ2, hm3, h⟩ := jbd_some h
  refine j_callV (as := [.int a0]) (st := []) (st1 := [.int v1]) X (jp_lt hk) (jp_ly hk) rfl rfl sv_RX5_66 ⟨by decide, by decide⟩ rfl rfl (Nat.le_of_ble_eq_true rfl) rfl dX5_isJoined_2 jrv_i (c_X5_pathsAt hk hm3) rfl ?_
  refine j_aload_n X 0 dX5_isJoined_5 rfl rfl ?_
  refine j_iload_n X 2 dX5_isJoined_6 rfl rfl ?_
  obtain ⟨v4, σ5, hm6, h⟩ := jbd_some h
  refine j_callV (as := [.int a1]) (st := [.int v1]) (st1 := [.int v4, .int v1]) X (jp_lt hk) (jp_ly hk) rfl rfl sv_RX5_66 ⟨by decide, by decide⟩ rfl rfl (Nat.le_of_ble_eq_true rfl) rfl dX5_isJoined_7 jrv_i (c_X5_pathsAt hk hm6) rfl ?_
  refine j_iand X dX5_isJoined_10 ?_
  refine j_if_eq (tgt := 18) X dX5_isJoined_11 (by decide) h (fun h => ?_) (fun h => ?_)
  · refine j_iconst (v := 0) X dX5_isJoined_18 (by decide) ?_
    obtain ⟨rfl, rfl⟩ := jin2 h
    exact j_zret X R0 rfl dX5_isJoined_19
  · refine j_iconst (v := 1) X dX5_isJoined_14 (by decide) ?_
    refine j_goto (tgt := 19) X dX5_isJoined_15 (by decide) ?_
    obtain ⟨rfl, rfl⟩ := jin2 h
    exact j_zret X R0 rfl dX5_isJoined_19
