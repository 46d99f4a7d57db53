theorem sn_RX2_68 : jSiN RX2 68 yX11_bitOf RX11 cX11_bitOf 2 (some .int) 2 := ⟨by decide +kernel, tw_491, tw_1, tw_492, by decide, by decide, by decide +kernel⟩
def X2_nextField_L7_b (p1 : Nat) (p2 : Int32) (p3 : Int32) (rec : Int32 × Int32 → jMem → Option ((Int32) × jMem)) (x4 : Int32) (x5 : Int32) (σ : jMem) : Option ((Int32) × jMem) :=
  if (σ.1 p1 5) ≤ x5 then
  some (x4, σ)
else
  jbd (f_X11_bitOf p2 x5 σ) (fun v1 σ2 =>
  if ¬ v1 = (1 : Int32) then
  rec (x4, (x5 + 1)) σ2
else
  jld σ2 (p1 + 1) 12 x5 (fun v4 =>
  jj (fun (q6 : Unit) σ7 =>
  jld σ7 (p1 + 1) 12 x5 (fun v8 =>
  jj (fun (q10 : Int32) σ11 =>
  if x4 ≤ q10 then
  rec (x4, (x5 + 1)) σ11
else
  jld σ11 81 8 q10 (fun v12 =>
  if v12 = (-1 : Int32) then
  rec (x4, (x5 + 1)) σ11
else
  jld σ11 81 8 q10 (fun v13 =>
  jld σ11 (p1 + 3) 12 x5 (fun v14 =>
  jld σ11 81 8 p3 (fun v15 =>
  if ¬ (v13 + v14) = v15 then
  rec (x4, (x5 + 1)) σ11
else
  rec (q10, (x5 + 1)) σ11))))) (fun k9 =>
  if ¬ v8 = p3 then
  jld σ7 (p1 + 1) 12 x5 (fun v16 =>
  k9 v16 σ7)
else
  jld σ7 (p1 + 2) 12 x5 (fun v17 =>
  k9 v17 σ7)))) (fun k5 =>
  if v4 = p3 then
  k5 () σ2
else
  jld σ2 (p1 + 2) 12 x5 (fun v18 =>
  if ¬ v18 = p3 then
  rec (x4, (x5 + 1)) σ2
else
  k5 () σ2))))
def X2_nextField_L7 (p1 : Nat) (p2 : Int32) (p3 : Int32) : Nat → Int32 × Int32 → jMem → Option ((Int32) × jMem) := jloop (fun rec s σ => X2_nextField_L7_b p1 p2 p3 rec s.1 s.2 σ)
set_option maxRecDepth 100000 in
set_option maxHeartbeats 4000000 in
theorem X2_nextField_L7_bok {K : jK} (X : JX K cX2_nextField 7 RX2 1 21) {p1 : Nat} {p2 : Int32} {p3 : Int32} (hp1 : jisP p1) {rec : Int32 × Int32 → jMem → Option ((Int32) × jMem)} (ih : ∀ (s : Int32 × Int32) (σ : jMem) (o : (Int32) × jMem), rec s σ = some o → (J K 130 [none, none, none, none, some (.int o.1), none, none] [] o.2) → J K 7 [some (.ref 80), some (.ref p1), some (.int p2), some (.int p3), some (.int s.1), some (.int s.2), none] [] σ) : ∀ (x4 : Int32) (x5 : Int32) (σ : jMem) (o : (Int32) × jMem), X2_nextField_L7_b p1 p2 p3 rec x4 x5 σ = some o → (J K 130 [none, none, none, none, some (.int o.1), none, none] [] o.2) → J K 7 [some (.ref 80), some (.ref p1), some (.int p2), some (.int p3), some (.int x4), some (.int x5), none] [] σ := by
  intro x4 x5 σ o h kk
  unfold X2_nextField_L7_b at h
  refine j_iload X dX2_nextField_7 rfl ?_
  refine j_aload_n X 1 dX2_nextField_9 rfl rfl ?_
  refine j_getI X fg_RX2_65 (jp_lt hp1) (jp_ly hp1) rfl dX2_nextField_10 ?_
  refine j_icmp_ge (tgt := 130) X dX2_nextField_13 (by decide) h (fun h => ?_) (fun h => ?_)
  · obtain rfl := Option.some.inj h
    exact j_sub (ls' := [none, none, none, none, some (.int x4), none, none]) ⟨Or.inl rfl, Or.inl rfl, Or.inl rfl, Or.inl rfl, Or.inr rfl, Or.inl rfl, Or.inl rfl, trivial⟩ kk
  · refine j_iload_n X 2 dX2_nextField_16 rfl rfl ?_
    refine j_iload X dX2_nextField_17 rfl ?_
    obtain ⟨v1, σ2, hm3, h⟩ := jbd_some h
    refine j_callN (as := [.int p2, .int x5]) (st := []) (st1 := [.int v1]) X sn_RX2_68 ⟨by decide, by decide⟩ rfl rfl (Nat.le_of_ble_eq_true rfl) rfl dX2_nextField_19 jrv_i (c_X11_bitOf  hm3) rfl ?_
    refine j_iconst (v := 1) X dX2_nextField_22 (by decide) ?_
    refine j_icmp_ne (tgt := 124) X dX2_nextField_23 (by decide) h (fun h => ?_) (fun h => ?_)
    · refine j_iinc (v := (x5 + 1)) (ls' := [some (.ref 80), some (.ref p1), some (.int p2), some (.int p3), some (.int x4), some (.int (x5 + 1)), none]) X dX2_nextField_124 rfl rfl (Nat.le_of_ble_eq_true rfl) rfl ?_
      refine j_goto (tgt := 7) X dX2_nextField_127 (by decide) ?_
      exact ih (x4, (x5 + 1)) σ2 _ h kk
    · refine j_aload_n X 1 dX2_nextField_26 rfl rfl ?_
      refine j_getR (t := (p1 + 1)) X fg_RX2_72 (jp_lt hp1) (jp_ly hp1) rfl dX2_nextField_27 ?_
      refine j_iload X dX2_nextField_30 rfl ?_
      refine j_iaload X (jp_lt1 hp1) (jp_ly1 hp1) dX2_nextField_32 h (fun v4 h => ?_)
      refine j_iload_n X 3 dX2_nextField_33 rfl rfl ?_
      refine j_join (pcJ := 48) (lsJ := fun q6 => [some (.ref 80), some (.ref p1), some (.int p2), some (.int p3), some (.int x4), some (.int x5), none]) (stJ := fun q6 => []) h (fun q6 σ7 h => ?_) (fun k5 hk5 h => ?_)
      · refine j_aload_n X 1 dX2_nextField_48 rfl rfl ?_
        refine j_getR (t := (p1 + 1)) X fg_RX2_72 (jp_lt hp1) (jp_ly hp1) rfl dX2_nextField_49 ?_
        refine j_iload X dX2_nextField_52 rfl ?_
        refine j_iaload X (jp_lt1 hp1) (jp_ly1 hp1) dX2_nextField_54 h (fun v8 h => ?_)
        refine j_iload_n X 3 dX2_nextField_55 rfl rfl ?_
        refine j_join (pcJ := 76) (lsJ := fun q10 => [some (.ref 80), some (.ref p1), some (.int p2), some (.int p3), some (.int x4), some (.int x5), none]) (stJ := fun q10 => [.int q10]) h (fun q10 σ11 h => ?_) (fun k9 hk9 h => ?_)
        · refine j_istore (ls' := [some (.ref 80), some (.ref p1), some (.int p2), some (.int p3), some (.int x4), some (.int x5), some (.int q10)]) X dX2_nextField_76 (Nat.le_of_ble_eq_true rfl) rfl ?_
          refine j_iload X dX2_nextField_78 rfl ?_
          refine j_iload X dX2_nextField_80 rfl ?_
          refine j_icmp_ge (tgt := 124) X dX2_nextField_82 (by decide) h (fun h => ?_) (fun h => ?_)
          · refine j_iinc (v := (x5 + 1)) (ls' := [some (.ref 80), some (.ref p1), some (.int p2), some (.int p3), some (.int x4), some (.int (x5 + 1)), some (.int q10)]) X dX2_nextField_124 rfl rfl (Nat.le_of_ble_eq_true rfl) rfl ?_
            refine j_goto (tgt := 7) X dX2_nextField_127 (by decide) ?_
            exact j_sub (ls' := [some (.ref 80), some (.ref p1), some (.int p2), some (.int p3), some (.int x4), some (.int (x5 + 1)), none]) ⟨Or.inr rfl, Or.inr rfl, Or.inr rfl, Or.inr rfl, Or.inr rfl, Or.inr rfl, Or.inl rfl, trivial⟩ (ih (x4, (x5 + 1)) σ11 _ h kk)
          · refine j_aload_n X 0 dX2_nextField_85 rfl rfl ?_
            refine j_getR (t := 81) X fg_RX2_9 ln_80 ly_80 rfl dX2_nextField_86 ?_
            refine j_iload X dX2_nextField_89 rfl ?_
            refine j_iaload X ln_81 ly_81 dX2_nextField_91 h (fun v12 h => ?_)
            refine j_iconst (v := -1) X dX2_nextField_92 (by decide) ?_
            refine j_icmp_eq (tgt := 124) X dX2_nextField_93 (by decide) h (fun h => ?_) (fun h => ?_)
            · refine j_iinc (v := (x5 + 1)) (ls' := [some (.ref 80), some (.ref p1), some (.int p2), some (.int p3), some (.int x4), some (.int (x5 + 1)), some (.int q10)]) X dX2_nextField_124 rfl rfl (Nat.le_of_ble_eq_true rfl) rfl ?_
              refine j_goto (tgt := 7) X dX2_nextField_127 (by decide) ?_
              exact j_sub (ls' := [some (.ref 80), some (.ref p1), some (.int p2), some (.int p3), some (.int x4), some (.int (x5 + 1)), none]) ⟨Or.inr rfl, Or.inr rfl, Or.inr rfl, Or.inr rfl, Or.inr rfl, Or.inr rfl, Or.inl rfl, trivial⟩ (ih (x4, (x5 + 1)) σ11 _ h kk)
            · refine j_aload_n X 0 dX2_nextField_96 rfl rfl ?_
              refine j_getR (t := 81) X fg_RX2_9 ln_80 ly_80 rfl dX2_nextField_97 ?_
              refine j_iload X dX2_nextField_100 rfl ?_
              refine j_iaload X ln_81 ly_81 dX2_nextField_102 h (fun v13 h => ?_)
              refine j_aload_n X 1 dX2_nextField_103 rfl rfl ?_
              refine j_getR (t := (p1 + 3)) X fg_RX2_78 (jp_lt hp1) (jp_ly hp1) rfl dX2_nextField_104 ?_
              refine j_iload X dX2_nextField_107 rfl ?_
              refine j_iaload X (jp_lt3 hp1) (jp_ly3 hp1) dX2_nextField_109 h (fun v14 h => ?_)
              refine j_iadd X dX2_nextField_110 ?_
              refine j_aload_n X 0 dX2_nextField_111 rfl rfl ?_
              refine j_getR (t := 81) X fg_RX2_9 ln_80 ly_80 rfl dX2_nextField_112 ?_
              refine j_iload_n X 3 dX2_nextField_115 rfl rfl ?_
              refine j_iaload X ln_81 ly_81 dX2_nextField_116 h (fun v15 h => ?_)
              refine j_icmp_ne (tgt := 124) X dX2_nextField_117 (by decide) h (fun h => ?_) (fun h => ?_)
              · refine j_iinc (v := (x5 + 1)) (ls' := [some (.ref 80), some (.ref p1), some (.int p2), some (.int p3), some (.int x4), some (.int (x5 + 1)), some (.int q10)]) X dX2_nextField_124 rfl rfl (Nat.le_of_ble_eq_true rfl) rfl ?_
                refine j_goto (tgt := 7) X dX2_nextField_127 (by decide) ?_
                exact j_sub (ls' := [some (.ref 80), some (.ref p1), some (.int p2), some (.int p3), some (.int x4), some (.int (x5 + 1)), none]) ⟨Or.inr rfl, Or.inr rfl, Or.inr rfl, Or.inr rfl, Or.inr rfl, Or.inr rfl, Or.inl rfl, trivial⟩ (ih (x4, (x5 + 1)) σ11 _ h kk)
              · refine j_iload X dX2_nextField_120 rfl ?_
                refine j_istore (ls' := [some (.ref 80), some (.ref p1), some (.int p2), some (.int p3), some (.int q10), some (.int x5), some (.int q10)]) X dX2_nextField_122 (Nat.le_of_ble_eq_true rfl) rfl ?_
                refine j_iinc (v := (x5 + 1)) (ls' := [some (.ref 80), some (.ref p1), some (.int p2), some (.int p3), some (.int q10), some (.int (x5 + 1)), some (.int q10)]) X dX2_nextField_124 rfl rfl (Nat.le_of_ble_eq_true rfl) rfl ?_
                refine j_goto (tgt := 7) X dX2_nextField_127 (by decide) ?_
                exact j_sub (ls' := [some (.ref 80), some (.ref p1), some (.int p2), some (.int p3), some (.int q10), some (.int (x5 + 1)), none]) ⟨Or.inr rfl, Or.inr rfl, Or.inr rfl, Or.inr rfl, Or.inr rfl, Or.inr rfl, Or.inl rfl, trivial⟩ (ih (q10, (x5 + 1)) σ11 _ h kk)
        · refine j_icmp_ne (tgt := 69) X dX2_nextField_56 (by decide) h (fun h => ?_) (fun h => ?_)
          · refine j_aload_n X 1 dX2_nextField_69 rfl rfl ?_
            refine j_getR (t := (p1 + 1)) X fg_RX2_72 (jp_lt hp1) (jp_ly hp1) rfl dX2_nextField_70 ?_
            refine j_iload X dX2_nextField_73 rfl ?_
            refine j_iaload X (jp_lt1 hp1) (jp_ly1 hp1) dX2_nextField_75 h (fun v16 h => ?_)
            exact hk9 v16 σ7 h
          · refine j_aload_n X 1 dX2_nextField_59 rfl rfl ?_
            refine j_getR (t := (p1 + 2)) X fg_RX2_75 (jp_lt hp1) (jp_ly hp1) rfl dX2_nextField_60 ?_
            refine j_iload X dX2_nextField_63 rfl ?_
            refine j_iaload X (jp_lt2 hp1) (jp_ly2 hp1) dX2_nextField_65 h (fun v17 h => ?_)
            refine j_goto (tgt := 76) X dX2_nextField_66 (by decide) ?_
            exact hk9 v17 σ7 h
      · refine j_icmp_eq (tgt := 48) X dX2_nextField_34 (by decide) h (fun h => ?_) (fun h => ?_)
        · exact hk5 () σ2 h
        · refine j_aload_n X 1 dX2_nextField_37 rfl rfl ?_
          refine j_getR (t := (p1 + 2)) X fg_RX2_75 (jp_lt hp1) (jp_ly hp1) rfl dX2_nextField_38 ?_
          refine j_iload X dX2_nextField_41 rfl ?_
          refine j_iaload X (jp_lt2 hp1) (jp_ly2 hp1) dX2_nextField_43 h (fun v18 h => ?_)
          refine j_iload_n X 3 dX2_nextField_44 rfl rfl ?_
          refine j_icmp_ne (tgt := 124) X dX2_nextField_45 (by decide) h (fun h => ?_) (fun h => ?_)
          · refine j_iinc (v := (x5 + 1)) (ls' := [some (.ref 80), some (.ref p1), some (.int p2), some (.int p3), some (.int x4), some (.int (x5 + 1)), none]) X dX2_nextField_124 rfl rfl (Nat.le_of_ble_eq_true rfl) rfl ?_
            refine j_goto (tgt := 7) X dX2_nextField_127 (by decide) ?_
            exact ih (x4, (x5 + 1)) σ2 _ h kk
          · exact hk5 () σ2 h
theorem X2_nextField_L7_ok {K : jK} (X : JX K cX2_nextField 7 RX2 1 21) {p1 : Nat} {p2 : Int32} {p3 : Int32} (hp1 : jisP p1) : ∀ (n : Nat) (s : Int32 × Int32) (σ : jMem) (o : (Int32) × jMem), X2_nextField_L7 p1 p2 p3 n s σ = some o → (J K 130 [none, none, none, none, some (.int o.1), none, none] [] o.2) → J K 7 [some (.ref 80), some (.ref p1), some (.int p2), some (.int p3), some (.int s.1), some (.int s.2), none] [] σ := by
  intro n
  induction n with
  | zero => intro s σ o h; cases h
  | succ n ih => intro s σ o h; exact X2_nextField_L7_bok X hp1 ih (s.1) (s.2) σ o h
def f_X2_nextField (a0 : Nat) (a1 : Int32) (a2 : Int32) (σ : jMem) : Option (Int32 × jMem) :=
  jbd (X2_nextField_L7 (a0) (a1) (a2) jFU ((8 : Int32), (0 : Int32)) σ) (fun q19 σ20 =>
  some ((q19, σ20)))
set_option maxRecDepth 100000 in
set_option maxHeartbeats 4000000 in
theorem c_X2_nextField {l : Launch} {D : va_G} {ad : Nat → Nat} {cid : Nat → ClassId} {a0 : Nat} {a1 : Int32} {a2 : Int32} (ha0 : jisP a0) {σ : jMem} {r : Int32} {σ' : jMem} (h : f_X2_nextField a0 a1 a2 σ = some (r, σ')) : jMet l D ad cid yX2_nextField cX2_nextField 7 (some .int) 1 21 [.ref 80, .ref a0, .int a1, .int a2] σ (some (.int r)) σ' := by
  refine jMet_of (ls0 := [some (.ref 80), some (.ref a0), some (.int a1), some (.int a2), none, none, none]) (by decide) (Nat.le_of_ble_eq_true rfl) rfl (fun K X R0 _ => ?_)
  unfold f_X2_nextField at h
  refine j_bipush (v := 8) X dX2_nextField_0 (by decide) ?_
  refine j_istore (ls' := [some (.ref 80), some (.ref a0), some (.int a1), some (.int a2), some (.int (8 : Int32)), none, none]) X dX2_nextField_2 (Nat.le_of_ble_eq_true rfl) rfl ?_
  refine j_iconst (v := 0) X dX2_nextField_4 (by decide) ?_
  refine j_istore (ls' := [some (.ref 80), some (.ref a0), some (.int a1), some (.int a2), some (.int (8 : Int32)), some (.int (0 : Int32)), none]) X dX2_nextField_5 (Nat.le_of_ble_eq_true rfl) rfl ?_
  obtain ⟨q19, σ20, hL21, h⟩ := jbd_some h
  refine X2_nextField_L7_ok X ha0 jFU ((8 : Int32), (0 : Int32)) σ _ hL21 ?_
  refine j_iload X dX2_nextField_130 rfl ?_
  obtain ⟨rfl, rfl⟩ := jin2 h
  exact j_iret X R0 dX2_nextField_132
def f_X2_shorten (a0 : Int32) (a1 : Int32) (a2 : Int32) (σ : jMem) : Option (Int32 × jMem) :=
  jld σ 81 8 a1 (fun v1 =>
  if v1 = (-1 : Int32) then
  some (((0 : Int32), σ))
else
  jld σ 81 8 a0 (fun v2 =>
  jj (fun (q4 : Unit) σ5 =>
  jld σ5 81 8 a1 (fun v6 =>
  jst σ5 81 8 a0 (v6 + a2) (fun σ7 =>
  some (((1 : Int32), σ7))))) (fun k3 =>
  if v2 = (-1 : Int32) then
  k3 () σ
else
  jld σ 81 8 a0 (fun v8 =>
  jld σ 81 8 a1 (fun v9 =>
  if (v9 + a2) < v8 then
  k3 () σ
else
  some (((0 : Int32), σ)))))))
set_option maxRecDepth 100000 in
set_option maxHeartbeats 4000000 in
theorem c_X2_shorten {l : Launch} {D : va_G} {ad : Nat → Nat} {cid : Nat → ClassId} {a0 : Int32} {a1 : Int32} {a2 : Int32}  {σ : jMem} {r : Int32} {σ' : jMem} (h : f_X2_shorten a0 a1 a2 σ = some (r, σ')) : jMet l D ad cid yX2_shorten cX2_shorten 4 (some .boolean) 0 0 [.ref 80, .int a0, .int a1, .int a2] σ (some (.int r)) σ' := by
  refine jMet_of (ls0 := [some (.ref 80), some (.int a0), some (.int a1), some (.int a2)]) (by decide) (Nat.le_of_ble_eq_true rfl) rfl (fun K X R0 _ => ?_)
  unfold f_X2_shorten at h
  refine j_aload_n X 0 dX2_shorten_0 rfl rfl ?_
  refine j_getR (t := 81) X fg_RX2_9 ln_80 ly_80 rfl dX2_shorten_1 ?_
  refine j_iload_n X 2 dX2_shorten_4 rfl rfl ?_
  refine j_iaload X ln_81 ly_81 dX2_shorten_5 h (fun v1 h => ?_)
  refine j_iconst (v := -1) X dX2_shorten_6 (by decide) ?_
  refine j_icmp_eq (tgt := 37) X dX2_shorten_7 (by decide) h (fun h => ?_) (fun h => ?_)
  · refine j_iconst (v := 0) X dX2_shorten_37 (by decide) ?_
    obtain ⟨rfl, rfl⟩ := jin2 h
    exact j_zret X R0 rfl dX2_shorten_38
  · refine j_aload_n X 0 dX2_shorten_10 rfl rfl ?_
    refine j_getR (t := 81) X fg_RX2_9 ln_80 ly_80 rfl dX2_shorten_11 ?_
    refine j_iload_n X 1 dX2_shorten_14 rfl rfl ?_
    refine j_iaload X ln_81 ly_81 dX2_shorten_15 h (fun v2 h => ?_)
    refine j_iconst (v := -1) X dX2_shorten_16 (by decide) ?_
    refine j_join (pcJ := 39) (lsJ := fun q4 => [some (.ref 80), some (.int a0), some (.int a1), some (.int a2)]) (stJ := fun q4 => []) h (fun q4 σ5 h => ?_) (fun k3 hk3 h => ?_)
    · refine j_aload_n X 0 dX2_shorten_39 rfl rfl ?_
      refine j_getR (t := 81) X fg_RX2_9 ln_80 ly_80 rfl dX2_shorten_40 ?_
      refine j_iload_n X 1 dX2_shorten_43 rfl rfl ?_
      refine j_aload_n X 0 dX2_shorten_44 rfl rfl ?_
      refine j_getR (t := 81) X fg_RX2_9 ln_80 ly_80 rfl dX2_shorten_45 ?_
      refine j_iload_n X 2 dX2_shorten_48 rfl rfl ?_
      refine j_iaload X ln_81 ly_81 dX2_shorten_49 h (fun v6 h => ?_)
      refine j_iload_n X 3 dX2_shorten_50 rfl rfl ?_
      refine j_iadd X dX2_shorten_51 ?_
      refine j_iastore X ln_81 ly_81 dX2_shorten_52 h (fun σ7 h => ?_)
      refine j_iconst (v := 1) X dX2_shorten_53 (by decide) ?_
      obtain ⟨rfl, rfl⟩ := jin2 h
      exact j_zret X R0 rfl dX2_shorten_54
    · refine j_icmp_eq (tgt := 39) X dX2_shorten_17 (by decide) h (fun h => ?_) (fun h => ?_)
      · exact hk3 () σ h
      · refine j_aload_n X 0 dX2_shorten_20 rfl rfl ?_
        refine j_getR (t := 81) X fg_RX2_9 ln_80 ly_80 rfl dX2_shorten_21 ?_
        refine j_iload_n X 1 dX2_shorten_24 rfl rfl ?_
        refine j_iaload X ln_81 ly_81 dX2_shorten_25 h (fun v8 h => ?_)
        refine j_aload_n X 0 dX2_shorten_26 rfl rfl ?_
        refine j_getR (t := 81) X fg_RX2_9 ln_80 ly_80 rfl dX2_shorten_27 ?_
        refine j_iload_n X 2 dX2_shorten_30 rfl rfl ?_
        refine j_iaload X ln_81 ly_81 dX2_shorten_31 h (fun v9 h => ?_)
        refine j_iload_n X 3 dX2_shorten_32 rfl rfl ?_
        refine j_iadd X dX2_shorten_33 ?_
        refine j_icmp_gt (tgt := 39) X dX2_shorten_34 (by decide) h (fun h => ?_) (fun h => ?_)
        · exact hk3 () σ h
        · refine j_iconst (v := 0) X dX2_shorten_37 (by decide) ?_
          obtain ⟨rfl, rfl⟩ := jin2 h
          exact j_zret X R0 rfl dX2_shorten_38
