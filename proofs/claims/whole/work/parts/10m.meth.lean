theorem sv_RX11_248 : jSiV RX11 248 yX5_open cX5_open 1 (some .int) 0 := ⟨tw_651, tw_475, tw_476, tw_10, tw_477, by decide, by decide, by decide +kernel⟩
theorem sv_RX11_251 : jSiV RX11 251 yX2_carry cX2_carry 8 (some .boolean) 3 := ⟨tw_652, tw_483, tw_484, tw_11, tw_485, by decide, by decide, by decide +kernel⟩
def f_X11_goes (a0 : Int32) (a1 : Int32) (σ : jMem) : Option (Int32 × jMem) :=
  if ¬ (σ.1 22 1) = 0 then
  jbd (f_X11_isField a0 σ) (fun v1 σ2 =>
  if v1 = 0 then
  some (((-1000001 : Int32), σ2))
else
  jbd (f_X11_isOneOfTwo a1 σ2) (fun v4 σ5 =>
  if ¬ v4 = 0 then
  jbd (f_X5_open 22 σ5) (fun v7 σ8 =>
  jbd (f_X2_carry 22 v7 a0 σ8) (fun v10 σ11 =>
  if ¬ v10 = 0 then
  if ¬ a1 = 0 then
  some (((σ11.1 80 1), σ11))
else
  some (((σ11.1 80 0), σ11))
else
  some (((-1000000 : Int32), σ11))))
else
  some (((-1000001 : Int32), σ5))))
else
  some (((-1000002 : Int32), σ))
set_option maxRecDepth 100000 in
set_option maxHeartbeats 4000000 in
theorem c_X11_goes {l : Launch} {D : va_G} {ad : Nat → Nat} {cid : Nat → ClassId} {a0 : Int32} {a1 : Int32}  {σ : jMem} {r : Int32} {σ' : jMem} (h : f_X11_goes a0 a1 σ = some (r, σ')) : jMet l D ad cid yX11_goes cX11_goes 3 (some .int) 3 75 [.ref 0, .int a0, .int a1] σ (some (.int r)) σ' := by
  refine jMet_of (ls0 := [some (.ref 0), some (.int a0), some (.int a1)]) (by decide) (Nat.le_of_ble_eq_true rfl) rfl (fun K X R0 _ => ?_)
  unfold f_X11_goes at h
  refine j_aload_n X 0 dX11_goes_0 rfl rfl ?_
  refine j_getR (t := 22) X fg_RX11_50 ln_0 ly_0 rfl dX11_goes_1 ?_
  refine j_getI X fg_RX11_170 ln_22 ly_22 rfl dX11_goes_4 ?_
  refine j_if_ne (tgt := 13) X dX11_goes_7 (by decide) h (fun h => ?_) (fun h => ?_)
  · refine j_iload_n X 1 dX11_goes_13 rfl rfl ?_
    obtain ⟨v1, σ2, hm3, h⟩ := jbd_some h
    refine j_callS (as := [.int a0]) (st := []) (st1 := [.int v1]) X ss_RX11_174 ⟨by decide, by decide⟩ rfl rfl (Nat.le_of_ble_eq_true rfl) rfl dX11_goes_14 jrv_i (c_X11_isField  hm3) rfl ?_
    refine j_if_eq (tgt := 27) X dX11_goes_17 (by decide) h (fun h => ?_) (fun h => ?_)
    · refine j_ldc (v := -1000001) X tw_318 dX11_goes_27 ?_
      obtain ⟨rfl, rfl⟩ := jin2 h
      exact j_iret X R0 dX11_goes_29
    · refine j_iload_n X 2 dX11_goes_20 rfl rfl ?_
      obtain ⟨v4, σ5, hm6, h⟩ := jbd_some h
      refine j_callS (as := [.int a1]) (st := []) (st1 := [.int v4]) X ss_RX11_204 ⟨by decide, by decide⟩ rfl rfl (Nat.le_of_ble_eq_true rfl) rfl dX11_goes_21 jrv_i (c_X11_isOneOfTwo  hm6) rfl ?_
      refine j_if_ne (tgt := 30) X dX11_goes_24 (by decide) h (fun h => ?_) (fun h => ?_)
      · refine j_aload_n X 0 dX11_goes_30 rfl rfl ?_
        refine j_getR (t := 80) X fg_RX11_69 ln_0 ly_0 rfl dX11_goes_31 ?_
        refine j_aload_n X 0 dX11_goes_34 rfl rfl ?_
        refine j_getR (t := 22) X fg_RX11_50 ln_0 ly_0 rfl dX11_goes_35 ?_
        refine j_aload_n X 0 dX11_goes_38 rfl rfl ?_
        refine j_getR (t := 22) X fg_RX11_50 ln_0 ly_0 rfl dX11_goes_39 ?_
        obtain ⟨v7, σ8, hm9, h⟩ := jbd_some h
        refine j_callV (as := []) (st := [.ref 22, .ref 80]) (st1 := [.int v7, .ref 22, .ref 80]) X ln_22 ly_22 rfl rfl sv_RX11_248 ⟨by decide, by decide⟩ rfl rfl (Nat.le_of_ble_eq_true rfl) rfl dX11_goes_42 jrv_i (c_X5_open jisP_22 hm9) rfl ?_
        refine j_iload_n X 1 dX11_goes_45 rfl rfl ?_
        obtain ⟨v10, σ11, hm12, h⟩ := jbd_some h
        refine j_callV (as := [.ref 22, .int v7, .int a0]) (st := []) (st1 := [.int v10]) X ln_80 ly_80 rfl rfl sv_RX11_251 ⟨by decide, by decide⟩ rfl rfl (Nat.le_of_ble_eq_true rfl) rfl dX11_goes_46 jrv_i (c_X2_carry jisP_22 hm12) rfl ?_
        refine j_if_ne (tgt := 55) X dX11_goes_49 (by decide) h (fun h => ?_) (fun h => ?_)
        · refine j_iload_n X 2 dX11_goes_55 rfl rfl ?_
          refine j_if_ne (tgt := 69) X dX11_goes_56 (by decide) h (fun h => ?_) (fun h => ?_)
          · refine j_aload_n X 0 dX11_goes_69 rfl rfl ?_
            refine j_getR (t := 80) X fg_RX11_69 ln_0 ly_0 rfl dX11_goes_70 ?_
            refine j_getI X fg_RX11_258 ln_80 ly_80 rfl dX11_goes_73 ?_
            obtain ⟨rfl, rfl⟩ := jin2 h
            exact j_iret X R0 dX11_goes_76
          · refine j_aload_n X 0 dX11_goes_59 rfl rfl ?_
            refine j_getR (t := 80) X fg_RX11_69 ln_0 ly_0 rfl dX11_goes_60 ?_
            refine j_getI X fg_RX11_255 ln_80 ly_80 rfl dX11_goes_63 ?_
            refine j_goto (tgt := 76) X dX11_goes_66 (by decide) ?_
            obtain ⟨rfl, rfl⟩ := jin2 h
            exact j_iret X R0 dX11_goes_76
        · refine j_ldc (v := -1000000) X tw_646 dX11_goes_52 ?_
          obtain ⟨rfl, rfl⟩ := jin2 h
          exact j_iret X R0 dX11_goes_54
      · refine j_ldc (v := -1000001) X tw_318 dX11_goes_27 ?_
        obtain ⟨rfl, rfl⟩ := jin2 h
        exact j_iret X R0 dX11_goes_29
  · refine j_ldc (v := -1000002) X tw_458 dX11_goes_10 ?_
    obtain ⟨rfl, rfl⟩ := jin2 h
    exact j_iret X R0 dX11_goes_12
def f_J6_bitCount_0f7a4 (a0 : Int32) (σ : jMem) : Option (Int32 × jMem) :=
  jlet ((a0 - ((((a0).toUInt32 >>> (((1 : Int32)).toUInt32 &&& Int32.toUInt32 31)).toInt32) &&& (1431655765 : Int32)))) (fun v1 =>
  jlet (((v1 &&& (858993459 : Int32)) + ((((v1).toUInt32 >>> (((2 : Int32)).toUInt32 &&& Int32.toUInt32 31)).toInt32) &&& (858993459 : Int32)))) (fun v2 =>
  jlet (((v2 + (((v2).toUInt32 >>> (((4 : Int32)).toUInt32 &&& Int32.toUInt32 31)).toInt32)) &&& (252645135 : Int32))) (fun v3 =>
  jlet ((v3 + (((v3).toUInt32 >>> (((8 : Int32)).toUInt32 &&& Int32.toUInt32 31)).toInt32))) (fun v4 =>
  jlet ((v4 + (((v4).toUInt32 >>> (((16 : Int32)).toUInt32 &&& Int32.toUInt32 31)).toInt32))) (fun v5 =>
  some (((v5 &&& (63 : Int32)), σ)))))))
set_option maxRecDepth 100000 in
set_option maxHeartbeats 4000000 in
theorem c_J6_bitCount_0f7a4 {l : Launch} {D : va_G} {ad : Nat → Nat} {cid : Nat → ClassId} {a0 : Int32}  {σ : jMem} {r : Int32} {σ' : jMem} (h : f_J6_bitCount_0f7a4 a0 σ = some (r, σ')) : jMet l D ad cid yJ6_bitCount_0f7a4 cJ6_bitCount_0f7a4 1 (some .int) 0 0 [.int a0] σ (some (.int r)) σ' := by
  refine jMet_of (ls0 := [some (.int a0)]) (by decide) (Nat.le_of_ble_eq_true rfl) rfl (fun K X R0 _ => ?_)
  unfold f_J6_bitCount_0f7a4 at h
  refine j_iload_n X 0 dJ6_bitCount_0f7a4_0 rfl rfl ?_
  refine j_iload_n X 0 dJ6_bitCount_0f7a4_1 rfl rfl ?_
  refine j_iconst (v := 1) X dJ6_bitCount_0f7a4_2 (by decide) ?_
  refine j_iushr X dJ6_bitCount_0f7a4_3 ?_
  refine j_ldc_w (v := 1431655765) X tw_667 dJ6_bitCount_0f7a4_4 ?_
  refine j_iand X dJ6_bitCount_0f7a4_7 ?_
  refine j_isub X dJ6_bitCount_0f7a4_8 ?_
  refine j_letI h (fun v1 h => ?_)
  refine j_istore_n (ls' := [some (.int v1)]) X 0 dJ6_bitCount_0f7a4_9 rfl (Nat.le_of_ble_eq_true rfl) rfl ?_
  refine j_iload_n X 0 dJ6_bitCount_0f7a4_10 rfl rfl ?_
  refine j_ldc_w (v := 858993459) X tw_668 dJ6_bitCount_0f7a4_11 ?_
  refine j_iand X dJ6_bitCount_0f7a4_14 ?_
  refine j_iload_n X 0 dJ6_bitCount_0f7a4_15 rfl rfl ?_
  refine j_iconst (v := 2) X dJ6_bitCount_0f7a4_16 (by decide) ?_
  refine j_iushr X dJ6_bitCount_0f7a4_17 ?_
  refine j_ldc_w (v := 858993459) X tw_668 dJ6_bitCount_0f7a4_18 ?_
  refine j_iand X dJ6_bitCount_0f7a4_21 ?_
  refine j_iadd X dJ6_bitCount_0f7a4_22 ?_
  refine j_letI h (fun v2 h => ?_)
  refine j_istore_n (ls' := [some (.int v2)]) X 0 dJ6_bitCount_0f7a4_23 rfl (Nat.le_of_ble_eq_true rfl) rfl ?_
  refine j_iload_n X 0 dJ6_bitCount_0f7a4_24 rfl rfl ?_
  refine j_iload_n X 0 dJ6_bitCount_0f7a4_25 rfl rfl ?_
  refine j_iconst (v := 4) X dJ6_bitCount_0f7a4_26 (by decide) ?_
  refine j_iushr X dJ6_bitCount_0f7a4_27 ?_
  refine j_iadd X dJ6_bitCount_0f7a4_28 ?_
  refine j_ldc_w (v := 252645135) X tw_669 dJ6_bitCount_0f7a4_29 ?_
  refine j_iand X dJ6_bitCount_0f7a4_32 ?_
  refine j_letI h (fun v3 h => ?_)
  refine j_istore_n (ls' := [some (.int v3)]) X 0 dJ6_bitCount_0f7a4_33 rfl (Nat.le_of_ble_eq_true rfl) rfl ?_
  refine j_iload_n X 0 dJ6_bitCount_0f7a4_34 rfl rfl ?_
  refine j_iload_n X 0 dJ6_bitCount_0f7a4_35 rfl rfl ?_
  refine j_bipush (v := 8) X dJ6_bitCount_0f7a4_36 (by decide) ?_
  refine j_iushr X dJ6_bitCount_0f7a4_38 ?_
  refine j_iadd X dJ6_bitCount_0f7a4_39 ?_
  refine j_letI h (fun v4 h => ?_)
  refine j_istore_n (ls' := [some (.int v4)]) X 0 dJ6_bitCount_0f7a4_40 rfl (Nat.le_of_ble_eq_true rfl) rfl ?_
  refine j_iload_n X 0 dJ6_bitCount_0f7a4_41 rfl rfl ?_
  refine j_iload_n X 0 dJ6_bitCount_0f7a4_42 rfl rfl ?_
  refine j_bipush (v := 16) X dJ6_bitCount_0f7a4_43 (by decide) ?_
  refine j_iushr X dJ6_bitCount_0f7a4_45 ?_
  refine j_iadd X dJ6_bitCount_0f7a4_46 ?_
  refine j_letI h (fun v5 h => ?_)
  refine j_istore_n (ls' := [some (.int v5)]) X 0 dJ6_bitCount_0f7a4_47 rfl (Nat.le_of_ble_eq_true rfl) rfl ?_
  refine j_iload_n X 0 dJ6_bitCount_0f7a4_48 rfl rfl ?_
  refine j_bipush (v := 63) X dJ6_bitCount_0f7a4_49 (by decide) ?_
  refine j_iand X dJ6_bitCount_0f7a4_51 ?_
  obtain ⟨rfl, rfl⟩ := jin2 h
  exact j_iret X R0 dJ6_bitCount_0f7a4_52
def X2_between_L5_b (p0 : Nat) (p1 : Int32) (p2 : Int32) (rec : Int32 × Int32 → jMem → Option ((Int32) × jMem)) (x3 : Int32) (x4 : Int32) (σ : jMem) : Option ((Int32) × jMem) :=
  if (σ.1 p0 5) ≤ x4 then
  some (x3, σ)
else
  jld σ (p0 + 1) 12 x4 (fun v1 =>
  jbd (f_X11_bitOf p2 v1 σ) (fun v2 σ3 =>
  jld σ3 (p0 + 2) 12 x4 (fun v5 =>
  jbd (f_X11_bitOf p2 v5 σ3) (fun v6 σ7 =>
  if v2 = v6 then
  rec (x3, (x4 + 1)) σ7
else
  jlet ((x3 ||| ((1 : Int32) <<< (x4 &&& 31)))) (fun v9 =>
  rec (v9, (x4 + 1)) σ7)))))
def X2_between_L5 (p0 : Nat) (p1 : Int32) (p2 : Int32) : Nat → Int32 × Int32 → jMem → Option ((Int32) × jMem) := jloop (fun rec s σ => X2_between_L5_b p0 p1 p2 rec s.1 s.2 σ)
set_option maxRecDepth 100000 in
set_option maxHeartbeats 4000000 in
theorem X2_between_L5_bok {K : jK} (X : JX K cX2_between 5 RX2 1 21) {p0 : Nat} {p1 : Int32} {p2 : Int32} (hp0 : jisP p0) {rec : Int32 × Int32 → jMem → Option ((Int32) × jMem)} (ih : ∀ (s : Int32 × Int32) (σ : jMem) (o : (Int32) × jMem), rec s σ = some o → (J K 52 [none, some (.int p1), none, some (.int o.1), none] [] o.2) → J K 5 [some (.ref p0), some (.int p1), some (.int p2), some (.int s.1), some (.int s.2)] [] σ) : ∀ (x3 : Int32) (x4 : Int32) (σ : jMem) (o : (Int32) × jMem), X2_between_L5_b p0 p1 p2 rec x3 x4 σ = some o → (J K 52 [none, some (.int p1), none, some (.int o.1), none] [] o.2) → J K 5 [some (.ref p0), some (.int p1), some (.int p2), some (.int x3), some (.int x4)] [] σ := by
  intro x3 x4 σ o h kk
  unfold X2_between_L5_b at h
  refine j_iload X dX2_between_5 rfl ?_
  refine j_aload_n X 0 dX2_between_7 rfl rfl ?_
  refine j_getI X fg_RX2_65 (jp_lt hp0) (jp_ly hp0) rfl dX2_between_8 ?_
  refine j_icmp_ge (tgt := 52) X dX2_between_11 (by decide) h (fun h => ?_) (fun h => ?_)
  · obtain rfl := Option.some.inj h
    exact j_sub (ls' := [none, some (.int p1), none, some (.int x3), none]) ⟨Or.inl rfl, Or.inr rfl, Or.inl rfl, Or.inr rfl, Or.inl rfl, trivial⟩ kk
  · refine j_iload_n X 2 dX2_between_14 rfl rfl ?_
    refine j_aload_n X 0 dX2_between_15 rfl rfl ?_
    refine j_getR (t := (p0 + 1)) X fg_RX2_72 (jp_lt hp0) (jp_ly hp0) rfl dX2_between_16 ?_
    refine j_iload X dX2_between_19 rfl ?_
    refine j_iaload X (jp_lt1 hp0) (jp_ly1 hp0) dX2_between_21 h (fun v1 h => ?_)
    obtain ⟨v2, σ3, hm4, h⟩ := jbd_some h
    refine j_callN (as := [.int p2, .int v1]) (st := []) (st1 := [.int v2]) X sn_RX2_68 ⟨by decide, by decide⟩ rfl rfl (Nat.le_of_ble_eq_true rfl) rfl dX2_between_22 jrv_i (c_X11_bitOf  hm4) rfl ?_
    refine j_iload_n X 2 dX2_between_25 rfl rfl ?_
    refine j_aload_n X 0 dX2_between_26 rfl rfl ?_
    refine j_getR (t := (p0 + 2)) X fg_RX2_75 (jp_lt hp0) (jp_ly hp0) rfl dX2_between_27 ?_
    refine j_iload X dX2_between_30 rfl ?_
    refine j_iaload X (jp_lt2 hp0) (jp_ly2 hp0) dX2_between_32 h (fun v5 h => ?_)
    obtain ⟨v6, σ7, hm8, h⟩ := jbd_some h
    refine j_callN (as := [.int p2, .int v5]) (st := [.int v2]) (st1 := [.int v6, .int v2]) X sn_RX2_68 ⟨by decide, by decide⟩ rfl rfl (Nat.le_of_ble_eq_true rfl) rfl dX2_between_33 jrv_i (c_X11_bitOf  hm8) rfl ?_
    refine j_icmp_eq (tgt := 46) X dX2_between_36 (by decide) h (fun h => ?_) (fun h => ?_)
    · refine j_iinc (v := (x4 + 1)) (ls' := [some (.ref p0), some (.int p1), some (.int p2), some (.int x3), some (.int (x4 + 1))]) X dX2_between_46 rfl rfl (Nat.le_of_ble_eq_true rfl) rfl ?_
      refine j_goto (tgt := 5) X dX2_between_49 (by decide) ?_
      exact ih (x3, (x4 + 1)) σ7 _ h kk
    · refine j_iload_n X 3 dX2_between_39 rfl rfl ?_
      refine j_iconst (v := 1) X dX2_between_40 (by decide) ?_
      refine j_iload X dX2_between_41 rfl ?_
      refine j_ishl X dX2_between_43 ?_
      refine j_ior X dX2_between_44 ?_
      refine j_letI h (fun v9 h => ?_)
      refine j_istore_n (ls' := [some (.ref p0), some (.int p1), some (.int p2), some (.int v9), some (.int x4)]) X 3 dX2_between_45 rfl (Nat.le_of_ble_eq_true rfl) rfl ?_
      refine j_iinc (v := (x4 + 1)) (ls' := [some (.ref p0), some (.int p1), some (.int p2), some (.int v9), some (.int (x4 + 1))]) X dX2_between_46 rfl rfl (Nat.le_of_ble_eq_true rfl) rfl ?_
      refine j_goto (tgt := 5) X dX2_between_49 (by decide) ?_
      exact ih (v9, (x4 + 1)) σ7 _ h kk
theorem X2_between_L5_ok {K : jK} (X : JX K cX2_between 5 RX2 1 21) {p0 : Nat} {p1 : Int32} {p2 : Int32} (hp0 : jisP p0) : ∀ (n : Nat) (s : Int32 × Int32) (σ : jMem) (o : (Int32) × jMem), X2_between_L5 p0 p1 p2 n s σ = some o → (J K 52 [none, some (.int p1), none, some (.int o.1), none] [] o.2) → J K 5 [some (.ref p0), some (.int p1), some (.int p2), some (.int s.1), some (.int s.2)] [] σ := by
  intro n
  induction n with
  | zero => intro s σ o h; cases h
  | succ n ih => intro s σ o h; exact X2_between_L5_bok X hp0 ih (s.1) (s.2) σ o h
def f_X2_between (a0 : Nat) (a1 : Int32) (a2 : Int32) (σ : jMem) : Option (Int32 × jMem) :=
  jbd (X2_between_L5 (a0) (a1) (a2) jFU ((0 : Int32), (0 : Int32)) σ) (fun q10 σ11 =>
  some (((q10 &&& a1), σ11)))
set_option maxRecDepth 100000 in
set_option maxHeartbeats 4000000 in
theorem c_X2_between {l : Launch} {D : va_G} {ad : Nat → Nat} {cid : Nat → ClassId} {a0 : Nat} {a1 : Int32} {a2 : Int32} (ha0 : jisP a0) {σ : jMem} {r : Int32} {σ' : jMem} (h : f_X2_between a0 a1 a2 σ = some (r, σ')) : jMet l D ad cid yX2_between cX2_between 5 (some .int) 1 21 [.ref a0, .int a1, .int a2] σ (some (.int r)) σ' := by
  refine jMet_of (ls0 := [some (.ref a0), some (.int a1), some (.int a2), none, none]) (by decide) (Nat.le_of_ble_eq_true rfl) rfl (fun K X R0 _ => ?_)
  unfold f_X2_between at h
  refine j_iconst (v := 0) X dX2_between_0 (by decide) ?_
  refine j_istore_n (ls' := [some (.ref a0), some (.int a1), some (.int a2), some (.int (0 : Int32)), none]) X 3 dX2_between_1 rfl (Nat.le_of_ble_eq_true rfl) rfl ?_
  refine j_iconst (v := 0) X dX2_between_2 (by decide) ?_
  refine j_istore (ls' := [some (.ref a0), some (.int a1), some (.int a2), some (.int (0 : Int32)), some (.int (0 : Int32))]) X dX2_between_3 (Nat.le_of_ble_eq_true rfl) rfl ?_
  obtain ⟨q10, σ11, hL12, h⟩ := jbd_some h
  refine X2_between_L5_ok X ha0 jFU ((0 : Int32), (0 : Int32)) σ _ hL12 ?_
  refine j_iload_n X 3 dX2_between_52 rfl rfl ?_
  refine j_iload_n X 1 dX2_between_53 rfl rfl ?_
  refine j_iand X dX2_between_54 ?_
  obtain ⟨rfl, rfl⟩ := jin2 h
  exact j_iret X R0 dX2_between_55
theorem ss_RX2_85 : jSiS RX2 85 yX2_between cX2_between 5 (some .int) 3 := ⟨tw_661, tw_662, tw_11, tw_663, by decide, by decide, by decide +kernel⟩
theorem ss_RX2_88 : jSiS RX2 88 yJ6_bitCount_0f7a4 cJ6_bitCount_0f7a4 1 (some .int) 1 := ⟨tw_664, tw_665, tw_16, tw_666, by decide, by decide, by decide +kernel⟩
def X2_fewestGates_L6_b (p1 : Nat) (p2 : Int32) (p3 : Int32) (rec : Int32 × Int32 → jMem → Option ((Int32) × jMem)) (x4 : Int32) (x5 : Int32) (σ : jMem) : Option ((Int32) × jMem) :=
  if (256 : Int32) ≤ x5 then
  some (x4, σ)
else
  jbd (f_X11_bitOf x5 p3 σ) (fun v1 σ2 =>
  if ¬ v1 = (1 : Int32) then
  rec (x4, (x5 + 1)) σ2
else
  jbd (f_X11_bitOf x5 (σ2.1 p1 2) σ2) (fun v4 σ5 =>
  if ¬ v4 = 0 then
  rec (x4, (x5 + 1)) σ5
else
  jbd (f_X2_between p1 p2 x5 σ5) (fun v7 σ8 =>
  jbd (f_J6_bitCount_0f7a4 v7 σ8) (fun v10 σ11 =>
  jbd (f_J6_bitCount_0f7a4 x4 σ11) (fun v13 σ14 =>
  jlet ((v10 - v13)) (fun v16 =>
  if v16 < 0 then
  rec (v7, (x5 + 1)) σ14
else
  if ¬ v16 = 0 then
  rec (x4, (x5 + 1)) σ14
else
  if x4 ≤ v7 then
  rec (x4, (x5 + 1)) σ14
else
  rec (v7, (x5 + 1)) σ14))))))
def X2_fewestGates_L6 (p1 : Nat) (p2 : Int32) (p3 : Int32) : Nat → Int32 × Int32 → jMem → Option ((Int32) × jMem) := jloop (fun rec s σ => X2_fewestGates_L6_b p1 p2 p3 rec s.1 s.2 σ)
set_option maxRecDepth 100000 in
set_option maxHeartbeats 4000000 in
theorem X2_fewestGates_L6_bok {K : jK} (X : JX K cX2_fewestGates 8 RX2 2 45) {p1 : Nat} {p2 : Int32} {p3 : Int32} (hp1 : jisP p1) {rec : Int32 × Int32 → jMem → Option ((Int32) × jMem)} (ih : ∀ (s : Int32 × Int32) (σ : jMem) (o : (Int32) × jMem), rec s σ = some o → (J K 85 [none, none, none, none, some (.int o.1), none, none, none] [] o.2) → J K 6 [none, some (.ref p1), some (.int p2), some (.int p3), some (.int s.1), some (.int s.2), none, none] [] σ) : ∀ (x4 : Int32) (x5 : Int32) (σ : jMem) (o : (Int32) × jMem), X2_fewestGates_L6_b p1 p2 p3 rec x4 x5 σ = some o → (J K 85 [none, none, none, none, some (.int o.1), none, none, none] [] o.2) → J K 6 [none, some (.ref p1), some (.int p2), some (.int p3), some (.int x4), some (.int x5), none, none] [] σ := by
  intro x4 x5 σ o h kk
  unfold X2_fewestGates_L6_b at h
  refine j_iload X dX2_fewestGates_6 rfl ?_
  refine j_sipush (v := 256) X dX2_fewestGates_8 (by decide) ?_
  refine j_icmp_ge (tgt := 85) X dX2_fewestGates_11 (by decide) h (fun h => ?_) (fun h => ?_)
  · obtain rfl := Option.some.inj h
    exact j_sub (ls' := [none, none, none, none, some (.int x4), none, none, none]) ⟨Or.inl rfl, Or.inl rfl, Or.inl rfl, Or.inl rfl, Or.inr rfl, Or.inl rfl, Or.inl rfl, Or.inl rfl, trivial⟩ kk
  · refine j_iload X dX2_fewestGates_14 rfl ?_
    refine j_iload_n X 3 dX2_fewestGates_16 rfl rfl ?_
    obtain ⟨v1, σ2, hm3, h⟩ := jbd_some h
    refine j_callN (as := [.int x5, .int p3]) (st := []) (st1 := [.int v1]) X sn_RX2_68 ⟨by decide, by decide⟩ rfl rfl (Nat.le_of_ble_eq_true rfl) rfl dX2_fewestGates_17 jrv_i (c_X11_bitOf  hm3) rfl ?_
    refine j_iconst (v := 1) X dX2_fewestGates_20 (by decide) ?_
    refine j_icmp_ne (tgt := 79) X dX2_fewestGates_21 (by decide) h (fun h => ?_) (fun h => ?_)
    · refine j_iinc (v := (x5 + 1)) (ls' := [none, some (.ref p1), some (.int p2), some (.int p3), some (.int x4), some (.int (x5 + 1)), none, none]) X dX2_fewestGates_79 rfl rfl (Nat.le_of_ble_eq_true rfl) rfl ?_
      refine j_goto (tgt := 6) X dX2_fewestGates_82 (by decide) ?_
      exact ih (x4, (x5 + 1)) σ2 _ h kk
    · refine j_iload X dX2_fewestGates_24 rfl ?_
      refine j_aload_n X 1 dX2_fewestGates_26 rfl rfl ?_
      refine j_getI X fg_RX2_30 (jp_lt hp1) (jp_ly hp1) rfl dX2_fewestGates_27 ?_
      obtain ⟨v4, σ5, hm6, h⟩ := jbd_some h
      refine j_callN (as := [.int x5, .int (σ2.1 p1 2)]) (st := []) (st1 := [.int v4]) X sn_RX2_68 ⟨by decide, by decide⟩ rfl rfl (Nat.le_of_ble_eq_true rfl) rfl dX2_fewestGates_30 jrv_i (c_X11_bitOf  hm6) rfl ?_
      refine j_if_ne (tgt := 79) X dX2_fewestGates_33 (by decide) h (fun h => ?_) (fun h => ?_)
      · refine j_iinc (v := (x5 + 1)) (ls' := [none, some (.ref p1), some (.int p2), some (.int p3), some (.int x4), some (.int (x5 + 1)), none, none]) X dX2_fewestGates_79 rfl rfl (Nat.le_of_ble_eq_true rfl) rfl ?_
        refine j_goto (tgt := 6) X dX2_fewestGates_82 (by decide) ?_
        exact ih (x4, (x5 + 1)) σ5 _ h kk
      · refine j_aload_n X 1 dX2_fewestGates_36 rfl rfl ?_
        refine j_iload_n X 2 dX2_fewestGates_37 rfl rfl ?_
        refine j_iload X dX2_fewestGates_38 rfl ?_
        obtain ⟨v7, σ8, hm9, h⟩ := jbd_some h
        refine j_callS (as := [.ref p1, .int p2, .int x5]) (st := []) (st1 := [.int v7]) X ss_RX2_85 ⟨by decide, by decide⟩ rfl rfl (Nat.le_of_ble_eq_true rfl) rfl dX2_fewestGates_40 jrv_i (c_X2_between hp1 hm9) rfl ?_
        refine j_istore (ls' := [none, some (.ref p1), some (.int p2), some (.int p3), some (.int x4), some (.int x5), some (.int v7), none]) X dX2_fewestGates_43 (Nat.le_of_ble_eq_true rfl) rfl ?_
        refine j_iload X dX2_fewestGates_45 rfl ?_
        obtain ⟨v10, σ11, hm12, h⟩ := jbd_some h
        refine j_callS (as := [.int v7]) (st := []) (st1 := [.int v10]) X ss_RX2_88 ⟨by decide, by decide⟩ rfl rfl (Nat.le_of_ble_eq_true rfl) rfl dX2_fewestGates_47 jrv_i (c_J6_bitCount_0f7a4  hm12) rfl ?_
        refine j_iload X dX2_fewestGates_50 rfl ?_
        obtain ⟨v13, σ14, hm15, h⟩ := jbd_some h
        refine j_callS (as := [.int x4]) (st := [.int v10]) (st1 := [.int v13, .int v10]) X ss_RX2_88 ⟨by decide, by decide⟩ rfl rfl (Nat.le_of_ble_eq_true rfl) rfl dX2_fewestGates_52 jrv_i (c_J6_bitCount_0f7a4  hm15) rfl ?_
        refine j_isub X dX2_fewestGates_55 ?_
        refine j_letI h (fun v16 h => ?_)
        refine j_istore (ls' := [none, some (.ref p1), some (.int p2), some (.int p3), some (.int x4), some (.int x5), some (.int v7), some (.int v16)]) X dX2_fewestGates_56 (Nat.le_of_ble_eq_true rfl) rfl ?_
        refine j_iload X dX2_fewestGates_58 rfl ?_
        refine j_if_lt (tgt := 75) X dX2_fewestGates_60 (by decide) h (fun h => ?_) (fun h => ?_)
        · refine j_iload X dX2_fewestGates_75 rfl ?_
          refine j_istore (ls' := [none, some (.ref p1), some (.int p2), some (.int p3), some (.int v7), some (.int x5), some (.int v7), some (.int v16)]) X dX2_fewestGates_77 (Nat.le_of_ble_eq_true rfl) rfl ?_
          refine j_iinc (v := (x5 + 1)) (ls' := [none, some (.ref p1), some (.int p2), some (.int p3), some (.int v7), some (.int (x5 + 1)), some (.int v7), some (.int v16)]) X dX2_fewestGates_79 rfl rfl (Nat.le_of_ble_eq_true rfl) rfl ?_
          refine j_goto (tgt := 6) X dX2_fewestGates_82 (by decide) ?_
          exact j_sub (ls' := [none, some (.ref p1), some (.int p2), some (.int p3), some (.int v7), some (.int (x5 + 1)), none, none]) ⟨Or.inl rfl, Or.inr rfl, Or.inr rfl, Or.inr rfl, Or.inr rfl, Or.inr rfl, Or.inl rfl, Or.inl rfl, trivial⟩ (ih (v7, (x5 + 1)) σ14 _ h kk)
        · refine j_iload X dX2_fewestGates_63 rfl ?_
          refine j_if_ne (tgt := 79) X dX2_fewestGates_65 (by decide) h (fun h => ?_) (fun h => ?_)
          · refine j_iinc (v := (x5 + 1)) (ls' := [none, some (.ref p1), some (.int p2), some (.int p3), some (.int x4), some (.int (x5 + 1)), some (.int v7), some (.int v16)]) X dX2_fewestGates_79 rfl rfl (Nat.le_of_ble_eq_true rfl) rfl ?_
            refine j_goto (tgt := 6) X dX2_fewestGates_82 (by decide) ?_
            exact j_sub (ls' := [none, some (.ref p1), some (.int p2), some (.int p3), some (.int x4), some (.int (x5 + 1)), none, none]) ⟨Or.inl rfl, Or.inr rfl, Or.inr rfl, Or.inr rfl, Or.inr rfl, Or.inr rfl, Or.inl rfl, Or.inl rfl, trivial⟩ (ih (x4, (x5 + 1)) σ14 _ h kk)
          · refine j_iload X dX2_fewestGates_68 rfl ?_
            refine j_iload X dX2_fewestGates_70 rfl ?_
            refine j_icmp_ge (tgt := 79) X dX2_fewestGates_72 (by decide) h (fun h => ?_) (fun h => ?_)
            · refine j_iinc (v := (x5 + 1)) (ls' := [none, some (.ref p1), some (.int p2), some (.int p3), some (.int x4), some (.int (x5 + 1)), some (.int v7), some (.int v16)]) X dX2_fewestGates_79 rfl rfl (Nat.le_of_ble_eq_true rfl) rfl ?_
              refine j_goto (tgt := 6) X dX2_fewestGates_82 (by decide) ?_
              exact j_sub (ls' := [none, some (.ref p1), some (.int p2), some (.int p3), some (.int x4), some (.int (x5 + 1)), none, none]) ⟨Or.inl rfl, Or.inr rfl, Or.inr rfl, Or.inr rfl, Or.inr rfl, Or.inr rfl, Or.inl rfl, Or.inl rfl, trivial⟩ (ih (x4, (x5 + 1)) σ14 _ h kk)
            · refine j_iload X dX2_fewestGates_75 rfl ?_
              refine j_istore (ls' := [none, some (.ref p1), some (.int p2), some (.int p3), some (.int v7), some (.int x5), some (.int v7), some (.int v16)]) X dX2_fewestGates_77 (Nat.le_of_ble_eq_true rfl) rfl ?_
              refine j_iinc (v := (x5 + 1)) (ls' := [none, some (.ref p1), some (.int p2), some (.int p3), some (.int v7), some (.int (x5 + 1)), some (.int v7), some (.int v16)]) X dX2_fewestGates_79 rfl rfl (Nat.le_of_ble_eq_true rfl) rfl ?_
              refine j_goto (tgt := 6) X dX2_fewestGates_82 (by decide) ?_
              exact j_sub (ls' := [none, some (.ref p1), some (.int p2), some (.int p3), some (.int v7), some (.int (x5 + 1)), none, none]) ⟨Or.inl rfl, Or.inr rfl, Or.inr rfl, Or.inr rfl, Or.inr rfl, Or.inr rfl, Or.inl rfl, Or.inl rfl, trivial⟩ (ih (v7, (x5 + 1)) σ14 _ h kk)
theorem X2_fewestGates_L6_ok {K : jK} (X : JX K cX2_fewestGates 8 RX2 2 45) {p1 : Nat} {p2 : Int32} {p3 : Int32} (hp1 : jisP p1) : ∀ (n : Nat) (s : Int32 × Int32) (σ : jMem) (o : (Int32) × jMem), X2_fewestGates_L6 p1 p2 p3 n s σ = some o → (J K 85 [none, none, none, none, some (.int o.1), none, none, none] [] o.2) → J K 6 [none, some (.ref p1), some (.int p2), some (.int p3), some (.int s.1), some (.int s.2), none, none] [] σ := by
  intro n
  induction n with
  | zero => intro s σ o h; cases h
  | succ n ih => intro s σ o h; exact X2_fewestGates_L6_bok X hp1 ih (s.1) (s.2) σ o h
def f_X2_fewestGates (a0 : Nat) (a1 : Int32) (a2 : Int32) (σ : jMem) : Option (Int32 × jMem) :=
  jbd (X2_fewestGates_L6 (a0) (a1) (a2) jFU (a1, (0 : Int32)) σ) (fun q17 σ18 =>
  some ((q17, σ18)))
set_option maxRecDepth 100000 in
set_option maxHeartbeats 4000000 in
theorem c_X2_fewestGates {l : Launch} {D : va_G} {ad : Nat → Nat} {cid : Nat → ClassId} {a0 : Nat} {a1 : Int32} {a2 : Int32} (ha0 : jisP a0) {σ : jMem} {r : Int32} {σ' : jMem} (h : f_X2_fewestGates a0 a1 a2 σ = some (r, σ')) : jMet l D ad cid yX2_fewestGates cX2_fewestGates 8 (some .int) 2 45 [.ref 80, .ref a0, .int a1, .int a2] σ (some (.int r)) σ' := by
  refine jMet_of (ls0 := [some (.ref 80), some (.ref a0), some (.int a1), some (.int a2), none, none, none, none]) (by decide) (Nat.le_of_ble_eq_true rfl) rfl (fun K X R0 _ => ?_)
  unfold f_X2_fewestGates at h
  refine j_iload_n X 2 dX2_fewestGates_0 rfl rfl ?_
  refine j_istore (ls' := [some (.ref 80), some (.ref a0), some (.int a1), some (.int a2), some (.int a1), none, none, none]) X dX2_fewestGates_1 (Nat.le_of_ble_eq_true rfl) rfl ?_
  refine j_iconst (v := 0) X dX2_fewestGates_3 (by decide) ?_
  refine j_istore (ls' := [some (.ref 80), some (.ref a0), some (.int a1), some (.int a2), some (.int a1), some (.int (0 : Int32)), none, none]) X dX2_fewestGates_4 (Nat.le_of_ble_eq_true rfl) rfl ?_
  obtain ⟨q17, σ18, hL19, h⟩ := jbd_some h
  refine j_sub (ls' := [none, some (.ref a0), some (.int a1), some (.int a2), some (.int a1), some (.int (0 : Int32)), none, none]) ⟨Or.inl rfl, Or.inr rfl, Or.inr rfl, Or.inr rfl, Or.inr rfl, Or.inr rfl, Or.inl rfl, Or.inl rfl, trivial⟩ ?_
  refine X2_fewestGates_L6_ok X ha0 jFU (a1, (0 : Int32)) σ _ hL19 ?_
  refine j_iload X dX2_fewestGates_85 rfl ?_
  obtain ⟨rfl, rfl⟩ := jin2 h
  exact j_iret X R0 dX2_fewestGates_87
