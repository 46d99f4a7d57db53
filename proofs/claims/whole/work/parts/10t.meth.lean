def X11_drawn_L66_b (p1 : Int32) (p3 : Int32) (rec : Int32 × Int64 × Int32 → jMem → Option ((Int32) × jMem)) (x4 : Int32) (x5 : Int64) (x7 : Int32) (σ : jMem) : Option ((Int32) × jMem) :=
  if p1 ≤ x7 then
  some (x4, σ)
else
  jlet (((x5 * (16807 : Int64)) - (x5 * (16807 : Int64)) / (2147483647 : Int64) * (2147483647 : Int64))) (fun v7 =>
  jbd (f_X2_isBurial 30 (((v7 - v7 / (8 : Int64) * (8 : Int64))).toInt32) σ) (fun v8 σ9 =>
  jj (fun (q12 : Int32) σ13 =>
  jbv (f_X5_pass 30 σ13) (fun σ14 =>
  rec (q12, v7, (x7 + 1)) σ14)) (fun k11 =>
  if v8 = 0 then
  k11 x4 σ9
else
  jbv (f_X5_see 30 σ9) (fun σ16 =>
  k11 (x4 + 1) σ16))))
def X11_drawn_L66 (p1 : Int32) (p3 : Int32) : Nat → Int32 × Int64 × Int32 → jMem → Option ((Int32) × jMem) := jloop (fun rec s σ => X11_drawn_L66_b p1 p3 rec s.1 s.2.1 s.2.2 σ)
set_option maxRecDepth 100000 in
set_option maxHeartbeats 4000000 in
theorem X11_drawn_L66_bok {K : jK} (X : JX K cX11_drawn 8 RX11 5 114) {p1 : Int32} {p3 : Int32}  {rec : Int32 × Int64 × Int32 → jMem → Option ((Int32) × jMem)} (ih : ∀ (s : Int32 × Int64 × Int32) (σ : jMem) (o : (Int32) × jMem), rec s σ = some o → (J K 132 [some (.ref 0), none, none, some (.int p3), some (.int o.1), none, none, none] [] o.2) → J K 66 [some (.ref 0), some (.int p1), none, some (.int p3), some (.int s.1), some (.long s.2.1), none, some (.int s.2.2)] [] σ) : ∀ (x4 : Int32) (x5 : Int64) (x7 : Int32) (σ : jMem) (o : (Int32) × jMem), X11_drawn_L66_b p1 p3 rec x4 x5 x7 σ = some o → (J K 132 [some (.ref 0), none, none, some (.int p3), some (.int o.1), none, none, none] [] o.2) → J K 66 [some (.ref 0), some (.int p1), none, some (.int p3), some (.int x4), some (.long x5), none, some (.int x7)] [] σ := by
  intro x4 x5 x7 σ o h kk
  unfold X11_drawn_L66_b at h
  refine j_iload X dX11_drawn_66 rfl ?_
  refine j_iload_n X 1 dX11_drawn_68 rfl rfl ?_
  refine j_icmp_ge (tgt := 132) X dX11_drawn_69 (by decide) h (fun h => ?_) (fun h => ?_)
  · obtain rfl := Option.some.inj h
    exact j_sub (ls' := [some (.ref 0), none, none, some (.int p3), some (.int x4), none, none, none]) ⟨Or.inr rfl, Or.inl rfl, Or.inl rfl, Or.inr rfl, Or.inr rfl, Or.inl rfl, Or.inl rfl, Or.inl rfl, trivial⟩ kk
  · refine j_lload X dX11_drawn_72 rfl ?_
    refine j_ldc2_w (v := 16807) X tw_753 dX11_drawn_74 ?_
    refine j_lmul X dX11_drawn_77 ?_
    refine j_ldc2_w (v := 2147483647) X tw_754 dX11_drawn_78 ?_
    refine j_lrem X dX11_drawn_81 (by decide) ?_
    refine j_letL h (fun v7 h => ?_)
    refine j_lstore (ls' := [some (.ref 0), some (.int p1), none, some (.int p3), some (.int x4), some (.long v7), none, some (.int x7)]) X dX11_drawn_82 (Nat.le_of_ble_eq_true rfl) rfl ?_
    refine j_aload_n X 0 dX11_drawn_84 rfl rfl ?_
    refine j_getR (t := 80) X fg_RX11_69 ln_0 ly_0 rfl dX11_drawn_85 ?_
    refine j_aload_n X 0 dX11_drawn_88 rfl rfl ?_
    refine j_getR (t := 30) X fg_RX11_54 ln_0 ly_0 rfl dX11_drawn_89 ?_
    refine j_lload X dX11_drawn_92 rfl ?_
    refine j_ldc2_w (v := 8) X tw_755 dX11_drawn_94 ?_
    refine j_lrem X dX11_drawn_97 (by decide) ?_
    refine j_l2i X dX11_drawn_98 ?_
    obtain ⟨v8, σ9, hm10, h⟩ := jbd_some h
    refine j_callV (as := [.ref 30, .int (((v7 - v7 / (8 : Int64) * (8 : Int64))).toInt32)]) (st := []) (st1 := [.int v8]) X ln_80 ly_80 rfl rfl sv_RX11_177 ⟨by decide, by decide⟩ rfl rfl (Nat.le_of_ble_eq_true rfl) rfl dX11_drawn_99 jrv_i (c_X2_isBurial jisP_30 hm10) rfl ?_
    refine j_join (pcJ := 119) (lsJ := fun q12 => [some (.ref 0), some (.int p1), none, some (.int p3), some (.int q12), some (.long v7), none, some (.int x7)]) (stJ := fun q12 => []) h (fun q12 σ13 h => ?_) (fun k11 hk11 h => ?_)
    · refine j_aload_n X 0 dX11_drawn_119 rfl rfl ?_
      refine j_getR (t := 30) X fg_RX11_54 ln_0 ly_0 rfl dX11_drawn_120 ?_
      obtain ⟨σ14, hm15, h⟩ := jbv_some h
      refine j_callV (as := []) (st := []) (st1 := []) X ln_30 ly_30 rfl rfl sv_RX11_195 ⟨by decide, by decide⟩ rfl rfl (Nat.le_of_ble_eq_true rfl) rfl dX11_drawn_123 jrv_v (c_X5_pass jisP_30 hm15) rfl ?_
      refine j_iinc (v := (x7 + 1)) (ls' := [some (.ref 0), some (.int p1), none, some (.int p3), some (.int q12), some (.long v7), none, some (.int (x7 + 1))]) X dX11_drawn_126 rfl rfl (Nat.le_of_ble_eq_true rfl) rfl ?_
      refine j_goto (tgt := 66) X dX11_drawn_129 (by decide) ?_
      exact ih (q12, v7, (x7 + 1)) σ14 _ h kk
    · refine j_if_eq (tgt := 119) X dX11_drawn_102 (by decide) h (fun h => ?_) (fun h => ?_)
      · exact hk11 x4 σ9 h
      · refine j_aload_n X 0 dX11_drawn_105 rfl rfl ?_
        refine j_getR (t := 30) X fg_RX11_54 ln_0 ly_0 rfl dX11_drawn_106 ?_
        refine j_aload_n X 0 dX11_drawn_109 rfl rfl ?_
        refine j_getR (t := 80) X fg_RX11_69 ln_0 ly_0 rfl dX11_drawn_110 ?_
        obtain ⟨σ16, hm17, h⟩ := jbv_some h
        refine j_callV (as := [.ref 80]) (st := []) (st1 := []) X ln_30 ly_30 rfl rfl sv_RX11_184 ⟨by decide, by decide⟩ rfl rfl (Nat.le_of_ble_eq_true rfl) rfl dX11_drawn_113 jrv_v (c_X5_see jisP_30 hm17) rfl ?_
        refine j_iinc (v := (x4 + 1)) (ls' := [some (.ref 0), some (.int p1), none, some (.int p3), some (.int (x4 + 1)), some (.long v7), none, some (.int x7)]) X dX11_drawn_116 rfl rfl (Nat.le_of_ble_eq_true rfl) rfl ?_
        exact hk11 (x4 + 1) σ16 h
theorem X11_drawn_L66_ok {K : jK} (X : JX K cX11_drawn 8 RX11 5 114) {p1 : Int32} {p3 : Int32}  : ∀ (n : Nat) (s : Int32 × Int64 × Int32) (σ : jMem) (o : (Int32) × jMem), X11_drawn_L66 p1 p3 n s σ = some o → (J K 132 [some (.ref 0), none, none, some (.int p3), some (.int o.1), none, none, none] [] o.2) → J K 66 [some (.ref 0), some (.int p1), none, some (.int p3), some (.int s.1), some (.long s.2.1), none, some (.int s.2.2)] [] σ := by
  intro n
  induction n with
  | zero => intro s σ o h; cases h
  | succ n ih => intro s σ o h; exact X11_drawn_L66_bok X  ih (s.1) (s.2.1) (s.2.2) σ o h
def f_X11_drawn (a0 : Int32) (a1 : Int32) (a2 : Int32) (σ : jMem) : Option (Int32 × jMem) :=
  if ¬ (σ.1 22 1) = 0 then
  if a0 < 0 then
  some (((-1000001 : Int32), σ))
else
  if (60 : Int32) < a0 then
  some (((-1000001 : Int32), σ))
else
  if a1 < (1 : Int32) then
  some (((-1000001 : Int32), σ))
else
  if (999999 : Int32) < a1 then
  some (((-1000001 : Int32), σ))
else
  jbd (f_X11_isOneOfTwo a2 σ) (fun v1 σ2 =>
  if ¬ v1 = 0 then
  jbv (f_X5_become 30 22 σ2) (fun σ4 =>
  jlet (((a1).toInt64)) (fun v6 =>
  jbd (X11_drawn_L66 (a0) (a2) jFU ((0 : Int32), v6, (0 : Int32)) σ4) (fun q18 σ19 =>
  if ¬ a2 = 0 then
  some ((q18, σ19))
else
  jbd (f_X5_ways 30 σ19) (fun v20 σ21 =>
  some ((v20, σ21))))))
else
  some (((-1000001 : Int32), σ2)))
else
  some (((-1000002 : Int32), σ))
set_option maxRecDepth 100000 in
set_option maxHeartbeats 4000000 in
theorem c_X11_drawn {l : Launch} {D : va_G} {ad : Nat → Nat} {cid : Nat → ClassId} {a0 : Int32} {a1 : Int32} {a2 : Int32}  {σ : jMem} {r : Int32} {σ' : jMem} (h : f_X11_drawn a0 a1 a2 σ = some (r, σ')) : jMet l D ad cid yX11_drawn cX11_drawn 8 (some .int) 5 114 [.ref 0, .int a0, .int a1, .int a2] σ (some (.int r)) σ' := by
  refine jMet_of (ls0 := [some (.ref 0), some (.int a0), some (.int a1), some (.int a2), none, none, none, none]) (by decide) (Nat.le_of_ble_eq_true rfl) rfl (fun K X R0 _ => ?_)
  unfold f_X11_drawn at h
  refine j_aload_n X 0 dX11_drawn_0 rfl rfl ?_
  refine j_getR (t := 22) X fg_RX11_50 ln_0 ly_0 rfl dX11_drawn_1 ?_
  refine j_getI X fg_RX11_170 ln_22 ly_22 rfl dX11_drawn_4 ?_
  refine j_if_ne (tgt := 13) X dX11_drawn_7 (by decide) h (fun h => ?_) (fun h => ?_)
  · refine j_iload_n X 1 dX11_drawn_13 rfl rfl ?_
    refine j_if_lt (tgt := 42) X dX11_drawn_14 (by decide) h (fun h => ?_) (fun h => ?_)
    · refine j_ldc (v := -1000001) X tw_318 dX11_drawn_42 ?_
      obtain ⟨rfl, rfl⟩ := jin2 h
      exact j_iret X R0 dX11_drawn_44
    · refine j_iload_n X 1 dX11_drawn_17 rfl rfl ?_
      refine j_bipush (v := 60) X dX11_drawn_18 (by decide) ?_
      refine j_icmp_gt (tgt := 42) X dX11_drawn_20 (by decide) h (fun h => ?_) (fun h => ?_)
      · refine j_ldc (v := -1000001) X tw_318 dX11_drawn_42 ?_
        obtain ⟨rfl, rfl⟩ := jin2 h
        exact j_iret X R0 dX11_drawn_44
      · refine j_iload_n X 2 dX11_drawn_23 rfl rfl ?_
        refine j_iconst (v := 1) X dX11_drawn_24 (by decide) ?_
        refine j_icmp_lt (tgt := 42) X dX11_drawn_25 (by decide) h (fun h => ?_) (fun h => ?_)
        · refine j_ldc (v := -1000001) X tw_318 dX11_drawn_42 ?_
          obtain ⟨rfl, rfl⟩ := jin2 h
          exact j_iret X R0 dX11_drawn_44
        · refine j_iload_n X 2 dX11_drawn_28 rfl rfl ?_
          refine j_ldc_w (v := 999999) X tw_752 dX11_drawn_29 ?_
          refine j_icmp_gt (tgt := 42) X dX11_drawn_32 (by decide) h (fun h => ?_) (fun h => ?_)
          · refine j_ldc (v := -1000001) X tw_318 dX11_drawn_42 ?_
            obtain ⟨rfl, rfl⟩ := jin2 h
            exact j_iret X R0 dX11_drawn_44
          · refine j_iload_n X 3 dX11_drawn_35 rfl rfl ?_
            obtain ⟨v1, σ2, hm3, h⟩ := jbd_some h
            refine j_callS (as := [.int a2]) (st := []) (st1 := [.int v1]) X ss_RX11_204 ⟨by decide, by decide⟩ rfl rfl (Nat.le_of_ble_eq_true rfl) rfl dX11_drawn_36 jrv_i (c_X11_isOneOfTwo  hm3) rfl ?_
            refine j_if_ne (tgt := 45) X dX11_drawn_39 (by decide) h (fun h => ?_) (fun h => ?_)
            · refine j_aload_n X 0 dX11_drawn_45 rfl rfl ?_
              refine j_getR (t := 30) X fg_RX11_54 ln_0 ly_0 rfl dX11_drawn_46 ?_
              refine j_aload_n X 0 dX11_drawn_49 rfl rfl ?_
              refine j_getR (t := 22) X fg_RX11_50 ln_0 ly_0 rfl dX11_drawn_50 ?_
              obtain ⟨σ4, hm5, h⟩ := jbv_some h
              refine j_callV (as := [.ref 22]) (st := []) (st1 := []) X ln_30 ly_30 rfl rfl sv_RX11_146 ⟨by decide, by decide⟩ rfl rfl (Nat.le_of_ble_eq_true rfl) rfl dX11_drawn_53 jrv_v (c_X5_become jisP_30 jisP_22 hm5) rfl ?_
              refine j_iconst (v := 0) X dX11_drawn_56 (by decide) ?_
              refine j_istore (ls' := [some (.ref 0), some (.int a0), some (.int a1), some (.int a2), some (.int (0 : Int32)), none, none, none]) X dX11_drawn_57 (Nat.le_of_ble_eq_true rfl) rfl ?_
              refine j_iload_n X 2 dX11_drawn_59 rfl rfl ?_
              refine j_i2l X dX11_drawn_60 ?_
              refine j_letL h (fun v6 h => ?_)
              refine j_lstore (ls' := [some (.ref 0), some (.int a0), some (.int a1), some (.int a2), some (.int (0 : Int32)), some (.long v6), none, none]) X dX11_drawn_61 (Nat.le_of_ble_eq_true rfl) rfl ?_
              refine j_iconst (v := 0) X dX11_drawn_63 (by decide) ?_
              refine j_istore (ls' := [some (.ref 0), some (.int a0), some (.int a1), some (.int a2), some (.int (0 : Int32)), some (.long v6), none, some (.int (0 : Int32))]) X dX11_drawn_64 (Nat.le_of_ble_eq_true rfl) rfl ?_
              obtain ⟨q18, σ19, hL23, h⟩ := jbd_some h
              refine j_sub (ls' := [some (.ref 0), some (.int a0), none, some (.int a2), some (.int (0 : Int32)), some (.long v6), none, some (.int (0 : Int32))]) ⟨Or.inr rfl, Or.inr rfl, Or.inl rfl, Or.inr rfl, Or.inr rfl, Or.inr rfl, Or.inl rfl, Or.inr rfl, trivial⟩ ?_
              refine X11_drawn_L66_ok X  jFU ((0 : Int32), v6, (0 : Int32)) σ4 _ hL23 ?_
              refine j_iload_n X 3 dX11_drawn_132 rfl rfl ?_
              refine j_if_ne (tgt := 146) X dX11_drawn_133 (by decide) h (fun h => ?_) (fun h => ?_)
              · refine j_iload X dX11_drawn_146 rfl ?_
                obtain ⟨rfl, rfl⟩ := jin2 h
                exact j_iret X R0 dX11_drawn_148
              · refine j_aload_n X 0 dX11_drawn_136 rfl rfl ?_
                refine j_getR (t := 30) X fg_RX11_54 ln_0 ly_0 rfl dX11_drawn_137 ?_
                obtain ⟨v20, σ21, hm22, h⟩ := jbd_some h
                refine j_callV (as := []) (st := []) (st1 := [.int v20]) X ln_30 ly_30 rfl rfl sv_RX11_188 ⟨by decide, by decide⟩ rfl rfl (Nat.le_of_ble_eq_true rfl) rfl dX11_drawn_140 jrv_i (c_X5_ways jisP_30 hm22) rfl ?_
                refine j_goto (tgt := 148) X dX11_drawn_143 (by decide) ?_
                obtain ⟨rfl, rfl⟩ := jin2 h
                exact j_iret X R0 dX11_drawn_148
            · refine j_ldc (v := -1000001) X tw_318 dX11_drawn_42 ?_
              obtain ⟨rfl, rfl⟩ := jin2 h
              exact j_iret X R0 dX11_drawn_44
  · refine j_ldc (v := -1000002) X tw_458 dX11_drawn_10 ?_
    obtain ⟨rfl, rfl⟩ := jin2 h
    exact j_iret X R0 dX11_drawn_12
def f_X11_image (a0 : Int32) (σ : jMem) : Option (Int32 × jMem) :=
  if a0 < 0 then
  some (((-1000001 : Int32), σ))
else
  if a0 < (2 : Int32) then
  if ¬ (σ.1 22 1) = 0 then
  jldr 2 38 8 a0 (fun k1 =>
  jbv (f_X5_become k1 22 σ) (fun σ2 =>
  some (((1 : Int32), σ2))))
else
  some (((-1000002 : Int32), σ))
else
  some (((-1000001 : Int32), σ))
set_option maxRecDepth 100000 in
set_option maxHeartbeats 4000000 in
theorem c_X11_image {l : Launch} {D : va_G} {ad : Nat → Nat} {cid : Nat → ClassId} {a0 : Int32}  {σ : jMem} {r : Int32} {σ' : jMem} (h : f_X11_image a0 σ = some (r, σ')) : jMet l D ad cid yX11_image cX11_image 2 (some .int) 2 57 [.ref 0, .int a0] σ (some (.int r)) σ' := by
  refine jMet_of (ls0 := [some (.ref 0), some (.int a0)]) (by decide) (Nat.le_of_ble_eq_true rfl) rfl (fun K X R0 _ => ?_)
  unfold f_X11_image at h
  refine j_iload_n X 1 dX11_image_0 rfl rfl ?_
  refine j_if_lt (tgt := 9) X dX11_image_1 (by decide) h (fun h => ?_) (fun h => ?_)
  · refine j_ldc (v := -1000001) X tw_318 dX11_image_9 ?_
    obtain ⟨rfl, rfl⟩ := jin2 h
    exact j_iret X R0 dX11_image_11
  · refine j_iload_n X 1 dX11_image_4 rfl rfl ?_
    refine j_iconst (v := 2) X dX11_image_5 (by decide) ?_
    refine j_icmp_lt (tgt := 12) X dX11_image_6 (by decide) h (fun h => ?_) (fun h => ?_)
    · refine j_aload_n X 0 dX11_image_12 rfl rfl ?_
      refine j_getR (t := 22) X fg_RX11_50 ln_0 ly_0 rfl dX11_image_13 ?_
      refine j_getI X fg_RX11_170 ln_22 ly_22 rfl dX11_image_16 ?_
      refine j_if_ne (tgt := 25) X dX11_image_19 (by decide) h (fun h => ?_) (fun h => ?_)
      · refine j_aload_n X 0 dX11_image_25 rfl rfl ?_
        refine j_getR (t := 54) X fg_RX11_57 ln_0 ly_0 rfl dX11_image_26 ?_
        refine j_iload_n X 1 dX11_image_29 rfl rfl ?_
        refine j_aaload X ln_54 ly_54 (Or.inr (Or.inl rfl)) dX11_image_30 h (fun k1 qk1 h => ?_)
        have hk1 := jrow2 qk1
        refine j_aload_n X 0 dX11_image_31 rfl rfl ?_
        refine j_getR (t := 22) X fg_RX11_50 ln_0 ly_0 rfl dX11_image_32 ?_
        obtain ⟨σ2, hm3, h⟩ := jbv_some h
        refine j_callV (as := [.ref 22]) (st := []) (st1 := []) X (jp_lt hk1) (jp_ly hk1) rfl rfl sv_RX11_146 ⟨by decide, by decide⟩ rfl rfl (Nat.le_of_ble_eq_true rfl) rfl dX11_image_35 jrv_v (c_X5_become hk1 jisP_22 hm3) rfl ?_
        refine j_iconst (v := 1) X dX11_image_38 (by decide) ?_
        obtain ⟨rfl, rfl⟩ := jin2 h
        exact j_iret X R0 dX11_image_39
      · refine j_ldc (v := -1000002) X tw_458 dX11_image_22 ?_
        obtain ⟨rfl, rfl⟩ := jin2 h
        exact j_iret X R0 dX11_image_24
    · refine j_ldc (v := -1000001) X tw_318 dX11_image_9 ?_
      obtain ⟨rfl, rfl⟩ := jin2 h
      exact j_iret X R0 dX11_image_11
def f_X11_restore (a0 : Int32) (σ : jMem) : Option (Int32 × jMem) :=
  if a0 < 0 then
  some (((-1000001 : Int32), σ))
else
  if a0 < (2 : Int32) then
  jldr 2 38 8 a0 (fun k1 =>
  if ¬ (σ.1 k1 1) = 0 then
  jldr 2 38 8 a0 (fun k2 =>
  jbv (f_X5_become 22 k2 σ) (fun σ3 =>
  jbv (f_X11_forgetActs  σ3) (fun σ5 =>
  some (((1 : Int32), σ5)))))
else
  some (((-1000002 : Int32), σ)))
else
  some (((-1000001 : Int32), σ))
set_option maxRecDepth 100000 in
set_option maxHeartbeats 4000000 in
theorem c_X11_restore {l : Launch} {D : va_G} {ad : Nat → Nat} {cid : Nat → ClassId} {a0 : Int32}  {σ : jMem} {r : Int32} {σ' : jMem} (h : f_X11_restore a0 σ = some (r, σ')) : jMet l D ad cid yX11_restore cX11_restore 2 (some .int) 2 57 [.ref 0, .int a0] σ (some (.int r)) σ' := by
  refine jMet_of (ls0 := [some (.ref 0), some (.int a0)]) (by decide) (Nat.le_of_ble_eq_true rfl) rfl (fun K X R0 _ => ?_)
  unfold f_X11_restore at h
  refine j_iload_n X 1 dX11_restore_0 rfl rfl ?_
  refine j_if_lt (tgt := 9) X dX11_restore_1 (by decide) h (fun h => ?_) (fun h => ?_)
  · refine j_ldc (v := -1000001) X tw_318 dX11_restore_9 ?_
    obtain ⟨rfl, rfl⟩ := jin2 h
    exact j_iret X R0 dX11_restore_11
  · refine j_iload_n X 1 dX11_restore_4 rfl rfl ?_
    refine j_iconst (v := 2) X dX11_restore_5 (by decide) ?_
    refine j_icmp_lt (tgt := 12) X dX11_restore_6 (by decide) h (fun h => ?_) (fun h => ?_)
    · refine j_aload_n X 0 dX11_restore_12 rfl rfl ?_
      refine j_getR (t := 54) X fg_RX11_57 ln_0 ly_0 rfl dX11_restore_13 ?_
      refine j_iload_n X 1 dX11_restore_16 rfl rfl ?_
      refine j_aaload X ln_54 ly_54 (Or.inr (Or.inl rfl)) dX11_restore_17 h (fun k1 qk1 h => ?_)
      have hk1 := jrow2 qk1
      refine j_getI X fg_RX11_170 (jp_lt hk1) (jp_ly hk1) rfl dX11_restore_18 ?_
      refine j_if_ne (tgt := 27) X dX11_restore_21 (by decide) h (fun h => ?_) (fun h => ?_)
      · refine j_aload_n X 0 dX11_restore_27 rfl rfl ?_
        refine j_getR (t := 22) X fg_RX11_50 ln_0 ly_0 rfl dX11_restore_28 ?_
        refine j_aload_n X 0 dX11_restore_31 rfl rfl ?_
        refine j_getR (t := 54) X fg_RX11_57 ln_0 ly_0 rfl dX11_restore_32 ?_
        refine j_iload_n X 1 dX11_restore_35 rfl rfl ?_
        refine j_aaload X ln_54 ly_54 (Or.inr (Or.inl rfl)) dX11_restore_36 h (fun k2 qk2 h => ?_)
        have hk2 := jrow2 qk2
        obtain ⟨σ3, hm4, h⟩ := jbv_some h
        refine j_callV (as := [.ref k2]) (st := []) (st1 := []) X ln_22 ly_22 rfl rfl sv_RX11_146 ⟨by decide, by decide⟩ rfl rfl (Nat.le_of_ble_eq_true rfl) rfl dX11_restore_37 jrv_v (c_X5_become jisP_22 hk2 hm4) rfl ?_
        refine j_aload_n X 0 dX11_restore_40 rfl rfl ?_
        obtain ⟨σ5, hm6, h⟩ := jbv_some h
        refine j_callV (as := []) (st := []) (st1 := []) X ln_0 ly_0 rfl rfl sv_RX11_150 ⟨by decide, by decide⟩ rfl rfl (Nat.le_of_ble_eq_true rfl) rfl dX11_restore_41 jrv_v (c_X11_forgetActs  hm6) rfl ?_
        refine j_iconst (v := 1) X dX11_restore_44 (by decide) ?_
        obtain ⟨rfl, rfl⟩ := jin2 h
        exact j_iret X R0 dX11_restore_45
      · refine j_ldc (v := -1000002) X tw_458 dX11_restore_24 ?_
        obtain ⟨rfl, rfl⟩ := jin2 h
        exact j_iret X R0 dX11_restore_26
    · refine j_ldc (v := -1000001) X tw_318 dX11_restore_9 ?_
      obtain ⟨rfl, rfl⟩ := jin2 h
      exact j_iret X R0 dX11_restore_11
def f_X11_kind (a0 : Int32) (σ : jMem) : Option (Int32 × jMem) :=
  jbd (f_X5_hasWitness 22 a0 σ) (fun v1 σ2 =>
  if v1 = 0 then
  some (((-1000001 : Int32), σ2))
else
  jld σ2 26 6 a0 (fun v4 =>
  some ((v4, σ2))))
set_option maxRecDepth 100000 in
set_option maxHeartbeats 4000000 in
theorem c_X11_kind {l : Launch} {D : va_G} {ad : Nat → Nat} {cid : Nat → ClassId} {a0 : Int32}  {σ : jMem} {r : Int32} {σ' : jMem} (h : f_X11_kind a0 σ = some (r, σ')) : jMet l D ad cid yX11_kind cX11_kind 2 (some .int) 1 21 [.ref 0, .int a0] σ (some (.int r)) σ' := by
  refine jMet_of (ls0 := [some (.ref 0), some (.int a0)]) (by decide) (Nat.le_of_ble_eq_true rfl) rfl (fun K X R0 _ => ?_)
  unfold f_X11_kind at h
  refine j_aload_n X 0 dX11_kind_0 rfl rfl ?_
  refine j_getR (t := 22) X fg_RX11_50 ln_0 ly_0 rfl dX11_kind_1 ?_
  refine j_iload_n X 1 dX11_kind_4 rfl rfl ?_
  obtain ⟨v1, σ2, hm3, h⟩ := jbd_some h
  refine j_callV (as := [.int a0]) (st := []) (st1 := [.int v1]) X ln_22 ly_22 rfl rfl sv_RX11_214 ⟨by decide, by decide⟩ rfl rfl (Nat.le_of_ble_eq_true rfl) rfl dX11_kind_5 jrv_i (c_X5_hasWitness jisP_22 hm3) rfl ?_
  refine j_if_eq (tgt := 23) X dX11_kind_8 (by decide) h (fun h => ?_) (fun h => ?_)
  · refine j_ldc (v := -1000001) X tw_318 dX11_kind_23 ?_
    obtain ⟨rfl, rfl⟩ := jin2 h
    exact j_iret X R0 dX11_kind_25
  · refine j_aload_n X 0 dX11_kind_11 rfl rfl ?_
    refine j_getR (t := 22) X fg_RX11_50 ln_0 ly_0 rfl dX11_kind_12 ?_
    refine j_getR (t := 26) X fg_RX11_313 ln_22 ly_22 rfl dX11_kind_15 ?_
    refine j_iload_n X 1 dX11_kind_18 rfl rfl ?_
    refine j_iaload X ln_26 ly_26 dX11_kind_19 h (fun v4 h => ?_)
    refine j_goto (tgt := 25) X dX11_kind_20 (by decide) ?_
    obtain ⟨rfl, rfl⟩ := jin2 h
    exact j_iret X R0 dX11_kind_25
def f_X11_isOfKind (a0 : Nat) (a1 : Int32) (σ : jMem) : Option (Int32 × jMem) :=
  if a1 = 0 then
  some (((1 : Int32), σ))
else
  if a1 = 1 then
  jck (jisb (jio_30 a0) = true) (some (((jio_30 a0), σ)))
else
  if a1 = 2 then
  jck (jisb (jio_33 a0) = true) (some (((jio_33 a0), σ)))
else
  if a1 = 3 then
  jck (jisb (jio_36 a0) = true) (some (((jio_36 a0), σ)))
else
  if a1 = 4 then
  jck (jisb (jio_39 a0) = true) (some (((jio_39 a0), σ)))
else
  if a1 = 5 then
  jck (jisb (jio_42 a0) = true) (some (((jio_42 a0), σ)))
else
  some (((0 : Int32), σ))
set_option maxRecDepth 100000 in
set_option maxHeartbeats 4000000 in
theorem c_X11_isOfKind {l : Launch} {D : va_G} {ad : Nat → Nat} {cid : Nat → ClassId} {a0 : Nat} {a1 : Int32} (ha0 : 16 ≤ a0 ∧ a0 ≤ 21) {σ : jMem} {r : Int32} {σ' : jMem} (h : f_X11_isOfKind a0 a1 σ = some (r, σ')) : jMet l D ad cid yX11_isOfKind cX11_isOfKind 2 (some .boolean) 0 0 [.ref a0, .int a1] σ (some (.int r)) σ' := by
  refine jMet_of (ls0 := [some (.ref a0), some (.int a1)]) (by decide) (Nat.le_of_ble_eq_true rfl) rfl (fun K X R0 _ => ?_)
  unfold f_X11_isOfKind at h
  refine j_iload_n X 1 dX11_isOfKind_0 rfl rfl ?_
  by_cases hs1 : a1 = 0
  · rw [if_pos hs1] at h
    refine j_tab (tgt := 40) X dX11_isOfKind_1 0 hs1 (by decide) (by decide) rfl (by decide) ?_
    refine j_iconst (v := 1) X dX11_isOfKind_40 (by decide) ?_
    obtain ⟨rfl, rfl⟩ := jin2 h
    exact j_zret X R0 rfl dX11_isOfKind_41
  · rw [if_neg hs1] at h
    by_cases hs2 : a1 = 1
    · rw [if_pos hs2] at h
      refine j_tab (tgt := 42) X dX11_isOfKind_1 1 hs2 (by decide) (by decide) rfl (by decide) ?_
      refine j_aload_n X 0 dX11_isOfKind_42 rfl rfl ?_
      refine ji_RX11_30 X ha0 dX11_isOfKind_43 ?_
      obtain ⟨hc3, h⟩ := jck_some h
      obtain ⟨rfl, rfl⟩ := jin2 h
      exact j_zret X R0 hc3 dX11_isOfKind_46
    · rw [if_neg hs2] at h
      by_cases hs4 : a1 = 2
      · rw [if_pos hs4] at h
        refine j_tab (tgt := 47) X dX11_isOfKind_1 2 hs4 (by decide) (by decide) rfl (by decide) ?_
        refine j_aload_n X 0 dX11_isOfKind_47 rfl rfl ?_
        refine ji_RX11_33 X ha0 dX11_isOfKind_48 ?_
        obtain ⟨hc5, h⟩ := jck_some h
        obtain ⟨rfl, rfl⟩ := jin2 h
        exact j_zret X R0 hc5 dX11_isOfKind_51
      · rw [if_neg hs4] at h
        by_cases hs6 : a1 = 3
        · rw [if_pos hs6] at h
          refine j_tab (tgt := 52) X dX11_isOfKind_1 3 hs6 (by decide) (by decide) rfl (by decide) ?_
          refine j_aload_n X 0 dX11_isOfKind_52 rfl rfl ?_
          refine ji_RX11_36 X ha0 dX11_isOfKind_53 ?_
          obtain ⟨hc7, h⟩ := jck_some h
          obtain ⟨rfl, rfl⟩ := jin2 h
          exact j_zret X R0 hc7 dX11_isOfKind_56
        · rw [if_neg hs6] at h
          by_cases hs8 : a1 = 4
          · rw [if_pos hs8] at h
            refine j_tab (tgt := 57) X dX11_isOfKind_1 4 hs8 (by decide) (by decide) rfl (by decide) ?_
            refine j_aload_n X 0 dX11_isOfKind_57 rfl rfl ?_
            refine ji_RX11_39 X ha0 dX11_isOfKind_58 ?_
            obtain ⟨hc9, h⟩ := jck_some h
            obtain ⟨rfl, rfl⟩ := jin2 h
            exact j_zret X R0 hc9 dX11_isOfKind_61
          · rw [if_neg hs8] at h
            by_cases hs10 : a1 = 5
            · rw [if_pos hs10] at h
              refine j_tab (tgt := 62) X dX11_isOfKind_1 5 hs10 (by decide) (by decide) rfl (by decide) ?_
              refine j_aload_n X 0 dX11_isOfKind_62 rfl rfl ?_
              refine ji_RX11_42 X ha0 dX11_isOfKind_63 ?_
              obtain ⟨hc11, h⟩ := jck_some h
              obtain ⟨rfl, rfl⟩ := jin2 h
              exact j_zret X R0 hc11 dX11_isOfKind_66
            · rw [if_neg hs10] at h
              refine j_tabo (tgt := 67) X dX11_isOfKind_1 (by have w0 := lv_neT (a := 0) hs1 (by decide); have w1 := lv_neT (a := 1) hs2 (by decide); have w2 := lv_neT (a := 2) hs4 (by decide); have w3 := lv_neT (a := 3) hs6 (by decide); have w4 := lv_neT (a := 4) hs8 (by decide); have w5 := lv_neT (a := 5) hs10 (by decide); omega) (by decide) ?_
              refine j_iconst (v := 0) X dX11_isOfKind_67 (by decide) ?_
              obtain ⟨rfl, rfl⟩ := jin2 h
              exact j_zret X R0 rfl dX11_isOfKind_68
theorem ss_RX11_316 : jSiS RX11 316 yX11_isOfKind cX11_isOfKind 2 (some .boolean) 2 := ⟨tw_772, tw_773, tw_1, tw_774, by decide, by decide, by decide +kernel⟩
def f_X11_as (a0 : Int32) (a1 : Int32) (σ : jMem) : Option (Int32 × jMem) :=
  jbd (f_X5_hasWitness 22 a0 σ) (fun v1 σ2 =>
  if v1 = 0 then
  some (((-1000001 : Int32), σ2))
else
  if a1 < 0 then
  some (((-1000001 : Int32), σ2))
else
  if a1 < (6 : Int32) then
  jld σ2 26 6 a0 (fun v4 =>
  jldr 6 16 1 v4 (fun k5 =>
  jbd (f_X11_isOfKind k5 a1 σ2) (fun v6 σ7 =>
  if v6 = 0 then
  jbd (f_X11_found (3 : Int32) σ7) (fun v9 σ10 =>
  some ((v9, σ10)))
else
  jbd (f_X11_unfound a0 σ7) (fun v12 σ13 =>
  some ((v12, σ13))))))
else
  some (((-1000001 : Int32), σ2)))
set_option maxRecDepth 100000 in
set_option maxHeartbeats 4000000 in
theorem c_X11_as {l : Launch} {D : va_G} {ad : Nat → Nat} {cid : Nat → ClassId} {a0 : Int32} {a1 : Int32}  {σ : jMem} {r : Int32} {σ' : jMem} (h : f_X11_as a0 a1 σ = some (r, σ')) : jMet l D ad cid yX11_as cX11_as 3 (some .int) 1 21 [.ref 0, .int a0, .int a1] σ (some (.int r)) σ' := by
  refine jMet_of (ls0 := [some (.ref 0), some (.int a0), some (.int a1)]) (by decide) (Nat.le_of_ble_eq_true rfl) rfl (fun K X R0 _ => ?_)
  unfold f_X11_as at h
  refine j_aload_n X 0 dX11_as_0 rfl rfl ?_
  refine j_getR (t := 22) X fg_RX11_50 ln_0 ly_0 rfl dX11_as_1 ?_
  refine j_iload_n X 1 dX11_as_4 rfl rfl ?_
  obtain ⟨v1, σ2, hm3, h⟩ := jbd_some h
  refine j_callV (as := [.int a0]) (st := []) (st1 := [.int v1]) X ln_22 ly_22 rfl rfl sv_RX11_214 ⟨by decide, by decide⟩ rfl rfl (Nat.le_of_ble_eq_true rfl) rfl dX11_as_5 jrv_i (c_X5_hasWitness jisP_22 hm3) rfl ?_
  refine j_if_eq (tgt := 21) X dX11_as_8 (by decide) h (fun h => ?_) (fun h => ?_)
  · refine j_ldc (v := -1000001) X tw_318 dX11_as_21 ?_
    obtain ⟨rfl, rfl⟩ := jin2 h
    exact j_iret X R0 dX11_as_23
  · refine j_iload_n X 2 dX11_as_11 rfl rfl ?_
    refine j_if_lt (tgt := 21) X dX11_as_12 (by decide) h (fun h => ?_) (fun h => ?_)
    · refine j_ldc (v := -1000001) X tw_318 dX11_as_21 ?_
      obtain ⟨rfl, rfl⟩ := jin2 h
      exact j_iret X R0 dX11_as_23
    · refine j_iload_n X 2 dX11_as_15 rfl rfl ?_
      refine j_bipush (v := 6) X dX11_as_16 (by decide) ?_
      refine j_icmp_lt (tgt := 24) X dX11_as_18 (by decide) h (fun h => ?_) (fun h => ?_)
      · refine j_aload_n X 0 dX11_as_24 rfl rfl ?_
        refine j_getR (t := 15) X fg_RX11_25 ln_0 ly_0 rfl dX11_as_25 ?_
        refine j_aload_n X 0 dX11_as_28 rfl rfl ?_
        refine j_getR (t := 22) X fg_RX11_50 ln_0 ly_0 rfl dX11_as_29 ?_
        refine j_getR (t := 26) X fg_RX11_313 ln_22 ly_22 rfl dX11_as_32 ?_
        refine j_iload_n X 1 dX11_as_35 rfl rfl ?_
        refine j_iaload X ln_26 ly_26 dX11_as_36 h (fun v4 h => ?_)
        refine j_aaload X ln_15 ly_15 (Or.inl rfl) dX11_as_37 h (fun k5 qk5 h => ?_)
        have hk5 := jrow6 qk5
        refine j_iload_n X 2 dX11_as_38 rfl rfl ?_
        obtain ⟨v6, σ7, hm8, h⟩ := jbd_some h
        refine j_callS (as := [.ref k5, .int a1]) (st := []) (st1 := [.int v6]) X ss_RX11_316 ⟨by decide, by decide⟩ rfl rfl (Nat.le_of_ble_eq_true rfl) rfl dX11_as_39 jrv_i (c_X11_isOfKind (by omega : 16 ≤ k5 ∧ k5 ≤ 21) hm8) rfl ?_
        refine j_if_eq (tgt := 53) X dX11_as_42 (by decide) h (fun h => ?_) (fun h => ?_)
        · refine j_aload_n X 0 dX11_as_53 rfl rfl ?_
          refine j_iconst (v := 3) X dX11_as_54 (by decide) ?_
          obtain ⟨v9, σ10, hm11, h⟩ := jbd_some h
          refine j_callV (as := [.int (3 : Int32)]) (st := []) (st1 := [.int v9]) X ln_0 ly_0 rfl rfl sv_RX11_89 ⟨by decide, by decide⟩ rfl rfl (Nat.le_of_ble_eq_true rfl) rfl dX11_as_55 jrv_i (c_X11_found  hm11) rfl ?_
          obtain ⟨rfl, rfl⟩ := jin2 h
          exact j_iret X R0 dX11_as_58
        · refine j_aload_n X 0 dX11_as_45 rfl rfl ?_
          refine j_iload_n X 1 dX11_as_46 rfl rfl ?_
          obtain ⟨v12, σ13, hm14, h⟩ := jbd_some h
          refine j_callV (as := [.int a0]) (st := []) (st1 := [.int v12]) X ln_0 ly_0 rfl rfl sv_RX11_97 ⟨by decide, by decide⟩ rfl rfl (Nat.le_of_ble_eq_true rfl) rfl dX11_as_47 jrv_i (c_X11_unfound  hm14) rfl ?_
          refine j_goto (tgt := 58) X dX11_as_50 (by decide) ?_
          obtain ⟨rfl, rfl⟩ := jin2 h
          exact j_iret X R0 dX11_as_58
      · refine j_ldc (v := -1000001) X tw_318 dX11_as_21 ?_
        obtain ⟨rfl, rfl⟩ := jin2 h
        exact j_iret X R0 dX11_as_23
