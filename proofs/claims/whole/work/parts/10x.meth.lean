def X12_copy_L143_b (p1 : Int32) (p2 : Int32) (p3 : Int32) (p4 : Int32) (p5 : Int32) (p6 : Int32) (rec : Int32 → jMem → Option ((Unit) × jMem)) (x7 : Int32) (σ : jMem) : Option ((Unit) × jMem) :=
  if p5 ≤ x7 then
  some ((), σ)
else
  jj (fun (q31 : Int32) σ32 =>
  jld σ32 92 320 ((((40 : Int32) * p1) + p2) + q31) (fun v33 =>
  jst σ32 92 320 ((((40 : Int32) * p3) + p4) + q31) v33 (fun σ34 =>
  rec (x7 + 1) σ34))) (fun k30 =>
  if p6 = 0 then
  k30 ((p5 - (1 : Int32)) - x7) σ
else
  k30 x7 σ)
def X12_copy_L143 (p1 : Int32) (p2 : Int32) (p3 : Int32) (p4 : Int32) (p5 : Int32) (p6 : Int32) : Nat → Int32 → jMem → Option ((Unit) × jMem) := jloop (fun rec s σ => X12_copy_L143_b p1 p2 p3 p4 p5 p6 rec s σ)
set_option maxRecDepth 100000 in
set_option maxHeartbeats 4000000 in
theorem X12_copy_L143_bok {K : jK} (X : JX K cX12_copy 9 RX12 2 45) {p1 : Int32} {p2 : Int32} {p3 : Int32} {p4 : Int32} {p5 : Int32} {p6 : Int32}  {rec : Int32 → jMem → Option ((Unit) × jMem)} (ih : ∀ (s : Int32) (σ : jMem) (o : (Unit) × jMem), rec s σ = some o → (J K 204 [none, none, none, none, none, some (.int p5), none, none, none] [] o.2) → J K 143 [some (.ref 89), some (.int p1), some (.int p2), some (.int p3), some (.int p4), some (.int p5), some (.int p6), some (.int s), none] [] σ) : ∀ (x7 : Int32) (σ : jMem) (o : (Unit) × jMem), X12_copy_L143_b p1 p2 p3 p4 p5 p6 rec x7 σ = some o → (J K 204 [none, none, none, none, none, some (.int p5), none, none, none] [] o.2) → J K 143 [some (.ref 89), some (.int p1), some (.int p2), some (.int p3), some (.int p4), some (.int p5), some (.int p6), some (.int x7), none] [] σ := by
  intro x7 σ o h kk
  unfold X12_copy_L143_b at h
  refine j_iload X dX12_copy_143 rfl ?_
  refine j_iload X dX12_copy_145 rfl ?_
  refine j_icmp_ge (tgt := 204) X dX12_copy_147 (by decide) h (fun h => ?_) (fun h => ?_)
  · obtain rfl := Option.some.inj h
    exact j_sub (ls' := [none, none, none, none, none, some (.int p5), none, none, none]) ⟨Or.inl rfl, Or.inl rfl, Or.inl rfl, Or.inl rfl, Or.inl rfl, Or.inr rfl, Or.inl rfl, Or.inl rfl, Or.inl rfl, trivial⟩ kk
  · refine j_iload X dX12_copy_150 rfl ?_
    refine j_join (pcJ := 167) (lsJ := fun q31 => [some (.ref 89), some (.int p1), some (.int p2), some (.int p3), some (.int p4), some (.int p5), some (.int p6), some (.int x7), none]) (stJ := fun q31 => [.int q31]) h (fun q31 σ32 h => ?_) (fun k30 hk30 h => ?_)
    · refine j_istore (ls' := [some (.ref 89), some (.int p1), some (.int p2), some (.int p3), some (.int p4), some (.int p5), some (.int p6), some (.int x7), some (.int q31)]) X dX12_copy_167 (Nat.le_of_ble_eq_true rfl) rfl ?_
      refine j_aload_n X 0 dX12_copy_169 rfl rfl ?_
      refine j_getR (t := 92) X fg_RX12_16 ln_89 ly_89 rfl dX12_copy_170 ?_
      refine j_bipush (v := 40) X dX12_copy_173 (by decide) ?_
      refine j_iload_n X 3 dX12_copy_175 rfl rfl ?_
      refine j_imul X dX12_copy_176 ?_
      refine j_iload X dX12_copy_177 rfl ?_
      refine j_iadd X dX12_copy_179 ?_
      refine j_iload X dX12_copy_180 rfl ?_
      refine j_iadd X dX12_copy_182 ?_
      refine j_aload_n X 0 dX12_copy_183 rfl rfl ?_
      refine j_getR (t := 92) X fg_RX12_16 ln_89 ly_89 rfl dX12_copy_184 ?_
      refine j_bipush (v := 40) X dX12_copy_187 (by decide) ?_
      refine j_iload_n X 1 dX12_copy_189 rfl rfl ?_
      refine j_imul X dX12_copy_190 ?_
      refine j_iload_n X 2 dX12_copy_191 rfl rfl ?_
      refine j_iadd X dX12_copy_192 ?_
      refine j_iload X dX12_copy_193 rfl ?_
      refine j_iadd X dX12_copy_195 ?_
      refine j_iaload X ln_92 ly_92 dX12_copy_196 h (fun v33 h => ?_)
      refine j_iastore X ln_92 ly_92 dX12_copy_197 h (fun σ34 h => ?_)
      refine j_iinc (v := (x7 + 1)) (ls' := [some (.ref 89), some (.int p1), some (.int p2), some (.int p3), some (.int p4), some (.int p5), some (.int p6), some (.int (x7 + 1)), some (.int q31)]) X dX12_copy_198 rfl rfl (Nat.le_of_ble_eq_true rfl) rfl ?_
      refine j_goto (tgt := 143) X dX12_copy_201 (by decide) ?_
      exact j_sub (ls' := [some (.ref 89), some (.int p1), some (.int p2), some (.int p3), some (.int p4), some (.int p5), some (.int p6), some (.int (x7 + 1)), none]) ⟨Or.inr rfl, Or.inr rfl, Or.inr rfl, Or.inr rfl, Or.inr rfl, Or.inr rfl, Or.inr rfl, Or.inr rfl, Or.inl rfl, trivial⟩ (ih (x7 + 1) σ34 _ h kk)
    · refine j_if_eq (tgt := 160) X dX12_copy_152 (by decide) h (fun h => ?_) (fun h => ?_)
      · refine j_iload X dX12_copy_160 rfl ?_
        refine j_iconst (v := 1) X dX12_copy_162 (by decide) ?_
        refine j_isub X dX12_copy_163 ?_
        refine j_iload X dX12_copy_164 rfl ?_
        refine j_isub X dX12_copy_166 ?_
        exact hk30 ((p5 - (1 : Int32)) - x7) σ h
      · refine j_iload X dX12_copy_155 rfl ?_
        refine j_goto (tgt := 167) X dX12_copy_157 (by decide) ?_
        exact hk30 x7 σ h
theorem X12_copy_L143_ok {K : jK} (X : JX K cX12_copy 9 RX12 2 45) {p1 : Int32} {p2 : Int32} {p3 : Int32} {p4 : Int32} {p5 : Int32} {p6 : Int32}  : ∀ (n : Nat) (s : Int32) (σ : jMem) (o : (Unit) × jMem), X12_copy_L143 p1 p2 p3 p4 p5 p6 n s σ = some o → (J K 204 [none, none, none, none, none, some (.int p5), none, none, none] [] o.2) → J K 143 [some (.ref 89), some (.int p1), some (.int p2), some (.int p3), some (.int p4), some (.int p5), some (.int p6), some (.int s), none] [] σ := by
  intro n
  induction n with
  | zero => intro s σ o h; cases h
  | succ n ih => intro s σ o h; exact X12_copy_L143_bok X  ih (s) σ o h
def f_X12_copy (a0 : Int32) (a1 : Int32) (a2 : Int32) (a3 : Int32) (a4 : Int32) (σ : jMem) : Option (Int32 × jMem) :=
  jlet (jset σ 89 0 (0 : Int32)) (fun σ1 =>
  jbd (f_X12_isRow a0 σ1) (fun v2 σ3 =>
  if v2 = 0 then
  some (((-1000001 : Int32), σ3))
else
  jbd (f_X12_isRow a2 σ3) (fun v5 σ6 =>
  if ¬ v5 = 0 then
  jlet (jset σ6 89 1 (0 : Int32)) (fun σ8 =>
  jld σ8 90 8 a0 (fun v9 =>
  jj (fun (q11 : Unit) σ12 =>
  jbd (f_X12_finding (1 : Int32) σ12) (fun v13 σ14 =>
  some ((v13, σ14)))) (fun k10 =>
  if v9 < 0 then
  k10 () σ8
else
  jld σ8 90 8 a2 (fun v16 =>
  if 0 ≤ v16 then
  jld σ8 90 8 a0 (fun v17 =>
  jld σ8 90 8 a2 (fun v18 =>
  if v17 = v18 then
  jj (fun (q20 : Unit) σ21 =>
  jbd (f_X12_finding (2 : Int32) σ21) (fun v22 σ23 =>
  some ((v22, σ23)))) (fun k19 =>
  if a1 < 0 then
  k19 () σ8
else
  if a3 < 0 then
  k19 () σ8
else
  if a4 < 0 then
  k19 () σ8
else
  jld σ8 91 8 a0 (fun v25 =>
  if 0 < (lg_cmp (((a1).toInt64) + ((a4).toInt64)) ((v25).toInt64)) then
  k19 () σ8
else
  jld σ8 91 8 a2 (fun v26 =>
  if (lg_cmp (((a3).toInt64) + ((a4).toInt64)) ((v26).toInt64)) ≤ 0 then
  jj (fun (q28 : Int32) σ29 =>
  jbd (X12_copy_L143 (a0) (a1) (a2) (a3) (a4) (q28) jFU (0 : Int32) σ29) (fun q35 σ36 =>
  some ((a4, σ36)))) (fun k27 =>
  if a1 < a3 then
  k27 (0 : Int32) σ8
else
  k27 (1 : Int32) σ8)
else
  k19 () σ8)))
else
  jbd (f_X12_finding (5 : Int32) σ8) (fun v38 σ39 =>
  some ((v38, σ39)))))
else
  k10 () σ8))))
else
  some (((-1000001 : Int32), σ6)))))
set_option maxRecDepth 100000 in
set_option maxHeartbeats 4000000 in
theorem c_X12_copy {l : Launch} {D : va_G} {ad : Nat → Nat} {cid : Nat → ClassId} {a0 : Int32} {a1 : Int32} {a2 : Int32} {a3 : Int32} {a4 : Int32}  {σ : jMem} {r : Int32} {σ' : jMem} (h : f_X12_copy a0 a1 a2 a3 a4 σ = some (r, σ')) : jMet l D ad cid yX12_copy cX12_copy 9 (some .int) 2 45 [.ref 89, .int a0, .int a1, .int a2, .int a3, .int a4] σ (some (.int r)) σ' := by
  refine jMet_of (ls0 := [some (.ref 89), some (.int a0), some (.int a1), some (.int a2), some (.int a3), some (.int a4), none, none, none]) (by decide) (Nat.le_of_ble_eq_true rfl) rfl (fun K X R0 _ => ?_)
  unfold f_X12_copy at h
  refine j_aload_n X 0 dX12_copy_0 rfl rfl ?_
  refine j_iconst (v := 0) X dX12_copy_1 (by decide) ?_
  refine j_put X fp_RX12_47 ln_89 ly_89 rfl rfl rfl dX12_copy_2 h (fun σ1 h => ?_)
  refine j_iload_n X 1 dX12_copy_5 rfl rfl ?_
  obtain ⟨v2, σ3, hm4, h⟩ := jbd_some h
  refine j_callS (as := [.int a0]) (st := []) (st1 := [.int v2]) X ss_RX12_61 ⟨by decide, by decide⟩ rfl rfl (Nat.le_of_ble_eq_true rfl) rfl dX12_copy_6 jrv_i (c_X12_isRow  hm4) rfl ?_
  refine j_if_eq (tgt := 19) X dX12_copy_9 (by decide) h (fun h => ?_) (fun h => ?_)
  · refine j_ldc (v := -1000001) X tw_948 dX12_copy_19 ?_
    obtain ⟨rfl, rfl⟩ := jin2 h
    exact j_iret X R0 dX12_copy_21
  · refine j_iload_n X 3 dX12_copy_12 rfl rfl ?_
    obtain ⟨v5, σ6, hm7, h⟩ := jbd_some h
    refine j_callS (as := [.int a2]) (st := []) (st1 := [.int v5]) X ss_RX12_61 ⟨by decide, by decide⟩ rfl rfl (Nat.le_of_ble_eq_true rfl) rfl dX12_copy_13 jrv_i (c_X12_isRow  hm7) rfl ?_
    refine j_if_ne (tgt := 22) X dX12_copy_16 (by decide) h (fun h => ?_) (fun h => ?_)
    · refine j_aload_n X 0 dX12_copy_22 rfl rfl ?_
      refine j_iconst (v := 0) X dX12_copy_23 (by decide) ?_
      refine j_put X fp_RX12_51 ln_89 ly_89 rfl rfl rfl dX12_copy_24 h (fun σ8 h => ?_)
      refine j_aload_n X 0 dX12_copy_27 rfl rfl ?_
      refine j_getR (t := 90) X fg_RX12_7 ln_89 ly_89 rfl dX12_copy_28 ?_
      refine j_iload_n X 1 dX12_copy_31 rfl rfl ?_
      refine j_iaload X ln_90 ly_90 dX12_copy_32 h (fun v9 h => ?_)
      refine j_join (pcJ := 45) (lsJ := fun q11 => [some (.ref 89), none, none, none, none, none, none, none, none]) (stJ := fun q11 => []) h (fun q11 σ12 h => ?_) (fun k10 hk10 h => ?_)
      · refine j_aload_n X 0 dX12_copy_45 rfl rfl ?_
        refine j_iconst (v := 1) X dX12_copy_46 (by decide) ?_
        obtain ⟨v13, σ14, hm15, h⟩ := jbd_some h
        refine j_callV (as := [.int (1 : Int32)]) (st := []) (st1 := [.int v13]) X ln_89 ly_89 rfl rfl sv_RX12_68 ⟨by decide, by decide⟩ rfl rfl (Nat.le_of_ble_eq_true rfl) rfl dX12_copy_47 jrv_i (c_X12_finding  hm15) rfl ?_
        obtain ⟨rfl, rfl⟩ := jin2 h
        exact j_iret X R0 dX12_copy_50
      · refine j_if_lt (tgt := 45) X dX12_copy_33 (by decide) h (fun h => ?_) (fun h => ?_)
        · exact j_sub (ls' := [some (.ref 89), none, none, none, none, none, none, none, none]) ⟨Or.inr rfl, Or.inl rfl, Or.inl rfl, Or.inl rfl, Or.inl rfl, Or.inl rfl, Or.inl rfl, Or.inl rfl, Or.inl rfl, trivial⟩ (hk10 () σ8 h)
        · refine j_aload_n X 0 dX12_copy_36 rfl rfl ?_
          refine j_getR (t := 90) X fg_RX12_7 ln_89 ly_89 rfl dX12_copy_37 ?_
          refine j_iload_n X 3 dX12_copy_40 rfl rfl ?_
          refine j_iaload X ln_90 ly_90 dX12_copy_41 h (fun v16 h => ?_)
          refine j_if_ge (tgt := 51) X dX12_copy_42 (by decide) h (fun h => ?_) (fun h => ?_)
          · refine j_aload_n X 0 dX12_copy_51 rfl rfl ?_
            refine j_getR (t := 90) X fg_RX12_7 ln_89 ly_89 rfl dX12_copy_52 ?_
            refine j_iload_n X 1 dX12_copy_55 rfl rfl ?_
            refine j_iaload X ln_90 ly_90 dX12_copy_56 h (fun v17 h => ?_)
            refine j_aload_n X 0 dX12_copy_57 rfl rfl ?_
            refine j_getR (t := 90) X fg_RX12_7 ln_89 ly_89 rfl dX12_copy_58 ?_
            refine j_iload_n X 3 dX12_copy_61 rfl rfl ?_
            refine j_iaload X ln_90 ly_90 dX12_copy_62 h (fun v18 h => ?_)
            refine j_icmp_eq (tgt := 72) X dX12_copy_63 (by decide) h (fun h => ?_) (fun h => ?_)
            · refine j_iload_n X 2 dX12_copy_72 rfl rfl ?_
              refine j_join (pcJ := 121) (lsJ := fun q20 => [some (.ref 89), none, none, none, none, none, none, none, none]) (stJ := fun q20 => []) h (fun q20 σ21 h => ?_) (fun k19 hk19 h => ?_)
              · refine j_aload_n X 0 dX12_copy_121 rfl rfl ?_
                refine j_iconst (v := 2) X dX12_copy_122 (by decide) ?_
                obtain ⟨v22, σ23, hm24, h⟩ := jbd_some h
                refine j_callV (as := [.int (2 : Int32)]) (st := []) (st1 := [.int v22]) X ln_89 ly_89 rfl rfl sv_RX12_68 ⟨by decide, by decide⟩ rfl rfl (Nat.le_of_ble_eq_true rfl) rfl dX12_copy_123 jrv_i (c_X12_finding  hm24) rfl ?_
                obtain ⟨rfl, rfl⟩ := jin2 h
                exact j_iret X R0 dX12_copy_126
              · refine j_if_lt (tgt := 121) X dX12_copy_73 (by decide) h (fun h => ?_) (fun h => ?_)
                · exact j_sub (ls' := [some (.ref 89), none, none, none, none, none, none, none, none]) ⟨Or.inr rfl, Or.inl rfl, Or.inl rfl, Or.inl rfl, Or.inl rfl, Or.inl rfl, Or.inl rfl, Or.inl rfl, Or.inl rfl, trivial⟩ (hk19 () σ8 h)
                · refine j_iload X dX12_copy_76 rfl ?_
                  refine j_if_lt (tgt := 121) X dX12_copy_78 (by decide) h (fun h => ?_) (fun h => ?_)
                  · exact j_sub (ls' := [some (.ref 89), none, none, none, none, none, none, none, none]) ⟨Or.inr rfl, Or.inl rfl, Or.inl rfl, Or.inl rfl, Or.inl rfl, Or.inl rfl, Or.inl rfl, Or.inl rfl, Or.inl rfl, trivial⟩ (hk19 () σ8 h)
                  · refine j_iload X dX12_copy_81 rfl ?_
                    refine j_if_lt (tgt := 121) X dX12_copy_83 (by decide) h (fun h => ?_) (fun h => ?_)
                    · exact j_sub (ls' := [some (.ref 89), none, none, none, none, none, none, none, none]) ⟨Or.inr rfl, Or.inl rfl, Or.inl rfl, Or.inl rfl, Or.inl rfl, Or.inl rfl, Or.inl rfl, Or.inl rfl, Or.inl rfl, trivial⟩ (hk19 () σ8 h)
                    · refine j_iload_n X 2 dX12_copy_86 rfl rfl ?_
                      refine j_i2l X dX12_copy_87 ?_
                      refine j_iload X dX12_copy_88 rfl ?_
                      refine j_i2l X dX12_copy_90 ?_
                      refine j_ladd X dX12_copy_91 ?_
                      refine j_aload_n X 0 dX12_copy_92 rfl rfl ?_
                      refine j_getR (t := 91) X fg_RX12_13 ln_89 ly_89 rfl dX12_copy_93 ?_
                      refine j_iload_n X 1 dX12_copy_96 rfl rfl ?_
                      refine j_iaload X ln_91 ly_91 dX12_copy_97 h (fun v25 h => ?_)
                      refine j_i2l X dX12_copy_98 ?_
                      refine j_lcmp X dX12_copy_99 ?_
                      refine j_if_gt (tgt := 121) X dX12_copy_100 (by decide) h (fun h => ?_) (fun h => ?_)
                      · exact j_sub (ls' := [some (.ref 89), none, none, none, none, none, none, none, none]) ⟨Or.inr rfl, Or.inl rfl, Or.inl rfl, Or.inl rfl, Or.inl rfl, Or.inl rfl, Or.inl rfl, Or.inl rfl, Or.inl rfl, trivial⟩ (hk19 () σ8 h)
                      · refine j_iload X dX12_copy_103 rfl ?_
                        refine j_i2l X dX12_copy_105 ?_
                        refine j_iload X dX12_copy_106 rfl ?_
                        refine j_i2l X dX12_copy_108 ?_
                        refine j_ladd X dX12_copy_109 ?_
                        refine j_aload_n X 0 dX12_copy_110 rfl rfl ?_
                        refine j_getR (t := 91) X fg_RX12_13 ln_89 ly_89 rfl dX12_copy_111 ?_
                        refine j_iload_n X 3 dX12_copy_114 rfl rfl ?_
                        refine j_iaload X ln_91 ly_91 dX12_copy_115 h (fun v26 h => ?_)
                        refine j_i2l X dX12_copy_116 ?_
                        refine j_lcmp X dX12_copy_117 ?_
                        refine j_if_le (tgt := 127) X dX12_copy_118 (by decide) h (fun h => ?_) (fun h => ?_)
                        · refine j_iload_n X 2 dX12_copy_127 rfl rfl ?_
                          refine j_iload X dX12_copy_128 rfl ?_
                          refine j_join (pcJ := 138) (lsJ := fun q28 => [some (.ref 89), some (.int a0), some (.int a1), some (.int a2), some (.int a3), some (.int a4), none, none, none]) (stJ := fun q28 => [.int q28]) h (fun q28 σ29 h => ?_) (fun k27 hk27 h => ?_)
                          · refine j_istore (ls' := [some (.ref 89), some (.int a0), some (.int a1), some (.int a2), some (.int a3), some (.int a4), some (.int q28), none, none]) X dX12_copy_138 (Nat.le_of_ble_eq_true rfl) rfl ?_
                            refine j_iconst (v := 0) X dX12_copy_140 (by decide) ?_
                            refine j_istore (ls' := [some (.ref 89), some (.int a0), some (.int a1), some (.int a2), some (.int a3), some (.int a4), some (.int q28), some (.int (0 : Int32)), none]) X dX12_copy_141 (Nat.le_of_ble_eq_true rfl) rfl ?_
                            obtain ⟨q35, σ36, hL37, h⟩ := jbd_some h
                            refine X12_copy_L143_ok X  jFU (0 : Int32) σ29 _ hL37 ?_
                            refine j_iload X dX12_copy_204 rfl ?_
                            obtain ⟨rfl, rfl⟩ := jin2 h
                            exact j_iret X R0 dX12_copy_206
                          · refine j_icmp_lt (tgt := 137) X dX12_copy_130 (by decide) h (fun h => ?_) (fun h => ?_)
                            · refine j_iconst (v := 0) X dX12_copy_137 (by decide) ?_
                              exact hk27 (0 : Int32) σ8 h
                            · refine j_iconst (v := 1) X dX12_copy_133 (by decide) ?_
                              refine j_goto (tgt := 138) X dX12_copy_134 (by decide) ?_
                              exact hk27 (1 : Int32) σ8 h
                        · exact j_sub (ls' := [some (.ref 89), none, none, none, none, none, none, none, none]) ⟨Or.inr rfl, Or.inl rfl, Or.inl rfl, Or.inl rfl, Or.inl rfl, Or.inl rfl, Or.inl rfl, Or.inl rfl, Or.inl rfl, trivial⟩ (hk19 () σ8 h)
            · refine j_aload_n X 0 dX12_copy_66 rfl rfl ?_
              refine j_iconst (v := 5) X dX12_copy_67 (by decide) ?_
              obtain ⟨v38, σ39, hm40, h⟩ := jbd_some h
              refine j_callV (as := [.int (5 : Int32)]) (st := []) (st1 := [.int v38]) X ln_89 ly_89 rfl rfl sv_RX12_68 ⟨by decide, by decide⟩ rfl rfl (Nat.le_of_ble_eq_true rfl) rfl dX12_copy_68 jrv_i (c_X12_finding  hm40) rfl ?_
              obtain ⟨rfl, rfl⟩ := jin2 h
              exact j_iret X R0 dX12_copy_71
          · exact j_sub (ls' := [some (.ref 89), none, none, none, none, none, none, none, none]) ⟨Or.inr rfl, Or.inl rfl, Or.inl rfl, Or.inl rfl, Or.inl rfl, Or.inl rfl, Or.inl rfl, Or.inl rfl, Or.inl rfl, trivial⟩ (hk10 () σ8 h)
    · refine j_ldc (v := -1000001) X tw_948 dX12_copy_19 ?_
      obtain ⟨rfl, rfl⟩ := jin2 h
      exact j_iret X R0 dX12_copy_21
def f_X12_drop (a0 : Int32) (σ : jMem) : Option (Int32 × jMem) :=
  jlet (jset σ 89 0 (0 : Int32)) (fun σ1 =>
  jbd (f_X12_isRow a0 σ1) (fun v2 σ3 =>
  if ¬ v2 = 0 then
  jlet (jset σ3 89 1 (0 : Int32)) (fun σ5 =>
  jld σ5 90 8 a0 (fun v6 =>
  if 0 ≤ v6 then
  jst σ5 90 8 a0 (-1 : Int32) (fun σ7 =>
  jld σ7 91 8 a0 (fun v8 =>
  some ((v8, σ7))))
else
  jbd (f_X12_finding (1 : Int32) σ5) (fun v9 σ10 =>
  some ((v9, σ10)))))
else
  some (((-1000001 : Int32), σ3))))
set_option maxRecDepth 100000 in
set_option maxHeartbeats 4000000 in
theorem c_X12_drop {l : Launch} {D : va_G} {ad : Nat → Nat} {cid : Nat → ClassId} {a0 : Int32}  {σ : jMem} {r : Int32} {σ' : jMem} (h : f_X12_drop a0 σ = some (r, σ')) : jMet l D ad cid yX12_drop cX12_drop 2 (some .int) 2 45 [.ref 89, .int a0] σ (some (.int r)) σ' := by
  refine jMet_of (ls0 := [some (.ref 89), some (.int a0)]) (by decide) (Nat.le_of_ble_eq_true rfl) rfl (fun K X R0 _ => ?_)
  unfold f_X12_drop at h
  refine j_aload_n X 0 dX12_drop_0 rfl rfl ?_
  refine j_iconst (v := 0) X dX12_drop_1 (by decide) ?_
  refine j_put X fp_RX12_47 ln_89 ly_89 rfl rfl rfl dX12_drop_2 h (fun σ1 h => ?_)
  refine j_iload_n X 1 dX12_drop_5 rfl rfl ?_
  obtain ⟨v2, σ3, hm4, h⟩ := jbd_some h
  refine j_callS (as := [.int a0]) (st := []) (st1 := [.int v2]) X ss_RX12_61 ⟨by decide, by decide⟩ rfl rfl (Nat.le_of_ble_eq_true rfl) rfl dX12_drop_6 jrv_i (c_X12_isRow  hm4) rfl ?_
  refine j_if_ne (tgt := 15) X dX12_drop_9 (by decide) h (fun h => ?_) (fun h => ?_)
  · refine j_aload_n X 0 dX12_drop_15 rfl rfl ?_
    refine j_iconst (v := 0) X dX12_drop_16 (by decide) ?_
    refine j_put X fp_RX12_51 ln_89 ly_89 rfl rfl rfl dX12_drop_17 h (fun σ5 h => ?_)
    refine j_aload_n X 0 dX12_drop_20 rfl rfl ?_
    refine j_getR (t := 90) X fg_RX12_7 ln_89 ly_89 rfl dX12_drop_21 ?_
    refine j_iload_n X 1 dX12_drop_24 rfl rfl ?_
    refine j_iaload X ln_90 ly_90 dX12_drop_25 h (fun v6 h => ?_)
    refine j_if_ge (tgt := 35) X dX12_drop_26 (by decide) h (fun h => ?_) (fun h => ?_)
    · refine j_aload_n X 0 dX12_drop_35 rfl rfl ?_
      refine j_getR (t := 90) X fg_RX12_7 ln_89 ly_89 rfl dX12_drop_36 ?_
      refine j_iload_n X 1 dX12_drop_39 rfl rfl ?_
      refine j_iconst (v := -1) X dX12_drop_40 (by decide) ?_
      refine j_iastore X ln_90 ly_90 dX12_drop_41 h (fun σ7 h => ?_)
      refine j_aload_n X 0 dX12_drop_42 rfl rfl ?_
      refine j_getR (t := 91) X fg_RX12_13 ln_89 ly_89 rfl dX12_drop_43 ?_
      refine j_iload_n X 1 dX12_drop_46 rfl rfl ?_
      refine j_iaload X ln_91 ly_91 dX12_drop_47 h (fun v8 h => ?_)
      obtain ⟨rfl, rfl⟩ := jin2 h
      exact j_iret X R0 dX12_drop_48
    · refine j_aload_n X 0 dX12_drop_29 rfl rfl ?_
      refine j_iconst (v := 1) X dX12_drop_30 (by decide) ?_
      obtain ⟨v9, σ10, hm11, h⟩ := jbd_some h
      refine j_callV (as := [.int (1 : Int32)]) (st := []) (st1 := [.int v9]) X ln_89 ly_89 rfl rfl sv_RX12_68 ⟨by decide, by decide⟩ rfl rfl (Nat.le_of_ble_eq_true rfl) rfl dX12_drop_31 jrv_i (c_X12_finding  hm11) rfl ?_
      obtain ⟨rfl, rfl⟩ := jin2 h
      exact j_iret X R0 dX12_drop_34
  · refine j_ldc (v := -1000001) X tw_948 dX12_drop_12 ?_
    obtain ⟨rfl, rfl⟩ := jin2 h
    exact j_iret X R0 dX12_drop_14
def f_X12_feed (a0 : Int32) (σ : jMem) : Option (Int32 × jMem) :=
  jlet (jset σ 89 0 (0 : Int32)) (fun σ1 =>
  jbd (f_X12_in ((a0).toInt64) (0 : Int64) (255 : Int64) σ1) (fun v2 σ3 =>
  if ¬ v2 = 0 then
  if ¬ (σ3.1 89 11) = (140 : Int32) then
  jst σ3 97 140 (σ3.1 89 11) a0 (fun σ5 =>
  jlet (jset σ5 89 11 ((σ5.1 89 11) + (1 : Int32))) (fun σ6 =>
  some (((σ6.1 89 11), σ6))))
else
  some (((-1000003 : Int32), σ3))
else
  some (((-1000001 : Int32), σ3))))
set_option maxRecDepth 100000 in
set_option maxHeartbeats 4000000 in
theorem c_X12_feed {l : Launch} {D : va_G} {ad : Nat → Nat} {cid : Nat → ClassId} {a0 : Int32}  {σ : jMem} {r : Int32} {σ' : jMem} (h : f_X12_feed a0 σ = some (r, σ')) : jMet l D ad cid yX12_feed cX12_feed 2 (some .int) 1 25 [.ref 89, .int a0] σ (some (.int r)) σ' := by
  refine jMet_of (ls0 := [some (.ref 89), some (.int a0)]) (by decide) (Nat.le_of_ble_eq_true rfl) rfl (fun K X R0 _ => ?_)
  unfold f_X12_feed at h
  refine j_aload_n X 0 dX12_feed_0 rfl rfl ?_
  refine j_iconst (v := 0) X dX12_feed_1 (by decide) ?_
  refine j_put X fp_RX12_47 ln_89 ly_89 rfl rfl rfl dX12_feed_2 h (fun σ1 h => ?_)
  refine j_iload_n X 1 dX12_feed_5 rfl rfl ?_
  refine j_i2l X dX12_feed_6 ?_
  refine j_lconst (v := 0) X dX12_feed_7 (by decide) ?_
  refine j_ldc2_w (v := 255) X tw_970 dX12_feed_8 ?_
  obtain ⟨v2, σ3, hm4, h⟩ := jbd_some h
  refine j_callS (as := [.long ((a0).toInt64), .long (0 : Int64), .long (255 : Int64)]) (st := []) (st1 := [.int v2]) X ss_RX12_57 ⟨by decide, by decide⟩ rfl rfl (Nat.le_of_ble_eq_true rfl) rfl dX12_feed_11 jrv_i (c_X12_in  hm4) rfl ?_
  refine j_if_ne (tgt := 20) X dX12_feed_14 (by decide) h (fun h => ?_) (fun h => ?_)
  · refine j_aload_n X 0 dX12_feed_20 rfl rfl ?_
    refine j_getI X fg_RX12_74 ln_89 ly_89 rfl dX12_feed_21 ?_
    refine j_sipush (v := 140) X dX12_feed_24 (by decide) ?_
    refine j_icmp_ne (tgt := 33) X dX12_feed_27 (by decide) h (fun h => ?_) (fun h => ?_)
    · refine j_aload_n X 0 dX12_feed_33 rfl rfl ?_
      refine j_getR (t := 97) X fg_RX12_31 ln_89 ly_89 rfl dX12_feed_34 ?_
      refine j_aload_n X 0 dX12_feed_37 rfl rfl ?_
      refine j_getI X fg_RX12_74 ln_89 ly_89 rfl dX12_feed_38 ?_
      refine j_iload_n X 1 dX12_feed_41 rfl rfl ?_
      refine j_iastore X ln_97 ly_97 dX12_feed_42 h (fun σ5 h => ?_)
      refine j_aload_n X 0 dX12_feed_43 rfl rfl ?_
      refine j_dup X dX12_feed_44 rfl ?_
      refine j_getI X fg_RX12_74 ln_89 ly_89 rfl dX12_feed_45 ?_
      refine j_iconst (v := 1) X dX12_feed_48 (by decide) ?_
      refine j_iadd X dX12_feed_49 ?_
      refine j_put X fp_RX12_74 ln_89 ly_89 rfl rfl rfl dX12_feed_50 h (fun σ6 h => ?_)
      refine j_aload_n X 0 dX12_feed_53 rfl rfl ?_
      refine j_getI X fg_RX12_74 ln_89 ly_89 rfl dX12_feed_54 ?_
      obtain ⟨rfl, rfl⟩ := jin2 h
      exact j_iret X R0 dX12_feed_57
    · refine j_ldc (v := -1000003) X tw_971 dX12_feed_30 ?_
      obtain ⟨rfl, rfl⟩ := jin2 h
      exact j_iret X R0 dX12_feed_32
  · refine j_ldc (v := -1000001) X tw_948 dX12_feed_17 ?_
    obtain ⟨rfl, rfl⟩ := jin2 h
    exact j_iret X R0 dX12_feed_19
def f_X12_bad (a0 : Int32) (σ : jMem) : Option jMem :=
  if ¬ (σ.1 89 16) = 0 then
  some σ
else
  jlet (jset σ 89 16 a0) (fun σ1 =>
  jlet (jset σ1 89 17 (σ1.1 89 13)) (fun σ2 =>
  some σ2))
set_option maxRecDepth 100000 in
set_option maxHeartbeats 4000000 in
theorem c_X12_bad {l : Launch} {D : va_G} {ad : Nat → Nat} {cid : Nat → ClassId} {a0 : Int32}  {σ : jMem} {σ' : jMem} (h : f_X12_bad a0 σ = some σ') : jMet l D ad cid yX12_bad cX12_bad 2 none 0 0 [.ref 89, .int a0] σ none σ' := by
  refine jMet_of (ls0 := [some (.ref 89), some (.int a0)]) (by decide) (Nat.le_of_ble_eq_true rfl) rfl (fun K X R0 _ => ?_)
  unfold f_X12_bad at h
  refine j_aload_n X 0 dX12_bad_0 rfl rfl ?_
  refine j_getI X fg_RX12_78 ln_89 ly_89 rfl dX12_bad_1 ?_
  refine j_if_ne (tgt := 20) X dX12_bad_4 (by decide) h (fun h => ?_) (fun h => ?_)
  · obtain rfl := Option.some.inj h
    exact j_vret X R0 dX12_bad_20
  · refine j_aload_n X 0 dX12_bad_7 rfl rfl ?_
    refine j_iload_n X 1 dX12_bad_8 rfl rfl ?_
    refine j_put X fp_RX12_78 ln_89 ly_89 rfl rfl rfl dX12_bad_9 h (fun σ1 h => ?_)
    refine j_aload_n X 0 dX12_bad_12 rfl rfl ?_
    refine j_aload_n X 0 dX12_bad_13 rfl rfl ?_
    refine j_getI X fg_RX12_81 ln_89 ly_89 rfl dX12_bad_14 ?_
    refine j_put X fp_RX12_84 ln_89 ly_89 rfl rfl rfl dX12_bad_17 h (fun σ2 h => ?_)
    obtain rfl := Option.some.inj h
    exact j_vret X R0 dX12_bad_20
