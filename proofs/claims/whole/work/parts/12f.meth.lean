def X12_nextToken_L165_b  (rec : Unit → jMem → Option ((Unit) × jMem))  (σ : jMem) : Option ((Unit) × jMem) :=
  if (σ.1 89 11) ≤ (σ.1 89 12) then
  some ((), σ)
else
  jld σ 97 140 (σ.1 89 12) (fun v15 =>
  jbd (f_X12_in ((v15).toInt64) (48 : Int64) (57 : Int64) σ) (fun v16 σ17 =>
  if v16 = 0 then
  some ((), σ17)
else
  jj (fun (q20 : Int32) σ21 =>
  jlet (jset σ21 89 15 q20) (fun σ22 =>
  jlet (jset σ22 89 12 ((σ22.1 89 12) + (1 : Int32))) (fun σ23 =>
  rec () σ23))) (fun k19 =>
  if (2 : Int32) ≤ ((σ17.1 89 12) - (σ17.1 89 13)) then
  k19 (σ17.1 89 15) σ17
else
  jld σ17 97 140 (σ17.1 89 12) (fun v24 =>
  k19 ((((10 : Int32) * (σ17.1 89 15)) + v24) - (48 : Int32)) σ17))))
def X12_nextToken_L165  : Nat → Unit → jMem → Option ((Unit) × jMem) := jloop (fun rec s σ => X12_nextToken_L165_b  rec  σ)
set_option maxRecDepth 100000 in
set_option maxHeartbeats 4000000 in
theorem X12_nextToken_L165_bok {K : jK} (X : JX K cX12_nextToken 1 RX12 1 25)   {rec : Unit → jMem → Option ((Unit) × jMem)} (ih : ∀ (s : Unit) (σ : jMem) (o : (Unit) × jMem), rec s σ = some o → (J K 255 [some (.ref 89)] [] o.2) → J K 165 [some (.ref 89)] [] σ) : ∀  (σ : jMem) (o : (Unit) × jMem), X12_nextToken_L165_b  rec  σ = some o → (J K 255 [some (.ref 89)] [] o.2) → J K 165 [some (.ref 89)] [] σ := by
  intro  σ o h kk
  unfold X12_nextToken_L165_b at h
  refine j_aload_n X 0 dX12_nextToken_165 rfl rfl ?_
  refine j_getI X fg_RX12_87 ln_89 ly_89 rfl dX12_nextToken_166 ?_
  refine j_aload_n X 0 dX12_nextToken_169 rfl rfl ?_
  refine j_getI X fg_RX12_74 ln_89 ly_89 rfl dX12_nextToken_170 ?_
  refine j_icmp_ge (tgt := 255) X dX12_nextToken_173 (by decide) h (fun h => ?_) (fun h => ?_)
  · obtain rfl := Option.some.inj h
    exact kk
  · refine j_aload_n X 0 dX12_nextToken_176 rfl rfl ?_
    refine j_getR (t := 97) X fg_RX12_31 ln_89 ly_89 rfl dX12_nextToken_177 ?_
    refine j_aload_n X 0 dX12_nextToken_180 rfl rfl ?_
    refine j_getI X fg_RX12_87 ln_89 ly_89 rfl dX12_nextToken_181 ?_
    refine j_iaload X ln_97 ly_97 dX12_nextToken_184 h (fun v15 h => ?_)
    refine j_i2l X dX12_nextToken_185 ?_
    refine j_ldc2_w (v := 48) X tw_991 dX12_nextToken_186 ?_
    refine j_ldc2_w (v := 57) X tw_992 dX12_nextToken_189 ?_
    obtain ⟨v16, σ17, hm18, h⟩ := jbd_some h
    refine j_callS (as := [.long ((v15).toInt64), .long (48 : Int64), .long (57 : Int64)]) (st := []) (st1 := [.int v16]) X ss_RX12_57 ⟨by decide, by decide⟩ rfl rfl (Nat.le_of_ble_eq_true rfl) rfl dX12_nextToken_192 jrv_i (c_X12_in  hm18) rfl ?_
    refine j_if_eq (tgt := 255) X dX12_nextToken_195 (by decide) h (fun h => ?_) (fun h => ?_)
    · obtain rfl := Option.some.inj h
      exact kk
    · refine j_aload_n X 0 dX12_nextToken_198 rfl rfl ?_
      refine j_aload_n X 0 dX12_nextToken_199 rfl rfl ?_
      refine j_getI X fg_RX12_87 ln_89 ly_89 rfl dX12_nextToken_200 ?_
      refine j_aload_n X 0 dX12_nextToken_203 rfl rfl ?_
      refine j_getI X fg_RX12_81 ln_89 ly_89 rfl dX12_nextToken_204 ?_
      refine j_isub X dX12_nextToken_207 ?_
      refine j_iconst (v := 2) X dX12_nextToken_208 (by decide) ?_
      refine j_join (pcJ := 239) (lsJ := fun q20 => [some (.ref 89)]) (stJ := fun q20 => [.int q20, .ref 89]) h (fun q20 σ21 h => ?_) (fun k19 hk19 h => ?_)
      · refine j_put X fp_RX12_91 ln_89 ly_89 rfl rfl rfl dX12_nextToken_239 h (fun σ22 h => ?_)
        refine j_aload_n X 0 dX12_nextToken_242 rfl rfl ?_
        refine j_dup X dX12_nextToken_243 rfl ?_
        refine j_getI X fg_RX12_87 ln_89 ly_89 rfl dX12_nextToken_244 ?_
        refine j_iconst (v := 1) X dX12_nextToken_247 (by decide) ?_
        refine j_iadd X dX12_nextToken_248 ?_
        refine j_put X fp_RX12_87 ln_89 ly_89 rfl rfl rfl dX12_nextToken_249 h (fun σ23 h => ?_)
        refine j_goto (tgt := 165) X dX12_nextToken_252 (by decide) ?_
        exact ih () σ23 _ h kk
      · refine j_icmp_ge (tgt := 235) X dX12_nextToken_209 (by decide) h (fun h => ?_) (fun h => ?_)
        · refine j_aload_n X 0 dX12_nextToken_235 rfl rfl ?_
          refine j_getI X fg_RX12_91 ln_89 ly_89 rfl dX12_nextToken_236 ?_
          exact hk19 (σ17.1 89 15) σ17 h
        · refine j_bipush (v := 10) X dX12_nextToken_212 (by decide) ?_
          refine j_aload_n X 0 dX12_nextToken_214 rfl rfl ?_
          refine j_getI X fg_RX12_91 ln_89 ly_89 rfl dX12_nextToken_215 ?_
          refine j_imul X dX12_nextToken_218 ?_
          refine j_aload_n X 0 dX12_nextToken_219 rfl rfl ?_
          refine j_getR (t := 97) X fg_RX12_31 ln_89 ly_89 rfl dX12_nextToken_220 ?_
          refine j_aload_n X 0 dX12_nextToken_223 rfl rfl ?_
          refine j_getI X fg_RX12_87 ln_89 ly_89 rfl dX12_nextToken_224 ?_
          refine j_iaload X ln_97 ly_97 dX12_nextToken_227 h (fun v24 h => ?_)
          refine j_iadd X dX12_nextToken_228 ?_
          refine j_bipush (v := 48) X dX12_nextToken_229 (by decide) ?_
          refine j_isub X dX12_nextToken_231 ?_
          refine j_goto (tgt := 239) X dX12_nextToken_232 (by decide) ?_
          exact hk19 ((((10 : Int32) * (σ17.1 89 15)) + v24) - (48 : Int32)) σ17 h
theorem X12_nextToken_L165_ok {K : jK} (X : JX K cX12_nextToken 1 RX12 1 25)   : ∀ (n : Nat) (s : Unit) (σ : jMem) (o : (Unit) × jMem), X12_nextToken_L165  n s σ = some o → (J K 255 [some (.ref 89)] [] o.2) → J K 165 [some (.ref 89)] [] σ := by
  intro n
  induction n with
  | zero => intro s σ o h; cases h
  | succ n ih => intro s σ o h; exact X12_nextToken_L165_bok X  ih  σ o h
def f_X12_nextToken  (σ : jMem) : Option jMem :=
  jlet (jset σ 89 13 (σ.1 89 12)) (fun σ1 =>
  jj (fun (q3 : Int32) σ4 =>
  jlet (jset σ4 89 15 q3) (fun σ5 =>
  jj (fun (q7 : Int32) σ8 =>
  jlet (jset σ8 89 14 q7) (fun σ9 =>
  jj (fun (q11 : Int32) σ12 =>
  jlet (jset σ12 89 12 ((σ9.1 89 12) + q11)) (fun σ13 =>
  if ¬ (σ13.1 89 14) = (3 : Int32) then
  some σ13
else
  jlet (jset σ13 89 15 ((σ13.1 89 15) - (48 : Int32))) (fun σ14 =>
  jbd (X12_nextToken_L165  jFU () σ14) (fun q25 σ26 =>
  jj (fun (q28 : Int32) σ29 =>
  jlet (jset σ29 89 14 q28) (fun σ30 =>
  some σ30)) (fun k27 =>
  if ((σ26.1 89 12) - (σ26.1 89 13)) ≤ (2 : Int32) then
  k27 (3 : Int32) σ26
else
  k27 (0 : Int32) σ26))))) (fun k10 =>
  if (σ9.1 89 11) ≤ (σ9.1 89 12) then
  k10 (0 : Int32) σ9
else
  k10 (1 : Int32) σ9))) (fun k6 =>
  if ¬ (σ5.1 89 12) = (σ5.1 89 11) then
  jbd (f_X12_in (((σ5.1 89 15)).toInt64) (97 : Int64) (122 : Int64) σ5) (fun v32 σ33 =>
  if v32 = 0 then
  jbd (f_X12_in (((σ33.1 89 15)).toInt64) (48 : Int64) (57 : Int64) σ33) (fun v35 σ36 =>
  if v35 = 0 then
  jj (fun (q39 : Unit) σ40 =>
  k6 (4 : Int32) σ40) (fun k38 =>
  if (σ36.1 89 15) = (44 : Int32) then
  k38 () σ36
else
  if ¬ (σ36.1 89 15) = (59 : Int32) then
  k6 (0 : Int32) σ36
else
  k38 () σ36)
else
  k6 (3 : Int32) σ36)
else
  k6 (2 : Int32) σ33)
else
  k6 (1 : Int32) σ5))) (fun k2 =>
  if (σ1.1 89 11) ≤ (σ1.1 89 12) then
  k2 (-1000000 : Int32) σ1
else
  jld σ1 97 140 (σ1.1 89 12) (fun v41 =>
  k2 v41 σ1)))
set_option maxRecDepth 100000 in
set_option maxHeartbeats 4000000 in
theorem c_X12_nextToken {l : Launch} {D : va_G} {ad : Nat → Nat} {cid : Nat → ClassId}   {σ : jMem} {σ' : jMem} (h : f_X12_nextToken  σ = some σ') : jMet l D ad cid yX12_nextToken cX12_nextToken 1 none 1 25 [.ref 89] σ none σ' := by
  refine jMet_of (ls0 := [some (.ref 89)]) (by decide) (Nat.le_of_ble_eq_true rfl) rfl (fun K X R0 _ => ?_)
  unfold f_X12_nextToken at h
  refine j_aload_n X 0 dX12_nextToken_0 rfl rfl ?_
  refine j_aload_n X 0 dX12_nextToken_1 rfl rfl ?_
  refine j_getI X fg_RX12_87 ln_89 ly_89 rfl dX12_nextToken_2 ?_
  refine j_put X fp_RX12_81 ln_89 ly_89 rfl rfl rfl dX12_nextToken_5 h (fun σ1 h => ?_)
  refine j_aload_n X 0 dX12_nextToken_8 rfl rfl ?_
  refine j_aload_n X 0 dX12_nextToken_9 rfl rfl ?_
  refine j_getI X fg_RX12_87 ln_89 ly_89 rfl dX12_nextToken_10 ?_
  refine j_aload_n X 0 dX12_nextToken_13 rfl rfl ?_
  refine j_getI X fg_RX12_74 ln_89 ly_89 rfl dX12_nextToken_14 ?_
  refine j_join (pcJ := 34) (lsJ := fun q3 => [some (.ref 89)]) (stJ := fun q3 => [.int q3, .ref 89]) h (fun q3 σ4 h => ?_) (fun k2 hk2 h => ?_)
  · refine j_put X fp_RX12_91 ln_89 ly_89 rfl rfl rfl dX12_nextToken_34 h (fun σ5 h => ?_)
    refine j_aload_n X 0 dX12_nextToken_37 rfl rfl ?_
    refine j_aload_n X 0 dX12_nextToken_38 rfl rfl ?_
    refine j_getI X fg_RX12_87 ln_89 ly_89 rfl dX12_nextToken_39 ?_
    refine j_aload_n X 0 dX12_nextToken_42 rfl rfl ?_
    refine j_getI X fg_RX12_74 ln_89 ly_89 rfl dX12_nextToken_43 ?_
    refine j_join (pcJ := 118) (lsJ := fun q7 => [some (.ref 89)]) (stJ := fun q7 => [.int q7, .ref 89]) h (fun q7 σ8 h => ?_) (fun k6 hk6 h => ?_)
    · refine j_put X fp_RX12_102 ln_89 ly_89 rfl rfl rfl dX12_nextToken_118 h (fun σ9 h => ?_)
      refine j_aload_n X 0 dX12_nextToken_121 rfl rfl ?_
      refine j_dup X dX12_nextToken_122 rfl ?_
      refine j_getI X fg_RX12_87 ln_89 ly_89 rfl dX12_nextToken_123 ?_
      refine j_aload_n X 0 dX12_nextToken_126 rfl rfl ?_
      refine j_getI X fg_RX12_87 ln_89 ly_89 rfl dX12_nextToken_127 ?_
      refine j_aload_n X 0 dX12_nextToken_130 rfl rfl ?_
      refine j_getI X fg_RX12_74 ln_89 ly_89 rfl dX12_nextToken_131 ?_
      refine j_join (pcJ := 142) (lsJ := fun q11 => [some (.ref 89)]) (stJ := fun q11 => [.int q11, .int (σ9.1 89 12), .ref 89]) h (fun q11 σ12 h => ?_) (fun k10 hk10 h => ?_)
      · refine j_iadd X dX12_nextToken_142 ?_
        refine j_put X fp_RX12_87 ln_89 ly_89 rfl rfl rfl dX12_nextToken_143 h (fun σ13 h => ?_)
        refine j_aload_n X 0 dX12_nextToken_146 rfl rfl ?_
        refine j_getI X fg_RX12_102 ln_89 ly_89 rfl dX12_nextToken_147 ?_
        refine j_iconst (v := 3) X dX12_nextToken_150 (by decide) ?_
        refine j_icmp_ne (tgt := 277) X dX12_nextToken_151 (by decide) h (fun h => ?_) (fun h => ?_)
        · obtain rfl := Option.some.inj h
          exact j_vret X R0 dX12_nextToken_277
        · refine j_aload_n X 0 dX12_nextToken_154 rfl rfl ?_
          refine j_dup X dX12_nextToken_155 rfl ?_
          refine j_getI X fg_RX12_91 ln_89 ly_89 rfl dX12_nextToken_156 ?_
          refine j_bipush (v := 48) X dX12_nextToken_159 (by decide) ?_
          refine j_isub X dX12_nextToken_161 ?_
          refine j_put X fp_RX12_91 ln_89 ly_89 rfl rfl rfl dX12_nextToken_162 h (fun σ14 h => ?_)
          obtain ⟨q25, σ26, hL31, h⟩ := jbd_some h
          refine X12_nextToken_L165_ok X  jFU () σ14 _ hL31 ?_
          refine j_aload_n X 0 dX12_nextToken_255 rfl rfl ?_
          refine j_aload_n X 0 dX12_nextToken_256 rfl rfl ?_
          refine j_getI X fg_RX12_87 ln_89 ly_89 rfl dX12_nextToken_257 ?_
          refine j_aload_n X 0 dX12_nextToken_260 rfl rfl ?_
          refine j_getI X fg_RX12_81 ln_89 ly_89 rfl dX12_nextToken_261 ?_
          refine j_isub X dX12_nextToken_264 ?_
          refine j_iconst (v := 2) X dX12_nextToken_265 (by decide) ?_
          refine j_join (pcJ := 274) (lsJ := fun q28 => [none]) (stJ := fun q28 => [.int q28, .ref 89]) h (fun q28 σ29 h => ?_) (fun k27 hk27 h => ?_)
          · refine j_put X fp_RX12_102 ln_89 ly_89 rfl rfl rfl dX12_nextToken_274 h (fun σ30 h => ?_)
            obtain rfl := Option.some.inj h
            exact j_vret X R0 dX12_nextToken_277
          · refine j_icmp_le (tgt := 273) X dX12_nextToken_266 (by decide) h (fun h => ?_) (fun h => ?_)
            · refine j_iconst (v := 3) X dX12_nextToken_273 (by decide) ?_
              exact j_sub (ls' := [none]) ⟨Or.inl rfl, trivial⟩ (hk27 (3 : Int32) σ26 h)
            · refine j_iconst (v := 0) X dX12_nextToken_269 (by decide) ?_
              refine j_goto (tgt := 274) X dX12_nextToken_270 (by decide) ?_
              exact j_sub (ls' := [none]) ⟨Or.inl rfl, trivial⟩ (hk27 (0 : Int32) σ26 h)
      · refine j_icmp_ge (tgt := 141) X dX12_nextToken_134 (by decide) h (fun h => ?_) (fun h => ?_)
        · refine j_iconst (v := 0) X dX12_nextToken_141 (by decide) ?_
          exact hk10 (0 : Int32) σ9 h
        · refine j_iconst (v := 1) X dX12_nextToken_137 (by decide) ?_
          refine j_goto (tgt := 142) X dX12_nextToken_138 (by decide) ?_
          exact hk10 (1 : Int32) σ9 h
    · refine j_icmp_ne (tgt := 53) X dX12_nextToken_46 (by decide) h (fun h => ?_) (fun h => ?_)
      · refine j_aload_n X 0 dX12_nextToken_53 rfl rfl ?_
        refine j_getI X fg_RX12_91 ln_89 ly_89 rfl dX12_nextToken_54 ?_
        refine j_i2l X dX12_nextToken_57 ?_
        refine j_ldc2_w (v := 97) X tw_989 dX12_nextToken_58 ?_
        refine j_ldc2_w (v := 122) X tw_990 dX12_nextToken_61 ?_
        obtain ⟨v32, σ33, hm34, h⟩ := jbd_some h
        refine j_callS (as := [.long (((σ5.1 89 15)).toInt64), .long (97 : Int64), .long (122 : Int64)]) (st := [.ref 89]) (st1 := [.int v32, .ref 89]) X ss_RX12_57 ⟨by decide, by decide⟩ rfl rfl (Nat.le_of_ble_eq_true rfl) rfl dX12_nextToken_64 jrv_i (c_X12_in  hm34) rfl ?_
        refine j_if_eq (tgt := 74) X dX12_nextToken_67 (by decide) h (fun h => ?_) (fun h => ?_)
        · refine j_aload_n X 0 dX12_nextToken_74 rfl rfl ?_
          refine j_getI X fg_RX12_91 ln_89 ly_89 rfl dX12_nextToken_75 ?_
          refine j_i2l X dX12_nextToken_78 ?_
          refine j_ldc2_w (v := 48) X tw_991 dX12_nextToken_79 ?_
          refine j_ldc2_w (v := 57) X tw_992 dX12_nextToken_82 ?_
          obtain ⟨v35, σ36, hm37, h⟩ := jbd_some h
          refine j_callS (as := [.long (((σ33.1 89 15)).toInt64), .long (48 : Int64), .long (57 : Int64)]) (st := [.ref 89]) (st1 := [.int v35, .ref 89]) X ss_RX12_57 ⟨by decide, by decide⟩ rfl rfl (Nat.le_of_ble_eq_true rfl) rfl dX12_nextToken_85 jrv_i (c_X12_in  hm37) rfl ?_
          refine j_if_eq (tgt := 95) X dX12_nextToken_88 (by decide) h (fun h => ?_) (fun h => ?_)
          · refine j_aload_n X 0 dX12_nextToken_95 rfl rfl ?_
            refine j_getI X fg_RX12_91 ln_89 ly_89 rfl dX12_nextToken_96 ?_
            refine j_bipush (v := 44) X dX12_nextToken_99 (by decide) ?_
            refine j_join (pcJ := 113) (lsJ := fun q39 => [some (.ref 89)]) (stJ := fun q39 => [.ref 89]) h (fun q39 σ40 h => ?_) (fun k38 hk38 h => ?_)
            · refine j_iconst (v := 4) X dX12_nextToken_113 (by decide) ?_
              refine j_goto (tgt := 118) X dX12_nextToken_114 (by decide) ?_
              exact hk6 (4 : Int32) σ40 h
            · refine j_icmp_eq (tgt := 113) X dX12_nextToken_101 (by decide) h (fun h => ?_) (fun h => ?_)
              · exact hk38 () σ36 h
              · refine j_aload_n X 0 dX12_nextToken_104 rfl rfl ?_
                refine j_getI X fg_RX12_91 ln_89 ly_89 rfl dX12_nextToken_105 ?_
                refine j_bipush (v := 59) X dX12_nextToken_108 (by decide) ?_
                refine j_icmp_ne (tgt := 117) X dX12_nextToken_110 (by decide) h (fun h => ?_) (fun h => ?_)
                · refine j_iconst (v := 0) X dX12_nextToken_117 (by decide) ?_
                  exact hk6 (0 : Int32) σ36 h
                · exact hk38 () σ36 h
          · refine j_iconst (v := 3) X dX12_nextToken_91 (by decide) ?_
            refine j_goto (tgt := 118) X dX12_nextToken_92 (by decide) ?_
            exact hk6 (3 : Int32) σ36 h
        · refine j_iconst (v := 2) X dX12_nextToken_70 (by decide) ?_
          refine j_goto (tgt := 118) X dX12_nextToken_71 (by decide) ?_
          exact hk6 (2 : Int32) σ33 h
      · refine j_iconst (v := 1) X dX12_nextToken_49 (by decide) ?_
        refine j_goto (tgt := 118) X dX12_nextToken_50 (by decide) ?_
        exact hk6 (1 : Int32) σ5 h
  · refine j_icmp_ge (tgt := 32) X dX12_nextToken_17 (by decide) h (fun h => ?_) (fun h => ?_)
    · refine j_ldc (v := -1000000) X tw_988 dX12_nextToken_32 ?_
      exact hk2 (-1000000 : Int32) σ1 h
    · refine j_aload_n X 0 dX12_nextToken_20 rfl rfl ?_
      refine j_getR (t := 97) X fg_RX12_31 ln_89 ly_89 rfl dX12_nextToken_21 ?_
      refine j_aload_n X 0 dX12_nextToken_24 rfl rfl ?_
      refine j_getI X fg_RX12_87 ln_89 ly_89 rfl dX12_nextToken_25 ?_
      refine j_iaload X ln_97 ly_97 dX12_nextToken_28 h (fun v41 h => ?_)
      refine j_goto (tgt := 34) X dX12_nextToken_29 (by decide) ?_
      exact hk2 v41 σ1 h
