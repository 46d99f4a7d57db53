def X12_nextToken_L165_b  (rec : Unit → jMem → Option ((Unit) × jMem))  (σ : jMem) : Option ((Unit) × jMem) :=
  if (σ.1 89 11) ≤ (σ.1 89 12) then
  some ((), σ)
else
  jld σ 97 140 (σ.1 89 12) (fun v15 =>
  jbd (f_X12_in ((v15).toInt64) (48 : Int64) (57 : Int64) σ) (fun v16 σ17 =>
  if v16 = 0 then
  some ((), σ17)
else
  jj (fun (q20 : Int32) σ21 =>
  jlet (jset σ21 89 15 q20) (fun σ22 =>
  jlet (jset σ22 89 12 ((σ22.1 89 12) + (1 : Int32))) (fun σ23 =>
  rec () σ23))) (fun k19 =>
  if (2 : Int32) ≤ ((σ17.1 89 12) - (σ17.1 89 13)) then
  k19 (σ17.1 89 15) σ17
else
  jld σ17 97 140 (σ17.1 89 12) (fun v24 =>
  k19 ((((10 : Int32) * (σ17.1 89 15)) + v24) - (48 : Int32)) σ17))))
def X12_nextToken_L165  : Nat → Unit → jMem → Option ((Unit) × jMem) := jloop (fun rec s σ => X12_nextToken_L165_b  rec  σ)
set_option maxRecDepth 100000 in
set_option maxHeartbeats 4000000 in
theorem X12_nextToken_L165_bok {K : jK} (X : JX K cX12_nextToken 1 RX12 1 25)   {rec : Unit → jMem → Option ((Unit) × jMem)} (ih : ∀ (s : Unit) (σ : jMem) (o : (Unit) × jMem), rec s σ = some o → (J K 255 [some (.ref 89)] [] o.2) → J K 165 [some (.ref 89)] [] σ) : ∀  (σ : jMem) (o : (Unit) × jMem), X12_nextToken_L165_b  rec  σ = some o → (J K 255 [some (.ref 89)] [] o.2) → J K 165 [some (.ref 89)] [] σ := by
  intro  σ o h kk
  unfold X12_nextToken_L165_b at h
  refine j_aload_n X 0 dX12_nextToken_165 rfl rfl ?_
  refine j_getI X fg_RX12_87 ln_89 ly_89 rfl dX12_nextToken_166 ?_
  refine j_aload_n X 0 dX12_nextToken_169 rfl rfl ?_
  refine j_getI X fg_RX12_74 ln_89 ly_89 rfl dX12_nextToken_170 ?_
  refine j_icmp_ge (tgt := 255) X dX12_nextToken_173 (by decide) h (fun h => ?_) (fun h => ?_)
  · obtain rfl := Option.some.inj h
    exact kk
  · refine j_aload_n X 0 dX12_nextToken_176 rfl rfl ?_
    refine j_getR (t := 97) X fg_RX12_31 ln_89 ly_89 rfl dX12_nextToken_177 ?_
    refine j_aload_n X 0 dX12_nextToken_180 rfl rfl ?_
    refine j_getI X fg_RX12_87 ln_89 ly_89 rfl dX12_nextToken_181 ?_
    refine j_iaload X ln_97 ly_97 dX12_nextToken_184 h (fun v15 h => ?_)
    refine j_i2l X dX12_nextToken_185 ?_
    refine j_ldc2_w (v := 48) X tw_991 dX12_nextToken_186 ?_
    refine j_ldc2_w (v := 57) X tw_992 dX12_nextToken_189 ?_
    obtain ⟨v16, σ17, hm18, h⟩ := jbd_some h
    refine j_callS (as := [.long ((v15).toInt64), .long (48 : Int64), .long (57 : Int64)]) (st := []) (st1 := [.int v16]) X ss_RX12_57 ⟨by decide, by decide⟩ rfl rfl (Nat.le_of_ble_eq_true rfl) rfl dX12_nextToken_192 jrv_i (c_X12_in  hm18) rfl ?_
    refine j_if_eq (tgt := 255) X dX12_nextToken_195 (by decide) h (fun h => ?_) (fun h => ?_)
    · obtain rfl := Option.some.inj h
      exact kk
    · refine j_aload_n X 0 dX12_nextToken_198 rfl rfl ?_
      refine j_aload_n X 0 dX12_nextToken_199 rfl rfl ?_
      refine j_getI X fg_RX12_87 ln_89 ly_89 rfl dX12_nextToken_200 ?_
      refine j_aload_n X 0 dX12_nextToken_203 rfl rfl ?_
      refine j_getI X fg_RX12_81 ln_89 ly_89 rfl dX12_nextToken_204 ?_
      refine j_isub X dX12_nextToken_207 ?_
      refine j_iconst (v := 2) X dX12_nextToken_208 (by decide) ?_
      refine j_join (pcJ := 239) (lsJ := fun q20 => [some (.ref 89)]) (stJ := fun q20 => [.int q20, .ref 89]) h (fun q20 σ21 h => ?_) (fun k19 hk19 h => ?_)
      · refine j_put X fp_RX12_91 ln_89 ly_89 rfl rfl rfl dX12_nextToken_239 h (fun σ22 h => ?_)
        refine j_aload_n X 0 dX12_nextToken_242 rfl rfl ?_
        refine j_dup X dX12_nextToken_243 rfl ?_
        refine j_getI X fg_RX12_87 ln_89 ly_89 rfl dX12_nextToken_244 ?_
        refine j_iconst (v := 1) X dX12_nextToken_247 (by decide) ?_
        refine j_iadd X dX12_nextToken_248 ?_
        refine j_put X fp_RX12_87 ln_89 ly_89 rfl rfl rfl dX12_nextToken_249 h (fun σ23 h => ?_)
        refine j_goto (tgt := 165) X dX12_nextToken_252 (by decide) ?_
        exact ih () σ23 _ h kk
      · refine j_icmp_ge (tgt := 235) X dX12_nextToken_209 (by decide) h (fun h => ?_) (fun h => ?_)
        · refine j_aload_n X 0 dX12_nextToken_235 rfl rfl ?_
          refine j_getI X fg_RX12_91 ln_89 ly_89 rfl dX12_nextToken_236 ?_
          exact hk19 (σ17.1 89 15) σ17 h
        · refine j_bipush (v := 10) X dX12_nextToken_212 (by decide) ?_
          refine j_aload_n X 0 dX12_nextToken_214 rfl rfl ?_
          refine j_getI X fg_RX12_91 ln_89 ly_89 rfl dX12_nextToken_215 ?_
          refine j_imul X dX12_nextToken_218 ?_
          refine j_aload_n X 0 dX12_nextToken_219 rfl rfl ?_
          refine j_getR (t := 97) X fg_RX12_31 ln_89 ly_89 rfl dX12_nextToken_220 ?_
          refine j_aload_n X 0 dX12_nextToken_223 rfl rfl ?_
          refine j_getI X fg_RX12_87 ln_89 ly_89 rfl dX12_nextToken_224 ?_
          refine j_iaload X ln_97 ly_97 dX12_nextToken_227 h (fun v24 h => ?_)
          refine j_iadd X dX12_nextToken_228 ?_
          refine j_bipush (v := 48) X dX12_nextToken_229 (by decide) ?_
          refine j_isub X dX12_nextToken_231 ?_
          refine j_goto (tgt := 239) X dX12_nextToken_232 (by decide) ?_
          exact hk19 ((((10 : Int32) * (σ17.1 89 15)) + v24) - (48 : Int32)) σ17 h
theorem X12_nextToken_L165_ok {K : jK} (X : JX K cX12_nextToken 1 RX12 1 25)   : ∀ (n : Nat) (s : Unit) (σ : jMem) (o : (Unit) × jMem), X12_nextToken_L165  n s σ = some o → (J K 255 [some (.ref 89)] [] o.2) → J K 165 [some (.ref 89)] [] σ := by
  intro n
  induction n with
  | zero => intro s σ o h; cases h
  | succ n ih => intro s σ o h; exact X12_nextToken_L165_bok X  ih  σ o h
def f_X12_nextToken  (σ : jMem) : Option jMem :=
  jlet (jset σ 89 13 (σ.1 89 12)) (fun σ1 =>
  jj (fun (q3 : Int32) σ4 =>
  jlet (jset σ4 89 15 q3) (fun σ5 =>
  jj (fun (q7 : Int32) σ8 =>
  jlet (jset σ8 89 14 q7) (fun σ9 =>
  jj (fun (q11 : Int32) σ12 =>
  jlet (jset σ12 89 12 ((σ9.1 89 12) + q11)) (fun σ13 =>
  if ¬ (σ13.1 89 14) = (3 : Int32) then
  some σ13
else
  jlet (jset σ13 89 15 ((σ13.1 89 15) - (48 : Int32))) (fun σ14 =>
  jbd (X12_nextToken_L165  jFU () σ14) (fun q25 σ26 =>
  jj (fun (q28 : Int32) σ29 =>
  jlet (jset σ29 89 14 q28) (fun σ30 =>
  some σ30)) (fun k27 =>
  if ((σ26.1 89 12) - (σ26.1 89 13)) ≤ (2 : Int32) then
  k27 (3 : Int32) σ26
else
  k27 (0 : Int32) σ26))))) (fun k10 =>
  if (σ9.1 89 11) ≤ (σ9.1 89 12) then
  k10 (0 : Int32) σ9
else
  k10 (1 : Int32) σ9))) (fun k6 =>
  if ¬ (σ5.1 89 12) = (σ5.1 89 11) then
  jbd (f_X12_in (((σ5.1 89 15)).toInt64) (97 : Int64) (122 : Int64) σ5) (fun v32 σ33 =>
  if v32 = 0 then
  jbd (f_X12_in (((σ33.1 89 15)).toInt64) (48 : Int64) (57 : Int64) σ33) (fun v35 σ36 =>
  if v35 = 0 then
  jj (fun (q39 : Unit) σ40 =>
  k6 (4 : Int32) σ40) (fun k38 =>
  if (σ36.1 89 15) = (44 : Int32) then
  k38 () σ36
else
  if ¬ (σ36.1 89 15) = (59 : Int32) then
  k6 (0 : Int32) σ36
else
  k38 () σ36)
else
  k6 (3 : Int32) σ36)
else
  k6 (2 : Int32) σ33)
else
  k6 (1 : Int32) σ5))) (fun k2 =>
  if (σ1.1 89 11) ≤ (σ1.1 89 12) then
  k2 (-1000000 : Int32) σ1
else
  jld σ1 97 140 (σ1.1 89 12) (fun v41 =>
  k2 v41 σ1)))
set_option maxRecDepth 100000 in
set_option maxHeartbeats 4000000 in
theorem c_X12_nextToken {l : Launch} {D : va_G} {ad : Nat → Nat} {cid : Nat → ClassId}   {σ : jMem} {σ' : jMem} (h : f_X12_nextToken  σ = some σ') : jMet l D ad cid yX12_nextToken cX12_nextToken 1 none 1 25 [.ref 89] σ none σ' := by
  refine jMet_of (ls0 := [some (.ref 89)]) (by decide) (Nat.le_of_ble_eq_true rfl) rfl (fun K X R0 _ => ?_)
  unfold f_X12_nextToken at h
  refine j_aload_n X 0 dX12_nextToken_0 rfl rfl ?_
  refine j_aload_n X 0 dX12_nextToken_1 rfl rfl ?_
  refine j_getI X fg_RX12_87 ln_89 ly_89 rfl dX12_nextToken_2 ?_
  refine j_put X fp_RX12_81 ln_89 ly_89 rfl rfl rfl dX12_nextToken_5 h (fun σ1 h => ?_)
  refine j_aload_n X 0 dX12_nextToken_8 rfl rfl ?_
  refine j_aload_n X 0 dX12_nextToken_9 rfl rfl ?_
  refine j_getI X fg_RX12_87 ln_89 ly_89 rfl dX12_nextToken_10 ?_
  refine j_aload_n X 0 dX12_nextToken_13 rfl rfl ?_
  refine j_getI X fg_RX12_74 ln_89 ly_89 rfl dX12_nextToken_14 ?_
  refine j_join (pcJ := 34) (lsJ := fun q3 => [some (.ref 89)]) (stJ := fun q3 => [.int q3, .ref 89]) h (fun q3 σ4 h => ?_) (fun k2 hk2 h => ?_)
  · refine j_put X fp_RX12_91 ln_89 ly_89 rfl rfl rfl dX12_nextToken_34 h (fun σ5 h => ?_)
    refine j_aload_n X 0 dX12_nextToken_37 rfl rfl ?_
    refine j_aload_n X 0 dX12_nextToken_38 rfl rfl ?_
    refine j_getI X fg_RX12_87 ln_89 ly_89 rfl dX12_nextToken_39 ?_
    refine j_aload_n X 0 dX12_nextToken_42 rfl rfl ?_
    refine j_getI X fg_RX12_74 ln_89 ly_89 rfl dX12_nextToken_43 ?_
    refine j_join (pcJ := 118) (lsJ := fun q7 => [some (.ref 89)]) (stJ := fun q7 => [.int q7, .ref 89]) h (fun q7 σ8 h => ?_) (fun k6 hk6 h => ?_)
    · refine j_put X fp_RX12_102 ln_89 ly_89 rfl rfl rfl dX12_nextToken_118 h (fun σ9 h => ?_)
      refine j_aload_n X 0 dX12_nextToken_121 rfl rfl ?_
      refine j_dup X dX12_nextToken_122 rfl ?_
      refine j_getI X fg_RX12_87 ln_89 ly_89 rfl dX12_nextToken_123 ?_
      refine j_aload_n X 0 dX12_nextToken_126 rfl rfl ?_
      refine j_getI X fg_RX12_87 ln_89 ly_89 rfl dX12_nextToken_127 ?_
      refine j_aload_n X 0 dX12_nextToken_130 rfl rfl ?_
      refine j_getI X fg_RX12_74 ln_89 ly_89 rfl dX12_nextToken_131 ?_
      refine j_join (pcJ := 142) (lsJ := fun q11 => [some (.ref 89)]) (stJ := fun q11 => [.int q11, .int (σ9.1 89 12), .ref 89]) h (fun q11 σ12 h => ?_) (fun k10 hk10 h => ?_)
      · refine j_iadd X dX12_nextToken_142 ?_
        refine j_put X fp_RX12_87 ln_89 ly_89 rfl rfl rfl dX12_nextToken_143 h (fun σ13 h => ?_)
        refine j_aload_n X 0 dX12_nextToken_146 rfl rfl ?_
        refine j_getI X fg_RX12_102 ln_89 ly_89 rfl dX12_nextToken_147 ?_
        refine j_iconst (v := 3) X dX12_nextToken_150 (by decide) ?_
        refine j_icmp_ne (tgt := 277) X dX12_nextToken_151 (by decide) h (fun h => ?_) (fun h => ?_)
        · obtain rfl := Option.some.inj h
          exact j_vret X R0 dX12_nextToken_277
        · refine j_aload_n X 0 dX12_nextToken_154 rfl rfl ?_
          refine j_dup X dX12_nextToken_155 rfl ?_
          refine j_getI X fg_RX12_91 ln_89 ly_89 rfl dX12_nextToken_156 ?_
          refine j_bipush (v := 48) X dX12_nextToken_159 (by decide) ?_
          refine j_isub X dX12_nextToken_161 ?_
          refine j_put X fp_RX12_91 ln_89 ly_89 rfl rfl rfl dX12_nextToken_162 h (fun σ14 h => ?_)
          obtain ⟨q25, σ26, hL31, h⟩ := jbd_some h
          refine X12_nextToken_L165_ok X  jFU () σ14 _ hL31 ?_
          refine j_aload_n X 0 dX12_nextToken_255 rfl rfl ?_
          refine j_aload_n X 0 dX12_nextToken_256 rfl rfl ?_
          refine j_getI X fg_RX12_87 ln_89 ly_89 rfl dX12_nextToken_257 ?_
          refine j_aload_n X 0 dX12_nextToken_260 rfl rfl ?_
          refine j_getI X fg_RX12_81 ln_89 ly_89 rfl dX12_nextToken_261 ?_
          refine j_isub X dX12_nextToken_264 ?_
          refine j_iconst (v := 2) X dX12_nextToken_265 (by decide) ?_
          refine j_join (pcJ := 274) (lsJ := fun q28 => [none]) (stJ := fun q28 => [.int q28, .ref 89]) h (fun q28 σ29 h => ?_) (fun k27 hk27 h => ?_)
          · refine j_put X fp_RX12_102 ln_89 ly_89 rfl rfl rfl dX12_nextToken_274 h (fun σ30 h => ?_)
            obtain rfl := Option.some.inj h
            exact j_vret X R0 dX12_nextToken_277
          · refine j_icmp_le (tgt := 273) X dX12_nextToken_266 (by decide) h (fun h => ?_) (fun h => ?_)
            · refine j_iconst (v := 3) X dX12_nextToken_273 (by decide) ?_
              exact j_sub (ls' := [none]) ⟨Or.inl rfl, trivial⟩ (hk27 (3 : Int32) σ26 h)
            · refine j_iconst (v := 0) X dX12_nextToken_269 (by decide) ?_
              refine j_goto (tgt := 274) X dX12_nextToken_270 (by decide) ?_
              exact j_sub (ls' := [none]) ⟨Or.inl rfl, trivial⟩ (hk27 (0 : Int32) σ26 h)
      · refine j_icmp_ge (tgt := 141) X dX12_nextToken_134 (by decide) h (fun h => ?_) (fun h => ?_)
        · refine j_iconst (v := 0) X dX12_nextToken_141 (by decide) ?_
          exact hk10 (0 : Int32) σ9 h
        · refine j_iconst (v := 1) X dX12_nextToken_137 (by decide) ?_
          refine j_goto (tgt := 142) X dX12_nextToken_138 (by decide) ?_
          exact hk10 (1 : Int32) σ9 h
    · refine j_icmp_ne (tgt := 53) X dX12_nextToken_46 (by decide) h (fun h => ?_) (fun h => ?_)
      · refine j_aload_n X 0 dX12_nextToken_53 rfl rfl ?_
        refine j_getI X fg_RX12_91 ln_89 ly_89 rfl dX12_nextToken_54 ?_
        refine j_i2l X dX12_nextToken_57 ?_
        refine j_ldc2_w (v := 97) X tw_989 dX12_nextToken_58 ?_
        refine j_ldc2_w (v := 122) X tw_990 dX12_nextToken_61 ?_
        obtain ⟨v32, σ33, hm34, h⟩ := jbd_some h
        refine j_callS (as := [.long (((σ5.1 89 15)).toInt64), .long (97 : Int64), .long (122 : Int64)]) (st := [.ref 89]) (st1 := [.int v32, .ref 89]) X ss_RX12_57 ⟨by decide, by decide⟩ rfl rfl (Nat.le_of_ble_eq_true rfl) rfl dX12_nextToken_64 jrv_i (c_X12_in  hm34) rfl ?_
        refine j_if_eq (tgt := 74) X dX12_nextToken_67 (by decide) h (fun h => ?_) (fun h => ?_)
        · refine j_aload_n X 0 dX12_nextToken_74 rfl rfl ?_
          refine j_getI X fg_RX12_91 ln_89 ly_89 rfl dX12_nextToken_75 ?_
          refine j_i2l X dX12_nextToken_78 ?_
          refine j_ldc2_w (v := 48) X tw_991 dX12_nextToken_79 ?_
          refine j_ldc2_w (v := 57) X tw_992 dX12_nextToken_82 ?_
          obtain ⟨v35, σ36, hm37, h⟩ := jbd_some h
          refine j_callS (as := [.long (((σ33.1 89 15)).toInt64), .long (48 : Int64), .long (57 : Int64)]) (st := [.ref 89]) (st1 := [.int v35, .ref 89]) X ss_RX12_57 ⟨by decide, by decide⟩ rfl rfl (Nat.le_of_ble_eq_true rfl) rfl dX12_nextToken_85 jrv_i (c_X12_in  hm37) rfl ?_
          refine j_if_eq (tgt := 95) X dX12_nextToken_88 (by decide) h (fun h => ?_) (fun h => ?_)
          · refine j_aload_n X 0 dX12_nextToken_95 rfl rfl ?_
            refine j_getI X fg_RX12_91 ln_89 ly_89 rfl dX12_nextToken_96 ?_
            refine j_bipush (v := 44) X dX12_nextToken_99 (by decide) ?_
            refine j_join (pcJ := 113) (lsJ := fun q39 => [some (.ref 89)]) (stJ := fun q39 => [.ref 89]) h (fun q39 σ40 h => ?_) (fun k38 hk38 h => ?_)
            · refine j_iconst (v := 4) X dX12_nextToken_113 (by decide) ?_
              refine j_goto (tgt := 118) X dX12_nextToken_114 (by decide) ?_
              exact hk6 (4 : Int32) σ40 h
            · refine j_icmp_eq (tgt := 113) X dX12_nextToken_101 (by decide) h (fun h => ?_) (fun h => ?_)
              · exact hk38 () σ36 h
              · refine j_aload_n X 0 dX12_nextToken_104 rfl rfl ?_
                refine j_getI X fg_RX12_91 ln_89 ly_89 rfl dX12_nextToken_105 ?_
                refine j_bipush (v := 59) X dX12_nextToken_108 (by decide) ?_
                refine j_icmp_ne (tgt := 117) X dX12_nextToken_110 (by decide) h (fun h => ?_) (fun h => ?_)
                · refine j_iconst (v := 0) X dX12_nextToken_117 (by decide) ?_
                  exact hk6 (0 : Int32) σ36 h
                · exact hk38 () σ36 h
          · refine j_iconst (v := 3) X dX12_nextToken_91 (by decide) ?_
            refine j_goto (tgt := 118) X dX12_nextToken_92 (by decide) ?_
            exact hk6 (3 : Int32) σ36 h
        · refine j_iconst (v := 2) X dX12_nextToken_70 (by decide) ?_
          refine j_goto (tgt := 118) X dX12_nextToken_71 (by decide) ?_
          exact hk6 (2 : Int32) σ33 h
      · refine j_iconst (v := 1) X dX12_nextToken_49 (by decide) ?_
        refine j_goto (tgt := 118) X dX12_nextToken_50 (by decide) ?_
        exact hk6 (1 : Int32) σ5 h
  · refine j_icmp_ge (tgt := 32) X dX12_nextToken_17 (by decide) h (fun h => ?_) (fun h => ?_)
    · refine j_ldc (v := -1000000) X tw_988 dX12_nextToken_32 ?_
      exact hk2 (-1000000 : Int32) σ1 h
    · refine j_aload_n X 0 dX12_nextToken_20 rfl rfl ?_
      refine j_getR (t := 97) X fg_RX12_31 ln_89 ly_89 rfl dX12_nextToken_21 ?_
      refine j_aload_n X 0 dX12_nextToken_24 rfl rfl ?_
      refine j_getI X fg_RX12_87 ln_89 ly_89 rfl dX12_nextToken_25 ?_
      refine j_iaload X ln_97 ly_97 dX12_nextToken_28 h (fun v41 h => ?_)
      refine j_goto (tgt := 34) X dX12_nextToken_29 (by decide) ?_
      exact hk2 v41 σ1 h
theorem sv_RX12_105 : jSiV RX12 105 yX12_bad cX12_bad 2 none 1 := ⟨tw_1001, tw_1003, ts_26, tw_13, tw_1004, by decide, by decide, by decide +kernel⟩
theorem sv_RX12_109 : jSiV RX12 109 yX12_nextToken cX12_nextToken 1 none 0 := ⟨tw_984, tw_986, ts_23, tw_13, tw_987, by decide, by decide, by decide +kernel⟩
def f_X12_must (a0 : Int32) (σ : jMem) : Option jMem :=
  jj (fun (q2 : Unit) σ3 =>
  if ¬ (σ3.1 89 16) = 0 then
  some σ3
else
  jbv (f_X12_nextToken  σ3) (fun σ4 =>
  some σ4)) (fun k1 =>
  if ¬ a0 = 0 then
  k1 () σ
else
  jbv (f_X12_bad (1 : Int32) σ) (fun σ6 =>
  k1 () σ6))
set_option maxRecDepth 100000 in
set_option maxHeartbeats 4000000 in
theorem c_X12_must {l : Launch} {D : va_G} {ad : Nat → Nat} {cid : Nat → ClassId} {a0 : Int32}  {σ : jMem} {σ' : jMem} (h : f_X12_must a0 σ = some σ') : jMet l D ad cid yX12_must cX12_must 2 none 2 45 [.ref 89, .int a0] σ none σ' := by
  refine jMet_of (ls0 := [some (.ref 89), some (.int a0)]) (by decide) (Nat.le_of_ble_eq_true rfl) rfl (fun K X R0 _ => ?_)
  unfold f_X12_must at h
  refine j_iload_n X 1 dX12_must_0 rfl rfl ?_
  refine j_join (pcJ := 9) (lsJ := fun q2 => [some (.ref 89), none]) (stJ := fun q2 => []) h (fun q2 σ3 h => ?_) (fun k1 hk1 h => ?_)
  · refine j_aload_n X 0 dX12_must_9 rfl rfl ?_
    refine j_getI X fg_RX12_78 ln_89 ly_89 rfl dX12_must_10 ?_
    refine j_if_ne (tgt := 20) X dX12_must_13 (by decide) h (fun h => ?_) (fun h => ?_)
    · obtain rfl := Option.some.inj h
      exact j_vret X R0 dX12_must_20
    · refine j_aload_n X 0 dX12_must_16 rfl rfl ?_
      obtain ⟨σ4, hm5, h⟩ := jbv_some h
      refine j_callV (as := []) (st := []) (st1 := []) X ln_89 ly_89 rfl rfl sv_RX12_109 ⟨by decide, by decide⟩ rfl rfl (Nat.le_of_ble_eq_true rfl) rfl dX12_must_17 jrv_v (c_X12_nextToken  hm5) rfl ?_
      obtain rfl := Option.some.inj h
      exact j_vret X R0 dX12_must_20
  · refine j_if_ne (tgt := 9) X dX12_must_1 (by decide) h (fun h => ?_) (fun h => ?_)
    · exact j_sub (ls' := [some (.ref 89), none]) ⟨Or.inr rfl, Or.inl rfl, trivial⟩ (hk1 () σ h)
    · refine j_aload_n X 0 dX12_must_4 rfl rfl ?_
      refine j_iconst (v := 1) X dX12_must_5 (by decide) ?_
      obtain ⟨σ6, hm7, h⟩ := jbv_some h
      refine j_callV (as := [.int (1 : Int32)]) (st := []) (st1 := []) X ln_89 ly_89 rfl rfl sv_RX12_105 ⟨by decide, by decide⟩ rfl rfl (Nat.le_of_ble_eq_true rfl) rfl dX12_must_6 jrv_v (c_X12_bad  hm7) rfl ?_
      exact j_sub (ls' := [some (.ref 89), none]) ⟨Or.inr rfl, Or.inl rfl, trivial⟩ (hk1 () σ6 h)
def f_X12_isLetter (a0 : Int32) (σ : jMem) : Option (Int32 × jMem) :=
  if ¬ (σ.1 89 16) = 0 then
  some (((0 : Int32), σ))
else
  if ¬ (σ.1 89 14) = (2 : Int32) then
  some (((0 : Int32), σ))
else
  if ¬ (σ.1 89 15) = a0 then
  some (((0 : Int32), σ))
else
  some (((1 : Int32), σ))
set_option maxRecDepth 100000 in
set_option maxHeartbeats 4000000 in
theorem c_X12_isLetter {l : Launch} {D : va_G} {ad : Nat → Nat} {cid : Nat → ClassId} {a0 : Int32}  {σ : jMem} {r : Int32} {σ' : jMem} (h : f_X12_isLetter a0 σ = some (r, σ')) : jMet l D ad cid yX12_isLetter cX12_isLetter 2 (some .boolean) 0 0 [.ref 89, .int a0] σ (some (.int r)) σ' := by
  refine jMet_of (ls0 := [some (.ref 89), some (.int a0)]) (by decide) (Nat.le_of_ble_eq_true rfl) rfl (fun K X R0 _ => ?_)
  unfold f_X12_isLetter at h
  refine j_aload_n X 0 dX12_isLetter_0 rfl rfl ?_
  refine j_getI X fg_RX12_78 ln_89 ly_89 rfl dX12_isLetter_1 ?_
  refine j_if_ne (tgt := 27) X dX12_isLetter_4 (by decide) h (fun h => ?_) (fun h => ?_)
  · refine j_iconst (v := 0) X dX12_isLetter_27 (by decide) ?_
    obtain ⟨rfl, rfl⟩ := jin2 h
    exact j_zret X R0 rfl dX12_isLetter_28
  · refine j_aload_n X 0 dX12_isLetter_7 rfl rfl ?_
    refine j_getI X fg_RX12_102 ln_89 ly_89 rfl dX12_isLetter_8 ?_
    refine j_iconst (v := 2) X dX12_isLetter_11 (by decide) ?_
    refine j_icmp_ne (tgt := 27) X dX12_isLetter_12 (by decide) h (fun h => ?_) (fun h => ?_)
    · refine j_iconst (v := 0) X dX12_isLetter_27 (by decide) ?_
      obtain ⟨rfl, rfl⟩ := jin2 h
      exact j_zret X R0 rfl dX12_isLetter_28
    · refine j_aload_n X 0 dX12_isLetter_15 rfl rfl ?_
      refine j_getI X fg_RX12_91 ln_89 ly_89 rfl dX12_isLetter_16 ?_
      refine j_iload_n X 1 dX12_isLetter_19 rfl rfl ?_
      refine j_icmp_ne (tgt := 27) X dX12_isLetter_20 (by decide) h (fun h => ?_) (fun h => ?_)
      · refine j_iconst (v := 0) X dX12_isLetter_27 (by decide) ?_
        obtain ⟨rfl, rfl⟩ := jin2 h
        exact j_zret X R0 rfl dX12_isLetter_28
      · refine j_iconst (v := 1) X dX12_isLetter_23 (by decide) ?_
        refine j_goto (tgt := 28) X dX12_isLetter_24 (by decide) ?_
        obtain ⟨rfl, rfl⟩ := jin2 h
        exact j_zret X R0 rfl dX12_isLetter_28
theorem sv_RX12_112 : jSiV RX12 112 yX12_must cX12_must 2 none 1 := ⟨tw_997, tw_999, ts_25, tw_13, tw_1000, by decide, by decide, by decide +kernel⟩
def f_X12_number (a0 : Int32) (a1 : Int32) (σ : jMem) : Option (Int32 × jMem) :=
  jj (fun (q2 : Unit) σ3 =>
  jj (fun (q5 : Unit) σ6 =>
  jj (fun (q8 : Int32) σ9 =>
  jbv (f_X12_must (1 : Int32) σ9) (fun σ10 =>
  some ((q8, σ10)))) (fun k7 =>
  if ¬ (σ6.1 89 16) = 0 then
  k7 a0 σ6
else
  k7 (σ6.1 89 15) σ6)) (fun k4 =>
  if ¬ (σ3.1 89 16) = 0 then
  k4 () σ3
else
  jbd (f_X12_in (((σ3.1 89 15)).toInt64) ((a0).toInt64) ((a1).toInt64) σ3) (fun v12 σ13 =>
  if ¬ v12 = 0 then
  k4 () σ13
else
  jbv (f_X12_bad (2 : Int32) σ13) (fun σ15 =>
  k4 () σ15)))) (fun k1 =>
  if ¬ (σ.1 89 16) = 0 then
  k1 () σ
else
  if (σ.1 89 14) = (3 : Int32) then
  k1 () σ
else
  jbv (f_X12_bad (1 : Int32) σ) (fun σ17 =>
  k1 () σ17))
set_option maxRecDepth 100000 in
set_option maxHeartbeats 4000000 in
theorem c_X12_number {l : Launch} {D : va_G} {ad : Nat → Nat} {cid : Nat → ClassId} {a0 : Int32} {a1 : Int32}  {σ : jMem} {r : Int32} {σ' : jMem} (h : f_X12_number a0 a1 σ = some (r, σ')) : jMet l D ad cid yX12_number cX12_number 4 (some .int) 3 66 [.ref 89, .int a0, .int a1] σ (some (.int r)) σ' := by
  refine jMet_of (ls0 := [some (.ref 89), some (.int a0), some (.int a1), none]) (by decide) (Nat.le_of_ble_eq_true rfl) rfl (fun K X R0 _ => ?_)
  unfold f_X12_number at h
  refine j_aload_n X 0 dX12_number_0 rfl rfl ?_
  refine j_getI X fg_RX12_78 ln_89 ly_89 rfl dX12_number_1 ?_
  refine j_join (pcJ := 20) (lsJ := fun q2 => [some (.ref 89), some (.int a0), some (.int a1), none]) (stJ := fun q2 => []) h (fun q2 σ3 h => ?_) (fun k1 hk1 h => ?_)
  · refine j_aload_n X 0 dX12_number_20 rfl rfl ?_
    refine j_getI X fg_RX12_78 ln_89 ly_89 rfl dX12_number_21 ?_
    refine j_join (pcJ := 47) (lsJ := fun q5 => [some (.ref 89), some (.int a0), none, none]) (stJ := fun q5 => []) h (fun q5 σ6 h => ?_) (fun k4 hk4 h => ?_)
    · refine j_aload_n X 0 dX12_number_47 rfl rfl ?_
      refine j_getI X fg_RX12_78 ln_89 ly_89 rfl dX12_number_48 ?_
      refine j_join (pcJ := 62) (lsJ := fun q8 => [some (.ref 89), none, none, none]) (stJ := fun q8 => [.int q8]) h (fun q8 σ9 h => ?_) (fun k7 hk7 h => ?_)
      · refine j_istore_n (ls' := [some (.ref 89), none, none, some (.int q8)]) X 3 dX12_number_62 rfl (Nat.le_of_ble_eq_true rfl) rfl ?_
        refine j_aload_n X 0 dX12_number_63 rfl rfl ?_
        refine j_iconst (v := 1) X dX12_number_64 (by decide) ?_
        obtain ⟨σ10, hm11, h⟩ := jbv_some h
        refine j_callV (as := [.int (1 : Int32)]) (st := []) (st1 := []) X ln_89 ly_89 rfl rfl sv_RX12_112 ⟨by decide, by decide⟩ rfl rfl (Nat.le_of_ble_eq_true rfl) rfl dX12_number_65 jrv_v (c_X12_must  hm11) rfl ?_
        refine j_iload_n X 3 dX12_number_68 rfl rfl ?_
        obtain ⟨rfl, rfl⟩ := jin2 h
        exact j_iret X R0 dX12_number_69
      · refine j_if_ne (tgt := 61) X dX12_number_51 (by decide) h (fun h => ?_) (fun h => ?_)
        · refine j_iload_n X 1 dX12_number_61 rfl rfl ?_
          exact j_sub (ls' := [some (.ref 89), none, none, none]) ⟨Or.inr rfl, Or.inl rfl, Or.inl rfl, Or.inl rfl, trivial⟩ (hk7 a0 σ6 h)
        · refine j_aload_n X 0 dX12_number_54 rfl rfl ?_
          refine j_getI X fg_RX12_91 ln_89 ly_89 rfl dX12_number_55 ?_
          refine j_goto (tgt := 62) X dX12_number_58 (by decide) ?_
          exact j_sub (ls' := [some (.ref 89), none, none, none]) ⟨Or.inr rfl, Or.inl rfl, Or.inl rfl, Or.inl rfl, trivial⟩ (hk7 (σ6.1 89 15) σ6 h)
    · refine j_if_ne (tgt := 47) X dX12_number_24 (by decide) h (fun h => ?_) (fun h => ?_)
      · exact j_sub (ls' := [some (.ref 89), some (.int a0), none, none]) ⟨Or.inr rfl, Or.inr rfl, Or.inl rfl, Or.inl rfl, trivial⟩ (hk4 () σ3 h)
      · refine j_aload_n X 0 dX12_number_27 rfl rfl ?_
        refine j_getI X fg_RX12_91 ln_89 ly_89 rfl dX12_number_28 ?_
        refine j_i2l X dX12_number_31 ?_
        refine j_iload_n X 1 dX12_number_32 rfl rfl ?_
        refine j_i2l X dX12_number_33 ?_
        refine j_iload_n X 2 dX12_number_34 rfl rfl ?_
        refine j_i2l X dX12_number_35 ?_
        obtain ⟨v12, σ13, hm14, h⟩ := jbd_some h
        refine j_callS (as := [.long (((σ3.1 89 15)).toInt64), .long ((a0).toInt64), .long ((a1).toInt64)]) (st := []) (st1 := [.int v12]) X ss_RX12_57 ⟨by decide, by decide⟩ rfl rfl (Nat.le_of_ble_eq_true rfl) rfl dX12_number_36 jrv_i (c_X12_in  hm14) rfl ?_
        refine j_if_ne (tgt := 47) X dX12_number_39 (by decide) h (fun h => ?_) (fun h => ?_)
        · exact j_sub (ls' := [some (.ref 89), some (.int a0), none, none]) ⟨Or.inr rfl, Or.inr rfl, Or.inl rfl, Or.inl rfl, trivial⟩ (hk4 () σ13 h)
        · refine j_aload_n X 0 dX12_number_42 rfl rfl ?_
          refine j_iconst (v := 2) X dX12_number_43 (by decide) ?_
          obtain ⟨σ15, hm16, h⟩ := jbv_some h
          refine j_callV (as := [.int (2 : Int32)]) (st := []) (st1 := []) X ln_89 ly_89 rfl rfl sv_RX12_105 ⟨by decide, by decide⟩ rfl rfl (Nat.le_of_ble_eq_true rfl) rfl dX12_number_44 jrv_v (c_X12_bad  hm16) rfl ?_
          exact j_sub (ls' := [some (.ref 89), some (.int a0), none, none]) ⟨Or.inr rfl, Or.inr rfl, Or.inl rfl, Or.inl rfl, trivial⟩ (hk4 () σ15 h)
  · refine j_if_ne (tgt := 20) X dX12_number_4 (by decide) h (fun h => ?_) (fun h => ?_)
    · exact hk1 () σ h
    · refine j_aload_n X 0 dX12_number_7 rfl rfl ?_
      refine j_getI X fg_RX12_102 ln_89 ly_89 rfl dX12_number_8 ?_
      refine j_iconst (v := 3) X dX12_number_11 (by decide) ?_
      refine j_icmp_eq (tgt := 20) X dX12_number_12 (by decide) h (fun h => ?_) (fun h => ?_)
      · exact hk1 () σ h
      · refine j_aload_n X 0 dX12_number_15 rfl rfl ?_
        refine j_iconst (v := 1) X dX12_number_16 (by decide) ?_
        obtain ⟨σ17, hm18, h⟩ := jbv_some h
        refine j_callV (as := [.int (1 : Int32)]) (st := []) (st1 := []) X ln_89 ly_89 rfl rfl sv_RX12_105 ⟨by decide, by decide⟩ rfl rfl (Nat.le_of_ble_eq_true rfl) rfl dX12_number_17 jrv_v (c_X12_bad  hm18) rfl ?_
        exact hk1 () σ17 h
def f_X12_mustSign (a0 : Int32) (σ : jMem) : Option jMem :=
  jj (fun (q2 : Int32) σ3 =>
  jbv (f_X12_must q2 σ3) (fun σ4 =>
  some σ4)) (fun k1 =>
  jj (fun (q7 : Unit) σ8 =>
  k1 (0 : Int32) σ8) (fun k6 =>
  if ¬ (σ.1 89 14) = (4 : Int32) then
  k6 () σ
else
  if ¬ (σ.1 89 15) = a0 then
  k6 () σ
else
  k1 (1 : Int32) σ))
set_option maxRecDepth 100000 in
set_option maxHeartbeats 4000000 in
theorem c_X12_mustSign {l : Launch} {D : va_G} {ad : Nat → Nat} {cid : Nat → ClassId} {a0 : Int32}  {σ : jMem} {σ' : jMem} (h : f_X12_mustSign a0 σ = some σ') : jMet l D ad cid yX12_mustSign cX12_mustSign 2 none 3 66 [.ref 89, .int a0] σ none σ' := by
  refine jMet_of (ls0 := [some (.ref 89), some (.int a0)]) (by decide) (Nat.le_of_ble_eq_true rfl) rfl (fun K X R0 _ => ?_)
  unfold f_X12_mustSign at h
  refine j_aload_n X 0 dX12_mustSign_0 rfl rfl ?_
  refine j_aload_n X 0 dX12_mustSign_1 rfl rfl ?_
  refine j_getI X fg_RX12_102 ln_89 ly_89 rfl dX12_mustSign_2 ?_
  refine j_iconst (v := 4) X dX12_mustSign_5 (by decide) ?_
  refine j_join (pcJ := 22) (lsJ := fun q2 => [none, none]) (stJ := fun q2 => [.int q2, .ref 89]) h (fun q2 σ3 h => ?_) (fun k1 hk1 h => ?_)
  · obtain ⟨σ4, hm5, h⟩ := jbv_some h
    refine j_callV (as := [.int q2]) (st := []) (st1 := []) X ln_89 ly_89 rfl rfl sv_RX12_112 ⟨by decide, by decide⟩ rfl rfl (Nat.le_of_ble_eq_true rfl) rfl dX12_mustSign_22 jrv_v (c_X12_must  hm5) rfl ?_
    obtain rfl := Option.some.inj h
    exact j_vret X R0 dX12_mustSign_25
  · refine j_join (pcJ := 21) (lsJ := fun q7 => [none, none]) (stJ := fun q7 => [.ref 89]) h (fun q7 σ8 h => ?_) (fun k6 hk6 h => ?_)
    · refine j_iconst (v := 0) X dX12_mustSign_21 (by decide) ?_
      exact hk1 (0 : Int32) σ8 h
    · refine j_icmp_ne (tgt := 21) X dX12_mustSign_6 (by decide) h (fun h => ?_) (fun h => ?_)
      · exact j_sub (ls' := [none, none]) ⟨Or.inl rfl, Or.inl rfl, trivial⟩ (hk6 () σ h)
      · refine j_aload_n X 0 dX12_mustSign_9 rfl rfl ?_
        refine j_getI X fg_RX12_91 ln_89 ly_89 rfl dX12_mustSign_10 ?_
        refine j_iload_n X 1 dX12_mustSign_13 rfl rfl ?_
        refine j_icmp_ne (tgt := 21) X dX12_mustSign_14 (by decide) h (fun h => ?_) (fun h => ?_)
        · exact j_sub (ls' := [none, none]) ⟨Or.inl rfl, Or.inl rfl, trivial⟩ (hk6 () σ h)
        · refine j_iconst (v := 1) X dX12_mustSign_17 (by decide) ?_
          refine j_goto (tgt := 22) X dX12_mustSign_18 (by decide) ?_
          exact j_sub (ls' := [none, none]) ⟨Or.inl rfl, Or.inl rfl, trivial⟩ (hk1 (1 : Int32) σ h)
