theorem sv_RX11_107 : jSiV RX11 107 yX6_isMissing cX6_isMissing 2 (some .boolean) 1 := ⟨tw_356, tw_341, tw_342, tw_2, tw_343, by decide, by decide, by decide +kernel⟩
theorem sv_RX11_113 : jSiV RX11 113 yX6_has cX6_has 4 (some .boolean) 3 := ⟨tw_357, tw_345, tw_346, tw_2, tw_347, by decide, by decide, by decide +kernel⟩
def f_X11_copy (a0 : Int32) (a1 : Int32) (a2 : Int32) (a3 : Int32) (a4 : Int32) (σ : jMem) : Option (Int32 × jMem) :=
  jbd (f_X11_isRow a0 σ) (fun v1 σ2 =>
  if v1 = 0 then
  some (((-1000001 : Int32), σ2))
else
  jbd (f_X11_isRow a2 σ2) (fun v4 σ5 =>
  if ¬ v4 = 0 then
  jbd (f_X6_isMissing a0 σ5) (fun v7 σ8 =>
  jj (fun (q11 : Unit) σ12 =>
  jbd (f_X11_found (1 : Int32) σ12) (fun v13 σ14 =>
  some ((v13, σ14)))) (fun k10 =>
  if ¬ v7 = 0 then
  k10 () σ8
else
  jbd (f_X6_isMissing a2 σ8) (fun v16 σ17 =>
  if v16 = 0 then
  jld σ17 11 8 a0 (fun v19 =>
  jld σ17 11 8 a2 (fun v20 =>
  if v19 = v20 then
  jbd (f_X6_has a0 a1 a4 σ17) (fun v21 σ22 =>
  jj (fun (q25 : Unit) σ26 =>
  jbd (f_X11_found (2 : Int32) σ26) (fun v27 σ28 =>
  some ((v27, σ28)))) (fun k24 =>
  if v21 = 0 then
  k24 () σ22
else
  jbd (f_X6_has a2 a3 a4 σ22) (fun v30 σ31 =>
  if ¬ v30 = 0 then
  jldr 8 3 1 a0 (fun k33 =>
  jldr 8 3 1 a2 (fun k34 =>
  jcp σ31 k33 40 a1 k34 40 a3 a4 (fun σ35 =>
  jbd (f_X11_unfound a4 σ35) (fun v36 σ37 =>
  some ((v36, σ37))))))
else
  k24 () σ31)))
else
  jbd (f_X11_found (5 : Int32) σ17) (fun v39 σ40 =>
  some ((v39, σ40)))))
else
  k10 () σ17)))
else
  some (((-1000001 : Int32), σ5))))
set_option maxRecDepth 100000 in
set_option maxHeartbeats 4000000 in
theorem c_X11_copy {l : Launch} {D : va_G} {ad : Nat → Nat} {cid : Nat → ClassId} {a0 : Int32} {a1 : Int32} {a2 : Int32} {a3 : Int32} {a4 : Int32}  {σ : jMem} {r : Int32} {σ' : jMem} (h : f_X11_copy a0 a1 a2 a3 a4 σ = some (r, σ')) : jMet l D ad cid yX11_copy cX11_copy 6 (some .int) 1 36 [.ref 0, .int a0, .int a1, .int a2, .int a3, .int a4] σ (some (.int r)) σ' := by
  refine jMet_of (ls0 := [some (.ref 0), some (.int a0), some (.int a1), some (.int a2), some (.int a3), some (.int a4)]) (by decide) (Nat.le_of_ble_eq_true rfl) rfl (fun K X R0 _ => ?_)
  unfold f_X11_copy at h
  refine j_iload_n X 1 dX11_copy_0 rfl rfl ?_
  obtain ⟨v1, σ2, hm3, h⟩ := jbd_some h
  refine j_callS (as := [.int a0]) (st := []) (st1 := [.int v1]) X ss_RX11_84 ⟨by decide, by decide⟩ rfl rfl (Nat.le_of_ble_eq_true rfl) rfl dX11_copy_1 jrv_i (c_X11_isRow  hm3) rfl ?_
  refine j_if_eq (tgt := 14) X dX11_copy_4 (by decide) h (fun h => ?_) (fun h => ?_)
  · refine j_ldc (v := -1000001) X tw_318 dX11_copy_14 ?_
    obtain ⟨rfl, rfl⟩ := jin2 h
    exact j_iret X R0 dX11_copy_16
  · refine j_iload_n X 3 dX11_copy_7 rfl rfl ?_
    obtain ⟨v4, σ5, hm6, h⟩ := jbd_some h
    refine j_callS (as := [.int a2]) (st := []) (st1 := [.int v4]) X ss_RX11_84 ⟨by decide, by decide⟩ rfl rfl (Nat.le_of_ble_eq_true rfl) rfl dX11_copy_8 jrv_i (c_X11_isRow  hm6) rfl ?_
    refine j_if_ne (tgt := 17) X dX11_copy_11 (by decide) h (fun h => ?_) (fun h => ?_)
    · refine j_aload_n X 0 dX11_copy_17 rfl rfl ?_
      refine j_getR (t := 1) X fg_RX11_10 ln_0 ly_0 rfl dX11_copy_18 ?_
      refine j_iload_n X 1 dX11_copy_21 rfl rfl ?_
      obtain ⟨v7, σ8, hm9, h⟩ := jbd_some h
      refine j_callV (as := [.int a0]) (st := []) (st1 := [.int v7]) X ln_1 ly_1 rfl rfl sv_RX11_107 ⟨by decide, by decide⟩ rfl rfl (Nat.le_of_ble_eq_true rfl) rfl dX11_copy_22 jrv_i (c_X6_isMissing  hm9) rfl ?_
      refine j_join (pcJ := 39) (lsJ := fun q11 => [some (.ref 0), none, none, none, none, none]) (stJ := fun q11 => []) h (fun q11 σ12 h => ?_) (fun k10 hk10 h => ?_)
      · refine j_aload_n X 0 dX11_copy_39 rfl rfl ?_
        refine j_iconst (v := 1) X dX11_copy_40 (by decide) ?_
        obtain ⟨v13, σ14, hm15, h⟩ := jbd_some h
        refine j_callV (as := [.int (1 : Int32)]) (st := []) (st1 := [.int v13]) X ln_0 ly_0 rfl rfl sv_RX11_89 ⟨by decide, by decide⟩ rfl rfl (Nat.le_of_ble_eq_true rfl) rfl dX11_copy_41 jrv_i (c_X11_found  hm15) rfl ?_
        obtain ⟨rfl, rfl⟩ := jin2 h
        exact j_iret X R0 dX11_copy_44
      · refine j_if_ne (tgt := 39) X dX11_copy_25 (by decide) h (fun h => ?_) (fun h => ?_)
        · exact j_sub (ls' := [some (.ref 0), none, none, none, none, none]) ⟨Or.inr rfl, Or.inl rfl, Or.inl rfl, Or.inl rfl, Or.inl rfl, Or.inl rfl, trivial⟩ (hk10 () σ8 h)
        · refine j_aload_n X 0 dX11_copy_28 rfl rfl ?_
          refine j_getR (t := 1) X fg_RX11_10 ln_0 ly_0 rfl dX11_copy_29 ?_
          refine j_iload_n X 3 dX11_copy_32 rfl rfl ?_
          obtain ⟨v16, σ17, hm18, h⟩ := jbd_some h
          refine j_callV (as := [.int a2]) (st := []) (st1 := [.int v16]) X ln_1 ly_1 rfl rfl sv_RX11_107 ⟨by decide, by decide⟩ rfl rfl (Nat.le_of_ble_eq_true rfl) rfl dX11_copy_33 jrv_i (c_X6_isMissing  hm18) rfl ?_
          refine j_if_eq (tgt := 45) X dX11_copy_36 (by decide) h (fun h => ?_) (fun h => ?_)
          · refine j_aload_n X 0 dX11_copy_45 rfl rfl ?_
            refine j_getR (t := 1) X fg_RX11_10 ln_0 ly_0 rfl dX11_copy_46 ?_
            refine j_getR (t := 11) X fg_RX11_110 ln_1 ly_1 rfl dX11_copy_49 ?_
            refine j_iload_n X 1 dX11_copy_52 rfl rfl ?_
            refine j_iaload X ln_11 ly_11 dX11_copy_53 h (fun v19 h => ?_)
            refine j_aload_n X 0 dX11_copy_54 rfl rfl ?_
            refine j_getR (t := 1) X fg_RX11_10 ln_0 ly_0 rfl dX11_copy_55 ?_
            refine j_getR (t := 11) X fg_RX11_110 ln_1 ly_1 rfl dX11_copy_58 ?_
            refine j_iload_n X 3 dX11_copy_61 rfl rfl ?_
            refine j_iaload X ln_11 ly_11 dX11_copy_62 h (fun v20 h => ?_)
            refine j_icmp_eq (tgt := 72) X dX11_copy_63 (by decide) h (fun h => ?_) (fun h => ?_)
            · refine j_aload_n X 0 dX11_copy_72 rfl rfl ?_
              refine j_getR (t := 1) X fg_RX11_10 ln_0 ly_0 rfl dX11_copy_73 ?_
              refine j_iload_n X 1 dX11_copy_76 rfl rfl ?_
              refine j_iload_n X 2 dX11_copy_77 rfl rfl ?_
              refine j_iload X dX11_copy_78 rfl ?_
              obtain ⟨v21, σ22, hm23, h⟩ := jbd_some h
              refine j_callV (as := [.int a0, .int a1, .int a4]) (st := []) (st1 := [.int v21]) X ln_1 ly_1 rfl rfl sv_RX11_113 ⟨by decide, by decide⟩ rfl rfl (Nat.le_of_ble_eq_true rfl) rfl dX11_copy_80 jrv_i (c_X6_has  hm23) rfl ?_
              refine j_join (pcJ := 101) (lsJ := fun q25 => [some (.ref 0), none, none, none, none, none]) (stJ := fun q25 => []) h (fun q25 σ26 h => ?_) (fun k24 hk24 h => ?_)
              · refine j_aload_n X 0 dX11_copy_101 rfl rfl ?_
                refine j_iconst (v := 2) X dX11_copy_102 (by decide) ?_
                obtain ⟨v27, σ28, hm29, h⟩ := jbd_some h
                refine j_callV (as := [.int (2 : Int32)]) (st := []) (st1 := [.int v27]) X ln_0 ly_0 rfl rfl sv_RX11_89 ⟨by decide, by decide⟩ rfl rfl (Nat.le_of_ble_eq_true rfl) rfl dX11_copy_103 jrv_i (c_X11_found  hm29) rfl ?_
                obtain ⟨rfl, rfl⟩ := jin2 h
                exact j_iret X R0 dX11_copy_106
              · refine j_if_eq (tgt := 101) X dX11_copy_83 (by decide) h (fun h => ?_) (fun h => ?_)
                · exact j_sub (ls' := [some (.ref 0), none, none, none, none, none]) ⟨Or.inr rfl, Or.inl rfl, Or.inl rfl, Or.inl rfl, Or.inl rfl, Or.inl rfl, trivial⟩ (hk24 () σ22 h)
                · refine j_aload_n X 0 dX11_copy_86 rfl rfl ?_
                  refine j_getR (t := 1) X fg_RX11_10 ln_0 ly_0 rfl dX11_copy_87 ?_
                  refine j_iload_n X 3 dX11_copy_90 rfl rfl ?_
                  refine j_iload X dX11_copy_91 rfl ?_
                  refine j_iload X dX11_copy_93 rfl ?_
                  obtain ⟨v30, σ31, hm32, h⟩ := jbd_some h
                  refine j_callV (as := [.int a2, .int a3, .int a4]) (st := []) (st1 := [.int v30]) X ln_1 ly_1 rfl rfl sv_RX11_113 ⟨by decide, by decide⟩ rfl rfl (Nat.le_of_ble_eq_true rfl) rfl dX11_copy_95 jrv_i (c_X6_has  hm32) rfl ?_
                  refine j_if_ne (tgt := 107) X dX11_copy_98 (by decide) h (fun h => ?_) (fun h => ?_)
                  · refine j_aload_n X 0 dX11_copy_107 rfl rfl ?_
                    refine j_getR (t := 1) X fg_RX11_10 ln_0 ly_0 rfl dX11_copy_108 ?_
                    refine j_getR (t := 2) X fg_RX11_117 ln_1 ly_1 rfl dX11_copy_111 ?_
                    refine j_iload_n X 1 dX11_copy_114 rfl rfl ?_
                    refine j_aaload X ln_2 ly_2 (Or.inr (Or.inr rfl)) dX11_copy_115 h (fun k33 qk33 h => ?_)
                    have hk33 := jrow8 qk33
                    refine j_iload_n X 2 dX11_copy_116 rfl rfl ?_
                    refine j_aload_n X 0 dX11_copy_117 rfl rfl ?_
                    refine j_getR (t := 1) X fg_RX11_10 ln_0 ly_0 rfl dX11_copy_118 ?_
                    refine j_getR (t := 2) X fg_RX11_117 ln_1 ly_1 rfl dX11_copy_121 ?_
                    refine j_iload_n X 3 dX11_copy_124 rfl rfl ?_
                    refine j_aaload X ln_2 ly_2 (Or.inr (Or.inr rfl)) dX11_copy_125 h (fun k34 qk34 h => ?_)
                    have hk34 := jrow8 qk34
                    refine j_iload X dX11_copy_126 rfl ?_
                    refine j_iload X dX11_copy_128 rfl ?_
                    refine j_copy X tw_358 tw_360 tw_359 tw_14 rfl hk33.1 hk33.2 hk34.1 hk34.2 (Nat.le_of_ble_eq_true rfl) (Nat.le_of_ble_eq_true rfl) dX11_copy_130 h (fun σ35 h => ?_)
                    refine j_aload_n X 0 dX11_copy_133 rfl rfl ?_
                    refine j_iload X dX11_copy_134 rfl ?_
                    obtain ⟨v36, σ37, hm38, h⟩ := jbd_some h
                    refine j_callV (as := [.int a4]) (st := []) (st1 := [.int v36]) X ln_0 ly_0 rfl rfl sv_RX11_97 ⟨by decide, by decide⟩ rfl rfl (Nat.le_of_ble_eq_true rfl) rfl dX11_copy_136 jrv_i (c_X11_unfound  hm38) rfl ?_
                    obtain ⟨rfl, rfl⟩ := jin2 h
                    exact j_iret X R0 dX11_copy_139
                  · exact j_sub (ls' := [some (.ref 0), none, none, none, none, none]) ⟨Or.inr rfl, Or.inl rfl, Or.inl rfl, Or.inl rfl, Or.inl rfl, Or.inl rfl, trivial⟩ (hk24 () σ31 h)
            · refine j_aload_n X 0 dX11_copy_66 rfl rfl ?_
              refine j_iconst (v := 5) X dX11_copy_67 (by decide) ?_
              obtain ⟨v39, σ40, hm41, h⟩ := jbd_some h
              refine j_callV (as := [.int (5 : Int32)]) (st := []) (st1 := [.int v39]) X ln_0 ly_0 rfl rfl sv_RX11_89 ⟨by decide, by decide⟩ rfl rfl (Nat.le_of_ble_eq_true rfl) rfl dX11_copy_68 jrv_i (c_X11_found  hm41) rfl ?_
              obtain ⟨rfl, rfl⟩ := jin2 h
              exact j_iret X R0 dX11_copy_71
          · exact j_sub (ls' := [some (.ref 0), none, none, none, none, none]) ⟨Or.inr rfl, Or.inl rfl, Or.inl rfl, Or.inl rfl, Or.inl rfl, Or.inl rfl, trivial⟩ (hk10 () σ17 h)
    · refine j_ldc (v := -1000001) X tw_318 dX11_copy_14 ?_
      obtain ⟨rfl, rfl⟩ := jin2 h
      exact j_iret X R0 dX11_copy_16
def f_X11_drop (a0 : Int32) (σ : jMem) : Option (Int32 × jMem) :=
  jbd (f_X11_isRow a0 σ) (fun v1 σ2 =>
  if ¬ v1 = 0 then
  jbd (f_X6_isMissing a0 σ2) (fun v4 σ5 =>
  if v4 = 0 then
  jld σ5 12 8 a0 (fun v7 =>
  jst σ5 12 8 a0 (-1 : Int32) (fun σ8 =>
  jbd (f_X11_unfound v7 σ8) (fun v9 σ10 =>
  some ((v9, σ10)))))
else
  jbd (f_X11_found (1 : Int32) σ5) (fun v12 σ13 =>
  some ((v12, σ13))))
else
  some (((-1000001 : Int32), σ2)))
set_option maxRecDepth 100000 in
set_option maxHeartbeats 4000000 in
theorem c_X11_drop {l : Launch} {D : va_G} {ad : Nat → Nat} {cid : Nat → ClassId} {a0 : Int32}  {σ : jMem} {r : Int32} {σ' : jMem} (h : f_X11_drop a0 σ = some (r, σ')) : jMet l D ad cid yX11_drop cX11_drop 3 (some .int) 1 21 [.ref 0, .int a0] σ (some (.int r)) σ' := by
  refine jMet_of (ls0 := [some (.ref 0), some (.int a0), none]) (by decide) (Nat.le_of_ble_eq_true rfl) rfl (fun K X R0 _ => ?_)
  unfold f_X11_drop at h
  refine j_iload_n X 1 dX11_drop_0 rfl rfl ?_
  obtain ⟨v1, σ2, hm3, h⟩ := jbd_some h
  refine j_callS (as := [.int a0]) (st := []) (st1 := [.int v1]) X ss_RX11_84 ⟨by decide, by decide⟩ rfl rfl (Nat.le_of_ble_eq_true rfl) rfl dX11_drop_1 jrv_i (c_X11_isRow  hm3) rfl ?_
  refine j_if_ne (tgt := 10) X dX11_drop_4 (by decide) h (fun h => ?_) (fun h => ?_)
  · refine j_aload_n X 0 dX11_drop_10 rfl rfl ?_
    refine j_getR (t := 1) X fg_RX11_10 ln_0 ly_0 rfl dX11_drop_11 ?_
    refine j_iload_n X 1 dX11_drop_14 rfl rfl ?_
    obtain ⟨v4, σ5, hm6, h⟩ := jbd_some h
    refine j_callV (as := [.int a0]) (st := []) (st1 := [.int v4]) X ln_1 ly_1 rfl rfl sv_RX11_107 ⟨by decide, by decide⟩ rfl rfl (Nat.le_of_ble_eq_true rfl) rfl dX11_drop_15 jrv_i (c_X6_isMissing  hm6) rfl ?_
    refine j_if_eq (tgt := 27) X dX11_drop_18 (by decide) h (fun h => ?_) (fun h => ?_)
    · refine j_aload_n X 0 dX11_drop_27 rfl rfl ?_
      refine j_getR (t := 1) X fg_RX11_10 ln_0 ly_0 rfl dX11_drop_28 ?_
      refine j_getR (t := 12) X fg_RX11_126 ln_1 ly_1 rfl dX11_drop_31 ?_
      refine j_iload_n X 1 dX11_drop_34 rfl rfl ?_
      refine j_iaload X ln_12 ly_12 dX11_drop_35 h (fun v7 h => ?_)
      refine j_istore_n (ls' := [some (.ref 0), some (.int a0), some (.int v7)]) X 2 dX11_drop_36 rfl (Nat.le_of_ble_eq_true rfl) rfl ?_
      refine j_aload_n X 0 dX11_drop_37 rfl rfl ?_
      refine j_getR (t := 1) X fg_RX11_10 ln_0 ly_0 rfl dX11_drop_38 ?_
      refine j_getR (t := 12) X fg_RX11_126 ln_1 ly_1 rfl dX11_drop_41 ?_
      refine j_iload_n X 1 dX11_drop_44 rfl rfl ?_
      refine j_iconst (v := -1) X dX11_drop_45 (by decide) ?_
      refine j_iastore X ln_12 ly_12 dX11_drop_46 h (fun σ8 h => ?_)
      refine j_aload_n X 0 dX11_drop_47 rfl rfl ?_
      refine j_iload_n X 2 dX11_drop_48 rfl rfl ?_
      obtain ⟨v9, σ10, hm11, h⟩ := jbd_some h
      refine j_callV (as := [.int v7]) (st := []) (st1 := [.int v9]) X ln_0 ly_0 rfl rfl sv_RX11_97 ⟨by decide, by decide⟩ rfl rfl (Nat.le_of_ble_eq_true rfl) rfl dX11_drop_49 jrv_i (c_X11_unfound  hm11) rfl ?_
      obtain ⟨rfl, rfl⟩ := jin2 h
      exact j_iret X R0 dX11_drop_52
    · refine j_aload_n X 0 dX11_drop_21 rfl rfl ?_
      refine j_iconst (v := 1) X dX11_drop_22 (by decide) ?_
      obtain ⟨v12, σ13, hm14, h⟩ := jbd_some h
      refine j_callV (as := [.int (1 : Int32)]) (st := []) (st1 := [.int v12]) X ln_0 ly_0 rfl rfl sv_RX11_89 ⟨by decide, by decide⟩ rfl rfl (Nat.le_of_ble_eq_true rfl) rfl dX11_drop_23 jrv_i (c_X11_found  hm14) rfl ?_
      obtain ⟨rfl, rfl⟩ := jin2 h
      exact j_iret X R0 dX11_drop_26
  · refine j_ldc (v := -1000001) X tw_318 dX11_drop_7 ?_
    obtain ⟨rfl, rfl⟩ := jin2 h
    exact j_iret X R0 dX11_drop_9
def f_X9_append (a0 : Int32) (σ : jMem) : Option jMem :=
  jst σ 14 140 (σ.1 13 1) a0 (fun σ1 =>
  jlet (jset σ1 13 1 ((σ1.1 13 1) + (1 : Int32))) (fun σ2 =>
  some σ2))
set_option maxRecDepth 100000 in
set_option maxHeartbeats 4000000 in
theorem c_X9_append {l : Launch} {D : va_G} {ad : Nat → Nat} {cid : Nat → ClassId} {a0 : Int32}  {σ : jMem} {σ' : jMem} (h : f_X9_append a0 σ = some σ') : jMet l D ad cid yX9_append cX9_append 2 none 0 0 [.ref 13, .int a0] σ none σ' := by
  refine jMet_of (ls0 := [some (.ref 13), some (.int a0)]) (by decide) (Nat.le_of_ble_eq_true rfl) rfl (fun K X R0 _ => ?_)
  unfold f_X9_append at h
  refine j_aload_n X 0 dX9_append_0 rfl rfl ?_
  refine j_getR (t := 14) X fg_RX9_9 ln_13 ly_13 rfl dX9_append_1 ?_
  refine j_aload_n X 0 dX9_append_4 rfl rfl ?_
  refine j_getI X fg_RX9_15 ln_13 ly_13 rfl dX9_append_5 ?_
  refine j_iload_n X 1 dX9_append_8 rfl rfl ?_
  refine j_iastore X ln_14 ly_14 dX9_append_9 h (fun σ1 h => ?_)
  refine j_aload_n X 0 dX9_append_10 rfl rfl ?_
  refine j_dup X dX9_append_11 rfl ?_
  refine j_getI X fg_RX9_15 ln_13 ly_13 rfl dX9_append_12 ?_
  refine j_iconst (v := 1) X dX9_append_15 (by decide) ?_
  refine j_iadd X dX9_append_16 ?_
  refine j_put X fp_RX9_15 ln_13 ly_13 rfl rfl rfl dX9_append_17 h (fun σ2 h => ?_)
  obtain rfl := Option.some.inj h
  exact j_vret X R0 dX9_append_20
theorem sv_RX11_134 : jSiV RX11 134 yX9_append cX9_append 2 none 1 := ⟨tw_370, tw_371, tw_372, tw_3, tw_373, by decide, by decide, by decide +kernel⟩
def f_X11_feed (a0 : Int32) (σ : jMem) : Option (Int32 × jMem) :=
  if a0 < 0 then
  some (((-1000001 : Int32), σ))
else
  if a0 ≤ (255 : Int32) then
  if (σ.1 13 1) < (140 : Int32) then
  jbv (f_X9_append a0 σ) (fun σ1 =>
  some (((σ1.1 13 1), σ1)))
else
  some (((-1000003 : Int32), σ))
else
  some (((-1000001 : Int32), σ))
set_option maxRecDepth 100000 in
set_option maxHeartbeats 4000000 in
theorem c_X11_feed {l : Launch} {D : va_G} {ad : Nat → Nat} {cid : Nat → ClassId} {a0 : Int32}  {σ : jMem} {r : Int32} {σ' : jMem} (h : f_X11_feed a0 σ = some (r, σ')) : jMet l D ad cid yX11_feed cX11_feed 2 (some .int) 1 21 [.ref 0, .int a0] σ (some (.int r)) σ' := by
  refine jMet_of (ls0 := [some (.ref 0), some (.int a0)]) (by decide) (Nat.le_of_ble_eq_true rfl) rfl (fun K X R0 _ => ?_)
  unfold f_X11_feed at h
  refine j_iload_n X 1 dX11_feed_0 rfl rfl ?_
  refine j_if_lt (tgt := 11) X dX11_feed_1 (by decide) h (fun h => ?_) (fun h => ?_)
  · refine j_ldc (v := -1000001) X tw_318 dX11_feed_11 ?_
    obtain ⟨rfl, rfl⟩ := jin2 h
    exact j_iret X R0 dX11_feed_13
  · refine j_iload_n X 1 dX11_feed_4 rfl rfl ?_
    refine j_sipush (v := 255) X dX11_feed_5 (by decide) ?_
    refine j_icmp_le (tgt := 14) X dX11_feed_8 (by decide) h (fun h => ?_) (fun h => ?_)
    · refine j_aload_n X 0 dX11_feed_14 rfl rfl ?_
      refine j_getR (t := 13) X fg_RX11_19 ln_0 ly_0 rfl dX11_feed_15 ?_
      refine j_getI X fg_RX11_129 ln_13 ly_13 rfl dX11_feed_18 ?_
      refine j_sipush (v := 140) X dX11_feed_21 (by decide) ?_
      refine j_icmp_lt (tgt := 30) X dX11_feed_24 (by decide) h (fun h => ?_) (fun h => ?_)
      · refine j_aload_n X 0 dX11_feed_30 rfl rfl ?_
        refine j_getR (t := 13) X fg_RX11_19 ln_0 ly_0 rfl dX11_feed_31 ?_
        refine j_iload_n X 1 dX11_feed_34 rfl rfl ?_
        obtain ⟨σ1, hm2, h⟩ := jbv_some h
        refine j_callV (as := [.int a0]) (st := []) (st1 := []) X ln_13 ly_13 rfl rfl sv_RX11_134 ⟨by decide, by decide⟩ rfl rfl (Nat.le_of_ble_eq_true rfl) rfl dX11_feed_35 jrv_v (c_X9_append  hm2) rfl ?_
        refine j_aload_n X 0 dX11_feed_38 rfl rfl ?_
        refine j_getR (t := 13) X fg_RX11_19 ln_0 ly_0 rfl dX11_feed_39 ?_
        refine j_getI X fg_RX11_129 ln_13 ly_13 rfl dX11_feed_42 ?_
        obtain ⟨rfl, rfl⟩ := jin2 h
        exact j_iret X R0 dX11_feed_45
      · refine j_ldc (v := -1000003) X tw_369 dX11_feed_27 ?_
        obtain ⟨rfl, rfl⟩ := jin2 h
        exact j_iret X R0 dX11_feed_29
    · refine j_ldc (v := -1000001) X tw_318 dX11_feed_11 ?_
      obtain ⟨rfl, rfl⟩ := jin2 h
      exact j_iret X R0 dX11_feed_13
def f_X11_forgetActs  (σ : jMem) : Option jMem :=
  jlet (jset σ 0 7 (0 : Int32)) (fun σ1 =>
  some σ1)
set_option maxRecDepth 100000 in
set_option maxHeartbeats 4000000 in
theorem c_X11_forgetActs {l : Launch} {D : va_G} {ad : Nat → Nat} {cid : Nat → ClassId}   {σ : jMem} {σ' : jMem} (h : f_X11_forgetActs  σ = some σ') : jMet l D ad cid yX11_forgetActs cX11_forgetActs 1 none 0 0 [.ref 0] σ none σ' := by
  refine jMet_of (ls0 := [some (.ref 0)]) (by decide) (Nat.le_of_ble_eq_true rfl) rfl (fun K X R0 _ => ?_)
  unfold f_X11_forgetActs at h
  refine j_aload_n X 0 dX11_forgetActs_0 rfl rfl ?_
  refine j_iconst (v := 0) X dX11_forgetActs_1 (by decide) ?_
  refine j_put X fp_RX11_159 ln_0 ly_0 rfl rfl rfl dX11_forgetActs_2 h (fun σ1 h => ?_)
  obtain rfl := Option.some.inj h
  exact j_vret X R0 dX11_forgetActs_5
def f_X5_become (k : Nat) (a0 : Nat) (σ : jMem) : Option jMem :=
  jck (jisb (σ.1 a0 1) = true) (
  jlet (jset σ k 1 (σ.1 a0 1)) (fun σ1 =>
  jlet (jset σ1 k 2 (σ1.1 a0 2)) (fun σ2 =>
  jlet (jset σ2 k 3 (σ2.1 a0 3)) (fun σ3 =>
  jlet (jset σ3 k 4 (σ3.1 a0 4)) (fun σ4 =>
  jlet (jset σ4 k 5 (σ4.1 a0 5)) (fun σ5 =>
  jlet (jset σ5 k 6 (σ5.1 a0 6)) (fun σ6 =>
  jlet (jset σ6 k 7 (σ6.1 a0 7)) (fun σ7 =>
  jcp σ7 (a0 + 1) 12 (0 : Int32) (k + 1) 12 (0 : Int32) (12 : Int32) (fun σ8 =>
  jcp σ8 (a0 + 2) 12 (0 : Int32) (k + 2) 12 (0 : Int32) (12 : Int32) (fun σ9 =>
  jcp σ9 (a0 + 3) 12 (0 : Int32) (k + 3) 12 (0 : Int32) (12 : Int32) (fun σ10 =>
  jcp σ10 (a0 + 4) 6 (0 : Int32) (k + 4) 6 (0 : Int32) (6 : Int32) (fun σ11 =>
  jcp σ11 (a0 + 5) 6 (0 : Int32) (k + 5) 6 (0 : Int32) (6 : Int32) (fun σ12 =>
  jcp σ12 (a0 + 6) 6 (0 : Int32) (k + 6) 6 (0 : Int32) (6 : Int32) (fun σ13 =>
  jcp σ13 (a0 + 7) 6 (0 : Int32) (k + 7) 6 (0 : Int32) (6 : Int32) (fun σ14 =>
  some σ14)))))))))))))))
set_option maxRecDepth 100000 in
set_option maxHeartbeats 4000000 in
theorem c_X5_become {l : Launch} {D : va_G} {ad : Nat → Nat} {cid : Nat → ClassId} {k : Nat} {a0 : Nat} (hk : jisP k) (ha0 : jisP a0) {σ : jMem} {σ' : jMem} (h : f_X5_become k a0 σ = some σ') : jMet l D ad cid yX5_become cX5_become 2 none 1 36 [.ref k, .ref a0] σ none σ' := by
  refine jMet_of (ls0 := [some (.ref k), some (.ref a0)]) (by decide) (Nat.le_of_ble_eq_true rfl) rfl (fun K X R0 _ => ?_)
  unfold f_X5_become at h
  refine j_aload_n X 0 dX5_become_0 rfl rfl ?_
  refine j_aload_n X 1 dX5_become_1 rfl rfl ?_
  refine j_getI X fg_RX5_50 (jp_lt ha0) (jp_ly ha0) rfl dX5_become_2 ?_
  obtain ⟨hc15, h⟩ := jck_some h
  refine j_put X fp_RX5_50 (jp_lt hk) (jp_ly hk) rfl (jisb_n hc15) (jisb_f hc15) dX5_become_5 h (fun σ1 h => ?_)
  refine j_aload_n X 0 dX5_become_8 rfl rfl ?_
  refine j_aload_n X 1 dX5_become_9 rfl rfl ?_
  refine j_getI X fg_RX5_54 (jp_lt ha0) (jp_ly ha0) rfl dX5_become_10 ?_
  refine j_put X fp_RX5_54 (jp_lt hk) (jp_ly hk) rfl rfl rfl dX5_become_13 h (fun σ2 h => ?_)
  refine j_aload_n X 0 dX5_become_16 rfl rfl ?_
  refine j_aload_n X 1 dX5_become_17 rfl rfl ?_
  refine j_getI X fg_RX5_57 (jp_lt ha0) (jp_ly ha0) rfl dX5_become_18 ?_
  refine j_put X fp_RX5_57 (jp_lt hk) (jp_ly hk) rfl rfl rfl dX5_become_21 h (fun σ3 h => ?_)
  refine j_aload_n X 0 dX5_become_24 rfl rfl ?_
  refine j_aload_n X 1 dX5_become_25 rfl rfl ?_
  refine j_getI X fg_RX5_37 (jp_lt ha0) (jp_ly ha0) rfl dX5_become_26 ?_
  refine j_put X fp_RX5_37 (jp_lt hk) (jp_ly hk) rfl rfl rfl dX5_become_29 h (fun σ4 h => ?_)
  refine j_aload_n X 0 dX5_become_32 rfl rfl ?_
  refine j_aload_n X 1 dX5_become_33 rfl rfl ?_
  refine j_getI X fg_RX5_41 (jp_lt ha0) (jp_ly ha0) rfl dX5_become_34 ?_
  refine j_put X fp_RX5_41 (jp_lt hk) (jp_ly hk) rfl rfl rfl dX5_become_37 h (fun σ5 h => ?_)
  refine j_aload_n X 0 dX5_become_40 rfl rfl ?_
  refine j_aload_n X 1 dX5_become_41 rfl rfl ?_
  refine j_getI X fg_RX5_44 (jp_lt ha0) (jp_ly ha0) rfl dX5_become_42 ?_
  refine j_put X fp_RX5_44 (jp_lt hk) (jp_ly hk) rfl rfl rfl dX5_become_45 h (fun σ6 h => ?_)
  refine j_aload_n X 0 dX5_become_48 rfl rfl ?_
  refine j_aload_n X 1 dX5_become_49 rfl rfl ?_
  refine j_getI X fg_RX5_47 (jp_lt ha0) (jp_ly ha0) rfl dX5_become_50 ?_
  refine j_put X fp_RX5_47 (jp_lt hk) (jp_ly hk) rfl rfl rfl dX5_become_53 h (fun σ7 h => ?_)
  refine j_aload_n X 1 dX5_become_56 rfl rfl ?_
  refine j_getR (t := (a0 + 1)) X fg_RX5_15 (jp_lt ha0) (jp_ly ha0) rfl dX5_become_57 ?_
  refine j_iconst (v := 0) X dX5_become_60 (by decide) ?_
  refine j_aload_n X 0 dX5_become_61 rfl rfl ?_
  refine j_getR (t := (k + 1)) X fg_RX5_15 (jp_lt hk) (jp_ly hk) rfl dX5_become_62 ?_
  refine j_iconst (v := 0) X dX5_become_65 (by decide) ?_
  refine j_bipush (v := 12) X dX5_become_66 (by decide) ?_
  refine j_copy X tw_445 tw_360 tw_359 tw_14 rfl (jp_lt1 ha0) (jp_ly1 ha0) (jp_lt1 hk) (jp_ly1 hk) (Nat.le_of_ble_eq_true rfl) (Nat.le_of_ble_eq_true rfl) dX5_become_68 h (fun σ8 h => ?_)
  refine j_aload_n X 1 dX5_become_71 rfl rfl ?_
  refine j_getR (t := (a0 + 2)) X fg_RX5_19 (jp_lt ha0) (jp_ly ha0) rfl dX5_become_72 ?_
  refine j_iconst (v := 0) X dX5_become_75 (by decide) ?_
  refine j_aload_n X 0 dX5_become_76 rfl rfl ?_
  refine j_getR (t := (k + 2)) X fg_RX5_19 (jp_lt hk) (jp_ly hk) rfl dX5_become_77 ?_
  refine j_iconst (v := 0) X dX5_become_80 (by decide) ?_
  refine j_bipush (v := 12) X dX5_become_81 (by decide) ?_
  refine j_copy X tw_445 tw_360 tw_359 tw_14 rfl (jp_lt2 ha0) (jp_ly2 ha0) (jp_lt2 hk) (jp_ly2 hk) (Nat.le_of_ble_eq_true rfl) (Nat.le_of_ble_eq_true rfl) dX5_become_83 h (fun σ9 h => ?_)
  refine j_aload_n X 1 dX5_become_86 rfl rfl ?_
  refine j_getR (t := (a0 + 3)) X fg_RX5_22 (jp_lt ha0) (jp_ly ha0) rfl dX5_become_87 ?_
  refine j_iconst (v := 0) X dX5_become_90 (by decide) ?_
  refine j_aload_n X 0 dX5_become_91 rfl rfl ?_
  refine j_getR (t := (k + 3)) X fg_RX5_22 (jp_lt hk) (jp_ly hk) rfl dX5_become_92 ?_
  refine j_iconst (v := 0) X dX5_become_95 (by decide) ?_
  refine j_bipush (v := 12) X dX5_become_96 (by decide) ?_
  refine j_copy X tw_445 tw_360 tw_359 tw_14 rfl (jp_lt3 ha0) (jp_ly3 ha0) (jp_lt3 hk) (jp_ly3 hk) (Nat.le_of_ble_eq_true rfl) (Nat.le_of_ble_eq_true rfl) dX5_become_98 h (fun σ10 h => ?_)
  refine j_aload_n X 1 dX5_become_101 rfl rfl ?_
  refine j_getR (t := (a0 + 4)) X fg_RX5_25 (jp_lt ha0) (jp_ly ha0) rfl dX5_become_102 ?_
  refine j_iconst (v := 0) X dX5_become_105 (by decide) ?_
  refine j_aload_n X 0 dX5_become_106 rfl rfl ?_
  refine j_getR (t := (k + 4)) X fg_RX5_25 (jp_lt hk) (jp_ly hk) rfl dX5_become_107 ?_
  refine j_iconst (v := 0) X dX5_become_110 (by decide) ?_
  refine j_bipush (v := 6) X dX5_become_111 (by decide) ?_
  refine j_copy X tw_445 tw_360 tw_359 tw_14 rfl (jp_lt4 ha0) (jp_ly4 ha0) (jp_lt4 hk) (jp_ly4 hk) (Nat.le_of_ble_eq_true rfl) (Nat.le_of_ble_eq_true rfl) dX5_become_113 h (fun σ11 h => ?_)
  refine j_aload_n X 1 dX5_become_116 rfl rfl ?_
  refine j_getR (t := (a0 + 5)) X fg_RX5_28 (jp_lt ha0) (jp_ly ha0) rfl dX5_become_117 ?_
  refine j_iconst (v := 0) X dX5_become_120 (by decide) ?_
  refine j_aload_n X 0 dX5_become_121 rfl rfl ?_
  refine j_getR (t := (k + 5)) X fg_RX5_28 (jp_lt hk) (jp_ly hk) rfl dX5_become_122 ?_
  refine j_iconst (v := 0) X dX5_become_125 (by decide) ?_
  refine j_bipush (v := 6) X dX5_become_126 (by decide) ?_
  refine j_copy X tw_445 tw_360 tw_359 tw_14 rfl (jp_lt5 ha0) (jp_ly5 ha0) (jp_lt5 hk) (jp_ly5 hk) (Nat.le_of_ble_eq_true rfl) (Nat.le_of_ble_eq_true rfl) dX5_become_128 h (fun σ12 h => ?_)
  refine j_aload_n X 1 dX5_become_131 rfl rfl ?_
  refine j_getR (t := (a0 + 6)) X fg_RX5_31 (jp_lt ha0) (jp_ly ha0) rfl dX5_become_132 ?_
  refine j_iconst (v := 0) X dX5_become_135 (by decide) ?_
  refine j_aload_n X 0 dX5_become_136 rfl rfl ?_
  refine j_getR (t := (k + 6)) X fg_RX5_31 (jp_lt hk) (jp_ly hk) rfl dX5_become_137 ?_
  refine j_iconst (v := 0) X dX5_become_140 (by decide) ?_
  refine j_bipush (v := 6) X dX5_become_141 (by decide) ?_
  refine j_copy X tw_445 tw_360 tw_359 tw_14 rfl (jp_lt6 ha0) (jp_ly6 ha0) (jp_lt6 hk) (jp_ly6 hk) (Nat.le_of_ble_eq_true rfl) (Nat.le_of_ble_eq_true rfl) dX5_become_143 h (fun σ13 h => ?_)
  refine j_aload_n X 1 dX5_become_146 rfl rfl ?_
  refine j_getR (t := (a0 + 7)) X fg_RX5_34 (jp_lt ha0) (jp_ly ha0) rfl dX5_become_147 ?_
  refine j_iconst (v := 0) X dX5_become_150 (by decide) ?_
  refine j_aload_n X 0 dX5_become_151 rfl rfl ?_
  refine j_getR (t := (k + 7)) X fg_RX5_34 (jp_lt hk) (jp_ly hk) rfl dX5_become_152 ?_
  refine j_iconst (v := 0) X dX5_become_155 (by decide) ?_
  refine j_bipush (v := 6) X dX5_become_156 (by decide) ?_
  refine j_copy X tw_445 tw_360 tw_359 tw_14 rfl (jp_lt7 ha0) (jp_ly7 ha0) (jp_lt7 hk) (jp_ly7 hk) (Nat.le_of_ble_eq_true rfl) (Nat.le_of_ble_eq_true rfl) dX5_become_158 h (fun σ14 h => ?_)
  obtain rfl := Option.some.inj h
  exact j_vret X R0 dX5_become_161
def f_X9_fails (a0 : Int32) (σ : jMem) : Option (Int32 × jMem) :=
  jlet (jset σ 13 2 a0) (fun σ1 =>
  jlet (jset σ1 13 3 (σ1.1 13 4)) (fun σ2 =>
  some (((0 : Int32), σ2))))
set_option maxRecDepth 100000 in
set_option maxHeartbeats 4000000 in
theorem c_X9_fails {l : Launch} {D : va_G} {ad : Nat → Nat} {cid : Nat → ClassId} {a0 : Int32}  {σ : jMem} {r : Int32} {σ' : jMem} (h : f_X9_fails a0 σ = some (r, σ')) : jMet l D ad cid yX9_fails cX9_fails 2 (some .boolean) 0 0 [.ref 13, .int a0] σ (some (.int r)) σ' := by
  refine jMet_of (ls0 := [some (.ref 13), some (.int a0)]) (by decide) (Nat.le_of_ble_eq_true rfl) rfl (fun K X R0 _ => ?_)
  unfold f_X9_fails at h
  refine j_aload_n X 0 dX9_fails_0 rfl rfl ?_
  refine j_iload_n X 1 dX9_fails_1 rfl rfl ?_
  refine j_put X fp_RX9_87 ln_13 ly_13 rfl rfl rfl dX9_fails_2 h (fun σ1 h => ?_)
  refine j_aload_n X 0 dX9_fails_5 rfl rfl ?_
  refine j_aload_n X 0 dX9_fails_6 rfl rfl ?_
  refine j_getI X fg_RX9_90 ln_13 ly_13 rfl dX9_fails_7 ?_
  refine j_put X fp_RX9_93 ln_13 ly_13 rfl rfl rfl dX9_fails_10 h (fun σ2 h => ?_)
  refine j_iconst (v := 0) X dX9_fails_13 (by decide) ?_
  obtain ⟨rfl, rfl⟩ := jin2 h
  exact j_zret X R0 rfl dX9_fails_14
def f_X9_isFigure (a0 : Int32) (σ : jMem) : Option (Int32 × jMem) :=
  if a0 < (48 : Int32) then
  some (((0 : Int32), σ))
else
  if (57 : Int32) < a0 then
  some (((0 : Int32), σ))
else
  some (((1 : Int32), σ))
set_option maxRecDepth 100000 in
set_option maxHeartbeats 4000000 in
theorem c_X9_isFigure {l : Launch} {D : va_G} {ad : Nat → Nat} {cid : Nat → ClassId} {a0 : Int32}  {σ : jMem} {r : Int32} {σ' : jMem} (h : f_X9_isFigure a0 σ = some (r, σ')) : jMet l D ad cid yX9_isFigure cX9_isFigure 1 (some .boolean) 0 0 [.int a0] σ (some (.int r)) σ' := by
  refine jMet_of (ls0 := [some (.int a0)]) (by decide) (Nat.le_of_ble_eq_true rfl) rfl (fun K X R0 _ => ?_)
  unfold f_X9_isFigure at h
  refine j_iload_n X 0 dX9_isFigure_0 rfl rfl ?_
  refine j_bipush (v := 48) X dX9_isFigure_1 (by decide) ?_
  refine j_icmp_lt (tgt := 16) X dX9_isFigure_3 (by decide) h (fun h => ?_) (fun h => ?_)
  · refine j_iconst (v := 0) X dX9_isFigure_16 (by decide) ?_
    obtain ⟨rfl, rfl⟩ := jin2 h
    exact j_zret X R0 rfl dX9_isFigure_17
  · refine j_iload_n X 0 dX9_isFigure_6 rfl rfl ?_
    refine j_bipush (v := 57) X dX9_isFigure_7 (by decide) ?_
    refine j_icmp_gt (tgt := 16) X dX9_isFigure_9 (by decide) h (fun h => ?_) (fun h => ?_)
    · refine j_iconst (v := 0) X dX9_isFigure_16 (by decide) ?_
      obtain ⟨rfl, rfl⟩ := jin2 h
      exact j_zret X R0 rfl dX9_isFigure_17
    · refine j_iconst (v := 1) X dX9_isFigure_12 (by decide) ?_
      refine j_goto (tgt := 17) X dX9_isFigure_13 (by decide) ?_
      obtain ⟨rfl, rfl⟩ := jin2 h
      exact j_zret X R0 rfl dX9_isFigure_17
