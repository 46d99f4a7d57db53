theorem sv_RX11_107 : jSiV RX11 107 yX6_isMissing cX6_isMissing 2 (some .boolean) 1 := ⟨tw_356, tw_341, tw_342, tw_2, tw_343, by decide, by decide, by decide +kernel⟩
theorem sv_RX11_113 : jSiV RX11 113 yX6_has cX6_has 4 (some .boolean) 3 := ⟨tw_357, tw_345, tw_346, tw_2, tw_347, by decide, by decide, by decide +kernel⟩
def f_X11_copy (a0 : Int32) (a1 : Int32) (a2 : Int32) (a3 : Int32) (a4 : Int32) (σ : jMem) : Option (Int32 × jMem) :=
  jbd (f_X11_isRow a0 σ) (fun v1 σ2 =>
  if v1 = 0 then
  some (((-1000001 : Int32), σ2))
else
  jbd (f_X11_isRow a2 σ2) (fun v4 σ5 =>
  if ¬ v4 = 0 then
  jbd (f_X6_isMissing a0 σ5) (fun v7 σ8 =>
  jj (fun (q11 : Unit) σ12 =>
  jbd (f_X11_found (1 : Int32) σ12) (fun v13 σ14 =>
  some ((v13, σ14)))) (fun k10 =>
  if ¬ v7 = 0 then
  k10 () σ8
else
  jbd (f_X6_isMissing a2 σ8) (fun v16 σ17 =>
  if v16 = 0 then
  jld σ17 11 8 a0 (fun v19 =>
  jld σ17 11 8 a2 (fun v20 =>
  if v19 = v20 then
  jbd (f_X6_has a0 a1 a4 σ17) (fun v21 σ22 =>
  jj (fun (q25 : Unit) σ26 =>
  jbd (f_X11_found (2 : Int32) σ26) (fun v27 σ28 =>
  some ((v27, σ28)))) (fun k24 =>
  if v21 = 0 then
  k24 () σ22
else
  jbd (f_X6_has a2 a3 a4 σ22) (fun v30 σ31 =>
  if ¬ v30 = 0 then
  jldr 8 3 1 a0 (fun k33 =>
  jldr 8 3 1 a2 (fun k34 =>
  jcp σ31 k33 40 a1 k34 40 a3 a4 (fun σ35 =>
  jbd (f_X11_unfound a4 σ35) (fun v36 σ37 =>
  some ((v36, σ37))))))
else
  k24 () σ31)))
else
  jbd (f_X11_found (5 : Int32) σ17) (fun v39 σ40 =>
  some ((v39, σ40)))))
else
  k10 () σ17)))
else
  some (((-1000001 : Int32), σ5))))
set_option maxRecDepth 100000 in
set_option maxHeartbeats 4000000 in
theorem c_X11_copy {l : Launch} {D : va_G} {ad : Nat → Nat} {cid : Nat → ClassId} {a0 : Int32} {a1 : Int32} {a2 : Int32} {a3 : Int32} {a4 : Int32}  {σ : jMem} {r : Int32} {σ' : jMem} (h : f_X11_copy a0 a1 a2 a3 a4 σ = some (r, σ')) : jMet l D ad cid yX11_copy cX11_copy 6 (some .int) 1 36 [.ref 0, .int a0, .int a1, .int a2, .int a3, .int a4] σ (some (.int r)) σ' := by
  refine jMet_of (ls0 := [some (.ref 0), some (.int a0), some (.int a1), some (.int a2), some (.int a3), some (.int a4)]) (by decide) (Nat.le_of_ble_eq_true rfl) rfl (fun K X R0 _ => ?_)
  unfold f_X11_copy at h
  refine j_iload_n X 1 dX11_copy_0 rfl rfl ?_
  obtain ⟨v1, σ2, hm3, h⟩ := jbd_some h
  refine j_callS (as := [.int a0]) (st := []) (st1 := [.int v1]) X ss_RX11_84 ⟨by decide, by decide⟩ rfl rfl (Nat.le_of_ble_eq_true rfl) rfl dX11_copy_1 jrv_i (c_X11_isRow  hm3) rfl ?_
  refine j_if_eq (tgt := 14) X dX11_copy_4 (by decide) h (fun h => ?_) (fun h => ?_)
  · refine j_ldc (v := -1000001) X tw_318 dX11_copy_14 ?_
    obtain ⟨rfl, rfl⟩ := jin2 h
    exact j_iret X R0 dX11_copy_16
  · refine j_iload_n X 3 dX11_copy_7 rfl rfl ?_
    obtain ⟨v4, σ5, hm6, h⟩ := jbd_some h
    refine j_callS (as := [.int a2]) (st := []) (st1 := [.int v4]) X ss_RX11_84 ⟨by decide, by decide⟩ rfl rfl (Nat.le_of_ble_eq_true rfl) rfl dX11_copy_8 jrv_i (c_X11_isRow  hm6) rfl ?_
    refine j_if_ne (tgt := 17) X dX11_copy_11 (by decide) h (fun h => ?_) (fun h => ?_)
    · refine j_aload_n X 0 dX11_copy_17 rfl rfl ?_
      refine j_getR (t := 1) X fg_RX11_10 ln_0 ly_0 rfl dX11_copy_18 ?_
      refine j_iload_n X 1 dX11_copy_21 rfl rfl ?_
      obtain ⟨v7, σ8, hm9, h⟩ := jbd_some h
      refine j_callV (as := [.int a0]) (st := []) (st1 := [.int v7]) X ln_1 ly_1 rfl rfl sv_RX11_107 ⟨by decide, by decide⟩ rfl rfl (Nat.le_of_ble_eq_true rfl) rfl dX11_copy_22 jrv_i (c_X6_isMissing  hm9) rfl ?_
      refine j_join (pcJ := 39) (lsJ := fun q11 => [some (.ref 0), none, none, none, none, none]) (stJ := fun q11 => []) h (fun q11 σ12 h => ?_) (fun k10 hk10 h => ?_)
      · refine j_aload_n X 0 dX11_copy_39 rfl rfl ?_
        refine j_iconst (v := 1) X dX11_copy_40 (by decide) ?_
        obtain ⟨v13, σ14, hm15, h⟩ := jbd_some h
        refine j_callV (as := [.int (1 : Int32)]) (st := []) (st1 := [.int v13]) X ln_0 ly_0 rfl rfl sv_RX11_89 ⟨by decide, by decide⟩ rfl rfl (Nat.le_of_ble_eq_true rfl) rfl dX11_copy_41 jrv_i (c_X11_found  hm15) rfl ?_
        obtain ⟨rfl, rfl⟩ := jin2 h
        exact j_iret X R0 dX11_copy_44
      · refine j_if_ne (tgt := 39) X dX11_copy_25 (by decide) h (fun h => ?_) (fun h => ?_)
        · exact j_sub (ls' := [some (.ref 0), none, none, none, none, none]) ⟨Or.inr rfl, Or.inl rfl, Or.inl rfl, Or.inl rfl, Or.inl rfl, Or.inl rfl, trivial⟩ (hk10 () σ8 h)
        · refine j_aload_n X 0 dX11_copy_28 rfl rfl ?_
          refine j_getR (t := 1) X fg_RX11_10 ln_0 ly_0 rfl dX11_copy_29 ?_
          refine j_iload_n X 3 dX11_copy_32 rfl rfl ?_
          obtain ⟨v16, σ17, hm18, h⟩ := jbd_some h
          refine j_callV (as := [.int a2]) (st := []) (st1 := [.int v16]) X ln_1 ly_1 rfl rfl sv_RX11_107 ⟨by decide, by decide⟩ rfl rfl (Nat.le_of_ble_eq_true rfl) rfl dX11_copy_33 jrv_i (c_X6_isMissing  hm18) rfl ?_
          refine j_if_eq (tgt := 45) X dX11_copy_36 (by decide) h (fun h => ?_) (fun h => ?_)
          · refine j_aload_n X 0 dX11_copy_45 rfl rfl ?_
            refine j_getR (t := 1) X fg_RX11_10 ln_0 ly_0 rfl dX11_copy_46 ?_
            refine j_getR (t := 11) X fg_RX11_110 ln_1 ly_1 rfl dX11_copy_49 ?_
            refine j_iload_n X 1 dX11_copy_52 rfl rfl ?_
            refine j_iaload X ln_11 ly_11 dX11_copy_53 h (fun v19 h => ?_)
            refine j_aload_n X 0 dX11_copy_54 rfl rfl ?_
            refine j_getR (t := 1) X fg_RX11_10 ln_0 ly_0 rfl dX11_copy_55 ?_
            refine j_getR (t := 11) X fg_RX11_110 ln_1 ly_1 rfl dX11_copy_58 ?_
            refine j_iload_n X 3 dX11_copy_61 rfl rfl ?_
            refine j_iaload X ln_11 ly_11 dX11_copy_62 h (fun v20 h => ?_)
            refine j_icmp_eq (tgt := 72) X dX11_copy_63 (by decide) h (fun h => ?_) (fun h => ?_)
            · refine j_aload_n X 0 dX11_copy_72 rfl rfl ?_
              refine j_getR (t := 1) X fg_RX11_10 ln_0 ly_0 rfl dX11_copy_73 ?_
              refine j_iload_n X 1 dX11_copy_76 rfl rfl ?_
              refine j_iload_n X 2 dX11_copy_77 rfl rfl ?_
              refine j_iload X dX11_copy_78 rfl ?_
              obtain ⟨v21, σ22, hm23, h⟩ := jbd_some h
              refine j_callV (as := [.int a0, .int a1, .int a4]) (st := []) (st1 := [.int v21]) X ln_1 ly_1 rfl rfl sv_RX11_113 ⟨by decide, by decide⟩ rfl rfl (Nat.le_of_ble_eq_true rfl) rfl dX11_copy_80 jrv_i (c_X6_has  hm23) rfl ?_
              refine j_join (pcJ := 101) (lsJ := fun q25 => [some (.ref 0), none, none, none, none, none]) (stJ := fun q25 => []) h (fun q25 σ26 h => ?_) (fun k24 hk24 h => ?_)
              · refine j_aload_n X 0 dX11_copy_101 rfl rfl ?_
                refine j_iconst (v := 2) X dX11_copy_102 (by decide) ?_
                obtain ⟨v27, σ28, hm29, h⟩ := jbd_some h
                refine j_callV (as := [.int (2 : Int32)]) (st := []) (st1 := [.int v27]) X ln_0 ly_0 rfl rfl sv_RX11_89 ⟨by decide, by decide⟩ rfl rfl (Nat.le_of_ble_eq_true rfl) rfl dX11_copy_103 jrv_i (c_X11_found  hm29) rfl ?_
                obtain ⟨rfl, rfl⟩ := jin2 h
                exact j_iret X R0 dX11_copy_106
              · refine j_if_eq (tgt := 101) X dX11_copy_83 (by decide) h (fun h => ?_) (fun h => ?_)
                · exact j_sub (ls' := [some (.ref 0), none, none, none, none, none]) ⟨Or.inr rfl, Or.inl rfl, Or.inl rfl, Or.inl rfl, Or.inl rfl, Or.inl rfl, trivial⟩ (hk24 () σ22 h)
                · refine j_aload_n X 0 dX11_copy_86 rfl rfl ?_
                  refine j_getR (t := 1) X fg_RX11_10 ln_0 ly_0 rfl dX11_copy_87 ?_
                  refine j_iload_n X 3 dX11_copy_90 rfl rfl ?_
                  refine j_iload X dX11_copy_91 rfl ?_
                  refine j_iload X dX11_copy_93 rfl ?_
                  obtain ⟨v30, σ31, hm32, h⟩ := jbd_some h
                  refine j_callV (as := [.int a2, .int a3, .int a4]) (st := []) (st1 := [.int v30]) X ln_1 ly_1 rfl rfl sv_RX11_113 ⟨by decide, by decide⟩ rfl rfl (Nat.le_of_ble_eq_true rfl) rfl dX11_copy_95 jrv_i (c_X6_has  hm32) rfl ?_
                  refine j_if_ne (tgt := 107) X dX11_copy_98 (by decide) h (fun h => ?_) (fun h => ?_)
                  · refine j_aload_n X 0 dX11_copy_107 rfl rfl ?_
                    refine j_getR (t := 1) X fg_RX11_10 ln_0 ly_0 rfl dX11_copy_108 ?_
                    refine j_getR (t := 2) X fg_RX11_117 ln_1 ly_1 rfl dX11_copy_111 ?_
                    refine j_iload_n X 1 dX11_copy_114 rfl rfl ?_
                    refine j_aaload X ln_2 ly_2 (Or.inr (Or.inr rfl)) dX11_copy_115 h (fun k33 qk33 h => ?_)
                    have hk33 := jrow8 qk33
                    refine j_iload_n X 2 dX11_copy_116 rfl rfl ?_
                    refine j_aload_n X 0 dX11_copy_117 rfl rfl ?_
                    refine j_getR (t := 1) X fg_RX11_10 ln_0 ly_0 rfl dX11_copy_118 ?_
                    refine j_getR (t := 2) X fg_RX11_117 ln_1 ly_1 rfl dX11_copy_121 ?_
                    refine j_iload_n X 3 dX11_copy_124 rfl rfl ?_
                    refine j_aaload X ln_2 ly_2 (Or.inr (Or.inr rfl)) dX11_copy_125 h (fun k34 qk34 h => ?_)
                    have hk34 := jrow8 qk34
                    refine j_iload X dX11_copy_126 rfl ?_
                    refine j_iload X dX11_copy_128 rfl ?_
                    refine j_copy X tw_358 tw_360 tw_359 tw_14 rfl hk33.1 hk33.2 hk34.1 hk34.2 (Nat.le_of_ble_eq_true rfl) (Nat.le_of_ble_eq_true rfl) dX11_copy_130 h (fun σ35 h => ?_)
                    refine j_aload_n X 0 dX11_copy_133 rfl rfl ?_
                    refine j_iload X dX11_copy_134 rfl ?_
                    obtain ⟨v36, σ37, hm38, h⟩ := jbd_some h
                    refine j_callV (as := [.int a4]) (st := []) (st1 := [.int v36]) X ln_0 ly_0 rfl rfl sv_RX11_97 ⟨by decide, by decide⟩ rfl rfl (Nat.le_of_ble_eq_true rfl) rfl dX11_copy_136 jrv_i (c_X11_unfound  hm38) rfl ?_
                    obtain ⟨rfl, rfl⟩ := jin2 h
                    exact j_iret X R0 dX11_copy_139
                  · exact j_sub (ls' := [some (.ref 0), none, none, none, none, none]) ⟨Or.inr rfl, Or.inl rfl, Or.inl rfl, Or.inl rfl, Or.inl rfl, Or.inl rfl, trivial⟩ (hk24 () σ31 h)
            · refine j_aload_n X 0 dX11_copy_66 rfl rfl ?_
              refine j_iconst (v := 5) X dX11_copy_67 (by decide) ?_
              obtain ⟨v39, σ40, hm41, h⟩ := jbd_some h
              refine j_callV (as := [.int (5 : Int32)]) (st := []) (st1 := [.int v39]) X ln_0 ly_0 rfl rfl sv_RX11_89 ⟨by decide, by decide⟩ rfl rfl (Nat.le_of_ble_eq_true rfl) rfl dX11_copy_68 jrv_i (c_X11_found  hm41) rfl ?_
              obtain ⟨rfl, rfl⟩ := jin2 h
              exact j_iret X R0 dX11_copy_71
          · exact j_sub (ls' := [some (.ref 0), none, none, none, none, none]) ⟨Or.inr rfl, Or.inl rfl, Or.inl rfl, Or.inl rfl, Or.inl rfl, Or.inl rfl, trivial⟩ (hk10 () σ17 h)
    · refine j_ldc (v := -1000001) X tw_318 dX11_copy_14 ?_
      obtain ⟨rfl, rfl⟩ := jin2 h
      exact j_iret X R0 dX11_copy_16
