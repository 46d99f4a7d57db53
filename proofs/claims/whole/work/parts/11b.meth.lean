theorem sv_RX11_241 : jSiV RX11 241 yX5_swearing cX5_swearing 4 (some .int) 1 := ⟨tw_630, tw_631, tw_632, tw_10, tw_633, by decide, by decide, by decide +kernel⟩
def f_X11_path (a0 : Int32) (a1 : Int32) (σ : jMem) : Option (Int32 × jMem) :=
  jbd (f_X5_hasPath 22 a0 σ) (fun v1 σ2 =>
  if ¬ v1 = 0 then
  if a1 = 0 then
  jld σ2 23 12 a0 (fun v5 =>
  some ((v5, σ2)))
else
  if a1 = 1 then
  jld σ2 24 12 a0 (fun v7 =>
  some ((v7, σ2)))
else
  if a1 = 2 then
  jld σ2 25 12 a0 (fun v9 =>
  some ((v9, σ2)))
else
  if a1 = 3 then
  jbd (f_X11_bitOf (σ2.1 22 7) a0 σ2) (fun v11 σ12 =>
  some ((v11, σ12)))
else
  if a1 = 4 then
  jbd (f_X5_swearing 22 a0 σ2) (fun v15 σ16 =>
  some ((v15, σ16)))
else
  some (((-1000001 : Int32), σ2))
else
  some (((-1000001 : Int32), σ2)))
set_option maxRecDepth 100000 in
set_option maxHeartbeats 4000000 in
theorem c_X11_path {l : Launch} {D : va_G} {ad : Nat → Nat} {cid : Nat → ClassId} {a0 : Int32} {a1 : Int32}  {σ : jMem} {r : Int32} {σ' : jMem} (h : f_X11_path a0 a1 σ = some (r, σ')) : jMet l D ad cid yX11_path cX11_path 3 (some .int) 4 86 [.ref 0, .int a0, .int a1] σ (some (.int r)) σ' := by
  refine jMet_of (ls0 := [some (.ref 0), some (.int a0), some (.int a1)]) (by decide) (Nat.le_of_ble_eq_true rfl) rfl (fun K X R0 _ => ?_)
  unfold f_X11_path at h
  refine j_aload_n X 0 dX11_path_0 rfl rfl ?_
  refine j_getR (t := 22) X fg_RX11_50 ln_0 ly_0 rfl dX11_path_1 ?_
  refine j_iload_n X 1 dX11_path_4 rfl rfl ?_
  obtain ⟨v1, σ2, hm3, h⟩ := jbd_some h
  refine j_callV (as := [.int a0]) (st := []) (st1 := [.int v1]) X ln_22 ly_22 rfl rfl sv_RX11_201 ⟨by decide, by decide⟩ rfl rfl (Nat.le_of_ble_eq_true rfl) rfl dX11_path_5 jrv_i (c_X5_hasPath jisP_22 hm3) rfl ?_
  refine j_if_ne (tgt := 14) X dX11_path_8 (by decide) h (fun h => ?_) (fun h => ?_)
  · refine j_iload_n X 2 dX11_path_14 rfl rfl ?_
    by_cases hs4 : a1 = 0
    · rw [if_pos hs4] at h
      refine j_tab (tgt := 48) X dX11_path_15 0 hs4 (by decide) (by decide) rfl (by decide) ?_
      refine j_aload_n X 0 dX11_path_48 rfl rfl ?_
      refine j_getR (t := 22) X fg_RX11_50 ln_0 ly_0 rfl dX11_path_49 ?_
      refine j_getR (t := 23) X fg_RX11_232 ln_22 ly_22 rfl dX11_path_52 ?_
      refine j_iload_n X 1 dX11_path_55 rfl rfl ?_
      refine j_iaload X ln_23 ly_23 dX11_path_56 h (fun v5 h => ?_)
      obtain ⟨rfl, rfl⟩ := jin2 h
      exact j_iret X R0 dX11_path_57
    · rw [if_neg hs4] at h
      by_cases hs6 : a1 = 1
      · rw [if_pos hs6] at h
        refine j_tab (tgt := 58) X dX11_path_15 1 hs6 (by decide) (by decide) rfl (by decide) ?_
        refine j_aload_n X 0 dX11_path_58 rfl rfl ?_
        refine j_getR (t := 22) X fg_RX11_50 ln_0 ly_0 rfl dX11_path_59 ?_
        refine j_getR (t := 24) X fg_RX11_235 ln_22 ly_22 rfl dX11_path_62 ?_
        refine j_iload_n X 1 dX11_path_65 rfl rfl ?_
        refine j_iaload X ln_24 ly_24 dX11_path_66 h (fun v7 h => ?_)
        obtain ⟨rfl, rfl⟩ := jin2 h
        exact j_iret X R0 dX11_path_67
      · rw [if_neg hs6] at h
        by_cases hs8 : a1 = 2
        · rw [if_pos hs8] at h
          refine j_tab (tgt := 68) X dX11_path_15 2 hs8 (by decide) (by decide) rfl (by decide) ?_
          refine j_aload_n X 0 dX11_path_68 rfl rfl ?_
          refine j_getR (t := 22) X fg_RX11_50 ln_0 ly_0 rfl dX11_path_69 ?_
          refine j_getR (t := 25) X fg_RX11_238 ln_22 ly_22 rfl dX11_path_72 ?_
          refine j_iload_n X 1 dX11_path_75 rfl rfl ?_
          refine j_iaload X ln_25 ly_25 dX11_path_76 h (fun v9 h => ?_)
          obtain ⟨rfl, rfl⟩ := jin2 h
          exact j_iret X R0 dX11_path_77
        · rw [if_neg hs8] at h
          by_cases hs10 : a1 = 3
          · rw [if_pos hs10] at h
            refine j_tab (tgt := 78) X dX11_path_15 3 hs10 (by decide) (by decide) rfl (by decide) ?_
            refine j_aload_n X 0 dX11_path_78 rfl rfl ?_
            refine j_getR (t := 22) X fg_RX11_50 ln_0 ly_0 rfl dX11_path_79 ?_
            refine j_getI X fg_RX11_207 ln_22 ly_22 rfl dX11_path_82 ?_
            refine j_iload_n X 1 dX11_path_85 rfl rfl ?_
            obtain ⟨v11, σ12, hm13, h⟩ := jbd_some h
            refine j_callS (as := [.int (σ2.1 22 7), .int a0]) (st := []) (st1 := [.int v11]) X ss_RX11_210 ⟨by decide, by decide⟩ rfl rfl (Nat.le_of_ble_eq_true rfl) rfl dX11_path_86 jrv_i (c_X11_bitOf  hm13) rfl ?_
            obtain ⟨rfl, rfl⟩ := jin2 h
            exact j_iret X R0 dX11_path_89
          · rw [if_neg hs10] at h
            by_cases hs14 : a1 = 4
            · rw [if_pos hs14] at h
              refine j_tab (tgt := 90) X dX11_path_15 4 hs14 (by decide) (by decide) rfl (by decide) ?_
              refine j_aload_n X 0 dX11_path_90 rfl rfl ?_
              refine j_getR (t := 22) X fg_RX11_50 ln_0 ly_0 rfl dX11_path_91 ?_
              refine j_iload_n X 1 dX11_path_94 rfl rfl ?_
              obtain ⟨v15, σ16, hm17, h⟩ := jbd_some h
              refine j_callV (as := [.int a0]) (st := []) (st1 := [.int v15]) X ln_22 ly_22 rfl rfl sv_RX11_241 ⟨by decide, by decide⟩ rfl rfl (Nat.le_of_ble_eq_true rfl) rfl dX11_path_95 jrv_i (c_X5_swearing jisP_22 hm17) rfl ?_
              obtain ⟨rfl, rfl⟩ := jin2 h
              exact j_iret X R0 dX11_path_98
            · rw [if_neg hs14] at h
              refine j_tabo (tgt := 99) X dX11_path_15 (by have w0 := lv_neT (a := 0) hs4 (by decide); have w1 := lv_neT (a := 1) hs6 (by decide); have w2 := lv_neT (a := 2) hs8 (by decide); have w3 := lv_neT (a := 3) hs10 (by decide); have w4 := lv_neT (a := 4) hs14 (by decide); omega) (by decide) ?_
              refine j_ldc (v := -1000001) X tw_318 dX11_path_99 ?_
              obtain ⟨rfl, rfl⟩ := jin2 h
              exact j_iret X R0 dX11_path_101
  · refine j_ldc (v := -1000001) X tw_318 dX11_path_11 ?_
    obtain ⟨rfl, rfl⟩ := jin2 h
    exact j_iret X R0 dX11_path_13
def f_X11_stand (a0 : Int32) (σ : jMem) : Option (Int32 × jMem) :=
  if ¬ (σ.1 22 1) = 0 then
  if a0 = 0 then
  jbd (f_X5_ways 22 σ) (fun v2 σ3 =>
  some ((v2, σ3)))
else
  if a0 = 1 then
  some (((σ.1 22 7), σ))
else
  if a0 = 2 then
  jbd (f_X5_living 22 σ) (fun v7 σ8 =>
  some ((v7, σ8)))
else
  if a0 = 3 then
  some (((σ.1 22 2), σ))
else
  some (((-1000001 : Int32), σ))
else
  some (((-1000002 : Int32), σ))
set_option maxRecDepth 100000 in
set_option maxHeartbeats 4000000 in
theorem c_X11_stand {l : Launch} {D : va_G} {ad : Nat → Nat} {cid : Nat → ClassId} {a0 : Int32}  {σ : jMem} {r : Int32} {σ' : jMem} (h : f_X11_stand a0 σ = some (r, σ')) : jMet l D ad cid yX11_stand cX11_stand 2 (some .int) 5 106 [.ref 0, .int a0] σ (some (.int r)) σ' := by
  refine jMet_of (ls0 := [some (.ref 0), some (.int a0)]) (by decide) (Nat.le_of_ble_eq_true rfl) rfl (fun K X R0 _ => ?_)
  unfold f_X11_stand at h
  refine j_aload_n X 0 dX11_stand_0 rfl rfl ?_
  refine j_getR (t := 22) X fg_RX11_50 ln_0 ly_0 rfl dX11_stand_1 ?_
  refine j_getI X fg_RX11_170 ln_22 ly_22 rfl dX11_stand_4 ?_
  refine j_if_ne (tgt := 13) X dX11_stand_7 (by decide) h (fun h => ?_) (fun h => ?_)
  · refine j_iload_n X 1 dX11_stand_13 rfl rfl ?_
    by_cases hs1 : a0 = 0
    · rw [if_pos hs1] at h
      refine j_tab (tgt := 44) X dX11_stand_14 0 hs1 (by decide) (by decide) rfl (by decide) ?_
      refine j_aload_n X 0 dX11_stand_44 rfl rfl ?_
      refine j_getR (t := 22) X fg_RX11_50 ln_0 ly_0 rfl dX11_stand_45 ?_
      obtain ⟨v2, σ3, hm4, h⟩ := jbd_some h
      refine j_callV (as := []) (st := []) (st1 := [.int v2]) X ln_22 ly_22 rfl rfl sv_RX11_188 ⟨by decide, by decide⟩ rfl rfl (Nat.le_of_ble_eq_true rfl) rfl dX11_stand_48 jrv_i (c_X5_ways jisP_22 hm4) rfl ?_
      obtain ⟨rfl, rfl⟩ := jin2 h
      exact j_iret X R0 dX11_stand_51
    · rw [if_neg hs1] at h
      by_cases hs5 : a0 = 1
      · rw [if_pos hs5] at h
        refine j_tab (tgt := 52) X dX11_stand_14 1 hs5 (by decide) (by decide) rfl (by decide) ?_
        refine j_aload_n X 0 dX11_stand_52 rfl rfl ?_
        refine j_getR (t := 22) X fg_RX11_50 ln_0 ly_0 rfl dX11_stand_53 ?_
        refine j_getI X fg_RX11_207 ln_22 ly_22 rfl dX11_stand_56 ?_
        obtain ⟨rfl, rfl⟩ := jin2 h
        exact j_iret X R0 dX11_stand_59
      · rw [if_neg hs5] at h
        by_cases hs6 : a0 = 2
        · rw [if_pos hs6] at h
          refine j_tab (tgt := 60) X dX11_stand_14 2 hs6 (by decide) (by decide) rfl (by decide) ?_
          refine j_aload_n X 0 dX11_stand_60 rfl rfl ?_
          refine j_getR (t := 22) X fg_RX11_50 ln_0 ly_0 rfl dX11_stand_61 ?_
          obtain ⟨v7, σ8, hm9, h⟩ := jbd_some h
          refine j_callV (as := []) (st := []) (st1 := [.int v7]) X ln_22 ly_22 rfl rfl sv_RX11_198 ⟨by decide, by decide⟩ rfl rfl (Nat.le_of_ble_eq_true rfl) rfl dX11_stand_64 jrv_i (c_X5_living jisP_22 hm9) rfl ?_
          obtain ⟨rfl, rfl⟩ := jin2 h
          exact j_iret X R0 dX11_stand_67
        · rw [if_neg hs6] at h
          by_cases hs10 : a0 = 3
          · rw [if_pos hs10] at h
            refine j_tab (tgt := 68) X dX11_stand_14 3 hs10 (by decide) (by decide) rfl (by decide) ?_
            refine j_aload_n X 0 dX11_stand_68 rfl rfl ?_
            refine j_getR (t := 22) X fg_RX11_50 ln_0 ly_0 rfl dX11_stand_69 ?_
            refine j_getI X fg_RX11_244 ln_22 ly_22 rfl dX11_stand_72 ?_
            obtain ⟨rfl, rfl⟩ := jin2 h
            exact j_iret X R0 dX11_stand_75
          · rw [if_neg hs10] at h
            refine j_tabo (tgt := 76) X dX11_stand_14 (by have w0 := lv_neT (a := 0) hs1 (by decide); have w1 := lv_neT (a := 1) hs5 (by decide); have w2 := lv_neT (a := 2) hs6 (by decide); have w3 := lv_neT (a := 3) hs10 (by decide); omega) (by decide) ?_
            refine j_ldc (v := -1000001) X tw_318 dX11_stand_76 ?_
            obtain ⟨rfl, rfl⟩ := jin2 h
            exact j_iret X R0 dX11_stand_78
  · refine j_ldc (v := -1000002) X tw_458 dX11_stand_10 ?_
    obtain ⟨rfl, rfl⟩ := jin2 h
    exact j_iret X R0 dX11_stand_12
