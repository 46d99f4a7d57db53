def f_X12_witness (a0 : Int32) (a1 : Int32) (σ : jMem) : Option (Int32 × jMem) :=
  jlet (jset σ 89 0 (0 : Int32)) (fun σ1 =>
  jbd (f_X12_isWitness a0 σ1) (fun v2 σ3 =>
  if ¬ v2 = 0 then
  if a1 = 0 then
  jbd (f_X12_of 93 a0 (1 : Int32) σ3) (fun v6 σ7 =>
  some ((v6, σ7)))
else
  if a1 = 1 then
  jbd (f_X12_of 93 a0 (2 : Int32) σ3) (fun v10 σ11 =>
  some ((v10, σ11)))
else
  if a1 = 2 then
  jbd (f_X12_lives 93 a0 σ3) (fun v14 σ15 =>
  if v14 = 0 then
  some (((0 : Int32), σ15))
else
  some (((1 : Int32), σ15)))
else
  if a1 = 3 then
  jbd (f_X12_swears 93 a0 σ3) (fun v18 σ19 =>
  some ((v18, σ19)))
else
  some (((-1000001 : Int32), σ3))
else
  some (((-1000001 : Int32), σ3))))
set_option maxRecDepth 100000 in
set_option maxHeartbeats 4000000 in
theorem c_X12_witness {l : Launch} {D : va_G} {ad : Nat → Nat} {cid : Nat → ClassId} {a0 : Int32} {a1 : Int32}  {σ : jMem} {r : Int32} {σ' : jMem} (h : f_X12_witness a0 a1 σ = some (r, σ')) : jMet l D ad cid yX12_witness cX12_witness 3 (some .int) 3 64 [.ref 89, .int a0, .int a1] σ (some (.int r)) σ' := by
  refine jMet_of (ls0 := [some (.ref 89), some (.int a0), some (.int a1)]) (by decide) (Nat.le_of_ble_eq_true rfl) rfl (fun K X R0 _ => ?_)
  unfold f_X12_witness at h
  refine j_aload_n X 0 dX12_witness_0 rfl rfl ?_
  refine j_iconst (v := 0) X dX12_witness_1 (by decide) ?_
  refine j_put X fp_RX12_47 ln_89 ly_89 rfl rfl rfl dX12_witness_2 h (fun σ1 h => ?_)
  refine j_aload_n X 0 dX12_witness_5 rfl rfl ?_
  refine j_iload_n X 1 dX12_witness_6 rfl rfl ?_
  obtain ⟨v2, σ3, hm4, h⟩ := jbd_some h
  refine j_callV (as := [.int a0]) (st := []) (st1 := [.int v2]) X ln_89 ly_89 rfl rfl sv_RX12_236 ⟨by decide, by decide⟩ rfl rfl (Nat.le_of_ble_eq_true rfl) rfl dX12_witness_7 jrv_i (c_X12_isWitness  hm4) rfl ?_
  refine j_if_ne (tgt := 16) X dX12_witness_10 (by decide) h (fun h => ?_) (fun h => ?_)
  · refine j_iload_n X 2 dX12_witness_16 rfl rfl ?_
    by_cases hs5 : a1 = 0
    · rw [if_pos hs5] at h
      refine j_tab (tgt := 48) X dX12_witness_17 0 hs5 (by decide) (by decide) rfl (by decide) ?_
      refine j_aload_n X 0 dX12_witness_48 rfl rfl ?_
      refine j_getR (t := 93) X fg_RX12_19 ln_89 ly_89 rfl dX12_witness_49 ?_
      refine j_iload_n X 1 dX12_witness_52 rfl rfl ?_
      refine j_iconst (v := 1) X dX12_witness_53 (by decide) ?_
      obtain ⟨v6, σ7, hm8, h⟩ := jbd_some h
      refine j_callS (as := [.ref 93, .int a0, .int (1 : Int32)]) (st := []) (st1 := [.int v6]) X ss_RX12_183 ⟨by decide, by decide⟩ rfl rfl (Nat.le_of_ble_eq_true rfl) rfl dX12_witness_54 jrv_i (c_X12_of ⟨ln_93, ly_93⟩ hm8) rfl ?_
      obtain ⟨rfl, rfl⟩ := jin2 h
      exact j_iret X R0 dX12_witness_57
    · rw [if_neg hs5] at h
      by_cases hs9 : a1 = 1
      · rw [if_pos hs9] at h
        refine j_tab (tgt := 58) X dX12_witness_17 1 hs9 (by decide) (by decide) rfl (by decide) ?_
        refine j_aload_n X 0 dX12_witness_58 rfl rfl ?_
        refine j_getR (t := 93) X fg_RX12_19 ln_89 ly_89 rfl dX12_witness_59 ?_
        refine j_iload_n X 1 dX12_witness_62 rfl rfl ?_
        refine j_iconst (v := 2) X dX12_witness_63 (by decide) ?_
        obtain ⟨v10, σ11, hm12, h⟩ := jbd_some h
        refine j_callS (as := [.ref 93, .int a0, .int (2 : Int32)]) (st := []) (st1 := [.int v10]) X ss_RX12_183 ⟨by decide, by decide⟩ rfl rfl (Nat.le_of_ble_eq_true rfl) rfl dX12_witness_64 jrv_i (c_X12_of ⟨ln_93, ly_93⟩ hm12) rfl ?_
        obtain ⟨rfl, rfl⟩ := jin2 h
        exact j_iret X R0 dX12_witness_67
      · rw [if_neg hs9] at h
        by_cases hs13 : a1 = 2
        · rw [if_pos hs13] at h
          refine j_tab (tgt := 68) X dX12_witness_17 2 hs13 (by decide) (by decide) rfl (by decide) ?_
          refine j_aload_n X 0 dX12_witness_68 rfl rfl ?_
          refine j_getR (t := 93) X fg_RX12_19 ln_89 ly_89 rfl dX12_witness_69 ?_
          refine j_iload_n X 1 dX12_witness_72 rfl rfl ?_
          obtain ⟨v14, σ15, hm16, h⟩ := jbd_some h
          refine j_callS (as := [.ref 93, .int a0]) (st := []) (st1 := [.int v14]) X ss_RX12_191 ⟨by decide, by decide⟩ rfl rfl (Nat.le_of_ble_eq_true rfl) rfl dX12_witness_73 jrv_i (c_X12_lives ⟨ln_93, ly_93⟩ hm16) rfl ?_
          refine j_if_eq (tgt := 83) X dX12_witness_76 (by decide) h (fun h => ?_) (fun h => ?_)
          · refine j_iconst (v := 0) X dX12_witness_83 (by decide) ?_
            obtain ⟨rfl, rfl⟩ := jin2 h
            exact j_iret X R0 dX12_witness_84
          · refine j_iconst (v := 1) X dX12_witness_79 (by decide) ?_
            refine j_goto (tgt := 84) X dX12_witness_80 (by decide) ?_
            obtain ⟨rfl, rfl⟩ := jin2 h
            exact j_iret X R0 dX12_witness_84
        · rw [if_neg hs13] at h
          by_cases hs17 : a1 = 3
          · rw [if_pos hs17] at h
            refine j_tab (tgt := 85) X dX12_witness_17 3 hs17 (by decide) (by decide) rfl (by decide) ?_
            refine j_aload_n X 0 dX12_witness_85 rfl rfl ?_
            refine j_getR (t := 93) X fg_RX12_19 ln_89 ly_89 rfl dX12_witness_86 ?_
            refine j_iload_n X 1 dX12_witness_89 rfl rfl ?_
            obtain ⟨v18, σ19, hm20, h⟩ := jbd_some h
            refine j_callS (as := [.ref 93, .int a0]) (st := []) (st1 := [.int v18]) X ss_RX12_195 ⟨by decide, by decide⟩ rfl rfl (Nat.le_of_ble_eq_true rfl) rfl dX12_witness_90 jrv_i (c_X12_swears ⟨ln_93, ly_93⟩ hm20) rfl ?_
            obtain ⟨rfl, rfl⟩ := jin2 h
            exact j_iret X R0 dX12_witness_93
          · rw [if_neg hs17] at h
            refine j_tabo (tgt := 94) X dX12_witness_17 (by have w0 := lv_neT (a := 0) hs5 (by decide); have w1 := lv_neT (a := 1) hs9 (by decide); have w2 := lv_neT (a := 2) hs13 (by decide); have w3 := lv_neT (a := 3) hs17 (by decide); omega) (by decide) ?_
            refine j_ldc (v := -1000001) X tw_948 dX12_witness_94 ?_
            obtain ⟨rfl, rfl⟩ := jin2 h
            exact j_iret X R0 dX12_witness_96
  · refine j_ldc (v := -1000001) X tw_948 dX12_witness_13 ?_
    obtain ⟨rfl, rfl⟩ := jin2 h
    exact j_iret X R0 dX12_witness_15
