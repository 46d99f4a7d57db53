theorem sv_RX12_289 : jSiV RX12 289 yX12_markOf cX12_markOf 4 (some .int) 1 := ⟨tw_1266, tw_1268, ts_53, tw_13, tw_1269, by decide, by decide, by decide +kernel⟩
def f_X12_sizeOf (a0 : Int32) (σ : jMem) : Option (Int32 × jMem) :=
  jbd (f_X12_of 93 a0 (0 : Int32) σ) (fun v1 σ2 =>
  if v1 < (4 : Int32) then
  jj (fun (q5 : Unit) σ6 =>
  jbv (f_X12_began (11 : Int32) σ6) (fun σ7 =>
  jbd (f_X12_plainSize a0 σ7) (fun v9 σ10 =>
  jbd (f_X12_markOf a0 σ10) (fun v12 σ13 =>
  jlet ((v9 + v12)) (fun v15 =>
  if ¬ v1 = (2 : Int32) then
  some ((v15, σ13))
else
  some (((-v15), σ13))))))) (fun k4 =>
  if ¬ v1 = (2 : Int32) then
  k4 () σ2
else
  jbv (f_X12_began (12 : Int32) σ2) (fun σ16 =>
  k4 () σ16))
else
  jbd (f_X12_strangerSize a0 σ2) (fun v18 σ19 =>
  some ((v18, σ19))))
set_option maxRecDepth 100000 in
set_option maxHeartbeats 4000000 in
theorem c_X12_sizeOf {l : Launch} {D : va_G} {ad : Nat → Nat} {cid : Nat → ClassId} {a0 : Int32}  {σ : jMem} {r : Int32} {σ' : jMem} (h : f_X12_sizeOf a0 σ = some (r, σ')) : jMet l D ad cid yX12_sizeOf cX12_sizeOf 4 (some .int) 6 131 [.ref 89, .int a0] σ (some (.int r)) σ' := by
  refine jMet_of (ls0 := [some (.ref 89), some (.int a0), none, none]) (by decide) (Nat.le_of_ble_eq_true rfl) rfl (fun K X R0 _ => ?_)
  unfold f_X12_sizeOf at h
  refine j_aload_n X 0 dX12_sizeOf_0 rfl rfl ?_
  refine j_getR (t := 93) X fg_RX12_19 ln_89 ly_89 rfl dX12_sizeOf_1 ?_
  refine j_iload_n X 1 dX12_sizeOf_4 rfl rfl ?_
  refine j_iconst (v := 0) X dX12_sizeOf_5 (by decide) ?_
  obtain ⟨v1, σ2, hm3, h⟩ := jbd_some h
  refine j_callS (as := [.ref 93, .int a0, .int (0 : Int32)]) (st := []) (st1 := [.int v1]) X ss_RX12_183 ⟨by decide, by decide⟩ rfl rfl (Nat.le_of_ble_eq_true rfl) rfl dX12_sizeOf_6 jrv_i (c_X12_of ⟨ln_93, ly_93⟩ hm3) rfl ?_
  refine j_istore_n (ls' := [some (.ref 89), some (.int a0), some (.int v1), none]) X 2 dX12_sizeOf_9 rfl (Nat.le_of_ble_eq_true rfl) rfl ?_
  refine j_iload_n X 2 dX12_sizeOf_10 rfl rfl ?_
  refine j_iconst (v := 4) X dX12_sizeOf_11 (by decide) ?_
  refine j_icmp_lt (tgt := 21) X dX12_sizeOf_12 (by decide) h (fun h => ?_) (fun h => ?_)
  · refine j_iload_n X 2 dX12_sizeOf_21 rfl rfl ?_
    refine j_iconst (v := 2) X dX12_sizeOf_22 (by decide) ?_
    refine j_join (pcJ := 32) (lsJ := fun q5 => [some (.ref 89), some (.int a0), some (.int v1), none]) (stJ := fun q5 => []) h (fun q5 σ6 h => ?_) (fun k4 hk4 h => ?_)
    · refine j_aload_n X 0 dX12_sizeOf_32 rfl rfl ?_
      refine j_bipush (v := 11) X dX12_sizeOf_33 (by decide) ?_
      obtain ⟨σ7, hm8, h⟩ := jbv_some h
      refine j_callV (as := [.int (11 : Int32)]) (st := []) (st1 := []) X ln_89 ly_89 rfl rfl sv_RX12_280 ⟨by decide, by decide⟩ rfl rfl (Nat.le_of_ble_eq_true rfl) rfl dX12_sizeOf_35 jrv_v (c_X12_began  hm8) rfl ?_
      refine j_aload_n X 0 dX12_sizeOf_38 rfl rfl ?_
      refine j_iload_n X 1 dX12_sizeOf_39 rfl rfl ?_
      obtain ⟨v9, σ10, hm11, h⟩ := jbd_some h
      refine j_callV (as := [.int a0]) (st := []) (st1 := [.int v9]) X ln_89 ly_89 rfl rfl sv_RX12_283 ⟨by decide, by decide⟩ rfl rfl (Nat.le_of_ble_eq_true rfl) rfl dX12_sizeOf_40 jrv_i (c_X12_plainSize  hm11) rfl ?_
      refine j_istore_n (ls' := [some (.ref 89), some (.int a0), some (.int v1), some (.int v9)]) X 3 dX12_sizeOf_43 rfl (Nat.le_of_ble_eq_true rfl) rfl ?_
      refine j_iload_n X 3 dX12_sizeOf_44 rfl rfl ?_
      refine j_aload_n X 0 dX12_sizeOf_45 rfl rfl ?_
      refine j_iload_n X 1 dX12_sizeOf_46 rfl rfl ?_
      obtain ⟨v12, σ13, hm14, h⟩ := jbd_some h
      refine j_callV (as := [.int a0]) (st := [.int v9]) (st1 := [.int v12, .int v9]) X ln_89 ly_89 rfl rfl sv_RX12_289 ⟨by decide, by decide⟩ rfl rfl (Nat.le_of_ble_eq_true rfl) rfl dX12_sizeOf_47 jrv_i (c_X12_markOf  hm14) rfl ?_
      refine j_iadd X dX12_sizeOf_50 ?_
      refine j_letI h (fun v15 h => ?_)
      refine j_istore_n (ls' := [some (.ref 89), some (.int a0), some (.int v1), some (.int v15)]) X 3 dX12_sizeOf_51 rfl (Nat.le_of_ble_eq_true rfl) rfl ?_
      refine j_iload_n X 2 dX12_sizeOf_52 rfl rfl ?_
      refine j_iconst (v := 2) X dX12_sizeOf_53 (by decide) ?_
      refine j_icmp_ne (tgt := 62) X dX12_sizeOf_54 (by decide) h (fun h => ?_) (fun h => ?_)
      · refine j_iload_n X 3 dX12_sizeOf_62 rfl rfl ?_
        obtain ⟨rfl, rfl⟩ := jin2 h
        exact j_iret X R0 dX12_sizeOf_63
      · refine j_iload_n X 3 dX12_sizeOf_57 rfl rfl ?_
        refine j_ineg X dX12_sizeOf_58 ?_
        refine j_goto (tgt := 63) X dX12_sizeOf_59 (by decide) ?_
        obtain ⟨rfl, rfl⟩ := jin2 h
        exact j_iret X R0 dX12_sizeOf_63
    · refine j_icmp_ne (tgt := 32) X dX12_sizeOf_23 (by decide) h (fun h => ?_) (fun h => ?_)
      · exact hk4 () σ2 h
      · refine j_aload_n X 0 dX12_sizeOf_26 rfl rfl ?_
        refine j_bipush (v := 12) X dX12_sizeOf_27 (by decide) ?_
        obtain ⟨σ16, hm17, h⟩ := jbv_some h
        refine j_callV (as := [.int (12 : Int32)]) (st := []) (st1 := []) X ln_89 ly_89 rfl rfl sv_RX12_280 ⟨by decide, by decide⟩ rfl rfl (Nat.le_of_ble_eq_true rfl) rfl dX12_sizeOf_29 jrv_v (c_X12_began  hm17) rfl ?_
        exact hk4 () σ16 h
  · refine j_aload_n X 0 dX12_sizeOf_15 rfl rfl ?_
    refine j_iload_n X 1 dX12_sizeOf_16 rfl rfl ?_
    obtain ⟨v18, σ19, hm20, h⟩ := jbd_some h
    refine j_callV (as := [.int a0]) (st := []) (st1 := [.int v18]) X ln_89 ly_89 rfl rfl sv_RX12_286 ⟨by decide, by decide⟩ rfl rfl (Nat.le_of_ble_eq_true rfl) rfl dX12_sizeOf_17 jrv_i (c_X12_strangerSize  hm20) rfl ?_
    obtain ⟨rfl, rfl⟩ := jin2 h
    exact j_iret X R0 dX12_sizeOf_20
theorem sv_RX12_292 : jSiV RX12 292 yX12_sizeOf cX12_sizeOf 4 (some .int) 1 := ⟨tw_1250, tw_1252, ts_49, tw_13, tw_1253, by decide, by decide, by decide +kernel⟩
def f_X12_ask (a0 : Int32) (a1 : Int32) (σ : jMem) : Option (Int32 × jMem) :=
  jlet (jset σ 89 0 (0 : Int32)) (fun σ1 =>
  jbd (f_X12_isWitness a0 σ1) (fun v2 σ3 =>
  if v2 = 0 then
  some (((-1000001 : Int32), σ3))
else
  jbd (f_X12_in ((a1).toInt64) (0 : Int64) (1 : Int64) σ3) (fun v5 σ6 =>
  if ¬ v5 = 0 then
  jlet (jset σ6 89 26 (0 : Int32)) (fun σ8 =>
  if ¬ a1 = 0 then
  jbd (f_X12_markOf a0 σ8) (fun v9 σ10 =>
  some ((v9, σ10)))
else
  jbd (f_X12_sizeOf a0 σ8) (fun v12 σ13 =>
  some ((v12, σ13))))
else
  some (((-1000001 : Int32), σ6)))))
set_option maxRecDepth 100000 in
set_option maxHeartbeats 4000000 in
theorem c_X12_ask {l : Launch} {D : va_G} {ad : Nat → Nat} {cid : Nat → ClassId} {a0 : Int32} {a1 : Int32}  {σ : jMem} {r : Int32} {σ' : jMem} (h : f_X12_ask a0 a1 σ = some (r, σ')) : jMet l D ad cid yX12_ask cX12_ask 3 (some .int) 7 154 [.ref 89, .int a0, .int a1] σ (some (.int r)) σ' := by
  refine jMet_of (ls0 := [some (.ref 89), some (.int a0), some (.int a1)]) (by decide) (Nat.le_of_ble_eq_true rfl) rfl (fun K X R0 _ => ?_)
  unfold f_X12_ask at h
  refine j_aload_n X 0 dX12_ask_0 rfl rfl ?_
  refine j_iconst (v := 0) X dX12_ask_1 (by decide) ?_
  refine j_put X fp_RX12_47 ln_89 ly_89 rfl rfl rfl dX12_ask_2 h (fun σ1 h => ?_)
  refine j_aload_n X 0 dX12_ask_5 rfl rfl ?_
  refine j_iload_n X 1 dX12_ask_6 rfl rfl ?_
  obtain ⟨v2, σ3, hm4, h⟩ := jbd_some h
  refine j_callV (as := [.int a0]) (st := []) (st1 := [.int v2]) X ln_89 ly_89 rfl rfl sv_RX12_236 ⟨by decide, by decide⟩ rfl rfl (Nat.le_of_ble_eq_true rfl) rfl dX12_ask_7 jrv_i (c_X12_isWitness  hm4) rfl ?_
  refine j_if_eq (tgt := 23) X dX12_ask_10 (by decide) h (fun h => ?_) (fun h => ?_)
  · refine j_ldc (v := -1000001) X tw_948 dX12_ask_23 ?_
    obtain ⟨rfl, rfl⟩ := jin2 h
    exact j_iret X R0 dX12_ask_25
  · refine j_iload_n X 2 dX12_ask_13 rfl rfl ?_
    refine j_i2l X dX12_ask_14 ?_
    refine j_lconst (v := 0) X dX12_ask_15 (by decide) ?_
    refine j_lconst (v := 1) X dX12_ask_16 (by decide) ?_
    obtain ⟨v5, σ6, hm7, h⟩ := jbd_some h
    refine j_callS (as := [.long ((a1).toInt64), .long (0 : Int64), .long (1 : Int64)]) (st := []) (st1 := [.int v5]) X ss_RX12_57 ⟨by decide, by decide⟩ rfl rfl (Nat.le_of_ble_eq_true rfl) rfl dX12_ask_17 jrv_i (c_X12_in  hm7) rfl ?_
    refine j_if_ne (tgt := 26) X dX12_ask_20 (by decide) h (fun h => ?_) (fun h => ?_)
    · refine j_aload_n X 0 dX12_ask_26 rfl rfl ?_
      refine j_iconst (v := 0) X dX12_ask_27 (by decide) ?_
      refine j_put X fp_RX12_277 ln_89 ly_89 rfl rfl rfl dX12_ask_28 h (fun σ8 h => ?_)
      refine j_iload_n X 2 dX12_ask_31 rfl rfl ?_
      refine j_if_ne (tgt := 43) X dX12_ask_32 (by decide) h (fun h => ?_) (fun h => ?_)
      · refine j_aload_n X 0 dX12_ask_43 rfl rfl ?_
        refine j_iload_n X 1 dX12_ask_44 rfl rfl ?_
        obtain ⟨v9, σ10, hm11, h⟩ := jbd_some h
        refine j_callV (as := [.int a0]) (st := []) (st1 := [.int v9]) X ln_89 ly_89 rfl rfl sv_RX12_289 ⟨by decide, by decide⟩ rfl rfl (Nat.le_of_ble_eq_true rfl) rfl dX12_ask_45 jrv_i (c_X12_markOf  hm11) rfl ?_
        obtain ⟨rfl, rfl⟩ := jin2 h
        exact j_iret X R0 dX12_ask_48
      · refine j_aload_n X 0 dX12_ask_35 rfl rfl ?_
        refine j_iload_n X 1 dX12_ask_36 rfl rfl ?_
        obtain ⟨v12, σ13, hm14, h⟩ := jbd_some h
        refine j_callV (as := [.int a0]) (st := []) (st1 := [.int v12]) X ln_89 ly_89 rfl rfl sv_RX12_292 ⟨by decide, by decide⟩ rfl rfl (Nat.le_of_ble_eq_true rfl) rfl dX12_ask_37 jrv_i (c_X12_sizeOf  hm14) rfl ?_
        refine j_goto (tgt := 48) X dX12_ask_40 (by decide) ?_
        obtain ⟨rfl, rfl⟩ := jin2 h
        exact j_iret X R0 dX12_ask_48
    · refine j_ldc (v := -1000001) X tw_948 dX12_ask_23 ?_
      obtain ⟨rfl, rfl⟩ := jin2 h
      exact j_iret X R0 dX12_ask_25
def f_X12_trace (a0 : Int32) (σ : jMem) : Option (Int32 × jMem) :=
  jlet (jset σ 89 0 (0 : Int32)) (fun σ1 =>
  jbd (f_X12_in ((a0).toInt64) (0 : Int64) ((((σ1.1 89 26) - (1 : Int32))).toInt64) σ1) (fun v2 σ3 =>
  if v2 = 0 then
  some (((-1000000 : Int32), σ3))
else
  jld σ3 101 16 a0 (fun v5 =>
  some ((v5, σ3)))))
set_option maxRecDepth 100000 in
set_option maxHeartbeats 4000000 in
theorem c_X12_trace {l : Launch} {D : va_G} {ad : Nat → Nat} {cid : Nat → ClassId} {a0 : Int32}  {σ : jMem} {r : Int32} {σ' : jMem} (h : f_X12_trace a0 σ = some (r, σ')) : jMet l D ad cid yX12_trace cX12_trace 2 (some .int) 1 25 [.ref 89, .int a0] σ (some (.int r)) σ' := by
  refine jMet_of (ls0 := [some (.ref 89), some (.int a0)]) (by decide) (Nat.le_of_ble_eq_true rfl) rfl (fun K X R0 _ => ?_)
  unfold f_X12_trace at h
  refine j_aload_n X 0 dX12_trace_0 rfl rfl ?_
  refine j_iconst (v := 0) X dX12_trace_1 (by decide) ?_
  refine j_put X fp_RX12_47 ln_89 ly_89 rfl rfl rfl dX12_trace_2 h (fun σ1 h => ?_)
  refine j_iload_n X 1 dX12_trace_5 rfl rfl ?_
  refine j_i2l X dX12_trace_6 ?_
  refine j_lconst (v := 0) X dX12_trace_7 (by decide) ?_
  refine j_aload_n X 0 dX12_trace_8 rfl rfl ?_
  refine j_getI X fg_RX12_277 ln_89 ly_89 rfl dX12_trace_9 ?_
  refine j_iconst (v := 1) X dX12_trace_12 (by decide) ?_
  refine j_isub X dX12_trace_13 ?_
  refine j_i2l X dX12_trace_14 ?_
  obtain ⟨v2, σ3, hm4, h⟩ := jbd_some h
  refine j_callS (as := [.long ((a0).toInt64), .long (0 : Int64), .long ((((σ1.1 89 26) - (1 : Int32))).toInt64)]) (st := []) (st1 := [.int v2]) X ss_RX12_57 ⟨by decide, by decide⟩ rfl rfl (Nat.le_of_ble_eq_true rfl) rfl dX12_trace_15 jrv_i (c_X12_in  hm4) rfl ?_
  refine j_if_eq (tgt := 30) X dX12_trace_18 (by decide) h (fun h => ?_) (fun h => ?_)
  · refine j_ldc (v := -1000000) X tw_988 dX12_trace_30 ?_
    obtain ⟨rfl, rfl⟩ := jin2 h
    exact j_iret X R0 dX12_trace_32
  · refine j_aload_n X 0 dX12_trace_21 rfl rfl ?_
    refine j_getR (t := 101) X fg_RX12_44 ln_89 ly_89 rfl dX12_trace_22 ?_
    refine j_iload_n X 1 dX12_trace_25 rfl rfl ?_
    refine j_iaload X ln_101 ly_101 dX12_trace_26 h (fun v5 h => ?_)
    refine j_goto (tgt := 32) X dX12_trace_27 (by decide) ?_
    obtain ⟨rfl, rfl⟩ := jin2 h
    exact j_iret X R0 dX12_trace_32
