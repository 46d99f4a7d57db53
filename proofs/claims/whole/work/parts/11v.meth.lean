def f_X11_image (a0 : Int32) (σ : jMem) : Option (Int32 × jMem) :=
  if a0 < 0 then
  some (((-1000001 : Int32), σ))
else
  if a0 < (2 : Int32) then
  if ¬ (σ.1 22 1) = 0 then
  jldr 2 38 8 a0 (fun k1 =>
  jbv (f_X5_become k1 22 σ) (fun σ2 =>
  some (((1 : Int32), σ2))))
else
  some (((-1000002 : Int32), σ))
else
  some (((-1000001 : Int32), σ))
set_option maxRecDepth 100000 in
set_option maxHeartbeats 4000000 in
theorem c_X11_image {l : Launch} {D : va_G} {ad : Nat → Nat} {cid : Nat → ClassId} {a0 : Int32}  {σ : jMem} {r : Int32} {σ' : jMem} (h : f_X11_image a0 σ = some (r, σ')) : jMet l D ad cid yX11_image cX11_image 2 (some .int) 2 57 [.ref 0, .int a0] σ (some (.int r)) σ' := by
  refine jMet_of (ls0 := [some (.ref 0), some (.int a0)]) (by decide) (Nat.le_of_ble_eq_true rfl) rfl (fun K X R0 _ => ?_)
  unfold f_X11_image at h
  refine j_iload_n X 1 dX11_image_0 rfl rfl ?_
  refine j_if_lt (tgt := 9) X dX11_image_1 (by decide) h (fun h => ?_) (fun h => ?_)
  · refine j_ldc (v := -1000001) X tw_318 dX11_image_9 ?_
    obtain ⟨rfl, rfl⟩ := jin2 h
    exact j_iret X R0 dX11_image_11
  · refine j_iload_n X 1 dX11_image_4 rfl rfl ?_
    refine j_iconst (v := 2) X dX11_image_5 (by decide) ?_
    refine j_icmp_lt (tgt := 12) X dX11_image_6 (by decide) h (fun h => ?_) (fun h => ?_)
    · refine j_aload_n X 0 dX11_image_12 rfl rfl ?_
      refine j_getR (t := 22) X fg_RX11_50 ln_0 ly_0 rfl dX11_image_13 ?_
      refine j_getI X fg_RX11_170 ln_22 ly_22 rfl dX11_image_16 ?_
      refine j_if_ne (tgt := 25) X dX11_image_19 (by decide) h (fun h => ?_) (fun h => ?_)
      · refine j_aload_n X 0 dX11_image_25 rfl rfl ?_
        refine j_getR (t := 54) X fg_RX11_57 ln_0 ly_0 rfl dX11_image_26 ?_
        refine j_iload_n X 1 dX11_image_29 rfl rfl ?_
        refine j_aaload X ln_54 ly_54 (Or.inr (Or.inl rfl)) dX11_image_30 h (fun k1 qk1 h => ?_)
        have hk1 := jrow2 qk1
        refine j_aload_n X 0 dX11_image_31 rfl rfl ?_
        refine j_getR (t := 22) X fg_RX11_50 ln_0 ly_0 rfl dX11_image_32 ?_
        obtain ⟨σ2, hm3, h⟩ := jbv_some h
        refine j_callV (as := [.ref 22]) (st := []) (st1 := []) X (jp_lt hk1) (jp_ly hk1) rfl rfl sv_RX11_146 ⟨by decide, by decide⟩ rfl rfl (Nat.le_of_ble_eq_true rfl) rfl dX11_image_35 jrv_v (c_X5_become hk1 jisP_22 hm3) rfl ?_
        refine j_iconst (v := 1) X dX11_image_38 (by decide) ?_
        obtain ⟨rfl, rfl⟩ := jin2 h
        exact j_iret X R0 dX11_image_39
      · refine j_ldc (v := -1000002) X tw_458 dX11_image_22 ?_
        obtain ⟨rfl, rfl⟩ := jin2 h
        exact j_iret X R0 dX11_image_24
    · refine j_ldc (v := -1000001) X tw_318 dX11_image_9 ?_
      obtain ⟨rfl, rfl⟩ := jin2 h
      exact j_iret X R0 dX11_image_11
def f_X11_restore (a0 : Int32) (σ : jMem) : Option (Int32 × jMem) :=
  if a0 < 0 then
  some (((-1000001 : Int32), σ))
else
  if a0 < (2 : Int32) then
  jldr 2 38 8 a0 (fun k1 =>
  if ¬ (σ.1 k1 1) = 0 then
  jldr 2 38 8 a0 (fun k2 =>
  jbv (f_X5_become 22 k2 σ) (fun σ3 =>
  jbv (f_X11_forgetActs  σ3) (fun σ5 =>
  some (((1 : Int32), σ5)))))
else
  some (((-1000002 : Int32), σ)))
else
  some (((-1000001 : Int32), σ))
set_option maxRecDepth 100000 in
set_option maxHeartbeats 4000000 in
theorem c_X11_restore {l : Launch} {D : va_G} {ad : Nat → Nat} {cid : Nat → ClassId} {a0 : Int32}  {σ : jMem} {r : Int32} {σ' : jMem} (h : f_X11_restore a0 σ = some (r, σ')) : jMet l D ad cid yX11_restore cX11_restore 2 (some .int) 2 57 [.ref 0, .int a0] σ (some (.int r)) σ' := by
  refine jMet_of (ls0 := [some (.ref 0), some (.int a0)]) (by decide) (Nat.le_of_ble_eq_true rfl) rfl (fun K X R0 _ => ?_)
  unfold f_X11_restore at h
  refine j_iload_n X 1 dX11_restore_0 rfl rfl ?_
  refine j_if_lt (tgt := 9) X dX11_restore_1 (by decide) h (fun h => ?_) (fun h => ?_)
  · refine j_ldc (v := -1000001) X tw_318 dX11_restore_9 ?_
    obtain ⟨rfl, rfl⟩ := jin2 h
    exact j_iret X R0 dX11_restore_11
  · refine j_iload_n X 1 dX11_restore_4 rfl rfl ?_
    refine j_iconst (v := 2) X dX11_restore_5 (by decide) ?_
    refine j_icmp_lt (tgt := 12) X dX11_restore_6 (by decide) h (fun h => ?_) (fun h => ?_)
    · refine j_aload_n X 0 dX11_restore_12 rfl rfl ?_
      refine j_getR (t := 54) X fg_RX11_57 ln_0 ly_0 rfl dX11_restore_13 ?_
      refine j_iload_n X 1 dX11_restore_16 rfl rfl ?_
      refine j_aaload X ln_54 ly_54 (Or.inr (Or.inl rfl)) dX11_restore_17 h (fun k1 qk1 h => ?_)
      have hk1 := jrow2 qk1
      refine j_getI X fg_RX11_170 (jp_lt hk1) (jp_ly hk1) rfl dX11_restore_18 ?_
      refine j_if_ne (tgt := 27) X dX11_restore_21 (by decide) h (fun h => ?_) (fun h => ?_)
      · refine j_aload_n X 0 dX11_restore_27 rfl rfl ?_
        refine j_getR (t := 22) X fg_RX11_50 ln_0 ly_0 rfl dX11_restore_28 ?_
        refine j_aload_n X 0 dX11_restore_31 rfl rfl ?_
        refine j_getR (t := 54) X fg_RX11_57 ln_0 ly_0 rfl dX11_restore_32 ?_
        refine j_iload_n X 1 dX11_restore_35 rfl rfl ?_
        refine j_aaload X ln_54 ly_54 (Or.inr (Or.inl rfl)) dX11_restore_36 h (fun k2 qk2 h => ?_)
        have hk2 := jrow2 qk2
        obtain ⟨σ3, hm4, h⟩ := jbv_some h
        refine j_callV (as := [.ref k2]) (st := []) (st1 := []) X ln_22 ly_22 rfl rfl sv_RX11_146 ⟨by decide, by decide⟩ rfl rfl (Nat.le_of_ble_eq_true rfl) rfl dX11_restore_37 jrv_v (c_X5_become jisP_22 hk2 hm4) rfl ?_
        refine j_aload_n X 0 dX11_restore_40 rfl rfl ?_
        obtain ⟨σ5, hm6, h⟩ := jbv_some h
        refine j_callV (as := []) (st := []) (st1 := []) X ln_0 ly_0 rfl rfl sv_RX11_150 ⟨by decide, by decide⟩ rfl rfl (Nat.le_of_ble_eq_true rfl) rfl dX11_restore_41 jrv_v (c_X11_forgetActs  hm6) rfl ?_
        refine j_iconst (v := 1) X dX11_restore_44 (by decide) ?_
        obtain ⟨rfl, rfl⟩ := jin2 h
        exact j_iret X R0 dX11_restore_45
      · refine j_ldc (v := -1000002) X tw_458 dX11_restore_24 ?_
        obtain ⟨rfl, rfl⟩ := jin2 h
        exact j_iret X R0 dX11_restore_26
    · refine j_ldc (v := -1000001) X tw_318 dX11_restore_9 ?_
      obtain ⟨rfl, rfl⟩ := jin2 h
      exact j_iret X R0 dX11_restore_11
def f_X11_kind (a0 : Int32) (σ : jMem) : Option (Int32 × jMem) :=
  jbd (f_X5_hasWitness 22 a0 σ) (fun v1 σ2 =>
  if v1 = 0 then
  some (((-1000001 : Int32), σ2))
else
  jld σ2 26 6 a0 (fun v4 =>
  some ((v4, σ2))))
set_option maxRecDepth 100000 in
set_option maxHeartbeats 4000000 in
theorem c_X11_kind {l : Launch} {D : va_G} {ad : Nat → Nat} {cid : Nat → ClassId} {a0 : Int32}  {σ : jMem} {r : Int32} {σ' : jMem} (h : f_X11_kind a0 σ = some (r, σ')) : jMet l D ad cid yX11_kind cX11_kind 2 (some .int) 1 21 [.ref 0, .int a0] σ (some (.int r)) σ' := by
  refine jMet_of (ls0 := [some (.ref 0), some (.int a0)]) (by decide) (Nat.le_of_ble_eq_true rfl) rfl (fun K X R0 _ => ?_)
  unfold f_X11_kind at h
  refine j_aload_n X 0 dX11_kind_0 rfl rfl ?_
  refine j_getR (t := 22) X fg_RX11_50 ln_0 ly_0 rfl dX11_kind_1 ?_
  refine j_iload_n X 1 dX11_kind_4 rfl rfl ?_
  obtain ⟨v1, σ2, hm3, h⟩ := jbd_some h
  refine j_callV (as := [.int a0]) (st := []) (st1 := [.int v1]) X ln_22 ly_22 rfl rfl sv_RX11_214 ⟨by decide, by decide⟩ rfl rfl (Nat.le_of_ble_eq_true rfl) rfl dX11_kind_5 jrv_i (c_X5_hasWitness jisP_22 hm3) rfl ?_
  refine j_if_eq (tgt := 23) X dX11_kind_8 (by decide) h (fun h => ?_) (fun h => ?_)
  · refine j_ldc (v := -1000001) X tw_318 dX11_kind_23 ?_
    obtain ⟨rfl, rfl⟩ := jin2 h
    exact j_iret X R0 dX11_kind_25
  · refine j_aload_n X 0 dX11_kind_11 rfl rfl ?_
    refine j_getR (t := 22) X fg_RX11_50 ln_0 ly_0 rfl dX11_kind_12 ?_
    refine j_getR (t := 26) X fg_RX11_313 ln_22 ly_22 rfl dX11_kind_15 ?_
    refine j_iload_n X 1 dX11_kind_18 rfl rfl ?_
    refine j_iaload X ln_26 ly_26 dX11_kind_19 h (fun v4 h => ?_)
    refine j_goto (tgt := 25) X dX11_kind_20 (by decide) ?_
    obtain ⟨rfl, rfl⟩ := jin2 h
    exact j_iret X R0 dX11_kind_25
def f_X11_isOfKind (a0 : Nat) (a1 : Int32) (σ : jMem) : Option (Int32 × jMem) :=
  if a1 = 0 then
  some (((1 : Int32), σ))
else
  if a1 = 1 then
  jck (jisb (jio_30 a0) = true) (some (((jio_30 a0), σ)))
else
  if a1 = 2 then
  jck (jisb (jio_33 a0) = true) (some (((jio_33 a0), σ)))
else
  if a1 = 3 then
  jck (jisb (jio_36 a0) = true) (some (((jio_36 a0), σ)))
else
  if a1 = 4 then
  jck (jisb (jio_39 a0) = true) (some (((jio_39 a0), σ)))
else
  if a1 = 5 then
  jck (jisb (jio_42 a0) = true) (some (((jio_42 a0), σ)))
else
  some (((0 : Int32), σ))
set_option maxRecDepth 100000 in
set_option maxHeartbeats 4000000 in
theorem c_X11_isOfKind {l : Launch} {D : va_G} {ad : Nat → Nat} {cid : Nat → ClassId} {a0 : Nat} {a1 : Int32} (ha0 : 16 ≤ a0 ∧ a0 ≤ 21) {σ : jMem} {r : Int32} {σ' : jMem} (h : f_X11_isOfKind a0 a1 σ = some (r, σ')) : jMet l D ad cid yX11_isOfKind cX11_isOfKind 2 (some .boolean) 0 0 [.ref a0, .int a1] σ (some (.int r)) σ' := by
  refine jMet_of (ls0 := [some (.ref a0), some (.int a1)]) (by decide) (Nat.le_of_ble_eq_true rfl) rfl (fun K X R0 _ => ?_)
  unfold f_X11_isOfKind at h
  refine j_iload_n X 1 dX11_isOfKind_0 rfl rfl ?_
  by_cases hs1 : a1 = 0
  · rw [if_pos hs1] at h
    refine j_tab (tgt := 40) X dX11_isOfKind_1 0 hs1 (by decide) (by decide) rfl (by decide) ?_
    refine j_iconst (v := 1) X dX11_isOfKind_40 (by decide) ?_
    obtain ⟨rfl, rfl⟩ := jin2 h
    exact j_zret X R0 rfl dX11_isOfKind_41
  · rw [if_neg hs1] at h
    by_cases hs2 : a1 = 1
    · rw [if_pos hs2] at h
      refine j_tab (tgt := 42) X dX11_isOfKind_1 1 hs2 (by decide) (by decide) rfl (by decide) ?_
      refine j_aload_n X 0 dX11_isOfKind_42 rfl rfl ?_
      refine ji_RX11_30 X ha0 dX11_isOfKind_43 ?_
      obtain ⟨hc3, h⟩ := jck_some h
      obtain ⟨rfl, rfl⟩ := jin2 h
      exact j_zret X R0 hc3 dX11_isOfKind_46
    · rw [if_neg hs2] at h
      by_cases hs4 : a1 = 2
      · rw [if_pos hs4] at h
        refine j_tab (tgt := 47) X dX11_isOfKind_1 2 hs4 (by decide) (by decide) rfl (by decide) ?_
        refine j_aload_n X 0 dX11_isOfKind_47 rfl rfl ?_
        refine ji_RX11_33 X ha0 dX11_isOfKind_48 ?_
        obtain ⟨hc5, h⟩ := jck_some h
        obtain ⟨rfl, rfl⟩ := jin2 h
        exact j_zret X R0 hc5 dX11_isOfKind_51
      · rw [if_neg hs4] at h
        by_cases hs6 : a1 = 3
        · rw [if_pos hs6] at h
          refine j_tab (tgt := 52) X dX11_isOfKind_1 3 hs6 (by decide) (by decide) rfl (by decide) ?_
          refine j_aload_n X 0 dX11_isOfKind_52 rfl rfl ?_
          refine ji_RX11_36 X ha0 dX11_isOfKind_53 ?_
          obtain ⟨hc7, h⟩ := jck_some h
          obtain ⟨rfl, rfl⟩ := jin2 h
          exact j_zret X R0 hc7 dX11_isOfKind_56
        · rw [if_neg hs6] at h
          by_cases hs8 : a1 = 4
          · rw [if_pos hs8] at h
            refine j_tab (tgt := 57) X dX11_isOfKind_1 4 hs8 (by decide) (by decide) rfl (by decide) ?_
            refine j_aload_n X 0 dX11_isOfKind_57 rfl rfl ?_
            refine ji_RX11_39 X ha0 dX11_isOfKind_58 ?_
            obtain ⟨hc9, h⟩ := jck_some h
            obtain ⟨rfl, rfl⟩ := jin2 h
            exact j_zret X R0 hc9 dX11_isOfKind_61
          · rw [if_neg hs8] at h
            by_cases hs10 : a1 = 5
            · rw [if_pos hs10] at h
              refine j_tab (tgt := 62) X dX11_isOfKind_1 5 hs10 (by decide) (by decide) rfl (by decide) ?_
              refine j_aload_n X 0 dX11_isOfKind_62 rfl rfl ?_
              refine ji_RX11_42 X ha0 dX11_isOfKind_63 ?_
              obtain ⟨hc11, h⟩ := jck_some h
              obtain ⟨rfl, rfl⟩ := jin2 h
              exact j_zret X R0 hc11 dX11_isOfKind_66
            · rw [if_neg hs10] at h
              refine j_tabo (tgt := 67) X dX11_isOfKind_1 (by have w0 := lv_neT (a := 0) hs1 (by decide); have w1 := lv_neT (a := 1) hs2 (by decide); have w2 := lv_neT (a := 2) hs4 (by decide); have w3 := lv_neT (a := 3) hs6 (by decide); have w4 := lv_neT (a := 4) hs8 (by decide); have w5 := lv_neT (a := 5) hs10 (by decide); omega) (by decide) ?_
              refine j_iconst (v := 0) X dX11_isOfKind_67 (by decide) ?_
              obtain ⟨rfl, rfl⟩ := jin2 h
              exact j_zret X R0 rfl dX11_isOfKind_68
