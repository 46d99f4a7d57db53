theorem sv_RX11_166 : jSiV RX11 166 yX5_load cX5_load 2 none 1 := ⟨tw_459, tw_460, tw_461, tw_10, tw_462, by decide, by decide, by decide +kernel⟩
def f_X11_undo  (σ : jMem) : Option (Int32 × jMem) :=
  if ¬ (σ.1 0 7) = 0 then
  jlet (jset σ 0 8 ((((σ.1 0 8) + (24 : Int32)) - (1 : Int32)) - (((σ.1 0 8) + (24 : Int32)) - (1 : Int32)) / (24 : Int32) * (24 : Int32))) (fun σ1 =>
  jlet (jset σ1 0 7 ((σ1.1 0 7) - (1 : Int32))) (fun σ2 =>
  jldr 24 56 1 (σ2.1 0 8) (fun k3 =>
  jbv (f_X5_load 22 k3 σ2) (fun σ4 =>
  some (((σ4.1 0 7), σ4))))))
else
  some (((-1000002 : Int32), σ))
set_option maxRecDepth 100000 in
set_option maxHeartbeats 4000000 in
theorem c_X11_undo {l : Launch} {D : va_G} {ad : Nat → Nat} {cid : Nat → ClassId}   {σ : jMem} {r : Int32} {σ' : jMem} (h : f_X11_undo  σ = some (r, σ')) : jMet l D ad cid yX11_undo cX11_undo 1 (some .int) 2 57 [.ref 0] σ (some (.int r)) σ' := by
  refine jMet_of (ls0 := [some (.ref 0)]) (by decide) (Nat.le_of_ble_eq_true rfl) rfl (fun K X R0 _ => ?_)
  unfold f_X11_undo at h
  refine j_aload_n X 0 dX11_undo_0 rfl rfl ?_
  refine j_getI X fg_RX11_159 ln_0 ly_0 rfl dX11_undo_1 ?_
  refine j_if_ne (tgt := 10) X dX11_undo_4 (by decide) h (fun h => ?_) (fun h => ?_)
  · refine j_aload_n X 0 dX11_undo_10 rfl rfl ?_
    refine j_aload_n X 0 dX11_undo_11 rfl rfl ?_
    refine j_getI X fg_RX11_163 ln_0 ly_0 rfl dX11_undo_12 ?_
    refine j_bipush (v := 24) X dX11_undo_15 (by decide) ?_
    refine j_iadd X dX11_undo_17 ?_
    refine j_iconst (v := 1) X dX11_undo_18 (by decide) ?_
    refine j_isub X dX11_undo_19 ?_
    refine j_bipush (v := 24) X dX11_undo_20 (by decide) ?_
    refine j_irem X dX11_undo_22 (by decide) ?_
    refine j_put X fp_RX11_163 ln_0 ly_0 rfl rfl rfl dX11_undo_23 h (fun σ1 h => ?_)
    refine j_aload_n X 0 dX11_undo_26 rfl rfl ?_
    refine j_dup X dX11_undo_27 rfl ?_
    refine j_getI X fg_RX11_159 ln_0 ly_0 rfl dX11_undo_28 ?_
    refine j_iconst (v := 1) X dX11_undo_31 (by decide) ?_
    refine j_isub X dX11_undo_32 ?_
    refine j_put X fp_RX11_159 ln_0 ly_0 rfl rfl rfl dX11_undo_33 h (fun σ2 h => ?_)
    refine j_aload_n X 0 dX11_undo_36 rfl rfl ?_
    refine j_getR (t := 22) X fg_RX11_50 ln_0 ly_0 rfl dX11_undo_37 ?_
    refine j_aload_n X 0 dX11_undo_40 rfl rfl ?_
    refine j_getR (t := 55) X fg_RX11_63 ln_0 ly_0 rfl dX11_undo_41 ?_
    refine j_aload_n X 0 dX11_undo_44 rfl rfl ?_
    refine j_getI X fg_RX11_163 ln_0 ly_0 rfl dX11_undo_45 ?_
    refine j_aaload X ln_55 ly_55 (Or.inr (Or.inr rfl)) dX11_undo_48 h (fun k3 qk3 h => ?_)
    have hk3 := jrow24 qk3
    obtain ⟨σ4, hm5, h⟩ := jbv_some h
    refine j_callV (as := [.ref k3]) (st := []) (st1 := []) X ln_22 ly_22 rfl rfl sv_RX11_166 ⟨by decide, by decide⟩ rfl rfl (Nat.le_of_ble_eq_true rfl) rfl dX11_undo_49 jrv_v (c_X5_load jisP_22 ⟨hk3.1, hk3.2⟩ hm5) rfl ?_
    refine j_aload_n X 0 dX11_undo_52 rfl rfl ?_
    refine j_getI X fg_RX11_159 ln_0 ly_0 rfl dX11_undo_53 ?_
    obtain ⟨rfl, rfl⟩ := jin2 h
    exact j_iret X R0 dX11_undo_56
  · refine j_ldc (v := -1000002) X tw_458 dX11_undo_7 ?_
    obtain ⟨rfl, rfl⟩ := jin2 h
    exact j_iret X R0 dX11_undo_9
def f_X10_span (w : Nat) (a0 : Int32) (σ : jMem) : Option (Int32 × jMem) :=
  some ((a0, σ))
set_option maxRecDepth 100000 in
set_option maxHeartbeats 4000000 in
theorem c_X10_span {l : Launch} {D : va_G} {ad : Nat → Nat} {cid : Nat → ClassId} {w : Nat} {a0 : Int32} (hw : 16 ≤ w ∧ w ≤ 21) {σ : jMem} {r : Int32} {σ' : jMem} (h : f_X10_span w a0 σ = some (r, σ')) : jMet l D ad cid yX10_span cX10_span 2 (some .int) 0 0 [.ref w, .int a0] σ (some (.int r)) σ' := by
  refine jMet_of (ls0 := [some (.ref w), some (.int a0)]) (by decide) (Nat.le_of_ble_eq_true rfl) rfl (fun K X R0 _ => ?_)
  unfold f_X10_span at h
  refine j_iload_n X 1 dX10_span_0 rfl rfl ?_
  obtain ⟨rfl, rfl⟩ := jin2 h
  exact j_iret X R0 dX10_span_1
def f_X1_span (w : Nat) (a0 : Int32) (σ : jMem) : Option (Int32 × jMem) :=
  some (((a0 + (9 : Int32)), σ))
set_option maxRecDepth 100000 in
set_option maxHeartbeats 4000000 in
theorem c_X1_span {l : Launch} {D : va_G} {ad : Nat → Nat} {cid : Nat → ClassId} {w : Nat} {a0 : Int32} (hw : 18 ≤ w ∧ w ≤ 18) {σ : jMem} {r : Int32} {σ' : jMem} (h : f_X1_span w a0 σ = some (r, σ')) : jMet l D ad cid yX1_span cX1_span 2 (some .int) 0 0 [.ref w, .int a0] σ (some (.int r)) σ' := by
  refine jMet_of (ls0 := [some (.ref w), some (.int a0)]) (by decide) (Nat.le_of_ble_eq_true rfl) rfl (fun K X R0 _ => ?_)
  unfold f_X1_span at h
  refine j_iload_n X 1 dX1_span_0 rfl rfl ?_
  refine j_bipush (v := 9) X dX1_span_1 (by decide) ?_
  refine j_iadd X dX1_span_3 ?_
  obtain ⟨rfl, rfl⟩ := jin2 h
  exact j_iret X R0 dX1_span_4
def vf_X10_span (w : Nat) (a0 : Int32) (σ : jMem) : Option (Int32 × jMem) :=
  if w = 16 then f_X10_span 16 a0 σ else
  if w = 17 then f_X10_span 17 a0 σ else
  if w = 18 then f_X1_span 18 a0 σ else
  if w = 19 then f_X10_span 19 a0 σ else
  if w = 20 then f_X10_span 20 a0 σ else
  if w = 21 then f_X10_span 21 a0 σ else
  none
theorem su_RX5_74_16 : jSiU RX5 74 RX10 yX10_span yX10_span cX10_span 2 (some .int) 1 := ⟨tw_525, tw_528, tw_526, ⟨_, _, _, tw_536⟩, tw_527, tw_526, tw_4, tw_536, by decide, by decide, by decide +kernel⟩
theorem su_RX5_74_17 : jSiU RX5 74 RX4 yX10_span yX10_span cX10_span 2 (some .int) 1 := ⟨tw_525, tw_528, tw_526, ⟨_, _, _, tw_536⟩, tw_533, tw_526, tw_4, tw_536, by decide, by decide, by decide +kernel⟩
theorem su_RX5_74_18 : jSiU RX5 74 RX1 yX10_span yX1_span cX1_span 2 (some .int) 1 := ⟨tw_525, tw_528, tw_526, ⟨_, _, _, tw_536⟩, tw_529, tw_530, tw_6, tw_531, by decide, by decide, by decide +kernel⟩
theorem su_RX5_74_19 : jSiU RX5 74 RX3 yX10_span yX10_span cX10_span 2 (some .int) 1 := ⟨tw_525, tw_528, tw_526, ⟨_, _, _, tw_536⟩, tw_532, tw_526, tw_4, tw_536, by decide, by decide, by decide +kernel⟩
theorem su_RX5_74_20 : jSiU RX5 74 RX8 yX10_span yX10_span cX10_span 2 (some .int) 1 := ⟨tw_525, tw_528, tw_526, ⟨_, _, _, tw_536⟩, tw_535, tw_526, tw_4, tw_536, by decide, by decide, by decide +kernel⟩
theorem su_RX5_74_21 : jSiU RX5 74 RX7 yX10_span yX10_span cX10_span 2 (some .int) 1 := ⟨tw_525, tw_528, tw_526, ⟨_, _, _, tw_536⟩, tw_534, tw_526, tw_4, tw_536, by decide, by decide, by decide +kernel⟩
set_option maxRecDepth 100000 in
theorem vs_X5_isAlive_21 {K : jK} (X : JX K cX5_isAlive 2 RX5 1 21) {w : Nat} (hw : 16 ≤ w ∧ w ≤ 21) {a0 : Int32}  {ls : List (Option Value)} {st : List Value} {σ σ' : jMem} {v : Int32} (hnl : ls.length = 2) (h8 : (st.map fun v => v.category).sum ≤ 8) (hm : vf_X10_span w a0 σ = some (v, σ')) (kk : J K (21 + 3) ls (.int v :: st) σ') : J K 21 ls (.int a0 :: .ref w :: st) σ := by
  rcases (show w = 16 ∨ w = 17 ∨ w = 18 ∨ w = 19 ∨ w = 20 ∨ w = 21 by omega) with rfl | rfl | rfl | rfl | rfl | rfl
  · exact j_callU (as := [.int a0]) (st := st) (st1 := .int v :: st) X ln_16 ly_16 rfl su_RX5_74_16 ⟨by decide, by decide⟩ rfl rfl h8 hnl dX5_isAlive_21 jrv_i (c_X10_span (by decide)  hm) rfl kk
  · exact j_callU (as := [.int a0]) (st := st) (st1 := .int v :: st) X ln_17 ly_17 rfl su_RX5_74_17 ⟨by decide, by decide⟩ rfl rfl h8 hnl dX5_isAlive_21 jrv_i (c_X10_span (by decide)  hm) rfl kk
  · exact j_callU (as := [.int a0]) (st := st) (st1 := .int v :: st) X ln_18 ly_18 rfl su_RX5_74_18 ⟨by decide, by decide⟩ rfl rfl h8 hnl dX5_isAlive_21 jrv_i (c_X1_span (by decide)  hm) rfl kk
  · exact j_callU (as := [.int a0]) (st := st) (st1 := .int v :: st) X ln_19 ly_19 rfl su_RX5_74_19 ⟨by decide, by decide⟩ rfl rfl h8 hnl dX5_isAlive_21 jrv_i (c_X10_span (by decide)  hm) rfl kk
  · exact j_callU (as := [.int a0]) (st := st) (st1 := .int v :: st) X ln_20 ly_20 rfl su_RX5_74_20 ⟨by decide, by decide⟩ rfl rfl h8 hnl dX5_isAlive_21 jrv_i (c_X10_span (by decide)  hm) rfl kk
  · exact j_callU (as := [.int a0]) (st := st) (st1 := .int v :: st) X ln_21 ly_21 rfl su_RX5_74_21 ⟨by decide, by decide⟩ rfl rfl h8 hnl dX5_isAlive_21 jrv_i (c_X10_span (by decide)  hm) rfl kk
def f_X5_isAlive (k : Nat) (a0 : Int32) (σ : jMem) : Option (Int32 × jMem) :=
  jld σ (k + 6) 6 a0 (fun v1 =>
  jld σ (k + 4) 6 a0 (fun v2 =>
  jldr 6 16 1 v2 (fun k3 =>
  jbd (vf_X10_span k3 (σ.1 k 3) σ) (fun v4 σ5 =>
  if v4 < v1 then
  some (((0 : Int32), σ5))
else
  some (((1 : Int32), σ5))))))
set_option maxRecDepth 100000 in
set_option maxHeartbeats 4000000 in
theorem c_X5_isAlive {l : Launch} {D : va_G} {ad : Nat → Nat} {cid : Nat → ClassId} {k : Nat} {a0 : Int32} (hk : jisP k) {σ : jMem} {r : Int32} {σ' : jMem} (h : f_X5_isAlive k a0 σ = some (r, σ')) : jMet l D ad cid yX5_isAlive cX5_isAlive 2 (some .boolean) 1 21 [.ref k, .int a0] σ (some (.int r)) σ' := by
  refine jMet_of (ls0 := [some (.ref k), some (.int a0)]) (by decide) (Nat.le_of_ble_eq_true rfl) rfl (fun K X R0 _ => ?_)
  unfold f_X5_isAlive at h
  refine j_aload_n X 0 dX5_isAlive_0 rfl rfl ?_
  refine j_getR (t := (k + 6)) X fg_RX5_31 (jp_lt hk) (jp_ly hk) rfl dX5_isAlive_1 ?_
  refine j_iload_n X 1 dX5_isAlive_4 rfl rfl ?_
  refine j_iaload X (jp_lt6 hk) (jp_ly6 hk) dX5_isAlive_5 h (fun v1 h => ?_)
  refine j_aload_n X 0 dX5_isAlive_6 rfl rfl ?_
  refine j_getR (t := 15) X fg_RX5_9 (jp_lt hk) (jp_ly hk) rfl dX5_isAlive_7 ?_
  refine j_aload_n X 0 dX5_isAlive_10 rfl rfl ?_
  refine j_getR (t := (k + 4)) X fg_RX5_25 (jp_lt hk) (jp_ly hk) rfl dX5_isAlive_11 ?_
  refine j_iload_n X 1 dX5_isAlive_14 rfl rfl ?_
  refine j_iaload X (jp_lt4 hk) (jp_ly4 hk) dX5_isAlive_15 h (fun v2 h => ?_)
  refine j_aaload X ln_15 ly_15 (Or.inl rfl) dX5_isAlive_16 h (fun k3 qk3 h => ?_)
  have hk3 := jrow6 qk3
  refine j_aload_n X 0 dX5_isAlive_17 rfl rfl ?_
  refine j_getI X fg_RX5_57 (jp_lt hk) (jp_ly hk) rfl dX5_isAlive_18 ?_
  obtain ⟨v4, σ5, hm6, h⟩ := jbd_some h
  refine vs_X5_isAlive_21 (st := [.int v1]) X hk3  rfl (Nat.le_of_ble_eq_true rfl) hm6 ?_
  refine j_icmp_gt (tgt := 31) X dX5_isAlive_24 (by decide) h (fun h => ?_) (fun h => ?_)
  · refine j_iconst (v := 0) X dX5_isAlive_31 (by decide) ?_
    obtain ⟨rfl, rfl⟩ := jin2 h
    exact j_zret X R0 rfl dX5_isAlive_32
  · refine j_iconst (v := 1) X dX5_isAlive_27 (by decide) ?_
    refine j_goto (tgt := 32) X dX5_isAlive_28 (by decide) ?_
    obtain ⟨rfl, rfl⟩ := jin2 h
    exact j_zret X R0 rfl dX5_isAlive_32
theorem sv_RX5_79 : jSiV RX5 79 yX5_isAlive cX5_isAlive 2 (some .boolean) 1 := ⟨tw_521, tw_522, tw_523, tw_10, tw_524, by decide, by decide, by decide +kernel⟩
def f_X5_swears (k : Nat) (a0 : Int32) (σ : jMem) : Option (Int32 × jMem) :=
  jbd (f_X5_isAlive k a0 σ) (fun v1 σ2 =>
  if v1 = 0 then
  some (((0 : Int32), σ2))
else
  jld σ2 (k + 7) 6 a0 (fun v4 =>
  some ((v4, σ2))))
set_option maxRecDepth 100000 in
set_option maxHeartbeats 4000000 in
theorem c_X5_swears {l : Launch} {D : va_G} {ad : Nat → Nat} {cid : Nat → ClassId} {k : Nat} {a0 : Int32} (hk : jisP k) {σ : jMem} {r : Int32} {σ' : jMem} (h : f_X5_swears k a0 σ = some (r, σ')) : jMet l D ad cid yX5_swears cX5_swears 2 (some .int) 2 42 [.ref k, .int a0] σ (some (.int r)) σ' := by
  refine jMet_of (ls0 := [some (.ref k), some (.int a0)]) (by decide) (Nat.le_of_ble_eq_true rfl) rfl (fun K X R0 _ => ?_)
  unfold f_X5_swears at h
  refine j_aload_n X 0 dX5_swears_0 rfl rfl ?_
  refine j_iload_n X 1 dX5_swears_1 rfl rfl ?_
  obtain ⟨v1, σ2, hm3, h⟩ := jbd_some h
  refine j_callV (as := [.int a0]) (st := []) (st1 := [.int v1]) X (jp_lt hk) (jp_ly hk) rfl rfl sv_RX5_79 ⟨by decide, by decide⟩ rfl rfl (Nat.le_of_ble_eq_true rfl) rfl dX5_swears_2 jrv_i (c_X5_isAlive hk hm3) rfl ?_
  refine j_if_eq (tgt := 17) X dX5_swears_5 (by decide) h (fun h => ?_) (fun h => ?_)
  · refine j_iconst (v := 0) X dX5_swears_17 (by decide) ?_
    obtain ⟨rfl, rfl⟩ := jin2 h
    exact j_iret X R0 dX5_swears_18
  · refine j_aload_n X 0 dX5_swears_8 rfl rfl ?_
    refine j_getR (t := (k + 7)) X fg_RX5_34 (jp_lt hk) (jp_ly hk) rfl dX5_swears_9 ?_
    refine j_iload_n X 1 dX5_swears_12 rfl rfl ?_
    refine j_iaload X (jp_lt7 hk) (jp_ly7 hk) dX5_swears_13 h (fun v4 h => ?_)
    refine j_goto (tgt := 18) X dX5_swears_14 (by decide) ?_
    obtain ⟨rfl, rfl⟩ := jin2 h
    exact j_iret X R0 dX5_swears_18
def f_X11_bitOf (a0 : Int32) (a1 : Int32) (σ : jMem) : Option (Int32 × jMem) :=
  some ((((a0 >>> (a1 &&& 31)) &&& (1 : Int32)), σ))
set_option maxRecDepth 100000 in
set_option maxHeartbeats 4000000 in
theorem c_X11_bitOf {l : Launch} {D : va_G} {ad : Nat → Nat} {cid : Nat → ClassId} {a0 : Int32} {a1 : Int32}  {σ : jMem} {r : Int32} {σ' : jMem} (h : f_X11_bitOf a0 a1 σ = some (r, σ')) : jMet l D ad cid yX11_bitOf cX11_bitOf 2 (some .int) 0 0 [.int a0, .int a1] σ (some (.int r)) σ' := by
  refine jMet_of (ls0 := [some (.int a0), some (.int a1)]) (by decide) (Nat.le_of_ble_eq_true rfl) rfl (fun K X R0 _ => ?_)
  unfold f_X11_bitOf at h
  refine j_iload_n X 0 dX11_bitOf_0 rfl rfl ?_
  refine j_iload_n X 1 dX11_bitOf_1 rfl rfl ?_
  refine j_ishr X dX11_bitOf_2 ?_
  refine j_iconst (v := 1) X dX11_bitOf_3 (by decide) ?_
  refine j_iand X dX11_bitOf_4 ?_
  obtain ⟨rfl, rfl⟩ := jin2 h
  exact j_iret X R0 dX11_bitOf_5
theorem sn_RX5_86 : jSiN RX5 86 yX11_bitOf RX11 cX11_bitOf 2 (some .int) 2 := ⟨by decide +kernel, tw_491, tw_1, tw_492, by decide, by decide, by decide +kernel⟩
theorem sv_RX5_83 : jSiV RX5 83 yX5_swears cX5_swears 2 (some .int) 1 := ⟨tw_570, tw_571, tw_572, tw_10, tw_573, by decide, by decide, by decide +kernel⟩
def X5_sworn_L4_b (p0 : Nat) (p1 : Int32) (rec : Int32 × Int32 → jMem → Option ((Int32) × jMem)) (x2 : Int32) (x3 : Int32) (σ : jMem) : Option ((Int32) × jMem) :=
  if (σ.1 p0 6) ≤ x3 then
  some (x2, σ)
else
  jbd (f_X11_bitOf p1 x3 σ) (fun v1 σ2 =>
  if ¬ v1 = (1 : Int32) then
  rec (x2, (x3 + 1)) σ2
else
  jbd (f_X5_swears p0 x3 σ2) (fun v4 σ5 =>
  jlet ((x2 ||| v4)) (fun v7 =>
  rec (v7, (x3 + 1)) σ5)))
def X5_sworn_L4 (p0 : Nat) (p1 : Int32) : Nat → Int32 × Int32 → jMem → Option ((Int32) × jMem) := jloop (fun rec s σ => X5_sworn_L4_b p0 p1 rec s.1 s.2 σ)
set_option maxRecDepth 100000 in
set_option maxHeartbeats 4000000 in
theorem X5_sworn_L4_bok {K : jK} (X : JX K cX5_sworn 4 RX5 3 63) {p0 : Nat} {p1 : Int32} (hp0 : jisP p0) {rec : Int32 × Int32 → jMem → Option ((Int32) × jMem)} (ih : ∀ (s : Int32 × Int32) (σ : jMem) (o : (Int32) × jMem), rec s σ = some o → (J K 35 [none, none, some (.int o.1), none] [] o.2) → J K 4 [some (.ref p0), some (.int p1), some (.int s.1), some (.int s.2)] [] σ) : ∀ (x2 : Int32) (x3 : Int32) (σ : jMem) (o : (Int32) × jMem), X5_sworn_L4_b p0 p1 rec x2 x3 σ = some o → (J K 35 [none, none, some (.int o.1), none] [] o.2) → J K 4 [some (.ref p0), some (.int p1), some (.int x2), some (.int x3)] [] σ := by
  intro x2 x3 σ o h kk
  unfold X5_sworn_L4_b at h
  refine j_iload_n X 3 dX5_sworn_4 rfl rfl ?_
  refine j_aload_n X 0 dX5_sworn_5 rfl rfl ?_
  refine j_getI X fg_RX5_44 (jp_lt hp0) (jp_ly hp0) rfl dX5_sworn_6 ?_
  refine j_icmp_ge (tgt := 35) X dX5_sworn_9 (by decide) h (fun h => ?_) (fun h => ?_)
  · obtain rfl := Option.some.inj h
    exact j_sub (ls' := [none, none, some (.int x2), none]) ⟨Or.inl rfl, Or.inl rfl, Or.inr rfl, Or.inl rfl, trivial⟩ kk
  · refine j_iload_n X 1 dX5_sworn_12 rfl rfl ?_
    refine j_iload_n X 3 dX5_sworn_13 rfl rfl ?_
    obtain ⟨v1, σ2, hm3, h⟩ := jbd_some h
    refine j_callN (as := [.int p1, .int x3]) (st := []) (st1 := [.int v1]) X sn_RX5_86 ⟨by decide, by decide⟩ rfl rfl (Nat.le_of_ble_eq_true rfl) rfl dX5_sworn_14 jrv_i (c_X11_bitOf  hm3) rfl ?_
    refine j_iconst (v := 1) X dX5_sworn_17 (by decide) ?_
    refine j_icmp_ne (tgt := 29) X dX5_sworn_18 (by decide) h (fun h => ?_) (fun h => ?_)
    · refine j_iinc (v := (x3 + 1)) (ls' := [some (.ref p0), some (.int p1), some (.int x2), some (.int (x3 + 1))]) X dX5_sworn_29 rfl rfl (Nat.le_of_ble_eq_true rfl) rfl ?_
      refine j_goto (tgt := 4) X dX5_sworn_32 (by decide) ?_
      exact ih (x2, (x3 + 1)) σ2 _ h kk
    · refine j_iload_n X 2 dX5_sworn_21 rfl rfl ?_
      refine j_aload_n X 0 dX5_sworn_22 rfl rfl ?_
      refine j_iload_n X 3 dX5_sworn_23 rfl rfl ?_
      obtain ⟨v4, σ5, hm6, h⟩ := jbd_some h
      refine j_callV (as := [.int x3]) (st := [.int x2]) (st1 := [.int v4, .int x2]) X (jp_lt hp0) (jp_ly hp0) rfl rfl sv_RX5_83 ⟨by decide, by decide⟩ rfl rfl (Nat.le_of_ble_eq_true rfl) rfl dX5_sworn_24 jrv_i (c_X5_swears hp0 hm6) rfl ?_
      refine j_ior X dX5_sworn_27 ?_
      refine j_letI h (fun v7 h => ?_)
      refine j_istore_n (ls' := [some (.ref p0), some (.int p1), some (.int v7), some (.int x3)]) X 2 dX5_sworn_28 rfl (Nat.le_of_ble_eq_true rfl) rfl ?_
      refine j_iinc (v := (x3 + 1)) (ls' := [some (.ref p0), some (.int p1), some (.int v7), some (.int (x3 + 1))]) X dX5_sworn_29 rfl rfl (Nat.le_of_ble_eq_true rfl) rfl ?_
      refine j_goto (tgt := 4) X dX5_sworn_32 (by decide) ?_
      exact ih (v7, (x3 + 1)) σ5 _ h kk
theorem X5_sworn_L4_ok {K : jK} (X : JX K cX5_sworn 4 RX5 3 63) {p0 : Nat} {p1 : Int32} (hp0 : jisP p0) : ∀ (n : Nat) (s : Int32 × Int32) (σ : jMem) (o : (Int32) × jMem), X5_sworn_L4 p0 p1 n s σ = some o → (J K 35 [none, none, some (.int o.1), none] [] o.2) → J K 4 [some (.ref p0), some (.int p1), some (.int s.1), some (.int s.2)] [] σ := by
  intro n
  induction n with
  | zero => intro s σ o h; cases h
  | succ n ih => intro s σ o h; exact X5_sworn_L4_bok X hp0 ih (s.1) (s.2) σ o h
def f_X5_sworn (k : Nat) (a0 : Int32) (σ : jMem) : Option (Int32 × jMem) :=
  jbd (X5_sworn_L4 (k) (a0) jFU ((0 : Int32), (0 : Int32)) σ) (fun q8 σ9 =>
  some ((q8, σ9)))
set_option maxRecDepth 100000 in
set_option maxHeartbeats 4000000 in
theorem c_X5_sworn {l : Launch} {D : va_G} {ad : Nat → Nat} {cid : Nat → ClassId} {k : Nat} {a0 : Int32} (hk : jisP k) {σ : jMem} {r : Int32} {σ' : jMem} (h : f_X5_sworn k a0 σ = some (r, σ')) : jMet l D ad cid yX5_sworn cX5_sworn 4 (some .int) 3 63 [.ref k, .int a0] σ (some (.int r)) σ' := by
  refine jMet_of (ls0 := [some (.ref k), some (.int a0), none, none]) (by decide) (Nat.le_of_ble_eq_true rfl) rfl (fun K X R0 _ => ?_)
  unfold f_X5_sworn at h
  refine j_iconst (v := 0) X dX5_sworn_0 (by decide) ?_
  refine j_istore_n (ls' := [some (.ref k), some (.int a0), some (.int (0 : Int32)), none]) X 2 dX5_sworn_1 rfl (Nat.le_of_ble_eq_true rfl) rfl ?_
  refine j_iconst (v := 0) X dX5_sworn_2 (by decide) ?_
  refine j_istore_n (ls' := [some (.ref k), some (.int a0), some (.int (0 : Int32)), some (.int (0 : Int32))]) X 3 dX5_sworn_3 rfl (Nat.le_of_ble_eq_true rfl) rfl ?_
  obtain ⟨q8, σ9, hL10, h⟩ := jbd_some h
  refine X5_sworn_L4_ok X hk jFU ((0 : Int32), (0 : Int32)) σ _ hL10 ?_
  refine j_iload_n X 2 dX5_sworn_35 rfl rfl ?_
  obtain ⟨rfl, rfl⟩ := jin2 h
  exact j_iret X R0 dX5_sworn_36
theorem sv_RX5_90 : jSiV RX5 90 yX5_sworn cX5_sworn 4 (some .int) 1 := ⟨tw_565, tw_566, tw_567, tw_10, tw_568, by decide, by decide, by decide +kernel⟩
def f_X5_ways (k : Nat) (σ : jMem) : Option (Int32 × jMem) :=
  jbd (f_X5_sworn k (((1 : Int32) <<< ((σ.1 k 6) &&& 31)) - (1 : Int32)) σ) (fun v1 σ2 =>
  some ((v1, σ2)))
set_option maxRecDepth 100000 in
set_option maxHeartbeats 4000000 in
theorem c_X5_ways {l : Launch} {D : va_G} {ad : Nat → Nat} {cid : Nat → ClassId} {k : Nat} (hk : jisP k) {σ : jMem} {r : Int32} {σ' : jMem} (h : f_X5_ways k σ = some (r, σ')) : jMet l D ad cid yX5_ways cX5_ways 1 (some .int) 4 86 [.ref k] σ (some (.int r)) σ' := by
  refine jMet_of (ls0 := [some (.ref k)]) (by decide) (Nat.le_of_ble_eq_true rfl) rfl (fun K X R0 _ => ?_)
  unfold f_X5_ways at h
  refine j_aload_n X 0 dX5_ways_0 rfl rfl ?_
  refine j_iconst (v := 1) X dX5_ways_1 (by decide) ?_
  refine j_aload_n X 0 dX5_ways_2 rfl rfl ?_
  refine j_getI X fg_RX5_44 (jp_lt hk) (jp_ly hk) rfl dX5_ways_3 ?_
  refine j_ishl X dX5_ways_6 ?_
  refine j_iconst (v := 1) X dX5_ways_7 (by decide) ?_
  refine j_isub X dX5_ways_8 ?_
  obtain ⟨v1, σ2, hm3, h⟩ := jbd_some h
  refine j_callV (as := [.int (((1 : Int32) <<< ((σ.1 k 6) &&& 31)) - (1 : Int32))]) (st := []) (st1 := [.int v1]) X (jp_lt hk) (jp_ly hk) rfl rfl sv_RX5_90 ⟨by decide, by decide⟩ rfl rfl (Nat.le_of_ble_eq_true rfl) rfl dX5_ways_9 jrv_i (c_X5_sworn hk hm3) rfl ?_
  obtain ⟨rfl, rfl⟩ := jin2 h
  exact j_iret X R0 dX5_ways_12
def f_X10_sees (w : Nat) (a0 : Nat) (a1 : Int32) (σ : jMem) : Option (Int32 × jMem) :=
  some (((0 : Int32), σ))
set_option maxRecDepth 100000 in
set_option maxHeartbeats 4000000 in
theorem c_X10_sees {l : Launch} {D : va_G} {ad : Nat → Nat} {cid : Nat → ClassId} {w : Nat} {a0 : Nat} {a1 : Int32} (hw : 16 ≤ w ∧ w ≤ 21) (ha0 : jisP a0) {σ : jMem} {r : Int32} {σ' : jMem} (h : f_X10_sees w a0 a1 σ = some (r, σ')) : jMet l D ad cid yX10_sees cX10_sees 4 (some .int) 0 0 [.ref w, .ref a0, .int a1, .ref 80] σ (some (.int r)) σ' := by
  refine jMet_of (ls0 := [some (.ref w), some (.ref a0), some (.int a1), some (.ref 80)]) (by decide) (Nat.le_of_ble_eq_true rfl) rfl (fun K X R0 _ => ?_)
  unfold f_X10_sees at h
  refine j_iconst (v := 0) X dX10_sees_0 (by decide) ?_
  obtain ⟨rfl, rfl⟩ := jin2 h
  exact j_iret X R0 dX10_sees_1
theorem sv_RX4_13 : jSiV RX4 13 yX5_pathsAt cX5_pathsAt 4 (some .int) 1 := ⟨tw_547, tw_422, tw_423, tw_10, tw_424, by decide, by decide, by decide +kernel⟩
def f_X4_sees (w : Nat) (a0 : Nat) (a1 : Int32) (σ : jMem) : Option (Int32 × jMem) :=
  jbd (f_X5_pathsAt a0 a1 σ) (fun v1 σ2 =>
  some ((((σ.1 80 1) &&& v1), σ2)))
set_option maxRecDepth 100000 in
set_option maxHeartbeats 4000000 in
theorem c_X4_sees {l : Launch} {D : va_G} {ad : Nat → Nat} {cid : Nat → ClassId} {w : Nat} {a0 : Nat} {a1 : Int32} (hw : 17 ≤ w ∧ w ≤ 19) (ha0 : jisP a0) {σ : jMem} {r : Int32} {σ' : jMem} (h : f_X4_sees w a0 a1 σ = some (r, σ')) : jMet l D ad cid yX4_sees cX4_sees 4 (some .int) 1 23 [.ref w, .ref a0, .int a1, .ref 80] σ (some (.int r)) σ' := by
  refine jMet_of (ls0 := [some (.ref w), some (.ref a0), some (.int a1), some (.ref 80)]) (by decide) (Nat.le_of_ble_eq_true rfl) rfl (fun K X R0 _ => ?_)
  unfold f_X4_sees at h
  refine j_aload_n X 3 dX4_sees_0 rfl rfl ?_
  refine j_getI X fg_RX4_7 ln_80 ly_80 rfl dX4_sees_1 ?_
  refine j_aload_n X 1 dX4_sees_4 rfl rfl ?_
  refine j_iload_n X 2 dX4_sees_5 rfl rfl ?_
  obtain ⟨v1, σ2, hm3, h⟩ := jbd_some h
  refine j_callV (as := [.int a1]) (st := [.int (σ.1 80 1)]) (st1 := [.int v1, .int (σ.1 80 1)]) X (jp_lt ha0) (jp_ly ha0) rfl rfl sv_RX4_13 ⟨by decide, by decide⟩ rfl rfl (Nat.le_of_ble_eq_true rfl) rfl dX4_sees_6 jrv_i (c_X5_pathsAt ha0 hm3) rfl ?_
  refine j_iand X dX4_sees_9 ?_
  obtain ⟨rfl, rfl⟩ := jin2 h
  exact j_iret X R0 dX4_sees_10
theorem sp_RX1_7 : jSiP RX1 7 yX4_sees cX4_sees 4 (some .int) 3 := ⟨tw_544, tw_1282, tw_102, tw_545, tw_5, tw_546, by decide, by decide +kernel⟩
def f_X1_sees (w : Nat) (a0 : Nat) (a1 : Int32) (σ : jMem) : Option (Int32 × jMem) :=
  jbd (f_X4_sees w a0 a1 σ) (fun v1 σ2 =>
  jj (fun (q5 : Int32) σ6 =>
  if q5 = 0 then
  some (((0 : Int32), σ6))
else
  some (((σ6.1 80 1), σ6))) (fun k4 =>
  jj (fun (q8 : Unit) σ9 =>
  k4 (1 : Int32) σ9) (fun k7 =>
  if ¬ v1 = 0 then
  k7 () σ2
else
  if ¬ a1 = (σ2.1 a0 2) then
  k4 (0 : Int32) σ2
else
  k7 () σ2)))
set_option maxRecDepth 100000 in
set_option maxHeartbeats 4000000 in
theorem c_X1_sees {l : Launch} {D : va_G} {ad : Nat → Nat} {cid : Nat → ClassId} {w : Nat} {a0 : Nat} {a1 : Int32} (hw : 18 ≤ w ∧ w ≤ 18) (ha0 : jisP a0) {σ : jMem} {r : Int32} {σ' : jMem} (h : f_X1_sees w a0 a1 σ = some (r, σ')) : jMet l D ad cid yX1_sees cX1_sees 5 (some .int) 2 46 [.ref w, .ref a0, .int a1, .ref 80] σ (some (.int r)) σ' := by
  refine jMet_of (ls0 := [some (.ref w), some (.ref a0), some (.int a1), some (.ref 80), none]) (by decide) (Nat.le_of_ble_eq_true rfl) rfl (fun K X R0 _ => ?_)
  unfold f_X1_sees at h
  refine j_aload_n X 0 dX1_sees_0 rfl rfl ?_
  refine j_aload_n X 1 dX1_sees_1 rfl rfl ?_
  refine j_iload_n X 2 dX1_sees_2 rfl rfl ?_
  refine j_aload_n X 3 dX1_sees_3 rfl rfl ?_
  obtain ⟨v1, σ2, hm3, h⟩ := jbd_some h
  obtain ⟨z10i, z10q, z101, z102⟩ := jw_cls (by omega : 16 ≤ w ∧ w ≤ 21)
  refine j_callP (as := [.ref a0, .int a1, .ref 80]) (st := []) (st1 := [.int v1]) X (jw_lt hw) z101 z102 sp_RX1_7 ⟨by decide, by decide⟩ rfl rfl (Nat.le_of_ble_eq_true rfl) rfl dX1_sees_4 jrv_i (c_X4_sees (by omega : 17 ≤ w ∧ w ≤ 19) ha0 hm3) rfl ?_
  refine j_join (pcJ := 23) (lsJ := fun q5 => [none, none, none, some (.ref 80), none]) (stJ := fun q5 => [.int q5]) h (fun q5 σ6 h => ?_) (fun k4 hk4 h => ?_)
  · refine j_istore (ls' := [none, none, none, some (.ref 80), some (.int q5)]) X dX1_sees_23 (Nat.le_of_ble_eq_true rfl) rfl ?_
    refine j_iload X dX1_sees_25 rfl ?_
    refine j_if_eq (tgt := 37) X dX1_sees_27 (by decide) h (fun h => ?_) (fun h => ?_)
    · refine j_iconst (v := 0) X dX1_sees_37 (by decide) ?_
      obtain ⟨rfl, rfl⟩ := jin2 h
      exact j_iret X R0 dX1_sees_38
    · refine j_aload_n X 3 dX1_sees_30 rfl rfl ?_
      refine j_getI X fg_RX1_17 ln_80 ly_80 rfl dX1_sees_31 ?_
      refine j_goto (tgt := 38) X dX1_sees_34 (by decide) ?_
      obtain ⟨rfl, rfl⟩ := jin2 h
      exact j_iret X R0 dX1_sees_38
  · refine j_join (pcJ := 18) (lsJ := fun q8 => [none, none, none, some (.ref 80), none]) (stJ := fun q8 => []) h (fun q8 σ9 h => ?_) (fun k7 hk7 h => ?_)
    · refine j_iconst (v := 1) X dX1_sees_18 (by decide) ?_
      refine j_goto (tgt := 23) X dX1_sees_19 (by decide) ?_
      exact hk4 (1 : Int32) σ9 h
    · refine j_if_ne (tgt := 18) X dX1_sees_7 (by decide) h (fun h => ?_) (fun h => ?_)
      · exact j_sub (ls' := [none, none, none, some (.ref 80), none]) ⟨Or.inl rfl, Or.inl rfl, Or.inl rfl, Or.inr rfl, Or.inl rfl, trivial⟩ (hk7 () σ2 h)
      · refine j_iload_n X 2 dX1_sees_10 rfl rfl ?_
        refine j_aload_n X 1 dX1_sees_11 rfl rfl ?_
        refine j_getI X fg_RX1_11 (jp_lt ha0) (jp_ly ha0) rfl dX1_sees_12 ?_
        refine j_icmp_ne (tgt := 22) X dX1_sees_15 (by decide) h (fun h => ?_) (fun h => ?_)
        · refine j_iconst (v := 0) X dX1_sees_22 (by decide) ?_
          exact j_sub (ls' := [none, none, none, some (.ref 80), none]) ⟨Or.inl rfl, Or.inl rfl, Or.inl rfl, Or.inr rfl, Or.inl rfl, trivial⟩ (hk4 (0 : Int32) σ2 h)
        · exact j_sub (ls' := [none, none, none, some (.ref 80), none]) ⟨Or.inl rfl, Or.inl rfl, Or.inl rfl, Or.inr rfl, Or.inl rfl, trivial⟩ (hk7 () σ2 h)
theorem sp_RX3_17 : jSiP RX3 17 yX4_sees cX4_sees 4 (some .int) 3 := ⟨tw_552, tw_1282, tw_109, tw_545, tw_5, tw_546, by decide, by decide +kernel⟩
theorem sv_RX3_7 : jSiV RX3 7 yX5_pathsAt cX5_pathsAt 4 (some .int) 1 := ⟨tw_551, tw_422, tw_423, tw_10, tw_424, by decide, by decide, by decide +kernel⟩
def f_X3_sees (w : Nat) (a0 : Nat) (a1 : Int32) (σ : jMem) : Option (Int32 × jMem) :=
  jbd (f_X5_pathsAt a0 a1 σ) (fun v1 σ2 =>
  jj (fun (q5 : Int32) σ6 =>
  if q5 = 0 then
  jbd (f_X4_sees w a0 a1 σ6) (fun v7 σ8 =>
  some ((v7, σ8)))
else
  some (((0 : Int32), σ6))) (fun k4 =>
  if (v1 &&& (σ2.1 a0 7)) = 0 then
  k4 (0 : Int32) σ2
else
  k4 (1 : Int32) σ2))
set_option maxRecDepth 100000 in
set_option maxHeartbeats 4000000 in
theorem c_X3_sees {l : Launch} {D : va_G} {ad : Nat → Nat} {cid : Nat → ClassId} {w : Nat} {a0 : Nat} {a1 : Int32} (hw : 19 ≤ w ∧ w ≤ 19) (ha0 : jisP a0) {σ : jMem} {r : Int32} {σ' : jMem} (h : f_X3_sees w a0 a1 σ = some (r, σ')) : jMet l D ad cid yX3_sees cX3_sees 5 (some .int) 2 46 [.ref w, .ref a0, .int a1, .ref 80] σ (some (.int r)) σ' := by
  refine jMet_of (ls0 := [some (.ref w), some (.ref a0), some (.int a1), some (.ref 80), none]) (by decide) (Nat.le_of_ble_eq_true rfl) rfl (fun K X R0 _ => ?_)
  unfold f_X3_sees at h
  refine j_aload_n X 1 dX3_sees_0 rfl rfl ?_
  refine j_iload_n X 2 dX3_sees_1 rfl rfl ?_
  obtain ⟨v1, σ2, hm3, h⟩ := jbd_some h
  refine j_callV (as := [.int a1]) (st := []) (st1 := [.int v1]) X (jp_lt ha0) (jp_ly ha0) rfl rfl sv_RX3_7 ⟨by decide, by decide⟩ rfl rfl (Nat.le_of_ble_eq_true rfl) rfl dX3_sees_2 jrv_i (c_X5_pathsAt ha0 hm3) rfl ?_
  refine j_aload_n X 1 dX3_sees_5 rfl rfl ?_
  refine j_getI X fg_RX3_13 (jp_lt ha0) (jp_ly ha0) rfl dX3_sees_6 ?_
  refine j_iand X dX3_sees_9 ?_
  refine j_join (pcJ := 18) (lsJ := fun q5 => [some (.ref w), some (.ref a0), some (.int a1), some (.ref 80), none]) (stJ := fun q5 => [.int q5]) h (fun q5 σ6 h => ?_) (fun k4 hk4 h => ?_)
  · refine j_istore (ls' := [some (.ref w), some (.ref a0), some (.int a1), some (.ref 80), some (.int q5)]) X dX3_sees_18 (Nat.le_of_ble_eq_true rfl) rfl ?_
    refine j_iload X dX3_sees_20 rfl ?_
    refine j_if_eq (tgt := 29) X dX3_sees_22 (by decide) h (fun h => ?_) (fun h => ?_)
    · refine j_aload_n X 0 dX3_sees_29 rfl rfl ?_
      refine j_aload_n X 1 dX3_sees_30 rfl rfl ?_
      refine j_iload_n X 2 dX3_sees_31 rfl rfl ?_
      refine j_aload_n X 3 dX3_sees_32 rfl rfl ?_
      obtain ⟨v7, σ8, hm9, h⟩ := jbd_some h
      obtain ⟨z10i, z10q, z101, z102⟩ := jw_cls (by omega : 16 ≤ w ∧ w ≤ 21)
      refine j_callP (as := [.ref a0, .int a1, .ref 80]) (st := []) (st1 := [.int v7]) X (jw_lt hw) z101 z102 sp_RX3_17 ⟨by decide, by decide⟩ rfl rfl (Nat.le_of_ble_eq_true rfl) rfl dX3_sees_33 jrv_i (c_X4_sees (by omega : 17 ≤ w ∧ w ≤ 19) ha0 hm9) rfl ?_
      obtain ⟨rfl, rfl⟩ := jin2 h
      exact j_iret X R0 dX3_sees_36
    · refine j_iconst (v := 0) X dX3_sees_25 (by decide) ?_
      refine j_goto (tgt := 36) X dX3_sees_26 (by decide) ?_
      obtain ⟨rfl, rfl⟩ := jin2 h
      exact j_iret X R0 dX3_sees_36
  · refine j_if_eq (tgt := 17) X dX3_sees_10 (by decide) h (fun h => ?_) (fun h => ?_)
    · refine j_iconst (v := 0) X dX3_sees_17 (by decide) ?_
      exact hk4 (0 : Int32) σ2 h
    · refine j_iconst (v := 1) X dX3_sees_13 (by decide) ?_
      refine j_goto (tgt := 18) X dX3_sees_14 (by decide) ?_
      exact hk4 (1 : Int32) σ2 h
