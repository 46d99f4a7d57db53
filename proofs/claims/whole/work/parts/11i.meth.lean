theorem sv_RX11_270 : jSiV RX11 270 yX5_allPaths cX5_allPaths 1 (some .int) 0 := ⟨tw_679, tw_479, tw_480, tw_10, tw_481, by decide, by decide, by decide +kernel⟩
theorem sv_RX11_276 : jSiV RX11 276 yX5_sworn cX5_sworn 4 (some .int) 1 := ⟨tw_680, tw_566, tw_567, tw_10, tw_568, by decide, by decide, by decide +kernel⟩
def X11_live_L43_b (p1 : Int32) (p2 : Int32) (rec : Int32 × Int32 → jMem → Option ((Int32) × jMem)) (x3 : Int32) (x4 : Int32) (σ : jMem) : Option ((Int32) × jMem) :=
  if ((1 : Int32) <<< ((σ.1 22 6) &&& 31)) ≤ x4 then
  some (x3, σ)
else
  jbd (f_X5_sworn 22 x4 σ) (fun v7 σ8 =>
  jj (fun (q11 : Int32) σ12 =>
  if q11 = 0 then
  rec (x3, (x4 + 1)) σ12
else
  if x3 = (-1000000 : Int32) then
  rec (x4, (x4 + 1)) σ12
else
  jbd (f_J6_bitCount_0f7a4 x4 σ12) (fun v13 σ14 =>
  jbd (f_J6_bitCount_0f7a4 x3 σ14) (fun v16 σ17 =>
  if v16 ≤ v13 then
  rec (x3, (x4 + 1)) σ17
else
  rec (x4, (x4 + 1)) σ17))) (fun k10 =>
  if ¬ (p1 &&& (v7 ^^^ (-1 : Int32))) = 0 then
  k10 (0 : Int32) σ8
else
  k10 (1 : Int32) σ8))
def X11_live_L43 (p1 : Int32) (p2 : Int32) : Nat → Int32 × Int32 → jMem → Option ((Int32) × jMem) := jloop (fun rec s σ => X11_live_L43_b p1 p2 rec s.1 s.2 σ)
set_option maxRecDepth 100000 in
set_option maxHeartbeats 4000000 in
theorem X11_live_L43_bok {K : jK} (X : JX K cX11_live 6 RX11 4 86) {p1 : Int32} {p2 : Int32}  {rec : Int32 × Int32 → jMem → Option ((Int32) × jMem)} (ih : ∀ (s : Int32 × Int32) (σ : jMem) (o : (Int32) × jMem), rec s σ = some o → (J K 112 [none, none, some (.int p2), some (.int o.1), none, none] [] o.2) → J K 43 [some (.ref 0), some (.int p1), some (.int p2), some (.int s.1), some (.int s.2), none] [] σ) : ∀ (x3 : Int32) (x4 : Int32) (σ : jMem) (o : (Int32) × jMem), X11_live_L43_b p1 p2 rec x3 x4 σ = some o → (J K 112 [none, none, some (.int p2), some (.int o.1), none, none] [] o.2) → J K 43 [some (.ref 0), some (.int p1), some (.int p2), some (.int x3), some (.int x4), none] [] σ := by
  intro x3 x4 σ o h kk
  unfold X11_live_L43_b at h
  refine j_iload X dX11_live_43 rfl ?_
  refine j_iconst (v := 1) X dX11_live_45 (by decide) ?_
  refine j_aload_n X 0 dX11_live_46 rfl rfl ?_
  refine j_getR (t := 22) X fg_RX11_50 ln_0 ly_0 rfl dX11_live_47 ?_
  refine j_getI X fg_RX11_273 ln_22 ly_22 rfl dX11_live_50 ?_
  refine j_ishl X dX11_live_53 ?_
  refine j_icmp_ge (tgt := 112) X dX11_live_54 (by decide) h (fun h => ?_) (fun h => ?_)
  · obtain rfl := Option.some.inj h
    exact j_sub (ls' := [none, none, some (.int p2), some (.int x3), none, none]) ⟨Or.inl rfl, Or.inl rfl, Or.inr rfl, Or.inr rfl, Or.inl rfl, Or.inl rfl, trivial⟩ kk
  · refine j_iload_n X 1 dX11_live_57 rfl rfl ?_
    refine j_aload_n X 0 dX11_live_58 rfl rfl ?_
    refine j_getR (t := 22) X fg_RX11_50 ln_0 ly_0 rfl dX11_live_59 ?_
    refine j_iload X dX11_live_62 rfl ?_
    obtain ⟨v7, σ8, hm9, h⟩ := jbd_some h
    refine j_callV (as := [.int x4]) (st := [.int p1]) (st1 := [.int v7, .int p1]) X ln_22 ly_22 rfl rfl sv_RX11_276 ⟨by decide, by decide⟩ rfl rfl (Nat.le_of_ble_eq_true rfl) rfl dX11_live_64 jrv_i (c_X5_sworn jisP_22 hm9) rfl ?_
    refine j_iconst (v := -1) X dX11_live_67 (by decide) ?_
    refine j_ixor X dX11_live_68 ?_
    refine j_iand X dX11_live_69 ?_
    refine j_join (pcJ := 78) (lsJ := fun q11 => [some (.ref 0), some (.int p1), some (.int p2), some (.int x3), some (.int x4), none]) (stJ := fun q11 => [.int q11]) h (fun q11 σ12 h => ?_) (fun k10 hk10 h => ?_)
    · refine j_istore (ls' := [some (.ref 0), some (.int p1), some (.int p2), some (.int x3), some (.int x4), some (.int q11)]) X dX11_live_78 (Nat.le_of_ble_eq_true rfl) rfl ?_
      refine j_iload X dX11_live_80 rfl ?_
      refine j_if_eq (tgt := 106) X dX11_live_82 (by decide) h (fun h => ?_) (fun h => ?_)
      · refine j_iinc (v := (x4 + 1)) (ls' := [some (.ref 0), some (.int p1), some (.int p2), some (.int x3), some (.int (x4 + 1)), some (.int q11)]) X dX11_live_106 rfl rfl (Nat.le_of_ble_eq_true rfl) rfl ?_
        refine j_goto (tgt := 43) X dX11_live_109 (by decide) ?_
        exact j_sub (ls' := [some (.ref 0), some (.int p1), some (.int p2), some (.int x3), some (.int (x4 + 1)), none]) ⟨Or.inr rfl, Or.inr rfl, Or.inr rfl, Or.inr rfl, Or.inr rfl, Or.inl rfl, trivial⟩ (ih (x3, (x4 + 1)) σ12 _ h kk)
      · refine j_iload_n X 3 dX11_live_85 rfl rfl ?_
        refine j_ldc (v := -1000000) X tw_646 dX11_live_86 ?_
        refine j_icmp_eq (tgt := 103) X dX11_live_88 (by decide) h (fun h => ?_) (fun h => ?_)
        · refine j_iload X dX11_live_103 rfl ?_
          refine j_istore_n (ls' := [some (.ref 0), some (.int p1), some (.int p2), some (.int x4), some (.int x4), some (.int q11)]) X 3 dX11_live_105 rfl (Nat.le_of_ble_eq_true rfl) rfl ?_
          refine j_iinc (v := (x4 + 1)) (ls' := [some (.ref 0), some (.int p1), some (.int p2), some (.int x4), some (.int (x4 + 1)), some (.int q11)]) X dX11_live_106 rfl rfl (Nat.le_of_ble_eq_true rfl) rfl ?_
          refine j_goto (tgt := 43) X dX11_live_109 (by decide) ?_
          exact j_sub (ls' := [some (.ref 0), some (.int p1), some (.int p2), some (.int x4), some (.int (x4 + 1)), none]) ⟨Or.inr rfl, Or.inr rfl, Or.inr rfl, Or.inr rfl, Or.inr rfl, Or.inl rfl, trivial⟩ (ih (x4, (x4 + 1)) σ12 _ h kk)
        · refine j_iload X dX11_live_91 rfl ?_
          obtain ⟨v13, σ14, hm15, h⟩ := jbd_some h
          refine j_callS (as := [.int x4]) (st := []) (st1 := [.int v13]) X ss_RX11_265 ⟨by decide, by decide⟩ rfl rfl (Nat.le_of_ble_eq_true rfl) rfl dX11_live_93 jrv_i (c_J6_bitCount_0f7a4  hm15) rfl ?_
          refine j_iload_n X 3 dX11_live_96 rfl rfl ?_
          obtain ⟨v16, σ17, hm18, h⟩ := jbd_some h
          refine j_callS (as := [.int x3]) (st := [.int v13]) (st1 := [.int v16, .int v13]) X ss_RX11_265 ⟨by decide, by decide⟩ rfl rfl (Nat.le_of_ble_eq_true rfl) rfl dX11_live_97 jrv_i (c_J6_bitCount_0f7a4  hm18) rfl ?_
          refine j_icmp_ge (tgt := 106) X dX11_live_100 (by decide) h (fun h => ?_) (fun h => ?_)
          · refine j_iinc (v := (x4 + 1)) (ls' := [some (.ref 0), some (.int p1), some (.int p2), some (.int x3), some (.int (x4 + 1)), some (.int q11)]) X dX11_live_106 rfl rfl (Nat.le_of_ble_eq_true rfl) rfl ?_
            refine j_goto (tgt := 43) X dX11_live_109 (by decide) ?_
            exact j_sub (ls' := [some (.ref 0), some (.int p1), some (.int p2), some (.int x3), some (.int (x4 + 1)), none]) ⟨Or.inr rfl, Or.inr rfl, Or.inr rfl, Or.inr rfl, Or.inr rfl, Or.inl rfl, trivial⟩ (ih (x3, (x4 + 1)) σ17 _ h kk)
          · refine j_iload X dX11_live_103 rfl ?_
            refine j_istore_n (ls' := [some (.ref 0), some (.int p1), some (.int p2), some (.int x4), some (.int x4), some (.int q11)]) X 3 dX11_live_105 rfl (Nat.le_of_ble_eq_true rfl) rfl ?_
            refine j_iinc (v := (x4 + 1)) (ls' := [some (.ref 0), some (.int p1), some (.int p2), some (.int x4), some (.int (x4 + 1)), some (.int q11)]) X dX11_live_106 rfl rfl (Nat.le_of_ble_eq_true rfl) rfl ?_
            refine j_goto (tgt := 43) X dX11_live_109 (by decide) ?_
            exact j_sub (ls' := [some (.ref 0), some (.int p1), some (.int p2), some (.int x4), some (.int (x4 + 1)), none]) ⟨Or.inr rfl, Or.inr rfl, Or.inr rfl, Or.inr rfl, Or.inr rfl, Or.inl rfl, trivial⟩ (ih (x4, (x4 + 1)) σ17 _ h kk)
    · refine j_if_ne (tgt := 77) X dX11_live_70 (by decide) h (fun h => ?_) (fun h => ?_)
      · refine j_iconst (v := 0) X dX11_live_77 (by decide) ?_
        exact hk10 (0 : Int32) σ8 h
      · refine j_iconst (v := 1) X dX11_live_73 (by decide) ?_
        refine j_goto (tgt := 78) X dX11_live_74 (by decide) ?_
        exact hk10 (1 : Int32) σ8 h
theorem X11_live_L43_ok {K : jK} (X : JX K cX11_live 6 RX11 4 86) {p1 : Int32} {p2 : Int32}  : ∀ (n : Nat) (s : Int32 × Int32) (σ : jMem) (o : (Int32) × jMem), X11_live_L43 p1 p2 n s σ = some o → (J K 112 [none, none, some (.int p2), some (.int o.1), none, none] [] o.2) → J K 43 [some (.ref 0), some (.int p1), some (.int p2), some (.int s.1), some (.int s.2), none] [] σ := by
  intro n
  induction n with
  | zero => intro s σ o h; cases h
  | succ n ih => intro s σ o h; exact X11_live_L43_bok X  ih (s.1) (s.2) σ o h
def f_X11_live (a0 : Int32) (a1 : Int32) (σ : jMem) : Option (Int32 × jMem) :=
  if ¬ (σ.1 22 1) = 0 then
  jbd (f_X5_allPaths 22 σ) (fun v1 σ2 =>
  if ¬ (a0 &&& (v1 ^^^ (-1 : Int32))) = 0 then
  some (((-1000001 : Int32), σ2))
else
  jbd (f_X11_isOneOfTwo a1 σ2) (fun v4 σ5 =>
  if ¬ v4 = 0 then
  jbd (X11_live_L43 (a0) (a1) jFU ((-1000000 : Int32), (0 : Int32)) σ5) (fun q19 σ20 =>
  if q19 = (-1000000 : Int32) then
  some ((q19, σ20))
else
  if ¬ a1 = (1 : Int32) then
  jbd (f_J6_bitCount_0f7a4 q19 σ20) (fun v21 σ22 =>
  some ((v21, σ22)))
else
  some ((q19, σ20)))
else
  some (((-1000001 : Int32), σ5))))
else
  some (((-1000002 : Int32), σ))
set_option maxRecDepth 100000 in
set_option maxHeartbeats 4000000 in
theorem c_X11_live {l : Launch} {D : va_G} {ad : Nat → Nat} {cid : Nat → ClassId} {a0 : Int32} {a1 : Int32}  {σ : jMem} {r : Int32} {σ' : jMem} (h : f_X11_live a0 a1 σ = some (r, σ')) : jMet l D ad cid yX11_live cX11_live 6 (some .int) 4 86 [.ref 0, .int a0, .int a1] σ (some (.int r)) σ' := by
  refine jMet_of (ls0 := [some (.ref 0), some (.int a0), some (.int a1), none, none, none]) (by decide) (Nat.le_of_ble_eq_true rfl) rfl (fun K X R0 _ => ?_)
  unfold f_X11_live at h
  refine j_aload_n X 0 dX11_live_0 rfl rfl ?_
  refine j_getR (t := 22) X fg_RX11_50 ln_0 ly_0 rfl dX11_live_1 ?_
  refine j_getI X fg_RX11_170 ln_22 ly_22 rfl dX11_live_4 ?_
  refine j_if_ne (tgt := 13) X dX11_live_7 (by decide) h (fun h => ?_) (fun h => ?_)
  · refine j_iload_n X 1 dX11_live_13 rfl rfl ?_
    refine j_aload_n X 0 dX11_live_14 rfl rfl ?_
    refine j_getR (t := 22) X fg_RX11_50 ln_0 ly_0 rfl dX11_live_15 ?_
    obtain ⟨v1, σ2, hm3, h⟩ := jbd_some h
    refine j_callV (as := []) (st := [.int a0]) (st1 := [.int v1, .int a0]) X ln_22 ly_22 rfl rfl sv_RX11_270 ⟨by decide, by decide⟩ rfl rfl (Nat.le_of_ble_eq_true rfl) rfl dX11_live_18 jrv_i (c_X5_allPaths jisP_22 hm3) rfl ?_
    refine j_iconst (v := -1) X dX11_live_21 (by decide) ?_
    refine j_ixor X dX11_live_22 ?_
    refine j_iand X dX11_live_23 ?_
    refine j_if_ne (tgt := 34) X dX11_live_24 (by decide) h (fun h => ?_) (fun h => ?_)
    · refine j_ldc (v := -1000001) X tw_318 dX11_live_34 ?_
      obtain ⟨rfl, rfl⟩ := jin2 h
      exact j_iret X R0 dX11_live_36
    · refine j_iload_n X 2 dX11_live_27 rfl rfl ?_
      obtain ⟨v4, σ5, hm6, h⟩ := jbd_some h
      refine j_callS (as := [.int a1]) (st := []) (st1 := [.int v4]) X ss_RX11_204 ⟨by decide, by decide⟩ rfl rfl (Nat.le_of_ble_eq_true rfl) rfl dX11_live_28 jrv_i (c_X11_isOneOfTwo  hm6) rfl ?_
      refine j_if_ne (tgt := 37) X dX11_live_31 (by decide) h (fun h => ?_) (fun h => ?_)
      · refine j_ldc (v := -1000000) X tw_646 dX11_live_37 ?_
        refine j_istore_n (ls' := [some (.ref 0), some (.int a0), some (.int a1), some (.int (-1000000 : Int32)), none, none]) X 3 dX11_live_39 rfl (Nat.le_of_ble_eq_true rfl) rfl ?_
        refine j_iconst (v := 0) X dX11_live_40 (by decide) ?_
        refine j_istore (ls' := [some (.ref 0), some (.int a0), some (.int a1), some (.int (-1000000 : Int32)), some (.int (0 : Int32)), none]) X dX11_live_41 (Nat.le_of_ble_eq_true rfl) rfl ?_
        obtain ⟨q19, σ20, hL24, h⟩ := jbd_some h
        refine X11_live_L43_ok X  jFU ((-1000000 : Int32), (0 : Int32)) σ5 _ hL24 ?_
        refine j_iload_n X 3 dX11_live_112 rfl rfl ?_
        refine j_ldc (v := -1000000) X tw_646 dX11_live_113 ?_
        refine j_icmp_eq (tgt := 123) X dX11_live_115 (by decide) h (fun h => ?_) (fun h => ?_)
        · refine j_iload_n X 3 dX11_live_123 rfl rfl ?_
          refine j_goto (tgt := 131) X dX11_live_124 (by decide) ?_
          obtain ⟨rfl, rfl⟩ := jin2 h
          exact j_iret X R0 dX11_live_131
        · refine j_iload_n X 2 dX11_live_118 rfl rfl ?_
          refine j_iconst (v := 1) X dX11_live_119 (by decide) ?_
          refine j_icmp_ne (tgt := 127) X dX11_live_120 (by decide) h (fun h => ?_) (fun h => ?_)
          · refine j_iload_n X 3 dX11_live_127 rfl rfl ?_
            obtain ⟨v21, σ22, hm23, h⟩ := jbd_some h
            refine j_callS (as := [.int q19]) (st := []) (st1 := [.int v21]) X ss_RX11_265 ⟨by decide, by decide⟩ rfl rfl (Nat.le_of_ble_eq_true rfl) rfl dX11_live_128 jrv_i (c_J6_bitCount_0f7a4  hm23) rfl ?_
            obtain ⟨rfl, rfl⟩ := jin2 h
            exact j_iret X R0 dX11_live_131
          · refine j_iload_n X 3 dX11_live_123 rfl rfl ?_
            refine j_goto (tgt := 131) X dX11_live_124 (by decide) ?_
            obtain ⟨rfl, rfl⟩ := jin2 h
            exact j_iret X R0 dX11_live_131
      · refine j_ldc (v := -1000001) X tw_318 dX11_live_34 ?_
        obtain ⟨rfl, rfl⟩ := jin2 h
        exact j_iret X R0 dX11_live_36
  · refine j_ldc (v := -1000002) X tw_458 dX11_live_10 ?_
    obtain ⟨rfl, rfl⟩ := jin2 h
    exact j_iret X R0 dX11_live_12
