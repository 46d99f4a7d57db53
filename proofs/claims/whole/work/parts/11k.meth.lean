def X12_must__L44_b (p1 : Int32) (p3 : Int32) (rec : Int32 × Int32 → jMem → Option ((Int32) × jMem)) (x2 : Int32) (x4 : Int32) (σ : jMem) : Option ((Int32) × jMem) :=
  jld σ 93 67 (3 : Int32) (fun v12 =>
  if v12 ≤ x4 then
  some (x2, σ)
else
  if p3 = 0 then
  some (x2, σ)
else
  jld σ 93 67 (6 : Int32) (fun v13 =>
  jbd (f_X12_has v13 x4 σ) (fun v14 σ15 =>
  if ¬ v14 = 0 then
  jlet ((x2 ||| (0 : Int32))) (fun v17 =>
  rec (v17, (x4 + 1)) σ15)
else
  jld σ15 93 67 (6 : Int32) (fun v18 =>
  jbd (f_X12_comesThrough (v18 ||| ((1 : Int32) <<< (x4 &&& 31))) p1 σ15) (fun v19 σ20 =>
  if ¬ v19 = 0 then
  jlet ((x2 ||| (0 : Int32))) (fun v22 =>
  rec (v22, (x4 + 1)) σ20)
else
  jlet ((x2 ||| ((1 : Int32) <<< (x4 &&& 31)))) (fun v23 =>
  rec (v23, (x4 + 1)) σ20))))))
def X12_must__L44 (p1 : Int32) (p3 : Int32) : Nat → Int32 × Int32 → jMem → Option ((Int32) × jMem) := jloop (fun rec s σ => X12_must__L44_b p1 p3 rec s.1 s.2 σ)
set_option maxRecDepth 100000 in
set_option maxHeartbeats 4000000 in
theorem X12_must__L44_bok {K : jK} (X : JX K cX12_must_ 5 RX12 4 99) {p1 : Int32} {p3 : Int32}  {rec : Int32 × Int32 → jMem → Option ((Int32) × jMem)} (ih : ∀ (s : Int32 × Int32) (σ : jMem) (o : (Int32) × jMem), rec s σ = some o → (J K 111 [none, none, some (.int o.1), none, none] [] o.2) → J K 44 [some (.ref 89), some (.int p1), some (.int s.1), some (.int p3), some (.int s.2)] [] σ) : ∀ (x2 : Int32) (x4 : Int32) (σ : jMem) (o : (Int32) × jMem), X12_must__L44_b p1 p3 rec x2 x4 σ = some o → (J K 111 [none, none, some (.int o.1), none, none] [] o.2) → J K 44 [some (.ref 89), some (.int p1), some (.int x2), some (.int p3), some (.int x4)] [] σ := by
  intro x2 x4 σ o h kk
  unfold X12_must__L44_b at h
  refine j_iload X dX12_must__44 rfl ?_
  refine j_aload_n X 0 dX12_must__46 rfl rfl ?_
  refine j_getR (t := 93) X fg_RX12_19 ln_89 ly_89 rfl dX12_must__47 ?_
  refine j_iconst (v := 3) X dX12_must__50 (by decide) ?_
  refine j_iaload X ln_93 ly_93 dX12_must__51 h (fun v12 h => ?_)
  refine j_icmp_ge (tgt := 111) X dX12_must__52 (by decide) h (fun h => ?_) (fun h => ?_)
  · obtain rfl := Option.some.inj h
    exact j_sub (ls' := [none, none, some (.int x2), none, none]) ⟨Or.inl rfl, Or.inl rfl, Or.inr rfl, Or.inl rfl, Or.inl rfl, trivial⟩ kk
  · refine j_iload_n X 3 dX12_must__55 rfl rfl ?_
    refine j_if_eq (tgt := 111) X dX12_must__56 (by decide) h (fun h => ?_) (fun h => ?_)
    · obtain rfl := Option.some.inj h
      exact j_sub (ls' := [none, none, some (.int x2), none, none]) ⟨Or.inl rfl, Or.inl rfl, Or.inr rfl, Or.inl rfl, Or.inl rfl, trivial⟩ kk
    · refine j_iload_n X 2 dX12_must__59 rfl rfl ?_
      refine j_aload_n X 0 dX12_must__60 rfl rfl ?_
      refine j_getR (t := 93) X fg_RX12_19 ln_89 ly_89 rfl dX12_must__61 ?_
      refine j_bipush (v := 6) X dX12_must__64 (by decide) ?_
      refine j_iaload X ln_93 ly_93 dX12_must__66 h (fun v13 h => ?_)
      refine j_iload X dX12_must__67 rfl ?_
      obtain ⟨v14, σ15, hm16, h⟩ := jbd_some h
      refine j_callS (as := [.int v13, .int x4]) (st := [.int x2]) (st1 := [.int v14, .int x2]) X ss_RX12_153 ⟨by decide, by decide⟩ rfl rfl (Nat.le_of_ble_eq_true rfl) rfl dX12_must__69 jrv_i (c_X12_has  hm16) rfl ?_
      refine j_if_ne (tgt := 102) X dX12_must__72 (by decide) h (fun h => ?_) (fun h => ?_)
      · refine j_iconst (v := 0) X dX12_must__102 (by decide) ?_
        refine j_ior X dX12_must__103 ?_
        refine j_letI h (fun v17 h => ?_)
        refine j_istore_n (ls' := [some (.ref 89), some (.int p1), some (.int v17), some (.int p3), some (.int x4)]) X 2 dX12_must__104 rfl (Nat.le_of_ble_eq_true rfl) rfl ?_
        refine j_iinc (v := (x4 + 1)) (ls' := [some (.ref 89), some (.int p1), some (.int v17), some (.int p3), some (.int (x4 + 1))]) X dX12_must__105 rfl rfl (Nat.le_of_ble_eq_true rfl) rfl ?_
        refine j_goto (tgt := 44) X dX12_must__108 (by decide) ?_
        exact ih (v17, (x4 + 1)) σ15 _ h kk
      · refine j_aload_n X 0 dX12_must__75 rfl rfl ?_
        refine j_aload_n X 0 dX12_must__76 rfl rfl ?_
        refine j_getR (t := 93) X fg_RX12_19 ln_89 ly_89 rfl dX12_must__77 ?_
        refine j_bipush (v := 6) X dX12_must__80 (by decide) ?_
        refine j_iaload X ln_93 ly_93 dX12_must__82 h (fun v18 h => ?_)
        refine j_iconst (v := 1) X dX12_must__83 (by decide) ?_
        refine j_iload X dX12_must__84 rfl ?_
        refine j_ishl X dX12_must__86 ?_
        refine j_ior X dX12_must__87 ?_
        refine j_iload_n X 1 dX12_must__88 rfl rfl ?_
        obtain ⟨v19, σ20, hm21, h⟩ := jbd_some h
        refine j_callV (as := [.int (v18 ||| ((1 : Int32) <<< (x4 &&& 31))), .int p1]) (st := [.int x2]) (st1 := [.int v19, .int x2]) X ln_89 ly_89 rfl rfl sv_RX12_249 ⟨by decide, by decide⟩ rfl rfl (Nat.le_of_ble_eq_true rfl) rfl dX12_must__89 jrv_i (c_X12_comesThrough  hm21) rfl ?_
        refine j_if_ne (tgt := 102) X dX12_must__92 (by decide) h (fun h => ?_) (fun h => ?_)
        · refine j_iconst (v := 0) X dX12_must__102 (by decide) ?_
          refine j_ior X dX12_must__103 ?_
          refine j_letI h (fun v22 h => ?_)
          refine j_istore_n (ls' := [some (.ref 89), some (.int p1), some (.int v22), some (.int p3), some (.int x4)]) X 2 dX12_must__104 rfl (Nat.le_of_ble_eq_true rfl) rfl ?_
          refine j_iinc (v := (x4 + 1)) (ls' := [some (.ref 89), some (.int p1), some (.int v22), some (.int p3), some (.int (x4 + 1))]) X dX12_must__105 rfl rfl (Nat.le_of_ble_eq_true rfl) rfl ?_
          refine j_goto (tgt := 44) X dX12_must__108 (by decide) ?_
          exact ih (v22, (x4 + 1)) σ20 _ h kk
        · refine j_iconst (v := 1) X dX12_must__95 (by decide) ?_
          refine j_iload X dX12_must__96 rfl ?_
          refine j_ishl X dX12_must__98 ?_
          refine j_goto (tgt := 103) X dX12_must__99 (by decide) ?_
          refine j_ior X dX12_must__103 ?_
          refine j_letI h (fun v23 h => ?_)
          refine j_istore_n (ls' := [some (.ref 89), some (.int p1), some (.int v23), some (.int p3), some (.int x4)]) X 2 dX12_must__104 rfl (Nat.le_of_ble_eq_true rfl) rfl ?_
          refine j_iinc (v := (x4 + 1)) (ls' := [some (.ref 89), some (.int p1), some (.int v23), some (.int p3), some (.int (x4 + 1))]) X dX12_must__105 rfl rfl (Nat.le_of_ble_eq_true rfl) rfl ?_
          refine j_goto (tgt := 44) X dX12_must__108 (by decide) ?_
          exact ih (v23, (x4 + 1)) σ20 _ h kk
theorem X12_must__L44_ok {K : jK} (X : JX K cX12_must_ 5 RX12 4 99) {p1 : Int32} {p3 : Int32}  : ∀ (n : Nat) (s : Int32 × Int32) (σ : jMem) (o : (Int32) × jMem), X12_must__L44 p1 p3 n s σ = some o → (J K 111 [none, none, some (.int o.1), none, none] [] o.2) → J K 44 [some (.ref 89), some (.int p1), some (.int s.1), some (.int p3), some (.int s.2)] [] σ := by
  intro n
  induction n with
  | zero => intro s σ o h; cases h
  | succ n ih => intro s σ o h; exact X12_must__L44_bok X  ih (s.1) (s.2) σ o h
def f_X12_must_ (a0 : Int32) (σ : jMem) : Option (Int32 × jMem) :=
  jlet (jset σ 89 0 (0 : Int32)) (fun σ1 =>
  jbd (f_X12_isThere  σ1) (fun v2 σ3 =>
  if ¬ v2 = 0 then
  jbd (f_X12_isField ((a0).toInt64) σ3) (fun v5 σ6 =>
  if ¬ v5 = 0 then
  jld σ6 93 67 (6 : Int32) (fun v8 =>
  jbd (f_X12_isBurial v8 a0 σ6) (fun v9 σ10 =>
  jbd (X12_must__L44 (a0) (v9) jFU ((0 : Int32), (0 : Int32)) σ10) (fun q24 σ25 =>
  some ((q24, σ25)))))
else
  some (((-1000001 : Int32), σ6)))
else
  some (((-1000002 : Int32), σ3))))
set_option maxRecDepth 100000 in
set_option maxHeartbeats 4000000 in
theorem c_X12_must_ {l : Launch} {D : va_G} {ad : Nat → Nat} {cid : Nat → ClassId} {a0 : Int32}  {σ : jMem} {r : Int32} {σ' : jMem} (h : f_X12_must_ a0 σ = some (r, σ')) : jMet l D ad cid yX12_must_ cX12_must_ 5 (some .int) 4 99 [.ref 89, .int a0] σ (some (.int r)) σ' := by
  refine jMet_of (ls0 := [some (.ref 89), some (.int a0), none, none, none]) (by decide) (Nat.le_of_ble_eq_true rfl) rfl (fun K X R0 _ => ?_)
  unfold f_X12_must_ at h
  refine j_aload_n X 0 dX12_must__0 rfl rfl ?_
  refine j_iconst (v := 0) X dX12_must__1 (by decide) ?_
  refine j_put X fp_RX12_47 ln_89 ly_89 rfl rfl rfl dX12_must__2 h (fun σ1 h => ?_)
  refine j_aload_n X 0 dX12_must__5 rfl rfl ?_
  obtain ⟨v2, σ3, hm4, h⟩ := jbd_some h
  refine j_callV (as := []) (st := []) (st1 := [.int v2]) X ln_89 ly_89 rfl rfl sv_RX12_203 ⟨by decide, by decide⟩ rfl rfl (Nat.le_of_ble_eq_true rfl) rfl dX12_must__6 jrv_i (c_X12_isThere  hm4) rfl ?_
  refine j_if_ne (tgt := 15) X dX12_must__9 (by decide) h (fun h => ?_) (fun h => ?_)
  · refine j_iload_n X 1 dX12_must__15 rfl rfl ?_
    refine j_i2l X dX12_must__16 ?_
    obtain ⟨v5, σ6, hm7, h⟩ := jbd_some h
    refine j_callS (as := [.long ((a0).toInt64)]) (st := []) (st1 := [.int v5]) X ss_RX12_207 ⟨by decide, by decide⟩ rfl rfl (Nat.le_of_ble_eq_true rfl) rfl dX12_must__17 jrv_i (c_X12_isField  hm7) rfl ?_
    refine j_if_ne (tgt := 26) X dX12_must__20 (by decide) h (fun h => ?_) (fun h => ?_)
    · refine j_iconst (v := 0) X dX12_must__26 (by decide) ?_
      refine j_istore_n (ls' := [some (.ref 89), some (.int a0), some (.int (0 : Int32)), none, none]) X 2 dX12_must__27 rfl (Nat.le_of_ble_eq_true rfl) rfl ?_
      refine j_aload_n X 0 dX12_must__28 rfl rfl ?_
      refine j_aload_n X 0 dX12_must__29 rfl rfl ?_
      refine j_getR (t := 93) X fg_RX12_19 ln_89 ly_89 rfl dX12_must__30 ?_
      refine j_bipush (v := 6) X dX12_must__33 (by decide) ?_
      refine j_iaload X ln_93 ly_93 dX12_must__35 h (fun v8 h => ?_)
      refine j_iload_n X 1 dX12_must__36 rfl rfl ?_
      obtain ⟨v9, σ10, hm11, h⟩ := jbd_some h
      refine j_callV (as := [.int v8, .int a0]) (st := []) (st1 := [.int v9]) X ln_89 ly_89 rfl rfl sv_RX12_211 ⟨by decide, by decide⟩ rfl rfl (Nat.le_of_ble_eq_true rfl) rfl dX12_must__37 jrv_i (c_X12_isBurial  hm11) rfl ?_
      refine j_istore_n (ls' := [some (.ref 89), some (.int a0), some (.int (0 : Int32)), some (.int v9), none]) X 3 dX12_must__40 rfl (Nat.le_of_ble_eq_true rfl) rfl ?_
      refine j_iconst (v := 0) X dX12_must__41 (by decide) ?_
      refine j_istore (ls' := [some (.ref 89), some (.int a0), some (.int (0 : Int32)), some (.int v9), some (.int (0 : Int32))]) X dX12_must__42 (Nat.le_of_ble_eq_true rfl) rfl ?_
      obtain ⟨q24, σ25, hL26, h⟩ := jbd_some h
      refine X12_must__L44_ok X  jFU ((0 : Int32), (0 : Int32)) σ10 _ hL26 ?_
      refine j_iload_n X 2 dX12_must__111 rfl rfl ?_
      obtain ⟨rfl, rfl⟩ := jin2 h
      exact j_iret X R0 dX12_must__112
    · refine j_ldc (v := -1000001) X tw_948 dX12_must__23 ?_
      obtain ⟨rfl, rfl⟩ := jin2 h
      exact j_iret X R0 dX12_must__25
  · refine j_ldc (v := -1000002) X tw_1041 dX12_must__12 ?_
    obtain ⟨rfl, rfl⟩ := jin2 h
    exact j_iret X R0 dX12_must__14
