/-! ===== constructors: the world is a list that grows ===== -/
theorem va_AOA.moved {t : FieldType} {u U : State} (hvm : u.vm.Alike U.vm) (h : va_AOA t u) : va_AOA t U := by
  obtain ⟨comp, c, k, h1, h2, h3, h4, h5⟩ := arrayOverA_spec h
  obtain ⟨k', hk', he⟩ := hvm.2.2 _ _ h3
  have hb : ∀ (vm : Vm) (f : Kind → Bool), (vm.bare.classes.findIdx? fun (x : Class) => f x.kind) = (vm.classes.findIdx? fun (x : Class) => f x.kind) := by
    intro vm f
    simp only [Vm.bare, Array.findIdx?_map]
    rfl
  have key : ∀ F : Kind → Bool, (U.vm.classes.findIdx? fun (x : Class) => F x.kind) = (u.vm.classes.findIdx? fun (x : Class) => F x.kind) := by
    intro F
    rw [← hb U.vm F, ← hb u.vm F]
    first | rw [hvm.bare_eq] | rw [← hvm.bare_eq]
  have hi := (key (fun (κ : Kind) => match κ with | .array component _ => component == comp | _ => false)).trans h2
  have hkind : k'.kind = .array comp (.array t) := by rw [he]; exact h4
  have f1 : U.vm.findClass (FieldType.array t).toString = some comp := by rw [hvm.findClass]; exact h1
  have f2 : U.vm.findClass ("[" ++ (FieldType.array t).toString) = some c := by rw [hvm.findClass]; exact h5
  unfold va_AOA Cond.before Cond.holds
  simp only [Cond.value]
  rw [f1, Option.bind_some]
  refine (congrArg (fun o : Option Nat => (o.bind (fun c => (U.vm.classes[c]?).map fun (k : Class) => match k.kind with | .array _ ty => decide (ty = FieldType.array t) && decide (U.vm.findClass ("[" ++ (FieldType.array t).toString) = some c) | _ => false) == some true)) hi).trans ?_
  simp [hk', hkind, f2]
def iZ (U : State) : Prop := jZ U ∧ va_AO "CoffinWays$Witness" U ∧ va_AO "CoffinWays$Parish" U ∧ va_AOA .int U
theorem iZ.warm {s U : State} (hW : s.WarmedH U.vm) (h : iZ s) : iZ U := ⟨h.1.warm hW, va_AO.moved hW.alike h.2.1, va_AO.moved hW.alike h.2.2.1, va_AOA.moved hW.alike h.2.2.2⟩
theorem iZ.same {s U : State} (h9 : s.vm = U.vm) (h : iZ s) : iZ U := ⟨h.1.same h9, va_AO.moved (by rw [h9]; exact Vm.Alike.refl _) h.2.1, va_AO.moved (by rw [h9]; exact Vm.Alike.refl _) h.2.2.1, va_AOA.moved (by rw [h9]; exact Vm.Alike.refl _) h.2.2.2⟩
abbrev iWW (K : jK) (H : Heap) (locs : List Loc) (c9 s9 : Nat) (g : JFrame) : Prop := W (kp K) (kl K) (ke K) (kR K) (ks K) (km K) (kar K) (kbe K) (kme K) (kco K) H locs c9 s9 (kQ K) g
def Iw (K : jK) (pc : Nat) (ls : List (Option Value)) (st : List Value) (ws : va_W) (c9 s9 : Nat) : Prop :=
  ∀ (H : Heap) (locs : List Loc) (sl : Array Slot), va_P (kD K) vwCl ws H → va_D (kA K) ws → va_S (kA K) (kH K) H locs → jLv id sl ls → iWW K H locs c9 s9 (F0 (km K) pc sl st)
def IX (K : jK) (cc : ByteArray) (nL : Nat) (own : String) (fr lo mc ms : Nat) : Prop :=
  (kp K).tables.exec = Jvm.exec ∧ (kco K).code = cc ∧ (kco K).maxLocals = nL ∧ (ks K).vm.findClass own = some (km K).cls ∧ (∀ w ∈ TT, w.before (kar K) (ks K) = true) ∧ va_K (kD K) vwCl (jtys (kc K)) (ks K) ∧ (∀ q, (kH K).size ≤ q → kA K q) ∧ (fr ≤ (kR K).frames ∧ lo ≤ (kR K).locals ∧ mc ≤ (kR K).cells ∧ ms ≤ (kR K).slots) ∧ iZ (ks K)
section IRows
variable {K : jK} {cc : ByteArray} {nL : Nat} {own : String} {fr lo mc ms pc c9 s9 : Nat} {ls ls' : List (Option Value)} {st : List Value} {ws ws' : va_W}
theorem i_sub (h : jle ls' ls) (k : Iw K pc ls' st ws c9 s9) : Iw K pc ls st ws c9 s9 := fun H locs sl hP hD hS hL => k H locs sl hP hD hS ⟨by rw [(jle_spec h).1]; exact hL.1, hL.2.1, fun i v hi => hL.2.2 i v ((jle_spec h).2 i v hi)⟩
theorem i_iconst (X : IX K cc nL own fr lo mc ms) {n : Int} {v : Int32} (hd : decode cc pc = .ok (.iconst n, 1)) (hv : Int32.ofInt n = v) (k : Iw K (pc + 1) ls (.int v :: st) ws c9 s9) : Iw K pc ls st ws c9 s9 := fun H locs sl hP hD hS hL => lv_iconst X.1 X.2.1 hd hv (k H locs sl hP hD hS hL)
theorem i_bipush (X : IX K cc nL own fr lo mc ms) {n : Int} {v : Int32} (hd : decode cc pc = .ok (.bipush n, 2)) (hv : (Int8.ofInt n).toInt32 = v) (k : Iw K (pc + 2) ls (.int v :: st) ws c9 s9) : Iw K pc ls st ws c9 s9 := fun H locs sl hP hD hS hL => lv_bipush X.1 X.2.1 hd hv (k H locs sl hP hD hS hL)
theorem i_sipush (X : IX K cc nL own fr lo mc ms) {n : Int} {v : Int32} (hd : decode cc pc = .ok (.sipush n, 3)) (hv : (Int16.ofInt n).toInt32 = v) (k : Iw K (pc + 3) ls (.int v :: st) ws c9 s9) : Iw K pc ls st ws c9 s9 := fun H locs sl hP hD hS hL => lv_sipush X.1 X.2.1 hd hv (k H locs sl hP hD hS hL)
theorem i_lconst (X : IX K cc nL own fr lo mc ms) {n : Fin 2} {v : Int64} (hd : decode cc pc = .ok (.lconst n, 1)) (hv : Int64.ofNat (n : Nat) = v) (k : Iw K (pc + 1) ls (.long v :: st) ws c9 s9) : Iw K pc ls st ws c9 s9 := fun H locs sl hP hD hS hL => lv_lconst X.1 X.2.1 hd hv (k H locs sl hP hD hS hL)
theorem i_ldc2_w (X : IX K cc nL own fr lo mc ms) {i : Nat} {v : Int64} (hc : Cond.constantLong own i v ∈ TT) (hd : decode cc pc = .ok (.ldc2_w i, 3)) (k : Iw K (pc + 3) ls (.long v :: st) ws c9 s9) : Iw K pc ls st ws c9 s9 := fun H locs sl hP hD hS hL => lv_ldc2 X.1 X.2.1 X.2.2.2.1 (X.2.2.2.2.1 _ hc) hd (k H locs sl hP hD hS hL)
theorem i_lmul (X : IX K cc nL own fr lo mc ms) {x y v : Int64} (hd : decode cc pc = .ok (.lmul, 1)) (hv : x * y = v) (k : Iw K (pc + 1) ls (.long v :: st) ws c9 s9) : Iw K pc ls (.long y :: .long x :: st) ws c9 s9 := fun H locs sl hP hD hS hL => lv_lmul X.1 X.2.1 hd (by rw [hv]; exact k H locs sl hP hD hS hL)
theorem i_dup (X : IX K cc nL own fr lo mc ms) {a : Value} (hd : decode cc pc = .ok (.dup, 1)) (ha : a.category = 1) (k : Iw K (pc + 1) ls (a :: a :: st) ws c9 s9) : Iw K pc ls (a :: st) ws c9 s9 := fun H locs sl hP hD hS hL => lv_dup X.1 X.2.1 hd ha (k H locs sl hP hD hS hL)
theorem i_goto (X : IX K cc nL own fr lo mc ms) {off : Int} {tgt : Nat} (hd : decode cc pc = .ok (.goto off, 3)) (ht : (pc : Int) + off = (tgt : Int)) (k : Iw K tgt ls st ws c9 s9) : Iw K pc ls st ws c9 s9 := fun H locs sl hP hD hS hL => lv_goto X.1 X.2.1 hd ht (k H locs sl hP hD hS hL)
theorem i_iload_n (X : IX K cc nL own fr lo mc ms) {q : Fin 4} (i : Nat) {x : Int32} (hd : decode cc pc = .ok (.iload_n q, 1)) (hi : (q : Nat) = i) (hl : ls[i]? = some (some (.int x))) (k : Iw K (pc + 1) ls (.int x :: st) ws c9 s9) : Iw K pc ls st ws c9 s9 := fun H locs sl hP hD hS hL => lv_iload_n X.1 X.2.1 hd hi (hL.2.2 i _ hl) (k H locs sl hP hD hS hL)
theorem i_lload_n (X : IX K cc nL own fr lo mc ms) {q : Fin 4} (i : Nat) {x : Int64} (hd : decode cc pc = .ok (.lload_n q, 1)) (hi : (q : Nat) = i) (hl : ls[i]? = some (some (.long x))) (k : Iw K (pc + 1) ls (.long x :: st) ws c9 s9) : Iw K pc ls st ws c9 s9 := fun H locs sl hP hD hS hL => lv_lload_n X.1 X.2.1 hd hi (hL.2.2 i _ hl) (k H locs sl hP hD hS hL)
theorem i_aload_n (X : IX K cc nL own fr lo mc ms) {q : Fin 4} (i : Nat) {x : Nat} (hd : decode cc pc = .ok (.aload_n q, 1)) (hi : (q : Nat) = i) (hl : ls[i]? = some (some (.ref x))) (k : Iw K (pc + 1) ls (.ref x :: st) ws c9 s9) : Iw K pc ls st ws c9 s9 := fun H locs sl hP hD hS hL => lv_aload_n X.1 X.2.1 hd hi (hL.2.2 i _ hl) (k H locs sl hP hD hS hL)
theorem i_istore_n (X : IX K cc nL own fr lo mc ms) {q : Fin 4} (i : Nat) {x : Int32} (hd : decode cc pc = .ok (.istore_n q, 1)) (hi : (q : Nat) = i) (hn : i < ls.length) (hl : jst1 ls i (.int x) = ls') (k : Iw K (pc + 1) ls' st ws c9 s9) : Iw K pc ls (.int x :: st) ws c9 s9 := fun H locs sl hP hD hS hL => lv_istore_n X.1 X.2.1 hd hi (jassoc hL) hn rfl (fun sl1 h1 => k H locs sl1 hP hD hS (by rw [← hl]; exact jst1_ok (ad := id) (sl := sl) (v := .int x) h1))
theorem i_lstore_n (X : IX K cc nL own fr lo mc ms) {q : Fin 4} (i : Nat) {x : Int64} (hd : decode cc pc = .ok (.lstore_n q, 1)) (hi : (q : Nat) = i) (hn : i + 1 < ls.length) (hl : jst2 ls i (.long x) = ls') (k : Iw K (pc + 1) ls' st ws c9 s9) : Iw K pc ls (.long x :: st) ws c9 s9 := fun H locs sl hP hD hS hL => lv_lstore_n X.1 X.2.1 hd hi (jassoc hL) hn rfl (fun sl1 h1 => k H locs sl1 hP hD hS (by rw [← hl]; exact jst2_ok (ad := id) (sl := sl) (v := .long x) h1))
theorem i_astore_n (X : IX K cc nL own fr lo mc ms) {q : Fin 4} (i : Nat) {x : Nat} (hd : decode cc pc = .ok (.astore_n q, 1)) (hi : (q : Nat) = i) (hn : i < ls.length) (hl : jst1 ls i (.ref x) = ls') (k : Iw K (pc + 1) ls' st ws c9 s9) : Iw K pc ls (.ref x :: st) ws c9 s9 := fun H locs sl hP hD hS hL => lv_astore_n X.1 X.2.1 hd hi (jassoc hL) hn rfl (fun sl1 h1 => k H locs sl1 hP hD hS (by rw [← hl]; exact jst1_ok (ad := id) (sl := sl) (v := .ref x) h1))
theorem i_iinc (X : IX K cc nL own fr lo mc ms) {i : Nat} {n : Int} {x v : Int32} (hd : decode cc pc = .ok (.iinc i n, 3)) (hx : ls[i]? = some (some (.int x))) (hv : x + Int32.ofInt n = v) (hn : i < ls.length) (hl : jst1 ls i (.int v) = ls') (k : Iw K (pc + 3) ls' st ws c9 s9) : Iw K pc ls st ws c9 s9 := fun H locs sl hP hD hS hL => by
  obtain ⟨q, hq⟩ := List.getElem?_of_mem (jmem_assoc (ad := id) hx)
  exact lv_iinc X.1 X.2.1 hd (jassoc hL) (k := q) hq hv hn rfl (fun sl1 h1 => k H locs sl1 hP hD hS (by rw [← hl]; exact jst1_ok (ad := id) (sl := sl) (v := .int v) h1))
theorem i_icmp_ge_t (X : IX K cc nL own fr lo mc ms) {x y : Int32} {off : Int} {tgt : Nat} (hd : decode cc pc = .ok (.if_icmp .ge off, 3)) (ht : (pc : Int) + off = (tgt : Int)) (h : y ≤ x) (k : Iw K tgt ls st ws c9 s9) : Iw K pc ls (.int y :: .int x :: st) ws c9 s9 := fun H locs sl hP hD hS hL => lv_icmp_ge X.1 X.2.1 hd ht (fun _ => k H locs sl hP hD hS hL) (fun q => absurd h q)
theorem i_icmp_ge_f (X : IX K cc nL own fr lo mc ms) {x y : Int32} {off : Int} {tgt : Nat} (hd : decode cc pc = .ok (.if_icmp .ge off, 3)) (ht : (pc : Int) + off = (tgt : Int)) (h : ¬ y ≤ x) (k : Iw K (pc + 3) ls st ws c9 s9) : Iw K pc ls (.int y :: .int x :: st) ws c9 s9 := fun H locs sl hP hD hS hL => lv_icmp_ge X.1 X.2.1 hd ht (fun q => absurd q h) (fun _ => k H locs sl hP hD hS hL)
theorem i_icmp_gt_t (X : IX K cc nL own fr lo mc ms) {x y : Int32} {off : Int} {tgt : Nat} (hd : decode cc pc = .ok (.if_icmp .gt off, 3)) (ht : (pc : Int) + off = (tgt : Int)) (h : y < x) (k : Iw K tgt ls st ws c9 s9) : Iw K pc ls (.int y :: .int x :: st) ws c9 s9 := fun H locs sl hP hD hS hL => lv_icmp_gt X.1 X.2.1 hd ht (fun _ => k H locs sl hP hD hS hL) (fun q => absurd h q)
theorem i_icmp_gt_f (X : IX K cc nL own fr lo mc ms) {x y : Int32} {off : Int} {tgt : Nat} (hd : decode cc pc = .ok (.if_icmp .gt off, 3)) (ht : (pc : Int) + off = (tgt : Int)) (h : ¬ y < x) (k : Iw K (pc + 3) ls st ws c9 s9) : Iw K pc ls (.int y :: .int x :: st) ws c9 s9 := fun H locs sl hP hD hS hL => lv_icmp_gt X.1 X.2.1 hd ht (fun q => absurd q h) (fun _ => k H locs sl hP hD hS hL)
theorem i_objInit (X : IX K cc nL own fr lo mc ms) {index : Nat} {a : Nat} (h1 : Cond.methodLink own index objectInit ∈ TT) (h2 : Cond.instanceMethod objectInit ∈ TT) (h3 : Cond.code objectInit ⟨#[0xb1]⟩ 1 none ∈ TT) (hnl : ls.length = nL) (hf : 1 ≤ fr) (hlo : (st.map fun v => v.category).sum + 12 ≤ lo) (hd : decode cc pc = .ok (.invokespecial index, 3)) (k : Iw K (pc + 3) ls st ws c9 s9) : Iw K pc ls (.ref a :: st) ws c9 s9 := fun H locs sl hP hD hS hL =>
  W.objInit X.1 X.2.1 X.2.2.2.1 (X.2.2.2.2.1 _ h1) (X.2.2.2.2.1 _ h2) (X.2.2.2.2.1 _ h3) rfl (by rw [X.2.2.1, ← hnl]; exact hL.1) rfl hd (Nat.le_trans hf X.2.2.2.2.2.2.2.1.1) (by simpa [JFrame.monitorRoom] using Nat.le_trans hlo X.2.2.2.2.2.2.2.1.2.1) (W.eq (g2 := F0 (km K) (pc + 3) sl st) rfl (k H locs sl hP hD hS hL))
theorem i_new (X : IX K cc nL own fr lo mc ms) {C : String} {T : u_T} {N ci index : Nat} {fs : List Value} (ty : Nat → FieldType) (hin : ∀ w ∈ u_ws C T N, w ∈ TT) (hty : ∀ k, k < N → parseFieldDescriptor (T k).2.2.1 = some (ty k)) (h1 : Cond.classLink own index C ∈ TT) (h2 : Cond.instantiable C N ∈ TT) (h3 : Cond.initialized C ∈ TT) (hc : vwCl[ci]? = some (C, T, N)) (hfs : ∀ j, j < N → defaultValue (ty j) = vp_V fs j) (hcm : c9 + 1 ≤ mc) (hsm : s9 + N ≤ ms) (hd : decode cc pc = .ok (.new index, 3))
    (k : ∀ q, Iw K (pc + 3) ls (.ref q :: st) (ws ++ [(q, .inr (ci, fs))]) (c9 + 1) (s9 + N)) : Iw K pc ls st ws c9 s9 := fun H locs sl hP hD hS hL =>
  va_new (ci := ci) (fs := fs) X.1 X.2.1 X.2.2.2.2.1 hin ty hty X.2.2.2.1 (X.2.2.2.2.1 _ h1) (X.2.2.2.2.1 _ h2) (X.2.2.2.2.1 _ h3) X.2.2.2.2.2.1 hP hD hS X.2.2.2.2.2.2.1 hc hfs (Nat.le_trans hcm X.2.2.2.2.2.2.2.1.2.2.1) (Nat.le_trans hsm X.2.2.2.2.2.2.2.1.2.2.2) hd (fun q H1 hP1 hD1 hS1 => k q H1 locs sl hP1 hD1 hS1 hL)
/-- the class of an array, by its name -/
theorem i_cid {t : Nat} {ty : FieldType} {cA : ClassId} (X : IX K cc nL own fr lo mc ms) (ht : (jtys (kc K))[t]? = some (kc K t, ty)) (hp : refKind ty = false) (h : va_RA (ks K) cA ty) : cA = kc K t := by
  have h2 := (X.2.2.2.2.2.1.2 t _ ht).2
  cases ty <;> first | (cases hp; done) | exact Option.some.inj (Eq.trans (Eq.symm h) h2)
theorem i_newa (X : IX K cc nL own fr lo mc ms) {atype : ArrayType} (t : Nat) {ty : FieldType} {n : Int32} {N : Nat} {a0 : vp_A} (hac : Cond.arrayClass (newarray.typeOf atype) ∈ TT) (hty : newarray.typeOf atype = ty) (ht : (jtys (kc K))[t]? = some (kc K t, ty)) (hp : refKind ty = false) (ha : ∀ cA : ClassId, vp_cell cA a0 = arrV cA N (fun _ => defaultValue ty)) (hn : ¬ n < 0) (hN : n.toNatClampNeg = N) (hb : N * componentBytes ty ≤ 536870912) (hcm : c9 + 1 ≤ mc) (hsm : s9 + N ≤ ms) (hd : decode cc pc = .ok (.newarray atype, 2))
    (k : ∀ q, Iw K (pc + 2) ls (.ref q :: st) (ws ++ [(q, .inl (kc K t, a0))]) (c9 + 1) (s9 + N)) : Iw K pc ls (.int n :: st) ws c9 s9 := fun H locs sl hP hD hS hL =>
  va_newa X.1 X.2.1 (X.2.2.2.2.1 _ hac) hty X.2.2.2.2.2.1 hP hD hS X.2.2.2.2.2.2.1 ha hn hN hb (Nat.le_trans hcm X.2.2.2.2.2.2.2.1.2.2.1) (Nat.le_trans hsm X.2.2.2.2.2.2.2.1.2.2.2) hd (fun q cA H1 hK1 hP1 hD1 hS1 => by
    have e : cA = kc K t := i_cid X ht hp (hK1.2 (jtys (kc K)).length (cA, ty) (by simp)).2
    subst e
    exact k q H1 locs sl hP1 hD1 hS1 hL)
theorem i_newq (X : IX K cc nL own fr lo mc ms) (t : Nat) {C : String} {index : Nat} {n : Int32} {N : Nat} (h1 : Cond.classLink own index C ∈ TT) (hov : va_AO C (ks K)) (ht : (jtys (kc K))[t]? = some (kc K t, .object C)) (hn : ¬ n < 0) (hN : n.toNatClampNeg = N) (hb : N * 4 ≤ 536870912) (hcm : c9 + 1 ≤ mc) (hsm : s9 + N ≤ ms) (hd : decode cc pc = .ok (.anewarray index, 3))
    (k : ∀ q, Iw K (pc + 3) ls (.ref q :: st) (ws ++ [(q, .inl (kc K t, N, .inr (.inr (.inr (.inr (fun _ => none))))))]) (c9 + 1) (s9 + N)) : Iw K pc ls (.int n :: st) ws c9 s9 := fun H locs sl hP hD hS hL =>
  va_newq X.1 X.2.1 X.2.2.2.1 (X.2.2.2.2.1 _ h1) hov X.2.2.2.2.2.1 hP hD hS X.2.2.2.2.2.2.1 hn hN hb (Nat.le_trans hcm X.2.2.2.2.2.2.2.1.2.2.1) (Nat.le_trans hsm X.2.2.2.2.2.2.2.1.2.2.2) hd (fun q cA H1 hK1 hP1 hD1 hS1 => by
    have h2 := (X.2.2.2.2.2.1.2 t _ ht).2
    have h3 := (hK1.2 (jtys (kc K)).length (cA, .object C) (by simp)).2
    obtain ⟨_, _, _, _, _, e1⟩ := h2
    obtain ⟨_, _, _, _, _, e2⟩ := h3
    have e : cA = kc K t := Option.some.inj (e2.symm.trans e1)
    subst e
    exact k q H1 locs sl hP1 hD1 hS1 hL)
theorem i_mna (X : IX K cc nL own fr lo mc ms) {index : Nat} {n k9 : Int32} {N M : Nat} (h1 : Cond.classLink own index "[[I" ∈ TT) (hac : Cond.arrayClass .int ∈ TT) (hn : ¬ n < 0) (hk : ¬ k9 < 0) (hN : n.toNatClampNeg = N) (hM : k9.toNatClampNeg = M) (hb1 : N * 4 ≤ 536870912) (hb2 : M * 4 ≤ 536870912) (hcm : c9 + (1 + N) ≤ mc) (hsm : s9 + (N + N * M) ≤ ms) (hd : decode cc pc = .ok (.multianewarray index 2, 4))
    (k : ∀ (q : Nat) (r : Nat → Nat), Iw K (pc + 4) ls (.ref q :: st) ((ws ++ [(q, .inl (kc K 6, N, .inr (.inr (.inr (.inr (fun i => if i < N then some (r i) else none))))))]) ++ ((List.range N).map r).map (fun a => (a, .inl (kc K 1, M, .inl (fun _ => 0))))) (c9 + 1 + N) (s9 + N + N * M)) : Iw K pc ls (.int k9 :: .int n :: st) ws c9 s9 := fun H locs sl hP hD hS hL => by
  have hI1 : (ks K).vm.findClass "[I" = some (kc K 1) := va_nm_int ((X.2.2.2.2.2.1.2 1 _ rfl).2)
  refine va_mna (X := ws) (L := []) (f := fun _ => .inl (kc K 1, M, .inl (fun _ => 0))) (ty := .int) (cy := kc K 1) (z := (M, .inl (fun _ => 0))) X.1 X.2.1 X.2.2.2.1 (X.2.2.2.2.1 _ h1) X.2.2.2.2.2.2.2.2.2.2.2 (X.2.2.2.2.1 _ hac) hI1 X.2.2.2.2.2.1 (by simpa [va_pl] using hP) (by simpa [va_pl] using hD) hS X.2.2.2.2.2.2.1 hn hk hN hM hb1 hb2 (by omega) rfl rfl (Nat.le_trans hcm X.2.2.2.2.2.2.2.1.2.2.1) (Nat.le_trans hsm X.2.2.2.2.2.2.2.1.2.2.2) (fun c => by rw [vp_cell_i, ← arrV_new]; rfl) hd (fun q r cA H1 _ _ hK1 hP1 hD1 hS1 => ?_)
  have h2 := (X.2.2.2.2.2.1.2 6 _ rfl).2
  have h3 := (hK1.2 (jtys (kc K)).length (cA, .array .int) (by simp)).2
  have e : cA = kc K 6 := Option.some.inj (Eq.trans (Eq.symm h3) h2)
  subst e
  have hpl : va_pl ([] ++ (List.range N).map r) (vr_up (fun _ => .inl (kc K 1, M, .inl (fun _ => 0))) ((List.range N).map r) (.inl (kc K 1, (M, .inl (fun _ => 0))))) = ((List.range N).map r).map (fun a => (a, .inl (kc K 1, M, .inl (fun _ => 0)))) := by
    unfold va_pl
    rw [List.nil_append]
    apply List.map_congr_left
    intro a ha
    rw [vr_up_in ha]
  rw [hpl] at hP1 hD1
  exact k q r H1 locs sl hP1 hD1 hS1 hL
theorem i_putF (X : IX K cc nL own fr lo mc ms) {C : String} {T : u_T} {N ci index j a v : Nat} {fs : List Value} (p0 : Nat) (ty0 : Nat → FieldType) (hin : ∀ w ∈ u_ws C T N, w ∈ TT) (hty : ∀ k, k < N → parseFieldDescriptor (T k).2.2.1 = some (ty0 k)) (hnm : ∀ a, a < N → ∀ b, b < N → a ≠ b → (T a).2.1 ≠ (T b).2.1) (hname : (kme K).name = "<init>") (he : ws[p0]? = some (a, .inr (ci, fs))) (hc : vwCl[ci]? = some (C, T, N)) (hj : j < N) (h1 : Cond.fieldLink own index C (T j).2.1 (T j).2.2.1 ∈ TT) (hC : (T j).1 = C) (hown : C = own) (hfin : (T j).2.2.2 = true) {ty : FieldType} (hdt : parseFieldDescriptor (T j).2.2.1 = some ty) (hnr : narrow ty (.ref v) = .ref v) (hfi : fits ty (.ref v) = true) (hl : j < fs.length) (hw : ws.set p0 (a, .inr (ci, fs.set j (.ref v))) = ws') (hd : decode cc pc = .ok (.putfield index, 3)) (k : Iw K (pc + 3) ls st ws' c9 s9) : Iw K pc ls (.ref v :: .ref a :: st) ws c9 s9 := fun H locs sl hP hD hS hL =>
  va_putF (ci := ci) (v := .ref v) (ty := ty) X.1 X.2.1 X.2.2.2.2.1 hin ty0 hty hnm X.2.2.2.1 X.2.2.2.2.2.1 hP hD hS p0 he hc j hj (X.2.2.2.2.1 _ h1) (fun x h => by rw [hC] at h; exact h) hfin hname (hC.trans hown) hdt hnr hfi hl hd (fun H1 locs1 hP1 hD1 hS1 => k H1 locs1 sl (by rw [← hw]; exact hP1) (by rw [← hw]; exact hD1) hS1 hL)
theorem i_getR (X : IX K cc nL own fr lo mc ms) {C : String} {T : u_T} {N ci index j a v : Nat} {fs : List Value} (p0 : Nat) (hin : ∀ w ∈ u_ws C T N, w ∈ TT) (he : ws[p0]? = some (a, .inr (ci, fs))) (hc : vwCl[ci]? = some (C, T, N)) (hj : j < N) (h1 : Cond.fieldLink own index C (T j).2.1 (T j).2.2.1 ∈ TT) (hC : (T j).1 = C) (hv : fs[j]? = some (.ref v)) (hd : decode cc pc = .ok (.getfield index, 3)) (k : Iw K (pc + 3) ls (.ref v :: st) ws c9 s9) : Iw K pc ls (.ref a :: st) ws c9 s9 := fun H locs sl hP hD hS hL =>
  va_get (ci := ci) X.1 X.2.1 X.2.2.2.2.1 hin X.2.2.2.1 X.2.2.2.2.2.1 hP p0 he hc j hj (X.2.2.2.2.1 _ h1) (fun x h => by rw [hC] at h; exact h) (v := .ref v) hv hd (k H locs sl hP hD hS hL)
theorem i_iast (X : IX K cc nL own fr lo mc ms) {a n j : Nat} {f : Nat → Int32} {i x : Int32} (p0 : Nat) (he : ws[p0]? = some (a, .inl (kc K 1, n, .inl f))) (hin : vp_in i n) (hj : i.toNatClampNeg = j) (hw : ws.set p0 (a, .inl (kc K 1, n, .inl (upd f j x))) = ws') (hd : decode cc pc = .ok (.iastore, 1)) (k : Iw K (pc + 1) ls st ws' c9 s9) : Iw K pc ls (.int x :: .int i :: .ref a :: st) ws c9 s9 := fun H locs sl hP hD hS hL =>
  va_iast X.1 X.2.1 X.2.2.2.2.2.1 hP hD hS p0 1 he rfl hin hd (fun H1 locs1 hP1 hD1 hS1 => k H1 locs1 sl (by rw [← hw, ← hj]; exact hP1) (by rw [← hw, ← hj]; exact hD1) hS1 hL)
theorem i_last (X : IX K cc nL own fr lo mc ms) {a n j : Nat} {f : Nat → Int64} {i : Int32} {x : Int64} (p0 : Nat) (he : ws[p0]? = some (a, .inl (kc K 3, n, .inr (.inl f)))) (hin : vp_in i n) (hj : i.toNatClampNeg = j) (hw : ws.set p0 (a, .inl (kc K 3, n, .inr (.inl (vp_updL f j x)))) = ws') (hd : decode cc pc = .ok (.lastore, 1)) (k : Iw K (pc + 1) ls st ws' c9 s9) : Iw K pc ls (.long x :: .int i :: .ref a :: st) ws c9 s9 := fun H locs sl hP hD hS hL =>
  va_last X.1 X.2.1 X.2.2.2.2.2.1 hP hD hS p0 3 he rfl hin hd (fun H1 locs1 hP1 hD1 hS1 => k H1 locs1 sl (by rw [← hw, ← hj]; exact hP1) (by rw [← hw, ← hj]; exact hD1) hS1 hL)
theorem i_ast (X : IX K cc nL own fr lo mc ms) {a n j v ci : Nat} {f : Nat → Option Nat} {i : Int32} {r : vw_C} {vs : List Value} (t : Nat) {E : String} (ht : (jtys (kc K))[t]? = some (kc K t, .object E)) (p0 p1 : Nat) (he : ws[p0]? = some (a, .inl (kc K t, n, .inr (.inr (.inr (.inr f)))))) (hv : ws[p1]? = some (v, .inr (ci, vs))) (hc : vwCl[ci]? = some r) (hcast : r.1 = E ∨ (r.1, E) ∈ jCast) (hin : vp_in i n) (hj : i.toNatClampNeg = j) (hw : ws.set p0 (a, .inl (kc K t, n, .inr (.inr (.inr (.inr (va_up f j (some v))))))) = ws') (hd : decode cc pc = .ok (.aastore, 1)) (k : Iw K (pc + 1) ls st ws' c9 s9) : Iw K pc ls (.ref v :: .int i :: .ref a :: st) ws c9 s9 := fun H locs sl hP hD hS hL => by
  have hany : va_Any E (ks K) H v := va_rAny X.2.2.2.2.2.1 hP hv hc (fun comp c0 e1 e2 => by
    rcases hcast with e | e
    · have hat := (X.2.2.2.2.2.1.1 ci r hc).2
      have h3 : (ks K).vm.findClass E = some ((kD K).1 ci) := by rw [← e]; exact hat.1
      have ec : comp = (kD K).1 ci := Option.some.inj (e1.symm.trans h3)
      have ec0 : c0 = (kD K).1 ci := Option.some.inj (e2.symm.trans hat.1)
      rw [ec, ec0]
      exact va_assign hat
    · obtain ⟨c1, t1, f1, f2, f3⟩ := Cond.castable_spec (va_Nw.use (A := kar K) rfl (X.2.2.2.2.2.2.2.2.1.2.1 _ e))
      cases f1.symm.trans e2
      cases f2.symm.trans e1
      exact f3)
  exact va_astqM X.1 X.2.1 X.2.2.2.2.2.1 hP hD hS p0 t he ht hany hin hd (fun H1 locs1 hP1 hD1 hS1 => k H1 locs1 sl (by rw [← hw, ← hj]; exact hP1) (by rw [← hw, ← hj]; exact hD1) hS1 hL)
end IRows
/-- a constructor's contract: its own cell, and nA new ones -/
def iPc (D : va_G) (cid : Nat → ClassId) (as : List Value) (b : Nat) (e0 : va_E) (sz : Nat) : Array Value → State → Prop := va_Pc as (fun U => U.heap.size = sz ∧ va_P D vwCl [(b, e0)] U.heap ∧ va_K D vwCl (jtys cid) U ∧ iZ U)
def iQc (D : va_G) (b : Nat) (e0 : va_E) (sz nA : Nat) (Wf : List Nat → va_W) : Array Value → State → Outcome → State → Prop := fun _ st o t => o = .returned none ∧ (∃ qs : List Nat, qs.length = nA ∧ va_P D vwCl (Wf qs) t.heap ∧ va_D (va_A [(b, e0)] sz) (Wf qs)) ∧ va_F (va_A [(b, e0)] sz) st t
def iMet (l : Launch) (D : va_G) (cid : Nat → ClassId) (y : MethodName) (cc : ByteArray) (mL fr lo mc ms : Nat) (as : List Value) (b : Nat) (e0 : va_E) (nA : Nat) (Wf : List Nat → va_W) : Prop :=
  ∀ sz : Nat, Met l y (.code y cc mL none :: TT) { frames := fr, cells := mc, slots := ms, locals := lo } (iPc D cid as b e0 sz) (iQc D b e0 sz nA Wf) mc ms (va_A [(b, e0)] sz)
def IR (K : jK) (mc ms b : Nat) (e0 : va_E) (sz nA : Nat) (Wf : List Nat → va_W) : Prop :=
  kQ K = MQ (kbe K) (iQc (kD K) b e0 sz nA Wf) (kar K) (ks K) mc ms (va_A [(b, e0)] sz) ∧ kA K = va_A [(b, e0)] sz ∧ kH K = (ks K).heap ∧ (kme K).sig.returnType = none ∧ (kme K).locks = false ∧ (kme K).name = "<init>"
theorem iMet_of {l : Launch} {D : va_G} {cid : Nat → ClassId} {y : MethodName} {cc : ByteArray} {mL fr lo mc ms : Nat} {as : List Value} {b : Nat} {e0 : va_E} {nA : Nat} {Wf : List Nat → va_W} {ls0 : List (Option Value)}
    (hy : plainName y.cls = true) (hyn : y.name = "<init>") (hn : (lg_sl as).length ≤ mL) (hls : jent as mL = ls0)
    (body : ∀ (K : jK) (sz : Nat), IX K cc mL y.cls fr lo mc ms → IR K mc ms b e0 sz nA Wf → (kl K = l ∧ kD K = D ∧ kc K = cid) → Iw K 0 ls0 [] [(b, e0)] 0 0) : iMet l D cid y cc mL fr lo mc ms as b e0 nA Wf := by
  intro sz
  refine Met.ofW (cc := cc) (maxL := mL) (ret := none) hy rfl ?_
  intro p e s m args below meth c s₁ B hml hv
  obtain ⟨rfl, hsz, hP, hK, hZ⟩ := hv
  have hts := atoms_spec (ws := (.code y cc mL none :: TT)) B.pre
  have X : IX (p, l, e, (headSpec (.code y cc mL none :: TT) { frames := fr, cells := mc, slots := ms, locals := lo }).room, s, m, as.toArray, below, meth, c, D, id, cid, s.heap, va_A [(b, e0)] sz, 0, 0, MQ below (iQc D b e0 sz nA Wf) as.toArray s mc ms (va_A [(b, e0)] sz)) cc mL y.cls fr lo mc ms :=
    ⟨B.exec, B.bytes, hml, findClass_of_methodNamed B.named, fun w h => hts w (List.mem_cons_of_mem _ h), hK, fun q h => Or.inr (by rw [← hsz]; exact h), ⟨Nat.le_refl _, Nat.le_refl _, Nat.le_refl _, Nat.le_refl _⟩, hZ⟩
  have R0 : IR (p, l, e, (headSpec (.code y cc mL none :: TT) { frames := fr, cells := mc, slots := ms, locals := lo }).room, s, m, as.toArray, below, meth, c, D, id, cid, s.heap, va_A [(b, e0)] sz, 0, 0, MQ below (iQc D b e0 sz nA Wf) as.toArray s mc ms (va_A [(b, e0)] sz)) mc ms b e0 sz nA Wf := ⟨rfl, rfl, rfl, B.returns, B.notSynchronized, (name_of_methodNamed B.named B.method).1.trans hyn⟩
  have hid : as.map (jcv id) = as := by
    conv => rhs; rw [← List.map_id as]
    apply List.map_congr_left
    intro v _
    cases v <;> rfl
  have hl := lv_entry as (n := mL) hn
  rw [lg_entry_eq]
  generalize (lg_sl as ++ List.replicate (mL - (lg_sl as).length) Slot.unset).toArray = sl at hl ⊢
  refine body _ sz X R0 ⟨rfl, rfl, rfl⟩ s.heap [] sl hP ?_ va_S.rf ?_
  · exact ⟨fun i j p q hp hq _ => by
      have h1 : i < 1 := (List.getElem?_eq_some_iff.mp hp).1
      have h2 : j < 1 := (List.getElem?_eq_some_iff.mp hq).1
      omega, fun k q hq => by
      have h1 : k < 1 := (List.getElem?_eq_some_iff.mp hq).1
      rw [show k = 0 by omega] at hq
      cases hq
      exact Or.inl ⟨0, e0, rfl⟩⟩
  · refine jassoc_back hl (by rw [← hls, jent_len hn]) (fun i v hi => ?_)
    rw [← hls] at hi
    unfold jent at hi
    by_cases hb : i < (as.flatMap fun v => if v.category = 2 then [some v, none] else [some v]).length
    · rw [List.getElem?_append_left hb] at hi
      have := jent_flat id as 0 i v hi
      rw [hid] at this
      simpa using this
    · rw [List.getElem?_append_right (by omega)] at hi
      have := List.mem_of_getElem? hi
      simp [List.mem_replicate] at this
theorem iPc_blind {D : va_G} {cid : Nat → ClassId} {as : List Value} {b : Nat} {e0 : va_E} {sz : Nat} : FrameBlind (iPc D cid as b e0 sz) := by
  intro a U g mk q
  obtain ⟨q0, q1, qP, qK, qZ⟩ := q
  exact ⟨q0, q1, qP, va_K.moved (u := U) (U := U.calling g mk a) (Vm.Alike.refl U.vm) qK, iZ.same (s := U) (U := U.calling g mk a) rfl qZ⟩
section ICalls
variable {K : jK} {cc : ByteArray} {nL : Nat} {own : String} {fr lo mc ms pc c9 s9 : Nat} {ls ls' : List (Option Value)} {st st0 : List Value} {ws ws' wr : va_W}
theorem i_vret {b sz nA : Nat} {e0 : va_E} {Wf : List Nat → va_W} (X : IX K cc nL own fr lo mc ms) (R0 : IR K mc ms b e0 sz nA Wf) (qs : List Nat) (hq : qs.length = nA) (is : List Nat) (hP9 : is.filterMap (fun i => ws[i]?) = Wf qs) (hn : va_nd is = true) (hD9 : is.map (fun i => ws[i]?) = (Wf qs).map some) (hc : c9 ≤ mc) (hs : s9 ≤ ms) (hd : decode cc pc = .ok (.return_, 1)) : Iw K pc ls [] ws c9 s9 := fun H locs sl hP hD hS hL => by
  obtain ⟨r1, r2, r3, r4, r5, r6⟩ := R0
  refine W.widen (k := mc) (n := ms) hc hs ?_
  rw [r1]
  rw [r2] at hD hS
  rw [r3] at hS
  exact W.vret X.1 X.2.1 r4 (fun t ht _ => ⟨rfl, ⟨qs, hq, by rw [ht]; exact hP.sub is hP9, hD.sub is hn hD9⟩, hS.F ht⟩) hS.2.2 hd r5
theorem i_run {mc' ms' b nA : Nat} {e0 : va_E} {Wf : List Nat → va_W} {a : Array Value} (hA : ∀ q, (kH K).size ≤ q → kA K q) (p0 : Nat) (isR : List Nat) (he : ws[p0]? = some (b, e0)) (hR : isR.map (fun i => ws[i]?) = wr.map some) (hn : va_nd isR = true) (hdis : p0 ∉ isR)
    (hr : ∀ (H : Heap) (locs : List Loc) (sl : Array Slot), va_P (kD K) vwCl [(b, e0)] H → jLv id sl ls → va_Run (kp K) (kl K) (ke K) (kR K) (ks K) (km K) (kar K) (kbe K) (kme K) (kco K) H locs c9 s9 mc' ms' (F0 (km K) pc sl st0) st (iQc (kD K) b e0 H.size nA Wf a) (va_A [(b, e0)] H.size))
    (k : ∀ qs : List Nat, qs.length = nA → Iw K (pc + 3) ls st (wr ++ Wf qs) (c9 + mc') (s9 + ms')) : Iw K pc ls st0 ws c9 s9 := by
  intro H locs sl hP hD hS hL T hT Xs
  have hC1 : [p0].map (fun i => ws[i]?) = [(b, e0)].map some := by simp [he]
  have hPc : va_P (kD K) vwCl [(b, e0)] H := hP.sub [p0] (by simp [he])
  have hFc := va_free (wc := [(b, e0)]) hD hS hA [p0] hC1
  obtain ⟨v, s0, t, T', L, h0, X', hL1, e1, e2, ⟨hv, ⟨qs, hq, hP1, hD1⟩, hz, hk⟩, stp⟩ := hr H locs sl hPc hL T hT Xs
  cases hv
  rw [h0] at hz hk
  obtain ⟨hP2, hD2⟩ := va_join (wr := wr) (w1 := Wf qs) (H1 := T'.heap) hP hD [p0] isR hC1 hR hn (fun i hi h => by rw [List.mem_singleton] at h; subst h; exact hdis hi) (fun q h1 h2 => by rw [e1]; exact hk q h1 h2) hFc (by rw [e1]; exact hP1) hD1
  have hS1 : va_S (kA K) (kH K) T'.heap (locs ++ L) := by
    rw [e1]
    refine ⟨Nat.le_trans hS.1 hz, fun q h1 h2 => ?_, fun q hq => ?_⟩
    · rw [hk q (Nat.lt_of_lt_of_le h1 hS.1) (fun z => h2 (hFc q z))]
      exact hS.2.1 q h1 h2
    · rcases List.mem_append.mp hq with h | h
      · exact hS.2.2 q h
      · exact hFc _ (hL1 q h)
  obtain ⟨t2, a1, b1⟩ := k qs hq T'.heap (locs ++ L) sl hP2 hD2 hS1 hL T' rfl X'
  exact ⟨t2, stp t2 a1, b1⟩
def iSi (own : String) (index : Nat) (y : MethodName) (cy : ByteArray) (mL n : Nat) : Prop :=
  Cond.methodLink own index y ∈ TT ∧ Cond.instanceMethod y ∈ TT ∧ Cond.initialized y.cls ∈ TT ∧ Cond.code y cy mL none ∈ TT ∧ y.name = "<init>" ∧ y.cls ≠ "java/lang/invoke/MethodHandle" ∧ y.cls ≠ "java/lang/invoke/VarHandle" ∧ (parseMethodDescriptor y.desc).map (fun d => d.parameters.length) = some n
theorem i_callI {y : MethodName} {cy : ByteArray} {mL index n fr' lo' mc' ms' b nA : Nat} {e0 : va_E} {Wf : List Nat → va_W} {as : List Value} (X : IX K cc nL own fr lo mc ms) (hsi : iSi own index y cy mL n) (p0 : Nat) (isR : List Nat) (he : ws[p0]? = some (b, e0)) (hR9 : isR.map (fun i => ws[i]?) = wr.map some) (hn9 : va_nd isR = true) (hdis : p0 ∉ isR) (hR : fr' + 1 ≤ fr ∧ 8 + (mL + 11) + lo' ≤ lo) (hn : as.length = n) (hst : st0 = as.reverse ++ .ref b :: st) (hw : (st.map fun v => v.category).sum ≤ 8) (hnl : ls.length = nL) (hd : decode cc pc = .ok (.invokespecial index, 3)) (hcm : c9 + mc' ≤ mc) (hsm : s9 + ms' ≤ ms)
    (hm : iMet (kl K) (kD K) (kc K) y cy mL fr' lo' mc' ms' (.ref b :: as) b e0 nA Wf) (k : ∀ qs : List Nat, qs.length = nA → Iw K (pc + 3) ls st (wr ++ Wf qs) (c9 + mc') (s9 + ms')) : Iw K pc ls st0 ws c9 s9 := by
  obtain ⟨w1, w2, w3, w4, w5, hdd⟩ := hsi
  refine i_run (a := (Value.ref b :: as).toArray) X.2.2.2.2.2.2.1 p0 isR he hR9 hn9 hdis (fun H locs sl hP hLv => ?_) k
  exact va_runI (As := as) (Ts := TT) ⟨X.1, X.2.1, X.2.2.1, X.2.2.2.1, X.2.2.2.2.1⟩ (hm H.size) ⟨callB_of n X.2.2.2.2.1 (tt_cons (l := []) (fun _ h => by cases h) w4) rfl rfl rfl (X.2.2.2.2.1 _ w3) (X.2.2.2.2.1 _ w1) hdd ⟨Nat.le_trans hR.1 X.2.2.2.2.2.2.2.1.1, Nat.le_trans hR.2 X.2.2.2.2.2.2.2.1.2.1⟩, w5, X.2.2.2.2.1 _ w2⟩ ⟨iPc_blind, fun U hU hW => ⟨rfl, by rw [hU], by rw [hU]; exact hP, va_K.moved hW.alike X.2.2.2.2.2.1, X.2.2.2.2.2.2.2.2.warm hW⟩⟩ rfl hn (by rw [← hnl]; exact hLv.1) hst (by simpa [JFrame.monitorRoom] using hw) hd ⟨Nat.le_trans hcm X.2.2.2.2.2.2.2.1.2.2.1, Nat.le_trans hsm X.2.2.2.2.2.2.2.1.2.2.2⟩
def iSiN (own : String) (index : Nat) (y : MethodName) (host : String) (cy : ByteArray) (mL n : Nat) : Prop :=
  (own, index, y, host) ∈ jNest ∧ Cond.instanceMethod y ∈ TT ∧ Cond.initialized y.cls ∈ TT ∧ Cond.code y cy mL none ∈ TT ∧ y.name = "<init>" ∧ y.cls ≠ "java/lang/invoke/MethodHandle" ∧ y.cls ≠ "java/lang/invoke/VarHandle" ∧ (parseMethodDescriptor y.desc).map (fun d => d.parameters.length) = some n
theorem i_callIN {y : MethodName} {host : String} {cy : ByteArray} {mL index n fr' lo' mc' ms' b nA : Nat} {e0 : va_E} {Wf : List Nat → va_W} {as : List Value} (X : IX K cc nL own fr lo mc ms) (hsi : iSiN own index y host cy mL n) (p0 : Nat) (isR : List Nat) (he : ws[p0]? = some (b, e0)) (hR9 : isR.map (fun i => ws[i]?) = wr.map some) (hn9 : va_nd isR = true) (hdis : p0 ∉ isR) (hR : fr' + 1 ≤ fr ∧ 8 + (mL + 11) + lo' ≤ lo) (hn : as.length = n) (hst : st0 = as.reverse ++ .ref b :: st) (hw : (st.map fun v => v.category).sum ≤ 8) (hnl : ls.length = nL) (hd : decode cc pc = .ok (.invokespecial index, 3)) (hcm : c9 + mc' ≤ mc) (hsm : s9 + ms' ≤ ms)
    (hm : iMet (kl K) (kD K) (kc K) y cy mL fr' lo' mc' ms' (.ref b :: as) b e0 nA Wf) (k : ∀ qs : List Nat, qs.length = nA → Iw K (pc + 3) ls st (wr ++ Wf qs) (c9 + mc') (s9 + ms')) : Iw K pc ls st0 ws c9 s9 := by
  obtain ⟨w1, w2, w3, w4, w5, hdd⟩ := hsi
  refine i_run (a := (Value.ref b :: as).toArray) X.2.2.2.2.2.2.1 p0 isR he hR9 hn9 hdis (fun H locs sl hP hLv => ?_) k
  exact va_runIN (As := as) (Ts := TT) ⟨X.1, X.2.1, X.2.2.1, X.2.2.2.1, X.2.2.2.2.1⟩ (hm H.size) ⟨va_cnB n X.2.2.2.2.1 (tt_cons (l := []) (fun _ h => by cases h) w4) rfl rfl rfl (X.2.2.2.2.2.2.2.2.1.1 _ w1) (X.2.2.2.2.1 _ w3) hdd ⟨Nat.le_trans hR.1 X.2.2.2.2.2.2.2.1.1, Nat.le_trans hR.2 X.2.2.2.2.2.2.2.1.2.1⟩, w5, X.2.2.2.2.1 _ w2⟩ ⟨iPc_blind, fun U hU hW => ⟨rfl, by rw [hU], by rw [hU]; exact hP, va_K.moved hW.alike X.2.2.2.2.2.1, X.2.2.2.2.2.2.2.2.warm hW⟩⟩ rfl hn (by rw [← hnl]; exact hLv.1) hst (by simpa [JFrame.monitorRoom] using hw) hd ⟨Nat.le_trans hcm X.2.2.2.2.2.2.2.1.2.2.1, Nat.le_trans hsm X.2.2.2.2.2.2.2.1.2.2.2⟩
end ICalls
