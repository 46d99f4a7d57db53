/-! ===== contracts over the fixed world, and calls ===== -/
def jPc (D : va_G) (ad : Nat → Nat) (cid : Nat → ClassId) (as : List Value) (σ : jMem) : Array Value → State → Prop := va_Pc (as.map (jcv ad)) (fun U => va_P D vwCl (jwd ad cid σ) U.heap ∧ va_K D vwCl (jtys cid) U ∧ jI ad ∧ jZ U)
def jMet (l : Launch) (D : va_G) (ad : Nat → Nat) (cid : Nat → ClassId) (y : MethodName) (cc : ByteArray) (mL : Nat) (ret : Option FieldType) (fr lo : Nat) (as : List Value) (σ : jMem) (r : Option Value) (σ' : jMem) : Prop :=
  Met l y (.code y cc mL ret :: TT) { frames := fr, cells := 0, slots := 0, locals := lo } (jPc D ad cid as σ) (jQc D ad cid r σ') 0 0 (jA ad)
def jent (as : List Value) (n : Nat) : List (Option Value) := (as.flatMap fun v => if v.category = 2 then [some v, none] else [some v]) ++ List.replicate (n - (lg_sl as).length) none
theorem jent_flat (ad : Nat → Nat) : ∀ (as : List Value) (k i : Nat) (v : Value), (as.flatMap fun v => if v.category = 2 then [some v, none] else [some v])[i]? = some (some v) → (k + i, jcv ad v) ∈ lv_args k (as.map (jcv ad)) := by
  intro as
  induction as with
  | nil => intro k i v h; simp at h
  | cons a as ih =>
    intro k i v h
    rw [List.flatMap_cons] at h
    by_cases c : a.category = 2
    · rw [if_pos c] at h
      match i, h with
      | 0, h =>
        simp at h
        subst h
        simp [lv_args, List.map_cons]
      | 1, h => simp at h
      | i + 2, h =>
        have h2 := ih (k + 2) i v (by simpa using h)
        have e : k + 2 + i = k + (i + 2) := by omega
        rw [e] at h2
        simp [lv_args, List.map_cons, jcat, c]
        exact h2
    · rw [if_neg c] at h
      have c1 : a.category = 1 := (lv_cat a).resolve_right c
      match i, h with
      | 0, h =>
        simp at h
        subst h
        simp [lv_args, List.map_cons]
      | i + 1, h =>
        have h2 := ih (k + 1) i v (by simpa using h)
        have e : k + 1 + i = k + (i + 1) := by omega
        rw [e] at h2
        simp [lv_args, List.map_cons, jcat, c1]
        exact h2
theorem jent_lsl (ad : Nat → Nat) (as : List Value) : (lg_sl (as.map (jcv ad))).length = (lg_sl as).length := by
  induction as with
  | nil => rfl
  | cons a as ih =>
    simp only [lg_sl, List.map_cons, List.flatMap_cons, List.length_append] at ih ⊢
    rw [ih]
    congr 1
    by_cases c : a.category = 2 <;> simp [jcat, c]
theorem jent_len {as : List Value} {n : Nat} (h : (lg_sl as).length ≤ n) : (jent as n).length = n := by
  have e : ∀ as : List Value, (as.flatMap fun v => if v.category = 2 then [some v, none] else [some v]).length = (lg_sl as).length := by
    intro as
    induction as with
    | nil => rfl
    | cons a as ih =>
      simp only [lg_sl, List.flatMap_cons, List.length_append] at ih ⊢
      rw [ih]
      congr 1
      by_cases c : a.category = 2 <;> simp [c]
  simp only [jent, List.length_append, List.length_replicate, e]
  omega
theorem jMet_of {l : Launch} {D : va_G} {ad : Nat → Nat} {cid : Nat → ClassId} {y : MethodName} {cc : ByteArray} {mL : Nat} {ret : Option FieldType} {fr lo : Nat} {as : List Value} {σ : jMem} {r : Option Value} {σ' : jMem} {ls0 : List (Option Value)}
    (hy : plainName y.cls = true) (hn : (lg_sl as).length ≤ mL) (hls : jent as mL = ls0)
    (body : ∀ K : jK, JX K cc mL y.cls fr lo → JR K ret r σ' → (kl K = l ∧ kD K = D ∧ ka K = ad ∧ kc K = cid) → J K 0 ls0 [] σ) : jMet l D ad cid y cc mL ret fr lo as σ r σ' := by
  refine Met.ofW (cc := cc) (maxL := mL) (ret := ret) hy rfl ?_
  intro p e s m args below meth c s₁ B hml hv
  obtain ⟨rfl, hP, hK, hI, hZ⟩ := hv
  have hts := atoms_spec (ws := (.code y cc mL ret :: TT)) B.pre
  have X : JX (p, l, e, (headSpec (.code y cc mL ret :: TT) { frames := fr, cells := 0, slots := 0, locals := lo }).room, s, m, (as.map (jcv ad)).toArray, below, meth, c, D, ad, cid, s.heap, jA ad, 0, 0, MQ below (jQc D ad cid r σ') (as.map (jcv ad)).toArray s 0 0 (jA ad)) cc mL y.cls fr lo :=
    ⟨B.exec, B.bytes, hml, findClass_of_methodNamed B.named, fun w h => hts w (List.mem_cons_of_mem _ h), hK, hI, fun k hk => ⟨k, hk, rfl⟩, ⟨Nat.le_refl _, Nat.le_refl _, Nat.zero_le _, Nat.zero_le _⟩, hZ⟩
  have R0 : JR (p, l, e, (headSpec (.code y cc mL ret :: TT) { frames := fr, cells := 0, slots := 0, locals := lo }).room, s, m, (as.map (jcv ad)).toArray, below, meth, c, D, ad, cid, s.heap, jA ad, 0, 0, MQ below (jQc D ad cid r σ') (as.map (jcv ad)).toArray s 0 0 (jA ad)) ret r σ' := ⟨rfl, rfl, rfl, B.returns, B.notSynchronized⟩
  have hl := lv_entry (as.map (jcv ad)) (n := mL) (by rw [jent_lsl]; exact hn)
  rw [lg_entry_eq]
  generalize (lg_sl (as.map (jcv ad)) ++ List.replicate (mL - (lg_sl (as.map (jcv ad))).length) Slot.unset).toArray = sl at hl ⊢
  refine body _ X R0 ⟨rfl, rfl, rfl, rfl⟩ s.heap [] sl hP va_S.rf ?_
  refine jassoc_back hl (by rw [← hls, jent_len hn]) (fun i v hi => ?_)
  rw [← hls] at hi
  unfold jent at hi
  by_cases hb : i < (as.flatMap fun v => if v.category = 2 then [some v, none] else [some v]).length
  · rw [List.getElem?_append_left hb] at hi
    have := jent_flat ad as 0 i v hi
    simpa using this
  · rw [List.getElem?_append_right (by omega)] at hi
    have := List.mem_of_getElem? hi
    simp [List.mem_replicate] at this
theorem jPc_blind {D : va_G} {ad : Nat → Nat} {cid : Nat → ClassId} {as : List Value} {σ : jMem} : FrameBlind (jPc D ad cid as σ) := by
  intro a U g mk q
  obtain ⟨q0, qP, qK, qI, qZ⟩ := q
  exact ⟨q0, qP, va_K.moved (u := U) (U := U.calling g mk a) (Vm.Alike.refl U.vm) qK, qI, jZ.same (s := U) (U := U.calling g mk a) rfl qZ⟩
section JCalls
variable {K : jK} {cc : ByteArray} {nL : Nat} {own : String} {fr lo pc : Nat} {ls ls' : List (Option Value)} {st st0 : List Value} {σ σ' : jMem} {r : Option Value}
theorem j_run {a : Array Value} (hA : ∀ k, k < jN → kA K (ka K k)) (hr : ∀ (H : Heap) (locs : List Loc) (sl : Array Slot), va_P (kD K) vwCl (jwd (ka K) (kc K) σ) H → va_S (kA K) (kH K) H locs → jLv (ka K) sl ls → va_Run (kp K) (kl K) (ke K) (kR K) (ks K) (km K) (kar K) (kbe K) (kme K) (kco K) H locs (kce K) (ksl K) 0 0 (F0 (km K) pc sl (st0.map (jcv (ka K)))) (st.map (jcv (ka K))) (jQc (kD K) (ka K) (kc K) r σ' a) (jA (ka K)))
    (hrv : ∀ v, r = some v → jcv (ka K) v = v) (kk : J K (pc + 3) ls (r.toList ++ st) σ') : J K pc ls st0 σ := by
  intro H locs sl hP hS hLv T hT Xs
  obtain ⟨v, s0, t, T', L, h0, X', hL, e1, e2, ⟨hv, hP1, hz, hk⟩, stp⟩ := hr H locs sl hP hS hLv T hT Xs
  cases hv
  rw [h0] at hz hk
  have hS1 : va_S (kA K) (kH K) T'.heap (locs ++ L) := by
    rw [e1]
    refine ⟨Nat.le_trans hS.1 hz, fun q h1 h2 => ?_, fun q hq => ?_⟩
    · rw [hk q (Nat.lt_of_lt_of_le h1 hS.1) (fun z => h2 (by obtain ⟨k, z1, z2⟩ := z; rw [z2]; exact hA k z1))]
      exact hS.2.1 q h1 h2
    · rcases List.mem_append.mp hq with h | h
      · exact hS.2.2 q h
      · obtain ⟨k, z1, z2⟩ := hL q h
        rw [z2]
        exact hA k z1
  have hmap : (r.toList ++ st).map (jcv (ka K)) = r.toList ++ st.map (jcv (ka K)) := by
    rw [List.map_append]
    cases hr9 : r with
    | none => rfl
    | some w => simp [hrv w hr9]
  have k2 := kk T'.heap (locs ++ L) sl (by rw [e1]; exact hP1) hS1 hLv
  unfold jW at k2
  rw [hmap] at k2
  obtain ⟨t2, a1, b1⟩ := k2 T' rfl X'
  exact ⟨t2, stp t2 a1, b1⟩
theorem jcats (f : Nat → Nat) (st : List Value) : ((st.map (jcv f)).map fun v => v.category).sum = (st.map fun v => v.category).sum := by
  rw [List.map_map]
  congr 1
  apply List.map_congr_left
  intro v _
  exact jcat _ v
theorem jPre {as : List Value} (X : JX K cc nL own fr lo) {H : Heap} (hP : va_P (kD K) vwCl (jwd (ka K) (kc K) σ) H) : ∀ U : State, U.heap = H → (ks K).WarmedH U.vm → jPc (kD K) (ka K) (kc K) as σ (as.map (jcv (ka K))).toArray U := fun U hU hW =>
  ⟨rfl, by rw [hU]; exact hP, va_K.moved hW.alike X.2.2.2.2.2.1, X.2.2.2.2.2.2.1, X.2.2.2.2.2.2.2.2.2.warm hW⟩
/-- what a site says: static calls within a class, or of another class -/
def jSiS (own : String) (index : Nat) (y : MethodName) (cy : ByteArray) (mL : Nat) (ret : Option FieldType) (n : Nat) : Prop :=
  Cond.methodLink own index y ∈ TT ∧ Cond.static y ∈ TT ∧ Cond.initialized y.cls ∈ TT ∧ Cond.code y cy mL ret ∈ TT ∧ y.cls ≠ "java/lang/invoke/MethodHandle" ∧ y.cls ≠ "java/lang/invoke/VarHandle" ∧ (parseMethodDescriptor y.desc).map (fun d => d.parameters.length) = some n
theorem jCallB {y : MethodName} {cy : ByteArray} {mL index n fr' lo' : Nat} {ret : Option FieldType} (X : JX K cc nL own fr lo) (h1 : Cond.methodLink own index y ∈ TT) (h2 : Cond.initialized y.cls ∈ TT) (h3 : Cond.code y cy mL ret ∈ TT) (hd : y.cls ≠ "java/lang/invoke/MethodHandle" ∧ y.cls ≠ "java/lang/invoke/VarHandle" ∧ (parseMethodDescriptor y.desc).map (fun d => d.parameters.length) = some n) (hR : fr' + 1 ≤ fr ∧ 8 + (mL + 11) + lo' ≤ lo) :
    CallB (kR K) (ks K) (kar K) own index y cy mL ret (.code y cy mL ret :: TT) { frames := fr', cells := 0, slots := 0, locals := lo' } 0 0 n :=
  callB_of n X.2.2.2.2.1 (tt_cons (l := []) (fun _ h => by cases h) h3) rfl rfl rfl (X.2.2.2.2.1 _ h2) (X.2.2.2.2.1 _ h1) hd ⟨Nat.le_trans hR.1 X.2.2.2.2.2.2.2.2.1.1, Nat.le_trans hR.2 X.2.2.2.2.2.2.2.2.1.2.1⟩
theorem jFix (X : JX K cc nL own fr lo) : CallFix (kp K) (km K) (kco K) cc nL (ks K) (kar K) TT own := ⟨X.1, X.2.1, X.2.2.1, X.2.2.2.1, X.2.2.2.2.1⟩
theorem jfits (X : JX K cc nL own fr lo) : kce K + 0 ≤ (kR K).cells ∧ ksl K + 0 ≤ (kR K).slots := ⟨X.2.2.2.2.2.2.2.2.1.2.2.1, X.2.2.2.2.2.2.2.2.1.2.2.2⟩
theorem j_callS {y : MethodName} {cy : ByteArray} {mL index n fr' lo' : Nat} {ret : Option FieldType} {as : List Value} (X : JX K cc nL own fr lo) (hsi : jSiS own index y cy mL ret n) (hR : fr' + 1 ≤ fr ∧ 8 + (mL + 11) + lo' ≤ lo) (hn : as.length = n) (hst : st0 = as.reverse ++ st) (hw : (st.map fun v => v.category).sum ≤ 8) (hnl : ls.length = nL) (hd : decode cc pc = .ok (.invokestatic index, 3)) (hrv : ∀ v, r = some v → jcv (ka K) v = v)
    (hm : jMet (kl K) (kD K) (ka K) (kc K) y cy mL ret fr' lo' as σ r σ') {st1 : List Value} (h1 : r.toList ++ st = st1) (kk : J K (pc + 3) ls st1 σ') : J K pc ls st0 σ := by
  subst h1
  obtain ⟨w1, w2, w3, w4, hdd⟩ := hsi
  refine j_run (a := (as.map (jcv (ka K))).toArray) X.2.2.2.2.2.2.2.1 (fun H locs sl hP hS hLv => ?_) hrv kk
  exact va_runS (As := as.map (jcv (ka K))) (jFix X) hm ⟨jCallB X w1 w3 w4 hdd hR, X.2.2.2.2.1 _ w2⟩ ⟨jPc_blind, jPre X hP⟩ rfl (by rw [List.length_map]; exact hn) (by rw [← hnl]; exact hLv.1) (by rw [hst]; simp) (by rw [jcats]; simpa [JFrame.monitorRoom] using hw) hd (jfits X)
def jSiV (own : String) (index : Nat) (y : MethodName) (cy : ByteArray) (mL : Nat) (ret : Option FieldType) (n : Nat) : Prop :=
  Cond.methodLink own index y ∈ TT ∧ Cond.instanceMethod y ∈ TT ∧ Cond.selects y.cls y y ∈ TT ∧ Cond.initialized y.cls ∈ TT ∧ Cond.code y cy mL ret ∈ TT ∧ y.cls ≠ "java/lang/invoke/MethodHandle" ∧ y.cls ≠ "java/lang/invoke/VarHandle" ∧ (parseMethodDescriptor y.desc).map (fun d => d.parameters.length) = some n
theorem jrecv {k ci : Nat} {fs : List (Option Nat)} {q : vw_C} {H : Heap} (X : JX K cc nL own fr lo) (hk : k < jN) (hL : jL k = (0, ci, fs)) (hc : vwCl[ci]? = some q) (hP : va_P (kD K) vwCl (jwd (ka K) (kc K) σ) H) : ∃ cell : Cell, H[ka K k]? = some cell ∧ cell.vm.isStatics = false ∧ (ks K).vm.findClass q.1 = some cell.cls :=
  va_recv X.2.2.2.2.2.1 hP (q0 := k) hc (by rw [jwd_at hk, hL, jcell_o])
theorem j_callV {y : MethodName} {cy : ByteArray} {mL index n fr' lo' k ci : Nat} {ret : Option FieldType} {as : List Value} {fs : List (Option Nat)} {q : vw_C} (X : JX K cc nL own fr lo) (hk : k < jN) (hL : jL k = (0, ci, fs)) (hc : vwCl[ci]? = some q) (hq : q.1 = y.cls) (hsi : jSiV own index y cy mL ret n) (hR : fr' + 1 ≤ fr ∧ 8 + (mL + 11) + lo' ≤ lo) (hn : as.length = n) (hst : st0 = as.reverse ++ .ref k :: st) (hw : (st.map fun v => v.category).sum ≤ 8) (hnl : ls.length = nL) (hd : decode cc pc = .ok (.invokevirtual index, 3)) (hrv : ∀ v, r = some v → jcv (ka K) v = v)
    (hm : jMet (kl K) (kD K) (ka K) (kc K) y cy mL ret fr' lo' (.ref k :: as) σ r σ') {st1 : List Value} (h1 : r.toList ++ st = st1) (kk : J K (pc + 3) ls st1 σ') : J K pc ls st0 σ := by
  subst h1
  obtain ⟨w1, w2, w3, w4, w5, hdd⟩ := hsi
  refine j_run (a := (Value.ref (ka K k) :: as.map (jcv (ka K))).toArray) X.2.2.2.2.2.2.2.1 (fun H locs sl hP hS hLv => ?_) hrv kk
  have hrc := jrecv X hk hL hc hP
  rw [hq] at hrc
  exact va_runV (As := as.map (jcv (ka K))) (jFix X) hm ⟨jCallB X w1 w4 w5 hdd hR, X.2.2.2.2.1 _ w2, X.2.2.2.2.1 _ w3⟩ ⟨jPc_blind, hrc, jPre (as := .ref k :: as) X hP⟩ rfl (by rw [List.length_map]; exact hn) (by rw [← hnl]; exact hLv.1) (by rw [hst]; simp [jcv]) (by rw [jcats]; simpa [JFrame.monitorRoom] using hw) hd (jfits X)
/-- a call of a method that the receiver's class inherits, or overrides: x is named, y runs, on an object of class C -/
def jSiU (own : String) (index : Nat) (C : String) (x y : MethodName) (cy : ByteArray) (mL : Nat) (ret : Option FieldType) (n : Nat) : Prop :=
  Cond.methodLink own index x ∈ TT ∧ Cond.sameMethod x.cls x.cls x.name x.desc ∈ TT ∧ Cond.instanceMethod x ∈ TT ∧ (∃ b0 m0 r0, Cond.code x b0 m0 r0 ∈ TT) ∧ Cond.selects C x y ∈ TT ∧ Cond.instanceMethod y ∈ TT ∧ Cond.initialized y.cls ∈ TT ∧ Cond.code y cy mL ret ∈ TT ∧ x.cls ≠ "java/lang/invoke/MethodHandle" ∧ x.cls ≠ "java/lang/invoke/VarHandle" ∧ (parseMethodDescriptor x.desc).map (fun d => d.parameters.length) = some n
theorem j_callU {x y : MethodName} {cy : ByteArray} {mL index n fr' lo' k ci : Nat} {ret : Option FieldType} {as : List Value} {fs : List (Option Nat)} {q : vw_C} (X : JX K cc nL own fr lo) (hk : k < jN) (hL : jL k = (0, ci, fs)) (hc : vwCl[ci]? = some q) (hsi : jSiU own index q.1 x y cy mL ret n) (hR : fr' + 1 ≤ fr ∧ 8 + (mL + 11) + lo' ≤ lo) (hn : as.length = n) (hst : st0 = as.reverse ++ .ref k :: st) (hw : (st.map fun v => v.category).sum ≤ 8) (hnl : ls.length = nL) (hd : decode cc pc = .ok (.invokevirtual index, 3)) (hrv : ∀ v, r = some v → jcv (ka K) v = v)
    (hm : jMet (kl K) (kD K) (ka K) (kc K) y cy mL ret fr' lo' (.ref k :: as) σ r σ') {st1 : List Value} (h1 : r.toList ++ st = st1) (kk : J K (pc + 3) ls st1 σ') : J K pc ls st0 σ := by
  subst h1
  obtain ⟨w1, w2, w3, ⟨b0, m0, r0, w4⟩, w5, w6, w7, w8, hdd⟩ := hsi
  refine j_run (a := (Value.ref (ka K k) :: as.map (jcv (ka K))).toArray) X.2.2.2.2.2.2.2.1 (fun H locs sl hP hS hLv => ?_) hrv kk
  have hrc := jrecv X hk hL hc hP
  have cw : va_CU (kR K) (ks K) (kar K) own q.1 x.cls index x y cy mL ret (.code y cy mL ret :: TT) { frames := fr', cells := 0, slots := 0, locals := lo' } 0 0 n :=
    va_cwO n X.2.2.2.2.1 (tt_cons (l := [.methodLink own index x, .sameMethod x.cls x.cls x.name x.desc, .instanceMethod ⟨x.cls, x.name, x.desc⟩, .selects q.1 x y, .instanceMethod y, .initialized y.cls]) (fun w h => by
      simp only [List.mem_cons, List.not_mem_nil, or_false] at h
      rcases h with rfl | rfl | rfl | rfl | rfl | rfl
      · exact w1
      · exact w2
      · exact w3
      · exact w5
      · exact w6
      · exact w7) w8) rfl rfl rfl (h0 := w4) hdd ⟨Nat.le_trans hR.1 X.2.2.2.2.2.2.2.2.1.1, Nat.le_trans hR.2 X.2.2.2.2.2.2.2.2.1.2.1⟩
  exact va_runU (As := as.map (jcv (ka K))) (jFix X) hm cw ⟨jPc_blind, hrc, jPre (as := .ref k :: as) X hP⟩ rfl (by rw [List.length_map]; exact hn) (by rw [← hnl]; exact hLv.1) (by rw [hst]; simp [jcv]) (by rw [jcats]; simpa [JFrame.monitorRoom] using hw) hd (jfits X)
/-- super.m(..) -/
def jSiP (own : String) (index : Nat) (y : MethodName) (cy : ByteArray) (mL : Nat) (ret : Option FieldType) (n : Nat) : Prop :=
  Cond.methodLink own index y ∈ TT ∧ Cond.sameMethod y.cls y.cls y.name y.desc ∈ TT ∧ Cond.superclass own y.cls ∈ TT ∧ Cond.instanceMethod y ∈ TT ∧ Cond.initialized y.cls ∈ TT ∧ Cond.code y cy mL ret ∈ TT ∧ y.name ≠ "<init>" ∧ (parseMethodDescriptor y.desc).map (fun d => d.parameters.length) = some n
theorem j_callP {y : MethodName} {cy : ByteArray} {mL index n fr' lo' k ci : Nat} {ret : Option FieldType} {as : List Value} {fs : List (Option Nat)} {q : vw_C} (X : JX K cc nL own fr lo) (hk : k < jN) (hL : jL k = (0, ci, fs)) (hc : vwCl[ci]? = some q) (hsi : jSiP own index y cy mL ret n) (hR : fr' + 1 ≤ fr ∧ 8 + (mL + 11) + lo' ≤ lo) (hn : as.length = n) (hst : st0 = as.reverse ++ .ref k :: st) (hw : (st.map fun v => v.category).sum ≤ 8) (hnl : ls.length = nL) (hd : decode cc pc = .ok (.invokespecial index, 3)) (hrv : ∀ v, r = some v → jcv (ka K) v = v)
    (hm : jMet (kl K) (kD K) (ka K) (kc K) y cy mL ret fr' lo' (.ref k :: as) σ r σ') {st1 : List Value} (h1 : r.toList ++ st = st1) (kk : J K (pc + 3) ls st1 σ') : J K pc ls st0 σ := by
  subst h1
  obtain ⟨w1, w2, w3, w4, w5, w6, hdd⟩ := hsi
  refine j_run (a := (Value.ref (ka K k) :: as.map (jcv (ka K))).toArray) X.2.2.2.2.2.2.2.1 (fun H locs sl hP hS hLv => ?_) hrv kk
  have hrc := jrecv X hk hL hc hP
  have cw : va_CS (kR K) (ks K) (kar K) own index y cy mL ret (.code y cy mL ret :: TT) { frames := fr', cells := 0, slots := 0, locals := lo' } 0 0 n :=
    va_cwSU n X.2.2.2.2.1 (tt_cons (l := [.methodLink own index y, .sameMethod y.cls y.cls y.name y.desc, .superclass own y.cls, .instanceMethod y, .initialized y.cls]) (fun w h => by
      simp only [List.mem_cons, List.not_mem_nil, or_false] at h
      rcases h with rfl | rfl | rfl | rfl | rfl
      · exact w1
      · exact w2
      · exact w3
      · exact w4
      · exact w5) w6) rfl rfl rfl hdd ⟨Nat.le_trans hR.1 X.2.2.2.2.2.2.2.2.1.1, Nat.le_trans hR.2 X.2.2.2.2.2.2.2.2.1.2.1⟩
  exact va_runSU (As := as.map (jcv (ka K))) (C := q.1) (X.2.2.2.2.2.1.1 ci q hc).2 (jFix X) hm cw ⟨jPc_blind, hrc, jPre (as := .ref k :: as) X hP⟩ rfl (by rw [List.length_map]; exact hn) (by rw [← hnl]; exact hLv.1) (by rw [hst]; simp [jcv]) (by rw [jcats]; simpa [JFrame.monitorRoom] using hw) hd (jfits X)
/-- a nest mate's private static method -/
def jSiN (own : String) (index : Nat) (y : MethodName) (host : String) (cy : ByteArray) (mL : Nat) (ret : Option FieldType) (n : Nat) : Prop :=
  (own, index, y, host) ∈ jNest ∧ Cond.static y ∈ TT ∧ Cond.initialized y.cls ∈ TT ∧ Cond.code y cy mL ret ∈ TT ∧ y.cls ≠ "java/lang/invoke/MethodHandle" ∧ y.cls ≠ "java/lang/invoke/VarHandle" ∧ (parseMethodDescriptor y.desc).map (fun d => d.parameters.length) = some n
theorem j_callN {y : MethodName} {host : String} {cy : ByteArray} {mL index n fr' lo' : Nat} {ret : Option FieldType} {as : List Value} (X : JX K cc nL own fr lo) (hsi : jSiN own index y host cy mL ret n) (hR : fr' + 1 ≤ fr ∧ 8 + (mL + 11) + lo' ≤ lo) (hn : as.length = n) (hst : st0 = as.reverse ++ st) (hw : (st.map fun v => v.category).sum ≤ 8) (hnl : ls.length = nL) (hd : decode cc pc = .ok (.invokestatic index, 3)) (hrv : ∀ v, r = some v → jcv (ka K) v = v)
    (hm : jMet (kl K) (kD K) (ka K) (kc K) y cy mL ret fr' lo' as σ r σ') {st1 : List Value} (h1 : r.toList ++ st = st1) (kk : J K (pc + 3) ls st1 σ') : J K pc ls st0 σ := by
  subst h1
  obtain ⟨w1, w2, w3, w4, hdd⟩ := hsi
  refine j_run (a := (as.map (jcv (ka K))).toArray) X.2.2.2.2.2.2.2.1 (fun H locs sl hP hS hLv => ?_) hrv kk
  exact va_runSN (As := as.map (jcv (ka K))) (jFix X) hm ⟨va_cnB n X.2.2.2.2.1 (tt_cons (l := []) (fun _ h => by cases h) w4) rfl rfl rfl (X.2.2.2.2.2.2.2.2.2.1 _ w1) (X.2.2.2.2.1 _ w3) hdd ⟨Nat.le_trans hR.1 X.2.2.2.2.2.2.2.2.1.1, Nat.le_trans hR.2 X.2.2.2.2.2.2.2.2.1.2.1⟩, X.2.2.2.2.1 _ w2, trivial⟩ ⟨jPc_blind, jPre X hP⟩ rfl (by rw [List.length_map]; exact hn) (by rw [← hnl]; exact hLv.1) (by rw [hst]; simp) (by rw [jcats]; simpa [JFrame.monitorRoom] using hw) hd (jfits X)
def jj {α β : Type} (rest : β → jMem → Option α) (body : (β → jMem → Option α) → Option α) : Option α := body rest
theorem j_join {α β : Type} {rest : β → jMem → Option α} {body : (β → jMem → Option α) → Option α} {r : α} {pcJ : Nat} {lsJ : β → List (Option Value)} {stJ : β → List Value} (h : jj rest body = some r) (k1 : ∀ q σ', rest q σ' = some r → J K pcJ (lsJ q) (stJ q) σ') (k2 : ∀ rest' : β → jMem → Option α, (∀ q σ', rest' q σ' = some r → J K pcJ (lsJ q) (stJ q) σ') → body rest' = some r → J K pc ls st σ) : J K pc ls st σ := k2 rest k1 h
def jloop {α S : Type} (body : (S → jMem → Option α) → S → jMem → Option α) : Nat → S → jMem → Option α
  | 0, _, _ => none
  | n + 1, s, σ => body (jloop body n) s σ
def jFU : Nat := 5000
/-- a loop that may also end the method: go on behind it, or be at the end -/
def jbr {α β γ : Type} (x : Option ((β × jMem) ⊕ γ)) (f : β → jMem → Option α) (g : γ → Option α) : Option α := match x with
  | none => none
  | some (.inl q) => f q.1 q.2
  | some (.inr q) => g q
theorem jbr_some {α β γ : Type} {x : Option ((β × jMem) ⊕ γ)} {f : β → jMem → Option α} {g : γ → Option α} {r : α} (h : jbr x f g = some r) : ∃ o, x = some o ∧ (∀ q, o = .inl q → f q.1 q.2 = some r) ∧ (∀ q, o = .inr q → g q = some r) := by
  cases x with
  | none => cases h
  | some o =>
    refine ⟨o, rfl, fun q e => ?_, fun q e => ?_⟩
    · subst e; exact h
    · subst e; exact h
theorem jisb_n {v : Int32} (h : jisb v = true) : narrow .boolean (.int v) = .int v := by
  simp only [jisb, Bool.or_eq_true, beq_iff_eq] at h
  rcases h with rfl | rfl <;> rfl
theorem jisb_f {v : Int32} (h : jisb v = true) : fits .boolean (.int v) = true := by
  simp only [jisb, Bool.or_eq_true, beq_iff_eq] at h
  rcases h with rfl | rfl <;> rfl
theorem jrv_i {ad : Nat → Nat} {x : Int32} : ∀ v, some (Value.int x) = some v → jcv ad v = v := fun v h => by cases h; rfl
theorem jrv_l {ad : Nat → Nat} {x : Int64} : ∀ v, some (Value.long x) = some v → jcv ad v = v := fun v h => by cases h; rfl
theorem jrv_v {ad : Nat → Nat} : ∀ v, (none : Option Value) = some v → jcv ad v = v := fun v h => by cases h
end JCalls
