/-! ===== the judgement J: from pc, with these locals, this stack and this memory, the machine comes to its end ===== -/
/-- what the tables say that isn't kept in every word list: calls of a nest mate's private methods, casts -/
def jNest : List (String × Nat × MethodName × String) := [("CoffinWays", 29, ⟨"CoffinWays$Witness", "<init>", "()V"⟩, "CoffinWays"), ("CoffinWays", 32, ⟨"CoffinWays$Neighbour", "<init>", "()V"⟩, "CoffinWays"), ("CoffinWays$Neighbour", 1, ⟨"CoffinWays$Witness", "<init>", "()V"⟩, "CoffinWays"), ("CoffinWays", 35, ⟨"CoffinWays$Child", "<init>", "()V"⟩, "CoffinWays"), ("CoffinWays$Child", 1, ⟨"CoffinWays$Neighbour", "<init>", "()V"⟩, "CoffinWays"), ("CoffinWays", 38, ⟨"CoffinWays$Farmer", "<init>", "()V"⟩, "CoffinWays"), ("CoffinWays$Farmer", 1, ⟨"CoffinWays$Neighbour", "<init>", "()V"⟩, "CoffinWays"), ("CoffinWays", 41, ⟨"CoffinWays$Stranger", "<init>", "()V"⟩, "CoffinWays"), ("CoffinWays$Stranger", 1, ⟨"CoffinWays$Witness", "<init>", "()V"⟩, "CoffinWays"), ("CoffinWays", 44, ⟨"CoffinWays$Smith", "<init>", "()V"⟩, "CoffinWays"), ("CoffinWays$Smith", 1, ⟨"CoffinWays$Stranger", "<init>", "()V"⟩, "CoffinWays"), ("CoffinWays$Coffin", 68, ⟨"CoffinWays", "bitOf", "(II)I"⟩, "CoffinWays"), ("CoffinWays$Parish", 86, ⟨"CoffinWays", "bitOf", "(II)I"⟩, "CoffinWays")]
def jCast : List (String × String) := [("CoffinWays$Child", "CoffinWays$Neighbour"), ("CoffinWays$Farmer", "CoffinWays$Neighbour"), ("CoffinWays$Smith", "CoffinWays$Stranger"), ("CoffinWays$Neighbour", "CoffinWays$Witness"), ("CoffinWays$Child", "CoffinWays$Witness"), ("CoffinWays$Farmer", "CoffinWays$Witness"), ("CoffinWays$Stranger", "CoffinWays$Witness"), ("CoffinWays$Smith", "CoffinWays$Witness")]
def jNoCast : List (String × String) := [("CoffinWays$Witness", "CoffinWays$Neighbour"), ("CoffinWays$Stranger", "CoffinWays$Neighbour"), ("CoffinWays$Smith", "CoffinWays$Neighbour"), ("CoffinWays$Witness", "CoffinWays$Child"), ("CoffinWays$Neighbour", "CoffinWays$Child"), ("CoffinWays$Farmer", "CoffinWays$Child"), ("CoffinWays$Stranger", "CoffinWays$Child"), ("CoffinWays$Smith", "CoffinWays$Child"), ("CoffinWays$Witness", "CoffinWays$Farmer"), ("CoffinWays$Neighbour", "CoffinWays$Farmer"), ("CoffinWays$Child", "CoffinWays$Farmer"), ("CoffinWays$Stranger", "CoffinWays$Farmer"), ("CoffinWays$Smith", "CoffinWays$Farmer"), ("CoffinWays$Witness", "CoffinWays$Stranger"), ("CoffinWays$Neighbour", "CoffinWays$Stranger"), ("CoffinWays$Child", "CoffinWays$Stranger"), ("CoffinWays$Farmer", "CoffinWays$Stranger"), ("CoffinWays$Witness", "CoffinWays$Smith"), ("CoffinWays$Neighbour", "CoffinWays$Smith"), ("CoffinWays$Child", "CoffinWays$Smith"), ("CoffinWays$Farmer", "CoffinWays$Smith"), ("CoffinWays$Stranger", "CoffinWays$Smith")]
def jZ (U : State) : Prop := (∀ q ∈ jNest, va_Nw (.methodLinkNest q.1 q.2.1 q.2.2.1 q.2.2.2) U) ∧ (∀ q ∈ jCast, va_Nw (.castable q.1 q.2) U) ∧ (∀ q ∈ jNoCast, va_Nc q.1 q.2 U)
theorem jZ.warm {s U : State} (hW : s.WarmedH U.vm) (h : jZ s) : jZ U := ⟨fun q hq => va_Nw.warmM hW (h.1 q hq), fun q hq => va_Nw.warmC hW (h.2.1 q hq), fun q hq => va_Nc.moved hW.alike (h.2.2 q hq)⟩
theorem jZ.same {s U : State} (h9 : s.vm = U.vm) (h : jZ s) : jZ U := ⟨fun q hq => va_Nw.same rfl h9 (h.1 q hq), fun q hq => va_Nw.same rfl h9 (h.2.1 q hq), fun q hq => va_Nc.moved (by rw [h9]; exact Vm.Alike.refl _) (h.2.2 q hq)⟩
abbrev jK : Type := Program × Launch × Env × Room × State × MethodId × Array Value × List Frame × Method × Code × va_G × (Nat → Nat) × (Nat → ClassId) × Heap × (Nat → Prop) × Nat × Nat × (State → Prop)
abbrev kp (K : jK) : Program := K.1
abbrev kl (K : jK) : Launch := K.2.1
abbrev ke (K : jK) : Env := K.2.2.1
abbrev kR (K : jK) : Room := K.2.2.2.1
abbrev ks (K : jK) : State := K.2.2.2.2.1
abbrev km (K : jK) : MethodId := K.2.2.2.2.2.1
abbrev kar (K : jK) : Array Value := K.2.2.2.2.2.2.1
abbrev kbe (K : jK) : List Frame := K.2.2.2.2.2.2.2.1
abbrev kme (K : jK) : Method := K.2.2.2.2.2.2.2.2.1
abbrev kco (K : jK) : Code := K.2.2.2.2.2.2.2.2.2.1
abbrev kD (K : jK) : va_G := K.2.2.2.2.2.2.2.2.2.2.1
abbrev ka (K : jK) : Nat → Nat := K.2.2.2.2.2.2.2.2.2.2.2.1
abbrev kc (K : jK) : Nat → ClassId := K.2.2.2.2.2.2.2.2.2.2.2.2.1
abbrev kH (K : jK) : Heap := K.2.2.2.2.2.2.2.2.2.2.2.2.2.1
abbrev kA (K : jK) : Nat → Prop := K.2.2.2.2.2.2.2.2.2.2.2.2.2.2.1
abbrev kce (K : jK) : Nat := K.2.2.2.2.2.2.2.2.2.2.2.2.2.2.2.1
abbrev ksl (K : jK) : Nat := K.2.2.2.2.2.2.2.2.2.2.2.2.2.2.2.2.1
abbrev kQ (K : jK) : State → Prop := K.2.2.2.2.2.2.2.2.2.2.2.2.2.2.2.2.2
abbrev jW (K : jK) (H : Heap) (locs : List Loc) (g : JFrame) : Prop := W (kp K) (kl K) (ke K) (kR K) (ks K) (km K) (kar K) (kbe K) (kme K) (kco K) H locs (kce K) (ksl K) (kQ K) g
def jLv (ad : Nat → Nat) (sl : Array Slot) (ls : List (Option Value)) : Prop := sl.size = ls.length ∧ lv_wf sl ∧ ∀ (i : Nat) (v : Value), ls[i]? = some (some v) → sl[i]? = some (.val (jcv ad v))
def J (K : jK) (pc : Nat) (ls : List (Option Value)) (st : List Value) (σ : jMem) : Prop :=
  ∀ (H : Heap) (locs : List Loc) (sl : Array Slot), va_P (kD K) vwCl (jwd (ka K) (kc K) σ) H → va_S (kA K) (kH K) H locs → jLv (ka K) sl ls → jW K H locs (F0 (km K) pc sl (st.map (jcv (ka K))))
/-- what stands while a method runs -/
def JX (K : jK) (cc : ByteArray) (nL : Nat) (own : String) (fr lo : Nat) : Prop :=
  (kp K).tables.exec = Jvm.exec ∧ (kco K).code = cc ∧ (kco K).maxLocals = nL ∧ (ks K).vm.findClass own = some (km K).cls ∧ (∀ w ∈ TT, w.before (kar K) (ks K) = true) ∧ va_K (kD K) vwCl (jtys (kc K)) (ks K) ∧ jI (ka K) ∧ (∀ k, k < jN → kA K (ka K k)) ∧ (fr ≤ (kR K).frames ∧ lo ≤ (kR K).locals ∧ kce K ≤ (kR K).cells ∧ ksl K ≤ (kR K).slots) ∧ jZ (ks K)
/-- how a method's own end looks: what it answers, the memory then -/
def jQc (D : va_G) (ad : Nat → Nat) (cid : Nat → ClassId) (r : Option Value) (σ : jMem) : Array Value → State → Outcome → State → Prop := fun _ st o t => o = .returned r ∧ va_P D vwCl (jwd ad cid σ) t.heap ∧ va_F (jA ad) st t
def JR (K : jK) (ret : Option FieldType) (r : Option Value) (σ : jMem) : Prop :=
  kQ K = MQ (kbe K) (jQc (kD K) (ka K) (kc K) r σ) (kar K) (ks K) (kce K) (ksl K) (jA (ka K)) ∧ kA K = jA (ka K) ∧ kH K = (ks K).heap ∧ (kme K).sig.returnType = ret ∧ (kme K).locks = false
/-- steps of a walk, as the functions have them -/
def jck {α : Type} (c : Prop) [Decidable c] (x : Option α) : Option α := if c then x else none
def jlet {α β : Type} (e : β) (f : β → Option α) : Option α := f e
def jin (i : Int32) (n : Nat) : Bool := decide (¬ (i < 0 ∨ n ≤ i.toNatClampNeg))
def jld {α : Type} (σ : jMem) (k n : Nat) (i : Int32) (f : Int32 → Option α) : Option α := if jin i n = true then f (σ.1 k i.toNatClampNeg) else none
def jldL {α : Type} (σ : jMem) (k n : Nat) (i : Int32) (f : Int64 → Option α) : Option α := if jin i n = true then f (σ.2 k i.toNatClampNeg) else none
def jst {α : Type} (σ : jMem) (k n : Nat) (i v : Int32) (f : jMem → Option α) : Option α := if jin i n = true then f (jset σ k i.toNatClampNeg v) else none
def jstL {α : Type} (σ : jMem) (k n : Nat) (i : Int32) (v : Int64) (f : jMem → Option α) : Option α := if jin i n = true then f (jsetL σ k i.toNatClampNeg v) else none
def jldr {α : Type} (n t d : Nat) (i : Int32) (f : Nat → Option α) : Option α := if jin i n = true then f (t + d * i.toNatClampNeg) else none
def jcp {α : Type} (σ : jMem) (a na : Nat) (sp : Int32) (b nb : Nat) (dp n : Int32) (f : jMem → Option α) : Option α := if ¬ sp < 0 ∧ ¬ dp < 0 ∧ ¬ n < 0 ∧ sp.toNatClampNeg + n.toNatClampNeg ≤ na ∧ dp.toNatClampNeg + n.toNatClampNeg ≤ nb then f (jcpy σ a sp.toNatClampNeg b dp.toNatClampNeg n.toNatClampNeg) else none
def jbd {α β : Type} (x : Option (β × jMem)) (f : β → jMem → Option α) : Option α := match x with
  | none => none
  | some q => f q.1 q.2
def jbv {α : Type} (x : Option jMem) (f : jMem → Option α) : Option α := match x with
  | none => none
  | some q => f q
def jisb (v : Int32) : Bool := v == 0 || v == 1
theorem jin_spec {i : Int32} {n : Nat} (h : jin i n = true) : vp_in i n := by simpa [jin, vp_in] using h
theorem jld_some {α : Type} {σ : jMem} {k n : Nat} {i : Int32} {f : Int32 → Option α} {r : α} (h : jld σ k n i f = some r) : jin i n = true ∧ f (σ.1 k i.toNatClampNeg) = some r := by
  unfold jld at h
  by_cases c : jin i n = true
  · rw [if_pos c] at h; exact ⟨c, h⟩
  · rw [if_neg c] at h; cases h
theorem jldL_some {α : Type} {σ : jMem} {k n : Nat} {i : Int32} {f : Int64 → Option α} {r : α} (h : jldL σ k n i f = some r) : jin i n = true ∧ f (σ.2 k i.toNatClampNeg) = some r := by
  unfold jldL at h
  by_cases c : jin i n = true
  · rw [if_pos c] at h; exact ⟨c, h⟩
  · rw [if_neg c] at h; cases h
theorem jst_some {α : Type} {σ : jMem} {k n : Nat} {i v : Int32} {f : jMem → Option α} {r : α} (h : jst σ k n i v f = some r) : jin i n = true ∧ f (jset σ k i.toNatClampNeg v) = some r := by
  unfold jst at h
  by_cases c : jin i n = true
  · rw [if_pos c] at h; exact ⟨c, h⟩
  · rw [if_neg c] at h; cases h
theorem jstL_some {α : Type} {σ : jMem} {k n : Nat} {i : Int32} {v : Int64} {f : jMem → Option α} {r : α} (h : jstL σ k n i v f = some r) : jin i n = true ∧ f (jsetL σ k i.toNatClampNeg v) = some r := by
  unfold jstL at h
  by_cases c : jin i n = true
  · rw [if_pos c] at h; exact ⟨c, h⟩
  · rw [if_neg c] at h; cases h
theorem jldr_some {α : Type} {n t d : Nat} {i : Int32} {f : Nat → Option α} {r : α} (h : jldr n t d i f = some r) : jin i n = true ∧ f (t + d * i.toNatClampNeg) = some r := by
  unfold jldr at h
  by_cases c : jin i n = true
  · rw [if_pos c] at h; exact ⟨c, h⟩
  · rw [if_neg c] at h; cases h
theorem jck_some {α : Type} {c : Prop} {d : Decidable c} {x : Option α} {r : α} (h : @jck α c d x = some r) : c ∧ x = some r := by
  unfold jck at h
  by_cases q : c
  · rw [if_pos q] at h; exact ⟨q, h⟩
  · rw [if_neg q] at h; cases h
theorem jbd_some {α β : Type} {x : Option (β × jMem)} {f : β → jMem → Option α} {r : α} (h : jbd x f = some r) : ∃ v σ', x = some (v, σ') ∧ f v σ' = some r := by
  cases x with
  | none => cases h
  | some q => exact ⟨q.1, q.2, rfl, h⟩
theorem jbv_some {α : Type} {x : Option jMem} {f : jMem → Option α} {r : α} (h : jbv x f = some r) : ∃ σ', x = some σ' ∧ f σ' = some r := by
  cases x with
  | none => cases h
  | some q => exact ⟨q, rfl, h⟩
/-- a store into the locals -/
def jclr (x : Option Value) : Option Value := match x with
  | some (.long _) => none
  | some (.double _) => none
  | y => y
def jst1 : List (Option Value) → Nat → Value → List (Option Value)
  | [], _, _ => []
  | _ :: l, 0, v => some v :: l
  | x :: l, 1, v => jclr x :: jst1 l 0 v
  | x :: l, i + 2, v => x :: jst1 l (i + 1) v
def jst2 : List (Option Value) → Nat → Value → List (Option Value)
  | [], _, _ => []
  | [_], 0, v => [some v]
  | _ :: _ :: l, 0, v => some v :: none :: l
  | x :: l, 1, v => jclr x :: jst2 l 0 v
  | x :: l, i + 2, v => x :: jst2 l (i + 1) v
theorem jst1_get : ∀ (ls : List (Option Value)) (i : Nat) (v : Value) (j : Nat), (jst1 ls i v)[j]? = (ls[j]?).map (fun x => if j = i then some v else if j + 1 = i then jclr x else x)
  | [], i, v, j => by simp [jst1]
  | x :: l, 0, v, j => by
    cases j with
    | zero => simp [jst1]
    | succ j => cases h : l[j]? <;> simp [jst1, h]
  | x :: l, 1, v, j => by
    cases j with
    | zero => simp [jst1]
    | succ j =>
      have := jst1_get l 0 v j
      simp only [jst1, List.getElem?_cons_succ, this]
      cases h : l[j]? <;> simp [h]
  | x :: l, i + 2, v, j => by
    cases j with
    | zero => simp [jst1]
    | succ j =>
      have := jst1_get l (i + 1) v j
      simp only [jst1, List.getElem?_cons_succ, this]
      cases h : l[j]? <;> simp [h]
theorem jst2_get : ∀ (ls : List (Option Value)) (i : Nat) (v : Value) (j : Nat), (jst2 ls i v)[j]? = (ls[j]?).map (fun x => if j = i then some v else if j = i + 1 then none else if j + 1 = i then jclr x else x)
  | [], i, v, j => by simp [jst2]
  | [x], 0, v, j => by
    cases j with
    | zero => simp [jst2]
    | succ j => simp [jst2]
  | x :: y :: l, 0, v, j => by
    cases j with
    | zero => simp [jst2]
    | succ j =>
      cases j with
      | zero => simp [jst2]
      | succ j => cases h : l[j]? <;> simp [jst2, h]
  | x :: l, 1, v, j => by
    cases j with
    | zero => simp [jst2]
    | succ j =>
      have := jst2_get l 0 v j
      simp only [jst2, List.getElem?_cons_succ, this]
      cases h : l[j]? <;> simp [h]
  | x :: l, i + 2, v, j => by
    cases j with
    | zero => simp [jst2]
    | succ j =>
      have := jst2_get l (i + 1) v j
      simp only [jst2, List.getElem?_cons_succ, this]
      cases h : l[j]? <;> simp [h]
theorem jclr_some {x : Option Value} {w : Value} (h : jclr x = some w) : x = some w ∧ w.category ≠ 2 := by
  cases x with
  | none => cases h
  | some y => cases y <;> simp [jclr] at h <;> (subst h; exact ⟨rfl, by simp [Value.category]⟩)
def jle : List (Option Value) → List (Option Value) → Prop
  | [], [] => True
  | a :: l, b :: m => (a = none ∨ a = b) ∧ jle l m
  | _, _ => False
theorem jle_spec : ∀ {l m : List (Option Value)}, jle l m → l.length = m.length ∧ ∀ (i : Nat) (v : Value), l[i]? = some (some v) → m[i]? = some (some v)
  | [], [], _ => ⟨rfl, fun i v h => by simp at h⟩
  | a :: l, b :: m, h => by
    obtain ⟨h1, h2⟩ := h
    obtain ⟨e, f⟩ := jle_spec h2
    refine ⟨by simp [e], fun i v hi => ?_⟩
    cases i with
    | zero =>
      simp at hi
      rcases h1 with q | q
      · rw [q] at hi; cases hi
      · rw [← q, hi]; rfl
    | succ i => simpa using f i v (by simpa using hi)
  | [], _ :: _, h => h.elim
  | _ :: _, [], h => h.elim
theorem jcat (ad : Nat → Nat) (v : Value) : (jcv ad v).category = v.category := by cases v <;> rfl
theorem jassoc {ad : Nat → Nat} {sl : Array Slot} {ls : List (Option Value)} (h : jLv ad sl ls) : lv_has sl ls.length (ls.zipIdx.filterMap (fun q => q.1.map (fun v => (q.2, jcv ad v)))) := by
  refine ⟨h.1, h.2.1, fun q hq => ?_⟩
  obtain ⟨⟨x, i⟩, h1, h2⟩ := List.mem_filterMap.mp hq
  cases x with
  | none => cases h2
  | some v =>
    cases h2
    have h3 := List.mem_zipIdx_iff_getElem?.mp h1
    exact h.2.2 i v (by simpa using h3)
theorem jassoc_back {ad : Nat → Nat} {sl : Array Slot} {ls : List (Option Value)} {l : List (Nat × Value)} {n : Nat} (h : lv_has sl n l) (hn : n = ls.length) (hl : ∀ (i : Nat) (v : Value), ls[i]? = some (some v) → (i, jcv ad v) ∈ l) : jLv ad sl ls :=
  ⟨by rw [← hn]; exact h.1, h.2.1, fun i v hi => h.2.2 (i, jcv ad v) (hl i v hi)⟩
theorem jmem_assoc {ad : Nat → Nat} {ls : List (Option Value)} {i : Nat} {v : Value} (h : ls[i]? = some (some v)) : (i, jcv ad v) ∈ ls.zipIdx.filterMap (fun q => q.1.map (fun v => (q.2, jcv ad v))) :=
  List.mem_filterMap.mpr ⟨(some v, i), List.mem_zipIdx_iff_getElem?.mpr (by simpa using h), rfl⟩
theorem jlen_of {α β : Type} {l : List α} {m : List β} (h : ∀ j : Nat, (l[j]?).isSome = (m[j]?).isSome) : l.length = m.length := by
  rcases Nat.lt_trichotomy l.length m.length with q | q | q
  · have := h l.length
    rw [List.getElem?_eq_none (Nat.le_refl _), List.getElem?_eq_getElem q] at this
    cases this
  · exact q
  · have := h m.length
    rw [List.getElem?_eq_none (Nat.le_refl m.length), List.getElem?_eq_getElem q] at this
    cases this
theorem jst1_len {ls : List (Option Value)} {i : Nat} {v : Value} : (jst1 ls i v).length = ls.length := jlen_of (fun j => by rw [jst1_get, Option.isSome_map])
theorem jst2_len {ls : List (Option Value)} {i : Nat} {v : Value} : (jst2 ls i v).length = ls.length := jlen_of (fun j => by rw [jst2_get, Option.isSome_map])
theorem jst1_ok {ad : Nat → Nat} {sl sl' : Array Slot} {ls : List (Option Value)} {i : Nat} {v : Value} (h : lv_has sl' ls.length ((i, jcv ad v) :: (ls.zipIdx.filterMap (fun q => q.1.map (fun v => (q.2, jcv ad v)))).filter (fun q => !(q.1 == i) && !(q.1 + 1 == i && q.2.category == 2)))) : jLv ad sl' (jst1 ls i v) := by
  refine jassoc_back h jst1_len.symm (fun j w hj => ?_)
  simp only [jst1_get, Option.map_eq_some_iff] at hj
  obtain ⟨x, hx, hj⟩ := hj
  by_cases e : j = i
  · rw [if_pos e] at hj
    cases hj
    rw [e]
    exact List.mem_cons_self
  · rw [if_neg e] at hj
    refine List.mem_cons_of_mem _ (List.mem_filter.mpr ?_)
    by_cases e2 : j + 1 = i
    · rw [if_pos e2] at hj
      have hxw := jclr_some hj
      rw [hxw.1] at hx
      exact ⟨jmem_assoc hx, by simp [e, jcat, hxw.2]⟩
    · rw [if_neg e2] at hj
      rw [hj] at hx
      exact ⟨jmem_assoc hx, by simp [e, e2]⟩
theorem jst2_ok {ad : Nat → Nat} {sl sl' : Array Slot} {ls : List (Option Value)} {i : Nat} {v : Value} (h : lv_has sl' ls.length ((i, jcv ad v) :: (ls.zipIdx.filterMap (fun q => q.1.map (fun v => (q.2, jcv ad v)))).filter (fun q => !(q.1 == i) && (!(q.1 == i + 1) && !(q.1 + 1 == i && q.2.category == 2))))) : jLv ad sl' (jst2 ls i v) := by
  refine jassoc_back h jst2_len.symm (fun j w hj => ?_)
  simp only [jst2_get, Option.map_eq_some_iff] at hj
  obtain ⟨x, hx, hj⟩ := hj
  by_cases e : j = i
  · rw [if_pos e] at hj
    cases hj
    rw [e]
    exact List.mem_cons_self
  · rw [if_neg e] at hj
    refine List.mem_cons_of_mem _ (List.mem_filter.mpr ?_)
    by_cases e3 : j = i + 1
    · rw [if_pos e3] at hj; cases hj
    · rw [if_neg e3] at hj
      by_cases e2 : j + 1 = i
      · rw [if_pos e2] at hj
        have hxw := jclr_some hj
        rw [hxw.1] at hx
        exact ⟨jmem_assoc hx, by simp [e, e3, jcat, hxw.2]⟩
      · rw [if_neg e2] at hj
        rw [hj] at hx
        exact ⟨jmem_assoc hx, by simp [e, e2, e3]⟩
section JRows
variable {K : jK} {cc : ByteArray} {nL : Nat} {own : String} {fr lo pc : Nat} {ls ls' : List (Option Value)} {st : List Value} {σ : jMem}
theorem j_sub (h : jle ls' ls) (k : J K pc ls' st σ) : J K pc ls st σ := fun H locs sl hP hS hL => k H locs sl hP hS ⟨by rw [(jle_spec h).1]; exact hL.1, hL.2.1, fun i v hi => hL.2.2 i v ((jle_spec h).2 i v hi)⟩
theorem j_iconst (X : JX K cc nL own fr lo) {n : Int} {v : Int32} (hd : decode cc pc = .ok (.iconst n, 1)) (hv : Int32.ofInt n = v) (k : J K (pc + 1) ls (.int v :: st) σ) : J K pc ls st σ := fun H locs sl hP hS hL => lv_iconst X.1 X.2.1 hd hv (k H locs sl hP hS hL)
theorem j_bipush (X : JX K cc nL own fr lo) {n : Int} {v : Int32} (hd : decode cc pc = .ok (.bipush n, 2)) (hv : (Int8.ofInt n).toInt32 = v) (k : J K (pc + 2) ls (.int v :: st) σ) : J K pc ls st σ := fun H locs sl hP hS hL => lv_bipush X.1 X.2.1 hd hv (k H locs sl hP hS hL)
theorem j_sipush (X : JX K cc nL own fr lo) {n : Int} {v : Int32} (hd : decode cc pc = .ok (.sipush n, 3)) (hv : (Int16.ofInt n).toInt32 = v) (k : J K (pc + 3) ls (.int v :: st) σ) : J K pc ls st σ := fun H locs sl hP hS hL => lv_sipush X.1 X.2.1 hd hv (k H locs sl hP hS hL)
theorem j_lconst (X : JX K cc nL own fr lo) {n : Fin 2} {v : Int64} (hd : decode cc pc = .ok (.lconst n, 1)) (hv : Int64.ofNat (n : Nat) = v) (k : J K (pc + 1) ls (.long v :: st) σ) : J K pc ls st σ := fun H locs sl hP hS hL => lv_lconst X.1 X.2.1 hd hv (k H locs sl hP hS hL)
theorem j_ldc (X : JX K cc nL own fr lo) {i : Nat} {v : Int32} (hc : Cond.constant own i v ∈ TT) (hd : decode cc pc = .ok (.ldc i, 2)) (k : J K (pc + 2) ls (.int v :: st) σ) : J K pc ls st σ := fun H locs sl hP hS hL => lv_ldc X.1 X.2.1 X.2.2.2.1 (X.2.2.2.2.1 _ hc) hd (k H locs sl hP hS hL)
theorem j_ldc_w (X : JX K cc nL own fr lo) {i : Nat} {v : Int32} (hc : Cond.constant own i v ∈ TT) (hd : decode cc pc = .ok (.ldc_w i, 3)) (k : J K (pc + 3) ls (.int v :: st) σ) : J K pc ls st σ := fun H locs sl hP hS hL => lv_ldcw X.1 X.2.1 X.2.2.2.1 (X.2.2.2.2.1 _ hc) hd (k H locs sl hP hS hL)
theorem j_ldc2_w (X : JX K cc nL own fr lo) {i : Nat} {v : Int64} (hc : Cond.constantLong own i v ∈ TT) (hd : decode cc pc = .ok (.ldc2_w i, 3)) (k : J K (pc + 3) ls (.long v :: st) σ) : J K pc ls st σ := fun H locs sl hP hS hL => lv_ldc2 X.1 X.2.1 X.2.2.2.1 (X.2.2.2.2.1 _ hc) hd (k H locs sl hP hS hL)
theorem j_iload_n (X : JX K cc nL own fr lo) {q : Fin 4} (i : Nat) {x : Int32} (hd : decode cc pc = .ok (.iload_n q, 1)) (hi : (q : Nat) = i) (hl : ls[i]? = some (some (.int x))) (k : J K (pc + 1) ls (.int x :: st) σ) : J K pc ls st σ := fun H locs sl hP hS hL => lv_iload_n X.1 X.2.1 hd hi (hL.2.2 i _ hl) (k H locs sl hP hS hL)
theorem j_iload (X : JX K cc nL own fr lo) {i : Nat} {x : Int32} (hd : decode cc pc = .ok (.iload i, 2)) (hl : ls[i]? = some (some (.int x))) (k : J K (pc + 2) ls (.int x :: st) σ) : J K pc ls st σ := fun H locs sl hP hS hL => lv_iload X.1 X.2.1 hd (hL.2.2 i _ hl) (k H locs sl hP hS hL)
theorem j_lload_n (X : JX K cc nL own fr lo) {q : Fin 4} (i : Nat) {x : Int64} (hd : decode cc pc = .ok (.lload_n q, 1)) (hi : (q : Nat) = i) (hl : ls[i]? = some (some (.long x))) (k : J K (pc + 1) ls (.long x :: st) σ) : J K pc ls st σ := fun H locs sl hP hS hL => lv_lload_n X.1 X.2.1 hd hi (hL.2.2 i _ hl) (k H locs sl hP hS hL)
theorem j_lload (X : JX K cc nL own fr lo) {i : Nat} {x : Int64} (hd : decode cc pc = .ok (.lload i, 2)) (hl : ls[i]? = some (some (.long x))) (k : J K (pc + 2) ls (.long x :: st) σ) : J K pc ls st σ := fun H locs sl hP hS hL => lv_lload X.1 X.2.1 hd (hL.2.2 i _ hl) (k H locs sl hP hS hL)
theorem j_aload_n (X : JX K cc nL own fr lo) {q : Fin 4} (i : Nat) {x : Nat} (hd : decode cc pc = .ok (.aload_n q, 1)) (hi : (q : Nat) = i) (hl : ls[i]? = some (some (.ref x))) (k : J K (pc + 1) ls (.ref x :: st) σ) : J K pc ls st σ := fun H locs sl hP hS hL => lv_aload_n X.1 X.2.1 hd hi (hL.2.2 i _ hl) (k H locs sl hP hS hL)
theorem j_aload (X : JX K cc nL own fr lo) {i : Nat} {x : Nat} (hd : decode cc pc = .ok (.aload i, 2)) (hl : ls[i]? = some (some (.ref x))) (k : J K (pc + 2) ls (.ref x :: st) σ) : J K pc ls st σ := fun H locs sl hP hS hL => lv_aload X.1 X.2.1 hd (hL.2.2 i _ hl) (k H locs sl hP hS hL)
theorem j_istore_n (X : JX K cc nL own fr lo) {q : Fin 4} (i : Nat) {x : Int32} (hd : decode cc pc = .ok (.istore_n q, 1)) (hi : (q : Nat) = i) (hn : i < ls.length) (hl : jst1 ls i (.int x) = ls') (k : J K (pc + 1) ls' st σ) : J K pc ls (.int x :: st) σ := fun H locs sl hP hS hL => lv_istore_n X.1 X.2.1 hd hi (jassoc hL) hn rfl (fun sl1 h1 => k H locs sl1 hP hS (by rw [← hl]; exact jst1_ok (sl := sl) (v := .int x) h1))
theorem j_istore (X : JX K cc nL own fr lo) {i : Nat} {x : Int32} (hd : decode cc pc = .ok (.istore i, 2)) (hn : i < ls.length) (hl : jst1 ls i (.int x) = ls') (k : J K (pc + 2) ls' st σ) : J K pc ls (.int x :: st) σ := fun H locs sl hP hS hL => lv_istore X.1 X.2.1 hd (jassoc hL) hn rfl (fun sl1 h1 => k H locs sl1 hP hS (by rw [← hl]; exact jst1_ok (sl := sl) (v := .int x) h1))
theorem j_lstore_n (X : JX K cc nL own fr lo) {q : Fin 4} (i : Nat) {x : Int64} (hd : decode cc pc = .ok (.lstore_n q, 1)) (hi : (q : Nat) = i) (hn : i + 1 < ls.length) (hl : jst2 ls i (.long x) = ls') (k : J K (pc + 1) ls' st σ) : J K pc ls (.long x :: st) σ := fun H locs sl hP hS hL => lv_lstore_n X.1 X.2.1 hd hi (jassoc hL) hn rfl (fun sl1 h1 => k H locs sl1 hP hS (by rw [← hl]; exact jst2_ok (sl := sl) (v := .long x) h1))
theorem j_lstore (X : JX K cc nL own fr lo) {i : Nat} {x : Int64} (hd : decode cc pc = .ok (.lstore i, 2)) (hn : i + 1 < ls.length) (hl : jst2 ls i (.long x) = ls') (k : J K (pc + 2) ls' st σ) : J K pc ls (.long x :: st) σ := fun H locs sl hP hS hL => lv_lstore X.1 X.2.1 hd (jassoc hL) hn rfl (fun sl1 h1 => k H locs sl1 hP hS (by rw [← hl]; exact jst2_ok (sl := sl) (v := .long x) h1))
theorem j_astore_n (X : JX K cc nL own fr lo) {q : Fin 4} (i : Nat) {x : Nat} (hd : decode cc pc = .ok (.astore_n q, 1)) (hi : (q : Nat) = i) (hn : i < ls.length) (hl : jst1 ls i (.ref x) = ls') (k : J K (pc + 1) ls' st σ) : J K pc ls (.ref x :: st) σ := fun H locs sl hP hS hL => lv_astore_n X.1 X.2.1 hd hi (jassoc hL) hn rfl (fun sl1 h1 => k H locs sl1 hP hS (by rw [← hl]; exact jst1_ok (sl := sl) (v := .ref x) h1))
theorem j_astore (X : JX K cc nL own fr lo) {i : Nat} {x : Nat} (hd : decode cc pc = .ok (.astore i, 2)) (hn : i < ls.length) (hl : jst1 ls i (.ref x) = ls') (k : J K (pc + 2) ls' st σ) : J K pc ls (.ref x :: st) σ := fun H locs sl hP hS hL => lv_astore X.1 X.2.1 hd (jassoc hL) hn rfl (fun sl1 h1 => k H locs sl1 hP hS (by rw [← hl]; exact jst1_ok (sl := sl) (v := .ref x) h1))
theorem j_iinc (X : JX K cc nL own fr lo) {i : Nat} {n : Int} {x v : Int32} (hd : decode cc pc = .ok (.iinc i n, 3)) (hx : ls[i]? = some (some (.int x))) (hv : x + Int32.ofInt n = v) (hn : i < ls.length) (hl : jst1 ls i (.int v) = ls') (k : J K (pc + 3) ls' st σ) : J K pc ls st σ := fun H locs sl hP hS hL => by
  obtain ⟨q, hq⟩ := List.getElem?_of_mem (jmem_assoc (ad := ka K) hx)
  exact lv_iinc X.1 X.2.1 hd (jassoc hL) (k := q) hq hv hn rfl (fun sl1 h1 => k H locs sl1 hP hS (by rw [← hl]; exact jst1_ok (sl := sl) (v := .int v) h1))
theorem j_iadd (X : JX K cc nL own fr lo) {x y : Int32} (hd : decode cc pc = .ok (.iadd, 1)) (k : J K (pc + 1) ls (.int (x + y) :: st) σ) : J K pc ls (.int y :: .int x :: st) σ := fun H locs sl hP hS hL => lv_iadd X.1 X.2.1 hd (k H locs sl hP hS hL)
theorem j_isub (X : JX K cc nL own fr lo) {x y : Int32} (hd : decode cc pc = .ok (.isub, 1)) (k : J K (pc + 1) ls (.int (x - y) :: st) σ) : J K pc ls (.int y :: .int x :: st) σ := fun H locs sl hP hS hL => lv_isub X.1 X.2.1 hd (k H locs sl hP hS hL)
theorem j_imul (X : JX K cc nL own fr lo) {x y : Int32} (hd : decode cc pc = .ok (.imul, 1)) (k : J K (pc + 1) ls (.int (x * y) :: st) σ) : J K pc ls (.int y :: .int x :: st) σ := fun H locs sl hP hS hL => lv_imul X.1 X.2.1 hd (k H locs sl hP hS hL)
theorem j_iand (X : JX K cc nL own fr lo) {x y : Int32} (hd : decode cc pc = .ok (.iand, 1)) (k : J K (pc + 1) ls (.int (x &&& y) :: st) σ) : J K pc ls (.int y :: .int x :: st) σ := fun H locs sl hP hS hL => lv_iand X.1 X.2.1 hd (k H locs sl hP hS hL)
theorem j_ior (X : JX K cc nL own fr lo) {x y : Int32} (hd : decode cc pc = .ok (.ior, 1)) (k : J K (pc + 1) ls (.int (x ||| y) :: st) σ) : J K pc ls (.int y :: .int x :: st) σ := fun H locs sl hP hS hL => lv_ior X.1 X.2.1 hd (k H locs sl hP hS hL)
theorem j_ixor (X : JX K cc nL own fr lo) {x y : Int32} (hd : decode cc pc = .ok (.ixor, 1)) (k : J K (pc + 1) ls (.int (x ^^^ y) :: st) σ) : J K pc ls (.int y :: .int x :: st) σ := fun H locs sl hP hS hL => lv_ixor X.1 X.2.1 hd (k H locs sl hP hS hL)
theorem j_ishl (X : JX K cc nL own fr lo) {x y : Int32} (hd : decode cc pc = .ok (.ishl, 1)) (k : J K (pc + 1) ls (.int (x <<< (y &&& 31)) :: st) σ) : J K pc ls (.int y :: .int x :: st) σ := fun H locs sl hP hS hL => lv_ishl X.1 X.2.1 hd (k H locs sl hP hS hL)
theorem j_ishr (X : JX K cc nL own fr lo) {x y : Int32} (hd : decode cc pc = .ok (.ishr, 1)) (k : J K (pc + 1) ls (.int (x >>> (y &&& 31)) :: st) σ) : J K pc ls (.int y :: .int x :: st) σ := fun H locs sl hP hS hL => lv_ishr X.1 X.2.1 hd (k H locs sl hP hS hL)
theorem j_iushr (X : JX K cc nL own fr lo) {x y : Int32} (hd : decode cc pc = .ok (.iushr, 1)) (k : J K (pc + 1) ls (.int ((x.toUInt32 >>> (y.toUInt32 &&& Int32.toUInt32 31)).toInt32) :: st) σ) : J K pc ls (.int y :: .int x :: st) σ := fun H locs sl hP hS hL => lv_iushr X.1 X.2.1 hd rfl (k H locs sl hP hS hL)
theorem j_irem (X : JX K cc nL own fr lo) {x y : Int32} (hd : decode cc pc = .ok (.irem, 1)) (hne : ¬ y = 0) (k : J K (pc + 1) ls (.int (x - x / y * y) :: st) σ) : J K pc ls (.int y :: .int x :: st) σ := fun H locs sl hP hS hL => lv_irem X.1 X.2.1 hd hne (k H locs sl hP hS hL)
theorem j_idiv (X : JX K cc nL own fr lo) {x y : Int32} (hd : decode cc pc = .ok (.idiv, 1)) (hne : ¬ y = 0) (k : J K (pc + 1) ls (.int (x / y) :: st) σ) : J K pc ls (.int y :: .int x :: st) σ := fun H locs sl hP hS hL => lv_idiv X.1 X.2.1 hd hne (k H locs sl hP hS hL)
theorem j_lrem (X : JX K cc nL own fr lo) {x y : Int64} (hd : decode cc pc = .ok (.lrem, 1)) (hne : ¬ y = 0) (k : J K (pc + 1) ls (.long (x - x / y * y) :: st) σ) : J K pc ls (.long y :: .long x :: st) σ := fun H locs sl hP hS hL => lv_lrem X.1 X.2.1 hd hne (k H locs sl hP hS hL)
theorem j_ldiv (X : JX K cc nL own fr lo) {x y : Int64} (hd : decode cc pc = .ok (.ldiv, 1)) (hne : ¬ y = 0) (k : J K (pc + 1) ls (.long (x / y) :: st) σ) : J K pc ls (.long y :: .long x :: st) σ := fun H locs sl hP hS hL => lv_ldiv X.1 X.2.1 hd hne (k H locs sl hP hS hL)
theorem j_ladd (X : JX K cc nL own fr lo) {x y : Int64} (hd : decode cc pc = .ok (.ladd, 1)) (k : J K (pc + 1) ls (.long (x + y) :: st) σ) : J K pc ls (.long y :: .long x :: st) σ := fun H locs sl hP hS hL => lv_ladd X.1 X.2.1 hd (k H locs sl hP hS hL)
theorem j_lsub (X : JX K cc nL own fr lo) {x y : Int64} (hd : decode cc pc = .ok (.lsub, 1)) (k : J K (pc + 1) ls (.long (x - y) :: st) σ) : J K pc ls (.long y :: .long x :: st) σ := fun H locs sl hP hS hL => lv_lsub X.1 X.2.1 hd (k H locs sl hP hS hL)
theorem j_lmul (X : JX K cc nL own fr lo) {x y : Int64} (hd : decode cc pc = .ok (.lmul, 1)) (k : J K (pc + 1) ls (.long (x * y) :: st) σ) : J K pc ls (.long y :: .long x :: st) σ := fun H locs sl hP hS hL => lv_lmul X.1 X.2.1 hd (k H locs sl hP hS hL)
theorem j_ineg (X : JX K cc nL own fr lo) {x : Int32} (hd : decode cc pc = .ok (.ineg, 1)) (k : J K (pc + 1) ls (.int (-x) :: st) σ) : J K pc ls (.int x :: st) σ := fun H locs sl hP hS hL => lv_ineg X.1 X.2.1 hd (k H locs sl hP hS hL)
theorem j_i2l (X : JX K cc nL own fr lo) {x : Int32} (hd : decode cc pc = .ok (.i2l, 1)) (k : J K (pc + 1) ls (.long (x.toInt64) :: st) σ) : J K pc ls (.int x :: st) σ := fun H locs sl hP hS hL => lv_i2l X.1 X.2.1 hd rfl (k H locs sl hP hS hL)
theorem j_l2i (X : JX K cc nL own fr lo) {x : Int64} (hd : decode cc pc = .ok (.l2i, 1)) (k : J K (pc + 1) ls (.int (x.toInt32) :: st) σ) : J K pc ls (.long x :: st) σ := fun H locs sl hP hS hL => lv_l2i X.1 X.2.1 hd rfl (k H locs sl hP hS hL)
theorem j_i2b (X : JX K cc nL own fr lo) {x : Int32} (hd : decode cc pc = .ok (.i2b, 1)) (k : J K (pc + 1) ls (.int (x.toInt8.toInt32) :: st) σ) : J K pc ls (.int x :: st) σ := fun H locs sl hP hS hL => lv_i2b X.1 X.2.1 hd rfl (k H locs sl hP hS hL)
theorem j_i2s (X : JX K cc nL own fr lo) {x : Int32} (hd : decode cc pc = .ok (.i2s, 1)) (k : J K (pc + 1) ls (.int (x.toInt16.toInt32) :: st) σ) : J K pc ls (.int x :: st) σ := fun H locs sl hP hS hL => lv_i2s X.1 X.2.1 hd rfl (k H locs sl hP hS hL)
theorem j_lcmp (X : JX K cc nL own fr lo) {x y : Int64} (hd : decode cc pc = .ok (.lcmp, 1)) (k : J K (pc + 1) ls (.int (lg_cmp x y) :: st) σ) : J K pc ls (.long y :: .long x :: st) σ := fun H locs sl hP hS hL => W.lcmp X.1 X.2.1 hd (k H locs sl hP hS hL)
theorem j_dup (X : JX K cc nL own fr lo) {a : Value} (hd : decode cc pc = .ok (.dup, 1)) (ha : a.category = 1) (k : J K (pc + 1) ls (a :: a :: st) σ) : J K pc ls (a :: st) σ := fun H locs sl hP hS hL => lv_dup X.1 X.2.1 hd (by rw [jcat]; exact ha) (k H locs sl hP hS hL)
theorem j_dup2 (X : JX K cc nL own fr lo) {a b : Value} (hd : decode cc pc = .ok (.dup2, 1)) (ha : a.category = 1) (hb : b.category = 1) (k : J K (pc + 1) ls (a :: b :: a :: b :: st) σ) : J K pc ls (a :: b :: st) σ := fun H locs sl hP hS hL => lv_dup2_11 X.1 X.2.1 hd (by rw [jcat]; exact ha) (by rw [jcat]; exact hb) (k H locs sl hP hS hL)
theorem j_pop (X : JX K cc nL own fr lo) {a : Value} (hd : decode cc pc = .ok (.pop, 1)) (ha : a.category = 1) (k : J K (pc + 1) ls st σ) : J K pc ls (a :: st) σ := fun H locs sl hP hS hL => lv_pop X.1 X.2.1 hd (by rw [jcat]; exact ha) (k H locs sl hP hS hL)
theorem j_goto (X : JX K cc nL own fr lo) {off : Int} {tgt : Nat} (hd : decode cc pc = .ok (.goto off, 3)) (ht : (pc : Int) + off = (tgt : Int)) (k : J K tgt ls st σ) : J K pc ls st σ := fun H locs sl hP hS hL => lv_goto X.1 X.2.1 hd ht (k H locs sl hP hS hL)
theorem j_letI {α : Type} {e : Int32} {f : Int32 → Option α} {r : α} (h : jlet e f = some r) (k : ∀ x, f x = some r → J K pc ls (.int x :: st) σ) : J K pc ls (.int e :: st) σ := k e h
theorem j_letL {α : Type} {e : Int64} {f : Int64 → Option α} {r : α} (h : jlet e f = some r) (k : ∀ x, f x = some r → J K pc ls (.long x :: st) σ) : J K pc ls (.long e :: st) σ := k e h
theorem j_if_eq {α : Type} (X : JX K cc nL own fr lo) {x : Int32} {off : Int} {tgt : Nat} {a b : Option α} {r : α} (hd : decode cc pc = .ok (.ifCond .eq off, 3)) (ht : (pc : Int) + off = (tgt : Int)) (h : (if x = 0 then a else b) = some r) (kt : a = some r → J K tgt ls st σ) (kf : b = some r → J K (pc + 3) ls st σ) : J K pc ls (.int x :: st) σ := fun H locs sl hP hS hL => lv_if_eq X.1 X.2.1 hd ht (fun q => kt (by rw [← h, if_pos q]) H locs sl hP hS hL) (fun q => kf (by rw [← h, if_neg q]) H locs sl hP hS hL)
theorem j_icmp_eq {α : Type} (X : JX K cc nL own fr lo) {x y : Int32} {off : Int} {tgt : Nat} {a b : Option α} {r : α} (hd : decode cc pc = .ok (.if_icmp .eq off, 3)) (ht : (pc : Int) + off = (tgt : Int)) (h : (if x = y then a else b) = some r) (kt : a = some r → J K tgt ls st σ) (kf : b = some r → J K (pc + 3) ls st σ) : J K pc ls (.int y :: .int x :: st) σ := fun H locs sl hP hS hL => lv_icmp_eq X.1 X.2.1 hd ht (fun q => kt (by rw [← h, if_pos q]) H locs sl hP hS hL) (fun q => kf (by rw [← h, if_neg q]) H locs sl hP hS hL)
theorem j_if_ne {α : Type} (X : JX K cc nL own fr lo) {x : Int32} {off : Int} {tgt : Nat} {a b : Option α} {r : α} (hd : decode cc pc = .ok (.ifCond .ne off, 3)) (ht : (pc : Int) + off = (tgt : Int)) (h : (if ¬ x = 0 then a else b) = some r) (kt : a = some r → J K tgt ls st σ) (kf : b = some r → J K (pc + 3) ls st σ) : J K pc ls (.int x :: st) σ := fun H locs sl hP hS hL => lv_if_ne X.1 X.2.1 hd ht (fun q => kt (by rw [← h, if_pos q]) H locs sl hP hS hL) (fun q => kf (by rw [← h, if_neg (fun z => z q)]) H locs sl hP hS hL)
theorem j_icmp_ne {α : Type} (X : JX K cc nL own fr lo) {x y : Int32} {off : Int} {tgt : Nat} {a b : Option α} {r : α} (hd : decode cc pc = .ok (.if_icmp .ne off, 3)) (ht : (pc : Int) + off = (tgt : Int)) (h : (if ¬ x = y then a else b) = some r) (kt : a = some r → J K tgt ls st σ) (kf : b = some r → J K (pc + 3) ls st σ) : J K pc ls (.int y :: .int x :: st) σ := fun H locs sl hP hS hL => lv_icmp_ne X.1 X.2.1 hd ht (fun q => kt (by rw [← h, if_pos q]) H locs sl hP hS hL) (fun q => kf (by rw [← h, if_neg (fun z => z q)]) H locs sl hP hS hL)
theorem j_if_lt {α : Type} (X : JX K cc nL own fr lo) {x : Int32} {off : Int} {tgt : Nat} {a b : Option α} {r : α} (hd : decode cc pc = .ok (.ifCond .lt off, 3)) (ht : (pc : Int) + off = (tgt : Int)) (h : (if x < 0 then a else b) = some r) (kt : a = some r → J K tgt ls st σ) (kf : b = some r → J K (pc + 3) ls st σ) : J K pc ls (.int x :: st) σ := fun H locs sl hP hS hL => lv_if_lt X.1 X.2.1 hd ht (fun q => kt (by rw [← h, if_pos q]) H locs sl hP hS hL) (fun q => kf (by rw [← h, if_neg q]) H locs sl hP hS hL)
theorem j_icmp_lt {α : Type} (X : JX K cc nL own fr lo) {x y : Int32} {off : Int} {tgt : Nat} {a b : Option α} {r : α} (hd : decode cc pc = .ok (.if_icmp .lt off, 3)) (ht : (pc : Int) + off = (tgt : Int)) (h : (if x < y then a else b) = some r) (kt : a = some r → J K tgt ls st σ) (kf : b = some r → J K (pc + 3) ls st σ) : J K pc ls (.int y :: .int x :: st) σ := fun H locs sl hP hS hL => lv_icmp_lt X.1 X.2.1 hd ht (fun q => kt (by rw [← h, if_pos q]) H locs sl hP hS hL) (fun q => kf (by rw [← h, if_neg q]) H locs sl hP hS hL)
theorem j_if_ge {α : Type} (X : JX K cc nL own fr lo) {x : Int32} {off : Int} {tgt : Nat} {a b : Option α} {r : α} (hd : decode cc pc = .ok (.ifCond .ge off, 3)) (ht : (pc : Int) + off = (tgt : Int)) (h : (if 0 ≤ x then a else b) = some r) (kt : a = some r → J K tgt ls st σ) (kf : b = some r → J K (pc + 3) ls st σ) : J K pc ls (.int x :: st) σ := fun H locs sl hP hS hL => lv_if_ge X.1 X.2.1 hd ht (fun q => kt (by rw [← h, if_pos q]) H locs sl hP hS hL) (fun q => kf (by rw [← h, if_neg q]) H locs sl hP hS hL)
theorem j_icmp_ge {α : Type} (X : JX K cc nL own fr lo) {x y : Int32} {off : Int} {tgt : Nat} {a b : Option α} {r : α} (hd : decode cc pc = .ok (.if_icmp .ge off, 3)) (ht : (pc : Int) + off = (tgt : Int)) (h : (if y ≤ x then a else b) = some r) (kt : a = some r → J K tgt ls st σ) (kf : b = some r → J K (pc + 3) ls st σ) : J K pc ls (.int y :: .int x :: st) σ := fun H locs sl hP hS hL => lv_icmp_ge X.1 X.2.1 hd ht (fun q => kt (by rw [← h, if_pos q]) H locs sl hP hS hL) (fun q => kf (by rw [← h, if_neg q]) H locs sl hP hS hL)
theorem j_if_gt {α : Type} (X : JX K cc nL own fr lo) {x : Int32} {off : Int} {tgt : Nat} {a b : Option α} {r : α} (hd : decode cc pc = .ok (.ifCond .gt off, 3)) (ht : (pc : Int) + off = (tgt : Int)) (h : (if 0 < x then a else b) = some r) (kt : a = some r → J K tgt ls st σ) (kf : b = some r → J K (pc + 3) ls st σ) : J K pc ls (.int x :: st) σ := fun H locs sl hP hS hL => lv_if_gt X.1 X.2.1 hd ht (fun q => kt (by rw [← h, if_pos q]) H locs sl hP hS hL) (fun q => kf (by rw [← h, if_neg q]) H locs sl hP hS hL)
theorem j_icmp_gt {α : Type} (X : JX K cc nL own fr lo) {x y : Int32} {off : Int} {tgt : Nat} {a b : Option α} {r : α} (hd : decode cc pc = .ok (.if_icmp .gt off, 3)) (ht : (pc : Int) + off = (tgt : Int)) (h : (if y < x then a else b) = some r) (kt : a = some r → J K tgt ls st σ) (kf : b = some r → J K (pc + 3) ls st σ) : J K pc ls (.int y :: .int x :: st) σ := fun H locs sl hP hS hL => lv_icmp_gt X.1 X.2.1 hd ht (fun q => kt (by rw [← h, if_pos q]) H locs sl hP hS hL) (fun q => kf (by rw [← h, if_neg q]) H locs sl hP hS hL)
theorem j_if_le {α : Type} (X : JX K cc nL own fr lo) {x : Int32} {off : Int} {tgt : Nat} {a b : Option α} {r : α} (hd : decode cc pc = .ok (.ifCond .le off, 3)) (ht : (pc : Int) + off = (tgt : Int)) (h : (if x ≤ 0 then a else b) = some r) (kt : a = some r → J K tgt ls st σ) (kf : b = some r → J K (pc + 3) ls st σ) : J K pc ls (.int x :: st) σ := fun H locs sl hP hS hL => lv_if_le X.1 X.2.1 hd ht (fun q => kt (by rw [← h, if_pos q]) H locs sl hP hS hL) (fun q => kf (by rw [← h, if_neg q]) H locs sl hP hS hL)
theorem j_icmp_le {α : Type} (X : JX K cc nL own fr lo) {x y : Int32} {off : Int} {tgt : Nat} {a b : Option α} {r : α} (hd : decode cc pc = .ok (.if_icmp .le off, 3)) (ht : (pc : Int) + off = (tgt : Int)) (h : (if x ≤ y then a else b) = some r) (kt : a = some r → J K tgt ls st σ) (kf : b = some r → J K (pc + 3) ls st σ) : J K pc ls (.int y :: .int x :: st) σ := fun H locs sl hP hS hL => lv_icmp_le X.1 X.2.1 hd ht (fun q => kt (by rw [← h, if_pos q]) H locs sl hP hS hL) (fun q => kf (by rw [← h, if_neg q]) H locs sl hP hS hL)
theorem j_tab (X : JX K cc nL own fr lo) {dflt lw hi : Int} {offs : Array Int} {len : Nat} {x : Int32} {off : Int} {tgt : Nat} (hd : decode cc pc = .ok (.tableswitch dflt lw hi offs, len)) (v : Int32) (hx : x = v) (h1 : ¬ v.toInt < lw) (h2 : ¬ hi < v.toInt) (ho : offs[(v.toInt - lw).toNat]? = some off) (ht : (pc : Int) + off = (tgt : Int)) (k : J K tgt ls st σ) : J K pc ls (.int x :: st) σ := fun H locs sl hP hS hL => by subst hx; exact lv_tableIn X.1 X.2.1 hd h1 h2 ho ht (k H locs sl hP hS hL)
theorem j_tabo (X : JX K cc nL own fr lo) {dflt lw hi : Int} {offs : Array Int} {len : Nat} {x : Int32} {tgt : Nat} (hd : decode cc pc = .ok (.tableswitch dflt lw hi offs, len)) (h : x.toInt < lw ∨ hi < x.toInt) (ht : (pc : Int) + dflt = (tgt : Int)) (k : J K tgt ls st σ) : J K pc ls (.int x :: st) σ := fun H locs sl hP hS hL => lv_tableOut X.1 X.2.1 hd h ht (k H locs sl hP hS hL)
theorem j_look (X : JX K cc nL own fr lo) {dflt : Int} {ps : Array (Int × Int)} {len : Nat} {x : Int32} {off : Int} {tgt : Nat} (hd : decode cc pc = .ok (.lookupswitch dflt ps, len)) (hp : (ps.toList.zip (ps.toList.drop 1)).all (fun (a, next) => a.1 < next.1) = true) (ho : Op.lookupswitch.offset ps.toList dflt x.toInt = off) (ht : (pc : Int) + off = (tgt : Int)) (k : J K tgt ls st σ) : J K pc ls (.int x :: st) σ := fun H locs sl hP hS hL => lv_lookup X.1 X.2.1 hd hp ho ht (k H locs sl hP hS hL)
/-- fields -/
def jFG (own : String) (index ci j : Nat) : Prop := ∃ (C : String) (T : u_T) (N : Nat), vwCl[ci]? = some (C, T, N) ∧ (∀ w ∈ u_ws C T N, w ∈ TT) ∧ j < N ∧ (T j).1 = C ∧ Cond.fieldLink own index C (T j).2.1 (T j).2.2.1 ∈ TT
def jFP (own : String) (index ci j : Nat) (ty : FieldType) : Prop := ∃ (C : String) (T : u_T) (N : Nat) (ty0 : Nat → FieldType), vwCl[ci]? = some (C, T, N) ∧ (∀ w ∈ u_ws C T N, w ∈ TT) ∧ j < N ∧ (T j).1 = C ∧ Cond.fieldLink own index C (T j).2.1 (T j).2.2.1 ∈ TT ∧ (∀ k, k < N → parseFieldDescriptor (T k).2.2.1 = some (ty0 k)) ∧ (∀ a, a < N → ∀ b, b < N → a ≠ b → (T a).2.1 ≠ (T b).2.1) ∧ (T j).2.2.2 = false ∧ parseFieldDescriptor (T j).2.2.1 = some ty
theorem j_getI (X : JX K cc nL own fr lo) {k ci j index : Nat} {fs : List (Option Nat)} (hG : jFG own index ci j) (hk : k < jN) (hL : jL k = (0, ci, fs)) (hj : fs[j]? = some none) (hd : decode cc pc = .ok (.getfield index, 3)) (kk : J K (pc + 3) ls (.int (σ.1 k j) :: st) σ) : J K pc ls (.ref k :: st) σ := fun H locs sl hP hS hLv => by
  obtain ⟨C, T, N, g1, g2, g3, g4, g5⟩ := hG
  refine va_get (ci := ci) X.1 X.2.1 X.2.2.2.2.1 g2 X.2.2.2.1 X.2.2.2.2.2.1 hP k (by rw [jwd_at hk, hL, jcell_o]) g1 j g3 (X.2.2.2.2.1 _ g5) (fun x h => by rw [g4] at h; exact h) (v := .int (σ.1 k j)) (by simp [jfs, List.getElem?_mapIdx, hj, jfv]) hd (kk H locs sl hP hS hLv)
theorem j_getR (X : JX K cc nL own fr lo) {k ci j index t : Nat} {fs : List (Option Nat)} (hG : jFG own index ci j) (hk : k < jN) (hL : jL k = (0, ci, fs)) (hj : fs[j]? = some (some t)) (hd : decode cc pc = .ok (.getfield index, 3)) (kk : J K (pc + 3) ls (.ref t :: st) σ) : J K pc ls (.ref k :: st) σ := fun H locs sl hP hS hLv => by
  obtain ⟨C, T, N, g1, g2, g3, g4, g5⟩ := hG
  refine va_get (ci := ci) X.1 X.2.1 X.2.2.2.2.1 g2 X.2.2.2.1 X.2.2.2.2.2.1 hP k (by rw [jwd_at hk, hL, jcell_o]) g1 j g3 (X.2.2.2.2.1 _ g5) (fun x h => by rw [g4] at h; exact h) (v := .ref (ka K t)) (by simp [jfs, List.getElem?_mapIdx, hj, jfv]) hd (kk H locs sl hP hS hLv)
theorem j_put {α : Type} (X : JX K cc nL own fr lo) {k ci j index : Nat} {fs : List (Option Nat)} {ty : FieldType} {v : Int32} {f : jMem → Option α} {r : α} (hG : jFP own index ci j ty) (hk : k < jN) (hL : jL k = (0, ci, fs)) (hj : fs[j]? = some none) (hn : narrow ty (.int v) = .int v) (hf : fits ty (.int v) = true) (hd : decode cc pc = .ok (.putfield index, 3)) (h : jlet (jset σ k j v) f = some r) (kk : ∀ σ', f σ' = some r → J K (pc + 3) ls st σ') : J K pc ls (.int v :: .ref k :: st) σ := fun H locs sl hP hS hLv => by
  obtain ⟨C, T, N, ty0, g1, g2, g3, g4, g5, g6, g7, g8, g9⟩ := hG
  refine va_put (ci := ci) (v := .int v) X.1 X.2.1 X.2.2.2.2.1 g2 ty0 g6 g7 X.2.2.2.1 X.2.2.2.2.2.1 hP (jwd_D X.2.2.2.2.2.2.1 X.2.2.2.2.2.2.2.1 σ) hS k (by rw [jwd_at hk, hL, jcell_o]) g1 j g3 (X.2.2.2.2.1 _ g5) (fun x h => by rw [g4] at h; exact h) g8 g9 hn hf (by have := (List.getElem?_eq_some_iff.mp hj).1; simpa [jfs] using this) hd (fun H1 locs1 hP1 _ hS1 => ?_)
  rw [jwd_put hk hL hj] at hP1
  exact kk _ h H1 locs1 sl hP1 hS1 hLv
/-- arrays -/
theorem j_iaload {α : Type} (X : JX K cc nL own fr lo) {k n : Nat} {fs : List (Option Nat)} {i : Int32} {f : Int32 → Option α} {r : α} (hk : k < jN) (hL : jL k = (1, n, fs)) (hd : decode cc pc = .ok (.iaload, 1)) (h : jld σ k n i f = some r) (kk : ∀ v, f v = some r → J K (pc + 1) ls (.int v :: st) σ) : J K pc ls (.int i :: .ref k :: st) σ := fun H locs sl hP hS hLv =>
  va_iald X.1 X.2.1 X.2.2.2.2.2.1 hP k 1 (by rw [jwd_at hk, hL, jcell_i]) rfl (jin_spec (jld_some h).1) hd (kk _ (jld_some h).2 H locs sl hP hS hLv)
theorem j_baload {α : Type} (X : JX K cc nL own fr lo) {k n : Nat} {fs : List (Option Nat)} {i : Int32} {f : Int32 → Option α} {r : α} (hk : k < jN) (hL : jL k = (2, n, fs)) (hd : decode cc pc = .ok (.baload, 1)) (h : jld σ k n i f = some r) (kk : ∀ v, f v = some r → J K (pc + 1) ls (.int v :: st) σ) : J K pc ls (.int i :: .ref k :: st) σ := fun H locs sl hP hS hLv =>
  va_zald X.1 X.2.1 X.2.2.2.2.2.1 hP k 2 (by rw [jwd_at hk, hL, jcell_z]) rfl (jin_spec (jld_some h).1) hd (kk _ (jld_some h).2 H locs sl hP hS hLv)
theorem j_laload {α : Type} (X : JX K cc nL own fr lo) {k n : Nat} {fs : List (Option Nat)} {i : Int32} {f : Int64 → Option α} {r : α} (hk : k < jN) (hL : jL k = (3, n, fs)) (hd : decode cc pc = .ok (.laload, 1)) (h : jldL σ k n i f = some r) (kk : ∀ v, f v = some r → J K (pc + 1) ls (.long v :: st) σ) : J K pc ls (.int i :: .ref k :: st) σ := fun H locs sl hP hS hLv =>
  va_lald X.1 X.2.1 X.2.2.2.2.2.1 hP k 3 (by rw [jwd_at hk, hL, jcell_l]) rfl (jin_spec (jldL_some h).1) hd (kk _ (jldL_some h).2 H locs sl hP hS hLv)
theorem j_iastore {α : Type} (X : JX K cc nL own fr lo) {k n : Nat} {fs : List (Option Nat)} {i v : Int32} {f : jMem → Option α} {r : α} (hk : k < jN) (hL : jL k = (1, n, fs)) (hd : decode cc pc = .ok (.iastore, 1)) (h : jst σ k n i v f = some r) (kk : ∀ σ', f σ' = some r → J K (pc + 1) ls st σ') : J K pc ls (.int v :: .int i :: .ref k :: st) σ := fun H locs sl hP hS hLv =>
  va_iast X.1 X.2.1 X.2.2.2.2.2.1 hP (jwd_D X.2.2.2.2.2.2.1 X.2.2.2.2.2.2.2.1 σ) hS k 1 (by rw [jwd_at hk, hL, jcell_i]) rfl (jin_spec (jst_some h).1) hd (fun H1 locs1 hP1 _ hS1 => kk _ (jst_some h).2 H1 locs1 sl (by rw [jwd_ast hk hL] at hP1; exact hP1) hS1 hLv)
theorem j_bastore {α : Type} (X : JX K cc nL own fr lo) {k n : Nat} {fs : List (Option Nat)} {i v : Int32} {f : jMem → Option α} {r : α} (hk : k < jN) (hL : jL k = (2, n, fs)) (hv : vp_nar .boolean v = v) (hd : decode cc pc = .ok (.bastore, 1)) (h : jst σ k n i v f = some r) (kk : ∀ σ', f σ' = some r → J K (pc + 1) ls st σ') : J K pc ls (.int v :: .int i :: .ref k :: st) σ := fun H locs sl hP hS hLv =>
  va_zast X.1 X.2.1 X.2.2.2.2.2.1 hP (jwd_D X.2.2.2.2.2.2.1 X.2.2.2.2.2.2.2.1 σ) hS k 2 (by rw [jwd_at hk, hL, jcell_z]) rfl (jin_spec (jst_some h).1) hd (fun H1 locs1 hP1 _ hS1 => kk _ (jst_some h).2 H1 locs1 sl (by rw [hv, jwd_zst hk hL] at hP1; exact hP1) hS1 hLv)
theorem j_lastore {α : Type} (X : JX K cc nL own fr lo) {k n : Nat} {fs : List (Option Nat)} {i : Int32} {v : Int64} {f : jMem → Option α} {r : α} (hk : k < jN) (hL : jL k = (3, n, fs)) (hd : decode cc pc = .ok (.lastore, 1)) (h : jstL σ k n i v f = some r) (kk : ∀ σ', f σ' = some r → J K (pc + 1) ls st σ') : J K pc ls (.long v :: .int i :: .ref k :: st) σ := fun H locs sl hP hS hLv =>
  va_last X.1 X.2.1 X.2.2.2.2.2.1 hP (jwd_D X.2.2.2.2.2.2.1 X.2.2.2.2.2.2.2.1 σ) hS k 3 (by rw [jwd_at hk, hL, jcell_l]) rfl (jin_spec (jstL_some h).1) hd (fun H1 locs1 hP1 _ hS1 => kk _ (jstL_some h).2 H1 locs1 sl (by rw [jwd_lst hk hL] at hP1; exact hP1) hS1 hLv)
theorem j_aaload {α : Type} (X : JX K cc nL own fr lo) {k tag n t d : Nat} {i : Int32} {f : Nat → Option α} {r : α} (hk : k < jN) (hL : jL k = (tag, n, (List.range n).map (fun i => some (t + d * i)))) (ht : tag = 4 ∨ tag = 5 ∨ tag = 6) (hd : decode cc pc = .ok (.aaload, 1)) (h : jldr n t d i f = some r) (kk : ∀ x, (∃ q, q < n ∧ x = t + d * q) → f x = some r → J K (pc + 1) ls (.ref x :: st) σ) : J K pc ls (.int i :: .ref k :: st) σ := fun H locs sl hP hS hLv => by
  obtain ⟨h1, h2⟩ := jldr_some h
  have hin := jin_spec h1
  have hlt : i.toNatClampNeg < n := Nat.not_le.mp fun q => hin (Or.inr q)
  have hat : (jwd (ka K) (kc K) σ)[k]? = some (ka K k, .inl (kc K tag, n, .inr (.inr (.inr (.inr (fun i => (((List.range n).map (fun i => some (t + d * i))).getD i none).map (ka K))))))) := by
    rw [jwd_at hk, hL]
    rcases ht with rfl | rfl | rfl <;> rfl
  have hv : va_rf ((((List.range n).map (fun i => some (t + d * i))).getD i.toNatClampNeg none).map (ka K)) = .ref (ka K (t + d * i.toNatClampNeg)) := by
    simp [List.getD, hlt, va_rf]
  have hty : ∃ ty : FieldType, (jtys (kc K))[tag]? = some (kc K tag, ty) ∧ ty.isReference = true := by
    rcases ht with rfl | rfl | rfl
    · exact ⟨_, rfl, rfl⟩
    · exact ⟨_, rfl, rfl⟩
    · exact ⟨_, rfl, rfl⟩
  obtain ⟨ty, ht1, ht2⟩ := hty
  refine W.aald (v := .ref (ka K (t + d * i.toNatClampNeg))) (ty := ty) X.1 X.2.1 (hP k _ hat) ((X.2.2.2.2.2.1.2 tag _ ht1).1 n (fun j => va_rf ((((List.range n).map (fun i => some (t + d * i))).getD j none).map (ka K)))) ht2 (fun q => by cases q) (by show ¬ (i < 0 ∨ (arrV _ _ _).slots.size ≤ _); rw [arrV_size]; exact hin) (by show (arrV _ _ _).slots[_]? = _; rw [arrV_read _ _ hlt, hv]) rfl rfl hd (kk _ ⟨_, hlt, rfl⟩ h2 H locs sl hP hS hLv)
theorem j_copy {α : Type} (X : JX K cc nL own fr lo) {a b na nb index : Nat} {fa fb : List (Option Nat)} {sp dp n : Int32} {f : jMem → Option α} {r : α} (hl : Cond.methodLink own index arraycopyName ∈ TT) (hna : Cond.native arraycopyName ∈ TT) (hsta : Cond.static arraycopyName ∈ TT) (hini : Cond.initialized "java/lang/System" ∈ TT) (hnl : ls.length = nL) (hka : a < jN) (hLa : jL a = (1, na, fa)) (hkb : b < jN) (hLb : jL b = (1, nb, fb)) (hfr : 1 ≤ fr) (hlo : (st.map fun v => v.category).sum + (nativeFrameWords "java/lang/System" "arraycopy" 5 + 11) ≤ lo) (hd : decode cc pc = .ok (.invokestatic index, 3)) (h : jcp σ a na sp b nb dp n f = some r) (kk : ∀ σ', f σ' = some r → J K (pc + 3) ls st σ') : J K pc ls (.int n :: .int dp :: .ref b :: .int sp :: .ref a :: st) σ := fun H locs sl hP hS hLv => by
  unfold jcp at h
  by_cases c : ¬ sp < 0 ∧ ¬ dp < 0 ∧ ¬ n < 0 ∧ sp.toNatClampNeg + n.toNatClampNeg ≤ na ∧ dp.toNatClampNeg + n.toNatClampNeg ≤ nb
  · rw [if_pos c] at h
    have hcs : ((st.map (jcv (ka K))).map fun v => v.category).sum = (st.map fun v => v.category).sum := by
      rw [List.map_map]
      congr 1
      apply List.map_congr_left
      intro v _
      exact jcat _ v
    refine va_copyi X.1 X.2.1 (by rw [X.2.2.1, hLv.1, hnl]) X.2.2.2.1 (X.2.2.2.2.1 _ hl) (X.2.2.2.2.1 _ hna) (X.2.2.2.2.1 _ hsta) (X.2.2.2.2.1 _ hini) X.2.2.2.2.2.1 hP (jwd_D X.2.2.2.2.2.2.1 X.2.2.2.2.2.2.2.1 σ) hS a b 1 1 (ty := .int) (by rw [jwd_at hka, hLa, jcell_i]) (by rw [jwd_at hkb, hLb, jcell_i]) rfl rfl rfl c.1 c.2.1 c.2.2.1 c.2.2.2.1 c.2.2.2.2 (fun _ _ => rfl) (Nat.le_trans hfr X.2.2.2.2.2.2.2.2.1.1) (by rw [hcs]; exact Nat.le_trans hlo X.2.2.2.2.2.2.2.2.1.2.1) hd (fun H1 locs1 hP1 _ hS1 => ?_)
    rw [jwd_cpy hkb hLb] at hP1
    exact kk _ h H1 locs1 sl hP1 hS1 hLv
  · rw [if_neg c] at h; cases h
/-- ends -/
theorem jend {r : Option Value} {σ' : jMem} {ret0 : Option FieldType} (R0 : JR K ret0 r σ') {H : Heap} {locs : List Loc} (hP : va_P (kD K) vwCl (jwd (ka K) (kc K) σ') H) (hS : va_S (kA K) (kH K) H locs) : ∀ t : State, t.heap = H → jQc (kD K) (ka K) (kc K) r σ' (kar K) (ks K) (.returned r) t := fun t ht => by
  obtain ⟨-, h2, h3, -⟩ := R0
  rw [h2, h3] at hS
  exact ⟨rfl, by rw [ht]; exact hP, hS.F ht⟩
theorem j_iret {v : Int32} (X : JX K cc nL own fr lo) (R0 : JR K (some .int) (some (.int v)) σ) (hd : decode cc pc = .ok (.ireturn, 1)) : J K pc ls [.int v] σ := fun H locs sl hP hS hLv => by
  unfold jW
  rw [R0.1]
  exact W.iret X.1 X.2.1 R0.2.2.2.1 (fun t ht _ => jend R0 hP hS t ht) (fun q hq => by rw [← R0.2.1]; exact hS.2.2 q hq) hd R0.2.2.2.2
theorem j_zret {v : Int32} (X : JX K cc nL own fr lo) (R0 : JR K (some .boolean) (some (.int v)) σ) (hv : jisb v = true) (hd : decode cc pc = .ok (.ireturn, 1)) : J K pc ls [.int v] σ := fun H locs sl hP hS hLv => by
  have hn : narrow .boolean (.int v) = .int v := by
    simp only [jisb, Bool.or_eq_true, beq_iff_eq] at hv
    rcases hv with rfl | rfl <;> rfl
  unfold jW
  rw [R0.1]
  exact W.zret X.1 X.2.1 R0.2.2.2.1 hn (fun t ht _ => jend R0 hP hS t ht) (fun q hq => by rw [← R0.2.1]; exact hS.2.2 q hq) hd R0.2.2.2.2
theorem j_lret {v : Int64} (X : JX K cc nL own fr lo) (R0 : JR K (some .long) (some (.long v)) σ) (hd : decode cc pc = .ok (.lreturn, 1)) : J K pc ls [.long v] σ := fun H locs sl hP hS hLv => by
  unfold jW
  rw [R0.1]
  exact W.lret X.1 X.2.1 R0.2.2.2.1 (fun t ht _ => jend R0 hP hS t ht) (fun q hq => by rw [← R0.2.1]; exact hS.2.2 q hq) hd R0.2.2.2.2
theorem j_vret (X : JX K cc nL own fr lo) (R0 : JR K none none σ) (hd : decode cc pc = .ok (.return_, 1)) : J K pc ls [] σ := fun H locs sl hP hS hLv => by
  unfold jW
  rw [R0.1]
  exact W.vret X.1 X.2.1 R0.2.2.2.1 (fun t ht _ => jend R0 hP hS t ht) (fun q hq => by rw [← R0.2.1]; exact hS.2.2 q hq) hd R0.2.2.2.2
end JRows
