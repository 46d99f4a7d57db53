/-! ===== PURE: what is told; the class reads it ===== -/
abbrev PRs : Type := (Nat × Nat) ⊕ (aP × Nat)
def pTk (B : Nat → Nat) (n c p : Nat) (k : Nat → PRs) : PRs := if isTk B n c p then k (tN B n p) else .inl (1, p)
def pNm (B : Nat → Nat) (n lo hi p : Nat) (ex : Nat → Nat) (k : Nat → Nat → PRs) : PRs := if tT B n p = 3 then (if (lo ≤ tX B n p ∧ tX B n p ≤ hi) ∧ ex (tX B n p) = 0 then k (tX B n p) (tN B n p) else .inl (2, p)) else .inl (1, p)
def bnd (x : PRs) (k : aP → Nat → PRs) : PRs :=
  match x with
  | .inl e => .inl e
  | .inr q => k q.1 q.2
def up (f : Nat → Nat) (i v : Nat) : Nat → Nat := fun j => if j = i then v else f j
def aA0 (ch lv : Nat) : aP := ((1, ch, lv, 0, 0, 0, 0), fun _ => 0, fun _ => 0, fun _ => 0, fun _ => 0, fun _ => 0, fun _ => 0, fun _ => 0)
def addP (A : aP) (a b l : Nat) : aP := ((a_th A, a_ch A, a_lv A, a_yr A, a_np A + 1, a_nw A, a_gt A), up (a_pa A) (a_np A) a, up (a_pb A) (a_np A) b, up (a_pl A) (a_np A) l, a_kd A, a_ag A, a_hm A, a_sw A)
def addW (A : aP) (kd ag hm : Nat) : aP := ((a_th A, a_ch A, a_lv A, a_yr A, a_np A, a_nw A + 1, a_gt A), a_pa A, a_pb A, a_pl A, up (a_kd A) (a_nw A) kd, up (a_ag A) (a_nw A) ag, up (a_hm A) (a_nw A) hm, up (a_sw A) (a_nw A) 0)
abbrev isJ (A : aP) (a b i : Nat) : Prop := (a_pa A i = a ∧ a_pb A i = b) ∨ (a_pa A i = b ∧ a_pb A i = a)
def jdN (A : aP) (a b : Nat) : Nat → Nat
  | 0 => 0
  | i + 1 => if jdN A a b i = 1 then 1 else if isJ A a b i then 1 else 0
theorem jdN_le (A : aP) (a b : Nat) : ∀ i, jdN A a b i ≤ 1
  | 0 => by unfold jdN; omega
  | i + 1 => by
    unfold jdN
    split
    · omega
    · split <;> omega
theorem jdN_0 {A : aP} {a b : Nat} : ∀ {n : Nat}, jdN A a b n = 0 ↔ ∀ i, i < n → ¬ isJ A a b i
  | 0 => ⟨fun _ i hi => by omega, fun _ => rfl⟩
  | n + 1 => by
    have ih := jdN_0 (A := A) (a := a) (b := b) (n := n)
    have hl := jdN_le A a b n
    show (if jdN A a b n = 1 then 1 else if isJ A a b n then 1 else 0) = 0 ↔ _
    by_cases c : jdN A a b n = 1
    · rw [if_pos c]
      refine ⟨fun q => by omega, fun q => ?_⟩
      have := ih.mpr (fun i hi => q i (by omega))
      omega
    · rw [if_neg c]
      have h0 := ih.mp (by omega)
      by_cases d : isJ A a b n
      · rw [if_pos d]
        exact ⟨fun q => by omega, fun q => absurd d (q n (by omega))⟩
      · rw [if_neg d]
        refine ⟨fun _ i hi => ?_, fun _ => rfl⟩
        by_cases e : i = n
        · rw [e]
          exact d
        · exact h0 i (by omega)
def exP (A : aP) (a b : Nat) : Nat := if a = b then 1 else jdN A a b (a_np A)
def pZ (_x : Nat) : Nat := 0
def pLaw (B : Nat → Nat) (n p : Nat) : PRs := pTk B n 99 p fun p1 => pNm B n 0 7 p1 pZ fun ch p2 => pTk B n 44 p2 fun p3 => pNm B n 20 90 p3 pZ fun lv p4 => pTk B n 59 p4 fun p5 => .inr (aA0 ch lv, p5)
def pPath (B : Nat → Nat) (n : Nat) (A : aP) (p : Nat) : PRs := if isTk B n 112 p ∧ 12 ≤ a_np A then .inl (3, p) else pTk B n 112 p fun p1 => pNm B n 0 7 p1 pZ fun a p2 => pTk B n 44 p2 fun p3 => pNm B n 0 7 p3 (exP A a) fun b p4 => pTk B n 44 p4 fun p5 => pNm B n 1 9 p5 pZ fun l p6 => pTk B n 59 p6 fun p7 => .inr (addP A a b l, p7)
def srt (B : Nat → Nat) (n p : Nat) : Nat := if isTk B n 110 p then 1 else if isTk B n 99 p then 2 else if isTk B n 102 p then 3 else if isTk B n 115 p then 4 else if isTk B n 109 p then 5 else 0
def pWit (B : Nat → Nat) (n : Nat) (A : aP) (p : Nat) : PRs := if 6 ≤ a_nw A then .inl (3, p) else pNm B n 0 60 (tN B n p) pZ fun ag p2 => pTk B n 44 p2 fun p3 => pNm B n 0 7 p3 pZ fun hm p4 => pTk B n 59 p4 fun p5 => .inr (addW A (srt B n p) ag hm, p5)
def pPs (B : Nat → Nat) (n : Nat) : Nat → aP → Nat → PRs
  | 0, A, p => .inr (A, p)
  | k + 1, A, p => bnd (pPath B n A p) fun A' p' => if isTk B n 112 p' then pPs B n k A' p' else .inr (A', p')
def pWs (B : Nat → Nat) (n : Nat) : Nat → aP → Nat → PRs
  | 0, A, p => .inr (A, p)
  | k + 1, A, p => if srt B n p = 0 then .inr (A, p) else bnd (pWit B n A p) fun A' p' => pWs B n k A' p'
def pAll (B : Nat → Nat) (n : Nat) : PRs := bnd (pLaw B n 0) fun A p => bnd (pPs B n 13 A p) fun A p => bnd (pWs B n 7 A p) fun A p => if tT B n p = 1 then .inr (A, p) else .inl (1, p)
/-! a parish as it is told -/
def GA (A : aP) : Prop := WF A ∧ a_th A = 1 ∧ a_yr A = 0 ∧ a_gt A = 0 ∧ ∀ w, w < a_nw A → a_sw A w = 0
theorem GA0 {ch lv : Nat} (h1 : ch < 8) (h2 : lv ≤ 90) : GA (aA0 ch lv) := by
  refine ⟨⟨⟨Nat.le_refl 1, h1, h2, Nat.zero_le _, Nat.zero_le _, Nat.zero_le _, Nat.two_pow_pos _⟩, fun i hi => absurd hi (Nat.not_lt_zero i), fun i j hi => absurd hi (Nat.not_lt_zero i), fun i hi => absurd hi (Nat.not_lt_zero i)⟩, rfl, rfl, rfl, fun w hw => absurd hw (Nat.not_lt_zero w)⟩
theorem up_e (f : Nat → Nat) (i v : Nat) : up f i v i = v := if_pos rfl
theorem up_o (f : Nat → Nat) {i j : Nat} (v : Nat) (h : j ≠ i) : up f i v j = f j := if_neg h
theorem GA.addP {A : aP} {a b l : Nat} (h : GA A) (hn : a_np A < 12) (ha : a < 8) (hb : b < 8) (he : exP A a b = 0) (h1 : 1 ≤ l) (h9 : l ≤ 9) : GA (addP A a b l) := by
  obtain ⟨⟨⟨w1, w2, w3, w4, w5, w6, w7⟩, wp, wq, ww⟩, t, y, g, sw⟩ := h
  have hab : a ≠ b := by
    intro q
    unfold exP at he
    rw [if_pos q] at he
    omega
  unfold exP at he
  rw [if_neg hab] at he
  have hj := jdN_0.mp he
  refine ⟨⟨⟨w1, w2, w3, w4, hn, w6, ?_⟩, fun i hi => ?_, fun i j hi hj' hij => ?_, fun w hw => ?_⟩, t, y, g, sw⟩
  · show a_gt A < 2 ^ (a_np A + 1)
    rw [g]
    exact Nat.two_pow_pos _
  · change i < a_np A + 1 at hi
    show up (a_pa A) (a_np A) a i < 8 ∧ up (a_pb A) (a_np A) b i < 8 ∧ up (a_pa A) (a_np A) a i ≠ up (a_pb A) (a_np A) b i ∧ 1 ≤ up (a_pl A) (a_np A) l i ∧ up (a_pl A) (a_np A) l i ≤ 9
    by_cases c : i = a_np A
    · subst c
      rw [up_e, up_e, up_e]
      exact ⟨ha, hb, hab, h1, h9⟩
    · rw [up_o _ _ c, up_o _ _ c, up_o _ _ c]
      exact wp i (by omega)
  · change i < a_np A + 1 at hi
    change j < a_np A + 1 at hj'
    show ¬ ((up (a_pa A) (a_np A) a i = up (a_pa A) (a_np A) a j ∧ up (a_pb A) (a_np A) b i = up (a_pb A) (a_np A) b j) ∨ (up (a_pa A) (a_np A) a i = up (a_pb A) (a_np A) b j ∧ up (a_pb A) (a_np A) b i = up (a_pa A) (a_np A) a j))
    by_cases c : i = a_np A
    · subst c
      rw [up_e, up_e, up_o _ _ (Ne.symm hij), up_o _ _ (Ne.symm hij)]
      have := hj j (by omega)
      intro q
      apply this
      rcases q with ⟨q1, q2⟩ | ⟨q1, q2⟩
      · exact Or.inl ⟨q1.symm, q2.symm⟩
      · exact Or.inr ⟨q2.symm, q1.symm⟩
    · by_cases d : j = a_np A
      · subst d
        rw [up_e, up_e, up_o _ _ hij, up_o _ _ hij]
        exact hj i (by omega)
      · rw [up_o _ _ c, up_o _ _ c, up_o _ _ d, up_o _ _ d]
        exact wq i j (by omega) (by omega) hij
  · have := ww w hw
    refine ⟨this.1, this.2.1, this.2.2.1, this.2.2.2.1, ?_⟩
    show a_sw A w < 2 ^ (a_np A + 1)
    rw [sw w hw]
    exact Nat.two_pow_pos _
theorem GA.addW {A : aP} {kd ag hm : Nat} (h : GA A) (hn : a_nw A < 6) (h1 : 1 ≤ kd) (h5 : kd ≤ 5) (ha : ag ≤ 60) (hh : hm < 8) : GA (addW A kd ag hm) := by
  obtain ⟨⟨⟨w1, w2, w3, w4, w5, w6, w7⟩, wp, wq, ww⟩, t, y, g, sw⟩ := h
  refine ⟨⟨⟨w1, w2, w3, w4, w5, hn, w7⟩, wp, wq, fun w hw => ?_⟩, t, y, g, fun w hw => ?_⟩
  · change w < a_nw A + 1 at hw
    show 1 ≤ up (a_kd A) (a_nw A) kd w ∧ up (a_kd A) (a_nw A) kd w ≤ 5 ∧ up (a_ag A) (a_nw A) ag w ≤ 100 ∧ up (a_hm A) (a_nw A) hm w < 8 ∧ up (a_sw A) (a_nw A) 0 w < 2 ^ a_np A
    by_cases c : w = a_nw A
    · subst c
      rw [up_e, up_e, up_e, up_e]
      exact ⟨h1, h5, by omega, hh, Nat.two_pow_pos _⟩
    · rw [up_o _ _ c, up_o _ _ c, up_o _ _ c, up_o _ _ c]
      exact ww w (by omega)
  · change w < a_nw A + 1 at hw
    show up (a_sw A) (a_nw A) 0 w = 0
    by_cases c : w = a_nw A
    · rw [c, up_e]
    · rw [up_o _ _ c]
      exact sw w (by omega)
theorem srt_le (B : Nat → Nat) (n p : Nat) : srt B n p ≤ 5 := by
  unfold srt
  repeat' split
  all_goals omega
/-! the class's draft -/
def DQ (σ : jMem) (A : aP) : Prop :=
  (σ.1 30 2 = nI (a_ch A) ∧ σ.1 30 3 = nI (a_lv A) ∧ σ.1 30 4 = nI (a_yr A) ∧ σ.1 30 5 = nI (a_np A) ∧ σ.1 30 6 = nI (a_nw A) ∧ σ.1 30 7 = nI (a_gt A)) ∧
  (∀ i, i < a_np A → σ.1 31 i = nI (a_pa A i) ∧ σ.1 32 i = nI (a_pb A i) ∧ σ.1 33 i = nI (a_pl A i)) ∧
  (∀ w, w < a_nw A → σ.1 34 w = nI (a_kd A w) ∧ σ.1 35 w = nI (a_hm A w) ∧ σ.1 36 w = nI (a_ag A w) ∧ σ.1 37 w = nI (a_sw A w))
def fr30 (c j : Nat) : Prop := (c = 13 ∧ 2 ≤ j) ∨ (30 ≤ c ∧ c ≤ 37)
theorem DQ.fr {σ τ : jMem} {A : aP} (h : DQ σ A) (f : FR fr13 σ τ) : DQ τ A := by
  have E : ∀ c j, c ≠ 13 → τ.1 c j = σ.1 c j := fun c j q => f.1 c j (fun z => q z.1)
  refine ⟨?_, fun i hi => ?_, fun w hw => ?_⟩
  · rw [E 30 2 (by omega), E 30 3 (by omega), E 30 4 (by omega), E 30 5 (by omega), E 30 6 (by omega), E 30 7 (by omega)]
    exact h.1
  · rw [E 31 i (by omega), E 32 i (by omega), E 33 i (by omega)]
    exact h.2.1 i hi
  · rw [E 34 w (by omega), E 35 w (by omega), E 36 w (by omega), E 37 w (by omega)]
    exact h.2.2 w hw
theorem fr13_30 {σ τ : jMem} (f : FR fr13 σ τ) : FR fr30 σ τ := f.mono (fun c j q => Or.inl ⟨q.1, by have := q.2; omega⟩)
theorem TP.set {σ : jMem} {B : Nat → Nat} {n p : Nat} (h : TP σ B n p) {c : Nat} (hc : 15 ≤ c) (j : Nat) (v : Int32) : TP (jset σ c j v) B n p := by
  have E : ∀ x y, x < 15 → (jset σ c j v).1 x y = σ.1 x y := fun x y hx => jset_o (by omega)
  refine ⟨⟨h.1.1, ?_, fun i hi => ⟨(h.1.2.2 i hi).1, ?_⟩⟩, h.2.1, ?_, ?_, ?_, fun q => ?_⟩
  · rw [E 13 1 (by omega)]; exact h.1.2.1
  · rw [E 14 i (by omega)]; exact (h.1.2.2 i hi).2
  · rw [E 13 4 (by omega)]; exact h.2.2.1
  · rw [E 13 5 (by omega)]; exact h.2.2.2.1
  · rw [E 13 7 (by omega)]; exact h.2.2.2.2.1
  · rw [E 13 6 (by omega)]; exact h.2.2.2.2.2 q
def SC (B : Nat → Nat) (n : Nat) (σ0 σ : jMem) (p : Nat) (A : aP) : Prop := TP σ B n p ∧ DQ σ A ∧ GA A ∧ FR fr30 σ0 σ ∧ σ.1 13 2 = σ0.1 13 2
def FC (σ0 σ : jMem) (f pl : Nat) : Prop := σ.1 13 2 = nI f ∧ σ.1 13 3 = nI pl ∧ FR fr30 σ0 σ
def OC (B : Nat → Nat) (n : Nat) (σ0 : jMem) (X : Option (Int32 × jMem)) : PRs → Prop
  | .inl e => ∃ σ', X = some (0, σ') ∧ FC σ0 σ' e.1 e.2
  | .inr q => ∃ σ', X = some (1, σ') ∧ SC B n σ0 σ' q.2 q.1
theorem fails_c {σ0 σ : jMem} {B : Nat → Nat} {n p f : Nat} (h : TP σ B n p) (hF : FR fr30 σ0 σ) : ∃ σ', f_X9_fails (nI f) σ = some (0, σ') ∧ FC σ0 σ' f p := by
  refine ⟨jset (jset σ 13 2 (nI f)) 13 3 (nI p), ?_, by rw [jset_o (by omega), jset_i], jset_i, (hF.set (Or.inl ⟨rfl, by omega⟩)).set (Or.inl ⟨rfl, by omega⟩)⟩
  unfold f_X9_fails
  rw [jlet_eq, jset_o (by omega), h.2.2.1, jlet_eq]
theorem takeK {B : Nat → Nat} {n p : Nat} {σ0 σ : jMem} {K : jMem → Option (Int32 × jMem)} {r : PRs} (h : TP σ B n p) (H : ∀ σ', TP σ' B n (tN B n p) → FR fr13 σ σ' → OC B n σ0 (K σ') r) : OC B n σ0 (jbv (f_X9_take σ) K) r := by
  obtain ⟨σ', e, t, f⟩ := take_c h.1 (tN_le h.2.1) h.2.2.2.2.1
  rw [e, jbv_eq]
  exact H σ' t f
theorem takesK {B : Nat → Nat} {n p c : Nat} {σ0 σ : jMem} {K : jMem → Option (Int32 × jMem)} {k : Nat → PRs} (h : TP σ B n p) (hc : 2 ≤ c ∧ c < 256) (hF : FR fr30 σ0 σ) (H : isTk B n c p → ∀ σ', TP σ' B n (tN B n p) → FR fr13 σ σ' → OC B n σ0 (K σ') (k (tN B n p))) : OC B n σ0 (jbd (f_X9_takes (nI c) σ) (fun v σ' => if v = 0 then some ((0 : Int32), σ') else K σ')) (pTk B n c p k) := by
  unfold f_X9_takes pTk
  have hi := tkC_iff (B := B) (n := n) (p := p) hc.1 hc.2
  rw [h.2.2.2.1]
  by_cases t : isTk B n c p
  · obtain ⟨σ', e, t', f⟩ := take_c h.1 (tN_le h.2.1) h.2.2.2.2.1
    rw [if_pos (hi.mpr t), if_pos t, e, jbv_eq, jbd_eq, if_neg (by decide)]
    exact H t σ' t' f
  · obtain ⟨σ', e, q⟩ := fails_c (f := 1) h hF
    rw [if_neg (fun z => t (hi.mp z)), if_neg t, show (1 : Int32) = nI 1 from rfl, e, jbd_eq, jck_t (by decide), jbd_eq, if_pos rfl]
    exact ⟨σ', rfl, q⟩
theorem takesE {B : Nat → Nat} {n p c : Nat} {σ0 σ : jMem} {A : aP} (h : TP σ B n p) (hc : 2 ≤ c ∧ c < 256) (hF : FR fr30 σ0 σ) (h2 : σ.1 13 2 = σ0.1 13 2) (hD : DQ σ A) (hG : GA A) : OC B n σ0 (jbd (f_X9_takes (nI c) σ) (fun v σ' => jck (jisb v = true) (some (v, σ')))) (pTk B n c p (fun p' => .inr (A, p'))) := by
  unfold f_X9_takes pTk
  have hi := tkC_iff (B := B) (n := n) (p := p) hc.1 hc.2
  rw [h.2.2.2.1]
  by_cases t : isTk B n c p
  · obtain ⟨σ', e, t', f⟩ := take_c h.1 (tN_le h.2.1) h.2.2.2.2.1
    rw [if_pos (hi.mpr t), if_pos t, e, jbv_eq, jbd_eq, jck_t (by decide)]
    exact ⟨σ', rfl, t', hD.fr f, hG, hF.trans (fr13_30 f), (f.1 13 2 (by unfold fr13; omega)).trans h2⟩
  · obtain ⟨σ', e, q⟩ := fails_c (f := 1) h hF
    rw [if_neg (fun z => t (hi.mp z)), if_neg t, show (1 : Int32) = nI 1 from rfl, e, jbd_eq, jck_t (by decide), jbd_eq, jck_t (by decide)]
    exact ⟨σ', rfl, q⟩
theorem numX {B : Nat → Nat} {n p lo hi : Nat} {σ0 σ : jMem} {ex : Nat → Nat} {K : jMem → Option (Int32 × jMem)} {k : Nat → Nat → PRs} (h : TP σ B n p) (hl : lo < 256 ∧ hi < 256) (hF : FR fr30 σ0 σ) (H : tT B n p = 3 → lo ≤ tX B n p → tX B n p ≤ hi → OC B n σ0 (K σ) (if ex (tX B n p) = 0 then k (tX B n p) (tN B n p) else .inl (2, p))) : OC B n σ0 (jbd (f_X9_isNumber (nI lo) (nI hi) σ) (fun v σ' => if ¬ v = 0 then K σ' else some ((0 : Int32), σ'))) (pNm B n lo hi p ex k) := by
  unfold f_X9_isNumber pNm
  rw [h.2.2.2.1]
  by_cases t : tT B n p = 3
  · have hx := tX_num t
    rw [if_pos (tkC_1.mpr t), if_pos t, jj_eq, h.2.2.2.2.2 t]
    obtain ⟨σ', e, q⟩ := fails_c (f := 2) h hF
    by_cases c1 : tX B n p < lo
    · rw [if_pos (nI_lt c1 (by omega)), if_neg (by omega)]
      dsimp only
      rw [show (2 : Int32) = nI 2 from rfl, e, jbd_eq, if_pos rfl, jbd_eq, if_neg (by decide)]
      exact ⟨σ', rfl, q⟩
    · rw [if_neg (nlt_ (by omega) (by omega))]
      by_cases c2 : tX B n p ≤ hi
      · rw [if_pos (nI_le c2 (by omega)), jbd_eq, if_pos (by decide)]
        have := H t (by omega) c2
        by_cases c3 : ex (tX B n p) = 0
        · rw [if_pos c3] at this
          rw [if_pos ⟨⟨by omega, c2⟩, c3⟩]
          exact this
        · rw [if_neg c3] at this
          rw [if_neg (fun z => c3 z.2)]
          exact this
      · rw [if_neg (nle_ (by omega) (by omega)), if_neg (fun z => c2 z.1.2)]
        dsimp only
        rw [show (2 : Int32) = nI 2 from rfl, e, jbd_eq, if_pos rfl, jbd_eq, if_neg (by decide)]
        exact ⟨σ', rfl, q⟩
  · obtain ⟨σ', e, q⟩ := fails_c (f := 1) h hF
    rw [if_neg (fun z => t (tkC_1.mp z)), if_neg t, show (1 : Int32) = nI 1 from rfl, e, jbd_eq, jck_t (by decide), jbd_eq, if_neg (by decide)]
    exact ⟨σ', rfl, q⟩
theorem numK {B : Nat → Nat} {n p lo hi : Nat} {σ0 σ : jMem} {K : jMem → Option (Int32 × jMem)} {k : Nat → Nat → PRs} (h : TP σ B n p) (hl : lo < 256 ∧ hi < 256) (hF : FR fr30 σ0 σ) (H : tT B n p = 3 → lo ≤ tX B n p → tX B n p ≤ hi → OC B n σ0 (K σ) (k (tX B n p) (tN B n p))) : OC B n σ0 (jbd (f_X9_isNumber (nI lo) (nI hi) σ) (fun v σ' => if ¬ v = 0 then K σ' else some ((0 : Int32), σ'))) (pNm B n lo hi p pZ k) := numX h hl hF (fun t l1 l2 => by
    rw [if_pos (show pZ (tX B n p) = 0 from rfl)]
    exact H t l1 l2)
theorem readLaw_c {B : Nat → Nat} {n p : Nat} {σ0 σ : jMem} (h : TP σ B n p) (hF : FR fr30 σ0 σ) (h2 : σ.1 13 2 = σ0.1 13 2) (h4 : σ.1 30 4 = 0 ∧ σ.1 30 5 = 0 ∧ σ.1 30 6 = 0 ∧ σ.1 30 7 = 0) : OC B n σ0 (f_X9_readLaw 30 σ) (pLaw B n p) := by
  unfold f_X9_readLaw pLaw
  refine takesK (c := 99) h (by omega) hF (fun _ σ1 t1 f1 => ?_)
  have F1 := hF.trans (fr13_30 f1)
  refine numK (lo := 0) (hi := 7) t1 (by omega) F1 (fun q1 l1 l2 => ?_)
  have F2 : FR fr30 σ0 (jset σ1 30 2 (nI (tX B n (tN B n p)))) := F1.set (Or.inr (by omega))
  rw [t1.2.2.2.2.2 q1, jlet_eq]
  refine takeK (t1.set (by omega) 2 _) (fun σ3 t3 f3 => ?_)
  have F3 := F2.trans (fr13_30 f3)
  refine takesK (c := 44) t3 (by omega) F3 (fun _ σ4 t4 f4 => ?_)
  have F4 := F3.trans (fr13_30 f4)
  refine numK (lo := 20) (hi := 90) t4 (by omega) F4 (fun q5 l3 l4 => ?_)
  rw [t4.2.2.2.2.2 q5, jlet_eq]
  have F5 : FR fr30 σ0 (jset σ4 30 3 (nI (tX B n (tN B n (tN B n (tN B n p)))))) := F4.set (Or.inr (by omega))
  refine takeK (t4.set (by omega) 3 _) (fun σ6 t6 f6 => ?_)
  have E4 : ∀ j, j ≠ 2 → σ4.1 30 j = σ.1 30 j := fun j hj => by
    rw [f4.1 30 j (by unfold fr13; omega), f3.1 30 j (by unfold fr13; omega), jset_o (by omega), f1.1 30 j (by unfold fr13; omega)]
  have E2 : σ4.1 30 2 = nI (tX B n (tN B n p)) := by
    rw [f4.1 30 2 (by unfold fr13; omega), f3.1 30 2 (by unfold fr13; omega), jset_i]
  have E6 : ∀ j, j ≠ 3 → σ6.1 30 j = σ4.1 30 j := fun j hj => by
    rw [f6.1 30 j (by unfold fr13; omega), jset_o (by omega)]
  have hD : DQ σ6 (aA0 (tX B n (tN B n p)) (tX B n (tN B n (tN B n (tN B n p))))) := by
    refine ⟨⟨?_, ?_, ?_, ?_, ?_, ?_⟩, fun i hi => absurd hi (Nat.not_lt_zero i), fun i hi => absurd hi (Nat.not_lt_zero i)⟩
    · rw [E6 2 (by omega), E2]; rfl
    · rw [f6.1 30 3 (by unfold fr13; omega), jset_i]; rfl
    · rw [E6 4 (by omega), E4 4 (by omega), h4.1]; rfl
    · rw [E6 5 (by omega), E4 5 (by omega), h4.2.1]; rfl
    · rw [E6 6 (by omega), E4 6 (by omega), h4.2.2.1]; rfl
    · rw [E6 7 (by omega), E4 7 (by omega), h4.2.2.2]; rfl
  refine takesE (c := 59) t6 (by omega) (F5.trans (fr13_30 f6)) ?_ hD (GA0 (by omega) (by omega))
  rw [f6.1 13 2 (by unfold fr13; omega), jset_o (by omega), f4.1 13 2 (by unfold fr13; omega), f3.1 13 2 (by unfold fr13; omega), jset_o (by omega), f1.1 13 2 (by unfold fr13; omega)]
  exact h2
