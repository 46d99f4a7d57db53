/-! ===== PURE: the reference reads paths and witnesses ===== -/
def frQ (c j : Nat) : Prop := c = 94 ∨ (c = 89 ∧ 12 ≤ j ∧ j ≤ 17)
theorem frR_Q {σ τ : jMem} (f : FR frR σ τ) : FR frQ σ τ := f.mono (fun c j q => Or.inr ⟨q.1, q.2.1, by have := q.2.2; omega⟩)
def FL (σ : jMem) (f pl : Nat) : Prop := σ.1 89 16 = nI f ∧ 1 ≤ f ∧ f ≤ 3 ∧ σ.1 89 17 = nI pl
theorem FL.nz {σ : jMem} {f pl : Nat} (h : FL σ f pl) : ¬ σ.1 89 16 = 0 := by
  rw [h.1]
  have := h.2.1
  have := h.2.2.1
  exact neL_ (by omega) (by omega) (by omega)
theorem FL.set {σ : jMem} {f pl : Nat} (h : FL σ f pl) {c : Nat} (hc : c ≠ 89) (j : Nat) (v : Int32) : FL (jset σ c j v) f pl := by
  refine ⟨?_, h.2.1, h.2.2.1, ?_⟩
  · rw [jset_o (by omega)]; exact h.1
  · rw [jset_o (by omega)]; exact h.2.2.2
theorem TR.set {σ : jMem} {B : Nat → Nat} {n p : Nat} (h : TR σ B n p) {c : Nat} (hc : c ≠ 89) (hc2 : c ≠ 97) (j : Nat) (v : Int32) : TR (jset σ c j v) B n p := by
  have E : ∀ y, (jset σ c j v).1 89 y = σ.1 89 y := fun y => jset_o (by omega)
  refine ⟨⟨h.1.1, (E 11).trans h.1.2.1, fun i hi => ⟨(h.1.2.2 i hi).1, ?_⟩⟩, h.2.1, (E 12).trans h.2.2.1, (E 13).trans h.2.2.2.1, (E 14).trans h.2.2.2.2.1, fun q => (E 15).trans (h.2.2.2.2.2.1 q), (E 16).trans h.2.2.2.2.2.2⟩
  rw [jset_o (by omega)]
  exact (h.1.2.2 i hi).2
theorem bad_f {σ : jMem} {f pl : Nat} (h : FL σ f pl) (x : Int32) : f_X12_bad x σ = some σ := by
  unfold f_X12_bad
  rw [if_pos h.nz]
theorem bad_r {σ : jMem} {B : Nat → Nat} {n p f : Nat} (h : TR σ B n p) (h1 : 1 ≤ f) (h3 : f ≤ 3) : ∃ σ', f_X12_bad (nI f) σ = some σ' ∧ FL σ' f p ∧ FR frQ σ σ' := by
  refine ⟨jset (jset σ 89 16 (nI f)) 89 17 (nI p), ?_, ⟨by rw [jset_o (by omega), jset_i], h1, h3, jset_i⟩, ((FR.refl σ).set (Or.inr (by omega))).set (Or.inr (by omega))⟩
  unfold f_X12_bad
  rw [h.2.2.2.2.2.2, if_neg (fun z => z rfl), jlet_eq, jset_o (by omega), h.2.2.2.1, jlet_eq]
theorem must_f {σ : jMem} {f pl : Nat} (h : FL σ f pl) (x : Int32) : f_X12_must x σ = some σ := by
  unfold f_X12_must
  rw [jj_eq]
  by_cases c : x = 0
  · rw [if_neg (fun z => z c), bad_f h, jbv_eq]
    dsimp only
    rw [if_pos h.nz]
  · rw [if_pos c]
    dsimp only
    rw [if_pos h.nz]
theorem must_y {σ : jMem} {B : Nat → Nat} {n p : Nat} (h : TR σ B n p) {x : Int32} (hx : ¬ x = 0) : ∃ σ', f_X12_must x σ = some σ' ∧ TR σ' B n (tN B n p) ∧ FR frR σ σ' := by
  obtain ⟨σ', e, t, f⟩ := next_r h.1 (tN_le h.2.1) h.2.2.1 h.2.2.2.2.2.2
  refine ⟨σ', ?_, t, f⟩
  unfold f_X12_must
  rw [jj_eq, if_pos hx]
  dsimp only
  rw [h.2.2.2.2.2.2, if_neg (fun z => z rfl), e, jbv_eq]
theorem must_n {σ : jMem} {B : Nat → Nat} {n p : Nat} (h : TR σ B n p) : ∃ σ', f_X12_must 0 σ = some σ' ∧ FL σ' 1 p ∧ FR frQ σ σ' := by
  obtain ⟨σ', e, t, f⟩ := bad_r (f := 1) h (by omega) (by omega)
  refine ⟨σ', ?_, t, f⟩
  unfold f_X12_must
  rw [jj_eq, if_neg (fun z => z rfl), show (1 : Int32) = nI 1 from rfl, e, jbv_eq]
  dsimp only
  rw [if_pos t.nz]
theorem sign_f {σ : jMem} {f pl : Nat} (h : FL σ f pl) (x : Int32) : f_X12_mustSign x σ = some σ := by
  unfold f_X12_mustSign
  rw [jj_eq, jj_eq]
  by_cases c : σ.1 89 14 = 4
  · rw [if_neg (fun z => z c)]
    by_cases c2 : σ.1 89 15 = x
    · rw [if_neg (fun z => z c2)]
      dsimp only
      rw [must_f h, jbv_eq]
    · rw [if_pos c2]
      dsimp only
      rw [must_f h, jbv_eq]
  · rw [if_pos c]
    dsimp only
    rw [must_f h, jbv_eq]
theorem num_f {σ : jMem} {f pl : Nat} (h : FL σ f pl) (x y : Int32) : f_X12_number x y σ = some (x, σ) := by
  unfold f_X12_number
  rw [jj_eq, if_pos h.nz]
  dsimp only
  rw [jj_eq, if_pos h.nz]
  dsimp only
  rw [jj_eq, if_pos h.nz]
  dsimp only
  rw [must_f h, jbv_eq]
theorem let_f {σ : jMem} {f pl : Nat} (h : FL σ f pl) (x : Int32) : f_X12_isLetter x σ = some (0, σ) := by
  unfold f_X12_isLetter
  rw [if_pos h.nz]
theorem isTk_l {B : Nat → Nat} {n c p : Nat} (hc : 97 ≤ c) : isTk B n c p ↔ tT B n p = 2 ∧ tX B n p = c := by
  unfold isTk
  rcases tT_cases B n p with ⟨e, _⟩ | ⟨e, _⟩ | ⟨e, _⟩ | ⟨e, _⟩ | ⟨e, _, h1, x, _⟩ | ⟨e, _⟩ <;> rw [e] <;> omega
theorem isTk_s {B : Nat → Nat} {n c p : Nat} (hc : c = 44 ∨ c = 59) : isTk B n c p ↔ tT B n p = 4 ∧ tX B n p = c := by
  unfold isTk
  rcases tT_cases B n p with ⟨e, _⟩ | ⟨e, _, h1, h2, x, _⟩ | ⟨e, _⟩ | ⟨e, _⟩ | ⟨e, _⟩ | ⟨e, _⟩ <;> rw [e] <;> omega
theorem tT_le (B : Nat → Nat) (n p : Nat) : tT B n p ≤ 4 := by
  rcases tT_cases B n p with ⟨e, _⟩ | ⟨e, _⟩ | ⟨e, _⟩ | ⟨e, _⟩ | ⟨e, _⟩ | ⟨e, _⟩ <;> omega
theorem tX_lt {B : Nat → Nat} {n p : Nat} (hB : ∀ i, i < n → B i < 256) (h : 2 ≤ tT B n p) : tX B n p < 256 := by
  rcases tT_cases B n p with ⟨e, _⟩ | ⟨e, _, h1, h2, x, _⟩ | ⟨e, _⟩ | ⟨e, _⟩ | ⟨e, _, h1, x, _⟩ | ⟨e, _⟩
  · omega
  · omega
  · have := tX_num e
    omega
  · omega
  · omega
  · omega
theorem let_r {σ : jMem} {B : Nat → Nat} {n p c : Nat} (h : TR σ B n p) (hc : 97 ≤ c) (hc2 : c < 256) : f_X12_isLetter (nI c) σ = some (if isTk B n c p then 1 else 0, σ) := by
  have hi := isTk_l (B := B) (n := n) (p := p) hc
  have hT := tT_le B n p
  unfold f_X12_isLetter
  rw [h.2.2.2.2.2.2, if_neg (fun z => z rfl), h.2.2.2.2.1]
  by_cases t : tT B n p = 2
  · have hx := tX_lt (p := p) (fun i hi => (h.1.2.2 i hi).1) (by omega)
    rw [if_neg (fun z => z (eqL_ t)), h.2.2.2.2.2.1 (by omega)]
    by_cases x : tX B n p = c
    · rw [if_neg (fun z => z (by rw [x])), if_pos (hi.mpr ⟨t, x⟩)]
    · rw [if_pos (nne_ x (by omega) (by omega)), if_neg (fun q => x (hi.mp q).2)]
  · rw [if_pos (neL_ t (by omega) (by omega)), if_neg (fun q => t (hi.mp q).1)]
/-! outcomes -/
def AB {α : Type} (σ0 : jMem) (G : Option α → PRs → Prop) (K : jMem → Option α) : Prop := ∀ σ f pl, FL σ f pl → FR frQ σ0 σ → G (K σ) (.inl (f, pl))
theorem AB_sign {α : Type} {σ0 : jMem} {G : Option α → PRs → Prop} {K : jMem → Option α} (x : Int32) (h : AB σ0 G K) : AB σ0 G (fun σ => jbv (f_X12_mustSign x σ) K) := by
  intro σ f pl hf hF
  show G (jbv (f_X12_mustSign x σ) K) _
  rw [sign_f hf, jbv_eq]
  exact h σ f pl hf hF
theorem AB_must {α : Type} {σ0 : jMem} {G : Option α → PRs → Prop} {K : jMem → Option α} (x : Int32) (h : AB σ0 G K) : AB σ0 G (fun σ => jbv (f_X12_must x σ) K) := by
  intro σ f pl hf hF
  show G (jbv (f_X12_must x σ) K) _
  rw [must_f hf, jbv_eq]
  exact h σ f pl hf hF
theorem AB_num {α : Type} {σ0 : jMem} {G : Option α → PRs → Prop} {K : Int32 → jMem → Option α} (x y : Int32) (h : ∀ v, AB σ0 G (K v)) : AB σ0 G (fun σ => jbd (f_X12_number x y σ) K) := by
  intro σ f pl hf hF
  show G (jbd (f_X12_number x y σ) K) _
  rw [num_f hf, jbd_eq]
  exact h _ σ f pl hf hF
theorem AB_st {α : Type} {σ0 : jMem} {G : Option α → PRs → Prop} {K : jMem → Option α} {i : Nat} (hi : i < 67) (v : Int32) (h : AB σ0 G K) : AB σ0 G (fun σ => jst σ 94 67 (nI i) v K) := by
  intro σ f pl hf hF
  show G (jst σ 94 67 (nI i) v K) _
  rw [jst_eq hi (by omega)]
  exact h _ f pl (hf.set (by omega) _ _) (hF.set (Or.inl rfl))
theorem letterK {α : Type} {B : Nat → Nat} {n p c : Nat} {σ0 σ : jMem} {G : Option α → PRs → Prop} {K : jMem → Option α} {k : Nat → PRs} (h : TR σ B n p) (hc : 97 ≤ c ∧ c < 256) (hF : FR frQ σ0 σ) (hA : AB σ0 G K) (H : isTk B n c p → ∀ σ', TR σ' B n (tN B n p) → FR frR σ σ' → G (K σ') (k (tN B n p))) : G (jbd (f_X12_isLetter (nI c) σ) (fun v σ' => jbv (f_X12_must v σ') K)) (pTk B n c p k) := by
  rw [let_r h hc.1 hc.2]
  unfold pTk
  by_cases t : isTk B n c p
  · obtain ⟨σ', e, t', f⟩ := must_y (x := 1) h (by decide)
    rw [if_pos t, if_pos t, jbd_eq, e, jbv_eq]
    exact H t σ' t' f
  · obtain ⟨σ', e, t', f⟩ := must_n h
    rw [if_neg t, if_neg t, jbd_eq, e, jbv_eq]
    exact hA σ' 1 p t' (hF.trans f)
theorem signK {α : Type} {B : Nat → Nat} {n p c : Nat} {σ0 σ : jMem} {G : Option α → PRs → Prop} {K : jMem → Option α} {k : Nat → PRs} (h : TR σ B n p) (hc : c = 44 ∨ c = 59) (hF : FR frQ σ0 σ) (hA : AB σ0 G K) (H : isTk B n c p → ∀ σ', TR σ' B n (tN B n p) → FR frR σ σ' → G (K σ') (k (tN B n p))) : G (jbv (f_X12_mustSign (nI c) σ) K) (pTk B n c p k) := by
  have hi := isTk_s (B := B) (n := n) (p := p) hc
  have hT := tT_le B n p
  have no : ¬ isTk B n c p → ∃ σ', f_X12_must 0 σ = some σ' ∧ G (K σ') (pTk B n c p k) := by
    intro t
    obtain ⟨σ', e, t', f⟩ := must_n h
    refine ⟨σ', e, ?_⟩
    unfold pTk
    rw [if_neg t]
    exact hA σ' 1 p t' (hF.trans f)
  unfold f_X12_mustSign
  rw [jj_eq, jj_eq, h.2.2.2.2.1]
  by_cases t : tT B n p = 4
  · have hx := tX_lt (p := p) (fun i hi => (h.1.2.2 i hi).1) (by omega)
    rw [if_neg (fun z => z (eqL_ t)), h.2.2.2.2.2.1 (by omega)]
    by_cases x : tX B n p = c
    · obtain ⟨σ', e, t', f⟩ := must_y (x := 1) h (by decide)
      rw [if_neg (fun z => z (by rw [x]))]
      dsimp only
      rw [e, jbv_eq, jbv_eq]
      unfold pTk
      rw [if_pos (hi.mpr ⟨t, x⟩)]
      exact H (hi.mpr ⟨t, x⟩) σ' t' f
    · obtain ⟨σ', e, g⟩ := no (fun q => x (hi.mp q).2)
      rw [if_pos (nne_ x (by omega) (by omega))]
      dsimp only
      rw [e, jbv_eq, jbv_eq]
      exact g
  · obtain ⟨σ', e, g⟩ := no (fun q => t (hi.mp q).1)
    rw [if_pos (neL_ t (by omega) (by omega))]
    dsimp only
    rw [e, jbv_eq, jbv_eq]
    exact g
theorem numR {α : Type} {B : Nat → Nat} {n p lo hi : Nat} {σ0 σ : jMem} {ex : Nat → Nat} {G : Option α → PRs → Prop} {K : Int32 → jMem → Option α} {k : Nat → Nat → PRs} (h : TR σ B n p) (hl : lo < 256 ∧ hi < 256) (hF : FR frQ σ0 σ) (hex : tT B n p = 3 → ex (tX B n p) = 0) (hA : ∀ v, AB σ0 G (K v)) (H : tT B n p = 3 → lo ≤ tX B n p → tX B n p ≤ hi → ∀ σ', TR σ' B n (tN B n p) → FR frR σ σ' → G (K (nI (tX B n p)) σ') (k (tX B n p) (tN B n p))) : G (jbd (f_X12_number (nI lo) (nI hi) σ) K) (pNm B n lo hi p ex k) := by
  have hT := tT_le B n p
  unfold f_X12_number pNm
  rw [jj_eq, h.2.2.2.2.2.2, if_neg (fun z => z rfl), h.2.2.2.2.1]
  by_cases t : tT B n p = 3
  · have hx := tX_num t
    rw [if_pos (eqL_ t), if_pos t]
    dsimp only
    rw [jj_eq, h.2.2.2.2.2.2, if_neg (fun z => z rfl), h.2.2.2.2.2.1 (by omega), in_nat _ _ _ (by omega) (by omega), nI_toInt (by omega), jbd_eq]
    by_cases c : lo ≤ tX B n p ∧ tX B n p ≤ hi
    · obtain ⟨σ', e, t', f⟩ := must_y (x := 1) h (by decide)
      rw [if_pos (show (lo : Int) ≤ (tX B n p : Int) ∧ (tX B n p : Int) ≤ (hi : Int) by omega), if_pos (show ¬ (1 : Int32) = 0 by decide), if_pos (show (lo ≤ tX B n p ∧ tX B n p ≤ hi) ∧ ex (tX B n p) = 0 from ⟨c, hex t⟩)]
      dsimp only
      rw [jj_eq, h.2.2.2.2.2.2, if_neg (fun z => z rfl), h.2.2.2.2.2.1 (by omega)]
      dsimp only
      rw [e, jbv_eq, jbd_eq]
      exact H t c.1 c.2 σ' t' f
    · obtain ⟨σ', e, t', f⟩ := bad_r (f := 2) h (by omega) (by omega)
      rw [if_neg (show ¬ ((lo : Int) ≤ (tX B n p : Int) ∧ (tX B n p : Int) ≤ (hi : Int)) by omega), if_neg (show ¬ ¬ (0 : Int32) = 0 by decide), if_neg (show ¬ ((lo ≤ tX B n p ∧ tX B n p ≤ hi) ∧ ex (tX B n p) = 0) from fun q => c q.1), show (2 : Int32) = nI 2 from rfl, e, jbv_eq]
      dsimp only
      rw [jj_eq, if_pos t'.nz]
      dsimp only
      rw [must_f t', jbv_eq, jbd_eq]
      exact hA _ σ' 2 p t' (hF.trans f)
  · obtain ⟨σ', e, t', f⟩ := bad_r (f := 1) h (by omega) (by omega)
    have e : f_X12_bad (1 : Int32) σ = some σ' := e
    rw [if_neg (neL_ t (by omega) (by omega)), if_neg t, e, jbv_eq]
    dsimp only
    rw [jj_eq, if_pos t'.nz]
    dsimp only
    rw [jj_eq, if_pos t'.nz]
    dsimp only
    rw [must_f t', jbv_eq, jbd_eq]
    exact hA _ σ' 1 p t' (hF.trans f)
