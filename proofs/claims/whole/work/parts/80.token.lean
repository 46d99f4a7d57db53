/-! ===== PURE: tokens ===== -/
abbrev fg (B : Nat → Nat) (n i : Nat) : Prop := i < n ∧ 48 ≤ B i ∧ B i ≤ 57
def rnE (B : Nat → Nat) (n : Nat) : Nat → Nat → Nat
  | 0, p => p
  | k + 1, p => if fg B n p then rnE B n k (p + 1) else p
def enF (B : Nat → Nat) (n p : Nat) : Nat := rnE B n (n - p) p
theorem enF_0 {B : Nat → Nat} {n p : Nat} (h : ¬ fg B n p) : enF B n p = p := by
  unfold enF
  cases n - p with
  | zero => rfl
  | succ k => exact if_neg h
theorem enF_s {B : Nat → Nat} {n p : Nat} (h : fg B n p) : enF B n p = enF B n (p + 1) := by
  unfold enF
  have h1 := h.1
  rw [show n - p = (n - (p + 1)) + 1 by omega]
  exact if_pos h
theorem enF_k {B : Nat → Nat} {n : Nat} : ∀ {k p : Nat}, (∀ j, j < k → fg B n (p + j)) → ¬ fg B n (p + k) → enF B n p = p + k
  | 0, p, _, h2 => enF_0 h2
  | k + 1, p, h1, h2 => by
    have h0 : fg B n p := h1 0 (by omega)
    rw [enF_s h0, enF_k (k := k) (p := p + 1) (fun j hj => by
      have := h1 (j + 1) (by omega)
      rw [show p + 1 + j = p + (j + 1) by omega]
      exact this) (by
      rw [show p + 1 + k = p + (k + 1) by omega]
      exact h2)]
    omega
theorem rnE_le {B : Nat → Nat} {n : Nat} : ∀ k p, p ≤ n → p ≤ rnE B n k p ∧ rnE B n k p ≤ n
  | 0, p, h => ⟨Nat.le_refl _, h⟩
  | k + 1, p, h => by
    unfold rnE
    by_cases c : fg B n p
    · rw [if_pos c]
      have := rnE_le (B := B) (n := n) k (p + 1) (by have := c.1; omega)
      omega
    · rw [if_neg c]
      exact ⟨Nat.le_refl _, h⟩
theorem enF_le {B : Nat → Nat} {n p : Nat} (h : p ≤ n) : p ≤ enF B n p ∧ enF B n p ≤ n := rnE_le _ _ h
theorem enF_gt {B : Nat → Nat} {n p : Nat} (h : fg B n p) : p + 1 ≤ enF B n p := by
  rw [enF_s h]
  exact (enF_le (show p + 1 ≤ n from h.1)).1
def vK (B : Nat → Nat) (p k : Nat) : Nat := if k = 0 then 0 else if k = 1 then B p - 48 else 10 * (B p - 48) + (B (p + 1) - 48)
theorem vK_le {B : Nat → Nat} {n p k : Nat} (h : ∀ j, j < k → fg B n (p + j)) : vK B p k ≤ 99 := by
  unfold vK
  by_cases c0 : k = 0
  · rw [if_pos c0]
    omega
  · rw [if_neg c0]
    have h0 := h 0 (by omega)
    rw [Nat.add_zero] at h0
    by_cases c1 : k = 1
    · rw [if_pos c1]
      omega
    · rw [if_neg c1]
      have h1 := h 1 (by omega)
      omega
theorem vK_s {B : Nat → Nat} {n p k : Nat} (h : ∀ j, j < k → fg B n (p + j)) (hk : fg B n (p + k)) (h2 : k < 2) : vK B p k * 10 + B (p + k) - 48 = vK B p (k + 1) := by
  rcases (show k = 0 ∨ k = 1 by omega) with rfl | rfl
  · show 0 * 10 + B (p + 0) - 48 = B p - 48
    rw [Nat.add_zero]
    omega
  · show (B p - 48) * 10 + B (p + 1) - 48 = 10 * (B p - 48) + (B (p + 1) - 48)
    omega
theorem vK_2 (B : Nat → Nat) (p : Nat) {k : Nat} (h2 : 2 ≤ k) : vK B p (k + 1) = vK B p k := by
  unfold vK
  rw [if_neg (by omega), if_neg (by omega), if_neg (by omega), if_neg (by omega)]
/-- the token at a place: 0 none, 1 the end, 2 a letter, 3 a number, 4 a sign; what; the place behind it -/
def tT (B : Nat → Nat) (n p : Nat) : Nat := if n ≤ p then 1 else if 97 ≤ B p ∧ B p ≤ 122 then 2 else if 48 ≤ B p ∧ B p ≤ 57 then (if enF B n p - p ≤ 2 then 3 else 0) else if B p = 44 ∨ B p = 59 then 4 else 0
def tX (B : Nat → Nat) (n p : Nat) : Nat := if fg B n p then vK B p (enF B n p - p) else B p
def tN (B : Nat → Nat) (n p : Nat) : Nat := if n ≤ p then p else if fg B n p then enF B n p else p + 1
theorem tN_le {B : Nat → Nat} {n p : Nat} (h : p ≤ n) : tN B n p ≤ n := by
  unfold tN
  by_cases c : n ≤ p
  · rw [if_pos c]
    exact h
  · rw [if_neg c]
    by_cases c2 : fg B n p
    · rw [if_pos c2]
      exact (enF_le h).2
    · rw [if_neg c2]
      omega
theorem enF_run {B : Nat → Nat} {n : Nat} : ∀ (k p : Nat), p + k ≤ enF B n p → p ≤ n → ∀ j, j < k → fg B n (p + j)
  | 0, p, _, _, j, hj => by omega
  | k + 1, p, h, hp, j, hj => by
    have c : fg B n p := by
      refine Classical.byContradiction (fun q => ?_)
      rw [enF_0 q] at h
      omega
    cases j with
    | zero => exact c
    | succ j =>
      rw [enF_s c] at h
      have := enF_run (B := B) (n := n) k (p + 1) (by omega) c.1 j (by omega)
      rw [show p + (j + 1) = p + 1 + j by omega]
      exact this
theorem tT_cases (B : Nat → Nat) (n p : Nat) : (tT B n p = 1 ∧ n ≤ p) ∨ (tT B n p = 2 ∧ p < n ∧ 97 ≤ B p ∧ B p ≤ 122 ∧ tX B n p = B p ∧ tN B n p = p + 1) ∨ (tT B n p = 3 ∧ fg B n p ∧ enF B n p - p ≤ 2 ∧ tX B n p = vK B p (enF B n p - p) ∧ tN B n p = enF B n p) ∨ (tT B n p = 0 ∧ fg B n p ∧ ¬ enF B n p - p ≤ 2 ∧ tN B n p = enF B n p) ∨ (tT B n p = 4 ∧ p < n ∧ (B p = 44 ∨ B p = 59) ∧ tX B n p = B p ∧ tN B n p = p + 1) ∨ (tT B n p = 0 ∧ p < n ∧ ¬ (97 ≤ B p ∧ B p ≤ 122) ∧ ¬ fg B n p ∧ ¬ (B p = 44 ∨ B p = 59) ∧ tN B n p = p + 1) := by
  unfold tT tX tN
  by_cases c1 : n ≤ p
  · left
    rw [if_pos c1]
    exact ⟨rfl, c1⟩
  · have hp : p < n := by omega
    rw [if_neg c1, if_neg c1]
    by_cases c2 : 97 ≤ B p ∧ B p ≤ 122
    · have nf : ¬ fg B n p := fun q => by have := q.2; omega
      right; left
      rw [if_pos c2, if_neg nf, if_neg nf]
      exact ⟨rfl, hp, c2.1, c2.2, rfl, rfl⟩
    · rw [if_neg c2]
      by_cases c3 : 48 ≤ B p ∧ B p ≤ 57
      · have f : fg B n p := ⟨hp, c3⟩
        rw [if_pos c3, if_pos f, if_pos f]
        by_cases c4 : enF B n p - p ≤ 2
        · right; right; left
          rw [if_pos c4]
          exact ⟨rfl, f, c4, rfl, rfl⟩
        · right; right; right; left
          rw [if_neg c4]
          exact ⟨rfl, f, c4, rfl⟩
      · have nf : ¬ fg B n p := fun q => c3 q.2
        rw [if_neg c3, if_neg nf, if_neg nf]
        by_cases c5 : B p = 44 ∨ B p = 59
        · right; right; right; right; left
          rw [if_pos c5]
          exact ⟨rfl, hp, c5, rfl, rfl⟩
        · right; right; right; right; right
          rw [if_neg c5]
          exact ⟨rfl, hp, c2, nf, c5, rfl⟩
theorem tX_num {B : Nat → Nat} {n p : Nat} (h : tT B n p = 3) : tX B n p ≤ 99 := by
  rcases tT_cases B n p with ⟨e, _⟩ | ⟨e, _⟩ | ⟨e, f, _, x, _⟩ | ⟨e, _⟩ | ⟨e, _⟩ | ⟨e, _⟩
  · omega
  · omega
  · rw [x]
    have hp : p ≤ n := Nat.le_of_lt f.1
    have hl := enF_le (B := B) hp
    exact vK_le (enF_run _ p (by omega) hp)
  · omega
  · omega
  · omega
/-- the class's code of it -/
def tkC (B : Nat → Nat) (n p : Nat) : Int32 := if tT B n p = 0 then -1 else if tT B n p = 1 then 0 else if tT B n p = 3 then 1 else nI (tX B n p)
abbrev isTk (B : Nat → Nat) (n c p : Nat) : Prop := (tT B n p = 2 ∨ tT B n p = 4) ∧ tX B n p = c
theorem tkC_iff {B : Nat → Nat} {n p c : Nat} (hc : 2 ≤ c) (hc2 : c < 256) : tkC B n p = nI c ↔ isTk B n c p := by
  unfold tkC isTk
  rcases tT_cases B n p with ⟨e, _⟩ | ⟨e, _, h1, h2, x, _⟩ | ⟨e, _⟩ | ⟨e, _⟩ | ⟨e, _, h1, x, _⟩ | ⟨e, _⟩
  · rw [e, if_neg (by omega), if_pos rfl]
    exact ⟨fun q => absurd q.symm (neL_ (by omega) (by omega) (by omega)), fun q => by omega⟩
  · rw [e, if_neg (by omega), if_neg (by omega), if_neg (by omega), x]
    exact ⟨fun q => ⟨Or.inl rfl, (nI_eq (by omega) (by omega)).mp q⟩, fun q => by rw [q.2]⟩
  · rw [e, if_neg (by omega), if_neg (by omega), if_pos rfl]
    exact ⟨fun q => absurd q.symm (neL_ (by omega) (by omega) (by omega)), fun q => by omega⟩
  · rw [e, if_pos rfl]
    exact ⟨fun q => absurd q.symm (nI_ne_m1 (by omega)), fun q => by omega⟩
  · rw [e, if_neg (by omega), if_neg (by omega), if_neg (by omega), x]
    exact ⟨fun q => ⟨Or.inr rfl, (nI_eq (by omega) (by omega)).mp q⟩, fun q => by rw [q.2]⟩
  · rw [e, if_pos rfl]
    exact ⟨fun q => absurd q.symm (nI_ne_m1 (by omega)), fun q => by omega⟩
theorem tkC_1 {B : Nat → Nat} {n p : Nat} : tkC B n p = 1 ↔ tT B n p = 3 := by
  unfold tkC
  rcases tT_cases B n p with ⟨e, _⟩ | ⟨e, _, h1, h2, x, _⟩ | ⟨e, _⟩ | ⟨e, _⟩ | ⟨e, _, h1, x, _⟩ | ⟨e, _⟩
  · rw [e, if_neg (by omega), if_pos rfl]
    exact ⟨fun q => absurd q (by decide), fun q => by omega⟩
  · rw [e, if_neg (by omega), if_neg (by omega), if_neg (by omega), x]
    exact ⟨fun q => absurd q (neL_ (by omega) (by omega) (by omega)), fun q => by omega⟩
  · rw [e, if_neg (by omega), if_neg (by omega), if_pos rfl]
    exact ⟨fun _ => rfl, fun _ => rfl⟩
  · rw [e, if_pos rfl]
    exact ⟨fun q => absurd q (by decide), fun q => by omega⟩
  · rw [e, if_neg (by omega), if_neg (by omega), if_neg (by omega), x]
    exact ⟨fun q => absurd q (neL_ (by omega) (by omega) (by omega)), fun q => by omega⟩
  · rw [e, if_pos rfl]
    exact ⟨fun q => absurd q (by decide), fun q => by omega⟩
theorem tkC_0 {B : Nat → Nat} {n p : Nat} : tkC B n p = 0 ↔ tT B n p = 1 := by
  unfold tkC
  rcases tT_cases B n p with ⟨e, _⟩ | ⟨e, _, h1, h2, x, _⟩ | ⟨e, _⟩ | ⟨e, _⟩ | ⟨e, _, h1, x, _⟩ | ⟨e, _⟩
  · rw [e, if_neg (by omega), if_pos rfl]
    exact ⟨fun _ => rfl, fun _ => rfl⟩
  · rw [e, if_neg (by omega), if_neg (by omega), if_neg (by omega), x]
    exact ⟨fun q => absurd q (neL_ (by omega) (by omega) (by omega)), fun q => by omega⟩
  · rw [e, if_neg (by omega), if_neg (by omega), if_pos rfl]
    exact ⟨fun q => absurd q (by decide), fun q => by omega⟩
  · rw [e, if_pos rfl]
    exact ⟨fun q => absurd q (by decide), fun q => by omega⟩
  · rw [e, if_neg (by omega), if_neg (by omega), if_neg (by omega), x]
    exact ⟨fun q => absurd q (neL_ (by omega) (by omega) (by omega)), fun q => by omega⟩
  · rw [e, if_pos rfl]
    exact ⟨fun q => absurd q (by decide), fun q => by omega⟩
/-! the class's tape -/
def TS (σ : jMem) (B : Nat → Nat) (n : Nat) : Prop := n ≤ 140 ∧ σ.1 13 1 = nI n ∧ ∀ i, i < n → B i < 256 ∧ σ.1 14 i = nI (B i)
def fr13 (c j : Nat) : Prop := c = 13 ∧ 4 ≤ j
theorem TS.fr {σ τ : jMem} {B : Nat → Nat} {n : Nat} {P : Nat → Nat → Prop} (h : TS σ B n) (f : FR P σ τ) (h1 : ¬ P 13 1) (h2 : ∀ i, ¬ P 14 i) : TS τ B n := ⟨h.1, (f.1 13 1 h1).trans h.2.1, fun i hi => ⟨(h.2.2 i hi).1, (f.1 14 i (h2 i)).trans (h.2.2 i hi).2⟩⟩
theorem isFig_c {b : Nat} (hb : b < 256) (σ : jMem) : f_X9_isFigure (nI b) σ = some (if 48 ≤ b ∧ b ≤ 57 then 1 else 0, σ) := by
  unfold f_X9_isFigure
  by_cases c1 : b < 48
  · rw [if_pos (ltL c1 (by omega)), if_neg (by omega)]
  · rw [if_neg (ltL_ (by omega) (by omega))]
    by_cases c2 : 57 < b
    · rw [if_pos (Llt c2 (by omega)), if_neg (by omega)]
    · rw [if_neg (Llt_ (by omega) (by omega)), if_pos (by omega)]
theorem takeNum_c {σ : jMem} {B : Nat → Nat} {n p : Nat} (hS : TS σ B n) (h4 : σ.1 13 4 = nI p) (hf : fg B n p) : ∃ σ', f_X9_takeNumber σ = some σ' ∧ σ'.1 13 4 = nI p ∧ σ'.1 13 5 = (if enF B n p - p ≤ 2 then 1 else -1) ∧ σ'.1 13 6 = nI (vK B p (enF B n p - p)) ∧ σ'.1 13 7 = nI (enF B n p) ∧ FR fr13 σ σ' := by
  have hn := hS.1
  have hp := hf.1
  have hl := enF_le (B := B) (Nat.le_of_lt hp)
  have F0 : FR fr13 σ (jset (jset σ 13 6 0) 13 7 (nI p)) := ((FR.refl σ).set ⟨rfl, by omega⟩).set ⟨rfl, by omega⟩
  have H := jloop_ex (body := fun (rec : Unit → jMem → Option (Unit × jMem)) (s : Unit) σ => X9_takeNumber_L13_b rec σ) (fun k s τ => (∀ j, j < k → fg B n (p + j)) ∧ τ.1 13 4 = nI p ∧ τ.1 13 6 = nI (vK B p k) ∧ τ.1 13 7 = nI (p + k) ∧ FR fr13 σ τ) (fun r => r.2.1 13 4 = nI p ∧ r.2.1 13 6 = nI (vK B p (enF B n p - p)) ∧ r.2.1 13 7 = nI (enF B n p) ∧ FR fr13 σ r.2) (n - p) ?_ ?_ () (jset (jset σ 13 6 0) 13 7 (nI p)) ⟨fun j hj => by omega, by rw [jset_o (by omega), jset_o (by omega)]; exact h4, by rw [jset_o (by omega), jset_i]; rfl, by rw [jset_i]; rfl, F0⟩ jFU (by unfold jFU; omega)
  · obtain ⟨⟨u, ρ⟩, ⟨r1, r2, r3, r4⟩, r5⟩ := H
    have r1 : ρ.1 13 4 = nI p := r1
    have r2 : ρ.1 13 6 = nI (vK B p (enF B n p - p)) := r2
    have r3 : ρ.1 13 7 = nI (enF B n p) := r3
    refine ⟨jset ρ 13 5 (if enF B n p - p ≤ 2 then 1 else -1), ?_, by rw [jset_o (by omega)]; exact r1, jset_i, by rw [jset_o (by omega)]; exact r2, by rw [jset_o (by omega)]; exact r3, r4.set ⟨rfl, by omega⟩⟩
    unfold f_X9_takeNumber
    rw [jlet_eq, jset_o (by omega), h4, jlet_eq, show X9_takeNumber_L13 jFU () (jset (jset σ 13 6 0) 13 7 (nI p)) = some (u, ρ) from r5, jbd_eq, jj_eq, r3, r1, pk_sub (by omega)]
    by_cases c : enF B n p - p ≤ 2
    · rw [if_pos (leL c (by omega)), if_pos c]
      rfl
    · rw [if_neg (leL_ (by omega) (by omega)), if_neg c]
      rfl
  · rintro k s τ hk ⟨g1, g2, g3, g4, g5⟩
    have hSt := hS.fr g5 (by unfold fr13; omega) (fun i => by unfold fr13; omega)
    have hb := hSt.2.2 (p + k) (by omega)
    have hv := vK_le g1
    have hend : ¬ fg B n (p + k) → enF B n p = p + k := fun q => enF_k g1 q
    by_cases c : 48 ≤ B (p + k) ∧ B (p + k) ≤ 57
    · left
      have hf' : fg B n (p + k) := ⟨by omega, c⟩
      refine ⟨(), jset (jset τ 13 6 (nI (vK B p (k + 1)))) 13 7 (nI (p + (k + 1))), ⟨fun j hj => ?_, by rw [jset_o (by omega), jset_o (by omega)]; exact g2, by rw [jset_o (by omega), jset_i], jset_i, (g5.set ⟨rfl, by omega⟩).set ⟨rfl, by omega⟩⟩, fun rec => ?_⟩
      · by_cases e : j = k
        · rw [e]
          exact hf'
        · exact g1 j (by omega)
      · show X9_takeNumber_L13_b rec τ = _
        unfold X9_takeNumber_L13_b
        rw [hSt.2.1, g4, if_neg (nle_ (by omega) (by omega)), jld_eq (by omega) (by omega), hb.2, isFig_c hb.1, if_pos c, jbd_eq, if_neg (by decide)]
        refine jj_use (nI (vK B p (k + 1))) τ ?_ ?_
        · intro K
          rw [g4, g2, pk_sub (by omega), show p + k - p = k by omega]
          by_cases c2 : 2 ≤ k
          · rw [if_pos (Lle c2 (by omega)), g3, vK_2 B p c2]
          · rw [if_neg (Lle_ (by omega) (by omega)), jld_eq (by omega) (by omega), hb.2, g3, show (10 : Int32) = nI 10 from rfl, pk_mul, nI_add, nI_subL (by omega), vK_s g1 hf' (by omega)]
        · rw [jlet_eq, jset_o (by omega), g4, nI_1, jlet_eq]
          rfl
    · right
      have he := hend (fun q => c q.2)
      refine ⟨((), τ), ⟨g2, by rw [he, show p + k - p = k by omega]; exact g3, by rw [he]; exact g4, g5⟩, fun rec => ?_⟩
      show X9_takeNumber_L13_b rec τ = _
      unfold X9_takeNumber_L13_b
      rw [hSt.2.1, g4, if_neg (nle_ (by omega) (by omega)), jld_eq (by omega) (by omega), hb.2, isFig_c hb.1, if_neg c, jbd_eq, if_pos rfl]
  · rintro s τ ⟨g1, g2, g3, g4, g5⟩
    have hSt := hS.fr g5 (by unfold fr13; omega) (fun i => by unfold fr13; omega)
    have he : enF B n p = p + (n - p) := enF_k g1 (fun q => by have := q.1; omega)
    refine ⟨((), τ), ⟨g2, by rw [he, show p + (n - p) - p = n - p by omega]; exact g3, by rw [he]; exact g4, g5⟩, fun rec => ?_⟩
    show X9_takeNumber_L13_b rec τ = _
    unfold X9_takeNumber_L13_b
    rw [hSt.2.1, g4, if_pos (nI_le (by omega) (by omega))]
/-- it stands at the token at p -/
def TP (σ : jMem) (B : Nat → Nat) (n p : Nat) : Prop := TS σ B n ∧ p ≤ n ∧ σ.1 13 4 = nI p ∧ σ.1 13 5 = tkC B n p ∧ σ.1 13 7 = nI (tN B n p) ∧ (tT B n p = 3 → σ.1 13 6 = nI (tX B n p))
theorem take_c {σ : jMem} {B : Nat → Nat} {n p : Nat} (hS : TS σ B n) (hp : p ≤ n) (h7 : σ.1 13 7 = nI p) : ∃ σ', f_X9_take σ = some σ' ∧ TP σ' B n p ∧ FR fr13 σ σ' := by
  have hn := hS.1
  have F1 : FR fr13 σ (jset σ 13 4 (nI p)) := (FR.refl σ).set ⟨rfl, by omega⟩
  have e1 : (jset σ 13 4 (nI p)).1 13 1 = nI n := by rw [jset_o (by omega)]; exact hS.2.1
  have mk : ∀ σ', FR fr13 σ σ' → σ'.1 13 4 = nI p → σ'.1 13 5 = tkC B n p → σ'.1 13 7 = nI (tN B n p) → (tT B n p = 3 → σ'.1 13 6 = nI (tX B n p)) → TP σ' B n p := fun σ' f q1 q2 q3 q4 => ⟨hS.fr f (by unfold fr13; omega) (fun i => by unfold fr13; omega), hp, q1, q2, q3, q4⟩
  have hcas := tT_cases B n p
  by_cases cp : n ≤ p
  · have et : tT B n p = 1 := by
      unfold tT
      rw [if_pos cp]
    have en : tN B n p = p := by
      unfold tN
      rw [if_pos cp]
    have F2 : FR fr13 σ (jset (jset σ 13 4 (nI p)) 13 5 0) := F1.set ⟨rfl, by omega⟩
    refine ⟨_, ?_, mk _ F2 (by rw [jset_o (by omega), jset_i]) (by rw [jset_i]; exact (tkC_0.mpr et).symm) (by rw [jset_o (by omega), jset_o (by omega), en]; exact h7) (fun q => by omega), F2⟩
    unfold f_X9_take
    rw [h7, jlet_eq, jset_i, e1, if_neg (nlt_ cp (by omega)), jlet_eq]
  · have hb := hS.2.2 p (by omega)
    have e14 : (jset σ 13 4 (nI p)).1 14 p = nI (B p) := by rw [jset_o (by omega)]; exact hb.2
    have F2 : FR fr13 σ (jset (jset σ 13 4 (nI p)) 13 7 (nI (p + 1))) := F1.set ⟨rfl, by omega⟩
    by_cases cf : 48 ≤ B p ∧ B p ≤ 57
    · have hf : fg B n p := ⟨by omega, cf⟩
      obtain ⟨σ', t1, t2, t3, t4, t5, t6⟩ := takeNum_c (p := p) (hS.fr F2 (by unfold fr13; omega) (fun i => by unfold fr13; omega)) (by rw [jset_o (by omega), jset_i]) hf
      have en : tN B n p = enF B n p := by
        unfold tN
        rw [if_neg cp, if_pos hf]
      have ex : tX B n p = vK B p (enF B n p - p) := if_pos hf
      have et : tT B n p = if enF B n p - p ≤ 2 then 3 else 0 := by
        unfold tT
        rw [if_neg cp, if_neg (by omega), if_pos cf]
      refine ⟨σ', ?_, mk _ (F2.trans t6) t2 ?_ (by rw [en]; exact t5) (fun _ => by rw [ex]; exact t4), F2.trans t6⟩
      · unfold f_X9_take
        rw [h7, jlet_eq, jset_i, e1, if_pos (nI_lt (by omega) (by omega)), jld_eq (by omega) (by omega), e14, nI_1, jlet_eq, isFig_c hb.1, if_pos cf, jbd_eq, if_neg (by decide), t1, jbv_eq]
      · rw [t3]
        unfold tkC
        rw [et]
        by_cases c : enF B n p - p ≤ 2
        · rw [if_pos c, if_pos c]
          rfl
        · rw [if_neg c, if_neg c]
          rfl
    · have nf : ¬ fg B n p := fun q => cf q.2
      have en : tN B n p = p + 1 := by
        unfold tN
        rw [if_neg cp, if_neg nf]
      have ex : tX B n p = B p := if_neg nf
      have ent : tT B n p = 3 → False := by
        intro q
        rcases hcas with ⟨e, _⟩ | ⟨e, _⟩ | ⟨e, f, _⟩ | ⟨e, _⟩ | ⟨e, _⟩ | ⟨e, _⟩
        · omega
        · omega
        · exact nf f
        · omega
        · omega
        · omega
      have go : f_X9_take σ = some (jset (jset (jset σ 13 4 (nI p)) 13 7 (nI (p + 1))) 13 5 (tkC B n p)) := by
        unfold f_X9_take
        rw [h7, jlet_eq, jset_i, e1, if_pos (nI_lt (by omega) (by omega)), jld_eq (by omega) (by omega), e14, nI_1, jlet_eq, isFig_c hb.1, if_neg cf, jbd_eq, if_pos rfl, jj_eq, jj_eq]
        unfold tkC tT
        rw [if_neg cp]
        by_cases c1 : B p < 97
        · rw [if_pos (ltL c1 (by omega)), if_neg (show ¬ (97 ≤ B p ∧ B p ≤ 122) by omega), if_neg cf]
          dsimp only
          by_cases c2 : B p = 44
          · rw [if_pos (eqL_ c2), if_pos (Or.inl c2), ex]
            rfl
          · rw [if_neg (neL_ c2 (by omega) (by omega))]
            by_cases c3 : B p = 59
            · rw [if_neg (fun q => q (eqL_ c3)), if_pos (Or.inr c3), ex]
              rfl
            · rw [if_pos (neL_ c3 (by omega) (by omega)), if_neg (show ¬ (B p = 44 ∨ B p = 59) by omega)]
              rfl
        · rw [if_neg (ltL_ (by omega) (by omega))]
          by_cases c2 : B p ≤ 122
          · rw [if_pos (leL c2 (by omega)), if_pos (show 97 ≤ B p ∧ B p ≤ 122 by omega), ex]
            rfl
          · rw [if_neg (leL_ (by omega) (by omega)), if_neg (show ¬ (97 ≤ B p ∧ B p ≤ 122) by omega), if_neg cf]
            dsimp only
            rw [if_neg (neL_ (by omega) (by omega) (by omega)), if_pos (neL_ (by omega) (by omega) (by omega)), if_neg (show ¬ (B p = 44 ∨ B p = 59) by omega)]
            rfl
      have F3 : FR fr13 σ (jset (jset (jset σ 13 4 (nI p)) 13 7 (nI (p + 1))) 13 5 (tkC B n p)) := F2.set ⟨rfl, by omega⟩
      exact ⟨_, go, mk _ F3 (by rw [jset_o (by omega), jset_o (by omega), jset_i]) jset_i (by rw [jset_o (by omega), jset_i, en]) (fun q => (ent q).elim), F3⟩
