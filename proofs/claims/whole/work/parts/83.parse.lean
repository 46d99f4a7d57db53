/-! ===== PURE: the class reads the tape ===== -/
theorem pTk_inr {B : Nat → Nat} {n c p : Nat} {k : Nat → PRs} {q : aP × Nat} (h : pTk B n c p k = .inr q) : ∃ p', k p' = .inr q := by
  unfold pTk at h
  by_cases t : isTk B n c p
  · rw [if_pos t] at h
    exact ⟨_, h⟩
  · rw [if_neg t] at h
    exact absurd h (by simp)
theorem pNm_inr {B : Nat → Nat} {n lo hi p : Nat} {ex : Nat → Nat} {k : Nat → Nat → PRs} {q : aP × Nat} (h : pNm B n lo hi p ex k = .inr q) : ∃ x p', k x p' = .inr q := by
  unfold pNm at h
  by_cases t : tT B n p = 3
  · rw [if_pos t] at h
    by_cases c : (lo ≤ tX B n p ∧ tX B n p ≤ hi) ∧ ex (tX B n p) = 0
    · rw [if_pos c] at h
      exact ⟨_, _, h⟩
    · rw [if_neg c] at h
      exact absurd h (by simp)
  · rw [if_neg t] at h
    exact absurd h (by simp)
theorem pPath_np {B : Nat → Nat} {n p : Nat} {A : aP} {q : aP × Nat} (h : pPath B n A p = .inr q) : a_np q.1 = a_np A + 1 := by
  unfold pPath at h
  by_cases c : isTk B n 112 p ∧ 12 ≤ a_np A
  · rw [if_pos c] at h
    exact absurd h (by simp)
  · rw [if_neg c] at h
    obtain ⟨_, h⟩ := pTk_inr h
    obtain ⟨_, _, h⟩ := pNm_inr h
    obtain ⟨_, h⟩ := pTk_inr h
    obtain ⟨_, _, h⟩ := pNm_inr h
    obtain ⟨_, h⟩ := pTk_inr h
    obtain ⟨_, _, h⟩ := pNm_inr h
    obtain ⟨_, h⟩ := pTk_inr h
    have := Sum.inr.inj h
    rw [← this]
    rfl
theorem pPath_nw {B : Nat → Nat} {n p : Nat} {A : aP} {q : aP × Nat} (h : pPath B n A p = .inr q) : a_nw q.1 = a_nw A := by
  unfold pPath at h
  by_cases c : isTk B n 112 p ∧ 12 ≤ a_np A
  · rw [if_pos c] at h
    exact absurd h (by simp)
  · rw [if_neg c] at h
    obtain ⟨_, h⟩ := pTk_inr h
    obtain ⟨_, _, h⟩ := pNm_inr h
    obtain ⟨_, h⟩ := pTk_inr h
    obtain ⟨_, _, h⟩ := pNm_inr h
    obtain ⟨_, h⟩ := pTk_inr h
    obtain ⟨_, _, h⟩ := pNm_inr h
    obtain ⟨_, h⟩ := pTk_inr h
    have := Sum.inr.inj h
    rw [← this]
    rfl
theorem pPs_nw {B : Nat → Nat} {n : Nat} : ∀ {k p : Nat} {A : aP} {q : aP × Nat}, pPs B n k A p = .inr q → a_nw q.1 = a_nw A
  | 0, p, A, q, h => by
    have := Sum.inr.inj h
    rw [← this]
  | k + 1, p, A, q, h => by
    have h : bnd (pPath B n A p) (fun A' p' => if isTk B n 112 p' then pPs B n k A' p' else .inr (A', p')) = .inr q := h
    cases e : pPath B n A p with
    | inl z =>
      rw [e] at h
      exact absurd h (by simp [bnd])
    | inr z =>
      rw [e] at h
      have h : (if isTk B n 112 z.2 then pPs B n k z.1 z.2 else .inr (z.1, z.2)) = Sum.inr q := h
      by_cases t : isTk B n 112 z.2
      · rw [if_pos t] at h
        rw [pPs_nw h, pPath_nw e]
      · rw [if_neg t] at h
        have := Sum.inr.inj h
        rw [← this]
        exact pPath_nw e
theorem pLaw_0 {B : Nat → Nat} {n p : Nat} {q : aP × Nat} (h : pLaw B n p = .inr q) : a_np q.1 = 0 ∧ a_nw q.1 = 0 := by
  unfold pLaw at h
  obtain ⟨_, h⟩ := pTk_inr h
  obtain ⟨_, _, h⟩ := pNm_inr h
  obtain ⟨_, h⟩ := pTk_inr h
  obtain ⟨_, _, h⟩ := pNm_inr h
  obtain ⟨_, h⟩ := pTk_inr h
  have := Sum.inr.inj h
  rw [← this]
  exact ⟨rfl, rfl⟩
theorem pWit_nw {B : Nat → Nat} {n p : Nat} {A : aP} {q : aP × Nat} (h : pWit B n A p = .inr q) : a_nw q.1 = a_nw A + 1 := by
  unfold pWit at h
  by_cases c : 6 ≤ a_nw A
  · rw [if_pos c] at h
    exact absurd h (by simp)
  · rw [if_neg c] at h
    obtain ⟨_, _, h⟩ := pNm_inr h
    obtain ⟨_, h⟩ := pTk_inr h
    obtain ⟨_, _, h⟩ := pNm_inr h
    obtain ⟨_, h⟩ := pTk_inr h
    have := Sum.inr.inj h
    rw [← this]
    rfl
def OL (B : Nat → Nat) (n : Nat) (σ0 : jMem) (X : Option ((Unit × jMem) ⊕ (Int32 × jMem))) : PRs → Prop
  | .inl e => ∃ σ', X = some (.inr ((0 : Int32), σ')) ∧ FC σ0 σ' e.1 e.2
  | .inr q => ∃ σ', X = some (.inl ((), σ')) ∧ SC B n σ0 σ' q.2 q.1
theorem pathsE {B : Nat → Nat} {n : Nat} {σ0 : jMem} : ∀ (k : Nat) (A : aP) (p : Nat) (σ : jMem) (m : Nat), a_np A + k = 13 → 1 ≤ a_np A → SC B n σ0 σ p A → k < m → OL B n σ0 (jloop (fun rec s σ => X9_read_L25_b 30 rec s σ) m (nI (a_np A)) σ) (if isTk B n 112 p then pPs B n k A p else .inr (A, p))
  | 0, A, p, σ, m, hk, _, h, _ => by
    have := h.2.2.1.1.b
    omega
  | k + 1, A, p, σ, m, hk, h1, h, hm => by
    obtain ⟨m, rfl⟩ : ∃ m', m = m' + 1 := ⟨m - 1, by omega⟩
    have hb := h.2.2.1.1.b
    have h112 : tkC B n p = (112 : Int32) ↔ isTk B n 112 p := tkC_iff (c := 112) (by omega) (by omega)
    show OL B n σ0 (X9_read_L25_b 30 (jloop (fun rec s σ => X9_read_L25_b 30 rec s σ) m) (nI (a_np A)) σ) _
    unfold X9_read_L25_b
    rw [if_neg (Llt_ (by omega) (by omega)), jj_eq, if_neg (neL_ (by omega) (by omega) (by omega)), h.1.2.2.2.1]
    by_cases t : isTk B n 112 p
    · rw [if_neg (fun z => z (h112.mpr t)), if_pos t]
      dsimp only
      have hr := readPath_c h
      show OL B n σ0 _ (bnd (pPath B n A p) (fun A' p' => if isTk B n 112 p' then pPs B n k A' p' else .inr (A', p')))
      cases e : pPath B n A p with
      | inl z =>
        rw [e] at hr
        obtain ⟨σ', r1, r2⟩ := hr
        rw [r1, jbd_eq, if_neg (by decide)]
        exact ⟨σ', rfl, r2⟩
      | inr z =>
        rw [e] at hr
        obtain ⟨σ', r1, r2⟩ := hr
        have hnp := pPath_np e
        rw [r1, jbd_eq, if_pos (by decide), nI_1, ← hnp]
        exact pathsE k z.1 z.2 σ' m (by omega) (by omega) r2 (by omega)
    · rw [if_pos (show ¬ tkC B n p = 112 from fun z => t (h112.mp z)), if_neg t]
      exact ⟨σ, rfl, h⟩
theorem pathsF {B : Nat → Nat} {n p : Nat} {σ0 σ : jMem} {A : aP} (h0 : a_np A = 0) (h : SC B n σ0 σ p A) : OL B n σ0 (X9_read_L25 30 jFU (0 : Int32) σ) (pPs B n 13 A p) := by
  obtain ⟨m, hm⟩ : ∃ m, jFU = m + 1 := ⟨4999, rfl⟩
  have hm' : m = 4999 := by unfold jFU at hm; omega
  rw [hm]
  show OL B n σ0 (X9_read_L25_b 30 (jloop (fun rec s σ => X9_read_L25_b 30 rec s σ) m) (0 : Int32) σ) (bnd (pPath B n A p) (fun A' p' => if isTk B n 112 p' then pPs B n 12 A' p' else .inr (A', p')))
  unfold X9_read_L25_b
  rw [if_neg (by decide), jj_eq, if_pos rfl]
  dsimp only
  have hr := readPath_c h
  cases e : pPath B n A p with
  | inl z =>
    rw [e] at hr
    obtain ⟨σ', r1, r2⟩ := hr
    rw [r1, jbd_eq, if_neg (by decide)]
    exact ⟨σ', rfl, r2⟩
  | inr z =>
    rw [e] at hr
    obtain ⟨σ', r1, r2⟩ := hr
    have hnp := pPath_np e
    have h1 : a_np z.1 = 1 := by omega
    rw [r1, jbd_eq, if_pos (by decide)]
    have := pathsE 12 z.1 z.2 σ' m (by omega) (by omega) r2 (by omega)
    rw [h1] at this
    exact this
theorem witsE {B : Nat → Nat} {n : Nat} {σ0 : jMem} : ∀ (k : Nat) (A : aP) (p : Nat) (σ : jMem) (m : Nat), a_nw A + k = 7 → SC B n σ0 σ p A → k < m → OL B n σ0 (jloop (fun rec s σ => X9_read_L62_b 30 rec s σ) m (nI (a_nw A)) σ) (pWs B n k A p)
  | 0, A, p, σ, m, hk, h, _ => by
    have := h.2.2.1.1.b
    omega
  | k + 1, A, p, σ, m, hk, h, hm => by
    obtain ⟨m, rfl⟩ : ∃ m', m = m' + 1 := ⟨m - 1, by omega⟩
    have hb := h.2.2.1.1.b
    have hs5 := srt_le B n p
    show OL B n σ0 (X9_read_L62_b 30 (jloop (fun rec s σ => X9_read_L62_b 30 rec s σ) m) (nI (a_nw A)) σ) (if srt B n p = 0 then .inr (A, p) else bnd (pWit B n A p) fun A' p' => pWs B n k A' p')
    unfold X9_read_L62_b
    rw [if_neg (Llt_ (by omega) (by omega)), h.1.2.2.2.1, sortOf_c, jbd_eq]
    by_cases t : srt B n p = 0
    · rw [t, if_pos (show nI 0 = 0 from rfl), if_pos rfl]
      exact ⟨σ, rfl, h⟩
    · rw [if_neg (neL_ t (by omega) (by omega)), if_neg t]
      have hr := readWit_c h t
      cases e : pWit B n A p with
      | inl z =>
        rw [e] at hr
        obtain ⟨σ', r1, r2⟩ := hr
        rw [r1, jbd_eq, if_neg (by decide)]
        exact ⟨σ', rfl, r2⟩
      | inr z =>
        rw [e] at hr
        obtain ⟨σ', r1, r2⟩ := hr
        have hnw := pWit_nw e
        rw [r1, jbd_eq, if_pos (by decide), nI_1, ← hnw]
        exact witsE k z.1 z.2 σ' m (by omega) r2 (by omega)
theorem DQ.pc {σ : jMem} {A : aP} (h : DQ σ A) (ht : a_th A = 1) : PC (jset σ 30 1 1) 30 A := by
  refine ⟨⟨?_, ?_, ?_, ?_, ?_, ?_, ?_⟩, fun i hi => ?_, fun w hw => ?_⟩
  · rw [jset_i, ht]; rfl
  · rw [jset_o (by omega)]; exact h.1.1
  · rw [jset_o (by omega)]; exact h.1.2.1
  · rw [jset_o (by omega)]; exact h.1.2.2.1
  · rw [jset_o (by omega)]; exact h.1.2.2.2.1
  · rw [jset_o (by omega)]; exact h.1.2.2.2.2.1
  · rw [jset_o (by omega)]; exact h.1.2.2.2.2.2
  · rw [jset_o (by omega), jset_o (by omega), jset_o (by omega)]
    exact h.2.1 i hi
  · rw [jset_o (by omega), jset_o (by omega), jset_o (by omega), jset_o (by omega)]
    exact h.2.2 w hw
/-- the whole of it -/
def OA (σ0 : jMem) (X : Option (Int32 × jMem)) : PRs → Prop
  | .inl e => ∃ σ', X = some (0, σ') ∧ FC σ0 σ' e.1 e.2
  | .inr q => ∃ σ', X = some (1, σ') ∧ PC σ' 30 q.1 ∧ GA q.1 ∧ FR fr30 σ0 σ' ∧ σ'.1 13 2 = σ0.1 13 2
theorem read_c {B : Nat → Nat} {n : Nat} {σ : jMem} (hS : TS σ B n) : OA σ (f_X9_read 30 σ) (pAll B n) := by
  have Fc : FR fr30 σ (jset (jset (jset (jset (jset σ 30 4 0) 30 5 0) 30 6 0) 30 7 0) 13 7 0) := ((((((FR.refl σ).set (Or.inr (by omega))).set (Or.inr (by omega))).set (Or.inr (by omega))).set (Or.inr (by omega))).set (Or.inl ⟨rfl, by omega⟩))
  obtain ⟨σ1, e1, t1, f1⟩ := take_c (p := 0) (hS.fr Fc (by unfold fr30; omega) (fun i => by unfold fr30; omega)) (Nat.zero_le _) jset_i
  have F1 := Fc.trans (fr13_30 f1)
  have z2 : σ1.1 13 2 = σ.1 13 2 := by
    rw [fr13_2 f1, jset_o (by omega), jset_o (by omega), jset_o (by omega), jset_o (by omega), jset_o (by omega)]
  have z30 : ∀ j, 4 ≤ j → j ≤ 7 → σ1.1 30 j = 0 := by
    intro j h4 h7
    rw [f1.1 30 j (by unfold fr13; omega), jset_o (by omega)]
    rcases (show j = 4 ∨ j = 5 ∨ j = 6 ∨ j = 7 by omega) with rfl | rfl | rfl | rfl
    · rw [jset_o (by omega), jset_o (by omega), jset_o (by omega), jset_i]
    · rw [jset_o (by omega), jset_o (by omega), jset_i]
    · rw [jset_o (by omega), jset_i]
    · rw [jset_i]
  unfold f_X9_read f_X5_clear
  rw [jlet_eq, jlet_eq, jlet_eq, jlet_eq, jbv_eq, jlet_eq, e1, jbv_eq]
  have hl := readLaw_c t1 F1 z2 ⟨z30 4 (by omega) (by omega), z30 5 (by omega) (by omega), z30 6 (by omega) (by omega), z30 7 (by omega) (by omega)⟩
  unfold pAll
  cases el : pLaw B n 0 with
  | inl z =>
    rw [el] at hl
    obtain ⟨σ', r1, r2⟩ := hl
    rw [r1, jbd_eq, if_neg (by decide)]
    exact ⟨σ', rfl, r2⟩
  | inr z =>
    rw [el] at hl
    obtain ⟨σ2, r1, r2⟩ := hl
    rw [r1, jbd_eq, if_pos (by decide)]
    have hp := pathsF (pLaw_0 el).1 r2
    show OA σ _ (bnd (pPs B n 13 z.1 z.2) fun A p => bnd (pWs B n 7 A p) fun A p => if tT B n p = 1 then .inr (A, p) else .inl (1, p))
    cases ep : pPs B n 13 z.1 z.2 with
    | inl y =>
      rw [ep] at hp
      obtain ⟨σ', r3, r4⟩ := hp
      rw [r3, jbrr_eq]
      exact ⟨σ', rfl, r4⟩
    | inr y =>
      rw [ep] at hp
      obtain ⟨σ3, r3, r4⟩ := hp
      have hw0 : a_nw y.1 = 0 := by rw [pPs_nw ep, (pLaw_0 el).2]
      rw [r3, jbl_eq]
      have hw := witsE 7 y.1 y.2 σ3 jFU (by omega) r4 (by unfold jFU; omega)
      rw [hw0] at hw
      have hw : OL B n σ (X9_read_L62 30 jFU (0 : Int32) σ3) (pWs B n 7 y.1 y.2) := hw
      show OA σ _ (bnd (pWs B n 7 y.1 y.2) fun A p => if tT B n p = 1 then .inr (A, p) else .inl (1, p))
      cases ew : pWs B n 7 y.1 y.2 with
      | inl x =>
        rw [ew] at hw
        obtain ⟨σ', r5, r6⟩ := hw
        rw [r5, jbrr_eq]
        exact ⟨σ', rfl, r6⟩
      | inr x =>
        rw [ew] at hw
        obtain ⟨σ4, r5, r6⟩ := hw
        rw [r5, jbl_eq, r6.1.2.2.2.1]
        show OA σ _ (if tT B n x.2 = 1 then .inr (x.1, x.2) else .inl (1, x.2))
        by_cases t : tT B n x.2 = 1
        · rw [if_pos (tkC_0.mpr t), if_pos t, jlet_eq]
          refine ⟨_, rfl, r6.2.1.pc r6.2.2.1.2.1, r6.2.2.1, r6.2.2.2.1.set (Or.inr (by omega)), ?_⟩
          rw [jset_o (by omega)]
          exact r6.2.2.2.2
        · obtain ⟨σ', e, q⟩ := fails_c (f := 1) r6.1 r6.2.2.2.1
          rw [if_neg (fun z => t (tkC_0.mp z)), if_neg t, show (1 : Int32) = nI 1 from rfl, e, jbd_eq, jck_t (by decide)]
          exact ⟨σ', rfl, q⟩
