/-! ===== PURE: parish ===== -/
theorem bnd_tk (B : Nat → Nat) (n c p : Nat) (k : Nat → PRs) (F : aP → Nat → PRs) : bnd (pTk B n c p k) F = pTk B n c p (fun p' => bnd (k p') F) := by
  unfold pTk
  by_cases t : isTk B n c p
  · rw [if_pos t, if_pos t]
  · rw [if_neg t, if_neg t]
    rfl
theorem bnd_nm (B : Nat → Nat) (n lo hi p : Nat) (ex : Nat → Nat) (k : Nat → Nat → PRs) (F : aP → Nat → PRs) : bnd (pNm B n lo hi p ex k) F = pNm B n lo hi p ex (fun x p' => bnd (k x p') F) := by
  unfold pNm
  by_cases t : tT B n p = 3
  · rw [if_pos t, if_pos t]
    by_cases c : (lo ≤ tX B n p ∧ tX B n p ≤ hi) ∧ ex (tX B n p) = 0
    · rw [if_pos c, if_pos c]
    · rw [if_neg c, if_neg c]
      rfl
  · rw [if_neg t, if_neg t]
    rfl
def pEnd (B : Nat → Nat) (n : Nat) (A : aP) (p : Nat) : PRs := if tT B n p = 1 then .inr (A, p) else .inl (1, p)
def pRest (B : Nat → Nat) (n : Nat) (A : aP) (p : Nat) : PRs := bnd (pPs B n 13 A p) fun A p => bnd (pWs B n 7 A p) fun A p => pEnd B n A p
theorem pAll_eq (B : Nat → Nat) (n : Nat) : pAll B n = pTk B n 99 0 fun p1 => pNm B n 0 7 p1 pZ fun ch p2 => pTk B n 44 p2 fun p3 => pNm B n 20 90 p3 pZ fun lv p4 => pTk B n 59 p4 fun p5 => pRest B n (aA0 ch lv) p5 := by
  unfold pAll pLaw
  rw [bnd_tk]
  congr 1
  funext p1
  rw [bnd_nm]
  congr 1
  funext ch p2
  rw [bnd_tk]
  congr 1
  funext p3
  rw [bnd_nm]
  congr 1
  funext lv p4
  rw [bnd_tk]
  rfl
def frE (c j : Nat) : Prop := c = 94 ∨ (c = 89 ∧ 11 ≤ j ∧ j ≤ 18)
def frF (c j : Nat) : Prop := c = 94 ∨ c = 93 ∨ (c = 89 ∧ (j = 9 ∨ (11 ≤ j ∧ j ≤ 18)))
def OP (σ0 : jMem) (X : Option (Int32 × jMem)) : PRs → Prop
  | .inl e => ∃ σ', X = some ((-1000100 : Int32) - nI e.2, σ') ∧ σ'.1 89 18 = nI e.1 ∧ σ'.1 89 11 = 0 ∧ FR frE σ0 σ'
  | .inr q => ∃ σ', X = some (nI (a_np q.1), σ') ∧ PR σ' 93 0 q.1 ∧ GA q.1 ∧ σ'.1 89 9 = 0 ∧ σ'.1 89 11 = 0 ∧ σ'.1 89 18 = σ0.1 89 18 ∧ FR frF σ0 σ'
theorem frQ_E {σ τ : jMem} (f : FR frQ σ τ) : FR frE σ τ := f.mono (fun c j q => by unfold frQ at q; unfold frE; omega)
theorem failed_f {σ : jMem} {f pl : Nat} (h : FL σ f pl) : f_X12_failed σ = some (1, jset (jset σ 89 11 0) 89 18 (nI f)) := by
  have e16 : (jset σ 89 11 0).1 89 16 = nI f := by rw [jset_o (by omega)]; exact h.1
  have n0 : ¬ nI f ≤ (0 : Int32) := leL_ (by have := h.2.1; omega) (by have := h.2.2.1; omega)
  unfold f_X12_failed
  rw [jj_eq, if_pos h.nz]
  dsimp only
  rw [jlet_eq, jj_eq, e16, if_neg n0]
  dsimp only
  rw [jlet_eq, jset_o (by omega), e16, if_neg n0]
theorem failed_y {σ : jMem} {B : Nat → Nat} {n p : Nat} (h : TR σ B n p) (t : tT B n p = 1) : f_X12_failed σ = some (0, jset (jset σ 89 11 0) 89 18 (σ.1 89 18)) := by
  have e16 : (jset σ 89 11 0).1 89 16 = 0 := by rw [jset_o (by omega)]; exact h.2.2.2.2.2.2
  unfold f_X12_failed
  rw [jj_eq, h.2.2.2.2.2.2, if_neg (fun z => z rfl), h.2.2.2.2.1, if_pos (eqL_ t)]
  dsimp only
  rw [jlet_eq, jj_eq, e16, if_pos (by decide)]
  dsimp only
  rw [jlet_eq, jset_o (by omega), e16, if_pos (by decide), jset_o (by omega)]
theorem failed_n {σ : jMem} {B : Nat → Nat} {n p : Nat} (h : TR σ B n p) (t : ¬ tT B n p = 1) : ∃ σ', FL σ' 1 p ∧ FR frQ σ σ' ∧ f_X12_failed σ = some (1, jset (jset σ' 89 11 0) 89 18 (nI 1)) := by
  have hT := tT_le B n p
  obtain ⟨σ', e, q, f⟩ := bad_r (f := 1) h (by omega) (by omega)
  have e : f_X12_bad (1 : Int32) σ = some σ' := e
  refine ⟨σ', q, f, ?_⟩
  have e16 : (jset σ' 89 11 0).1 89 16 = nI 1 := by rw [jset_o (by omega)]; exact q.1
  have n0 : ¬ nI 1 ≤ (0 : Int32) := by decide
  unfold f_X12_failed
  rw [jj_eq, h.2.2.2.2.2.2, if_neg (fun z => z rfl), h.2.2.2.2.1, if_neg (neL_ t (by omega) (by omega)), e, jbv_eq]
  dsimp only
  rw [jlet_eq, jj_eq, e16, if_neg n0]
  dsimp only
  rw [jlet_eq, jset_o (by omega), e16, if_neg n0]
def prD (σ44 : jMem) : Option (Int32 × jMem) := jbd (f_X12_failed σ44) (fun v45 σ46 => if v45 = 0 then jlet (jset σ46 89 9 (0 : Int32)) (fun σ48 => jbd (X12_parish_L172 jFU (0 : Int32) σ48) (fun q51 σ52 => jld σ52 93 67 (3 : Int32) (fun v53 => some ((v53, σ52))))) else some ((((-1000100 : Int32) - (σ46.1 89 17)), σ46)))
def prC (σ30 : jMem) : Option (Int32 × jMem) := jbd (X12_parish_L100 jFU () σ30) (fun q36 σ37 => jbd (X12_parish_L116 jFU () σ37) (fun q43 σ44 => prD σ44))
def prB (σ23 : jMem) : Option (Int32 × jMem) := jbd (f_X12_isLetter (112 : Int32) σ23) (fun v25 σ26 => jj (fun (_ : Unit) σ30 => prC σ30) (fun k28 => if ¬ v25 = 0 then k28 () σ26 else jbv (f_X12_bad (1 : Int32) σ26) (fun σ57 => k28 () σ57)))
def prA (σ7 : jMem) : Option (Int32 × jMem) := jbd (f_X12_isLetter (99 : Int32) σ7) (fun v8 σ9 => jbv (f_X12_must v8 σ9) (fun σ11 => jbd (f_X12_number (0 : Int32) (7 : Int32) σ11) (fun v13 σ14 => jst σ14 94 67 (1 : Int32) v13 (fun σ16 => jbv (f_X12_mustSign (44 : Int32) σ16) (fun σ17 => jbd (f_X12_number (20 : Int32) (90 : Int32) σ17) (fun v19 σ20 => jst σ20 94 67 (2 : Int32) v19 (fun σ22 => jbv (f_X12_mustSign (59 : Int32) σ22) (fun σ23 => prB σ23))))))))
theorem pr_eq (σ : jMem) : f_X12_parish σ = jlet (jset σ 89 0 (0 : Int32)) (fun σ1 => jbv (f_X12_begin σ1) (fun σ2 => jbd (X12_parish_L11 jFU (0 : Int32) σ2) (fun q5 σ6 => jst σ6 94 67 (0 : Int32) (1 : Int32) (fun σ7 => prA σ7)))) := rfl
theorem prD_A {σ0 : jMem} : AB σ0 (OP σ0) prD := by
  intro σ f pl h hF
  unfold prD
  rw [failed_f h, jbd_eq, if_neg (by decide), jset_o (by omega), jset_o (by omega), h.2.2.2]
  refine ⟨_, rfl, jset_i, by rw [jset_o (by omega), jset_i], ?_⟩
  exact ((frQ_E hF).set (Or.inr (by omega))).set (Or.inr (by omega))
theorem prC_A {σ0 : jMem} : AB σ0 (OP σ0) prC := by
  intro σ f pl h hF
  unfold prC
  rw [show X12_parish_L100 jFU () σ = some ((), σ) from l100_f h (by unfold jFU; omega), jbd_eq, show X12_parish_L116 jFU () σ = some ((), σ) from l116_f h (by unfold jFU; omega), jbd_eq]
  exact prD_A σ f pl h hF
theorem prB_A {σ0 : jMem} : AB σ0 (OP σ0) prB := by
  intro σ f pl h hF
  unfold prB
  rw [let_f h, jbd_eq, jj_eq, if_neg (fun z => z rfl), bad_f h, jbv_eq]
  exact prC_A σ f pl h hF
theorem copy_r (σ : jMem) : ∃ σ', X12_parish_L172 jFU (0 : Int32) σ = some ((), σ') ∧ (∀ j, j < 67 → σ'.1 93 j = σ.1 94 j) ∧ FR (fun c _ => c = 93) σ σ' := by
  have H := jloop_inv (body := fun rec s σ => X12_parish_L172_b rec s σ) (fun i s τ => s = nI i ∧ (∀ j, j < i → τ.1 93 j = σ.1 94 j) ∧ FR (fun c _ => c = 93) σ τ) (fun r => (∀ j, j < 67 → r.2.1 93 j = σ.1 94 j) ∧ FR (fun c _ => c = 93) σ r.2) 67 ?_ ?_ (0 : Int32) σ ⟨rfl, fun j hj => by omega, FR.refl σ⟩ jFU (by unfold jFU; omega)
  · obtain ⟨⟨u, ρ⟩, ⟨h1, h2⟩, h3⟩ := H
    exact ⟨ρ, h3, h1, h2⟩
  · rintro i s τ hi ⟨rfl, h2, h3⟩
    refine ⟨nI (i + 1), jset τ 93 i (σ.1 94 i), ⟨rfl, fun j hj => ?_, h3.set rfl⟩, fun rec => ?_⟩
    · by_cases c : j = i
      · rw [c, jset_i]
      · rw [jset_o (by omega)]
        exact h2 j (by omega)
    · show X12_parish_L172_b rec (nI i) τ = _
      unfold X12_parish_L172_b
      rw [if_neg (Lle_ (by omega) (by omega)), jld_eq (by omega) (by omega), h3.1 94 i (by omega), jst_eq (by omega) (by omega), nI_1]
  · rintro s τ ⟨rfl, h2, h3⟩
    refine ⟨((), τ), ⟨h2, h3⟩, fun rec => ?_⟩
    show X12_parish_L172_b rec (nI 67) τ = _
    unfold X12_parish_L172_b
    rw [if_pos (by decide)]
theorem prD_r {B : Nat → Nat} {n p : Nat} {σ0 σ : jMem} {A : aP} (h : SR B n σ0 σ p A) : OP σ0 (prD σ) (pEnd B n A p) := by
  obtain ⟨hT, hD, hG, hF⟩ := h
  unfold prD pEnd
  by_cases t : tT B n p = 1
  · obtain ⟨σ', c1, c2, c3⟩ := copy_r (jset (jset (jset σ 89 11 0) 89 18 (σ.1 89 18)) 89 9 0)
    have e94 : ∀ j, (jset (jset (jset σ 89 11 0) 89 18 (σ.1 89 18)) 89 9 0).1 94 j = σ.1 94 j := fun j => by rw [jset_o (by omega), jset_o (by omega), jset_o (by omega)]
    have hP : PR σ' 93 0 A := hD.1.congr (r' := 93) (o' := 0) hG.1.b (fun j hj => by rw [Nat.zero_add, c2 j hj, e94 j])
    have e3 : σ'.1 93 3 = nI (a_np A) := (hP.f (o := 0)).2.2.2.1
    rw [failed_y hT t, jbd_eq, if_pos rfl, jlet_eq, c1, jbd_eq, jldL_ (by omega) (by omega), if_pos t]
    refine ⟨σ', by rw [show σ'.1 93 (OfNat.ofNat 3) = nI (a_np A) from e3], hP, hG, ?_, ?_, ?_, ?_⟩
    · rw [c3.1 89 9 (by omega), jset_i]
    · rw [c3.1 89 11 (by omega), jset_o (by omega), jset_o (by omega), jset_i]
    · rw [c3.1 89 18 (by omega), jset_o (by omega), jset_i]
      exact hF.1 89 18 (by unfold frQ; omega)
    · have F1 : FR frF σ0 (jset (jset (jset σ 89 11 0) 89 18 (σ.1 89 18)) 89 9 0) := (((hF.mono (fun c j q => by unfold frQ at q; unfold frF; omega)).set (Or.inr (Or.inr (by omega)))).set (Or.inr (Or.inr (by omega)))).set (Or.inr (Or.inr (by omega)))
      exact F1.trans (c3.mono (fun c j q => Or.inr (Or.inl q)))
  · obtain ⟨σ', q, f, e⟩ := failed_n hT t
    rw [e, jbd_eq, if_neg (by decide), jset_o (by omega), jset_o (by omega), q.2.2.2, if_neg t]
    refine ⟨_, rfl, jset_i, by rw [jset_o (by omega), jset_i], ?_⟩
    exact ((frQ_E (hF.trans f)).set (Or.inr (by omega))).set (Or.inr (by omega))
theorem prC_r {B : Nat → Nat} {n p : Nat} {σ0 σ : jMem} {A : aP} (h : SR B n σ0 σ p A) (hp : a_np A = 0) (hw : a_nw A = 0) (t : isTk B n 112 p) : OP σ0 (prC σ) (pRest B n A p) := by
  have hl := pathsR 13 A p σ jFU (by omega) h (by unfold jFU; omega)
  rw [if_pos t] at hl
  have hl : OW B n σ0 (X12_parish_L100 jFU () σ) (pPs B n 13 A p) := hl
  unfold prC pRest
  cases e : pPs B n 13 A p with
  | inl z =>
    rw [e] at hl
    obtain ⟨σ', r1, r2, r3⟩ := hl
    rw [r1, jbd_eq, show X12_parish_L116 jFU () σ' = some ((), σ') from l116_f r2 (by unfold jFU; omega), jbd_eq]
    exact prD_A σ' z.1 z.2 r2 r3
  | inr z =>
    rw [e] at hl
    obtain ⟨σ', r1, r2⟩ := hl
    have hz := pPs_nw e
    rw [r1, jbd_eq]
    have hm := witsR 7 z.1 z.2 σ' jFU (by omega) r2 (by unfold jFU; omega)
    have hm : OW B n σ0 (X12_parish_L116 jFU () σ') (pWs B n 7 z.1 z.2) := hm
    show OP σ0 _ (bnd (pWs B n 7 z.1 z.2) fun A p => pEnd B n A p)
    cases e2 : pWs B n 7 z.1 z.2 with
    | inl y =>
      rw [e2] at hm
      obtain ⟨σ2, r3, r4, r5⟩ := hm
      rw [r3, jbd_eq]
      exact prD_A σ2 y.1 y.2 r4 r5
    | inr y =>
      rw [e2] at hm
      obtain ⟨σ2, r3, r4⟩ := hm
      rw [r3, jbd_eq]
      exact prD_r r4
theorem prB_r {B : Nat → Nat} {n p : Nat} {σ0 σ : jMem} {A : aP} (h : SR B n σ0 σ p A) (hp : a_np A = 0) (hw : a_nw A = 0) : OP σ0 (prB σ) (pRest B n A p) := by
  have hl : f_X12_isLetter (112 : Int32) σ = some (if isTk B n 112 p then 1 else 0, σ) := let_r (c := 112) h.1 (by omega) (by omega)
  unfold prB
  rw [hl, jbd_eq, jj_eq]
  by_cases t : isTk B n 112 p
  · rw [if_pos t, if_pos (by decide)]
    exact prC_r h hp hw t
  · obtain ⟨σ', e, q, f⟩ := bad_r (f := 1) h.1 (by omega) (by omega)
    have e : f_X12_bad (1 : Int32) σ = some σ' := e
    have er : pRest B n A p = .inl (1, p) := by
      unfold pRest
      have : pPs B n 13 A p = .inl (1, p) := by
        show bnd (pPath B n A p) _ = _
        have : pPath B n A p = .inl (1, p) := by
          unfold pPath pTk
          rw [if_neg (fun z => t z.1), if_neg t]
        rw [this]
        rfl
      rw [this]
      rfl
    rw [if_neg t, if_neg (fun z => z rfl), e, jbv_eq, er]
    exact prC_A σ' 1 p q (h.2.2.2.trans f)
theorem fill94 (σ : jMem) : X12_parish_L11 jFU (0 : Int32) σ = some ((), jfill σ 94 0 67) := by
  have := jloop_run (body := fun rec s σ => X12_parish_L11_b rec s σ) (fun i => nI i) (fun i => jfill σ 94 0 i) 67 ((), jfill σ 94 0 67) ?_ ?_ jFU (by unfold jFU; omega)
  · simp only [jfill_0] at this
    exact this
  · intro i hi rec
    show X12_parish_L11_b rec (nI i) (jfill σ 94 0 i) = rec (nI (i + 1)) (jfill σ 94 0 (i + 1))
    unfold X12_parish_L11_b
    have h1 := jfill_s σ 94 0 i
    rw [Nat.zero_add] at h1
    rw [if_neg (Lle_ (by omega) (by omega)), jst_eq (by omega) (by omega), h1, nI_1]
  · intro rec
    show X12_parish_L11_b rec (nI 67) (jfill σ 94 0 67) = _
    unfold X12_parish_L11_b
    rw [if_pos (by decide)]
theorem parish_r {B : Nat → Nat} {n : Nat} {σ : jMem} (hS : RT σ B n) : OP (jset σ 89 0 0) (f_X12_parish σ) (pAll B n) := by
  have e0 : ∀ c j, ¬ (c = 89 ∧ j = 0) → (jset σ 89 0 0).1 c j = σ.1 c j := fun c j h => jset_o h
  have F0 : FR frQ (jset σ 89 0 0) (jset (jset (jset σ 89 0 0) 89 12 0) 89 16 0) := ((FR.refl _).set (Or.inr (by omega))).set (Or.inr (by omega))
  have hS0 : RT (jset σ 89 0 0) B n := ⟨hS.1, by rw [e0 89 11 (by omega)]; exact hS.2.1, fun i hi => ⟨(hS.2.2 i hi).1, by rw [e0 97 i (by omega)]; exact (hS.2.2 i hi).2⟩⟩
  obtain ⟨σ3, e3, t3, f3⟩ := next_r (p := 0) (hS0.fr F0 (by unfold frQ; omega) (fun i => by unfold frQ; omega)) (Nat.zero_le _) (by rw [jset_o (by omega), jset_i]; rfl) jset_i
  have F3 := F0.trans (frR_Q f3)
  have F4 : FR frQ (jset σ 89 0 0) (jset (jfill σ3 94 0 67) 94 0 1) := by
    have : FR frQ (jset σ 89 0 0) (jfill σ3 94 0 67) := ⟨fun c j q => by rw [jfill_o (fun z => q (Or.inl z.1))]; exact F3.1 c j q, F3.2⟩
    exact this.set (Or.inl rfl)
  have t4 : TR (jset (jfill σ3 94 0 67) 94 0 1) B n 0 := by
    have E : ∀ c j, c ≠ 94 → (jset (jfill σ3 94 0 67) 94 0 1).1 c j = σ3.1 c j := fun c j q => by rw [jset_o (by omega), jfill_o (by omega)]
    refine ⟨⟨t3.1.1, ?_, fun i hi => ⟨(t3.1.2.2 i hi).1, ?_⟩⟩, t3.2.1, ?_, ?_, ?_, fun q => ?_, ?_⟩
    · rw [E 89 11 (by omega)]; exact t3.1.2.1
    · rw [E 97 i (by omega)]; exact (t3.1.2.2 i hi).2
    · rw [E 89 12 (by omega)]; exact t3.2.2.1
    · rw [E 89 13 (by omega)]; exact t3.2.2.2.1
    · rw [E 89 14 (by omega)]; exact t3.2.2.2.2.1
    · rw [E 89 15 (by omega)]; exact t3.2.2.2.2.2.1 q
    · rw [E 89 16 (by omega)]; exact t3.2.2.2.2.2.2
  have z0 : (jset (jfill σ3 94 0 67) 94 0 1).1 94 0 = 1 := jset_i
  have zz : ∀ j, 3 ≤ j → j < 67 → (jset (jfill σ3 94 0 67) 94 0 1).1 94 j = 0 := fun j h1 h2 => by rw [jset_o (by omega), jfill_i (by omega)]
  rw [pr_eq, jlet_eq, pAll_eq]
  unfold f_X12_begin
  rw [jlet_eq, jlet_eq, e3, jbv_eq, jbv_eq, fill94, jbd_eq, jstL_ (by omega) (by omega)]
  show OP (jset σ 89 0 0) (prA (jset (jfill σ3 94 0 67) 94 0 1)) _
  generalize jset (jfill σ3 94 0 67) 94 0 1 = τ at F4 t4 z0 zz ⊢
  generalize jset σ 89 0 0 = σ0 at F4 ⊢
  unfold prA
  have B3 : AB σ0 (OP σ0) (fun σ22 => jbv (f_X12_mustSign (59 : Int32) σ22) (fun σ23 => prB σ23)) := AB_sign _ prB_A
  have B2 : ∀ v : Int32, AB σ0 (OP σ0) (fun σ20 => jst σ20 94 67 (2 : Int32) v (fun σ22 => jbv (f_X12_mustSign (59 : Int32) σ22) (fun σ23 => prB σ23))) := fun v => AB_st (i := 2) (by omega) v B3
  have B1 : AB σ0 (OP σ0) (fun σ16 => jbv (f_X12_mustSign (44 : Int32) σ16) (fun σ17 => jbd (f_X12_number (20 : Int32) (90 : Int32) σ17) (fun v19 σ20 => jst σ20 94 67 (2 : Int32) v19 (fun σ22 => jbv (f_X12_mustSign (59 : Int32) σ22) (fun σ23 => prB σ23))))) := AB_sign _ (AB_num _ _ B2)
  refine letterK (G := OP σ0) (c := 99) t4 (by omega) F4 (AB_num _ _ (fun v => AB_st (i := 1) (by omega) v B1)) (fun _ σ5 t5 f5 => ?_)
  have F5 := F4.trans (frR_Q f5)
  refine numR (G := OP σ0) (lo := 0) (hi := 7) t5 (by omega) F5 (fun _ => rfl) (fun v => AB_st (i := 1) (by omega) v B1) (fun q5 _ l2 σ6 t6 f6 => ?_)
  generalize tX B n (tN B n 0) = ch at l2 ⊢
  have F6 := F5.trans (frR_Q f6)
  rw [jstL_ (by omega) (by omega)]
  have F7 : FR frQ σ0 (jset σ6 94 1 (nI ch)) := F6.set (Or.inl rfl)
  refine signK (G := OP σ0) (c := 44) (t6.set (by omega) (by omega) 1 (nI ch)) (by omega) F7 (AB_num _ _ B2) (fun _ σ8 t8 f8 => ?_)
  have F8 := F7.trans (frR_Q f8)
  refine numR (G := OP σ0) (lo := 20) (hi := 90) t8 (by omega) F8 (fun _ => rfl) B2 (fun q8 l3 l4 σ9 t9 f9 => ?_)
  generalize tX B n (tN B n (tN B n (tN B n 0))) = lv at l3 l4 ⊢
  have F9 := F8.trans (frR_Q f9)
  rw [jstL_ (by omega) (by omega)]
  have Fa : FR frQ σ0 (jset σ9 94 2 (nI lv)) := F9.set (Or.inl rfl)
  refine signK (G := OP σ0) (c := 59) (t9.set (by omega) (by omega) 2 (nI lv)) (by omega) Fa prB_A (fun _ σb tb fb => ?_)
  have Fb := Fa.trans (frR_Q fb)
  have R : ∀ {x y : jMem}, FR frR x y → ∀ j, y.1 94 j = x.1 94 j := fun f j => f.1 94 j (by unfold frR; omega)
  have E : ∀ j, j ≠ 1 → j ≠ 2 → σb.1 94 j = τ.1 94 j := fun j h1 h2 => by
    rw [R fb j, jset_o (by omega), R f9 j, R f8 j, jset_o (by omega), R f6 j, R f5 j]
  have E1 : σb.1 94 1 = nI ch := by rw [R fb 1, jset_o (by omega), R f9 1, R f8 1, jset_i]
  have E2 : σb.1 94 2 = nI lv := by rw [R fb 2, jset_i]
  refine prB_r (A := aA0 ch lv) ⟨tb, ⟨⟨⟨?_, ?_, ?_, ?_, ?_, ?_, ?_⟩, fun i hi => absurd hi (Nat.not_lt_zero i), fun i hi => absurd hi (Nat.not_lt_zero i)⟩, fun w _ hw => ?_⟩, GA0 (by omega) (by omega), Fb⟩ rfl rfl
  · rw [E 0 (by omega) (by omega), z0]; rfl
  · exact E1
  · exact E2
  · exact (E 3 (by omega) (by omega)).trans (zz 3 (by omega) (by omega))
  · exact (E 4 (by omega) (by omega)).trans (zz 4 (by omega) (by omega))
  · exact (E 5 (by omega) (by omega)).trans (zz 5 (by omega) (by omega))
  · exact (E 6 (by omega) (by omega)).trans (zz 6 (by omega) (by omega))
  · exact (E _ (by omega) (by omega)).trans (zz _ (by omega) (by omega))
