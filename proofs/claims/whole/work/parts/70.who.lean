/-! ===== PURE: who ===== -/
theorem jj_use {α β : Type} {rest : β → jMem → Option α} {body : (β → jMem → Option α) → Option α} {r : Option α} (v : β) (τ : jMem) (h1 : ∀ k, body k = k v τ) (h2 : rest v τ = r) : jj rest body = r := by
  rw [jj_eq, h1]
  exact h2
/-- what he would have seen after n burials, if of the kind kd; whether he would live; whether all fits -/
def wS (A : aP) (w kd : Nat) (F : Nat → Nat) : Nat → Nat
  | 0 => a_sw A w
  | n + 1 => wS A w kd F n ||| (if bur A (F n) = 1 then snN A (a_gt A) kd (a_hm A w) (wy A (opn A) (F n)) (2 ^ pid A (opn A) (F n)) else 0)
def lb (A : aP) (w kd : Nat) : Nat := if a_ag A w ≤ a_lv A + (if kd = 2 then 9 else 0) then 1 else 0
def wOk (A : aP) (w kd : Nat) (F : Nat → Nat) (I : Nat → Int32) : Nat → Nat
  | 0 => 1
  | n + 1 => if wOk A w kd F I n = 0 then 0 else if nI (if lb A w kd = 1 then wS A w kd F (n + 1) else 0) = I n then 1 else 0
theorem wOk_le (A : aP) (w kd : Nat) (F : Nat → Nat) (I : Nat → Int32) (n : Nat) : wOk A w kd F I n ≤ 1 := by
  cases n with
  | zero => exact Nat.le_refl 1
  | succ n =>
    show (if wOk A w kd F I n = 0 then 0 else if nI (if lb A w kd = 1 then wS A w kd F (n + 1) else 0) = I n then 1 else 0) ≤ 1
    by_cases c : wOk A w kd F I n = 0
    · rw [if_pos c]
      omega
    · rw [if_neg c]
      by_cases d : nI (if lb A w kd = 1 then wS A w kd F (n + 1) else 0) = I n
      · rw [if_pos d]
        exact Nat.le_refl 1
      · rw [if_neg d]
        omega
theorem lb_le (A : aP) (w kd : Nat) : lb A w kd ≤ 1 := by
  unfold lb
  by_cases c : a_ag A w ≤ a_lv A + (if kd = 2 then 9 else 0)
  · rw [if_pos c]
    exact Nat.le_refl 1
  · rw [if_neg c]
    omega
def wM (A : aP) (w : Nat) (F : Nat → Nat) (I : Nat → Int32) (t : Nat → Nat) (n : Nat) : Nat := orN (fun kd => if 1 ≤ kd ∧ wOk A w kd F I (t kd) = 1 then 2 ^ kd else 0) n
theorem wM_test (A : aP) (w : Nat) (F : Nat → Nat) (I : Nat → Int32) (t : Nat → Nat) (n j : Nat) : (wM A w F I t n).testBit j = decide (1 ≤ j ∧ j < n ∧ wOk A w j F I (t j) = 1) := by
  rw [Bool.eq_iff_iff, decide_eq_true_eq]
  unfold wM
  rw [orN_test]
  constructor
  · rintro ⟨i, hi, h⟩
    by_cases c : 1 ≤ i ∧ wOk A w i F I (t i) = 1
    · rw [if_pos c, p2_test, decide_eq_true_eq] at h
      subst h
      exact ⟨c.1, hi, c.2⟩
    · rw [if_neg c, Nat.zero_testBit] at h
      exact absurd h (by decide)
  · rintro ⟨h1, h2, h3⟩
    refine ⟨j, h2, ?_⟩
    rw [if_pos ⟨h1, h3⟩, p2_test, decide_eq_true_eq]
theorem wM_congr {A : aP} {w : Nat} {F : Nat → Nat} {I : Nat → Int32} {t t' : Nat → Nat} {n : Nat} (h : ∀ kd, 1 ≤ kd → kd < n → t kd = t' kd) : wM A w F I t n = wM A w F I t' n := by
  refine orN_congr (fun i hi => ?_)
  by_cases c : 1 ≤ i
  · rw [h i c hi]
  · rw [if_neg (fun q => c q.1), if_neg (fun q => c q.1)]
theorem wM_step {A : aP} {w : Nat} {F : Nat → Nat} {I : Nat → Int32} {x y : Nat} (hx : 1 ≤ x) (hx5 : x ≤ 5) : wM A w F I (fun kd => if kd < x + 1 then y + 1 else y) 6 = if nI (if lb A w x = 1 then wS A w x F (y + 1) else 0) = I y then wM A w F I (fun kd => if kd < x then y + 1 else y) 6 else andn (wM A w F I (fun kd => if kd < x then y + 1 else y) 6) (2 ^ x) := by
  have hl := wOk_le A w x F I y
  by_cases c : nI (if lb A w x = 1 then wS A w x F (y + 1) else 0) = I y
  · rw [if_pos c]
    apply test_ext
    intro j
    rw [wM_test, wM_test]
    by_cases e : j = x
    · subst e
      have e1 : wOk A w j F I (y + 1) = wOk A w j F I y := by
        show (if wOk A w j F I y = 0 then 0 else if nI (if lb A w j = 1 then wS A w j F (y + 1) else 0) = I y then 1 else 0) = _
        rw [if_pos c]
        split <;> omega
      simp only [if_pos (show j < j + 1 by omega), if_neg (show ¬ j < j by omega), e1]
    · by_cases q : j < x
      · simp only [if_pos q, if_pos (show j < x + 1 by omega)]
      · simp only [if_neg q, if_neg (show ¬ j < x + 1 by omega)]
  · rw [if_neg c]
    apply test_ext
    intro j
    rw [andn_test, p2_test, wM_test, wM_test]
    by_cases e : j = x
    · subst e
      have e1 : wOk A w j F I (y + 1) = 0 := by
        show (if wOk A w j F I y = 0 then 0 else if nI (if lb A w j = 1 then wS A w j F (y + 1) else 0) = I y then 1 else 0) = _
        rw [if_neg c]
        split <;> rfl
      simp only [if_pos (show j < j + 1 by omega), e1]
      simp
    · have e' : ¬ x = j := fun q => e q.symm
      by_cases q : j < x
      · simp only [if_pos q, if_pos (show j < x + 1 by omega), e']
        simp
      · simp only [if_neg q, if_neg (show ¬ j < x + 1 by omega), e']
        simp
def fr88 (c _j : Nat) : Prop := c = 88
theorem whoF_c {σ : jMem} {A : aP} {w : Nat} (k : Nat) (x y : Int32) (hP : PC σ 22 A) (hW : WF A) (hw : w < a_nw A) : ∃ σ', X11_fittingKinds_L6 (nI w) k x y jFU ((0 : Int32), (1 : Int32)) σ = some (nI 62, σ') ∧ (∀ kd, 1 ≤ kd → kd ≤ 5 → σ'.1 88 kd = nI (a_sw A w)) ∧ FR fr88 σ σ' := by
  have hb := hW.b
  have eb : ∀ i, i < 5 → (2 ^ (i + 1) - 2) ||| 2 ^ (i + 1) = 2 ^ (i + 2) - 2 := by decide
  have H := jloop_inv (body := fun rec s σ => X11_fittingKinds_L6_b (nI w) k x y rec s.1 s.2 σ) (fun i s τ => s = (nI (2 ^ (i + 1) - 2), nI (i + 1)) ∧ (∀ kd, 1 ≤ kd → kd ≤ i → τ.1 88 kd = nI (a_sw A w)) ∧ FR fr88 σ τ) (fun r => r.1 = nI 62 ∧ (∀ kd, 1 ≤ kd → kd ≤ 5 → r.2.1 88 kd = nI (a_sw A w)) ∧ FR fr88 σ r.2) 5 ?_ ?_ ((0 : Int32), (1 : Int32)) σ ⟨rfl, fun kd h1 h2 => by omega, FR.refl σ⟩ jFU (by unfold jFU; omega)
  · obtain ⟨⟨r, ρ⟩, ⟨h1, h2, h3⟩, h4⟩ := H
    exact ⟨ρ, by rw [← h1]; exact h4, h2, h3⟩
  · rintro i s τ hi ⟨rfl, h2, h3⟩
    have e7 : τ.1 29 w = nI (a_sw A w) := by rw [h3.1 29 w (by unfold fr88; omega)]; exact (hP.2.2 w hw).2.2.2
    refine ⟨(nI (2 ^ (i + 1 + 1) - 2), nI (i + 1 + 1)), jset τ 88 (i + 1) (nI (a_sw A w)), ⟨rfl, ?_, h3.set rfl⟩, fun rec => ?_⟩
    · intro kd k1 k2
      by_cases c : kd = i + 1
      · rw [c, jset_i]
      · rw [jset_o (by omega)]
        exact h2 kd k1 (by omega)
    · show X11_fittingKinds_L6_b (nI w) k x y rec (nI (2 ^ (i + 1) - 2)) (nI (i + 1)) τ = _
      unfold X11_fittingKinds_L6_b
      rw [if_neg (Lle_ (by omega) (by omega)), jld_eq (by omega) (by omega), e7, jst_eq (by omega) (by omega), nI_one_shl (by omega), nI_or, eb i hi, jlet_eq, nI_1]
  · rintro s τ ⟨rfl, h2, h3⟩
    refine ⟨(nI 62, τ), ⟨rfl, h2, h3⟩, fun rec => ?_⟩
    show X11_fittingKinds_L6_b (nI w) k x y rec (nI 62) (nI 6) τ = _
    unfold X11_fittingKinds_L6_b
    rw [if_pos (by decide)]
theorem whoK_c {σ : jMem} {A : aP} {w k i0 y : Nat} {F : Nat → Nat} {I : Nat → Int32} (q : Int32) (hP : PC σ 22 A) (hW : WF A) (hw : w < a_nw A) (hk : 3 ≤ k ∧ k ≤ 10) (hi : i0 + 2 * y + 1 < 40) (hF : F y < 8) (eI : σ.1 k (i0 + 2 * y + 1) = I y) (h88 : ∀ kd, 1 ≤ kd → kd ≤ 5 → σ.1 88 kd = nI (wS A w kd F y)) (hB : bur A (F y) = 1 → σ.1 80 1 = nI (wy A (opn A) (F y)) ∧ σ.1 80 2 = nI (2 ^ pid A (opn A) (F y))) : ∃ σ', X11_fittingKinds_L78 (nI w) k (nI i0) q (nI y) (nI (bur A (F y))) jFU (nI (wM A w F I (fun _ => y) 6), (1 : Int32)) σ = some (nI (wM A w F I (fun _ => y + 1) 6), σ') ∧ (∀ kd, 1 ≤ kd → kd ≤ 5 → σ'.1 88 kd = nI (wS A w kd F (y + 1))) ∧ FR fr88 σ σ' := by
  have hb := hW.b
  have hlv := hW.1.2.2.1
  have hww := hW.2.2.2 w hw
  have H := jloop_inv (body := fun rec s σ => X11_fittingKinds_L78_b (nI w) k (nI i0) q (nI y) (nI (bur A (F y))) rec s.1 s.2 σ) (fun i s τ => s = (nI (wM A w F I (fun kd => if kd < i + 1 then y + 1 else y) 6), nI (i + 1)) ∧ (∀ kd, 1 ≤ kd → kd ≤ 5 → τ.1 88 kd = nI (wS A w kd F (if kd < i + 1 then y + 1 else y))) ∧ FR fr88 σ τ) (fun r => r.1 = nI (wM A w F I (fun _ => y + 1) 6) ∧ (∀ kd, 1 ≤ kd → kd ≤ 5 → r.2.1 88 kd = nI (wS A w kd F (y + 1))) ∧ FR fr88 σ r.2) 5 ?_ ?_ (nI (wM A w F I (fun _ => y) 6), (1 : Int32)) σ ⟨?_, ?_, FR.refl σ⟩ jFU (by unfold jFU; omega)
  · obtain ⟨⟨r, ρ⟩, ⟨h1, h2, h3⟩, h4⟩ := H
    exact ⟨ρ, by rw [← h1]; exact h4, h2, h3⟩
  · rintro i s τ hi5 ⟨rfl, h2, h3⟩
    have hPt := hP.offF h3 (fun c j q1 q2 => by unfold fr88; omega)
    have e5 : τ.1 27 w = nI (a_hm A w) := (hPt.2.2 w hw).2.1
    have e6 : τ.1 28 w = nI (a_ag A w) := (hPt.2.2 w hw).2.2.1
    have e3 : τ.1 22 3 = nI (a_lv A) := hPt.1.2.2.1
    have e8 := h2 (i + 1) (by omega) (by omega)
    rw [if_neg (by omega)] at e8
    refine ⟨(nI (wM A w F I (fun kd => if kd < i + 1 + 1 then y + 1 else y) 6), nI (i + 1 + 1)), jset τ 88 (i + 1) (nI (wS A w (i + 1) F (y + 1))), ⟨rfl, ?_, h3.set rfl⟩, fun rec => ?_⟩
    · intro kd k1 k2
      by_cases c : kd = i + 1
      · subst c
        rw [jset_i, if_pos (by omega)]
      · rw [jset_o (by omega), h2 kd k1 k2]
        by_cases c2 : kd < i + 1
        · rw [if_pos c2, if_pos (by omega)]
        · rw [if_neg c2, if_neg (by omega)]
    · show X11_fittingKinds_L78_b (nI w) k (nI i0) q (nI y) (nI (bur A (F y))) rec (nI (wM A w F I (fun kd => if kd < i + 1 then y + 1 else y) 6)) (nI (i + 1)) τ = _
      unfold X11_fittingKinds_L78_b
      rw [if_neg (Lle_ (by omega) (by omega))]
      have eS : wS A w (i + 1) F (y + 1) = wS A w (i + 1) F y ||| (if bur A (F y) = 1 then snN A (a_gt A) (i + 1) (a_hm A w) (wy A (opn A) (F y)) (2 ^ pid A (opn A) (F y)) else 0) := rfl
      refine jj_use () (jset τ 88 (i + 1) (nI (wS A w (i + 1) F (y + 1)))) ?_ ?_
      · intro K
        rcases (show bur A (F y) = 0 ∨ bur A (F y) = 1 by have := bur_le A (F y); omega) with z | z
        · have eT : jset τ 88 (i + 1) (nI (wS A w (i + 1) F (y + 1))) = τ := by
            rw [eS, z, if_neg (by omega), Nat.or_zero, ← e8]
            refine Prod.ext ?_ rfl
            funext a b
            rw [jset_app]
            split
            · rename_i hh
              rw [hh.1, hh.2]
            · rfl
          rw [eT, z, if_pos (show nI 0 = 0 from rfl)]
        · obtain ⟨b1, b2⟩ := hB z
          have hsee := sees_c (kd := i + 1) (hm := a_hm A w) hPt hW (by omega) (by omega) hww.2.2.2.1 (wy_lt hW hF (op := opn A)) (by rw [h3.1 80 1 (by unfold fr88; omega)]; exact b1) (by rw [h3.1 80 2 (by unfold fr88; omega)]; exact b2)
          rw [if_neg (by rw [z]; decide), jld_eq (by omega) (by omega), e8, jldr_eq (by omega) (by omega), jld_eq (by omega) (by omega), e5, hsee, jbd_eq, jst_eq (by omega) (by omega), nI_or, eS, if_pos z]
      · have e6' : (jset τ 88 (i + 1) (nI (wS A w (i + 1) F (y + 1)))).1 28 w = nI (a_ag A w) := by rw [jset_o (by omega)]; exact e6
        have e3' : (jset τ 88 (i + 1) (nI (wS A w (i + 1) F (y + 1)))).1 22 3 = nI (a_lv A) := by rw [jset_o (by omega)]; exact e3
        rw [jld_eq (by omega) (by omega), e6', jldr_eq (by omega) (by omega), e3', span_spec (by omega) (by omega), jbd_eq]
        refine jj_use (nI (if lb A w (i + 1) = 1 then wS A w (i + 1) F (y + 1) else 0)) (jset τ 88 (i + 1) (nI (wS A w (i + 1) F (y + 1)))) ?_ ?_
        · intro K
          unfold lb
          have : (if i + 1 = 2 then 9 else 0) ≤ 9 := by split <;> omega
          by_cases c : a_ag A w ≤ a_lv A + (if i + 1 = 2 then 9 else 0)
          · rw [if_pos (nI_le c (by omega)), jld_eq (by omega) (by omega), jset_i, if_pos c, if_pos rfl]
          · rw [if_neg (nle_ (by omega) (by omega)), if_neg c, if_neg (by omega)]
            rfl
        · rw [nI_Lmul, nI_add, nI_1, jld_eq (by omega) (by omega), jset_o (by omega), h3.1 k _ (by unfold fr88; omega), eI, wM_step (x := i + 1) (y := y) (by omega) (by omega)]
          by_cases c : nI (if lb A w (i + 1) = 1 then wS A w (i + 1) F (y + 1) else 0) = I y
          · rw [if_pos c, if_pos c, nI_1]
          · rw [if_neg c, if_neg c, nI_one_shl (by omega), nI_andn, jlet_eq, nI_1]
  · rintro s τ ⟨rfl, h2, h3⟩
    have eM : wM A w F I (fun kd => if kd < 5 + 1 then y + 1 else y) 6 = wM A w F I (fun _ => y + 1) 6 := wM_congr (fun kd k1 k2 => if_pos (by omega))
    rw [eM]
    refine ⟨(nI (wM A w F I (fun _ => y + 1) 6), τ), ⟨rfl, fun kd k1 k2 => ?_, h3⟩, fun rec => ?_⟩
    · have := h2 kd k1 k2
      rw [if_pos (by omega)] at this
      exact this
    · show X11_fittingKinds_L78_b (nI w) k (nI i0) q (nI y) (nI (bur A (F y))) rec (nI (wM A w F I (fun _ => y + 1) 6)) (nI 6) τ = _
      unfold X11_fittingKinds_L78_b
      rw [if_pos (by decide)]
  · have eM : wM A w F I (fun kd => if kd < 0 + 1 then y + 1 else y) 6 = wM A w F I (fun _ => y) 6 := wM_congr (fun kd k1 k2 => if_neg (by omega))
    rw [eM]
    rfl
  · intro kd k1 k2
    rw [if_neg (by omega)]
    exact h88 kd k1 k2
