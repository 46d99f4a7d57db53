/-! ===== PURE: years, image, restore ===== -/
theorem GD.year {A : aP} {m : Nat} {L : Nat → aD} (g : GD A m L) (hy : a_yr A < 999) : GD (aYear A) m L := ⟨g.1, aYear_WF g.2.1 (by omega), by show a_yr A + 1 ≤ 999; omega, fun j hj => g.2.2.2 j hj⟩
theorem CS.year {σ σ' : jMem} {A : aP} {m : Nat} {L : Nat → aD} (h : CS σ A m L) (h1 : PC σ' 22 (aYear A)) (f : FR (fun c j => (c = 22 ∧ j = 4) ∨ c = 22 + 6 ∨ c = 22 + 7) σ σ') : CS σ' (aYear A) m L := h.dyn _ h1 (fun c j q1 q2 => f.1 c j (by omega))
theorem RS.year {σ σ' : jMem} {A : aP} {m : Nat} {L : Nat → aD} (g : GD A m L) (h : RS σ A m L) (h1 : PR σ' 93 0 (aYear A)) (f : FR (fun c j => c = 93) σ σ') : RS σ' (aYear A) m L := h.dyn g _ h1 (fun c j q => f.1 c j (by omega))
/-- i years on: the parish, the acts -/
def yrA (A : aP) : Nat → aP
  | 0 => A
  | i + 1 => aYear (yrA A i)
def yrM (m : Nat) : Nat → Nat
  | 0 => m
  | i + 1 => pshN (yrM m i)
def yrL (A : aP) (m : Nat) (L : Nat → aD) : Nat → (Nat → aD)
  | 0 => L
  | i + 1 => pshL (yrM m i) (yrL A m L i) (dOf (yrA A i))
theorem yrA_yr (A : aP) : ∀ i, a_yr (yrA A i) = a_yr A + i
  | 0 => rfl
  | i + 1 => by
    show a_yr (yrA A i) + 1 = _
    rw [yrA_yr A i]
    omega
theorem yr_G {A : aP} {m : Nat} {L : Nat → aD} (g : GD A m L) : ∀ i, a_yr A + i ≤ 999 → GD (yrA A i) (yrM m i) (yrL A m L i)
  | 0, _ => g
  | i + 1, h => (yr_G g i (by omega)).push.year (by rw [yrA_yr]; omega)
theorem years_c {σ : jMem} {A : aP} {m n : Nat} {L : Nat → aD} (g : GD A m L) (h : CS σ A m L) (hn : n ≤ 24) (hy : a_yr A + n ≤ 999) : ∃ σ', X11_years_L47 (nI n) jFU (0 : Int32) σ = some ((), σ') ∧ CS σ' (yrA A n) (yrM m n) (yrL A m L n) ∧ FR cC σ σ' := by
  have H := jloop_inv (body := fun rec s σ => X11_years_L47_b (nI n) rec s σ) (fun i s τ => s = nI i ∧ CS τ (yrA A i) (yrM m i) (yrL A m L i) ∧ FR cC σ τ) (fun r => CS r.2 (yrA A n) (yrM m n) (yrL A m L n) ∧ FR cC σ r.2) n ?_ ?_ (0 : Int32) σ ⟨rfl, h, FR.refl σ⟩ jFU (by unfold jFU; omega)
  · obtain ⟨⟨u, ρ⟩, ⟨h1, h2⟩, h3⟩ := H
    exact ⟨ρ, h3, h1, h2⟩
  · rintro i s τ hi ⟨rfl, h1, h2⟩
    have gi := yr_G g i (by omega)
    obtain ⟨τ1, k1, k2, k3⟩ := kC_spec gi h1
    obtain ⟨τ2, p1, p2, p3⟩ := pass_c k2.1 gi.2.1 (by rw [yrA_yr]; omega)
    refine ⟨nI (i + 1), τ2, ⟨rfl, k2.year p2 p3, (h2.trans k3).trans (p3.mono (fun c j q => by unfold cC; omega))⟩, fun rec => ?_⟩
    show X11_years_L47_b (nI n) rec (nI i) τ = _
    unfold X11_years_L47_b
    rw [if_neg (nle_ (by omega) (by omega)), k1, jbv_eq, p1, jbv_eq, nI_1]
  · rintro s τ ⟨rfl, h1, h2⟩
    refine ⟨((), τ), ⟨h1, h2⟩, fun rec => ?_⟩
    show X11_years_L47_b (nI n) rec (nI n) τ = _
    unfold X11_years_L47_b
    rw [if_pos (nI_le (Nat.le_refl _) (by omega))]
theorem years_r {σ : jMem} {A : aP} {m n : Nat} {L : Nat → aD} (g : GD A m L) (h : RS σ A m L) (hn : n ≤ 24) (hy : a_yr A + n ≤ 999) : ∃ σ', X12_years_L49 (nI n) jFU (0 : Int32) σ = some ((), σ') ∧ RS σ' (yrA A n) (yrM m n) (yrL A m L n) ∧ FR cR σ σ' := by
  have H := jloop_inv (body := fun rec s σ => X12_years_L49_b (nI n) rec s σ) (fun i s τ => s = nI i ∧ RS τ (yrA A i) (yrM m i) (yrL A m L i) ∧ FR cR σ τ) (fun r => RS r.2 (yrA A n) (yrM m n) (yrL A m L n) ∧ FR cR σ r.2) n ?_ ?_ (0 : Int32) σ ⟨rfl, h, FR.refl σ⟩ jFU (by unfold jFU; omega)
  · obtain ⟨⟨u, ρ⟩, ⟨h1, h2⟩, h3⟩ := H
    exact ⟨ρ, h3, h1, h2⟩
  · rintro i s τ hi ⟨rfl, h1, h2⟩
    have gi := yr_G g i (by omega)
    obtain ⟨τ1, k1, k2, k3⟩ := kR_spec gi h1
    obtain ⟨τ2, p1, p2, p3⟩ := year_r k2.1 gi.2.1 (by rw [yrA_yr]; omega)
    refine ⟨nI (i + 1), τ2, ⟨rfl, k2.year gi.push p2 p3, (h2.trans k3).trans (p3.mono (fun c j q => by unfold cR; omega))⟩, fun rec => ?_⟩
    show X12_years_L49_b (nI n) rec (nI i) τ = _
    unfold X12_years_L49_b
    rw [if_neg (nle_ (by omega) (by omega)), k1, jbv_eq, p1, jbv_eq, nI_1]
  · rintro s τ ⟨rfl, h1, h2⟩
    refine ⟨((), τ), ⟨h1, h2⟩, fun rec => ?_⟩
    show X12_years_L49_b (nI n) rec (nI n) τ = _
    unfold X12_years_L49_b
    rw [if_pos (nI_le (Nat.le_refl _) (by omega))]
theorem sim_years_ok : sim_years Inv := by
  rintro σ a1 ⟨A, h⟩
  have hb := h.W.b
  have h' := h.t0
  have t1 := h.W.1.1
  have hyr := h.2.2.1.2.1
  rcases (show a_th A = 0 ∨ a_th A = 1 by omega) with t | t
  · refine ⟨-1000002, σ, jset σ 89 0 0, ?_, ?_, h.bad⟩
    · unfold f_X11_years
      rw [h.C.1.1, t, if_neg (by decide)]
    · unfold f_X12_years
      rw [jlet_eq, there_r h'.R h.W, t]
      rfl
  · have ec : ¬ σ.1 22 1 = 0 := by rw [h.C.1.1, t]; decide
    have er := there_r h'.R h.W
    rw [t] at er
    rcases pI_split a1 25 (by omega) with ⟨n, hn, rfl⟩ | hx
    · by_cases q0 : n = 0
      · subst q0
        refine ⟨-1000001, σ, jset σ 89 0 0, ?_, ?_, h.bad⟩
        · unfold f_X11_years
          rw [if_pos ec]
          rfl
        · unfold f_X12_years
          rw [jlet_eq, er, jbd_eq, if_pos (by decide)]
          rfl
      · have ein : ∀ τ : jMem, f_X12_in (nI n).toInt64 (1 : Int64) (24 : Int64) τ = some (1, τ) := by
          intro τ
          simp only [nlitL]
          rw [in_lit _ _ _ (by omega) (by omega), nI_toInt (by omega), if_pos (by omega)]
        by_cases q1 : a_yr A + n ≤ 999
        · obtain ⟨m, L, g, hC, hR⟩ := h.split
          obtain ⟨σ1, k1, k2, k3⟩ := years_c g hC (n := n) (by omega) q1
          have gn := yr_G g n q1
          have hR2 := (hR.off g k3).congr g (σ' := jset σ1 89 0 0) (fun c j q => jset_o (by omega))
          obtain ⟨σ2, r1, r2, r3⟩ := years_r g hR2 (n := n) (by omega) q1
          have e1 : f_X11_years (nI n) σ = some (nI (aLiv (yrA A n)), σ1) := by
            unfold f_X11_years
            rw [if_pos ec, if_neg (ltL_ (by omega) (by omega)), if_pos (leL (by omega) (by omega)), h.C.1.2.2.2.1, nI_add, if_pos (leL (by omega) (by omega)), k1, jbd_eq, living_c k2.1 gn.2.1]
            rfl
          have er2 := there_r hR2.1 h.W
          rw [t] at er2
          have e2 : f_X12_years (nI n) σ1 = some (nI (aLiv (yrA A n)), σ2) := by
            unfold f_X12_years
            rw [jlet_eq, er2, jbd_eq, if_pos (by decide), ein, jbd_eq, if_pos (by decide), jldL_ (by omega) (by omega), (hR2.1.f (o := 0)).2.2.2.2.2.1, nI_add, if_pos (leL (by omega) (by omega)), r1, jbd_eq, living_r r2.1 gn.2.1]
            rfl
          have f3 : FR cR σ1 σ2 := FR.trans (FR.set (FR.refl _) (by unfold cR; omega)) r3
          exact ⟨_, _, _, e1, e2, _, h.join gn (k2.off f3) r2 (k3.both f3)⟩
        · refine ⟨-1000003, σ, jset σ 89 0 0, ?_, ?_, h.bad⟩
          · unfold f_X11_years
            rw [if_pos ec, if_neg (ltL_ (by omega) (by omega)), if_pos (leL (by omega) (by omega)), h.C.1.2.2.2.1, nI_add, if_neg (leL_ (by omega) (by omega))]
          · unfold f_X12_years
            rw [jlet_eq, er, jbd_eq, if_pos (by decide), ein, jbd_eq, if_pos (by decide), jldL_ (by omega) (by omega), (h'.R.f (o := 0)).2.2.2.2.2.1, nI_add, if_neg (leL_ (by omega) (by omega))]
    · refine ⟨-1000001, σ, jset σ 89 0 0, ?_, ?_, h.bad⟩
      · unfold f_X11_years
        rw [if_pos ec]
        rcases hx with q | q
        · rw [if_pos (by rw [pI_lt]; show a1.toInt < 1; omega)]
        · rw [if_neg (by rw [pI_lt]; show ¬ a1.toInt < 1; omega), if_neg (by rw [pI_le]; show ¬ a1.toInt ≤ 24; omega)]
      · unfold f_X12_years
        rw [jlet_eq, er, jbd_eq, if_pos (by decide)]
        simp only [nlitL]
        rw [in_lit _ _ _ (by omega) (by omega), if_neg (by omega), jbd_eq, if_neg (by decide)]
