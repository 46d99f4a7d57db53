/-! ===== PURE: what a parish shows: who lives, who swears, the ways ===== -/
def aSp (A : aP) (w : Nat) : Nat := a_lv A + (if a_kd A w = 2 then 9 else 0)
def aLv (A : aP) (w : Nat) : Nat := if a_ag A w ≤ aSp A w then 1 else 0
def aSw (A : aP) (w : Nat) : Nat := if a_ag A w ≤ aSp A w then a_sw A w else 0
theorem aSp_le {A : aP} (hW : WF A) (w : Nat) : aSp A w ≤ 99 := by
  have := hW.1.2.2.1
  unfold aSp
  split <;> omega
def aWays (A : aP) : Nat := orN (aSw A) (a_nw A)
def aLiv (A : aP) : Nat := orN (fun w => aLv A w * 2 ^ w) (a_nw A)
theorem aLv_le (A : aP) (w : Nat) : aLv A w ≤ 1 := by unfold aLv; split <;> omega
theorem aSw_lt {A : aP} (hW : WF A) {w : Nat} (hw : w < a_nw A) : aSw A w < 2 ^ a_np A := by
  unfold aSw
  split
  · exact (hW.2.2.2 w hw).2.2.2.2
  · exact Nat.two_pow_pos _
theorem aWays_lt {A : aP} (hW : WF A) : aWays A < 2 ^ a_np A := orN_lt (fun _ hw => aSw_lt hW hw)
theorem np_lt {A : aP} (hW : WF A) {x : Nat} (h : x < 2 ^ a_np A) : x < 4096 := Nat.lt_of_lt_of_le h (by have := p2_le hW.b.1; simpa using this)
theorem span_spec {kd : Nat} (h1 : 1 ≤ kd) (h2 : kd ≤ 5) (lv : Nat) (σ : jMem) : vf_X10_span (16 + 1 * kd) (nI lv) σ = some (nI (lv + (if kd = 2 then 9 else 0)), σ) := by
  rcases (show kd = 1 ∨ kd = 2 ∨ kd = 3 ∨ kd = 4 ∨ kd = 5 by omega) with rfl | rfl | rfl | rfl | rfl
  · rfl
  · show f_X1_span 18 (nI lv) σ = _
    unfold f_X1_span
    rw [show (9 : Int32) = nI 9 from rfl, nI_add]
    rfl
  · rfl
  · rfl
  · rfl
section ReadC
variable {σ : jMem} {k : Nat} {A : aP}
theorem alive_c (hP : PC σ k A) (hW : WF A) {w : Nat} (hw : w < a_nw A) : f_X5_isAlive k (nI w) σ = some (nI (aLv A w), σ) := by
  obtain ⟨hf, hp, hq⟩ := hP
  obtain ⟨g1, g2, g3, g4⟩ := hq w hw
  obtain ⟨k1, k2, k3, k4, k5⟩ := hW.2.2.2 w hw
  have hb := hW.b
  have hlv := hW.1.2.2.1
  unfold f_X5_isAlive
  rw [jld_eq (by omega) (by omega), g3, jld_eq (by omega) (by omega), g1, jldr_eq (by omega) (by omega), hf.2.2.1, span_spec k1 k2, jbd_eq, show a_lv A + (if a_kd A w = 2 then 9 else 0) = aSp A w from rfl]
  have hsp := aSp_le hW w
  unfold aLv
  by_cases c : a_ag A w ≤ aSp A w
  · rw [if_pos c, if_neg]
    · rfl
    · intro q
      have := (nI_ltI (by omega) (by omega)).mp q
      omega
  · rw [if_neg c, if_pos]
    · rfl
    · exact (nI_ltI (by omega) (by omega)).mpr (by omega)
theorem swears_c (hP : PC σ k A) (hW : WF A) {w : Nat} (hw : w < a_nw A) : f_X5_swears k (nI w) σ = some (nI (aSw A w), σ) := by
  have hb := hW.b
  unfold f_X5_swears
  rw [alive_c hP hW hw, jbd_eq]
  unfold aLv aSw
  by_cases c : a_ag A w ≤ aSp A w
  · rw [if_pos c, if_pos c, if_neg (by decide), jld_eq (by omega) (by omega), (hP.2.2 w hw).2.2.2]
  · rw [if_neg c, if_neg c, if_pos (by decide)]
    rfl
theorem living_c (hP : PC σ k A) (hW : WF A) : f_X5_living k σ = some (nI (aLiv A), σ) := by
  have hb := hW.b
  unfold f_X5_living
  have hl : X5_living_L4 k jFU ((0 : Int32), (0 : Int32)) σ = some (nI (aLiv A), σ) := by
    refine jloop_run (body := fun rec s9 σ => X5_living_L4_b k rec s9.1 s9.2 σ) (fun i => (nI (orN (fun w => aLv A w * 2 ^ w) i), nI i)) (fun _ => σ) (a_nw A) (nI (aLiv A), σ) ?_ ?_ jFU (by unfold jFU; omega)
    · intro i hi rec
      show X5_living_L4_b k rec (nI (orN (fun w => aLv A w * 2 ^ w) i)) (nI i) σ = _
      unfold X5_living_L4_b
      rw [hP.1.2.2.2.2.2.1, if_neg (fun q => absurd ((nI_leI (by omega) (by omega)).mp q) (by omega)), alive_c hP hW hi, jbd_eq]
      have hle := aLv_le A i
      rcases (show aLv A i = 0 ∨ aLv A i = 1 by omega) with e | e
      · rw [e, if_pos (by decide), nI_1]
        simp only [orN, e, Nat.zero_mul, Nat.or_zero]
      · rw [e, if_neg (by decide), jlet_eq, nI_one_shl (by omega), nI_or, nI_1]
        simp only [orN, e, Nat.one_mul]
    · intro rec
      show X5_living_L4_b k rec (nI (orN (fun w => aLv A w * 2 ^ w) (a_nw A))) (nI (a_nw A)) σ = _
      unfold X5_living_L4_b
      rw [hP.1.2.2.2.2.2.1, if_pos (nI_le (Nat.le_refl _) (by omega))]
      rfl
  rw [hl]
  rfl
theorem sworn_c (hP : PC σ k A) (hW : WF A) {s : Nat} (hs : s < 64) : f_X5_sworn k (nI s) σ = some (nI (orN (fun w => if bt1 s w = 1 then aSw A w else 0) (a_nw A)), σ) := by
  have hb := hW.b
  unfold f_X5_sworn
  have hl : X5_sworn_L4 k (nI s) jFU ((0 : Int32), (0 : Int32)) σ = some (nI (orN (fun w => if bt1 s w = 1 then aSw A w else 0) (a_nw A)), σ) := by
    refine jloop_run (body := fun rec s9 σ => X5_sworn_L4_b k (nI s) rec s9.1 s9.2 σ) (fun i => (nI (orN (fun w => if bt1 s w = 1 then aSw A w else 0) i), nI i)) (fun _ => σ) (a_nw A) _ ?_ ?_ jFU (by unfold jFU; omega)
    · intro i hi rec
      show X5_sworn_L4_b k (nI s) rec (nI (orN (fun w => if bt1 s w = 1 then aSw A w else 0) i)) (nI i) σ = _
      unfold X5_sworn_L4_b
      rw [hP.1.2.2.2.2.2.1, if_neg (fun q => absurd ((nI_leI (by omega) (by omega)).mp q) (by omega)), bitOf_spec (by omega) (by omega), jbd_eq]
      have hle := bt1_le s i
      rcases (show bt1 s i = 0 ∨ bt1 s i = 1 by omega) with e | e
      · rw [e, if_pos (by decide), nI_1]
        simp [orN, e]
      · rw [e, if_neg (by decide), swears_c hP hW hi, jbd_eq, jlet_eq, nI_or, nI_1]
        simp [orN, e]
    · intro rec
      show X5_sworn_L4_b k (nI s) rec (nI (orN (fun w => if bt1 s w = 1 then aSw A w else 0) (a_nw A))) (nI (a_nw A)) σ = _
      unfold X5_sworn_L4_b
      rw [hP.1.2.2.2.2.2.1, if_pos (nI_le (Nat.le_refl _) (by omega))]
  rw [hl]
  rfl
theorem ways_c (hP : PC σ k A) (hW : WF A) : f_X5_ways k σ = some (nI (aWays A), σ) := by
  have hb := hW.b
  unfold f_X5_ways
  rw [hP.1.2.2.2.2.2.1, p2m1 _ (by omega), sworn_c hP hW (by have := p2_le hb.2; have := Nat.two_pow_pos (a_nw A); omega), jbd_eq]
  unfold aWays
  rw [orN_congr (g' := aSw A) (fun i hi => by rw [bt1_full hi, if_pos rfl])]
theorem swearing_c (hP : PC σ k A) (hW : WF A) {p : Nat} (hp : p < 12) : f_X5_swearing k (nI p) σ = some (nI (orN (fun w => bt1 (aSw A w) p * 2 ^ w) (a_nw A)), σ) := by
  have hb := hW.b
  unfold f_X5_swearing
  have hl : X5_swearing_L4 k (nI p) jFU ((0 : Int32), (0 : Int32)) σ = some (nI (orN (fun w => bt1 (aSw A w) p * 2 ^ w) (a_nw A)), σ) := by
    refine jloop_run (body := fun rec s9 σ => X5_swearing_L4_b k (nI p) rec s9.1 s9.2 σ) (fun i => (nI (orN (fun w => bt1 (aSw A w) p * 2 ^ w) i), nI i)) (fun _ => σ) (a_nw A) _ ?_ ?_ jFU (by unfold jFU; omega)
    · intro i hi rec
      have hlt := np_lt hW (aSw_lt hW hi)
      show X5_swearing_L4_b k (nI p) rec (nI (orN (fun w => bt1 (aSw A w) p * 2 ^ w) i)) (nI i) σ = _
      unfold X5_swearing_L4_b
      have hle := bt1_le (aSw A i) p
      have h2 : bt1 (aSw A i) p * 2 ^ i < 2 ^ 32 := by
        have := p2_lt (i := i) (n := 31) (by omega)
        rcases (show bt1 (aSw A i) p = 0 ∨ bt1 (aSw A i) p = 1 by omega) with e | e <;> rw [e] <;> omega
      rw [hP.1.2.2.2.2.2.1, if_neg (fun q => absurd ((nI_leI (by omega) (by omega)).mp q) (by omega)), swears_c hP hW hi, jbd_eq, bitOf_spec (by omega) (by omega), jbd_eq, jlet_eq, nI_shl (by omega) h2, nI_or, nI_1]
      rfl
    · intro rec
      show X5_swearing_L4_b k (nI p) rec (nI (orN (fun w => bt1 (aSw A w) p * 2 ^ w) (a_nw A))) (nI (a_nw A)) σ = _
      unfold X5_swearing_L4_b
      rw [hP.1.2.2.2.2.2.1, if_pos (nI_le (Nat.le_refl _) (by omega))]
  rw [hl]
  rfl
theorem allP_c (hP : PC σ k A) (hW : WF A) : f_X5_allPaths k σ = some (nI (2 ^ a_np A - 1), σ) := by
  have hb := hW.b
  unfold f_X5_allPaths
  rw [hP.1.2.2.2.2.1, p2m1 _ (by omega)]
theorem open_c (hP : PC σ k A) (hW : WF A) : f_X5_open k σ = some (nI (andn (2 ^ a_np A - 1) (a_gt A)), σ) := by
  unfold f_X5_open
  rw [allP_c hP hW, jbd_eq, hP.1.2.2.2.2.2.2, nI_andn]
theorem hasPath_c (hP : PC σ k A) (hW : WF A) (a : Int32) : (∃ p, p < a_np A ∧ a = nI p ∧ f_X5_hasPath k a σ = some (1, σ)) ∨ ((a.toInt < 0 ∨ (a_np A : Int) ≤ a.toInt) ∧ f_X5_hasPath k a σ = some (0, σ)) := by
  have hb := hW.b
  unfold f_X5_hasPath
  rw [hP.1.2.2.2.2.1]
  rcases pI_split a (a_np A) (by omega) with ⟨p, hp, rfl⟩ | ho
  · left
    exact ⟨p, hp, rfl, by rw [if_neg (nI_pos (by omega)), if_neg (fun q => absurd ((nI_leI (by omega) (by omega)).mp q) (by omega))]⟩
  · right
    refine ⟨ho, ?_⟩
    by_cases c : a < 0
    · rw [if_pos c]
    · rw [if_neg c, if_pos]
      rw [pI_le, nI_toInt (by omega)]
      rw [pI_lt] at c
      have e1 : (0 : Int32).toInt = 0 := rfl
      omega
theorem hasWit_c (hP : PC σ k A) (hW : WF A) (a : Int32) : (∃ p, p < a_nw A ∧ a = nI p ∧ f_X5_hasWitness k a σ = some (1, σ)) ∨ ((a.toInt < 0 ∨ (a_nw A : Int) ≤ a.toInt) ∧ f_X5_hasWitness k a σ = some (0, σ)) := by
  have hb := hW.b
  unfold f_X5_hasWitness
  rw [hP.1.2.2.2.2.2.1]
  rcases pI_split a (a_nw A) (by omega) with ⟨p, hp, rfl⟩ | ho
  · left
    exact ⟨p, hp, rfl, by rw [if_neg (nI_pos (by omega)), if_neg (fun q => absurd ((nI_leI (by omega) (by omega)).mp q) (by omega))]⟩
  · right
    refine ⟨ho, ?_⟩
    by_cases c : a < 0
    · rw [if_pos c]
    · rw [if_neg c, if_pos]
      rw [pI_le, nI_toInt (by omega)]
      rw [pI_lt] at c
      have e1 : (0 : Int32).toInt = 0 := rfl
      omega
end ReadC
