/-! ===== PURE: the same, in the reference ===== -/
section ReadR
variable {σ : jMem} {r : Nat} {A : aP}
theorem of_r (hP : PR σ r 0 A) (hW : WF A) {w c : Nat} (hw : w < a_nw A) (hc : c < 4) : f_X12_of r (nI w) (nI c) σ = some (σ.1 r (43 + 4 * w + c), σ) := by
  have hb := hW.b
  unfold f_X12_of
  simp only [nlit, pk_mul, nI_add]
  rw [jld_eq (by omega) (by omega)]
theorem of_k (hP : PR σ r 0 A) (hW : WF A) {w : Nat} (hw : w < a_nw A) : f_X12_of r (nI w) (0 : Int32) σ = some (nI (a_kd A w), σ) := by
  have := of_r hP hW (c := 0) hw (by omega)
  rw [show (0 : Int32) = nI 0 from rfl, this]
  have g := (hP.2.2 w hw).1
  rw [Nat.zero_add] at g
  rw [Nat.add_zero, g]
theorem of_a (hP : PR σ r 0 A) (hW : WF A) {w : Nat} (hw : w < a_nw A) : f_X12_of r (nI w) (1 : Int32) σ = some (nI (a_ag A w), σ) := by
  have := of_r hP hW (c := 1) hw (by omega)
  rw [show (1 : Int32) = nI 1 from rfl, this]
  have g := (hP.2.2 w hw).2.1
  rw [Nat.zero_add] at g
  rw [g]
theorem of_h (hP : PR σ r 0 A) (hW : WF A) {w : Nat} (hw : w < a_nw A) : f_X12_of r (nI w) (2 : Int32) σ = some (nI (a_hm A w), σ) := by
  have := of_r hP hW (c := 2) hw (by omega)
  rw [show (2 : Int32) = nI 2 from rfl, this]
  have g := (hP.2.2 w hw).2.2.1
  rw [Nat.zero_add] at g
  rw [g]
theorem of_s (hP : PR σ r 0 A) (hW : WF A) {w : Nat} (hw : w < a_nw A) : f_X12_of r (nI w) (3 : Int32) σ = some (nI (a_sw A w), σ) := by
  have := of_r hP hW (c := 3) hw (by omega)
  rw [show (3 : Int32) = nI 3 from rfl, this]
  have g := (hP.2.2 w hw).2.2.2
  rw [Nat.zero_add] at g
  rw [g]
theorem PR.f {o : Nat} (hP : PR σ r 0 A) : σ.1 r 0 = nI (a_th A) ∧ σ.1 r 1 = nI (a_ch A) ∧ σ.1 r 2 = nI (a_lv A) ∧ σ.1 r 3 = nI (a_np A) ∧ σ.1 r 4 = nI (a_nw A) ∧ σ.1 r 5 = nI (a_yr A) ∧ σ.1 r 6 = nI (a_gt A) := by
  have h := hP.1
  simp only [Nat.zero_add] at h
  exact h
theorem livesBy_r (hP : PR σ r 0 A) (hW : WF A) {kd ag : Nat} (hk : kd ≤ 5) (ha : ag ≤ 100) : f_X12_livesBy r (nI kd) (nI ag) σ = some (nI (if ag ≤ a_lv A + (if kd = 2 then 9 else 0) then 1 else 0), σ) := by
  have hlv := hW.1.2.2.1
  unfold f_X12_livesBy
  rw [show (2 : Int32) = nI 2 from rfl, jld_eq (by omega) (by omega), (hP.f (o := 0)).2.2.1, jj_eq]
  by_cases c : kd = 2
  · subst c
    rw [if_neg (by simp)]
    dsimp only
    rw [show (9 : Int32) = nI 9 from rfl, nI_add, if_pos rfl]
    by_cases d : ag ≤ a_lv A + 9
    · rw [if_pos d, if_neg (fun q => absurd ((nI_ltI (by omega) (by omega)).mp q) (by omega))]
      rfl
    · rw [if_neg d, if_pos ((nI_ltI (by omega) (by omega)).mpr (by omega))]
      rfl
  · rw [if_pos (fun q => c ((nI_eq (by omega) (by omega)).mp q))]
    dsimp only
    rw [show (0 : Int32) = nI 0 from rfl, nI_add, if_neg c]
    by_cases d : ag ≤ a_lv A + 0
    · rw [if_pos d, if_neg (fun q => absurd ((nI_ltI (by omega) (by omega)).mp q) (by omega))]
      rfl
    · rw [if_neg d, if_pos ((nI_ltI (by omega) (by omega)).mpr (by omega))]
theorem jisb_n01 {n : Nat} (h : n ≤ 1) : jisb (nI n) = true := by
  rcases (show n = 0 ∨ n = 1 by omega) with rfl | rfl <;> rfl
theorem lives_r (hP : PR σ r 0 A) (hW : WF A) {w : Nat} (hw : w < a_nw A) : f_X12_lives r (nI w) σ = some (nI (aLv A w), σ) := by
  obtain ⟨k1, k2, k3, k4, k5⟩ := hW.2.2.2 w hw
  unfold f_X12_lives
  rw [of_k hP hW hw, jbd_eq, of_a hP hW hw, jbd_eq, livesBy_r hP hW k2 k3, jbd_eq]
  exact jck_t (jisb_n01 (aLv_le A w))
theorem swears_r (hP : PR σ r 0 A) (hW : WF A) {w : Nat} (hw : w < a_nw A) : f_X12_swears r (nI w) σ = some (nI (aSw A w), σ) := by
  unfold f_X12_swears
  rw [lives_r hP hW hw, jbd_eq]
  unfold aLv aSw
  by_cases c : a_ag A w ≤ aSp A w
  · rw [if_pos c, if_pos c, if_neg (by decide), of_s hP hW hw]
    rfl
  · rw [if_neg c, if_neg c, if_pos (by decide)]
    rfl
theorem ways_r (hP : PR σ r 0 A) (hW : WF A) : f_X12_waysOf r σ = some (nI (aWays A), σ) := by
  have hb := hW.b
  unfold f_X12_waysOf
  have hl : X12_waysOf_L4 r jFU ((0 : Int32), (0 : Int32)) σ = some (nI (aWays A), σ) := by
    refine jloop_run (body := fun rec s9 σ => X12_waysOf_L4_b r rec s9.1 s9.2 σ) (fun i => (nI (orN (aSw A) i), nI i)) (fun _ => σ) (a_nw A) (nI (aWays A), σ) ?_ ?_ jFU (by unfold jFU; omega)
    · intro i hi rec
      show X12_waysOf_L4_b r rec (nI (orN (aSw A) i)) (nI i) σ = _
      unfold X12_waysOf_L4_b
      rw [show (4 : Int32) = nI 4 from rfl, jld_eq (by omega) (by omega), (hP.f (o := 0)).2.2.2.2.1, if_neg (fun q => absurd ((nI_leI (by omega) (by omega)).mp q) (by omega)), swears_r hP hW hi, jbd_eq, jlet_eq, nI_or, nI_1]
      rfl
    · intro rec
      show X12_waysOf_L4_b r rec (nI (orN (aSw A) (a_nw A))) (nI (a_nw A)) σ = _
      unfold X12_waysOf_L4_b
      rw [show (4 : Int32) = nI 4 from rfl, jld_eq (by omega) (by omega), (hP.f (o := 0)).2.2.2.2.1, if_pos (nI_le (Nat.le_refl _) (by omega))]
      rfl
  rw [hl]
  rfl
theorem living_r (hP : PR σ r 0 A) (hW : WF A) : f_X12_living r σ = some (nI (aLiv A), σ) := by
  have hb := hW.b
  unfold f_X12_living
  have hl : X12_living_L4 r jFU ((0 : Int32), (0 : Int32)) σ = some (nI (aLiv A), σ) := by
    refine jloop_run (body := fun rec s9 σ => X12_living_L4_b r rec s9.1 s9.2 σ) (fun i => (nI (orN (fun w => aLv A w * 2 ^ w) i), nI i)) (fun _ => σ) (a_nw A) (nI (aLiv A), σ) ?_ ?_ jFU (by unfold jFU; omega)
    · intro i hi rec
      show X12_living_L4_b r rec (nI (orN (fun w => aLv A w * 2 ^ w) i)) (nI i) σ = _
      unfold X12_living_L4_b
      rw [show (4 : Int32) = nI 4 from rfl, jld_eq (by omega) (by omega), (hP.f (o := 0)).2.2.2.2.1, if_neg (fun q => absurd ((nI_leI (by omega) (by omega)).mp q) (by omega)), lives_r hP hW hi, jbd_eq]
      have hle := aLv_le A i
      rcases (show aLv A i = 0 ∨ aLv A i = 1 by omega) with e | e
      · rw [e, if_pos (by decide), jlet_eq, show (0 : Int32) = nI 0 from rfl, nI_or, nI_1]
        simp only [orN, e, Nat.zero_mul, Nat.or_zero]
      · rw [e, if_neg (by decide), jlet_eq, nI_one_shl (by omega), nI_or, nI_1]
        simp only [orN, e, Nat.one_mul]
    · intro rec
      show X12_living_L4_b r rec (nI (orN (fun w => aLv A w * 2 ^ w) (a_nw A))) (nI (a_nw A)) σ = _
      unfold X12_living_L4_b
      rw [show (4 : Int32) = nI 4 from rfl, jld_eq (by omega) (by omega), (hP.f (o := 0)).2.2.2.2.1, if_pos (nI_le (Nat.le_refl _) (by omega))]
      rfl
  rw [hl]
  rfl
end ReadR
section ReadN
variable {σ : jMem} {A : aP}
theorem there_r (hP : PR σ 93 0 A) (hW : WF A) : f_X12_isThere σ = some (nI (a_th A), σ) := by
  unfold f_X12_isThere
  rw [show (0 : Int32) = nI 0 from rfl, jld_eq (by omega) (by omega), (hP.f (o := 0)).1]
  rcases (show a_th A = 0 ∨ a_th A = 1 by have := hW.1.1; omega) with e | e
  · rw [e]; rfl
  · rw [e]; rfl
theorem in_sub (a : Int32) (n : Nat) (hn : n < 2 ^ 30) (σ : jMem) : f_X12_in a.toInt64 (0 : Int64) (nI n - 1).toInt64 σ = some (if 0 ≤ a.toInt ∧ a.toInt ≤ (n : Int) - 1 then 1 else 0, σ) := by
  have esub : (nI n - 1 : Int32).toInt = (n : Int) - 1 := pk_sub_toInt (b := 1) hn (by omega)
  rw [show (0 : Int64) = (0 : Int32).toInt64 from rfl, in32, esub]
  rfl
theorem isPath_r (hP : PR σ 93 0 A) (hW : WF A) (a : Int32) : f_X12_isPath a σ = some (if 0 ≤ a.toInt ∧ a.toInt ≤ (a_np A : Int) - 1 then 1 else 0, σ) := by
  have hb := hW.b
  unfold f_X12_isPath
  rw [show (3 : Int32) = nI 3 from rfl, jld_eq (by omega) (by omega), (hP.f (o := 0)).2.2.2.1, in_sub _ _ (by omega), jbd_eq]
  by_cases c : 0 ≤ a.toInt ∧ a.toInt ≤ (a_np A : Int) - 1
  · rw [if_pos c]; rfl
  · rw [if_neg c]; rfl
theorem isWit_r (hP : PR σ 93 0 A) (hW : WF A) (a : Int32) : f_X12_isWitness a σ = some (if 0 ≤ a.toInt ∧ a.toInt ≤ (a_nw A : Int) - 1 then 1 else 0, σ) := by
  have hb := hW.b
  unfold f_X12_isWitness
  rw [show (4 : Int32) = nI 4 from rfl, jld_eq (by omega) (by omega), (hP.f (o := 0)).2.2.2.2.1, in_sub _ _ (by omega), jbd_eq]
  by_cases c : 0 ≤ a.toInt ∧ a.toInt ≤ (a_nw A : Int) - 1
  · rw [if_pos c]; rfl
  · rw [if_neg c]; rfl
theorem allP_r (hP : PR σ 93 0 A) (hW : WF A) : f_X12_allPaths σ = some (nI (2 ^ a_np A - 1), σ) := by
  have hb := hW.b
  unfold f_X12_allPaths
  rw [show (3 : Int32) = nI 3 from rfl, jld_eq (by omega) (by omega), (hP.f (o := 0)).2.2.2.1, p2m1 _ (by omega)]
theorem isField_r (a : Int32) (σ : jMem) : f_X12_isField a.toInt64 σ = some (if 0 ≤ a.toInt ∧ a.toInt ≤ 7 then 1 else 0, σ) := by
  unfold f_X12_isField
  simp only [nlitL]
  rw [in_lit _ _ _ (by omega) (by omega), jbd_eq]
  by_cases c : 0 ≤ a.toInt ∧ a.toInt ≤ 7
  · rw [if_pos c, if_pos (show ((0 : Nat) : Int) ≤ a.toInt ∧ a.toInt ≤ ((7 : Nat) : Int) by omega)]; rfl
  · rw [if_neg c, if_neg (show ¬ (((0 : Nat) : Int) ≤ a.toInt ∧ a.toInt ≤ ((7 : Nat) : Int)) by omega)]; rfl
theorem isField_c (a : Int32) (σ : jMem) : f_X11_isField a σ = some (if 0 ≤ a.toInt ∧ a.toInt ≤ 7 then 1 else 0, σ) := by
  unfold f_X11_isField
  have e0 : (0 : Int32).toInt = 0 := rfl
  have e8 : (8 : Int32).toInt = 8 := rfl
  by_cases c : a < 0
  · rw [if_pos c]
    rw [pI_lt] at c
    rw [if_neg (by omega)]
  · rw [if_neg c]
    rw [pI_lt] at c
    by_cases d : (8 : Int32) ≤ a
    · rw [if_pos d]
      rw [pI_le] at d
      rw [if_neg (by omega)]
    · rw [if_neg d]
      rw [pI_le] at d
      rw [if_pos (by omega)]
theorem oneOf_c (a : Int32) (σ : jMem) : f_X11_isOneOfTwo a σ = some (if a = 0 ∨ a = 1 then 1 else 0, σ) := by
  unfold f_X11_isOneOfTwo
  by_cases c : a = 0
  · rw [if_pos c, if_pos (Or.inl c)]
  · rw [if_neg c]
    by_cases d : a = 1
    · rw [if_neg (fun q => q d), if_pos (Or.inr d)]
    · rw [if_pos d, if_neg (fun q => q.elim c d)]
theorem oneOf_r (a : Int32) (σ : jMem) : f_X12_in a.toInt64 (0 : Int64) (1 : Int64) σ = some (if a = 0 ∨ a = 1 then 1 else 0, σ) := by
  simp only [nlitL]
  rw [in_lit _ _ _ (by omega) (by omega)]
  have e : (((0 : Nat) : Int) ≤ a.toInt ∧ a.toInt ≤ ((1 : Nat) : Int)) ↔ (a = 0 ∨ a = 1) := by
    rw [pI_eq a 0, pI_eq a 1, show (0 : Int32).toInt = 0 from rfl, show (1 : Int32).toInt = 1 from rfl]
    constructor <;> intro q <;> omega
  by_cases c : a = 0 ∨ a = 1
  · rw [if_pos c, if_pos (e.mpr c)]
  · rw [if_neg c, if_neg (fun q => c (e.mp q))]
end ReadN
