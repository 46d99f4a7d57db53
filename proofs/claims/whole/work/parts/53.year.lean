/-! ===== PURE: a year; years ===== -/
def kpN (kd s yr : Nat) : Nat := if kd = 4 ∧ yr % 3 = 2 then 0 else if kd = 5 then s &&& (s - 1) else s
def aYear (A : aP) : aP := dy A (a_yr A + 1, a_gt A, (fun w => a_ag A w + aLv A w), (fun w => kpN (a_kd A w) (a_sw A w) (a_yr A)))
theorem and_pred (s : Nat) (h : s < 2 ^ 31) : nI s &&& (nI s - 1) = nI (s &&& (s - 1)) := by
  by_cases q : s = 0
  · subst q
    rfl
  · rw [nI_subL (by omega), nI_and]
theorem keeps_c {kd s yr : Nat} (h1 : 1 ≤ kd) (h2 : kd ≤ 5) (hs : s < 2 ^ 31) (hy : yr < 2 ^ 31) (σ : jMem) : vf_X10_keeps (16 + 1 * kd) (nI s) (nI yr) σ = some (nI (kpN kd s yr), σ) := by
  have e3 : nI yr - nI yr / (3 : Int32) * (3 : Int32) = nI (yr % 3) := pk_rem (d := 3) hy (by omega) (by omega)
  rcases (show kd = 1 ∨ kd = 2 ∨ kd = 3 ∨ kd = 4 ∨ kd = 5 by omega) with rfl | rfl | rfl | rfl | rfl
  · rfl
  · rfl
  · rfl
  · show f_X8_keeps 20 (nI s) (nI yr) σ = _
    unfold f_X8_keeps kpN
    rw [e3]
    by_cases q : yr % 3 = 2
    · rw [if_neg (fun z => z (eqL_ q)), if_pos ⟨rfl, q⟩]
      rfl
    · rw [if_pos (neL_ q (by omega) (by omega)), if_neg (fun z => q z.2), if_neg (by omega)]
  · show f_X7_keeps 21 (nI s) (nI yr) σ = _
    unfold f_X7_keeps kpN
    rw [and_pred s hs, if_neg (by omega), if_pos rfl]
theorem kpN_lt {kd s yr n : Nat} (h : s < 2 ^ n) : kpN kd s yr < 2 ^ n := by
  unfold kpN
  split
  · exact Nat.two_pow_pos n
  · split
    · exact Nat.lt_of_le_of_lt Nat.and_le_left h
    · exact h
theorem aLv_ag {A : aP} (hW : WF A) {w : Nat} (hw : w < a_nw A) : a_ag A w + aLv A w ≤ 100 := by
  have h1 := aSp_le hW w
  have h2 := (hW.2.2.2 w hw).2.2.1
  unfold aLv
  split <;> omega
theorem aYear_WF {A : aP} (hW : WF A) (hy : a_yr A < 1100) : WF (aYear A) := hW.dyn _ (by show a_yr A + 1 ≤ 1100; omega) hW.1.2.2.2.2.2.2 (fun w hw => ⟨aLv_ag hW hw, kpN_lt (hW.2.2.2 w hw).2.2.2.2⟩)
/-- between: the first i witnesses have changed -/
def mixD (A B : aP) (i : Nat) : aD := (a_yr A, a_gt A, (fun w => if w < i then a_ag B w else a_ag A w), (fun w => if w < i then a_sw B w else a_sw A w))
theorem mix0 (A B : aP) : dy A (mixD A B 0) = A := by
  have e1 : (fun w => if w < 0 then a_ag B w else a_ag A w) = a_ag A := by funext w; rw [if_neg (by omega)]
  have e2 : (fun w => if w < 0 then a_sw B w else a_sw A w) = a_sw A := by funext w; rw [if_neg (by omega)]
  unfold mixD dy
  simp only
  rw [e1, e2]
  rfl
theorem mix_WF {A B : aP} (hA : WF A) (hB : ∀ w, w < a_nw A → a_ag B w ≤ 100 ∧ a_sw B w < 2 ^ a_np A) (i : Nat) : WF (dy A (mixD A B i)) := by
  refine hA.dyn _ hA.1.2.2.2.1 hA.1.2.2.2.2.2.2 (fun w hw => ?_)
  show (if w < i then a_ag B w else a_ag A w) ≤ 100 ∧ (if w < i then a_sw B w else a_sw A w) < 2 ^ a_np A
  by_cases q : w < i
  · rw [if_pos q, if_pos q]
    exact hB w hw
  · rw [if_neg q, if_neg q]
    exact ⟨(hA.2.2.2 w hw).2.2.1, (hA.2.2.2 w hw).2.2.2.2⟩
theorem mix_at (A B : aP) (i : Nat) : a_ag (dy A (mixD A B i)) i = a_ag A i ∧ a_sw (dy A (mixD A B i)) i = a_sw A i ∧ aLv (dy A (mixD A B i)) i = aLv A i := by
  have e1 : a_ag (dy A (mixD A B i)) i = a_ag A i := if_neg (Nat.lt_irrefl i)
  have e2 : a_sw (dy A (mixD A B i)) i = a_sw A i := if_neg (Nat.lt_irrefl i)
  refine ⟨e1, e2, ?_⟩
  unfold aLv aSp
  rw [e1]
  rfl
/-- the class's memory after one more -/
theorem mix_c {σ τ : jMem} {k i : Nat} {A B : aP} (h : PC σ k (dy A (mixD A B i))) (h6 : ∀ w, w < a_nw A → τ.1 (k + 6) w = if w = i then nI (a_ag B i) else σ.1 (k + 6) w) (h7 : ∀ w, w < a_nw A → τ.1 (k + 7) w = if w = i then nI (a_sw B i) else σ.1 (k + 7) w) (e : ∀ c j, k ≤ c → c ≤ k + 5 → τ.1 c j = σ.1 c j) : PC τ k (dy A (mixD A B (i + 1))) := by
  refine h.dyn (mixD A B (i + 1)) (fun c j q1 q2 _ => e c j q1 q2) ?_ ?_ (fun w hw => ⟨?_, ?_⟩)
  · rw [e _ _ (by omega) (by omega)]; exact h.1.2.2.2.1
  · rw [e _ _ (by omega) (by omega)]; exact h.1.2.2.2.2.2.2
  · have hw2 := (h.2.2 w hw).2.2.1
    rw [h6 w hw]
    show _ = nI (if w < i + 1 then a_ag B w else a_ag A w)
    change _ = nI (if w < i then a_ag B w else a_ag A w) at hw2
    by_cases q : w = i
    · rw [if_pos q, if_pos (by omega), q]
    · rw [if_neg q, hw2]
      by_cases q2 : w < i
      · rw [if_pos q2, if_pos (by omega)]
      · rw [if_neg q2, if_neg (by omega)]
  · have hw2 := (h.2.2 w hw).2.2.2
    rw [h7 w hw]
    show _ = nI (if w < i + 1 then a_sw B w else a_sw A w)
    change _ = nI (if w < i then a_sw B w else a_sw A w) at hw2
    by_cases q : w = i
    · rw [if_pos q, if_pos (by omega), q]
    · rw [if_neg q, hw2]
      by_cases q2 : w < i
      · rw [if_pos q2, if_pos (by omega)]
      · rw [if_neg q2, if_neg (by omega)]
theorem mix_r {σ τ : jMem} {r i : Nat} {A B : aP} (h : PR σ r 0 (dy A (mixD A B i))) (hW : a_np A ≤ 12 ∧ a_nw A ≤ 6) (h6 : ∀ w, w < a_nw A → τ.1 r (43 + 4 * w + 1) = if w = i then nI (a_ag B i) else σ.1 r (43 + 4 * w + 1)) (h7 : ∀ w, w < a_nw A → τ.1 r (43 + 4 * w + 3) = if w = i then nI (a_sw B i) else σ.1 r (43 + 4 * w + 3)) (e : ∀ j, j < 43 → τ.1 r j = σ.1 r j) (e' : ∀ w, w < a_nw A → τ.1 r (43 + 4 * w) = σ.1 r (43 + 4 * w) ∧ τ.1 r (43 + 4 * w + 2) = σ.1 r (43 + 4 * w + 2)) : PR τ r 0 (dy A (mixD A B (i + 1))) := by
  refine h.dyn hW (mixD A B (i + 1)) (fun j q1 _ _ => by rw [Nat.zero_add]; exact e j q1) ?_ ?_ (fun w hw => ⟨?_, ?_, ?_, ?_⟩)
  · rw [Nat.zero_add, e _ (by omega)]; exact h.1.2.2.2.2.2.1
  · rw [Nat.zero_add, e _ (by omega)]; exact h.1.2.2.2.2.2.2
  · rw [Nat.zero_add]; exact (e' w hw).1
  · have hw2 := (h.2.2 w hw).2.1
    rw [Nat.zero_add] at hw2 ⊢
    rw [h6 w hw]
    show _ = nI (if w < i + 1 then a_ag B w else a_ag A w)
    change _ = nI (if w < i then a_ag B w else a_ag A w) at hw2
    by_cases q : w = i
    · rw [if_pos q, if_pos (by omega), q]
    · rw [if_neg q, hw2]
      by_cases q2 : w < i
      · rw [if_pos q2, if_pos (by omega)]
      · rw [if_neg q2, if_neg (by omega)]
  · rw [Nat.zero_add]; exact (e' w hw).2
  · have hw2 := (h.2.2 w hw).2.2.2
    rw [Nat.zero_add] at hw2 ⊢
    rw [h7 w hw]
    show _ = nI (if w < i + 1 then a_sw B w else a_sw A w)
    change _ = nI (if w < i then a_sw B w else a_sw A w) at hw2
    by_cases q : w = i
    · rw [if_pos q, if_pos (by omega), q]
    · rw [if_neg q, hw2]
      by_cases q2 : w < i
      · rw [if_pos q2, if_pos (by omega)]
      · rw [if_neg q2, if_neg (by omega)]
theorem jset_v (σ : jMem) (k j : Nat) (v : Int32) (w : Nat) : (jset σ k j v).1 k w = if w = j then v else σ.1 k w := by
  by_cases q : w = j
  · rw [jset_e ⟨rfl, q⟩, if_pos q]
  · rw [jset_o (fun z => q z.2), if_neg q]
theorem pass_c {σ : jMem} {k : Nat} {A : aP} (hP : PC σ k A) (hW : WF A) (hy : a_yr A < 1100) : ∃ σ', f_X5_pass k σ = some σ' ∧ PC σ' k (aYear A) ∧ FR (fun c j => (c = k ∧ j = 4) ∨ c = k + 6 ∨ c = k + 7) σ σ' := by
  have hb := hW.b
  have hB := aYear_WF hW hy
  have hBB : ∀ w, w < a_nw A → a_ag (aYear A) w ≤ 100 ∧ a_sw (aYear A) w < 2 ^ a_np A := fun w hw => ⟨(hB.2.2.2 w hw).2.2.1, (hB.2.2.2 w hw).2.2.2.2⟩
  have H := jloop_inv (body := fun rec s σ => X5_pass_L2_b k rec s σ) (fun i s τ => s = nI i ∧ PC τ k (dy A (mixD A (aYear A) i)) ∧ FR (fun c j => (c = k ∧ j = 4) ∨ c = k + 6 ∨ c = k + 7) σ τ) (fun r => PC r.2 k (dy A (mixD A (aYear A) (a_nw A))) ∧ FR (fun c j => (c = k ∧ j = 4) ∨ c = k + 6 ∨ c = k + 7) σ r.2) (a_nw A) ?_ ?_ (0 : Int32) σ ⟨rfl, by rw [mix0]; exact hP, FR.refl σ⟩ jFU (by unfold jFU; omega)
  · obtain ⟨⟨u, ρ⟩, ⟨hr1, hr2⟩, hr3⟩ := H
    refine ⟨jset ρ k 4 (nI (a_yr A + 1)), ?_, ?_, hr2.set (by omega)⟩
    · unfold f_X5_pass
      rw [show X5_pass_L2 k jFU (0 : Int32) σ = some (u, ρ) from hr3, jbd_eq, jlet_eq, hr1.1.2.2.2.1]
      show some (jset ρ k 4 (nI (a_yr A) + 1)) = _
      rw [nI_1]
    · refine hr1.dyn (a_yr A + 1, a_gt A, (fun w => a_ag A w + aLv A w), (fun w => kpN (a_kd A w) (a_sw A w) (a_yr A))) (fun c j q1 q2 q3 => jset_o (by omega)) jset_i ?_ (fun w hw => ?_)
      · rw [jset_o (by omega)]
        exact hr1.1.2.2.2.2.2.2
      · rw [jset_o (by omega), jset_o (by omega)]
        have := hr1.2.2 w hw
        refine ⟨this.2.2.1.trans ?_, this.2.2.2.trans ?_⟩
        · show nI (if w < a_nw A then a_ag (aYear A) w else a_ag A w) = _
          rw [if_pos (show w < a_nw A from hw)]
          rfl
        · show nI (if w < a_nw A then a_sw (aYear A) w else a_sw A w) = _
          rw [if_pos (show w < a_nw A from hw)]
          rfl
  · rintro i s τ hi ⟨rfl, h1, h2⟩
    have hM := mix_WF hW hBB i
    obtain ⟨m1, m2, m3⟩ := mix_at A (aYear A) i
    have hw := h1.2.2 i hi
    rw [m1, m2] at hw
    have hlt := np_lt hW (hW.2.2.2 i hi).2.2.2.2
    have hk := hW.2.2.2 i hi
    have hyr := hW.1.2.2.2.1
    rcases (show aLv A i = 0 ∨ aLv A i = 1 by have := aLv_le A i; omega) with z | z
    · refine ⟨nI (i + 1), jset τ (k + 7) i (nI (kpN (a_kd A i) (a_sw A i) (a_yr A))), ⟨rfl, ?_, h2.set (by omega)⟩, fun rec => ?_⟩
      · refine mix_c h1 (fun w hw' => ?_) (fun w hw' => jset_v _ _ _ _ _) (fun c j _ _ => jset_o (by omega))
        rw [jset_o (by omega)]
        by_cases q : w = i
        · subst q
          rw [if_pos rfl, hw.2.2.1]
          show _ = nI (a_ag A w + aLv A w)
          rw [z]
          rfl
        · rw [if_neg q]
      · show X5_pass_L2_b k rec (nI i) τ = _
        unfold X5_pass_L2_b
        rw [h1.1.2.2.2.2.2.1, if_neg (nle_ (by show i < a_nw A; omega) (by show a_nw A < _; omega)), alive_c h1 hM hi, jbd_eq, m3, z, jj_eq, if_pos (by decide)]
        dsimp only
        rw [jld_eq (by omega) (by omega), hw.1]
        show jldr 6 16 1 (nI (a_kd A i)) _ = _
        rw [jldr_eq (by omega) (by omega), jld_eq (by omega) (by omega), hw.2.2.2, h1.1.2.2.2.1]
        show jbd (vf_X10_keeps (16 + 1 * a_kd A i) (nI (a_sw A i)) (nI (a_yr A)) τ) _ = _
        rw [keeps_c hk.1 hk.2.1 (by omega) (by omega), jbd_eq, jst_eq (by omega) (by omega), nI_1]
    · refine ⟨nI (i + 1), jset (jset τ (k + 6) i (nI (a_ag A i + 1))) (k + 7) i (nI (kpN (a_kd A i) (a_sw A i) (a_yr A))), ⟨rfl, ?_, (h2.set (by omega)).set (by omega)⟩, fun rec => ?_⟩
      · refine mix_c h1 (fun w hw' => ?_) (fun w hw' => ?_) (fun c j _ _ => by rw [jset_o (by omega), jset_o (by omega)])
        · rw [jset_o (by omega), jset_v]
          show _ = if w = i then nI (a_ag A i + aLv A i) else _
          rw [z]
        · rw [jset_v, jset_o (a := k + 7) (k := k + 6) (by omega)]
          rfl
      · show X5_pass_L2_b k rec (nI i) τ = _
        unfold X5_pass_L2_b
        rw [h1.1.2.2.2.2.2.1, if_neg (nle_ (by show i < a_nw A; omega) (by show a_nw A < _; omega)), alive_c h1 hM hi, jbd_eq, m3, z, jj_eq, if_neg (by decide), jld_eq (by omega) (by omega), hw.2.2.1, nI_1, jst_eq (by omega) (by omega)]
        dsimp only
        rw [jld_eq (by omega) (by omega), jset_o (by omega), hw.1]
        show jldr 6 16 1 (nI (a_kd A i)) _ = _
        rw [jldr_eq (by omega) (by omega), jld_eq (by omega) (by omega), jset_o (by omega), hw.2.2.2, jset_o (by omega), h1.1.2.2.2.1]
        show jbd (vf_X10_keeps (16 + 1 * a_kd A i) (nI (a_sw A i)) (nI (a_yr A)) _) _ = _
        rw [keeps_c hk.1 hk.2.1 (by omega) (by omega), jbd_eq, jst_eq (by omega) (by omega), nI_1]
  · rintro s τ ⟨rfl, h1, h2⟩
    refine ⟨((), τ), ⟨h1, h2⟩, fun rec => ?_⟩
    show X5_pass_L2_b k rec (nI (a_nw A)) τ = _
    unfold X5_pass_L2_b
    rw [h1.1.2.2.2.2.2.1]
    exact if_pos (nI_le (Nat.le_refl (a_nw A)) (by omega))
theorem year_r {σ : jMem} {r : Nat} {A : aP} (hP : PR σ r 0 A) (hW : WF A) (hy : a_yr A < 1100) : ∃ σ', f_X12_year r σ = some σ' ∧ PR σ' r 0 (aYear A) ∧ FR (fun c j => c = r) σ σ' := by
  have hb := hW.b
  have hB := aYear_WF hW hy
  have hBB : ∀ w, w < a_nw A → a_ag (aYear A) w ≤ 100 ∧ a_sw (aYear A) w < 2 ^ a_np A := fun w hw => ⟨(hB.2.2.2 w hw).2.2.1, (hB.2.2.2 w hw).2.2.2.2⟩
  have H := jloop_inv (body := fun rec s σ => X12_year_L2_b r rec s σ) (fun i s τ => s = nI i ∧ PR τ r 0 (dy A (mixD A (aYear A) i)) ∧ FR (fun c j => c = r) σ τ) (fun q => PR q.2 r 0 (dy A (mixD A (aYear A) (a_nw A))) ∧ FR (fun c j => c = r) σ q.2) (a_nw A) ?_ ?_ (0 : Int32) σ ⟨rfl, by rw [mix0]; exact hP, FR.refl σ⟩ jFU (by unfold jFU; omega)
  · obtain ⟨⟨u, ρ⟩, ⟨hr1, hr2⟩, hr3⟩ := H
    refine ⟨jset ρ r 5 (nI (a_yr A + 1)), ?_, ?_, hr2.set rfl⟩
    · unfold f_X12_year
      rw [show X12_year_L2 r jFU (0 : Int32) σ = some (u, ρ) from hr3, jbd_eq, jldL_ (by omega) (by omega), jstL_ (by omega) (by omega), (hr1.f (o := 0)).2.2.2.2.2.1]
      show some (jset ρ r 5 (nI (a_yr A) + 1)) = _
      rw [nI_1]
    · refine hr1.dyn hb (a_yr A + 1, a_gt A, (fun w => a_ag A w + aLv A w), (fun w => kpN (a_kd A w) (a_sw A w) (a_yr A))) (fun j q1 q2 q3 => jset_o (by omega)) jset_i ?_ (fun w hw => ?_)
      · rw [jset_o (by omega)]
        exact hr1.1.2.2.2.2.2.2
      · rw [jset_o (by omega), jset_o (by omega), jset_o (by omega), jset_o (by omega)]
        have := hr1.2.2 w hw
        refine ⟨rfl, this.2.1.trans ?_, rfl, this.2.2.2.trans ?_⟩
        · show nI (if w < a_nw A then a_ag (aYear A) w else a_ag A w) = _
          rw [if_pos (show w < a_nw A from hw)]
          rfl
        · show nI (if w < a_nw A then a_sw (aYear A) w else a_sw A w) = _
          rw [if_pos (show w < a_nw A from hw)]
          rfl
  · rintro i s τ hi ⟨rfl, h1, h2⟩
    have hM := mix_WF hW hBB i
    obtain ⟨m1, m2, m3⟩ := mix_at A (aYear A) i
    have hw := h1.2.2 i hi
    rw [m1, m2] at hw
    simp only [Nat.zero_add] at hw
    change τ.1 r (43 + 4 * i) = nI (a_kd A i) ∧ _ at hw
    have hlt := np_lt hW (hW.2.2.2 i hi).2.2.2.2
    have hk := hW.2.2.2 i hi
    have hyr := hW.1.2.2.2.1
    have e3 : nI (a_yr A) - nI (a_yr A) / (3 : Int32) * (3 : Int32) = nI (a_yr A % 3) := pk_rem (d := 3) (by omega) (by omega) (by omega)
    have hf := h1.f (o := 0)
    have h5 : τ.1 r 5 = nI (a_yr A) := hf.2.2.2.2.2.1
    have h4 : τ.1 r 4 = nI (a_nw A) := hf.2.2.2.2.1
    refine ⟨nI (i + 1), jset (jset τ r (43 + 4 * i + 1) (nI (a_ag A i + aLv A i))) r (43 + 4 * i + 3) (nI (kpN (a_kd A i) (a_sw A i) (a_yr A))), ⟨rfl, ?_, (h2.set rfl).set rfl⟩, fun rec => ?_⟩
    · refine mix_r h1 hb (fun w hw' => ?_) (fun w hw' => ?_) (fun j _ => by rw [jset_o (by omega), jset_o (by omega)]) (fun w hw' => by rw [jset_o (by omega), jset_o (by omega), jset_o (by omega), jset_o (by omega)]; exact ⟨rfl, rfl⟩)
      · rw [jset_o (by omega), jset_v]
        by_cases q : w = i
        · rw [if_pos q, if_pos (by omega)]
          rfl
        · rw [if_neg q, if_neg (by omega)]
      · rw [jset_v]
        by_cases q : w = i
        · rw [if_pos q, if_pos (by omega)]
          rfl
        · rw [if_neg q, if_neg (by omega), jset_o (by omega)]
    · show X12_year_L2_b r rec (nI i) τ = _
      unfold X12_year_L2_b
      rw [jldL_ (by omega) (by omega), h4, if_neg (nle_ (by omega) (by omega)), jlet_eq, nI_Lmul, nI_Ladd, jlet_eq, nI_1, jld_eq (by omega) (by omega), hw.2.1, lives_r h1 hM hi, jbd_eq, m3, jj_eq]
      have go : ∀ q : Nat, q = aLv A i → (jst τ r 67 (nI (43 + 4 * i + 1)) (nI (a_ag A i) + nI q) (fun σ11 =>
          jld σ11 r 67 (nI (43 + 4 * i) + (3 : Int32)) (fun v12 =>
          jld σ11 r 67 (nI (43 + 4 * i)) (fun v13 =>
          jj (fun (q15 : Int32) σ16 =>
          jst σ16 r 67 (nI (43 + 4 * i) + (3 : Int32)) q15 (fun σ17 =>
          rec (nI i + 1) σ17)) (fun k14 =>
          jj (fun (q19 : Unit) σ20 =>
          jld σ20 r 67 (nI (43 + 4 * i)) (fun v21 =>
          if ¬ v21 = (5 : Int32) then
          k14 v12 σ20
        else
          k14 (v12 &&& (v12 - (1 : Int32))) σ20)) (fun k18 =>
          if ¬ v13 = (4 : Int32) then
          k18 () σ11
        else
          jld σ11 r 67 (5 : Int32) (fun v22 =>
          if ¬ (v22 - v22 / (3 : Int32) * (3 : Int32)) = (2 : Int32) then
          k18 () σ11
        else
          k14 (0 : Int32) σ11))))))) = rec (nI (i + 1)) (jset (jset τ r (43 + 4 * i + 1) (nI (a_ag A i + aLv A i))) r (43 + 4 * i + 3) (nI (kpN (a_kd A i) (a_sw A i) (a_yr A)))) := by
        rintro q rfl
        rw [nI_add, jst_eq (by omega) (by omega), nI_addL, jld_eq (by omega) (by omega), jset_o (by omega), hw.2.2.2, jld_eq (by omega) (by omega), jset_o (by omega), hw.1, jj_eq, jj_eq]
        dsimp only
        unfold kpN
        by_cases c4 : a_kd A i = 4
        · rw [if_neg (fun z => z (eqL_ c4)), jldL_ (by omega) (by omega), jset_o (by omega), h5, e3]
          by_cases c3 : a_yr A % 3 = 2
          · rw [if_neg (fun z => z (eqL_ c3)), if_pos ⟨c4, c3⟩, jst_eq (by omega) (by omega), nI_1]
            rfl
          · rw [if_pos (neL_ c3 (by omega) (by omega)), if_neg (fun z => c3 z.2), if_neg (by omega), jld_eq (by omega) (by omega), jset_o (by omega), hw.1, if_pos (neL_ (by omega) (by omega) (by omega)), jst_eq (by omega) (by omega), nI_1]
        · rw [if_pos (neL_ c4 (by omega) (by omega)), if_neg (fun z => c4 z.1), jld_eq (by omega) (by omega), jset_o (by omega), hw.1]
          by_cases c5 : a_kd A i = 5
          · rw [if_neg (fun z => z (eqL_ c5)), if_pos c5, and_pred _ (by omega), jst_eq (by omega) (by omega), nI_1]
          · rw [if_pos (neL_ c5 (by omega) (by omega)), if_neg c5, jst_eq (by omega) (by omega), nI_1]
      rcases (show aLv A i = 0 ∨ aLv A i = 1 by have := aLv_le A i; omega) with z | z
      · have := go 0 z.symm
        rw [z] at this ⊢
        rw [if_pos (by decide)]
        exact this
      · have := go 1 z.symm
        rw [z] at this ⊢
        rw [if_neg (by decide)]
        exact this
  · rintro s τ ⟨rfl, h1, h2⟩
    refine ⟨((), τ), ⟨h1, h2⟩, fun rec => ?_⟩
    show X12_year_L2_b r rec (nI (a_nw A)) τ = _
    unfold X12_year_L2_b
    have h4 : τ.1 r 4 = nI (a_nw A) := (h1.f (o := 0)).2.2.2.2.1
    rw [jldL_ (by omega) (by omega), h4, if_pos (nI_le (Nat.le_refl _) (by omega))]
