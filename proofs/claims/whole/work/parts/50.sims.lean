/-! ===== PURE: as, count, pairs ===== -/
def ofK (kd a : Nat) : Nat := if a = 0 ∨ kd = a ∨ (a = 1 ∧ kd < 4) ∨ (a = 4 ∧ kd = 5) then 1 else 0
theorem ofKind_c {kd a : Nat} (h1 : 1 ≤ kd) (h2 : kd ≤ 5) (h3 : a < 6) (σ : jMem) : f_X11_isOfKind (16 + 1 * kd) (nI a) σ = some (nI (ofK kd a), σ) := by
  rcases (show kd = 1 ∨ kd = 2 ∨ kd = 3 ∨ kd = 4 ∨ kd = 5 by omega) with rfl | rfl | rfl | rfl | rfl <;>
  rcases (show a = 0 ∨ a = 1 ∨ a = 2 ∨ a = 3 ∨ a = 4 ∨ a = 5 by omega) with rfl | rfl | rfl | rfl | rfl | rfl <;> rfl
theorem ofKind_r {kd a : Nat} (h1 : 1 ≤ kd) (h2 : kd ≤ 5) (h3 : a < 6) (σ : jMem) : f_X12_isOf (nI kd) (nI a) σ = some (nI (ofK kd a), σ) := by
  rcases (show kd = 1 ∨ kd = 2 ∨ kd = 3 ∨ kd = 4 ∨ kd = 5 by omega) with rfl | rfl | rfl | rfl | rfl <;>
  rcases (show a = 0 ∨ a = 1 ∨ a = 2 ∨ a = 3 ∨ a = 4 ∨ a = 5 by omega) with rfl | rfl | rfl | rfl | rfl | rfl <;> rfl
theorem ofK_le (kd a : Nat) : ofK kd a ≤ 1 := by unfold ofK; split <;> omega
theorem found_c (f : Int32) (σ : jMem) : f_X11_found f σ = some ((-1000010 : Int32) - f, jset σ 0 12 f) := rfl
theorem unfound_c (v : Int32) (σ : jMem) : f_X11_unfound v σ = some (v, jset σ 0 12 0) := rfl
theorem found_r (f : Int32) (σ : jMem) : f_X12_finding f σ = some ((-1000010 : Int32) - f, jset σ 89 1 f) := rfl
theorem PC.t0 {σ : jMem} {k : Nat} {A : aP} (h : PC σ k A) (hk : k + 7 < 89) (j : Nat) (v : Int32) : PC (jset σ 89 j v) k A := h.congr (fun c i _ _ => jset_o (by omega))
theorem PR.o {σ : jMem} {r o : Nat} {A : aP} (h : PR σ r o A) (hW : WF A) {c : Nat} (hr : r ≠ c) (j : Nat) (v : Int32) : PR (jset σ c j v) r o A := h.congr (r' := r) (o' := o) hW.b (fun i _ => jset_o (by omega))
theorem PC.o {σ : jMem} {k : Nat} {A : aP} (h : PC σ k A) {c : Nat} (hk : c < k ∨ k + 7 < c) (j : Nat) (v : Int32) : PC (jset σ c j v) k A := h.congr (fun c i _ _ => jset_o (by omega))
theorem sim_as_ok : sim_as Inv := by
  rintro σ a1 a2 ⟨A, h⟩
  have hb := h.W.b
  have h' := h.t0
  rcases hasWit_c h.C h.W a1 with ⟨w, hw, rfl, e⟩ | ⟨ho, e⟩
  · have hin := inN ⟨w, hw, rfl⟩ (by omega)
    obtain ⟨k1, k2, _⟩ := h.W.2.2.2 w hw
    rcases pI_split a2 6 (by omega) with ⟨a, ha, rfl⟩ | hx
    · have e1 : f_X11_as (nI w) (nI a) σ = if nI (ofK (a_kd A w) a) = 0 then some ((-1000010 : Int32) - 3, jset σ 0 12 3) else some (nI w, jset σ 0 12 0) := by
        unfold f_X11_as
        rw [e, jbd_eq, if_neg (by decide), if_neg (ltL_ (by omega) (by omega)), if_pos (ltL (by omega) (by omega)), jld_eq (by omega) (by omega), (h.C.2.2 w hw).1, jldr_eq (by omega) (by omega), ofKind_c k1 k2 ha, jbd_eq]
        rfl
      have e2 : ∀ τ : jMem, PR τ 93 0 A → f_X12_as (nI w) (nI a) τ = if nI (ofK (a_kd A w) a) = 0 then some ((-1000010 : Int32) - 3, jset (jset (jset τ 89 0 0) 89 1 0) 89 1 3) else some (nI w, jset (jset τ 89 0 0) 89 1 0) := by
        intro τ hτ
        have hτ' := (hτ.o h.W (c := 89) (by omega) 0 0)
        unfold f_X12_as
        rw [jlet_eq, isWit_r hτ' h.W, if_pos hin, jbd_eq, if_neg (by decide)]
        simp only [nlitL]
        rw [in_lit _ _ _ (by omega) (by omega), nI_toInt (by omega), if_pos (by omega), jbd_eq, if_pos (by decide), jlet_eq]
        have hτ2 := (hτ'.o h.W (c := 89) (by omega) 1 0)
        have e4 : f_X12_of 93 (nI w) (0 : Int32) (jset (jset τ 89 0 0) 89 1 0) = some (nI (a_kd A w), jset (jset τ 89 0 0) 89 1 0) := of_k hτ2 h.W hw
        show jbd (f_X12_of 93 (nI w) (0 : Int32) (jset (jset τ 89 0 0) 89 1 0)) _ = _
        rw [e4, jbd_eq, ofKind_r k1 k2 ha, jbd_eq]
        rfl
      have hz := ofK_le (a_kd A w) a
      rcases (show ofK (a_kd A w) a = 0 ∨ ofK (a_kd A w) a = 1 by omega) with z | z
      · refine ⟨_, _, _, by rw [e1, z, if_pos (by decide)], by rw [e2 _ (h.R.o h.W (c := 0) (by omega) 12 3), z, if_pos (by decide)], A, ?_⟩
        rw [jset_same, jset_comm0 _ 0 12 89 0 _ _ (by omega)]
        exact h.found 3 ((sEq.refl σ).set scr0)
      · refine ⟨_, _, _, by rw [e1, z, if_neg (by decide)], by rw [e2 _ (h.R.o h.W (c := 0) (by omega) 12 0), z, if_neg (by decide)], A, ?_⟩
        rw [jset_comm0 _ 0 12 89 0 _ _ (by omega)]
        exact h.found 0 ((sEq.refl σ).set scr0)
    · refine ⟨-1000001, σ, jset σ 89 0 0, ?_, ?_, h.bad⟩
      · unfold f_X11_as
        rw [e, jbd_eq, if_neg (by decide)]
        rcases hx with q | q
        · rw [if_pos ((pI_lt _ _).mpr q)]
        · rw [if_neg (fun z => by rw [pI_lt, i32_0] at z; omega), if_neg (fun z => by rw [pI_lt] at z; change _ < (6 : Int) at z; omega)]
      · unfold f_X12_as
        rw [jlet_eq, isWit_r h'.R h.W, if_pos hin, jbd_eq, if_neg (by decide)]
        simp only [nlitL]
        rw [in_lit _ _ _ (by omega) (by omega), if_neg (by omega), jbd_eq, if_neg (by decide)]
  · refine ⟨-1000001, σ, jset σ 89 0 0, ?_, ?_, h.bad⟩
    · unfold f_X11_as
      rw [e]
      rfl
    · unfold f_X12_as
      rw [jlet_eq, isWit_r h'.R h.W, if_neg (by omega)]
      rfl
theorem stand_spec {σ : jMem} (h : RRows σ) : ∃ n : Int32, f_X6_standing σ = some (n, σ) ∧ X12_count_L58 jFU ((0 : Int32), (0 : Int32)) (jset σ 89 0 0) = some (n, jset σ 89 0 0) := by
  have hg : ∃ g : Nat → Nat, ∀ r, r < 8 → (g r = 0 ∧ σ.1 12 r = -1 ∧ σ.1 90 r = -1) ∨ (g r = 1 ∧ ∃ n l, n ≤ 40 ∧ l ≤ 2 ∧ σ.1 12 r = nI n ∧ σ.1 90 r = nI l) := by
    refine ⟨fun r => if σ.1 12 r = -1 then 0 else 1, fun r hr => ?_⟩
    rcases h r hr with ⟨h1, h2⟩ | ⟨n, l, h1, h2, h3, h4, h5, h6, h7⟩
    · left
      exact ⟨if_pos h1, h1, h2⟩
    · right
      exact ⟨if_neg (by rw [h3]; exact nI_ne_m1 (by omega)), n, l, h1, h2, h3, h6⟩
  obtain ⟨g, hg⟩ := hg
  refine ⟨nI (smN g 8), ?_, ?_⟩
  · unfold f_X6_standing
    have : X6_standing_L4 jFU ((0 : Int32), (0 : Int32)) σ = some (nI (smN g 8), σ) := by
      refine jloop_run (body := fun rec s9 σ => X6_standing_L4_b rec s9.1 s9.2 σ) (fun i => (nI (smN g i), nI i)) (fun _ => σ) 8 _ ?_ ?_ jFU (by unfold jFU; omega)
      · intro i hi rec
        show X6_standing_L4_b rec (nI (smN g i)) (nI i) σ = _
        unfold X6_standing_L4_b
        rw [if_neg (Lle_ (by omega) (by omega))]
        rcases hg i hi with ⟨g0, g1, g2⟩ | ⟨g0, n, l, g1, g2, g3, g4⟩
        · rw [missing_y hi g1, jbd_eq, if_pos (by decide), nI_1]
          simp only [smN, g0, Nat.add_zero]
        · rw [missing_n hi g1 g3, jbd_eq, if_neg (by decide), nI_1, nI_1]
          simp only [smN, g0]
      · intro rec
        rfl
    rw [this]
    rfl
  · refine jloop_run (body := fun rec s9 σ => X12_count_L58_b rec s9.1 s9.2 σ) (fun i => (nI (smN g i), nI i)) (fun _ => jset σ 89 0 0) 8 _ ?_ ?_ jFU (by unfold jFU; omega)
    · intro i hi rec
      show X12_count_L58_b rec (nI (smN g i)) (nI i) (jset σ 89 0 0) = _
      unfold X12_count_L58_b
      rw [if_neg (Lle_ (by omega) (by omega)), jld_eq (by omega) (by omega), jset_o (by omega)]
      rcases hg i hi with ⟨g0, g1, g2⟩ | ⟨g0, n, l, g1, g2, g3, g4⟩
      · rw [g2, if_pos (by decide), jlet_eq, Int32.add_zero, nI_1]
        simp only [smN, g0, Nat.add_zero]
      · rw [g4, if_neg (ltL_ (by omega) (by omega)), jlet_eq, nI_1, nI_1]
        simp only [smN, g0]
    · intro rec
      rfl
theorem sim_count_ok : sim_count Inv := by
  rintro σ a1 ⟨A, h⟩
  have hb := h.W.b
  have h' := h.t0
  have hr := h'.R.f (o := 0)
  suffices H : ∃ r, f_X11_count a1 σ = some (r, σ) ∧ f_X12_count a1 σ = some (r, jset σ 89 0 0) by
    obtain ⟨r, e1, e2⟩ := H
    exact ⟨r, σ, _, e1, e2, h.bad⟩
  unfold f_X11_count f_X12_count
  simp only [jlet_eq]
  by_cases c0 : a1 = 0
  · obtain ⟨n, e1, e2⟩ := stand_spec h.1
    refine ⟨n, ?_, ?_⟩
    · rw [if_pos c0, e1]
      rfl
    · rw [if_pos c0, e2]
      rfl
  simp only [if_neg c0]
  by_cases c1 : a1 = 1
  · refine ⟨nI (a_np A), ?_, ?_⟩
    · rw [if_pos c1, h.C.1.2.2.2.2.1]
    · rw [if_pos c1, show (3 : Int32) = nI 3 from rfl, jld_eq (by omega) (by omega), hr.2.2.2.1]
  simp only [if_neg c1]
  by_cases c2 : a1 = 2
  · refine ⟨nI (a_nw A), ?_, ?_⟩
    · rw [if_pos c2, h.C.1.2.2.2.2.2.1]
    · rw [if_pos c2, show (4 : Int32) = nI 4 from rfl, jld_eq (by omega) (by omega), hr.2.2.2.2.1]
  simp only [if_neg c2]
  by_cases c3 : a1 = 3
  · refine ⟨nI (a_yr A), ?_, ?_⟩
    · rw [if_pos c3, h.C.1.2.2.2.1]
    · rw [if_pos c3, show (5 : Int32) = nI 5 from rfl, jld_eq (by omega) (by omega), hr.2.2.2.2.2.1]
  simp only [if_neg c3]
  by_cases c4 : a1 = 4
  · have hlt := np_lt h.W (aWays_lt h.W)
    refine ⟨nI (popc (aWays A)), ?_, ?_⟩
    · rw [if_pos c4, ways_c h.C h.W, jbd_eq, bc_spec hlt]
      rfl
    · rw [if_pos c4, ways_r h'.R h.W, jbd_eq, bits_spec (by omega)]
      rfl
  simp only [if_neg c4]
  by_cases c5 : a1 = 5
  · refine ⟨nI (a_lv A), ?_, ?_⟩
    · rw [if_pos c5, h.C.1.2.2.1]
    · rw [if_pos c5, show (2 : Int32) = nI 2 from rfl, jld_eq (by omega) (by omega), hr.2.2.1]
  simp only [if_neg c5]
  by_cases c6 : a1 = 6
  · obtain ⟨m, p, m1, m2, m3, m4, m5, m6⟩ := h.2.2.2.1
    refine ⟨nI m, ?_, ?_⟩
    · rw [if_pos c6, m3]
    · rw [if_pos c6, jset_o (by omega), m5]
  simp only [if_neg c6]
  by_cases c7 : a1 = 7
  · obtain ⟨_, m, m1, m2, m3, m4⟩ := h.2.1
    refine ⟨nI m, ?_, ?_⟩
    · rw [if_pos c7, m2]
    · rw [if_pos c7, jset_o (by omega), m3]
  simp only [if_neg c7]
  exact ⟨_, rfl, rfl⟩
def prN (A : aP) (w i : Nat) : Nat := if aSw A w ≠ 0 ∧ aSw A w = aSw A (w + 1 + i) then 1 else 0
theorem prI_c {σ : jMem} {A : aP} (hP : PC σ 22 A) (hW : WF A) {w : Nat} (hw : w < a_nw A) (c : Nat) : X11_pairs_L42 (nI w) (nI (aSw A w)) jFU (nI c, nI (w + 1)) σ = some (nI (c + smN (prN A w) (a_nw A - (w + 1))), σ) := by
  have hb := hW.b
  have hlt := np_lt hW (aSw_lt hW hw)
  by_cases z : aSw A w = 0
  · have e0 : smN (prN A w) (a_nw A - (w + 1)) = 0 := by
      have := smN_le (g := prN A w) (b := 0) (n := a_nw A - (w + 1)) (fun i _ => by unfold prN; rw [if_neg (fun q => q.1 z)]; exact Nat.le_refl 0)
      omega
    rw [e0, z]
    show X11_pairs_L42_b (nI w) (nI 0) (X11_pairs_L42 (nI w) (nI 0) (jFU - 1)) (nI c) (nI (w + 1)) σ = _
    unfold X11_pairs_L42_b
    rw [if_pos (show nI 0 = 0 from rfl)]
    exact ite_self _
  · refine jloop_run (body := fun rec s9 σ => X11_pairs_L42_b (nI w) (nI (aSw A w)) rec s9.1 s9.2 σ) (fun i => (nI (c + smN (prN A w) i), nI (w + 1 + i))) (fun _ => σ) (a_nw A - (w + 1)) _ ?_ ?_ jFU (by unfold jFU; omega)
    · intro i hi rec
      have hlt2 := np_lt hW (aSw_lt hW (w := w + 1 + i) (by omega))
      show X11_pairs_L42_b (nI w) (nI (aSw A w)) rec (nI (c + smN (prN A w) i)) (nI (w + 1 + i)) σ = _
      unfold X11_pairs_L42_b
      rw [hP.1.2.2.2.2.2.1, if_neg (fun q => absurd ((nI_leI (by omega) (by omega)).mp q) (by omega)), if_neg (neL_ z (by omega) (by omega)), swears_c hP hW (by omega), jbd_eq]
      by_cases q : aSw A w = aSw A (w + 1 + i)
      · rw [if_neg (fun h => h (by rw [q])), nI_1, nI_1]
        simp only [smN, prN]
        rw [if_pos ⟨z, q⟩]
        rfl
      · rw [if_pos (fun h => q ((nI_eq (by omega) (by omega)).mp h).symm), nI_1]
        simp only [smN, prN]
        rw [if_neg (fun h => q h.2)]
        rfl
    · intro rec
      show X11_pairs_L42_b (nI w) (nI (aSw A w)) rec (nI (c + smN (prN A w) (a_nw A - (w + 1)))) (nI (w + 1 + (a_nw A - (w + 1)))) σ = _
      unfold X11_pairs_L42_b
      rw [hP.1.2.2.2.2.2.1, if_pos (nI_le (by omega) (by omega))]
theorem prI_r {σ : jMem} {A : aP} (hP : PR σ 93 0 A) (hW : WF A) {w : Nat} (hw : w < a_nw A) (c : Nat) : X12_pairs_L33 (nI w) jFU (nI c, nI (w + 1)) σ = some (nI (c + smN (prN A w) (a_nw A - (w + 1))), σ) := by
  have hb := hW.b
  have hlt := np_lt hW (aSw_lt hW hw)
  refine jloop_run (body := fun rec s9 σ => X12_pairs_L33_b (nI w) rec s9.1 s9.2 σ) (fun i => (nI (c + smN (prN A w) i), nI (w + 1 + i))) (fun _ => σ) (a_nw A - (w + 1)) _ ?_ ?_ jFU (by unfold jFU; omega)
  · intro i hi rec
    have hlt2 := np_lt hW (aSw_lt hW (w := w + 1 + i) (by omega))
    show X12_pairs_L33_b (nI w) rec (nI (c + smN (prN A w) i)) (nI (w + 1 + i)) σ = _
    unfold X12_pairs_L33_b
    rw [show (4 : Int32) = nI 4 from rfl, jld_eq (by omega) (by omega), (hP.f (o := 0)).2.2.2.2.1, if_neg (fun q => absurd ((nI_leI (by omega) (by omega)).mp q) (by omega)), swears_r hP hW hw, jbd_eq]
    by_cases z : aSw A w = 0
    · rw [z, if_pos (show nI 0 = 0 from rfl), jlet_eq, Int32.add_zero, nI_1]
      simp only [smN, prN]
      rw [if_neg (fun h => h.1 z)]
      rfl
    · rw [if_neg (neL_ z (by omega) (by omega)), swears_r hP hW hw, jbd_eq, swears_r hP hW (w := w + 1 + i) (by omega), jbd_eq]
      by_cases q : aSw A w = aSw A (w + 1 + i)
      · rw [if_neg (fun h => h (by rw [q])), jlet_eq, nI_1, nI_1]
        simp only [smN, prN]
        rw [if_pos ⟨z, q⟩]
        rfl
      · rw [if_pos (fun h => q ((nI_eq (by omega) (by omega)).mp h)), jlet_eq, Int32.add_zero, nI_1]
        simp only [smN, prN]
        rw [if_neg (fun h => q h.2)]
        rfl
  · intro rec
    show X12_pairs_L33_b (nI w) rec (nI (c + smN (prN A w) (a_nw A - (w + 1)))) (nI (w + 1 + (a_nw A - (w + 1)))) σ = _
    unfold X12_pairs_L33_b
    rw [show (4 : Int32) = nI 4 from rfl, jld_eq (by omega) (by omega), (hP.f (o := 0)).2.2.2.2.1, if_pos (nI_le (by omega) (by omega))]
theorem sim_pairs_ok : sim_pairs Inv := by
  rintro σ ⟨A, h⟩
  have hb := h.W.b
  have h' := h.t0
  have t1 := h.W.1.1
  rcases (show a_th A = 0 ∨ a_th A = 1 by omega) with t | t
  · refine ⟨-1000002, σ, jset σ 89 0 0, ?_, ?_, h.bad⟩
    · unfold f_X11_pairs
      rw [h.C.1.1, t, if_neg (by decide)]
    · unfold f_X12_pairs
      rw [jlet_eq, there_r h'.R h.W, t]
      rfl
  · have ec : ¬ σ.1 22 1 = 0 := by rw [h.C.1.1, t]; decide
    have er := there_r h'.R h.W
    rw [t] at er
    refine ⟨nI (smN (fun w => smN (prN A w) (a_nw A - (w + 1))) (a_nw A)), σ, jset σ 89 0 0, ?_, ?_, h.bad⟩
    · unfold f_X11_pairs
      rw [if_pos ec]
      have : X11_pairs_L17 jFU ((0 : Int32), (0 : Int32)) σ = some (nI (smN (fun w => smN (prN A w) (a_nw A - (w + 1))) (a_nw A)), σ) := by
        refine jloop_run (body := fun rec s9 σ => X11_pairs_L17_b rec s9.1 s9.2 σ) (fun i => (nI (smN (fun w => smN (prN A w) (a_nw A - (w + 1))) i), nI i)) (fun _ => σ) (a_nw A) _ ?_ ?_ jFU (by unfold jFU; omega)
        · intro i hi rec
          show X11_pairs_L17_b rec (nI (smN (fun w => smN (prN A w) (a_nw A - (w + 1))) i)) (nI i) σ = _
          unfold X11_pairs_L17_b
          rw [h.C.1.2.2.2.2.2.1, if_neg (fun q => absurd ((nI_leI (by omega) (by omega)).mp q) (by omega)), swears_c h.C h.W hi, jbd_eq, jlet_eq, nI_1, prI_c h.C h.W hi, jbd_eq]
          rfl
        · intro rec
          show X11_pairs_L17_b rec _ (nI (a_nw A)) σ = _
          unfold X11_pairs_L17_b
          rw [h.C.1.2.2.2.2.2.1, if_pos (nI_le (by omega) (by omega))]
      rw [this]
      rfl
    · unfold f_X12_pairs
      rw [jlet_eq, er, jbd_eq, if_pos (by decide)]
      have : X12_pairs_L19 jFU ((0 : Int32), (0 : Int32)) (jset σ 89 0 0) = some (nI (smN (fun w => smN (prN A w) (a_nw A - (w + 1))) (a_nw A)), jset σ 89 0 0) := by
        refine jloop_run (body := fun rec s9 σ => X12_pairs_L19_b rec s9.1 s9.2 σ) (fun i => (nI (smN (fun w => smN (prN A w) (a_nw A - (w + 1))) i), nI i)) (fun _ => jset σ 89 0 0) (a_nw A) _ ?_ ?_ jFU (by unfold jFU; omega)
        · intro i hi rec
          show X12_pairs_L19_b rec (nI (smN (fun w => smN (prN A w) (a_nw A - (w + 1))) i)) (nI i) (jset σ 89 0 0) = _
          unfold X12_pairs_L19_b
          rw [show (4 : Int32) = nI 4 from rfl, jld_eq (by omega) (by omega), (h'.R.f (o := 0)).2.2.2.2.1, if_neg (fun q => absurd ((nI_leI (by omega) (by omega)).mp q) (by omega)), jlet_eq, nI_1, prI_r h'.R h.W hi, jbd_eq]
          rfl
        · intro rec
          show X12_pairs_L19_b rec _ (nI (a_nw A)) (jset σ 89 0 0) = _
          unfold X12_pairs_L19_b
          rw [show (4 : Int32) = nI 4 from rfl, jld_eq (by omega) (by omega), (h'.R.f (o := 0)).2.2.2.2.1, if_pos (nI_le (by omega) (by omega))]
      rw [this]
      rfl
