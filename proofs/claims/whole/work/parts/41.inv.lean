/-! ===== PURE: a parish as numbers; the invariant ===== -/
/-- th church lives year paths witnesses gates; pa pb pl; kind age home saw -/
abbrev aP : Type := (Nat × Nat × Nat × Nat × Nat × Nat × Nat) × (Nat → Nat) × (Nat → Nat) × (Nat → Nat) × (Nat → Nat) × (Nat → Nat) × (Nat → Nat) × (Nat → Nat)
abbrev a_th (A : aP) : Nat := A.1.1
abbrev a_ch (A : aP) : Nat := A.1.2.1
abbrev a_lv (A : aP) : Nat := A.1.2.2.1
abbrev a_yr (A : aP) : Nat := A.1.2.2.2.1
abbrev a_np (A : aP) : Nat := A.1.2.2.2.2.1
abbrev a_nw (A : aP) : Nat := A.1.2.2.2.2.2.1
abbrev a_gt (A : aP) : Nat := A.1.2.2.2.2.2.2
abbrev a_pa (A : aP) : Nat → Nat := A.2.1
abbrev a_pb (A : aP) : Nat → Nat := A.2.2.1
abbrev a_pl (A : aP) : Nat → Nat := A.2.2.2.1
abbrev a_kd (A : aP) : Nat → Nat := A.2.2.2.2.1
abbrev a_ag (A : aP) : Nat → Nat := A.2.2.2.2.2.1
abbrev a_hm (A : aP) : Nat → Nat := A.2.2.2.2.2.2.1
abbrev a_sw (A : aP) : Nat → Nat := A.2.2.2.2.2.2.2
/-- what an act may change -/
def a_dyn (A : aP) (yr gt : Nat) (ag sw : Nat → Nat) : aP := ((a_th A, a_ch A, a_lv A, yr, a_np A, a_nw A, gt), a_pa A, a_pb A, a_pl A, a_kd A, ag, a_hm A, sw)
/-- the class's parish at the cell k -/
def PC (σ : jMem) (k : Nat) (A : aP) : Prop :=
  (σ.1 k 1 = nI (a_th A) ∧ σ.1 k 2 = nI (a_ch A) ∧ σ.1 k 3 = nI (a_lv A) ∧ σ.1 k 4 = nI (a_yr A) ∧ σ.1 k 5 = nI (a_np A) ∧ σ.1 k 6 = nI (a_nw A) ∧ σ.1 k 7 = nI (a_gt A)) ∧
  (∀ i, i < a_np A → σ.1 (k + 1) i = nI (a_pa A i) ∧ σ.1 (k + 2) i = nI (a_pb A i) ∧ σ.1 (k + 3) i = nI (a_pl A i)) ∧
  (∀ w, w < a_nw A → σ.1 (k + 4) w = nI (a_kd A w) ∧ σ.1 (k + 5) w = nI (a_hm A w) ∧ σ.1 (k + 6) w = nI (a_ag A w) ∧ σ.1 (k + 7) w = nI (a_sw A w))
/-- the reference's parish in the row r, from o on -/
def PR (σ : jMem) (r o : Nat) (A : aP) : Prop :=
  (σ.1 r o = nI (a_th A) ∧ σ.1 r (o + 1) = nI (a_ch A) ∧ σ.1 r (o + 2) = nI (a_lv A) ∧ σ.1 r (o + 3) = nI (a_np A) ∧ σ.1 r (o + 4) = nI (a_nw A) ∧ σ.1 r (o + 5) = nI (a_yr A) ∧ σ.1 r (o + 6) = nI (a_gt A)) ∧
  (∀ i, i < a_np A → σ.1 r (o + 7 + 3 * i) = nI (a_pa A i) ∧ σ.1 r (o + 7 + 3 * i + 1) = nI (a_pb A i) ∧ σ.1 r (o + 7 + 3 * i + 2) = nI (a_pl A i)) ∧
  (∀ w, w < a_nw A → σ.1 r (o + 43 + 4 * w) = nI (a_kd A w) ∧ σ.1 r (o + 43 + 4 * w + 1) = nI (a_ag A w) ∧ σ.1 r (o + 43 + 4 * w + 2) = nI (a_hm A w) ∧ σ.1 r (o + 43 + 4 * w + 3) = nI (a_sw A w))
def WF (A : aP) : Prop :=
  (a_th A ≤ 1 ∧ a_ch A < 8 ∧ a_lv A ≤ 90 ∧ a_yr A ≤ 1100 ∧ a_np A ≤ 12 ∧ a_nw A ≤ 6 ∧ a_gt A < 2 ^ a_np A) ∧
  (∀ i, i < a_np A → a_pa A i < 8 ∧ a_pb A i < 8 ∧ a_pa A i ≠ a_pb A i ∧ 1 ≤ a_pl A i ∧ a_pl A i ≤ 9) ∧
  (∀ i j, i < a_np A → j < a_np A → i ≠ j → ¬ ((a_pa A i = a_pa A j ∧ a_pb A i = a_pb A j) ∨ (a_pa A i = a_pb A j ∧ a_pb A i = a_pa A j))) ∧
  (∀ w, w < a_nw A → 1 ≤ a_kd A w ∧ a_kd A w ≤ 5 ∧ a_ag A w ≤ 100 ∧ a_hm A w < 8 ∧ a_sw A w < 2 ^ a_np A)
/-- a row -/
def RRow (σ : jMem) (r : Nat) : Prop :=
  (σ.1 12 r = -1 ∧ σ.1 90 r = -1) ∨
  ∃ n l, n ≤ 40 ∧ l ≤ 2 ∧ σ.1 12 r = nI n ∧ σ.1 91 r = nI n ∧ σ.1 11 r = nI l ∧ σ.1 90 r = nI l ∧ ∀ i, i < n → σ.1 (3 + r) i = σ.1 92 (40 * r + i)
def RRows (σ : jMem) : Prop := ∀ r, r < 8 → RRow σ r
def RTape (σ : jMem) : Prop := σ.1 13 2 = σ.1 89 18 ∧ ∃ n, n ≤ 140 ∧ σ.1 13 1 = nI n ∧ σ.1 89 11 = nI n ∧ ∀ i, i < n → ∃ c, c < 256 ∧ σ.1 14 i = nI c ∧ σ.1 97 i = nI c
def RAct (σ : jMem) (A : aP) (c o yr gt : Nat) (ag sw : Nat → Nat) : Prop :=
  σ.1 c 0 = nI yr ∧ σ.1 c 1 = nI gt ∧ (∀ w, w < a_nw A → σ.1 c (2 + w) = nI (ag w) ∧ σ.1 c (8 + w) = nI (sw w)) ∧ PR σ 96 o (a_dyn A yr gt ag sw) ∧ WF (a_dyn A yr gt ag sw)
def RActs (σ : jMem) (A : aP) : Prop := ∃ m p, m ≤ 24 ∧ p < 24 ∧ σ.1 0 7 = nI m ∧ σ.1 0 8 = nI p ∧ σ.1 89 9 = nI m ∧ ∀ j, j < m → ∃ yr gt ag sw, yr ≤ 999 ∧ RAct σ A (56 + (p + 24 - m + j) % 24) (67 * j) yr gt ag sw
def RImg (σ : jMem) (j : Nat) : Prop := (σ.1 (38 + 8 * j) 1 = 0 ∧ σ.1 99 j = 0) ∨ ∃ A, WF A ∧ a_th A = 1 ∧ a_yr A ≤ 999 ∧ PC σ (38 + 8 * j) A ∧ PR σ 100 (67 * j) A ∧ σ.1 99 j = 1
def RTrace (σ : jMem) : Prop := ∃ n, n ≤ 16 ∧ σ.1 86 3 = nI n ∧ σ.1 89 26 = nI n ∧ ∀ i, i < n → σ.1 87 i = σ.1 101 i
def RTens (σ : jMem) : Prop := ∀ n, n ≤ 12 → σ.2 84 n = lN (10 ^ n)
def RInv (σ : jMem) (A : aP) : Prop := RRows σ ∧ RTape σ ∧ (WF A ∧ a_yr A ≤ 999 ∧ PC σ 22 A ∧ PR σ 93 0 A) ∧ RActs σ A ∧ (∀ j, j < 2 → RImg σ j) ∧ RTrace σ ∧ σ.1 0 12 = σ.1 89 1 ∧ RTens σ
def Inv (σ : jMem) : Prop := ∃ A, RInv σ A
/-- what nobody sees -/
def scr (c j : Nat) : Prop := (30 ≤ c ∧ c ≤ 37) ∨ (80 ≤ c ∧ c ≤ 83) ∨ c = 85 ∨ c = 88 ∨ c = 94 ∨ c = 95 ∨ c = 98 ∨ (c = 13 ∧ 3 ≤ j) ∨ (c = 86 ∧ j ≤ 2) ∨ (c = 89 ∧ (j = 0 ∨ (12 ≤ j ∧ j ≤ 17) ∨ (20 ≤ j ∧ j ≤ 22)))
def sEq (σ σ' : jMem) : Prop := (∀ c j, ¬ scr c j → σ'.1 c j = σ.1 c j) ∧ ∀ n, σ'.2 84 n = σ.2 84 n
theorem sEq.refl (σ : jMem) : sEq σ σ := ⟨fun _ _ _ => rfl, fun _ => rfl⟩
theorem sEq.trans {σ τ ρ : jMem} (h1 : sEq σ τ) (h2 : sEq τ ρ) : sEq σ ρ := ⟨fun c j h => (h2.1 c j h).trans (h1.1 c j h), fun n => (h2.2 n).trans (h1.2 n)⟩
theorem sEq.set {σ τ : jMem} (h : sEq σ τ) {k j : Nat} {v : Int32} (hs : scr k j) : sEq σ (jset τ k j v) := by
  refine ⟨fun c i hc => ?_, h.2⟩
  rw [jset_app, if_neg]
  · exact h.1 c i hc
  · rintro ⟨rfl, rfl⟩
    exact hc hs
theorem sEq.setL {σ τ : jMem} (h : sEq σ τ) {k j : Nat} {v : Int64} (hs : k ≠ 84) : sEq σ (jsetL τ k j v) := by
  refine ⟨h.1, fun n => ?_⟩
  rw [jsetL_app2, if_neg (fun q => hs q.1.symm)]
  exact h.2 n
theorem sEq.cpy {σ τ : jMem} (h : sEq σ τ) {a sp b dp n : Nat} (hs : ∀ j, dp ≤ j → j < dp + n → scr b j) : sEq σ (jcpy τ a sp b dp n) := by
  refine ⟨fun c i hc => ?_, h.2⟩
  rw [jcpy_app, if_neg]
  · exact h.1 c i hc
  · rintro ⟨rfl, h1, h2⟩
    exact hc (hs i h1 h2)
theorem PC.congr {σ σ' : jMem} {k : Nat} {A : aP} (h : PC σ k A) (e : ∀ c j, k ≤ c → c ≤ k + 7 → σ'.1 c j = σ.1 c j) : PC σ' k A := by
  obtain ⟨⟨h1, h2, h3, h4, h5, h6, h7⟩, hp, hw⟩ := h
  refine ⟨⟨?_, ?_, ?_, ?_, ?_, ?_, ?_⟩, fun i hi => ⟨?_, ?_, ?_⟩, fun w hw' => ⟨?_, ?_, ?_, ?_⟩⟩
  · rw [e k 1 (by omega) (by omega)]; exact h1
  · rw [e k 2 (by omega) (by omega)]; exact h2
  · rw [e k 3 (by omega) (by omega)]; exact h3
  · rw [e k 4 (by omega) (by omega)]; exact h4
  · rw [e k 5 (by omega) (by omega)]; exact h5
  · rw [e k 6 (by omega) (by omega)]; exact h6
  · rw [e k 7 (by omega) (by omega)]; exact h7
  · rw [e (k + 1) i (by omega) (by omega)]; exact (hp i hi).1
  · rw [e (k + 2) i (by omega) (by omega)]; exact (hp i hi).2.1
  · rw [e (k + 3) i (by omega) (by omega)]; exact (hp i hi).2.2
  · rw [e (k + 4) w (by omega) (by omega)]; exact (hw w hw').1
  · rw [e (k + 5) w (by omega) (by omega)]; exact (hw w hw').2.1
  · rw [e (k + 6) w (by omega) (by omega)]; exact (hw w hw').2.2.1
  · rw [e (k + 7) w (by omega) (by omega)]; exact (hw w hw').2.2.2
theorem PR.congr {σ σ' : jMem} {r r' o o' : Nat} {A : aP} (h : PR σ r o A) (hW : a_np A ≤ 12 ∧ a_nw A ≤ 6) (e : ∀ j, j < 67 → σ'.1 r' (o' + j) = σ.1 r (o + j)) : PR σ' r' o' A := by
  obtain ⟨⟨h1, h2, h3, h4, h5, h6, h7⟩, hp, hw⟩ := h
  have e' : ∀ a b : Nat, a < 67 → b = a → σ'.1 r' (o' + a) = σ.1 r (o + b) := fun a b ha hb => by subst hb; exact e b ha
  refine ⟨⟨?_, ?_, ?_, ?_, ?_, ?_, ?_⟩, fun i hi => ⟨?_, ?_, ?_⟩, fun w hw' => ⟨?_, ?_, ?_, ?_⟩⟩
  · exact (e 0 (by omega)).trans h1
  · rw [e 1 (by omega)]; exact h2
  · rw [e 2 (by omega)]; exact h3
  · rw [e 3 (by omega)]; exact h4
  · rw [e 4 (by omega)]; exact h5
  · rw [e 5 (by omega)]; exact h6
  · rw [e 6 (by omega)]; exact h7
  · rw [show o' + 7 + 3 * i = o' + (7 + 3 * i) by omega, e (7 + 3 * i) (by omega), show o + (7 + 3 * i) = o + 7 + 3 * i by omega]; exact (hp i hi).1
  · rw [show o' + 7 + 3 * i + 1 = o' + (7 + 3 * i + 1) by omega, e (7 + 3 * i + 1) (by omega), show o + (7 + 3 * i + 1) = o + 7 + 3 * i + 1 by omega]; exact (hp i hi).2.1
  · rw [show o' + 7 + 3 * i + 2 = o' + (7 + 3 * i + 2) by omega, e (7 + 3 * i + 2) (by omega), show o + (7 + 3 * i + 2) = o + 7 + 3 * i + 2 by omega]; exact (hp i hi).2.2
  · rw [show o' + 43 + 4 * w = o' + (43 + 4 * w) by omega, e (43 + 4 * w) (by omega), show o + (43 + 4 * w) = o + 43 + 4 * w by omega]; exact (hw w hw').1
  · rw [show o' + 43 + 4 * w + 1 = o' + (43 + 4 * w + 1) by omega, e (43 + 4 * w + 1) (by omega), show o + (43 + 4 * w + 1) = o + 43 + 4 * w + 1 by omega]; exact (hw w hw').2.1
  · rw [show o' + 43 + 4 * w + 2 = o' + (43 + 4 * w + 2) by omega, e (43 + 4 * w + 2) (by omega), show o + (43 + 4 * w + 2) = o + 43 + 4 * w + 2 by omega]; exact (hw w hw').2.2.1
  · rw [show o' + 43 + 4 * w + 3 = o' + (43 + 4 * w + 3) by omega, e (43 + 4 * w + 3) (by omega), show o + (43 + 4 * w + 3) = o + 43 + 4 * w + 3 by omega]; exact (hw w hw').2.2.2
theorem WF.b {A : aP} (h : WF A) : a_np A ≤ 12 ∧ a_nw A ≤ 6 := ⟨h.1.2.2.2.2.1, h.1.2.2.2.2.2.1⟩
/-- the parts of the invariant, each over its own cells -/
theorem RRow.congr {σ σ' : jMem} {r : Nat} (h : RRow σ r) (hr : r < 8) (e1 : ∀ c j, 3 ≤ c → c ≤ 12 → σ'.1 c j = σ.1 c j) (e2 : ∀ c j, 90 ≤ c → c ≤ 92 → σ'.1 c j = σ.1 c j) : RRow σ' r := by
  rcases h with ⟨h1, h2⟩ | ⟨n, l, h1, h2, h3, h4, h5, h6, h7⟩
  · left
    exact ⟨by rw [e1 12 r (by omega) (by omega)]; exact h1, by rw [e2 90 r (by omega) (by omega)]; exact h2⟩
  · right
    refine ⟨n, l, h1, h2, ?_, ?_, ?_, ?_, fun i hi => ?_⟩
    · rw [e1 12 r (by omega) (by omega)]; exact h3
    · rw [e2 91 r (by omega) (by omega)]; exact h4
    · rw [e1 11 r (by omega) (by omega)]; exact h5
    · rw [e2 90 r (by omega) (by omega)]; exact h6
    · rw [e1 (3 + r) i (by omega) (by omega), e2 92 _ (by omega) (by omega)]; exact h7 i hi
theorem RTape.congr {σ σ' : jMem} (h : RTape σ) (e1 : ∀ j, j ≤ 2 → σ'.1 13 j = σ.1 13 j) (e2 : ∀ j, σ'.1 14 j = σ.1 14 j) (e3 : ∀ j, j = 11 ∨ j = 18 → σ'.1 89 j = σ.1 89 j) (e4 : ∀ j, σ'.1 97 j = σ.1 97 j) : RTape σ' := by
  obtain ⟨h1, n, h2, h3, h4, h5⟩ := h
  refine ⟨by rw [e1 2 (by omega), e3 18 (by omega)]; exact h1, n, h2, by rw [e1 1 (by omega)]; exact h3, by rw [e3 11 (by omega)]; exact h4, fun i hi => ?_⟩
  obtain ⟨c, c1, c2, c3⟩ := h5 i hi
  exact ⟨c, c1, by rw [e2]; exact c2, by rw [e4]; exact c3⟩
theorem RAct.congr {σ σ' : jMem} {A : aP} {c o yr gt : Nat} {ag sw : Nat → Nat} (h : RAct σ A c o yr gt ag sw) (e1 : ∀ j, σ'.1 c j = σ.1 c j) (e2 : ∀ j, j < 67 → σ'.1 96 (o + j) = σ.1 96 (o + j)) : RAct σ' A c o yr gt ag sw := by
  obtain ⟨h1, h2, h3, h4, h5⟩ := h
  exact ⟨by rw [e1]; exact h1, by rw [e1]; exact h2, fun w hw => ⟨by rw [e1]; exact (h3 w hw).1, by rw [e1]; exact (h3 w hw).2⟩, h4.congr (r' := 96) (o' := o) h5.b e2, h5⟩
theorem RActs.congr {σ σ' : jMem} {A : aP} (h : RActs σ A) (e0 : σ'.1 0 7 = σ.1 0 7 ∧ σ'.1 0 8 = σ.1 0 8 ∧ σ'.1 89 9 = σ.1 89 9) (e1 : ∀ c j, 56 ≤ c → c ≤ 79 → σ'.1 c j = σ.1 c j) (e2 : ∀ j, σ'.1 96 j = σ.1 96 j) : RActs σ' A := by
  obtain ⟨m, p, h1, h2, h3, h4, h5, h6⟩ := h
  refine ⟨m, p, h1, h2, by rw [e0.1]; exact h3, by rw [e0.2.1]; exact h4, by rw [e0.2.2]; exact h5, fun j hj => ?_⟩
  obtain ⟨yr, gt, ag, sw, g1, g2⟩ := h6 j hj
  exact ⟨yr, gt, ag, sw, g1, g2.congr (fun i => e1 _ i (by omega) (by omega)) (fun i _ => e2 _)⟩
theorem RImg.congr {σ σ' : jMem} {j : Nat} (h : RImg σ j) (hj : j < 2) (e1 : ∀ c i, 38 ≤ c → c ≤ 53 → σ'.1 c i = σ.1 c i) (e2 : ∀ i, σ'.1 99 i = σ.1 99 i) (e3 : ∀ i, σ'.1 100 i = σ.1 100 i) : RImg σ' j := by
  rcases h with ⟨h1, h2⟩ | ⟨A, h1, h2, h3, h4, h5, h6⟩
  · left
    exact ⟨by rw [e1 _ _ (by omega) (by omega)]; exact h1, by rw [e2]; exact h2⟩
  · right
    exact ⟨A, h1, h2, h3, h4.congr (fun c i g1 g2 => e1 c i (by omega) (by omega)), h5.congr (r' := 100) (o' := 67 * j) h1.b (fun i _ => e3 _), by rw [e2]; exact h6⟩
theorem RTrace.congr {σ σ' : jMem} (h : RTrace σ) (e1 : σ'.1 86 3 = σ.1 86 3) (e2 : ∀ j, σ'.1 87 j = σ.1 87 j) (e3 : σ'.1 89 26 = σ.1 89 26) (e4 : ∀ j, σ'.1 101 j = σ.1 101 j) : RTrace σ' := by
  obtain ⟨n, h1, h2, h3, h4⟩ := h
  exact ⟨n, h1, by rw [e1]; exact h2, by rw [e3]; exact h3, fun i hi => by rw [e2, e4]; exact h4 i hi⟩
theorem RTens.congr {σ σ' : jMem} (h : RTens σ) (e : ∀ n, σ'.2 84 n = σ.2 84 n) : RTens σ' := fun n hn => by rw [e]; exact h n hn
theorem RInv.congr {σ σ' : jMem} {A : aP} (h : RInv σ A) (e : sEq σ σ') : RInv σ' A := by
  obtain ⟨h1, h2, ⟨w1, w2, w3, w4⟩, h4, h5, h6, h7, h8⟩ := h
  have E : ∀ c j, ¬ scr c j → σ'.1 c j = σ.1 c j := e.1
  refine ⟨fun r hr => (h1 r hr).congr hr (fun c j a b => E c j (by unfold scr; omega)) (fun c j a b => E c j (by unfold scr; omega)), h2.congr (fun j hj => E 13 j (by unfold scr; omega)) (fun j => E 14 j (by unfold scr; omega)) (fun j hj => E 89 j (by unfold scr; omega)) (fun j => E 97 j (by unfold scr; omega)), ⟨w1, w2, w3.congr (fun c j a b => E c j (by unfold scr; omega)), w4.congr (r' := 93) (o' := 0) w1.b (fun j _ => E 93 _ (by unfold scr; omega))⟩, h4.congr ⟨E 0 7 (by unfold scr; omega), E 0 8 (by unfold scr; omega), E 89 9 (by unfold scr; omega)⟩ (fun c j a b => E c j (by unfold scr; omega)) (fun j => E 96 j (by unfold scr; omega)), fun j hj => (h5 j hj).congr hj (fun c i a b => E c i (by unfold scr; omega)) (fun i => E 99 i (by unfold scr; omega)) (fun i => E 100 i (by unfold scr; omega)), h6.congr (E 86 3 (by unfold scr; omega)) (fun j => E 87 j (by unfold scr; omega)) (E 89 26 (by unfold scr; omega)) (fun j => E 101 j (by unfold scr; omega)), ?_, h8.congr e.2⟩
  rw [E 0 12 (by unfold scr; omega), E 89 1 (by unfold scr; omega)]
  exact h7
