/-! ===== PURE: acts: the two sides apart ===== -/
theorem jcpL_ {α : Type} {σ : jMem} {a na sp b nb dp n : Nat} {f : jMem → Option α} (h1 : (OfNat.ofNat sp : Nat) + (OfNat.ofNat n : Nat) ≤ na) (h2 : (OfNat.ofNat dp : Nat) + (OfNat.ofNat n : Nat) ≤ nb) (h3 : na < 2 ^ 31) (h4 : nb < 2 ^ 31) : jcp σ a na (OfNat.ofNat sp : Int32) b nb (OfNat.ofNat dp : Int32) (OfNat.ofNat n : Int32) f = f (jcpy σ a (OfNat.ofNat sp : Nat) b (OfNat.ofNat dp : Nat) (OfNat.ofNat n : Nat)) := jcp_eq h1 h2 h3 h4
theorem cpy_s {τ : jMem} {a sp b dp : Nat} (h : a ≠ b ∨ dp ≤ sp) (k : Nat) : jset (jcpy τ a sp b dp k) b (dp + k) ((jcpy τ a sp b dp k).1 a (sp + k)) = jcpy τ a sp b dp (k + 1) := by
  have e : (jcpy τ a sp b dp k).1 a (sp + k) = τ.1 a (sp + k) := jcpy_o (by omega)
  rw [e]
  refine Prod.ext ?_ rfl
  funext x y
  simp only [jset, jcpy]
  by_cases c1 : x = b ∧ y = dp + k
  · rw [if_pos c1, if_pos (by omega), show sp + (y - dp) = sp + k by omega]
  · rw [if_neg c1]
    by_cases c2 : x = b ∧ dp ≤ y ∧ y < dp + k
    · rw [if_pos c2, if_pos (by omega)]
    · rw [if_neg c2, if_neg (by omega)]
abbrev aD : Type := Nat × Nat × (Nat → Nat) × (Nat → Nat)
abbrev dy (A : aP) (d : aD) : aP := a_dyn A d.1 d.2.1 d.2.2.1 d.2.2.2
abbrev dOf (A : aP) : aD := (a_yr A, a_gt A, a_ag A, a_sw A)
theorem dy_of (A : aP) : dy A (dOf A) = A := rfl
def DC (σ : jMem) (c n : Nat) (d : aD) : Prop := σ.1 c 0 = nI d.1 ∧ σ.1 c 1 = nI d.2.1 ∧ ∀ w, w < n → σ.1 c (2 + w) = nI (d.2.2.1 w) ∧ σ.1 c (8 + w) = nI (d.2.2.2 w)
theorem DC.congr {σ σ' : jMem} {c n : Nat} {d : aD} (h : DC σ c n d) (e : ∀ j, σ'.1 c j = σ.1 c j) : DC σ' c n d := ⟨by rw [e]; exact h.1, by rw [e]; exact h.2.1, fun w hw => ⟨by rw [e]; exact (h.2.2 w hw).1, by rw [e]; exact (h.2.2 w hw).2⟩⟩
/-- the class's side, the reference's side, what both keep to -/
def CS (σ : jMem) (A : aP) (m : Nat) (L : Nat → aD) : Prop := PC σ 22 A ∧ ∃ p, p < 24 ∧ σ.1 0 7 = nI m ∧ σ.1 0 8 = nI p ∧ ∀ j, j < m → DC σ (56 + (p + 24 - m + j) % 24) (a_nw A) (L j)
def RS (σ : jMem) (A : aP) (m : Nat) (L : Nat → aD) : Prop := PR σ 93 0 A ∧ σ.1 89 9 = nI m ∧ ∀ j, j < m → PR σ 96 (67 * j) (dy A (L j))
def GD (A : aP) (m : Nat) (L : Nat → aD) : Prop := m ≤ 24 ∧ WF A ∧ a_yr A ≤ 999 ∧ ∀ j, j < m → (L j).1 ≤ 999 ∧ WF (dy A (L j))
def cC (c j : Nat) : Prop := (22 ≤ c ∧ c ≤ 29) ∨ (56 ≤ c ∧ c ≤ 79) ∨ (c = 0 ∧ (j = 7 ∨ j = 8))
def cR (c j : Nat) : Prop := c = 93 ∨ c = 96 ∨ (c = 89 ∧ (j = 9 ∨ j = 0))
def FR (P : Nat → Nat → Prop) (σ σ' : jMem) : Prop := (∀ c j, ¬ P c j → σ'.1 c j = σ.1 c j) ∧ ∀ n, σ'.2 84 n = σ.2 84 n
theorem FR.refl {P : Nat → Nat → Prop} (σ : jMem) : FR P σ σ := ⟨fun _ _ _ => rfl, fun _ => rfl⟩
theorem FR.trans {P : Nat → Nat → Prop} {σ τ ρ : jMem} (h1 : FR P σ τ) (h2 : FR P τ ρ) : FR P σ ρ := ⟨fun c j h => (h2.1 c j h).trans (h1.1 c j h), fun n => (h2.2 n).trans (h1.2 n)⟩
theorem FR.mono {P Q : Nat → Nat → Prop} {σ τ : jMem} (h1 : FR P σ τ) (h2 : ∀ c j, P c j → Q c j) : FR Q σ τ := ⟨fun c j h => h1.1 c j (fun q => h (h2 c j q)), h1.2⟩
theorem FR.set {P : Nat → Nat → Prop} {σ τ : jMem} (h : FR P σ τ) {k j : Nat} {v : Int32} (hs : P k j) : FR P σ (jset τ k j v) := by
  refine ⟨fun c i hc => ?_, h.2⟩
  rw [jset_app, if_neg]
  · exact h.1 c i hc
  · rintro ⟨rfl, rfl⟩
    exact hc hs
theorem FR.cpy {P : Nat → Nat → Prop} {σ τ : jMem} (h : FR P σ τ) {a sp b dp n : Nat} (hs : ∀ j, dp ≤ j → j < dp + n → P b j) : FR P σ (jcpy τ a sp b dp n) := by
  refine ⟨fun c i hc => ?_, h.2⟩
  rw [jcpy_app, if_neg]
  · exact h.1 c i hc
  · rintro ⟨rfl, h1, h2⟩
    exact hc (hs i h1 h2)
theorem RInv.split {σ : jMem} {A : aP} (h : RInv σ A) : ∃ m L, GD A m L ∧ CS σ A m L ∧ RS σ A m L := by
  obtain ⟨m, p, h1, h2, h3, h4, h5, h6⟩ := h.2.2.2.1
  have H : ∀ j, ∃ d : aD, j < m → d.1 ≤ 999 ∧ RAct σ A (56 + (p + 24 - m + j) % 24) (67 * j) d.1 d.2.1 d.2.2.1 d.2.2.2 := by
    intro j
    by_cases hj : j < m
    · obtain ⟨yr, gt, ag, sw, g1, g2⟩ := h6 j hj
      exact ⟨(yr, gt, ag, sw), fun _ => ⟨g1, g2⟩⟩
    · exact ⟨dOf A, fun q => absurd q hj⟩
  refine ⟨m, fun j => (H j).choose, ⟨h1, h.W, h.2.2.1.2.1, fun j hj => ?_⟩, ⟨h.C, p, h2, h3, h4, fun j hj => ?_⟩, h.R, h5, fun j hj => ?_⟩
  · have := (H j).choose_spec hj
    exact ⟨this.1, this.2.2.2.2.2⟩
  · have := (H j).choose_spec hj
    exact ⟨this.2.1, this.2.2.1, this.2.2.2.1⟩
  · have := (H j).choose_spec hj
    exact this.2.2.2.2.1
theorem RInv.join {σ σ' : jMem} {A A' : aP} {m : Nat} {L : Nat → aD} (h : RInv σ A) (g : GD A' m L) (hc : CS σ' A' m L) (hr : RS σ' A' m L) (e : FR (fun c j => scr c j ∨ cC c j ∨ cR c j) σ σ') : RInv σ' A' := by
  obtain ⟨h1, h2, _, _, h5, h6, h7, h8⟩ := h
  have E : ∀ c j, ¬ (scr c j ∨ cC c j ∨ cR c j) → σ'.1 c j = σ.1 c j := e.1
  refine ⟨fun r hr => (h1 r hr).congr hr (fun c j a b => E c j (by unfold scr cC cR; omega)) (fun c j a b => E c j (by unfold scr cC cR; omega)), h2.congr (fun j hj => E 13 j (by unfold scr cC cR; omega)) (fun j => E 14 j (by unfold scr cC cR; omega)) (fun j hj => E 89 j (by unfold scr cC cR; omega)) (fun j => E 97 j (by unfold scr cC cR; omega)), ⟨g.2.1, g.2.2.1, hc.1, hr.1⟩, ?_, fun j hj => (h5 j hj).congr hj (fun c i a b => E c i (by unfold scr cC cR; omega)) (fun i => E 99 i (by unfold scr cC cR; omega)) (fun i => E 100 i (by unfold scr cC cR; omega)), h6.congr (E 86 3 (by unfold scr cC cR; omega)) (fun j => E 87 j (by unfold scr cC cR; omega)) (E 89 26 (by unfold scr cC cR; omega)) (fun j => E 101 j (by unfold scr cC cR; omega)), ?_, h8.congr e.2⟩
  · obtain ⟨_, p, c1, c2, c3, c4⟩ := hc
    refine ⟨m, p, g.1, c1, c2, c3, hr.2.1, fun j hj => ⟨(L j).1, (L j).2.1, (L j).2.2.1, (L j).2.2.2, (g.2.2.2 j hj).1, (c4 j hj).1, (c4 j hj).2.1, (c4 j hj).2.2, hr.2.2 j hj, (g.2.2.2 j hj).2⟩⟩
  · rw [E 0 12 (by unfold scr cC cR; omega), E 89 1 (by unfold scr cC cR; omega)]
    exact h7
/-- what an act changes of a parish -/
theorem PC.dyn {σ σ' : jMem} {k : Nat} {A : aP} (h : PC σ k A) (d : aD) (e : ∀ c j, k ≤ c → c ≤ k + 5 → ¬ (c = k ∧ (j = 4 ∨ j = 7)) → σ'.1 c j = σ.1 c j) (e4 : σ'.1 k 4 = nI d.1) (e7 : σ'.1 k 7 = nI d.2.1) (ew : ∀ w, w < a_nw A → σ'.1 (k + 6) w = nI (d.2.2.1 w) ∧ σ'.1 (k + 7) w = nI (d.2.2.2 w)) : PC σ' k (dy A d) := by
  obtain ⟨⟨h1, h2, h3, h4, h5, h6, h7⟩, hp, hw⟩ := h
  refine ⟨⟨?_, ?_, ?_, e4, ?_, ?_, e7⟩, fun i hi => ⟨?_, ?_, ?_⟩, fun w hw' => ⟨?_, ?_, (ew w hw').1, (ew w hw').2⟩⟩
  · rw [e k 1 (by omega) (by omega) (by omega)]; exact h1
  · rw [e k 2 (by omega) (by omega) (by omega)]; exact h2
  · rw [e k 3 (by omega) (by omega) (by omega)]; exact h3
  · rw [e k 5 (by omega) (by omega) (by omega)]; exact h5
  · rw [e k 6 (by omega) (by omega) (by omega)]; exact h6
  · rw [e (k + 1) i (by omega) (by omega) (by omega)]; exact (hp i hi).1
  · rw [e (k + 2) i (by omega) (by omega) (by omega)]; exact (hp i hi).2.1
  · rw [e (k + 3) i (by omega) (by omega) (by omega)]; exact (hp i hi).2.2
  · rw [e (k + 4) w (by omega) (by omega) (by omega)]; exact (hw w hw').1
  · rw [e (k + 5) w (by omega) (by omega) (by omega)]; exact (hw w hw').2.1
theorem PR.dyn {σ σ' : jMem} {r o : Nat} {A : aP} (h : PR σ r o A) (hW : a_np A ≤ 12 ∧ a_nw A ≤ 6) (d : aD) (e : ∀ j, j < 43 → j ≠ 5 → j ≠ 6 → σ'.1 r (o + j) = σ.1 r (o + j)) (e5 : σ'.1 r (o + 5) = nI d.1) (e6 : σ'.1 r (o + 6) = nI d.2.1) (ew : ∀ w, w < a_nw A → σ'.1 r (o + 43 + 4 * w) = σ.1 r (o + 43 + 4 * w) ∧ σ'.1 r (o + 43 + 4 * w + 1) = nI (d.2.2.1 w) ∧ σ'.1 r (o + 43 + 4 * w + 2) = σ.1 r (o + 43 + 4 * w + 2) ∧ σ'.1 r (o + 43 + 4 * w + 3) = nI (d.2.2.2 w)) : PR σ' r o (dy A d) := by
  obtain ⟨⟨h1, h2, h3, h4, h5, h6, h7⟩, hp, hw⟩ := h
  refine ⟨⟨?_, ?_, ?_, ?_, ?_, e5, e6⟩, fun i hi => ⟨?_, ?_, ?_⟩, fun w hw' => ⟨?_, (ew w hw').2.1, ?_, (ew w hw').2.2.2⟩⟩
  · have := e 0 (by omega) (by omega) (by omega)
    exact this.trans h1
  · rw [e 1 (by omega) (by omega) (by omega)]; exact h2
  · rw [e 2 (by omega) (by omega) (by omega)]; exact h3
  · rw [e 3 (by omega) (by omega) (by omega)]; exact h4
  · rw [e 4 (by omega) (by omega) (by omega)]; exact h5
  · have hi' : i < 12 := Nat.lt_of_lt_of_le hi hW.1
    rw [Nat.add_assoc o 7, e (7 + 3 * i) (by omega) (by omega) (by omega), ← Nat.add_assoc]; exact (hp i hi).1
  · have hi' : i < 12 := Nat.lt_of_lt_of_le hi hW.1
    rw [show o + 7 + 3 * i + 1 = o + (7 + 3 * i + 1) by omega, e (7 + 3 * i + 1) (by omega) (by omega) (by omega), show o + (7 + 3 * i + 1) = o + 7 + 3 * i + 1 by omega]; exact (hp i hi).2.1
  · have hi' : i < 12 := Nat.lt_of_lt_of_le hi hW.1
    rw [show o + 7 + 3 * i + 2 = o + (7 + 3 * i + 2) by omega, e (7 + 3 * i + 2) (by omega) (by omega) (by omega), show o + (7 + 3 * i + 2) = o + 7 + 3 * i + 2 by omega]; exact (hp i hi).2.2
  · rw [(ew w hw').1]; exact (hw w hw').1
  · rw [(ew w hw').2.2.1]; exact (hw w hw').2.2.1
/-- keeping an act -/
def pshN (m : Nat) : Nat := if m = 24 then 24 else m + 1
def pshL (m : Nat) (L : Nat → aD) (d : aD) (j : Nat) : aD := if m = 24 then (if j < 23 then L (j + 1) else d) else (if j < m then L j else d)
def svM (σ : jMem) (k c : Nat) : jMem := jcpy (jcpy (jset (jset σ c 0 (σ.1 k 4)) c 1 ((jset σ c 0 (σ.1 k 4)).1 k 7)) (k + 6) 0 c 2 6) (k + 7) 0 c 8 6
theorem save_c (σ : jMem) (k c : Nat) : f_X5_save k c σ = some (svM σ k c) := by
  unfold f_X5_save
  rw [jstL_ (by omega) (by omega), jstL_ (by omega) (by omega), jcpL_ (by omega) (by omega) (by omega) (by omega), jcpL_ (by omega) (by omega) (by omega) (by omega)]
  rfl
theorem svM_o {σ : jMem} {k c x y : Nat} (h : x ≠ c) : (svM σ k c).1 x y = σ.1 x y := by
  unfold svM
  rw [jcpy_o (by omega), jcpy_o (by omega), jset_o (by omega), jset_o (by omega)]
theorem svM_d {σ : jMem} {k c : Nat} {A : aP} (h : PC σ k A) (hW : a_nw A ≤ 6) (hc : c < k ∨ k + 7 < c) : DC (svM σ k c) c (a_nw A) (dOf A) := by
  obtain ⟨⟨h1, h2, h3, h4, h5, h6, h7⟩, hp, hw⟩ := h
  refine ⟨?_, ?_, fun w hw' => ⟨?_, ?_⟩⟩
  · unfold svM
    rw [jcpy_o (by omega), jcpy_o (by omega), jset_o (by omega), jset_i]
    exact h4
  · unfold svM
    rw [jcpy_o (by omega), jcpy_o (by omega), jset_i, jset_o (by omega)]
    exact h7
  · unfold svM
    rw [jcpy_o (by omega), jcpy_i (by omega), jset_o (by omega), jset_o (by omega), show 0 + (2 + w - 2) = w by omega]
    exact (hw w hw').2.2.1
  · unfold svM
    rw [jcpy_i (by omega), jcpy_o (by omega), jset_o (by omega), jset_o (by omega), show 0 + (8 + w - 8) = w by omega]
    exact (hw w hw').2.2.2
theorem kC_spec {σ : jMem} {A : aP} {m : Nat} {L : Nat → aD} (g : GD A m L) (h : CS σ A m L) : ∃ σ', f_X11_keepAct σ = some σ' ∧ CS σ' A (pshN m) (pshL m L (dOf A)) ∧ FR cC σ σ' := by
  obtain ⟨hP, p, hp, h7, h8, hj⟩ := h
  have hm := g.1
  have hb := g.2.1.b
  refine ⟨jset (jset (svM σ 22 (56 + p)) 0 8 (nI ((p + 1) % 24))) 0 7 (nI (pshN m)), ?_, ⟨?_, (p + 1) % 24, by omega, jset_i, ?_, ?_⟩, ?_⟩
  · unfold f_X11_keepAct
    rw [h8, jldr_eq (by omega) (by omega), Nat.one_mul, save_c, jbv_eq, jlet_eq, svM_o (by omega), h8, nI_1, jlet_eq]
    have e1 : nI (p + 1) - nI (p + 1) / (24 : Int32) * (24 : Int32) = nI ((p + 1) % 24) := pk_rem (d := 24) (by omega) (by omega) (by omega)
    rw [e1, jset_o (by omega), svM_o (by omega), h7, nI_1]
    unfold pshN
    by_cases q : m = 24
    · rw [if_pos (Llt (by omega) (by omega)), if_pos q]
      rfl
    · rw [if_neg (Llt_ (by omega) (by omega)), if_neg q]
  · exact hP.congr (fun c j _ _ => by rw [jset_o (by omega), jset_o (by omega), svM_o (by omega)])
  · rw [jset_o (by omega), jset_i]
  · intro j hj'
    have old : ∀ i, i < m → (p + 24 - m + i) % 24 ≠ p → ∀ c, c = 56 + (p + 24 - m + i) % 24 → DC (jset (jset (svM σ 22 (56 + p)) 0 8 (nI ((p + 1) % 24))) 0 7 (nI (pshN m))) c (a_nw A) (L i) := by
      intro i hi hne c hc
      subst hc
      exact (hj i hi).congr (fun y => by rw [jset_o (by omega), jset_o (by omega), svM_o (by omega)])
    have new : ∀ c, c = 56 + p → DC (jset (jset (svM σ 22 (56 + p)) 0 8 (nI ((p + 1) % 24))) 0 7 (nI (pshN m))) c (a_nw A) (dOf A) := by
      intro c hc
      subst hc
      exact (svM_d hP hb.2 (by omega)).congr (fun y => by rw [jset_o (by omega), jset_o (by omega)])
    unfold pshN at hj' ⊢
    unfold pshL
    by_cases q : m = 24
    · rw [if_pos q] at hj' ⊢
      rw [if_pos q]
      by_cases q2 : j < 23
      · rw [if_pos q2]
        have := old (j + 1) (by omega) (by omega) (56 + ((p + 1) % 24 + 24 - 24 + j) % 24) (by omega)
        unfold pshN at this
        rw [if_pos q] at this
        exact this
      · rw [if_neg q2]
        have := new (56 + ((p + 1) % 24 + 24 - 24 + j) % 24) (by omega)
        unfold pshN at this
        rw [if_pos q] at this
        exact this
    · rw [if_neg q] at hj' ⊢
      rw [if_neg q]
      by_cases q2 : j < m
      · rw [if_pos q2]
        have := old j (by omega) (by omega) (56 + ((p + 1) % 24 + 24 - (m + 1) + j) % 24) (by omega)
        unfold pshN at this
        rw [if_neg q] at this
        exact this
      · rw [if_neg q2]
        have := new (56 + ((p + 1) % 24 + 24 - (m + 1) + j) % 24) (by omega)
        unfold pshN at this
        rw [if_neg q] at this
        exact this
  · refine FR.set (FR.set ?_ (by unfold cC; omega)) (by unfold cC; omega)
    unfold svM
    exact FR.cpy (FR.cpy (FR.set (FR.set (FR.refl σ) (by unfold cC; omega)) (by unfold cC; omega)) (fun j _ _ => by unfold cC; omega)) (fun j _ _ => by unfold cC; omega)
theorem keepL51 {σ : jMem} {m : Nat} (hm : m < 24) (h : σ.1 89 9 = nI m) : X12_keep_L51 jFU (0 : Int32) σ = some ((), jcpy σ 93 0 96 (67 * m) 67) := by
  have := jloop_run (body := fun rec s σ => X12_keep_L51_b rec s σ) (fun k => nI k) (fun k => jcpy σ 93 0 96 (67 * m) k) 67 ((), jcpy σ 93 0 96 (67 * m) 67) ?_ ?_ jFU (by unfold jFU; omega)
  · simp only [jcpy_0] at this
    exact this
  · intro k hk rec
    show X12_keep_L51_b _ _ _ = _
    unfold X12_keep_L51_b
    have h1 := cpy_s (τ := σ) (a := 93) (sp := 0) (b := 96) (dp := 67 * m) (by omega) k
    rw [Nat.zero_add] at h1
    rw [if_neg (Lle_ (by omega) (by omega)), jld_eq (by omega) (by omega), jcpy_o (a := 89) (by omega), h, nI_Lmul, nI_add, jst_eq (by omega) (by omega), nI_1]
    rw [← h1]
  · intro rec
    rfl
theorem keepL11 (σ : jMem) : X12_keep_L11 jFU (0 : Int32) σ = some ((), jcpy σ 96 67 96 0 1541) := by
  have := jloop_run (body := fun rec s σ => X12_keep_L11_b rec s σ) (fun k => nI k) (fun k => jcpy σ 96 67 96 0 k) 1541 ((), jcpy σ 96 67 96 0 1541) ?_ ?_ jFU (by unfold jFU; omega)
  · simp only [jcpy_0] at this
    exact this
  · intro k hk rec
    show X12_keep_L11_b _ _ _ = _
    unfold X12_keep_L11_b
    have h1 := cpy_s (τ := σ) (a := 96) (sp := 67) (b := 96) (dp := 0) (by omega) k
    rw [Nat.zero_add] at h1
    rw [if_neg (Lle_ (by omega) (by omega)), nI_addL, Nat.add_comm k, jld_eq (by omega) (by omega), jst_eq (by omega) (by omega), nI_1]
    rw [← h1]
  · intro rec
    rfl
theorem kR_low {σ : jMem} {A : aP} {m : Nat} {L : Nat → aD} (hm : m < 24) (hW : WF A) (hL : ∀ j, j < m → WF (dy A (L j))) (h : RS σ A m L) : ∃ σ', (jbd (X12_keep_L51 jFU (0 : Int32) σ) (fun (_ : Unit) σ7 => jlet (jset σ7 89 9 ((σ7.1 89 9) + (1 : Int32))) (fun σ8 => some σ8))) = some σ' ∧ RS σ' A (m + 1) (fun j => if j < m then L j else dOf A) ∧ FR cR σ σ' := by
  obtain ⟨hP, h9, hj⟩ := h
  refine ⟨jset (jcpy σ 93 0 96 (67 * m) 67) 89 9 (nI (m + 1)), ?_, ⟨?_, jset_i, ?_⟩, ?_⟩
  · rw [keepL51 hm h9, jbd_eq, jlet_eq, jcpy_o (by omega), h9, nI_1]
  · exact hP.congr (r' := 93) (o' := 0) hW.b (fun j _ => by rw [jset_o (by omega), jcpy_o (by omega)])
  · intro j hj'
    by_cases q : j < m
    · show PR _ 96 (67 * j) (dy A (if j < m then L j else dOf A))
      rw [if_pos q]
      exact (hj j q).congr (r' := 96) (o' := 67 * j) (hL j q).b (fun i hi => by rw [jset_o (by omega), jcpy_o (by omega)])
    · show PR _ 96 (67 * j) (dy A (if j < m then L j else dOf A))
      rw [if_neg q, dy_of]
      exact hP.congr (r' := 96) (o' := 67 * j) hW.b (fun i hi => by rw [jset_o (by omega), jcpy_i (by omega), show 0 + (67 * j + i - 67 * m) = 0 + i by omega])
  · exact FR.set (FR.cpy (FR.refl σ) (fun j _ _ => by unfold cR; omega)) (by unfold cR; omega)
theorem RS.congr {σ σ' : jMem} {A : aP} {m : Nat} {L : Nat → aD} (g : GD A m L) (h : RS σ A m L) (e : ∀ c j, c = 93 ∨ c = 96 ∨ (c = 89 ∧ j = 9) → σ'.1 c j = σ.1 c j) : RS σ' A m L := ⟨h.1.congr (r' := 93) (o' := 0) g.2.1.b (fun j _ => e _ _ (by omega)), by rw [e _ _ (by omega)]; exact h.2.1, fun j hj => (h.2.2 j hj).congr (r' := 96) (o' := 67 * j) (g.2.2.2 j hj).2.b (fun i _ => e _ _ (by omega))⟩
theorem CS.congr {σ σ' : jMem} {A : aP} {m : Nat} {L : Nat → aD} (h : CS σ A m L) (e : ∀ c j, cC c j → σ'.1 c j = σ.1 c j) : CS σ' A m L := by
  obtain ⟨hP, p, hp, h7, h8, hj⟩ := h
  exact ⟨hP.congr (fun c j _ _ => e _ _ (by unfold cC; omega)), p, hp, by rw [e _ _ (by unfold cC; omega)]; exact h7, by rw [e _ _ (by unfold cC; omega)]; exact h8, fun j hj' => (hj j hj').congr (fun i => e _ _ (by unfold cC; omega))⟩
theorem kR_spec {σ : jMem} {A : aP} {m : Nat} {L : Nat → aD} (g : GD A m L) (h : RS σ A m L) : ∃ σ', f_X12_keep σ = some σ' ∧ RS σ' A (pshN m) (pshL m L (dOf A)) ∧ FR cR σ σ' := by
  have hm := g.1
  have h9 := h.2.1
  unfold f_X12_keep
  rw [jj_eq, h9]
  by_cases q : m = 24
  · subst q
    rw [if_neg (fun z => z rfl), keepL11, jbd_eq, jlet_eq, jcpy_o (by omega), h9]
    have hR : RS (jset (jcpy σ 96 67 96 0 1541) 89 9 (nI 24 - 1)) A 23 (fun j => L (j + 1)) := by
      refine ⟨h.1.congr (r' := 93) (o' := 0) g.2.1.b (fun j _ => by rw [jset_o (by omega), jcpy_o (by omega)]), by rw [jset_i]; rfl, fun j hj => ?_⟩
      exact (h.2.2 (j + 1) (by omega)).congr (r' := 96) (o' := 67 * j) (g.2.2.2 (j + 1) (by omega)).2.b (fun i hi => by rw [jset_o (by omega), jcpy_i (by omega), show 67 + (67 * j + i - 0) = 67 * (j + 1) + i by omega])
    obtain ⟨σ', e1, e2, e3⟩ := kR_low (by omega) g.2.1 (fun j hj => (g.2.2.2 (j + 1) (by omega)).2) hR
    refine ⟨σ', e1, ?_, ?_⟩
    · have e4 : pshL 24 L (dOf A) = fun j => if j < 23 then L (j + 1) else dOf A := by
        funext j
        unfold pshL
        rw [if_pos rfl]
      rw [e4]
      exact e2
    · exact FR.trans (FR.set (FR.cpy (FR.refl σ) (fun j _ _ => by unfold cR; omega)) (by unfold cR; omega)) e3
  · rw [if_pos (neL_ (by omega) (by omega) (by omega))]
    obtain ⟨σ', e1, e2, e3⟩ := kR_low (by omega) g.2.1 (fun j hj => (g.2.2.2 j hj).2) h
    refine ⟨σ', e1, ?_, e3⟩
    have e4 : pshL m L (dOf A) = fun j => if j < m then L j else dOf A := by
      funext j
      unfold pshL
      rw [if_neg q]
    rw [e4]
    unfold pshN
    rw [if_neg q]
    exact e2
theorem GD.push {A : aP} {m : Nat} {L : Nat → aD} (g : GD A m L) : GD A (pshN m) (pshL m L (dOf A)) := by
  refine ⟨?_, g.2.1, g.2.2.1, fun j hj => ?_⟩
  · have := g.1
    unfold pshN
    split <;> omega
  · unfold pshN at hj
    unfold pshL
    by_cases q : m = 24
    · rw [if_pos q] at hj ⊢
      by_cases q2 : j < 23
      · rw [if_pos q2]
        exact g.2.2.2 _ (by omega)
      · rw [if_neg q2]
        exact ⟨g.2.2.1, g.2.1⟩
    · rw [if_neg q] at hj ⊢
      by_cases q2 : j < m
      · rw [if_pos q2]
        exact g.2.2.2 _ q2
      · rw [if_neg q2]
        exact ⟨g.2.2.1, g.2.1⟩
