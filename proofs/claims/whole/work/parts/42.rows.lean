/-! ===== PURE: rows, the tape, status ===== -/
theorem inv0 : Inv jσ0 := by
  refine ⟨((0, 0, 0, 0, 0, 0, 0), fun _ => 0, fun _ => 0, fun _ => 0, fun _ => 0, fun _ => 0, fun _ => 0, fun _ => 0), ?_, ?_, ⟨?_, ?_, ?_, ?_⟩, ?_, ?_, ?_, rfl, ?_⟩
  · have key : ∀ r, r < 8 → jσ0.1 12 r = -1 ∧ jσ0.1 90 r = -1 := by decide
    intro r hr
    exact Or.inl (key r hr)
  · exact ⟨rfl, 0, by omega, rfl, rfl, fun i hi => absurd hi (by omega)⟩
  · exact ⟨⟨by decide, by decide, by decide, by decide, by decide, by decide, by decide⟩, fun i hi => absurd hi (Nat.not_lt_zero i), fun i j hi => absurd hi (Nat.not_lt_zero i), fun i hi => absurd hi (Nat.not_lt_zero i)⟩
  · decide
  · exact ⟨⟨rfl, rfl, rfl, rfl, rfl, rfl, rfl⟩, fun i hi => absurd hi (Nat.not_lt_zero i), fun i hi => absurd hi (Nat.not_lt_zero i)⟩
  · exact ⟨⟨rfl, rfl, rfl, rfl, rfl, rfl, rfl⟩, fun i hi => absurd hi (Nat.not_lt_zero i), fun i hi => absurd hi (Nat.not_lt_zero i)⟩
  · exact ⟨0, 0, by omega, by omega, rfl, rfl, rfl, fun j hj => absurd hj (Nat.not_lt_zero j)⟩
  · intro j hj
    left
    rcases (show j = 0 ∨ j = 1 by omega) with rfl | rfl
    · exact ⟨rfl, rfl⟩
    · exact ⟨rfl, rfl⟩
  · exact ⟨0, by omega, rfl, rfl, fun i hi => absurd hi (Nat.not_lt_zero i)⟩
  · have key : ∀ n, n ≤ 12 → jσ0.2 84 n = lN (10 ^ n) := by decide
    exact key
theorem inv_same {σ σ' : jMem} {A : aP} (h : RInv σ A) (e : sEq σ σ') : Inv σ' := ⟨A, h.congr e⟩
theorem scr0 : scr 89 0 := by unfold scr; omega
theorem sim_status_ok : sim_status Inv := by
  rintro σ ⟨A, h⟩
  refine ⟨σ.1 0 12, σ, jset σ 89 0 0, rfl, ?_, inv_same h ((sEq.refl σ).set scr0)⟩
  rw [h.2.2.2.2.2.2.1]
  rfl
theorem sim_fault_ok : sim_fault Inv := by
  rintro σ ⟨A, h⟩
  refine ⟨σ.1 13 2, σ, jset σ 89 0 0, rfl, ?_, inv_same h ((sEq.refl σ).set scr0)⟩
  rw [h.2.1.1]
  rfl
theorem i32_0 : (0 : Int32).toInt = 0 := rfl
theorem i32_8 : (8 : Int32).toInt = 8 := rfl
theorem isRow_in {r : Nat} (h : r < 8) (σ : jMem) : f_X11_isRow (nI r) σ = some (1, σ) := by
  unfold f_X11_isRow
  simp (disch := omega) only [nlit, nI_ltI, nI_leI, if_neg]
theorem isRow_out {a : Int32} (h : a.toInt < 0 ∨ (8 : Nat) ≤ a.toInt) (σ : jMem) : f_X11_isRow a σ = some (0, σ) := by
  unfold f_X11_isRow
  rcases h with h | h
  · rw [if_pos ((pI_lt a 0).mpr h)]
  · by_cases c : a < 0
    · rw [if_pos c]
    · rw [if_neg c, if_pos ((pI_le 8 a).mpr h)]
theorem isRowR_in {r : Nat} (h : r < 8) (σ : jMem) : f_X12_isRow (nI r) σ = some (1, σ) := by
  unfold f_X12_isRow
  rw [show (0 : Int64) = (0 : Int32).toInt64 from rfl, show (7 : Int64) = (7 : Int32).toInt64 from rfl, in32, if_pos]
  · rfl
  · rw [nI_toInt (by omega)]
    exact ⟨by show (0 : Int) ≤ _; omega, by show _ ≤ (7 : Int); omega⟩
theorem isRowR_out {a : Int32} (h : a.toInt < 0 ∨ (8 : Nat) ≤ a.toInt) (σ : jMem) : f_X12_isRow a σ = some (0, σ) := by
  unfold f_X12_isRow
  rw [show (0 : Int64) = (0 : Int32).toInt64 from rfl, show (7 : Int64) = (7 : Int32).toInt64 from rfl, in32, if_neg]
  · rfl
  · intro q
    have h1 : (0 : Int) ≤ a.toInt := q.1
    have h2 : a.toInt ≤ 7 := q.2
    omega
def jfill (σ : jMem) (c o n : Nat) : jMem := (fun a b => if a = c ∧ o ≤ b ∧ b < o + n then 0 else σ.1 a b, σ.2)
theorem jfill_0 (σ : jMem) (c o : Nat) : jfill σ c o 0 = σ := by
  refine Prod.ext ?_ rfl
  funext a b
  simp only [jfill]
  rw [if_neg (by omega)]
theorem jfill_s (σ : jMem) (c o n : Nat) : jset (jfill σ c o n) c (o + n) 0 = jfill σ c o (n + 1) := by
  refine Prod.ext ?_ rfl
  funext a b
  simp only [jset, jfill]
  by_cases h : a = c ∧ b = o + n
  · rw [if_pos h, if_pos (by omega)]
  · rw [if_neg h]
    by_cases h2 : a = c ∧ o ≤ b ∧ b < o + n
    · rw [if_pos h2, if_pos (by omega)]
    · rw [if_neg h2, if_neg (by omega)]
theorem lay_spec {r n : Nat} (l : Int32) (hr : r < 8) (hn : n ≤ 40) (σ : jMem) : f_X6_lay (nI r) l (nI n) σ = some (jfill (jset (jset σ 11 r l) 12 r (nI n)) (3 + r) 0 n) := by
  unfold f_X6_lay
  rw [jst_eq hr (by omega), jst_eq hr (by omega)]
  generalize jset (jset σ 11 r l) 12 r (nI n) = τ
  have hloop : X6_lay_L17 (nI r) (nI n) jFU (0 : Int32) τ = some ((), jfill τ (3 + r) 0 n) := by
    have := jloop_run (body := fun rec s σ => X6_lay_L17_b (nI r) (nI n) rec s σ) (fun i => nI i) (fun i => jfill τ (3 + r) 0 i) n ((), jfill τ (3 + r) 0 n) ?_ ?_ jFU (by unfold jFU; omega)
    · simp only [jfill_0] at this
      exact this
    · intro i hi rec
      show X6_lay_L17_b _ _ _ _ _ = _
      unfold X6_lay_L17_b
      rw [if_neg (fun q => absurd ((nI_leI (by omega) (by omega)).mp q) (by omega)), jldr_eq hr (by omega), jst_eq (by omega) (by omega), nI_1, Nat.one_mul]
      have := jfill_s τ (3 + r) 0 i
      rw [Nat.zero_add] at this
      rw [this]
    · intro rec
      show X6_lay_L17_b _ _ _ _ _ = _
      unfold X6_lay_L17_b
      rw [if_pos (nI_le (Nat.le_refl n) (by omega))]
  rw [hloop]
  rfl
theorem rowL_spec {r : Nat} (n : Int32) (hr : r < 8) (σ : jMem) : X12_row_L65 (nI r) n jFU (0 : Int32) σ = some ((), jfill σ 92 (40 * r) 40) := by
  have := jloop_run (body := fun rec s σ => X12_row_L65_b (nI r) n rec s σ) (fun i => nI i) (fun i => jfill σ 92 (40 * r) i) 40 ((), jfill σ 92 (40 * r) 40) ?_ ?_ jFU (by unfold jFU; omega)
  · simp only [jfill_0] at this
    exact this
  · intro i hi rec
    show X12_row_L65_b _ _ _ _ _ = _
    unfold X12_row_L65_b
    have h1 := jfill_s σ 92 (40 * r) i
    simp (disch := omega) only [nlit, nI_leI, if_neg, pk_mul, nI_add, jst_eq] at h1 ⊢
    rw [h1]
  · intro rec
    show X12_row_L65_b _ _ _ _ _ = _
    unfold X12_row_L65_b
    rw [if_pos (show (40 : Int32) ≤ nI 40 by decide)]
/-- a row's relation, by the places that it speaks of -/
theorem RRow.keep {σ σ' : jMem} {r : Nat} (h : RRow σ r) (e1 : σ'.1 12 r = σ.1 12 r) (e2 : σ'.1 90 r = σ.1 90 r) (e3 : σ'.1 91 r = σ.1 91 r) (e4 : σ'.1 11 r = σ.1 11 r) (e5 : ∀ i, i < 40 → σ'.1 (3 + r) i = σ.1 (3 + r) i) (e6 : ∀ i, i < 40 → σ'.1 92 (40 * r + i) = σ.1 92 (40 * r + i)) : RRow σ' r := by
  rcases h with ⟨h1, h2⟩ | ⟨n, l, h1, h2, h3, h4, h5, h6, h7⟩
  · exact Or.inl ⟨by rw [e1]; exact h1, by rw [e2]; exact h2⟩
  · exact Or.inr ⟨n, l, h1, h2, by rw [e1]; exact h3, by rw [e3]; exact h4, by rw [e4]; exact h5, by rw [e2]; exact h6, fun i hi => by rw [e5 i (by omega), e6 i (by omega)]; exact h7 i hi⟩
/-- rows and status changed, all else as it was -/
theorem RInv.rows {σ σ' : jMem} {A : aP} (h : RInv σ A) (hr : RRows σ') (hs : σ'.1 0 12 = σ'.1 89 1) (e : ∀ c j, ¬ scr c j → ¬ (3 ≤ c ∧ c ≤ 12) → ¬ (90 ≤ c ∧ c ≤ 92) → ¬ (c = 0 ∧ j = 12) → ¬ (c = 89 ∧ j = 1) → σ'.1 c j = σ.1 c j) (e2 : σ'.2 = σ.2) : RInv σ' A := by
  obtain ⟨h1, h2, ⟨w1, w2, w3, w4⟩, h4, h5, h6, h7, h8⟩ := h
  have E : ∀ c j, (¬ scr c j ∧ ¬ (3 ≤ c ∧ c ≤ 12) ∧ ¬ (90 ≤ c ∧ c ≤ 92) ∧ ¬ (c = 0 ∧ j = 12) ∧ ¬ (c = 89 ∧ j = 1)) → σ'.1 c j = σ.1 c j := fun c j q => e c j q.1 q.2.1 q.2.2.1 q.2.2.2.1 q.2.2.2.2
  exact ⟨hr, h2.congr (fun j hj => E 13 j (by unfold scr; omega)) (fun j => E 14 j (by unfold scr; omega)) (fun j hj => E 89 j (by unfold scr; omega)) (fun j => E 97 j (by unfold scr; omega)), ⟨w1, w2, w3.congr (fun c j a b => E c j (by unfold scr; omega)), w4.congr (r' := 93) (o' := 0) w1.b (fun j _ => E 93 _ (by unfold scr; omega))⟩, h4.congr ⟨E 0 7 (by unfold scr; omega), E 0 8 (by unfold scr; omega), E 89 9 (by unfold scr; omega)⟩ (fun c j a b => E c j (by unfold scr; omega)) (fun j => E 96 j (by unfold scr; omega)), fun j hj => (h5 j hj).congr hj (fun c i a b => E c i (by unfold scr; omega)) (fun i => E 99 i (by unfold scr; omega)) (fun i => E 100 i (by unfold scr; omega)), h6.congr (E 86 3 (by unfold scr; omega)) (fun j => E 87 j (by unfold scr; omega)) (E 89 26 (by unfold scr; omega)) (fun j => E 101 j (by unfold scr; omega)), hs, h8.congr (fun n => by rw [e2])⟩
/-- a finding on both sides -/
theorem RInv.found {σ : jMem} {A : aP} (h : RInv σ A) (f : Int32) {τ : jMem} (hτ : sEq σ τ) : RInv (jset (jset τ 0 12 f) 89 1 f) A := by
  have g := h.congr hτ
  refine g.rows (fun r hr => (g.1 r hr).congr hr (fun c j a b => ?_) (fun c j a b => ?_)) (by simp [jset_app]) (fun c j h1 h2 h3 h4 h5 => ?_) rfl
  · simp only [jset_app]; rw [if_neg (by omega), if_neg (by omega)]
  · simp only [jset_app]; rw [if_neg (by omega), if_neg (by omega)]
  · simp only [jset_app]; rw [if_neg (by omega), if_neg (by omega)]
theorem jset_o {σ : jMem} {k j : Nat} {v : Int32} {a b : Nat} (h : ¬ (a = k ∧ b = j)) : (jset σ k j v).1 a b = σ.1 a b := if_neg h
theorem jset_i {σ : jMem} {k j : Nat} {v : Int32} : (jset σ k j v).1 k j = v := if_pos ⟨rfl, rfl⟩
theorem jset_e {σ : jMem} {k j : Nat} {v : Int32} {a b : Nat} (h : a = k ∧ b = j) : (jset σ k j v).1 a b = v := if_pos h
theorem jfill_o {σ : jMem} {c o n a b : Nat} (h : ¬ (a = c ∧ o ≤ b ∧ b < o + n)) : (jfill σ c o n).1 a b = σ.1 a b := if_neg h
theorem jfill_i {σ : jMem} {c o n a b : Nat} (h : a = c ∧ o ≤ b ∧ b < o + n) : (jfill σ c o n).1 a b = 0 := if_pos h
theorem jcpy_o {σ : jMem} {x sp y dp n a b : Nat} (h : ¬ (a = y ∧ dp ≤ b ∧ b < dp + n)) : (jcpy σ x sp y dp n).1 a b = σ.1 a b := if_neg h
theorem jcpy_i {σ : jMem} {x sp y dp n a b : Nat} (h : a = y ∧ dp ≤ b ∧ b < dp + n) : (jcpy σ x sp y dp n).1 a b = σ.1 x (sp + (b - dp)) := if_pos h
