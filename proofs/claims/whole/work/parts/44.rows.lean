/-! ===== PURE: set, copy ===== -/
theorem nI_ne_m1 {n : Nat} (h : n < 2 ^ 31) : ¬ nI n = -1 := by
  intro q
  have := congrArg Int32.toInt q
  rw [nI_toInt h] at this
  have e : (-1 : Int32).toInt = -1 := rfl
  omega
def jcut (l : Nat) (v : Int32) : Int32 := if l = 0 then v.toInt8.toInt32 else if l = 1 then v.toInt16.toInt32 else v
theorem put_spec {r i l : Nat} {v : Int32} {σ : jMem} (hr : r < 8) (hi : i < 40) (hl : l ≤ 2) (h : σ.1 11 r = nI l) : f_X6_put (nI r) (nI i) v σ = some (jcut l v, jset σ (3 + r) i (jcut l v)) := by
  unfold f_X6_put
  rw [jld_eq hr (by omega), h, jj_eq]
  rcases (show l = 0 ∨ l = 1 ∨ l = 2 by omega) with rfl | rfl | rfl
  · rw [if_neg (by decide)]
    dsimp only
    rw [jldr_eq hr (by omega), jst_eq hi (by omega), Nat.one_mul]
    rfl
  · rw [if_pos (by decide), jld_eq hr (by omega), h, if_neg (by decide)]
    dsimp only
    rw [jldr_eq hr (by omega), jst_eq hi (by omega), Nat.one_mul]
    rfl
  · rw [if_pos (by decide), jld_eq hr (by omega), h, if_pos (by decide)]
    dsimp only
    rw [jldr_eq hr (by omega), jst_eq hi (by omega), Nat.one_mul]
    rfl
/-- whether n items from i on are there -/
theorem has_spec {r s : Nat} {i n : Int32} {σ : jMem} (hr : r < 8) (hs : s ≤ 40) (h : σ.1 12 r = nI s) : f_X6_has (nI r) i n σ = some (if 0 ≤ i.toInt ∧ 0 ≤ n.toInt ∧ i.toInt + n.toInt ≤ s then 1 else 0, σ) := by
  unfold f_X6_has
  have e0 : (0 : Int32).toInt = 0 := rfl
  by_cases h1 : i < 0
  · rw [if_pos h1]
    rw [pI_lt] at h1
    rw [if_neg (by omega)]
  · rw [if_neg h1]
    by_cases h2 : n < 0
    · rw [if_pos h2]
      rw [pI_lt] at h2
      rw [if_neg (by omega)]
    · rw [if_neg h2, jld_eq hr (by omega), h]
      by_cases h3 : nI s < i
      · rw [if_pos h3]
        rw [pI_lt] at h1 h2 h3
        rw [nI_toInt (by omega)] at h3
        rw [if_neg (by omega)]
      · rw [if_neg h3, jld_eq hr (by omega), h]
        rw [pI_lt] at h1 h2 h3
        rw [nI_toInt (by omega)] at h3
        obtain ⟨k, hk, rfl⟩ := nI_of (x := i) (fun q => h1 ((pI_lt i 0).mp q))
        rw [nI_toInt hk] at h1 h3 ⊢
        rw [pk_sub (by omega)]
        by_cases h4 : nI (s - k) < n
        · rw [if_pos h4]
          rw [pI_lt, nI_toInt (by omega)] at h4
          rw [if_neg (by omega)]
        · rw [if_neg h4]
          rw [pI_lt, nI_toInt (by omega)] at h4
          rw [if_pos (by omega)]
theorem missing_y {r : Nat} {σ : jMem} (hr : r < 8) (h : σ.1 12 r = -1) : f_X6_isMissing (nI r) σ = some (1, σ) := by
  unfold f_X6_isMissing
  rw [jld_eq hr (by omega), h]
  rfl
theorem missing_n {r s : Nat} {σ : jMem} (hr : r < 8) (hs : s ≤ 40) (h : σ.1 12 r = nI s) : f_X6_isMissing (nI r) σ = some (0, σ) := by
  unfold f_X6_isMissing
  rw [jld_eq hr (by omega), h, if_pos (nI_ne_m1 (by omega))]
theorem amiss_m {r : Nat} {i n : Int32} {σ : jMem} (hr : r < 8) (h : σ.1 12 r = -1) : f_X6_amiss (nI r) i n σ = some (1, σ) := by
  unfold f_X6_amiss
  rw [missing_y hr h]
  rfl
theorem amiss_n {r s : Nat} {i n : Int32} {σ : jMem} (hr : r < 8) (hs : s ≤ 40) (h : σ.1 12 r = nI s) : f_X6_amiss (nI r) i n σ = some (if 0 ≤ i.toInt ∧ 0 ≤ n.toInt ∧ i.toInt + n.toInt ≤ s then 0 else 2, σ) := by
  unfold f_X6_amiss
  rw [missing_n hr hs h, jbd_eq, if_pos rfl, has_spec hr hs h, jbd_eq]
  by_cases c : 0 ≤ i.toInt ∧ 0 ≤ n.toInt ∧ i.toInt + n.toInt ≤ s
  · rw [if_pos c, if_pos c, if_neg (by decide)]
  · rw [if_neg c, if_neg c, if_pos rfl]
theorem sim_set_ok : sim_set Inv := by
  rintro σ a1 a2 a3 ⟨A, h⟩
  rcases pI_split a1 8 (by omega) with ⟨r, hr, rfl⟩ | ho
  · rcases h.1 r hr with ⟨h1, h2⟩ | ⟨n, l, hn, hl, h3, h4, h5, h6, h7⟩
    · refine ⟨-1000010 - 1, jset σ 0 12 1, jset (jset (jset (jset σ 0 12 1) 89 0 0) 89 1 0) 89 1 1, ?_, ?_, A, ?_⟩
      · unfold f_X11_set
        rw [isRow_in hr, jbd_eq, if_pos (by decide), amiss_m hr h1]
        rfl
      · unfold f_X12_set
        rw [jlet_eq, isRowR_in hr, jbd_eq, if_pos (by decide), jlet_eq, jld_eq hr (by omega)]
        repeat rw [jset_o (by omega)]
        rw [h2]
        rfl
      · rw [jset_same, jset_comm0 σ 0 12 89 0 1 0 (by omega)]
        exact h.found 1 ((sEq.refl σ).set scr0)
    · have esub : (nI n - 1 : Int32).toInt = (n : Int) - 1 := pk_sub_toInt (b := 1) (by omega) (by omega)
      have hin : ∀ τ : jMem, f_X12_in a2.toInt64 (0 : Int64) (nI n - 1).toInt64 τ = some (if 0 ≤ a2.toInt ∧ a2.toInt ≤ (n : Int) - 1 then 1 else 0, τ) := by
        intro τ
        rw [show (0 : Int64) = (0 : Int32).toInt64 from rfl, in32, esub]
        rfl
      have e1 : (1 : Int32).toInt = 1 := rfl
      rcases pI_split a2 n (by omega) with ⟨i, hi, rfl⟩ | ho2
      · have hti : (nI i).toInt = i := nI_toInt (by omega)
        refine ⟨jcut l a3, jset (jset σ (3 + r) i (jcut l a3)) 0 12 0, jset (jset (jset (jset (jset σ (3 + r) i (jcut l a3)) 0 12 0) 89 0 0) 89 1 0) 92 (40 * r + i) (jcut l a3), ?_, ?_, A, ?_⟩
        · unfold f_X11_set
          rw [isRow_in hr, jbd_eq, if_pos (by decide), amiss_n hr hn h3, if_pos (by omega), jbd_eq, if_pos rfl, put_spec hr (by omega) hl h5]
          rfl
        · unfold f_X12_set
          rw [jlet_eq, isRowR_in hr, jbd_eq, if_pos (by decide), jlet_eq, jld_eq hr (by omega)]
          generalize hτ : jset (jset (jset (jset σ (3 + r) i (jcut l a3)) 0 12 0) 89 0 0) 89 1 0 = τ
          have g90 : τ.1 90 r = nI l := by
            rw [← hτ]
            repeat rw [jset_o (by omega)]
            exact h6
          have g91 : τ.1 91 r = nI n := by
            rw [← hτ]
            repeat rw [jset_o (by omega)]
            exact h4
          rw [g90, if_pos (nI_pos' (by omega)), jld_eq hr (by omega), g91, hin, hti, if_pos (by omega), jbd_eq, if_pos (by decide), jld_eq hr (by omega), g90, jj_eq, show (40 : Int32) = nI 40 from rfl, pk_mul, nI_add]
          rcases (show l = 0 ∨ l = 1 ∨ l = 2 by omega) with rfl | rfl | rfl
          · rw [if_neg (by decide)]
            dsimp only
            rw [jst_eq (by omega) (by omega), jld_eq (by omega) (by omega), jset_i]
            rfl
          · rw [if_pos (by decide), jld_eq hr (by omega), g90, if_neg (by decide)]
            dsimp only
            rw [jst_eq (by omega) (by omega), jld_eq (by omega) (by omega), jset_i]
            rfl
          · rw [if_pos (by decide), jld_eq hr (by omega), g90, if_pos (by decide)]
            dsimp only
            rw [jst_eq (by omega) (by omega), jld_eq (by omega) (by omega), jset_i]
            rfl
        · refine h.rows (fun q hq => ?_) ?_ (fun c j g1 g2 g3 g4 g5 => ?_) rfl
          · by_cases hqr : q = r
            · subst hqr
              right
              refine ⟨n, l, hn, hl, ?_, ?_, ?_, ?_, fun j hj => ?_⟩
              · repeat rw [jset_o (by omega)]
                exact h3
              · repeat rw [jset_o (by omega)]
                exact h4
              · repeat rw [jset_o (by omega)]
                exact h5
              · repeat rw [jset_o (by omega)]
                exact h6
              · by_cases hji : j = i
                · subst hji
                  rw [jset_o (by omega), jset_o (by omega), jset_o (by omega), jset_o (by omega), jset_i, jset_i]
                · rw [jset_o (by omega), jset_o (by omega), jset_o (by omega), jset_o (by omega), jset_o (by omega), jset_o (by omega), jset_o (by omega), jset_o (by omega), jset_o (by omega), jset_o (by omega)]
                  exact h7 j hj
            · refine (h.1 q hq).keep ?_ ?_ ?_ ?_ (fun i hi => ?_) (fun i hi => ?_) <;> repeat rw [jset_o (by omega)]
          · rw [jset_o (by omega), jset_o (by omega), jset_o (by omega), jset_i, jset_o (by omega), jset_i]
          · have g6 : ¬ (c = 89 ∧ j = 0) := fun z => g1 (by rw [z.1, z.2]; exact scr0)
            repeat rw [jset_o (by omega)]
      · refine ⟨-1000010 - 2, jset σ 0 12 2, jset (jset (jset (jset σ 0 12 2) 89 0 0) 89 1 0) 89 1 2, ?_, ?_, A, ?_⟩
        · unfold f_X11_set
          rw [isRow_in hr, jbd_eq, if_pos (by decide), amiss_n hr hn h3, if_neg (by omega), jbd_eq, if_neg (by decide)]
          rfl
        · unfold f_X12_set
          rw [jlet_eq, isRowR_in hr, jbd_eq, if_pos (by decide), jlet_eq, jld_eq hr (by omega)]
          repeat rw [jset_o (by omega)]
          rw [h6, if_pos (nI_pos' (by omega)), jld_eq hr (by omega)]
          repeat rw [jset_o (by omega)]
          rw [h4, hin, if_neg (by omega), jbd_eq, if_neg (by decide)]
          rfl
        · rw [jset_same, jset_comm0 σ 0 12 89 0 2 0 (by omega)]
          exact h.found 2 ((sEq.refl σ).set scr0)
  · refine ⟨-1000001, σ, jset σ 89 0 0, ?_, ?_, h.bad⟩
    · unfold f_X11_set
      rw [isRow_out ho]
      rfl
    · unfold f_X12_set
      rw [jlet_eq, isRowR_out ho]
      rfl
