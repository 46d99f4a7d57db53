/-! ===== PURE: copy ===== -/
theorem i32_range (x : Int32) : -2147483648 ≤ x.toInt ∧ x.toInt ≤ 2147483647 := by
  have h1 := Int32.le_toInt x
  have h2 := Int32.toInt_lt x
  omega
theorem add64 (x y : Int32) : (x.toInt64 + y.toInt64).toInt = x.toInt + y.toInt := by
  have h1 := i32_range x
  have h2 := i32_range y
  rw [Int64.toInt_add, Int32.toInt_toInt64, Int32.toInt_toInt64]
  unfold Int.bmod
  dsimp only
  split <;> omega
theorem cpy_up {τ : jMem} {sa sb n : Nat} (h : sb ≤ sa ∨ sa + n ≤ sb) {k : Nat} (hk : k < n) : jset (jcpy τ 92 sa 92 sb k) 92 (sb + k) ((jcpy τ 92 sa 92 sb k).1 92 (sa + k)) = jcpy τ 92 sa 92 sb (k + 1) := by
  have e : (jcpy τ 92 sa 92 sb k).1 92 (sa + k) = τ.1 92 (sa + k) := jcpy_o (by omega)
  rw [e]
  refine Prod.ext ?_ rfl
  funext x y
  simp only [jset, jcpy]
  by_cases c1 : x = 92 ∧ y = sb + k
  · rw [if_pos c1, if_pos (by omega), show sa + (y - sb) = sa + k by omega]
  · rw [if_neg c1]
    by_cases c2 : x = 92 ∧ sb ≤ y ∧ y < sb + k
    · rw [if_pos c2, if_pos (by omega)]
    · rw [if_neg c2, if_neg (by omega)]
theorem cpy_dn {τ : jMem} {sa sb n : Nat} (h : sa ≤ sb ∨ sb + n ≤ sa) {k : Nat} (hk : k < n) : jset (jcpy τ 92 (sa + (n - k)) 92 (sb + (n - k)) k) 92 (sb + (n - 1 - k)) ((jcpy τ 92 (sa + (n - k)) 92 (sb + (n - k)) k).1 92 (sa + (n - 1 - k))) = jcpy τ 92 (sa + (n - (k + 1))) 92 (sb + (n - (k + 1))) (k + 1) := by
  have e : (jcpy τ 92 (sa + (n - k)) 92 (sb + (n - k)) k).1 92 (sa + (n - 1 - k)) = τ.1 92 (sa + (n - 1 - k)) := jcpy_o (by omega)
  rw [e]
  refine Prod.ext ?_ rfl
  funext x y
  simp only [jset, jcpy]
  by_cases c1 : x = 92 ∧ y = sb + (n - 1 - k)
  · rw [if_pos c1, if_pos (by omega), show sa + (n - (k + 1)) + (y - (sb + (n - (k + 1)))) = sa + (n - 1 - k) by omega]
  · rw [if_neg c1]
    by_cases c2 : x = 92 ∧ sb + (n - k) ≤ y ∧ y < sb + (n - k) + k
    · rw [if_pos c2, if_pos (by omega), show sa + (n - (k + 1)) + (y - (sb + (n - (k + 1)))) = sa + (n - k) + (y - (sb + (n - k))) by omega]
    · rw [if_neg c2, if_neg (by omega)]
theorem jcpy_0 (σ : jMem) (a sp b dp : Nat) : jcpy σ a sp b dp 0 = σ := by
  refine Prod.ext ?_ rfl
  funext x y
  simp only [jcpy]
  rw [if_neg (by omega)]
theorem copyL_spec {a b i j n : Nat} (ha : a < 8) (hb : b < 8) (hi : i + n ≤ 40) (hj : j + n ≤ 40) (τ : jMem) : X12_copy_L143 (nI a) (nI i) (nI b) (nI j) (nI n) (if j ≤ i then 1 else 0) jFU (0 : Int32) τ = some ((), jcpy τ 92 (40 * a + i) 92 (40 * b + j) n) := by
  by_cases hji : j ≤ i
  · rw [if_pos hji]
    have := jloop_run (body := fun rec s σ => X12_copy_L143_b (nI a) (nI i) (nI b) (nI j) (nI n) 1 rec s σ) (fun k => nI k) (fun k => jcpy τ 92 (40 * a + i) 92 (40 * b + j) k) n ((), jcpy τ 92 (40 * a + i) 92 (40 * b + j) n) ?_ ?_ jFU (by unfold jFU; omega)
    · simp only [jcpy_0] at this
      exact this
    · intro k hk rec
      show X12_copy_L143_b _ _ _ _ _ _ _ _ _ = _
      unfold X12_copy_L143_b
      have h1 := cpy_up (τ := τ) (sa := 40 * a + i) (sb := 40 * b + j) (n := n) (by rcases Nat.lt_trichotomy a b with q | q | q <;> omega) hk
      simp (disch := omega) only [nlit, nI_leI, if_neg, jj_eq, nI_eq, pk_mul, nI_add, jld_eq, jst_eq]
      rw [h1]
    · intro rec
      show X12_copy_L143_b _ _ _ _ _ _ _ _ _ = _
      unfold X12_copy_L143_b
      rw [if_pos (nI_le (Nat.le_refl n) (by omega))]
  · rw [if_neg hji]
    have := jloop_run (body := fun rec s σ => X12_copy_L143_b (nI a) (nI i) (nI b) (nI j) (nI n) 0 rec s σ) (fun k => nI k) (fun k => jcpy τ 92 (40 * a + i + (n - k)) 92 (40 * b + j + (n - k)) k) n ((), jcpy τ 92 (40 * a + i) 92 (40 * b + j) n) ?_ ?_ jFU (by unfold jFU; omega)
    · simp only [jcpy_0] at this
      exact this
    · intro k hk rec
      show X12_copy_L143_b _ _ _ _ _ _ _ _ _ = _
      unfold X12_copy_L143_b
      have h1 := cpy_dn (τ := τ) (sa := 40 * a + i) (sb := 40 * b + j) (n := n) (by rcases Nat.lt_trichotomy a b with q | q | q <;> omega) hk
      simp (disch := omega) only [nlit, nI_leI, if_neg, if_pos, jj_eq, pk_mul, nI_add, pk_sub, jld_eq, jst_eq]
      rw [h1, if_pos trivial]
    · intro rec
      show X12_copy_L143_b _ _ _ _ _ _ _ _ _ = _
      unfold X12_copy_L143_b
      rw [if_pos (nI_le (Nat.le_refl n) (by omega)), Nat.sub_self]
      rfl
set_option maxHeartbeats 2000000 in
theorem sim_copy_ok : sim_copy Inv := by
  rintro σ a1 a2 a3 a4 a5 ⟨A, h⟩
  rcases pI_split a1 8 (by omega) with ⟨a, ha, rfl⟩ | ho
  · rcases pI_split a3 8 (by omega) with ⟨b, hb, rfl⟩ | ho3
    · -- both rows
      have fnd : ∀ f : Int32, Inv (jset (jset (jset (jset σ 0 12 f) 89 0 0) 89 1 0) 89 1 f) := fun f => ⟨A, by
        rw [jset_same, jset_comm0 σ 0 12 89 0 f 0 (by omega)]
        exact h.found f ((sEq.refl σ).set scr0)⟩
      rcases h.1 a ha with ⟨h1, h2⟩ | ⟨n, l, hn, hl, h3, h4, h5, h6, h7⟩
      · refine ⟨-1000010 - 1, jset σ 0 12 1, jset (jset (jset (jset σ 0 12 1) 89 0 0) 89 1 0) 89 1 1, ?_, ?_, fnd 1⟩
        · unfold f_X11_copy
          rw [isRow_in ha, jbd_eq, if_neg (by decide), isRow_in hb, jbd_eq, if_pos (by decide), missing_y ha h1]
          rfl
        · unfold f_X12_copy
          rw [jlet_eq, isRowR_in ha, jbd_eq, if_neg (by decide), isRowR_in hb, jbd_eq, if_pos (by decide), jlet_eq, jld_eq ha (by omega)]
          repeat rw [jset_o (by omega)]
          rw [h2]
          rfl
      · rcases h.1 b hb with ⟨g1, g2⟩ | ⟨n', l', hn', hl', g3, g4, g5, g6, g7⟩
        · refine ⟨-1000010 - 1, jset σ 0 12 1, jset (jset (jset (jset σ 0 12 1) 89 0 0) 89 1 0) 89 1 1, ?_, ?_, fnd 1⟩
          · unfold f_X11_copy
            rw [isRow_in ha, jbd_eq, if_neg (by decide), isRow_in hb, jbd_eq, if_pos (by decide), missing_n ha hn h3, jbd_eq, jj_eq, if_neg (by decide), missing_y hb g1]
            rfl
          · unfold f_X12_copy
            rw [jlet_eq, isRowR_in ha, jbd_eq, if_neg (by decide), isRowR_in hb, jbd_eq, if_pos (by decide), jlet_eq, jld_eq ha (by omega)]
            repeat rw [jset_o (by omega)]
            rw [h6, jj_eq, if_neg (nI_pos (by omega)), jld_eq hb (by omega)]
            repeat rw [jset_o (by omega)]
            rw [g2]
            rfl
        · by_cases hll : l = l'
          · subst hll
            -- the places
            by_cases hc : (0 ≤ a2.toInt ∧ 0 ≤ a5.toInt ∧ a2.toInt + a5.toInt ≤ n) ∧ (0 ≤ a4.toInt ∧ 0 ≤ a5.toInt ∧ a4.toInt + a5.toInt ≤ n')
            · obtain ⟨⟨c1, c2, c3⟩, c4, c5, c6⟩ := hc
              have e0 : (0 : Int32).toInt = 0 := rfl
              obtain ⟨i, hi', rfl⟩ := nI_of (x := a2) (fun q => by rw [pI_lt] at q; omega)
              obtain ⟨j, hj', rfl⟩ := nI_of (x := a4) (fun q => by rw [pI_lt] at q; omega)
              obtain ⟨m, hm', rfl⟩ := nI_of (x := a5) (fun q => by rw [pI_lt] at q; omega)
              rw [nI_toInt hi'] at c1 c3
              rw [nI_toInt hj'] at c4 c6
              rw [nI_toInt hm'] at c2 c3 c6
              refine ⟨nI m, jset (jcpy σ (3 + a) i (3 + b) j m) 0 12 0, jcpy (jset (jset (jset (jcpy σ (3 + a) i (3 + b) j m) 0 12 0) 89 0 0) 89 1 0) 92 (40 * a + i) 92 (40 * b + j) m, ?_, ?_, A, ?_⟩
              · unfold f_X11_copy
                rw [isRow_in ha, jbd_eq, if_neg (by decide), isRow_in hb, jbd_eq, if_pos (by decide), missing_n ha hn h3, jbd_eq, jj_eq, if_neg (by decide), missing_n hb hn' g3, jbd_eq, if_pos rfl, jld_eq ha (by omega), jld_eq hb (by omega), h5, g5, if_pos rfl, has_spec ha hn h3, nI_toInt hi', nI_toInt hm', if_pos (by omega), jbd_eq, jj_eq, if_neg (by decide), has_spec hb hn' g3, nI_toInt hj', nI_toInt hm', if_pos (by omega), jbd_eq, if_pos (by decide), jldr_eq ha (by omega), jldr_eq hb (by omega), Nat.one_mul, Nat.one_mul, jcp_eq (by omega) (by omega) (by omega) (by omega)]
                rfl
              · unfold f_X12_copy
                rw [jlet_eq, isRowR_in ha, jbd_eq, if_neg (by decide), isRowR_in hb, jbd_eq, if_pos (by decide), jlet_eq]
                generalize hτ : jset (jset (jset (jcpy σ (3 + a) i (3 + b) j m) 0 12 0) 89 0 0) 89 1 0 = τ
                have k90a : τ.1 90 a = nI l := by
                  rw [← hτ]
                  rw [jset_o (by omega), jset_o (by omega), jset_o (by omega), jcpy_o (by omega)]
                  exact h6
                have k90b : τ.1 90 b = nI l := by
                  rw [← hτ]
                  rw [jset_o (by omega), jset_o (by omega), jset_o (by omega), jcpy_o (by omega)]
                  exact g6
                have k91a : τ.1 91 a = nI n := by
                  rw [← hτ]
                  rw [jset_o (by omega), jset_o (by omega), jset_o (by omega), jcpy_o (by omega)]
                  exact h4
                have k91b : τ.1 91 b = nI n' := by
                  rw [← hτ]
                  rw [jset_o (by omega), jset_o (by omega), jset_o (by omega), jcpy_o (by omega)]
                  exact g4
                rw [jld_eq ha (by omega), k90a, jj_eq, if_neg (nI_pos (by omega)), jld_eq hb (by omega), k90b, if_pos (nI_pos' (by omega)), jld_eq ha (by omega), jld_eq hb (by omega), k90a, k90b, if_pos rfl, jj_eq, if_neg (nI_pos hi'), if_neg (nI_pos hj'), if_neg (nI_pos hm'), jld_eq ha (by omega), k91a]
                rw [if_neg (by
                  rw [q_gt0, Int64.lt_iff_toInt_lt, add64, Int32.toInt_toInt64, nI_toInt hi', nI_toInt hm', nI_toInt (by omega)]
                  omega), jld_eq hb (by omega), k91b, if_pos (by
                  rw [q_le0, Int64.le_iff_toInt_le, add64, Int32.toInt_toInt64, nI_toInt hj', nI_toInt hm', nI_toInt (by omega)]
                  omega), jj_eq]
                have hL := copyL_spec (i := i) (j := j) (n := m) ha hb (by omega) (by omega) τ
                by_cases hji : j ≤ i
                · rw [if_pos hji] at hL
                  rw [if_neg (fun q => absurd ((nI_ltI hi' hj').mp q) (by omega))]
                  dsimp only
                  rw [hL]
                  rfl
                · rw [if_neg hji] at hL
                  rw [if_pos ((nI_ltI hi' hj').mpr (by omega))]
                  dsimp only
                  rw [hL]
                  rfl
              · refine h.rows (fun q hq => ?_) ?_ (fun c j9 w1 w2 w3 w4 w5 => ?_) rfl
                · by_cases hqb : q = b
                  · subst hqb
                    right
                    refine ⟨n', l, hn', hl, ?_, ?_, ?_, ?_, fun x hx => ?_⟩
                    · rw [jcpy_o (by omega), jset_o (by omega), jset_o (by omega), jset_o (by omega), jcpy_o (by omega)]; exact g3
                    · rw [jcpy_o (by omega), jset_o (by omega), jset_o (by omega), jset_o (by omega), jcpy_o (by omega)]; exact g4
                    · rw [jcpy_o (by omega), jset_o (by omega), jset_o (by omega), jset_o (by omega), jcpy_o (by omega)]; exact g5
                    · rw [jcpy_o (by omega), jset_o (by omega), jset_o (by omega), jset_o (by omega), jcpy_o (by omega)]; exact g6
                    · rw [jcpy_o (a := 3 + q) (by omega), jset_o (by omega), jset_o (by omega), jset_o (by omega)]
                      by_cases hx2 : j ≤ x ∧ x < j + m
                      · rw [jcpy_i (by omega), jcpy_i (a := 92) (by omega), jset_o (by omega), jset_o (by omega), jset_o (by omega), jcpy_o (by omega), show 40 * a + i + (40 * q + x - (40 * q + j)) = 40 * a + (i + (x - j)) by omega]
                        exact h7 _ (by omega)
                      · rw [jcpy_o (by omega), jcpy_o (a := 92) (by omega), jset_o (by omega), jset_o (by omega), jset_o (by omega), jcpy_o (by omega)]
                        exact g7 x hx
                  · refine (h.1 q hq).keep ?_ ?_ ?_ ?_ (fun x hx => ?_) (fun x hx => ?_) <;> rw [jcpy_o (by omega), jset_o (by omega), jset_o (by omega), jset_o (by omega), jcpy_o (by omega)]
                · rw [jcpy_o (by omega), jset_o (by omega), jset_o (by omega), jset_i, jcpy_o (by omega), jset_i]
                · have w6 : ¬ (c = 89 ∧ j9 = 0) := fun z => w1 (by rw [z.1, z.2]; exact scr0)
                  rw [jcpy_o (by omega), jset_o (by omega), jset_o (by omega), jset_o (by omega), jcpy_o (by omega)]
            · refine ⟨-1000010 - 2, jset σ 0 12 2, jset (jset (jset (jset σ 0 12 2) 89 0 0) 89 1 0) 89 1 2, ?_, ?_, fnd 2⟩
              · unfold f_X11_copy
                rw [isRow_in ha, jbd_eq, if_neg (by decide), isRow_in hb, jbd_eq, if_pos (by decide), missing_n ha hn h3, jbd_eq, jj_eq, if_neg (by decide), missing_n hb hn' g3, jbd_eq, if_pos rfl, jld_eq ha (by omega), jld_eq hb (by omega), h5, g5, if_pos rfl, has_spec ha hn h3]
                by_cases d1 : 0 ≤ a2.toInt ∧ 0 ≤ a5.toInt ∧ a2.toInt + a5.toInt ≤ n
                · rw [if_pos d1, jbd_eq, jj_eq, if_neg (by decide), has_spec hb hn' g3, if_neg (fun d2 => hc ⟨d1, d2⟩), jbd_eq, if_neg (by decide)]
                  rfl
                · rw [if_neg d1, jbd_eq, jj_eq, if_pos rfl]
                  rfl
              · unfold f_X12_copy
                rw [jlet_eq, isRowR_in ha, jbd_eq, if_neg (by decide), isRowR_in hb, jbd_eq, if_pos (by decide), jlet_eq]
                have k90a : (jset (jset (jset σ 0 12 2) 89 0 0) 89 1 0).1 90 a = nI l := by
                  repeat rw [jset_o (by omega)]
                  exact h6
                have k90b : (jset (jset (jset σ 0 12 2) 89 0 0) 89 1 0).1 90 b = nI l := by
                  repeat rw [jset_o (by omega)]
                  exact g6
                have k91a : (jset (jset (jset σ 0 12 2) 89 0 0) 89 1 0).1 91 a = nI n := by
                  repeat rw [jset_o (by omega)]
                  exact h4
                have k91b : (jset (jset (jset σ 0 12 2) 89 0 0) 89 1 0).1 91 b = nI n' := by
                  repeat rw [jset_o (by omega)]
                  exact g4
                rw [jld_eq ha (by omega), k90a, jj_eq, if_neg (nI_pos (by omega)), jld_eq hb (by omega), k90b, if_pos (nI_pos' (by omega)), jld_eq ha (by omega), jld_eq hb (by omega), k90a, k90b, if_pos rfl, jj_eq]
                have e0 : (0 : Int32).toInt = 0 := rfl
                by_cases d1 : a2 < 0
                · rw [if_pos d1]; rfl
                · rw [if_neg d1]
                  by_cases d2 : a4 < 0
                  · rw [if_pos d2]; rfl
                  · rw [if_neg d2]
                    by_cases d3 : a5 < 0
                    · rw [if_pos d3]; rfl
                    · rw [if_neg d3, jld_eq ha (by omega), k91a]
                      rw [pI_lt] at d1 d2 d3
                      by_cases d4 : a2.toInt + a5.toInt ≤ n
                      · rw [if_neg (by rw [q_gt0, Int64.lt_iff_toInt_lt, add64, Int32.toInt_toInt64, nI_toInt (by omega)]; omega), jld_eq hb (by omega), k91b, if_neg (by rw [q_le0, Int64.le_iff_toInt_le, add64, Int32.toInt_toInt64, nI_toInt (by omega)]; omega)]
                        rfl
                      · rw [if_pos (by rw [q_gt0, Int64.lt_iff_toInt_lt, add64, Int32.toInt_toInt64, nI_toInt (by omega)]; omega)]
                        rfl
          · refine ⟨-1000010 - 5, jset σ 0 12 5, jset (jset (jset (jset σ 0 12 5) 89 0 0) 89 1 0) 89 1 5, ?_, ?_, fnd 5⟩
            · unfold f_X11_copy
              rw [isRow_in ha, jbd_eq, if_neg (by decide), isRow_in hb, jbd_eq, if_pos (by decide), missing_n ha hn h3, jbd_eq, jj_eq, if_neg (by decide), missing_n hb hn' g3, jbd_eq, if_pos rfl, jld_eq ha (by omega), jld_eq hb (by omega), h5, g5, if_neg (fun q => hll ((nI_eq (by omega) (by omega)).mp q))]
              rfl
            · unfold f_X12_copy
              rw [jlet_eq, isRowR_in ha, jbd_eq, if_neg (by decide), isRowR_in hb, jbd_eq, if_pos (by decide), jlet_eq]
              have k90a : (jset (jset (jset σ 0 12 5) 89 0 0) 89 1 0).1 90 a = nI l := by
                repeat rw [jset_o (by omega)]
                exact h6
              have k90b : (jset (jset (jset σ 0 12 5) 89 0 0) 89 1 0).1 90 b = nI l' := by
                repeat rw [jset_o (by omega)]
                exact g6
              rw [jld_eq ha (by omega), k90a, jj_eq, if_neg (nI_pos (by omega)), jld_eq hb (by omega), k90b, if_pos (nI_pos' (by omega)), jld_eq ha (by omega), jld_eq hb (by omega), k90a, k90b, if_neg (fun q => hll ((nI_eq (by omega) (by omega)).mp q))]
              rfl
    · refine ⟨-1000001, σ, jset σ 89 0 0, ?_, ?_, h.bad⟩
      · unfold f_X11_copy
        rw [isRow_in ha, jbd_eq, if_neg (by decide), isRow_out ho3]
        rfl
      · unfold f_X12_copy
        rw [jlet_eq, isRowR_in ha, jbd_eq, if_neg (by decide), isRowR_out ho3]
        rfl
  · refine ⟨-1000001, σ, jset σ 89 0 0, ?_, ?_, h.bad⟩
    · unfold f_X11_copy
      rw [isRow_out ho]
      rfl
    · unfold f_X12_copy
      rw [jlet_eq, isRowR_out ho]
      rfl
