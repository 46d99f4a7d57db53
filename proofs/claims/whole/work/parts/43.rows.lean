/-! ===== PURE: row, set, copy, drop, feed, trace ===== -/
theorem RInv.t0 {σ : jMem} {A : aP} (h : RInv σ A) : RInv (jset σ 89 0 0) A := h.congr ((sEq.refl σ).set scr0)
theorem in_nat (a : Int32) (b c : Nat) (hb : b < 2 ^ 31) (hc : c < 2 ^ 31) (σ : jMem) : f_X12_in a.toInt64 (nI b).toInt64 (nI c).toInt64 σ = some (if (b : Int) ≤ a.toInt ∧ a.toInt ≤ c then 1 else 0, σ) := by
  rw [in32, nI_toInt hb, nI_toInt hc]
theorem nlitL (n : Nat) : (OfNat.ofNat n : Int64) = lN n := rfl
theorem lN_of (n : Nat) (h : n < 2 ^ 31) : lN n = (nI n).toInt64 := (nI_l h).symm
theorem in_lit (a : Int32) (b c : Nat) (hb : b < 2 ^ 31) (hc : c < 2 ^ 31) (σ : jMem) : f_X12_in a.toInt64 (lN b) (lN c) σ = some (if (b : Int) ≤ a.toInt ∧ a.toInt ≤ c then 1 else 0, σ) := by
  rw [lN_of b hb, lN_of c hc]; exact in_nat a b c hb hc σ
theorem RInv.bad {σ : jMem} {A : aP} (h : RInv σ A) : Inv (jset σ 89 0 0) := ⟨A, h.t0⟩
theorem jset_comm0 (σ : jMem) (k j a b : Nat) (v w : Int32) (h : ¬ (a = k ∧ b = j)) : jset (jset σ k j v) a b w = jset (jset σ a b w) k j v := by
  refine Prod.ext ?_ rfl
  funext x y
  simp only [jset]
  by_cases h1 : x = a ∧ y = b
  · rw [if_pos h1, if_neg (by omega), if_pos h1]
  · rw [if_neg h1, if_neg h1]
theorem jset_same (σ : jMem) (k j : Nat) (v w : Int32) : jset (jset σ k j v) k j w = jset σ k j w := by
  refine Prod.ext ?_ rfl
  funext x y
  simp only [jset]
  by_cases h1 : x = k ∧ y = j
  · rw [if_pos h1, if_pos h1]
  · rw [if_neg h1, if_neg h1, if_neg h1]
theorem sim_row_ok : sim_row Inv := by
  rintro σ a1 a2 a3 ⟨A, h⟩
  rcases pI_split a1 8 (by omega) with ⟨r, hr, rfl⟩ | ho
  · rcases pI_split a2 3 (by omega) with ⟨l, hl, rfl⟩ | ho2
    · by_cases h40 : a3 ≤ 40
      · by_cases h0 : 0 ≤ a3
        · obtain ⟨n, hn, rfl⟩ : ∃ n, n ≤ 40 ∧ a3 = nI n := nI_of2 (M := 40) (n := 40) rfl (Int32.not_lt.mpr h0) h40
          refine ⟨nI n, jset (jfill (jset (jset σ 11 r (nI l)) 12 r (nI n)) (3 + r) 0 n) 0 12 0, jfill (jset (jset (jset (jset (jset (jfill (jset (jset σ 11 r (nI l)) 12 r (nI n)) (3 + r) 0 n) 0 12 0) 89 0 0) 89 1 0) 90 r (nI l)) 91 r (nI n)) 92 (40 * r) 40, ?_, ?_, A, ?_⟩
          · unfold f_X11_row
            rw [isRow_in hr]
            simp (disch := omega) only [nlit, jbd_eq, nI_eq, nI_ltI, nI_leI, if_neg, if_pos]
            rw [lay_spec _ hr hn]
            rfl
          · unfold f_X12_row
            rw [jlet_eq, isRowR_in hr]
            simp (disch := omega) only [nlit, nlitL, jbd_eq, nI_eq, if_neg]
            rw [in_lit _ _ _ (by omega) (by omega), nI_toInt (by omega), if_pos (by omega)]
            simp (disch := omega) only [nlit, jbd_eq, nI_eq, nI_ltI, nI_leI, if_neg, if_pos, jlet_eq, jst_eq]
            rw [show nI 0 = (0 : Int32) from rfl, rowL_spec _ hr]
            rfl
          · refine h.rows (fun q hq => ?_) rfl (fun c j g1 g2 g3 g4 g5 => ?_) rfl
            · by_cases hqr : q = r
              · subst hqr
                right
                refine ⟨n, l, hn, by omega, ?_, ?_, ?_, ?_, fun i hi => ?_⟩
                · repeat (first | rw [jset_o (by omega)] | rw [jfill_o (by omega)])
                  rw [jset_i]
                · repeat (first | rw [jset_o (by omega)] | rw [jfill_o (by omega)])
                  rw [jset_i]
                · repeat (first | rw [jset_o (by omega)] | rw [jfill_o (by omega)])
                  rw [jset_i]
                · repeat (first | rw [jset_o (by omega)] | rw [jfill_o (by omega)])
                  rw [jset_i]
                · refine Eq.trans (b := (0 : Int32)) ?_ (Eq.symm ?_)
                  · repeat (first | rw [jset_o (by omega)] | rw [jfill_o (by omega)])
                    rw [jfill_i (by omega)]
                  · rw [jfill_i (by omega)]
              · refine (h.1 q hq).keep ?_ ?_ ?_ ?_ (fun i hi => ?_) (fun i hi => ?_) <;> repeat (first | rw [jset_o (by omega)] | rw [jfill_o (by omega)])
            · have g6 : ¬ (c = 89 ∧ j = 0) := fun z => g1 (by rw [z.1, z.2]; exact scr0)
              repeat (first | rw [jset_o (by omega)] | rw [jfill_o (by omega)])
        · refine ⟨-1000010 - 4, jset σ 0 12 4, jset (jset (jset (jset σ 0 12 4) 89 0 0) 89 1 0) 89 1 4, ?_, ?_, A, ?_⟩
          · unfold f_X11_row
            rw [isRow_in hr, jbd_eq, if_neg (by decide), if_neg (nI_pos (by omega)), if_neg (by simp (disch := omega) only [nlit, nI_ltI]; omega), if_pos h40, if_neg h0]
            rfl
          · unfold f_X12_row
            rw [jlet_eq, isRowR_in hr]
            simp (disch := omega) only [nlitL, jbd_eq]
            rw [if_neg (by decide), in_lit _ _ _ (by omega) (by omega), nI_toInt (by omega), if_pos (by omega), jbd_eq, if_neg (by decide), if_pos h40, jlet_eq, if_neg h0]
            rfl
          · rw [jset_same, jset_comm0 σ 0 12 89 0 4 0 (by omega)]
            exact h.found 4 ((sEq.refl σ).set scr0)
      · refine ⟨-1000001, σ, jset σ 89 0 0, ?_, ?_, h.bad⟩
        · unfold f_X11_row
          rw [isRow_in hr, jbd_eq, if_neg (by decide), if_neg (nI_pos (by omega)), if_neg (by simp (disch := omega) only [nlit, nI_ltI]; omega), if_neg h40]
        · unfold f_X12_row
          rw [jlet_eq, isRowR_in hr]
          simp (disch := omega) only [nlitL, jbd_eq]
          rw [if_neg (by decide), in_lit _ _ _ (by omega) (by omega), nI_toInt (by omega), if_pos (by omega), jbd_eq, if_neg (by decide), if_neg h40]
    · refine ⟨-1000001, σ, jset σ 89 0 0, ?_, ?_, h.bad⟩
      · unfold f_X11_row
        rw [isRow_in hr, jbd_eq, if_neg (by decide)]
        by_cases q : a2 < 0
        · rw [if_pos q]
        · rw [if_neg q, if_pos]
          rw [pI_lt] at q ⊢
          have e1 : (0 : Int32).toInt = 0 := rfl
          have e2 : (2 : Int32).toInt = 2 := rfl
          omega
      · unfold f_X12_row
        rw [jlet_eq, isRowR_in hr]
        simp (disch := omega) only [nlitL, jbd_eq]
        rw [if_neg (by decide), in_lit _ _ _ (by omega) (by omega), if_neg (by omega), jbd_eq, if_pos rfl]
  · refine ⟨-1000001, σ, jset σ 89 0 0, ?_, ?_, h.bad⟩
    · unfold f_X11_row
      rw [isRow_out ho]
      rfl
    · unfold f_X12_row
      rw [jlet_eq, isRowR_out ho]
      rfl
theorem sim_drop_ok : sim_drop Inv := by
  rintro σ a1 ⟨A, h⟩
  rcases pI_split a1 8 (by omega) with ⟨r, hr, rfl⟩ | ho
  · rcases h.1 r hr with ⟨h1, h2⟩ | ⟨n, l, hn, hl, h3, h4, h5, h6, h7⟩
    · refine ⟨-1000010 - 1, jset σ 0 12 1, jset (jset (jset (jset σ 0 12 1) 89 0 0) 89 1 0) 89 1 1, ?_, ?_, A, ?_⟩
      · unfold f_X11_drop f_X6_isMissing
        rw [isRow_in hr, jbd_eq, if_pos (by decide), jld_eq hr (by omega), h1]
        rfl
      · unfold f_X12_drop
        rw [jlet_eq, isRowR_in hr, jbd_eq, if_pos (by decide), jlet_eq, jld_eq hr (by omega)]
        repeat rw [jset_o (by omega)]
        rw [h2]
        rfl
      · rw [jset_same, jset_comm0 σ 0 12 89 0 1 0 (by omega)]
        exact h.found 1 ((sEq.refl σ).set scr0)
    · refine ⟨nI n, jset (jset σ 12 r (-1)) 0 12 0, jset (jset (jset (jset (jset σ 12 r (-1)) 0 12 0) 89 0 0) 89 1 0) 90 r (-1), ?_, ?_, A, ?_⟩
      · unfold f_X11_drop f_X6_isMissing
        rw [isRow_in hr, jbd_eq, if_pos (by decide), jld_eq hr (by omega), h3, if_pos (by
          intro q
          have := congrArg Int32.toInt q
          rw [nI_toInt (by omega)] at this
          have e : (-1 : Int32).toInt = -1 := rfl
          omega), jbd_eq, if_pos rfl, jld_eq hr (by omega), jst_eq hr (by omega), h3]
        rfl
      · unfold f_X12_drop
        rw [jlet_eq, isRowR_in hr, jbd_eq, if_pos (by decide), jlet_eq, jld_eq hr (by omega)]
        repeat rw [jset_o (by omega)]
        rw [h6, if_pos (nI_pos' (by omega)), jst_eq hr (by omega), jld_eq hr (by omega)]
        repeat rw [jset_o (by omega)]
        rw [h4]
      · refine h.rows (fun q hq => ?_) rfl (fun c j g1 g2 g3 g4 g5 => ?_) rfl
        · by_cases hqr : q = r
          · subst hqr
            left
            constructor
            · repeat rw [jset_o (by omega)]
              rw [jset_i]
            · rw [jset_i]
          · refine (h.1 q hq).keep ?_ ?_ ?_ ?_ (fun i hi => ?_) (fun i hi => ?_) <;> repeat rw [jset_o (by omega)]
        · have g6 : ¬ (c = 89 ∧ j = 0) := fun z => g1 (by rw [z.1, z.2]; exact scr0)
          repeat rw [jset_o (by omega)]
  · refine ⟨-1000001, σ, jset σ 89 0 0, ?_, ?_, h.bad⟩
    · unfold f_X11_drop
      rw [isRow_out ho]
      rfl
    · unfold f_X12_drop
      rw [jlet_eq, isRowR_out ho]
      rfl
theorem sim_feed_ok : sim_feed Inv := by
  rintro σ a1 ⟨A, h⟩
  obtain ⟨t1, n, hn, t2, t3, t4⟩ := h.2.1
  rcases pI_split a1 256 (by omega) with ⟨c, hc, rfl⟩ | ho
  · by_cases h140 : n < 140
    · refine ⟨nI (n + 1), jset (jset σ 14 n (nI c)) 13 1 (nI (n + 1)), jset (jset (jset (jset (jset σ 14 n (nI c)) 13 1 (nI (n + 1))) 89 0 0) 97 n (nI c)) 89 11 (nI (n + 1)), ?_, ?_, A, ?_⟩
      · unfold f_X11_feed f_X9_append
        rw [if_neg (nI_pos (by omega)), if_pos (by simp (disch := omega) only [nlit, nI_leI]; omega), t2, if_pos (by simp (disch := omega) only [nlit, nI_ltI]; omega), jst_eq h140 (by omega), jlet_eq, jset_o (by omega), t2, nI_1]
        rfl
      · unfold f_X12_feed
        rw [jlet_eq]
        simp only [nlitL]
        rw [in_lit _ _ _ (by omega) (by omega), nI_toInt (by omega), if_pos (by omega), jbd_eq, if_pos (by decide)]
        have e : (jset (jset (jset σ 14 n (nI c)) 13 1 (nI (n + 1))) 89 0 0).1 89 11 = nI n := by
          repeat rw [jset_o (by omega)]
          exact t3
        rw [e, if_pos (by simp (disch := omega) only [nlit, nI_eq]; omega), jst_eq h140 (by omega), jlet_eq, jset_i]
        have e2 : (jset (jset (jset (jset σ 14 n (nI c)) 13 1 (nI (n + 1))) 89 0 0) 97 n (nI c)).1 89 11 = nI n := by rw [jset_o (by omega)]; exact e
        rw [e2, nI_1]
      · obtain ⟨q1, q2, ⟨w1, w2, w3, w4⟩, q4, q5, q6, q7, q8⟩ := h
        have E : ∀ c' j', (¬ (c' = 14) ∧ ¬ (c' = 13 ∧ j' = 1) ∧ ¬ (c' = 89 ∧ (j' = 0 ∨ j' = 11)) ∧ ¬ (c' = 97)) → (jset (jset (jset (jset (jset σ 14 n (nI c)) 13 1 (nI (n + 1))) 89 0 0) 97 n (nI c)) 89 11 (nI (n + 1))).1 c' j' = σ.1 c' j' := by
          intro c' j' g
          repeat rw [jset_o (by omega)]
        refine ⟨fun r hr => (q1 r hr).congr hr (fun c j a b => E c j (by omega)) (fun c j a b => E c j (by omega)), ⟨?_, n + 1, by omega, ?_, ?_, fun i hi => ?_⟩, ⟨w1, w2, w3.congr (fun c j a b => E c j (by omega)), w4.congr (r' := 93) (o' := 0) w1.b (fun j _ => E 93 _ (by omega))⟩, q4.congr ⟨E 0 7 (by omega), E 0 8 (by omega), E 89 9 (by omega)⟩ (fun c j a b => E c j (by omega)) (fun j => E 96 j (by omega)), fun j hj => (q5 j hj).congr hj (fun c i a b => E c i (by omega)) (fun i => E 99 i (by omega)) (fun i => E 100 i (by omega)), q6.congr (E 86 3 (by omega)) (fun j => E 87 j (by omega)) (E 89 26 (by omega)) (fun j => E 101 j (by omega)), ?_, q8⟩
        · rw [E 13 2 (by omega), E 89 18 (by omega)]; exact t1
        · repeat rw [jset_o (by omega)]
          rw [jset_i]
        · rw [jset_i]
        · by_cases hin : i = n
          · subst hin
            refine ⟨c, hc, ?_, ?_⟩
            · repeat rw [jset_o (by omega)]
              rw [jset_i]
            · rw [jset_o (by omega), jset_i]
          · obtain ⟨d, d1, d2, d3⟩ := t4 i (by omega)
            refine ⟨d, d1, ?_, ?_⟩
            · repeat rw [jset_o (by omega)]
              exact d2
            · repeat rw [jset_o (by omega)]
              exact d3
        · rw [E 0 12 (by omega), E 89 1 (by omega)]; exact q7
    · have hn140 : n = 140 := by omega
      subst hn140
      refine ⟨-1000003, σ, jset σ 89 0 0, ?_, ?_, h.bad⟩
      · unfold f_X11_feed
        rw [if_neg (nI_pos (by omega)), if_pos (by simp (disch := omega) only [nlit, nI_leI]; omega), t2, if_neg (by simp (disch := omega) only [nlit, nI_ltI]; omega)]
      · unfold f_X12_feed
        rw [jlet_eq]
        simp only [nlitL]
        rw [in_lit _ _ _ (by omega) (by omega), nI_toInt (by omega), if_pos (by omega), jbd_eq, if_pos (by decide)]
        rw [jset_o (by omega), t3]
        rfl
  · refine ⟨-1000001, σ, jset σ 89 0 0, ?_, ?_, h.bad⟩
    · unfold f_X11_feed
      by_cases q : a1 < 0
      · rw [if_pos q]
      · rw [if_neg q, if_neg]
        rw [pI_lt] at q
        rw [pI_le]
        have e1 : (0 : Int32).toInt = 0 := rfl
        have e2 : (255 : Int32).toInt = 255 := rfl
        omega
    · unfold f_X12_feed
      rw [jlet_eq]
      simp only [nlitL]
      rw [in_lit _ _ _ (by omega) (by omega), if_neg (by omega), jbd_eq]
      rfl
theorem sim_trace_ok : sim_trace Inv := by
  rintro σ a1 ⟨A, h⟩
  obtain ⟨n, hn, t2, t3, t4⟩ := h.2.2.2.2.2.1
  have e26 : (jset σ 89 0 0).1 89 26 = nI n := by rw [jset_o (by omega)]; exact t3
  have esub : (nI n - 1 : Int32).toInt = (n : Int) - 1 := pk_sub_toInt (b := 1) (by omega) (by omega)
  have hin : f_X12_in a1.toInt64 (0 : Int64) (nI n - 1).toInt64 (jset σ 89 0 0) = some (if 0 ≤ a1.toInt ∧ a1.toInt ≤ (n : Int) - 1 then 1 else 0, jset σ 89 0 0) := by
    rw [show (0 : Int64) = (0 : Int32).toInt64 from rfl, in32, esub]
    rfl
  rcases pI_split a1 n (by omega) with ⟨i, hi, rfl⟩ | ho
  · refine ⟨σ.1 87 i, σ, jset σ 89 0 0, ?_, ?_, h.bad⟩
    · unfold f_X11_trace
      rw [if_neg (nI_pos (by omega)), t2, if_neg (by simp (disch := omega) only [nI_leI]; omega), jld_eq (by omega) (by omega)]
    · unfold f_X12_trace
      rw [jlet_eq, e26, hin, nI_toInt (by omega), if_pos (by omega), jbd_eq, if_neg (by decide), jld_eq (by omega) (by omega), jset_o (by omega), t4 i hi]
  · refine ⟨-1000000, σ, jset σ 89 0 0, ?_, ?_, h.bad⟩
    · unfold f_X11_trace
      by_cases q : a1 < 0
      · rw [if_pos q]
      · rw [if_neg q, t2, if_pos]
        rw [pI_le, nI_toInt (by omega)]
        rw [pI_lt] at q
        have e1 : (0 : Int32).toInt = 0 := rfl
        omega
    · unfold f_X12_trace
      rw [jlet_eq, e26, hin, if_neg (by omega), jbd_eq, if_pos rfl]
