/-! ===== PURE: who, alike ===== -/
theorem sim_who_ok : sim_who Inv := by
  rintro σ a1 a2 a3 a4 ⟨A, h⟩
  have h' := h.t0
  have hb := h.W.b
  rcases hasWit_c h.C h.W a1 with ⟨w, hw, rfl, ew⟩ | ⟨ho, ew⟩
  · have erw : ∀ τ : jMem, PR τ 93 0 A → f_X12_isWitness (nI w) τ = some (1, τ) := by
      intro τ hτ
      rw [isWit_r hτ h.W, nI_toInt (by omega), if_pos (by omega)]
    rcases pI_split a2 8 (by omega) with ⟨r, hr, rfl⟩ | ho
    · have hin : ∀ τ : jMem, f_X12_in a4.toInt64 (1 : Int64) (4 : Int64) τ = some (if 1 ≤ a4.toInt ∧ a4.toInt ≤ 4 then 1 else 0, τ) := by
        intro τ
        simp only [nlitL]
        exact in_lit _ _ _ (by omega) (by omega) τ
      by_cases c4 : 1 ≤ a4.toInt ∧ a4.toInt ≤ 4
      · obtain ⟨n, hn1, hn4, rfl⟩ : ∃ n, 1 ≤ n ∧ n ≤ 4 ∧ a4 = nI n := by
          rcases pI_split a4 5 (by omega) with ⟨n, hn, rfl⟩ | q
          · rw [nI_toInt (by omega)] at c4
            exact ⟨n, by omega, by omega, rfl⟩
          · omega
        have c1 : ¬ nI n < (1 : Int32) := ltL_ (by omega) (by omega)
        have c2 : nI n ≤ (4 : Int32) := leL (by omega) (by omega)
        have hin1 : ∀ τ : jMem, f_X12_in (nI n).toInt64 (1 : Int64) (4 : Int64) τ = some (1, τ) := by
          intro τ
          rw [hin, if_pos c4]
        have fnd : ∀ f : Int32, PR (jset (jset σ 0 12 f) 89 0 0) 93 0 A := fun f => (h.R.o h.W (c := 0) (by omega) 12 f).o h.W (c := 89) (by omega) 0 0
        rcases h.1 r hr with ⟨g1, g2⟩ | ⟨s, l, n1, n2, n3, n4, n5, n6, n7⟩
        · refine ⟨(-1000010 : Int32) - 1, jset σ 0 12 1, jset (jset (jset σ 0 12 1) 89 0 0) 89 1 1, ?_, ?_, A, ?_⟩
          · unfold f_X11_who
            rw [ew, jbd_eq, if_neg (by decide), isRow_in hr, jbd_eq, if_neg (by decide), if_neg c1, if_pos c2, amiss_m hr g1, jbd_eq, if_neg (by decide)]
            rfl
          · unfold f_X12_who
            rw [jlet_eq, erw _ (fnd 1), jbd_eq, if_neg (by decide), isRowR_in hr, jbd_eq, if_neg (by decide), hin1, jbd_eq, if_pos (by decide), jld_eq (by omega) (by omega), jset_o (by omega), jset_o (by omega), g2, if_neg (by decide)]
            rfl
          · rw [jset_comm0 _ 0 12 89 0 _ _ (by omega)]
            exact h.found 1 ((sEq.refl σ).set scr0)
        · have hl : 0 ≤ nI l := Lle (by omega) (by omega)
          have e2n : (2 : Int32) * nI n = nI (2 * n) := nI_Lmul 2 n
          have t2n : ((2 : Int32) * nI n).toInt = 2 * n := by
            rw [e2n, nI_toInt (by omega)]
            omega
          by_cases hc : 0 ≤ a3.toInt ∧ a3.toInt + 2 * n ≤ s
          · obtain ⟨i0, hi0, rfl⟩ : ∃ i0, i0 < 40 ∧ a3 = nI i0 := by
              rcases pI_split a3 40 (by omega) with ⟨i, hi, rfl⟩ | q
              · exact ⟨i, hi, rfl⟩
              · omega
            have ti : (nI i0).toInt = i0 := nI_toInt (by omega)
            have his : i0 + 2 * n ≤ s := by omega
            have e0 : f_X6_amiss (nI r) (nI i0) ((2 : Int32) * nI n) σ = some (0, σ) := by
              rw [amiss_n hr n1 n3, if_pos (by omega)]
            have ecmp : lg_cmp ((nI i0).toInt64 + ((2 : Int32) * nI n).toInt64) (nI s).toInt64 ≤ 0 := by
              rw [q_le0, e2n, nI_l (by omega), nI_l (by omega), nI_l (by omega), lN_add, pk_lLE (by omega) (by omega)]
              omega
            have ei : ¬ nI i0 < 0 := ltL_ (by omega) (by omega)
            rcases whoC_c (σ := σ) (r := r) (i0 := i0) (n := n) (T := fun y => σ.1 (3 + r) (i0 + 2 * y)) (nI w) hr (by omega) (fun y hy => rfl) with ⟨q1, q2⟩ | ⟨q1, q2⟩
            · have hT : ∀ y, y < n → σ.1 (3 + r) (i0 + 2 * y) = nI (σ.1 (3 + r) (i0 + 2 * y)).toBitVec.toNat := fun y hy => nI_self _
              have hF : ∀ y, y < n → (σ.1 (3 + r) (i0 + 2 * y)).toBitVec.toNat < 8 := by
                intro y hy
                obtain ⟨v, hv, ev⟩ := field_in (q1 y hy)
                rw [ev]
                show (BitVec.ofNat 32 v).toNat < 8
                rw [BitVec.toNat_ofNat]
                omega
              obtain ⟨σ1, b1, b2⟩ := fitting_c (F := fun y => (σ.1 (3 + r) (i0 + 2 * y)).toBitVec.toNat) (I := fun y => σ.1 (3 + r) (i0 + 2 * y + 1)) (k := 3 + 1 * r) h.C h.W hw (by omega) (show i0 + 2 * n ≤ 40 by omega) hF (fun y hy => by rw [Nat.one_mul]; exact hT y hy) (fun y hy => by rw [Nat.one_mul])
              have s1 := frO_scr b2
              have hRa : PR (jset (jset σ1 0 12 0) 89 0 0) 93 0 A := ((h.congr s1).R.o h.W (c := 0) (by omega) 12 0).o h.W (c := 89) (by omega) 0 0
              have hRb : PR (jset (jset (jset σ1 0 12 0) 89 0 0) 89 1 0) 93 0 A := hRa.o h.W (c := 89) (by omega) 1 0
              have ea : ∀ i, i < s → (jset (jset σ1 0 12 0) 89 0 0).1 92 (40 * r + i) = σ.1 (3 + r) i := by
                intro i hi
                rw [jset_o (by omega), jset_o (by omega), s1.st (by unfold scr; omega), n7 i hi]
              have eb : ∀ i, i < s → (jset (jset (jset σ1 0 12 0) 89 0 0) 89 1 0).1 92 (40 * r + i) = σ.1 (3 + r) i := by
                intro i hi
                rw [jset_o (by omega)]
                exact ea i hi
              have eT : ∀ y, y < n → (jset (jset σ1 0 12 0) 89 0 0).1 92 (40 * r + i0 + 2 * y) = σ.1 (3 + r) (i0 + 2 * y) := by
                intro y hy
                rw [Nat.add_assoc]
                exact ea _ (by omega)
              rcases whoC_r (T := fun y => σ.1 (3 + r) (i0 + 2 * y)) (nI w) hr (show i0 + 2 * n ≤ 40 by omega) eT with ⟨q3, q4⟩ | ⟨q3, q4⟩
              · obtain ⟨σ2, d1, d2⟩ := whoO_r (F := fun y => (σ.1 (3 + r) (i0 + 2 * y)).toBitVec.toNat) (I := fun y => σ.1 (3 + r) (i0 + 2 * y + 1)) hRb h.W hw hr (show i0 + 2 * n ≤ 40 by omega) hF (fun y hy => by rw [Nat.add_assoc, eb _ (by omega)]; exact hT y hy) (fun y hy => by rw [Nat.add_assoc, Nat.add_assoc, ← Nat.add_assoc i0]; exact eb _ (by omega))
                refine ⟨nI (wM A w (fun y => (σ.1 (3 + r) (i0 + 2 * y)).toBitVec.toNat) (fun y => σ.1 (3 + r) (i0 + 2 * y + 1)) (fun _ => n) 6), jset σ1 0 12 0, σ2, ?_, ?_, A, ?_⟩
                · unfold f_X11_who
                  rw [ew, jbd_eq, if_neg (by decide), isRow_in hr, jbd_eq, if_neg (by decide), if_neg c1, if_pos c2, e0, jbd_eq, if_pos rfl, q2, jbl_eq, jldr_eq (by omega) (by omega), b1, jbd_eq]
                  rfl
                · unfold f_X12_who
                  rw [jlet_eq, erw _ hRa, jbd_eq, if_neg (by decide), isRowR_in hr, jbd_eq, if_neg (by decide), hin1, jbd_eq, if_pos (by decide), jld_eq (by omega) (by omega), jset_o (by omega), jset_o (by omega), s1.st (by unfold scr; omega), n6, if_pos hl, jj_eq, if_neg ei, jld_eq (by omega) (by omega), jset_o (by omega), jset_o (by omega), s1.st (by unfold scr; omega), n4, if_pos ecmp, q4, jbl_eq, jlet_eq, d1, jbd_eq]
                · refine RInv.congr ?_ (frW_scr d2)
                  rw [jset_comm0 _ 0 12 89 0 _ _ (by omega)]
                  exact h.found 0 (s1.set scr0)
              · exact absurd q1 q3
            · have eT : ∀ y, y < n → (jset σ 89 0 0).1 92 (40 * r + i0 + 2 * y) = σ.1 (3 + r) (i0 + 2 * y) := by
                intro y hy
                rw [jset_o (by omega), Nat.add_assoc, n7 _ (by omega)]
              rcases whoC_r (T := fun y => σ.1 (3 + r) (i0 + 2 * y)) (nI w) hr (show i0 + 2 * n ≤ 40 by omega) eT with ⟨q3, q4⟩ | ⟨q3, q4⟩
              · exact absurd q3 q1
              · refine ⟨-1000001, σ, jset σ 89 0 0, ?_, ?_, h.bad⟩
                · unfold f_X11_who
                  rw [ew, jbd_eq, if_neg (by decide), isRow_in hr, jbd_eq, if_neg (by decide), if_neg c1, if_pos c2, e0, jbd_eq, if_pos rfl, q2, jbrr_eq]
                · unfold f_X12_who
                  rw [jlet_eq, erw _ h'.R, jbd_eq, if_neg (by decide), isRowR_in hr, jbd_eq, if_neg (by decide), hin1, jbd_eq, if_pos (by decide), jld_eq (by omega) (by omega), jset_o (by omega), n6, if_pos hl, jj_eq, if_neg ei, jld_eq (by omega) (by omega), jset_o (by omega), n4, if_pos ecmp, q4, jbrr_eq]
          · have e0 : f_X6_amiss (nI r) a3 ((2 : Int32) * nI n) σ = some (2, σ) := by
              rw [amiss_n hr n1 n3, if_neg (by omega)]
            refine ⟨(-1000010 : Int32) - 2, jset σ 0 12 2, jset (jset (jset σ 0 12 2) 89 0 0) 89 1 2, ?_, ?_, A, ?_⟩
            · unfold f_X11_who
              rw [ew, jbd_eq, if_neg (by decide), isRow_in hr, jbd_eq, if_neg (by decide), if_neg c1, if_pos c2, e0, jbd_eq, if_neg (by decide)]
              rfl
            · unfold f_X12_who
              rw [jlet_eq, erw _ (fnd 2), jbd_eq, if_neg (by decide), isRowR_in hr, jbd_eq, if_neg (by decide), hin1, jbd_eq, if_pos (by decide), jld_eq (by omega) (by omega), jset_o (by omega), jset_o (by omega), n6, if_pos hl, jj_eq]
              by_cases c0 : a3 < 0
              · rw [if_pos c0]
                rfl
              · have hz : 0 ≤ a3.toInt := by
                  rw [pI_lt] at c0
                  have : (0 : Int32).toInt = 0 := rfl
                  omega
                have hlt := a3.toInt_lt
                obtain ⟨i, hi, rfl⟩ : ∃ i, i < 2 ^ 31 ∧ a3 = nI i := by
                  rcases pI_split a3 (2 ^ 31 - 1) (by omega) with ⟨i, hi, rfl⟩ | q
                  · exact ⟨i, by omega, rfl⟩
                  · refine ⟨2 ^ 31 - 1, by omega, ?_⟩
                    rw [pI_eq, nI_toInt (by omega)]
                    omega
                have ti : (nI i).toInt = i := nI_toInt (by omega)
                have ecmp : ¬ lg_cmp ((nI i).toInt64 + ((2 : Int32) * nI n).toInt64) (nI s).toInt64 ≤ 0 := by
                  rw [q_le0, e2n, nI_l (by omega), nI_l (by omega), nI_l (by omega), lN_add, pk_lLE (by omega) (by omega)]
                  omega
                rw [if_neg c0, jld_eq (by omega) (by omega), jset_o (by omega), jset_o (by omega), n4, if_neg ecmp]
                rfl
            · rw [jset_comm0 _ 0 12 89 0 _ _ (by omega)]
              exact h.found 2 ((sEq.refl σ).set scr0)
      · refine ⟨-1000001, σ, jset σ 89 0 0, ?_, ?_, h.bad⟩
        · unfold f_X11_who
          rw [ew, jbd_eq, if_neg (by decide), isRow_in hr, jbd_eq, if_neg (by decide)]
          by_cases q : a4 < 1
          · rw [if_pos q]
          · have : (1 : Int32).toInt = 1 := rfl
            have h4 : (4 : Int32).toInt = 4 := rfl
            rw [if_neg q, if_neg (fun z => c4 ⟨by rw [pI_lt] at q; omega, by rw [pI_le] at z; omega⟩)]
        · unfold f_X12_who
          rw [jlet_eq, erw _ h'.R, jbd_eq, if_neg (by decide), isRowR_in hr, jbd_eq, if_neg (by decide), hin, jbd_eq, if_neg c4, if_neg (by decide)]
    · refine ⟨-1000001, σ, jset σ 89 0 0, ?_, ?_, h.bad⟩
      · unfold f_X11_who
        rw [ew, jbd_eq, if_neg (by decide), isRow_out ho]
        rfl
      · unfold f_X12_who
        rw [jlet_eq, erw _ h'.R, jbd_eq, if_neg (by decide), isRowR_out ho]
        rfl
  · refine ⟨-1000001, σ, jset σ 89 0 0, ?_, ?_, h.bad⟩
    · unfold f_X11_who
      rw [ew]
      rfl
    · unfold f_X12_who
      rw [jlet_eq, isWit_r h'.R h.W, if_neg (by omega)]
      rfl
