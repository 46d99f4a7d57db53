/-! ===== PURE: parish, alike ===== -/
theorem RInv.tape {σ σ' : jMem} {A A' : aP} (h : RInv σ A) (ht : RTape σ') (hw : WF A' ∧ a_yr A' ≤ 999 ∧ PC σ' 22 A' ∧ PR σ' 93 0 A') (ha : RActs σ' A') (e : ∀ c j, ¬ scr c j → c ≠ 13 → c ≠ 14 → c ≠ 97 → ¬ (22 ≤ c ∧ c ≤ 29) → c ≠ 93 → ¬ (c = 0 ∧ j = 7) → ¬ (c = 89 ∧ (j = 9 ∨ j = 11 ∨ j = 18)) → σ'.1 c j = σ.1 c j) (e2 : ∀ n, σ'.2 84 n = σ.2 84 n) : RInv σ' A' := by
  obtain ⟨h1, h2, _, h4, h5, h6, h7, h8⟩ := h
  have E : ∀ c j, (¬ scr c j ∧ c ≠ 13 ∧ c ≠ 14 ∧ c ≠ 97 ∧ ¬ (22 ≤ c ∧ c ≤ 29) ∧ c ≠ 93 ∧ ¬ (c = 0 ∧ j = 7) ∧ ¬ (c = 89 ∧ (j = 9 ∨ j = 11 ∨ j = 18))) → σ'.1 c j = σ.1 c j := fun c j q => e c j q.1 q.2.1 q.2.2.1 q.2.2.2.1 q.2.2.2.2.1 q.2.2.2.2.2.1 q.2.2.2.2.2.2.1 q.2.2.2.2.2.2.2
  refine ⟨fun r hr => (h1 r hr).congr hr (fun c j a b => E c j (by unfold scr; omega)) (fun c j a b => E c j (by unfold scr; omega)), ht, hw, ha, fun j hj => (h5 j hj).congr hj (fun c i a b => E c i (by unfold scr; omega)) (fun i => E 99 i (by unfold scr; omega)) (fun i => E 100 i (by unfold scr; omega)), h6.congr (E 86 3 (by unfold scr; omega)) (fun j => E 87 j (by unfold scr; omega)) (E 89 26 (by unfold scr; omega)) (fun j => E 101 j (by unfold scr; omega)), ?_, h8.congr e2⟩
  rw [E 0 12 (by unfold scr; omega), E 89 1 (by unfold scr; omega)]
  exact h7
theorem sim_parish_ok : sim_parish Inv := by
  rintro σ ⟨A, h⟩
  obtain ⟨t1, n, hn, t2, t3, t4⟩ := h.2.1
  have hBc : ∀ i, i < n → (σ.1 14 i).toBitVec.toNat < 256 ∧ σ.1 97 i = nI (σ.1 14 i).toBitVec.toNat := by
    intro i hi
    obtain ⟨c, c1, c2, c3⟩ := t4 i hi
    have : (σ.1 14 i).toBitVec.toNat = c := by
      rw [c2]
      show (BitVec.ofNat 32 c).toNat = c
      rw [BitVec.toNat_ofNat]
      omega
    rw [this]
    exact ⟨c1, c3⟩
  have hS : TS σ (fun i => (σ.1 14 i).toBitVec.toNat) n := ⟨hn, t2, fun i hi => ⟨(hBc i hi).1, nI_self _⟩⟩
  generalize hBd : (fun i => (σ.1 14 i).toBitVec.toNat) = B at hS
  have h97 : ∀ i, i < n → B i < 256 ∧ σ.1 97 i = nI (B i) := by
    intro i hi
    rw [← hBd]
    exact hBc i hi
  have hc := read_c hS
  have mkRT : ∀ τ : jMem, (∀ c j, (c = 89 ∧ j = 11) ∨ c = 97 → τ.1 c j = σ.1 c j) → RT τ B n := fun τ hτ => ⟨hn, by rw [hτ 89 11 (Or.inl ⟨rfl, rfl⟩)]; exact t3, fun i hi => ⟨(h97 i hi).1, by rw [hτ 97 i (Or.inr rfl)]; exact (h97 i hi).2⟩⟩
  cases e : pAll B n with
  | inl z =>
    rw [e] at hc
    obtain ⟨σ', r1, r2, r3, r4⟩ := hc
    have E1 : ∀ c j, ¬ fr30 c j → ¬ (c = 13 ∧ j = 1) → (jset σ' 13 1 0).1 c j = σ.1 c j := fun c j q1 q2 => by rw [jset_o q2]; exact r4.1 c j q1
    have hr := parish_r (mkRT (jset σ' 13 1 0) (fun c j q => E1 c j (by unfold fr30; omega) (by omega)))
    rw [e] at hr
    obtain ⟨σ2, s1, s2, s3, s4⟩ := hr
    have E2 : ∀ c j, ¬ fr30 c j → ¬ (c = 13 ∧ j = 1) → ¬ frE c j → ¬ (c = 89 ∧ j = 0) → σ2.1 c j = σ.1 c j := fun c j q1 q2 q3 q4 => by rw [s4.1 c j q3, jset_o q4]; exact E1 c j q1 q2
    have K : ∀ j, σ2.1 13 j = (jset σ' 13 1 0).1 13 j := fun j => by rw [s4.1 13 j (by unfold frE; omega), jset_o (by omega)]
    refine ⟨(-1000100 : Int32) - nI z.2, jset σ' 13 1 0, σ2, ?_, s1, A, h.tape ?_ ⟨h.W, h.2.2.1.2.1, ?_, ?_⟩ ?_ ?_ ?_⟩
    · unfold f_X11_parish
      rw [r1, jbd_eq, jlet_eq, if_neg (by decide), jset_o (by omega), r3]
    · refine ⟨?_, 0, Nat.zero_le _, ?_, s3, fun i hi => absurd hi (Nat.not_lt_zero i)⟩
      · rw [s2, K 2, jset_o (by omega), r2]
      · rw [K 1, jset_i]
        rfl
    · exact h.C.congr (fun c j q1 q2 => E2 c j (by unfold fr30; omega) (by omega) (by unfold frE; omega) (by omega))
    · exact h.R.congr (r' := 93) (o' := 0) h.W.b (fun j _ => E2 93 _ (by unfold fr30; omega) (by omega) (by unfold frE; omega) (by omega))
    · exact h.2.2.2.1.congr ⟨E2 0 7 (by unfold fr30; omega) (by omega) (by unfold frE; omega) (by omega), E2 0 8 (by unfold fr30; omega) (by omega) (by unfold frE; omega) (by omega), E2 89 9 (by unfold fr30; omega) (by omega) (by unfold frE; omega) (by omega)⟩ (fun c j a b => E2 c j (by unfold fr30; omega) (by omega) (by unfold frE; omega) (by omega)) (fun j => E2 96 j (by unfold fr30; omega) (by omega) (by unfold frE; omega) (by omega))
    · intro c j q0 q1 q2 q3 q4 q5 q6 q7
      unfold scr at q0
      exact E2 c j (by unfold fr30; omega) (by omega) (by unfold frE; omega) (by omega)
    · intro m
      rw [s4.2 m]
      exact r4.2 m
  | inr z =>
    rw [e] at hc
    obtain ⟨σ', r1, r2, r3, r4, r5⟩ := hc
    have hW := r3.1
    have hP4 : PC (jset σ' 13 1 0) 30 z.1 := r2.congr (fun c j q1 q2 => jset_o (by omega))
    have hP7 : PC (jset (bcM (jset σ' 13 1 0) 22 30) 0 7 0) 22 z.1 := (bcM_p hP4 hW (by omega)).congr (fun c j q1 q2 => jset_o (by omega))
    have E1 : ∀ c j, ¬ fr30 c j → ¬ (c = 13 ∧ j = 1) → ¬ (22 ≤ c ∧ c ≤ 29) → ¬ (c = 0 ∧ j = 7) → (jset (bcM (jset σ' 13 1 0) 22 30) 0 7 0).1 c j = σ.1 c j := fun c j q1 q2 q3 q4 => by rw [jset_o q4, bcM_o (by omega), jset_o q2]; exact r4.1 c j q1
    have hr := parish_r (mkRT (jset (bcM (jset σ' 13 1 0) 22 30) 0 7 0) (fun c j q => E1 c j (by unfold fr30; omega) (by omega) (by omega) (by omega)))
    rw [e] at hr
    obtain ⟨σ2, s1, s2, s3, s4, s5, s6, s7⟩ := hr
    have E2 : ∀ c j, ¬ fr30 c j → ¬ (c = 13 ∧ j = 1) → ¬ (22 ≤ c ∧ c ≤ 29) → ¬ (c = 0 ∧ j = 7) → ¬ frF c j → ¬ (c = 89 ∧ j = 0) → σ2.1 c j = σ.1 c j := fun c j q1 q2 q3 q4 q5 q6 => by rw [s7.1 c j q5, jset_o q6]; exact E1 c j q1 q2 q3 q4
    have K : ∀ c j, ¬ frF c j → c ≠ 89 → σ2.1 c j = (jset (bcM (jset σ' 13 1 0) 22 30) 0 7 0).1 c j := fun c j q1 q2 => by rw [s7.1 c j q1, jset_o (by omega)]
    obtain ⟨m, p, a1, a2, a3, a4, a5, a6⟩ := h.2.2.2.1
    refine ⟨nI (a_np z.1), jset (bcM (jset σ' 13 1 0) 22 30) 0 7 0, σ2, ?_, s1, z.1, h.tape ?_ ⟨hW, by rw [r3.2.2.1]; omega, ?_, s2⟩ ?_ ?_ ?_⟩
    · unfold f_X11_parish
      rw [r1, jbd_eq, jlet_eq, if_pos (by decide), become_c hP4 hW, jbv_eq]
      show some ((jset (bcM (jset σ' 13 1 0) 22 30) 0 7 0).1 22 5, _) = _
      rw [hP7.1.2.2.2.2.1]
    · refine ⟨?_, 0, Nat.zero_le _, ?_, s5, fun i hi => absurd hi (Nat.not_lt_zero i)⟩
      · rw [s6, K 13 2 (by unfold frF; omega) (by omega), jset_o (by omega), bcM_o (by omega), jset_o (by omega), r5, jset_o (by omega), E1 89 18 (by unfold fr30; omega) (by omega) (by omega) (by omega)]
        exact t1
      · rw [K 13 1 (by unfold frF; omega) (by omega), jset_o (by omega), bcM_o (by omega), jset_i]
        rfl
    · exact hP7.congr (fun c j q1 q2 => K c j (by unfold frF; omega) (by omega))
    · refine ⟨0, p, Nat.zero_le _, a2, ?_, ?_, s4, fun j hj => absurd hj (Nat.not_lt_zero j)⟩
      · rw [K 0 7 (by unfold frF; omega) (by omega), jset_i]
        rfl
      · rw [E2 0 8 (by unfold fr30; omega) (by omega) (by omega) (by omega) (by unfold frF; omega) (by omega)]
        exact a4
    · intro c j q0 q1 q2 q3 q4 q5 q6 q7
      unfold scr at q0
      exact E2 c j (by unfold fr30; omega) (by omega) (by omega) (by omega) (by unfold frF; omega) (by omega)
    · intro m'
      rw [s7.2 m']
      exact r4.2 m'
