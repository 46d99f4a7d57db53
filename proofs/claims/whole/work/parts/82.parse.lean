/-! ===== PURE: the class reads paths and witnesses ===== -/
theorem pathsAt_d {σ : jMem} {v : Nat} {A : aP} (hP : DQ σ A) (hW : WF A) (hv : v < 8) : f_X5_pathsAt 30 (nI v) σ = some (nI (pAt A v), σ) := by
  have hb := hW.b
  have h5 : σ.1 30 5 = nI (a_np A) := hP.1.2.2.2.1
  unfold f_X5_pathsAt
  have : X5_pathsAt_L4 30 (nI v) jFU ((0 : Int32), (0 : Int32)) σ = some (nI (pAt A v), σ) := by
    refine jloop_run (body := fun rec s9 σ => X5_pathsAt_L4_b 30 (nI v) rec s9.1 s9.2 σ) (fun i => (nI (orN (fun i => if a_pa A i = v ∨ a_pb A i = v then 2 ^ i else 0) i), nI i)) (fun _ => σ) (a_np A) _ ?_ ?_ jFU (by unfold jFU; omega)
    · intro i hi rec
      have hp := hW.2.1 i hi
      obtain ⟨p1, p2, p3⟩ := hP.2.1 i hi
      have p1 : σ.1 (30 + 1) i = nI (a_pa A i) := p1
      have p2 : σ.1 (30 + 2) i = nI (a_pb A i) := p2
      show X5_pathsAt_L4_b 30 (nI v) rec (nI (orN (fun i => if a_pa A i = v ∨ a_pb A i = v then 2 ^ i else 0) i)) (nI i) σ = _
      unfold X5_pathsAt_L4_b
      rw [h5, if_neg (nle_ (by omega) (by omega)), jld_eq (by omega) (by omega), p1, jj_eq]
      by_cases c1 : a_pa A i = v
      · rw [if_pos (by rw [c1])]
        dsimp only
        rw [jlet_eq, nI_one_shl (by omega), nI_or, nI_1, orN, if_pos (Or.inl c1)]
      · rw [if_neg (nne_ c1 (by omega) (by omega)), jld_eq (by omega) (by omega), p2]
        by_cases c2 : a_pb A i = v
        · rw [if_neg (fun z => z (by rw [c2]))]
          dsimp only
          rw [jlet_eq, nI_one_shl (by omega), nI_or, nI_1, orN, if_pos (Or.inr c2)]
        · rw [if_pos (nne_ c2 (by omega) (by omega)), nI_1, orN, if_neg (by omega), Nat.or_zero]
    · intro rec
      show X5_pathsAt_L4_b 30 (nI v) rec _ (nI (a_np A)) σ = _
      unfold X5_pathsAt_L4_b
      rw [h5, if_pos (nI_le (Nat.le_refl _) (by omega))]
      rfl
  rw [this]
  rfl
theorem pAt_t (A : aP) (v i : Nat) : (pAt A v).testBit i = true ↔ i < a_np A ∧ (a_pa A i = v ∨ a_pb A i = v) := by
  unfold pAt
  rw [orN_test]
  constructor
  · rintro ⟨j, hj, h⟩
    by_cases c : a_pa A j = v ∨ a_pb A j = v
    · rw [if_pos c, p2_test, decide_eq_true_eq] at h
      subst h
      exact ⟨hj, c⟩
    · rw [if_neg c, Nat.zero_testBit] at h
      exact absurd h (by decide)
  · rintro ⟨h1, h2⟩
    refine ⟨i, h1, ?_⟩
    rw [if_pos h2, p2_test, decide_eq_true_eq]
theorem joined_d {σ : jMem} {a b : Nat} {A : aP} (hP : DQ σ A) (hW : WF A) (ha : a < 8) (hb : b < 8) (hab : a ≠ b) : f_X5_isJoined 30 (nI a) (nI b) σ = some (nI (jdN A a b (a_np A)), σ) := by
  have hl := jdN_le A a b (a_np A)
  have hlt := np_lt hW (Nat.lt_of_le_of_lt (Nat.and_le_left (n := pAt A a) (m := pAt A b)) (pAt_lt A a))
  unfold f_X5_isJoined
  rw [pathsAt_d hP hW ha, jbd_eq, pathsAt_d hP hW hb, jbd_eq, nI_and]
  by_cases c : jdN A a b (a_np A) = 0
  · have h0 := jdN_0.mp c
    have : pAt A a &&& pAt A b = 0 := by
      apply Nat.eq_of_testBit_eq
      intro i
      rw [Nat.zero_testBit, Nat.testBit_and]
      cases c1 : (pAt A a).testBit i
      · rfl
      · cases c2 : (pAt A b).testBit i
        · rfl
        · have q1 := (pAt_t A a i).mp c1
          have q2 := (pAt_t A b i).mp c2
          have := h0 i q1.1
          unfold isJ at this
          omega
    rw [this, if_pos (show nI 0 = 0 from rfl), c]
    rfl
  · have : ¬ pAt A a &&& pAt A b = 0 := by
      intro q
      apply c
      rw [jdN_0]
      intro i hi hj
      have h1 : (pAt A a).testBit i = true := (pAt_t A a i).mpr ⟨hi, by unfold isJ at hj; omega⟩
      have h2 : (pAt A b).testBit i = true := (pAt_t A b i).mpr ⟨hi, by unfold isJ at hj; omega⟩
      have := congrArg (fun z => z.testBit i) q
      simp only [Nat.testBit_and, h1, h2, Nat.zero_testBit] at this
      exact absurd this (by decide)
    rw [if_neg (neL_ this (by omega) (by omega)), show jdN A a b (a_np A) = 1 by omega]
    rfl
theorem addPath_c {σ : jMem} {a b l : Nat} {A : aP} (hD : DQ σ A) (hn : a_np A < 12) : ∃ σ', f_X5_addPath 30 (nI a) (nI b) (nI l) σ = some σ' ∧ DQ σ' (addP A a b l) ∧ (∀ B n p, TP σ B n p → TP σ' B n p) ∧ (∀ σ0, FR fr30 σ0 σ → FR fr30 σ0 σ') ∧ σ'.1 13 2 = σ.1 13 2 := by
  have h5 : σ.1 30 5 = nI (a_np A) := hD.1.2.2.2.1
  refine ⟨jset (jset (jset (jset σ 31 (a_np A) (nI a)) 32 (a_np A) (nI b)) 33 (a_np A) (nI l)) 30 5 (nI (a_np A + 1)), ?_, ⟨⟨?_, ?_, ?_, ?_, ?_, ?_⟩, fun i hi => ?_, fun w hw => ?_⟩, fun B n p h => (((h.set (by omega) _ _).set (by omega) _ _).set (by omega) _ _).set (by omega) _ _, fun σ0 h => (((h.set (Or.inr (by omega))).set (Or.inr (by omega))).set (Or.inr (by omega))).set (Or.inr (by omega)), ?_⟩
  · unfold f_X5_addPath
    rw [h5, jst_eq (by omega) (by omega), jset_o (by omega), h5, jst_eq (by omega) (by omega), jset_o (by omega), jset_o (by omega), h5, jst_eq (by omega) (by omega), jset_o (by omega), jset_o (by omega), jset_o (by omega), h5, nI_1, jlet_eq]
  · rw [jset_o (by omega), jset_o (by omega), jset_o (by omega), jset_o (by omega)]; exact hD.1.1
  · rw [jset_o (by omega), jset_o (by omega), jset_o (by omega), jset_o (by omega)]; exact hD.1.2.1
  · rw [jset_o (by omega), jset_o (by omega), jset_o (by omega), jset_o (by omega)]; exact hD.1.2.2.1
  · rw [jset_i]; rfl
  · rw [jset_o (by omega), jset_o (by omega), jset_o (by omega), jset_o (by omega)]; exact hD.1.2.2.2.2.1
  · rw [jset_o (by omega), jset_o (by omega), jset_o (by omega), jset_o (by omega)]; exact hD.1.2.2.2.2.2
  · change i < a_np A + 1 at hi
    show _ = nI (up (a_pa A) (a_np A) a i) ∧ _ = nI (up (a_pb A) (a_np A) b i) ∧ _ = nI (up (a_pl A) (a_np A) l i)
    by_cases c : i = a_np A
    · subst c
      rw [up_e, up_e, up_e, jset_o (by omega), jset_o (by omega), jset_o (by omega), jset_i, jset_o (by omega), jset_o (by omega), jset_i, jset_o (by omega), jset_i]
      exact ⟨rfl, rfl, rfl⟩
    · have := hD.2.1 i (by omega)
      rw [up_o _ _ c, up_o _ _ c, up_o _ _ c, ← this.1, ← this.2.1, ← this.2.2]
      refine ⟨?_, ?_, ?_⟩ <;> rw [jset_o (by omega), jset_o (by omega), jset_o (by omega), jset_o (by omega)]
  · have := hD.2.2 w hw
    show _ = nI (a_kd A w) ∧ _ = nI (a_hm A w) ∧ _ = nI (a_ag A w) ∧ _ = nI (a_sw A w)
    rw [← this.1, ← this.2.1, ← this.2.2.1, ← this.2.2.2]
    refine ⟨?_, ?_, ?_, ?_⟩ <;> rw [jset_o (by omega), jset_o (by omega), jset_o (by omega), jset_o (by omega)]
  · rw [jset_o (by omega), jset_o (by omega), jset_o (by omega), jset_o (by omega)]
theorem addWit_c {σ : jMem} {kd ag hm : Nat} {A : aP} (hD : DQ σ A) (hn : a_nw A < 6) : ∃ σ', f_X5_addWitness 30 (nI kd) (nI ag) (nI hm) σ = some σ' ∧ DQ σ' (addW A kd ag hm) ∧ (∀ B n p, TP σ B n p → TP σ' B n p) ∧ (∀ σ0, FR fr30 σ0 σ → FR fr30 σ0 σ') ∧ σ'.1 13 2 = σ.1 13 2 := by
  have h6 : σ.1 30 6 = nI (a_nw A) := hD.1.2.2.2.2.1
  refine ⟨jset (jset (jset (jset (jset σ 34 (a_nw A) (nI kd)) 36 (a_nw A) (nI ag)) 35 (a_nw A) (nI hm)) 37 (a_nw A) 0) 30 6 (nI (a_nw A + 1)), ?_, ⟨⟨?_, ?_, ?_, ?_, ?_, ?_⟩, fun i hi => ?_, fun w hw => ?_⟩, fun B n p h => ((((h.set (by omega) _ _).set (by omega) _ _).set (by omega) _ _).set (by omega) _ _).set (by omega) _ _, fun σ0 h => ((((h.set (Or.inr (by omega))).set (Or.inr (by omega))).set (Or.inr (by omega))).set (Or.inr (by omega))).set (Or.inr (by omega)), ?_⟩
  · unfold f_X5_addWitness
    rw [h6, jst_eq (by omega) (by omega), jset_o (by omega), h6, jst_eq (by omega) (by omega), jset_o (by omega), jset_o (by omega), h6, jst_eq (by omega) (by omega), jset_o (by omega), jset_o (by omega), jset_o (by omega), h6, jst_eq (by omega) (by omega), jset_o (by omega), jset_o (by omega), jset_o (by omega), jset_o (by omega), h6, nI_1, jlet_eq]
  · rw [jset_o (by omega), jset_o (by omega), jset_o (by omega), jset_o (by omega), jset_o (by omega)]; exact hD.1.1
  · rw [jset_o (by omega), jset_o (by omega), jset_o (by omega), jset_o (by omega), jset_o (by omega)]; exact hD.1.2.1
  · rw [jset_o (by omega), jset_o (by omega), jset_o (by omega), jset_o (by omega), jset_o (by omega)]; exact hD.1.2.2.1
  · rw [jset_o (by omega), jset_o (by omega), jset_o (by omega), jset_o (by omega), jset_o (by omega)]; exact hD.1.2.2.2.1
  · rw [jset_i]; rfl
  · rw [jset_o (by omega), jset_o (by omega), jset_o (by omega), jset_o (by omega), jset_o (by omega)]; exact hD.1.2.2.2.2.2
  · have := hD.2.1 i hi
    show _ = nI (a_pa A i) ∧ _ = nI (a_pb A i) ∧ _ = nI (a_pl A i)
    rw [← this.1, ← this.2.1, ← this.2.2]
    refine ⟨?_, ?_, ?_⟩ <;> rw [jset_o (by omega), jset_o (by omega), jset_o (by omega), jset_o (by omega), jset_o (by omega)]
  · change w < a_nw A + 1 at hw
    show _ = nI (up (a_kd A) (a_nw A) kd w) ∧ _ = nI (up (a_hm A) (a_nw A) hm w) ∧ _ = nI (up (a_ag A) (a_nw A) ag w) ∧ _ = nI (up (a_sw A) (a_nw A) 0 w)
    by_cases c : w = a_nw A
    · subst c
      rw [up_e, up_e, up_e, up_e]
      refine ⟨?_, ?_, ?_, ?_⟩
      · rw [jset_o (by omega), jset_o (by omega), jset_o (by omega), jset_o (by omega), jset_i]
      · rw [jset_o (by omega), jset_o (by omega), jset_i]
      · rw [jset_o (by omega), jset_o (by omega), jset_o (by omega), jset_i]
      · rw [jset_o (by omega), jset_i]; rfl
    · have := hD.2.2 w (by omega)
      rw [up_o _ _ c, up_o _ _ c, up_o _ _ c, up_o _ _ c, ← this.1, ← this.2.1, ← this.2.2.1, ← this.2.2.2]
      refine ⟨?_, ?_, ?_, ?_⟩ <;> rw [jset_o (by omega), jset_o (by omega), jset_o (by omega), jset_o (by omega), jset_o (by omega)]
  · rw [jset_o (by omega), jset_o (by omega), jset_o (by omega), jset_o (by omega), jset_o (by omega)]
theorem fr13_2 {σ τ : jMem} (f : FR fr13 σ τ) : τ.1 13 2 = σ.1 13 2 := f.1 13 2 (by unfold fr13; omega)
theorem readPath_c {B : Nat → Nat} {n p : Nat} {σ0 σ : jMem} {A : aP} (h : SC B n σ0 σ p A) : OC B n σ0 (f_X9_readPath 30 σ) (pPath B n A p) := by
  obtain ⟨hT, hD, hG, hF, h2⟩ := h
  have hb := hG.1.b
  have h5 : σ.1 30 5 = nI (a_np A) := hD.1.2.2.2.1
  have h112 := tkC_iff (B := B) (n := n) (p := p) (c := 112) (by omega) (by omega)
  unfold f_X9_readPath pPath
  rw [jj_eq, hT.2.2.2.1, h5]
  by_cases c0 : isTk B n 112 p ∧ 12 ≤ a_np A
  · obtain ⟨σ', e, q⟩ := fails_c (f := 3) hT hF
    rw [if_neg (fun z => z (h112.mpr c0.1)), if_neg (ltL_ (by omega) (by omega)), if_pos c0, show (3 : Int32) = nI 3 from rfl, e, jbd_eq, jck_t (by decide)]
    exact ⟨σ', rfl, q⟩
  · rw [if_neg c0]
    suffices hs : ∀ c : Prop, ∀ _ : Decidable c, (isTk B n 112 p → a_np A < 12) → OC B n σ0 (jbd (f_X9_takes (112 : Int32) σ) _) (pTk B n 112 p _) by
      by_cases c1 : isTk B n 112 p
      · rw [if_neg (fun z => z (h112.mpr c1)), if_pos (ltL (by omega) (by omega))]
        exact hs True inferInstance (fun _ => by omega)
      · rw [if_pos (show ¬ tkC B n p = 112 from fun z => c1 (h112.mp z))]
        exact hs True inferInstance (fun q => absurd q c1)
    intro _ _ hnp
    refine takesK (c := 112) hT (by omega) hF (fun tk σ1 t1 f1 => ?_)
    have hn12 := hnp tk
    have F1 := hF.trans (fr13_30 f1)
    refine numK (lo := 0) (hi := 7) t1 (by omega) F1 (fun q1 _ l2 => ?_)
    rw [t1.2.2.2.2.2 q1, jlet_eq]
    refine takeK t1 (fun σ3 t3 f3 => ?_)
    have F3 := F1.trans (fr13_30 f3)
    refine takesK (c := 44) t3 (by omega) F3 (fun _ σ4 t4 f4 => ?_)
    have F4 := F3.trans (fr13_30 f4)
    have D4 : DQ σ4 A := ((hD.fr f1).fr f3).fr f4
    refine numX (lo := 0) (hi := 7) t4 (by omega) F4 (fun q4 _ l4 => ?_)
    rw [t4.2.2.2.2.2 q4, jlet_eq, jj_eq]
    generalize ea : tX B n (tN B n p) = a at l2 ⊢
    generalize epb : tN B n (tN B n (tN B n p)) = pb at t4 q4 l4 ⊢
    generalize eb : tX B n pb = b at l4 ⊢
    obtain ⟨σ', e, q⟩ := fails_c (f := 2) t4 F4
    unfold exP
    by_cases cab : a = b
    · rw [if_pos cab, if_neg (show ¬ (1 : Nat) = 0 by omega), if_pos (show nI a = nI b by rw [cab])]
      dsimp only
      rw [show (2 : Int32) = nI 2 from rfl, e, jbd_eq, jck_t (by decide)]
      exact ⟨σ', rfl, q⟩
    · have hl := jdN_le A a b (a_np A)
      rw [if_neg cab, if_neg (nne_ cab (by omega) (by omega)), joined_d D4 hG.1 (by omega) (by omega) cab, jbd_eq]
      by_cases cj : jdN A a b (a_np A) = 0
      · rw [cj, if_pos (show nI 0 = 0 from rfl), if_pos rfl]
        refine takeK t4 (fun σ5 t5 f5 => ?_)
        have F5 := F4.trans (fr13_30 f5)
        refine takesK (c := 44) t5 (by omega) F5 (fun _ σ6 t6 f6 => ?_)
        have F6 := F5.trans (fr13_30 f6)
        have D6 := (D4.fr f5).fr f6
        refine numK (lo := 1) (hi := 9) t6 (by omega) F6 (fun q6 l5 l6 => ?_)
        rw [t6.2.2.2.2.2 q6]
        obtain ⟨σ7, e7, D7, T7, F7, z7⟩ := addPath_c (a := a) (b := b) (l := tX B n (tN B n (tN B n pb))) D6 hn12
        rw [e7, jbv_eq]
        have hG7 : GA (addP A a b (tX B n (tN B n (tN B n pb)))) := hG.addP hn12 (by omega) (by omega) (by unfold exP; rw [if_neg cab]; exact cj) l5 l6
        refine takeK (T7 _ _ _ t6) (fun σ8 t8 f8 => ?_)
        refine takesE (c := 59) t8 (by omega) ((F7 _ F6).trans (fr13_30 f8)) ?_ (D7.fr f8) hG7
        rw [fr13_2 f8, z7, fr13_2 f6, fr13_2 f5, fr13_2 f4, fr13_2 f3, fr13_2 f1]
        exact h2
      · rw [if_neg (neL_ cj (by omega) (by omega)), if_neg cj]
        dsimp only
        rw [show (2 : Int32) = nI 2 from rfl, e, jbd_eq, jck_t (by decide)]
        exact ⟨σ', rfl, q⟩
theorem sortOf_c {B : Nat → Nat} {n p : Nat} (σ : jMem) : f_X9_sortOf (tkC B n p) σ = some (nI (srt B n p), σ) := by
  have i99 : tkC B n p = (99 : Int32) ↔ isTk B n 99 p := tkC_iff (c := 99) (by omega) (by omega)
  have i102 : tkC B n p = (102 : Int32) ↔ isTk B n 102 p := tkC_iff (c := 102) (by omega) (by omega)
  have i109 : tkC B n p = (109 : Int32) ↔ isTk B n 109 p := tkC_iff (c := 109) (by omega) (by omega)
  have i110 : tkC B n p = (110 : Int32) ↔ isTk B n 110 p := tkC_iff (c := 110) (by omega) (by omega)
  have i115 : tkC B n p = (115 : Int32) ↔ isTk B n 115 p := tkC_iff (c := 115) (by omega) (by omega)
  unfold f_X9_sortOf srt
  by_cases c1 : isTk B n 99 p
  · have := c1.2
    rw [if_pos (i99.mpr c1), if_neg (fun q => by have := q.2; omega), if_pos c1]
    rfl
  · rw [if_neg (fun q => c1 (i99.mp q))]
    by_cases c2 : isTk B n 102 p
    · have := c2.2
      rw [if_pos (i102.mpr c2), if_neg (fun q => by have := q.2; omega), if_neg c1, if_pos c2]
      rfl
    · rw [if_neg (fun q => c2 (i102.mp q))]
      by_cases c3 : isTk B n 109 p
      · have := c3.2
        rw [if_pos (i109.mpr c3), if_neg (fun q => by have := q.2; omega), if_neg c1, if_neg c2, if_neg (fun q => by have := q.2; omega), if_pos c3]
        rfl
      · rw [if_neg (fun q => c3 (i109.mp q))]
        by_cases c4 : isTk B n 110 p
        · rw [if_pos (i110.mpr c4), if_pos c4]
          rfl
        · rw [if_neg (fun q => c4 (i110.mp q)), if_neg c4, if_neg c1, if_neg c2]
          by_cases c5 : isTk B n 115 p
          · rw [if_pos (i115.mpr c5), if_pos c5]
            rfl
          · rw [if_neg (fun q => c5 (i115.mp q)), if_neg c5, if_neg c3]
            rfl
theorem readWit_c {B : Nat → Nat} {n p : Nat} {σ0 σ : jMem} {A : aP} (h : SC B n σ0 σ p A) (hs : srt B n p ≠ 0) : OC B n σ0 (f_X9_readWitness 30 σ) (pWit B n A p) := by
  obtain ⟨hT, hD, hG, hF, h2⟩ := h
  have hb := hG.1.b
  have h6 : σ.1 30 6 = nI (a_nw A) := hD.1.2.2.2.2.1
  have hs5 := srt_le B n p
  unfold f_X9_readWitness pWit
  rw [h6]
  by_cases c0 : 6 ≤ a_nw A
  · obtain ⟨σ', e, q⟩ := fails_c (f := 3) hT hF
    rw [if_neg (ltL_ (by omega) (by omega)), if_pos c0, show (3 : Int32) = nI 3 from rfl, e, jbd_eq, jck_t (by decide)]
    exact ⟨σ', rfl, q⟩
  · rw [if_pos (ltL (by omega) (by omega)), if_neg c0, hT.2.2.2.1, sortOf_c, jbd_eq]
    refine takeK hT (fun σ1 t1 f1 => ?_)
    have F1 := hF.trans (fr13_30 f1)
    refine numK (lo := 0) (hi := 60) t1 (by omega) F1 (fun q1 _ l2 => ?_)
    rw [t1.2.2.2.2.2 q1, jlet_eq]
    refine takeK t1 (fun σ3 t3 f3 => ?_)
    have F3 := F1.trans (fr13_30 f3)
    refine takesK (c := 44) t3 (by omega) F3 (fun _ σ4 t4 f4 => ?_)
    have F4 := F3.trans (fr13_30 f4)
    have D4 : DQ σ4 A := ((hD.fr f1).fr f3).fr f4
    refine numK (lo := 0) (hi := 7) t4 (by omega) F4 (fun q4 _ l4 => ?_)
    rw [t4.2.2.2.2.2 q4]
    generalize ea : tX B n (tN B n p) = a at l2 ⊢
    generalize epb : tN B n (tN B n (tN B n p)) = pb at t4 q4 l4 ⊢
    obtain ⟨σ7, e7, D7, T7, F7, z7⟩ := addWit_c (kd := srt B n p) (ag := a) (hm := tX B n pb) D4 (by omega)
    rw [e7, jbv_eq]
    have hG7 : GA (addW A (srt B n p) a (tX B n pb)) := hG.addW (by omega) (by omega) hs5 l2 (by omega)
    refine takeK (T7 _ _ _ t4) (fun σ8 t8 f8 => ?_)
    refine takesE (c := 59) t8 (by omega) ((F7 _ F4).trans (fr13_30 f8)) ?_ (D7.fr f8) hG7
    rw [fr13_2 f8, z7, fr13_2 f4, fr13_2 f3, fr13_2 f1]
    exact h2
