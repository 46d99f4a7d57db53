/-! ===== PURE: ask ===== -/
def TQ (a c j : Nat) (σ0 σ : jMem) (l : List Int32) : Prop := σ.1 c j = nI l.length ∧ (∀ i, i < l.length → σ.1 a i = l.getD i 0) ∧ (∀ x y, x ≠ a → ¬ (x = c ∧ y = j) → σ.1 x y = σ0.1 x y) ∧ σ.2 = σ0.2
theorem TQ.push {a c j : Nat} {σ0 σ : jMem} {l : List Int32} (h : TQ a c j σ0 σ l) (hac : a ≠ c) (b : Int32) : TQ a c j σ0 (jset (jset σ a l.length b) c j (nI (l.length + 1))) (l ++ [b]) := by
  refine ⟨?_, fun i hi => ?_, fun x y h1 h2 => ?_, h.2.2.2⟩
  · rw [jset_i, List.length_append]
    rfl
  · rw [List.length_append] at hi
    change i < l.length + 1 at hi
    rw [jset_o (by omega)]
    by_cases e : i = l.length
    · rw [e, jset_i]
      simp
    · rw [jset_o (by omega), h.2.1 i (by omega)]
      simp only [List.getD_eq_getElem?_getD]
      rw [List.getElem?_append_left (by omega)]
  · rw [jset_o h2, jset_o (by omega)]
    exact h.2.2.1 x y h1 h2
theorem begin_c {σ0 σ : jMem} {l : List Int32} (h : TQ 87 86 3 σ0 σ l) (hl : l.length < 16) (b : Int32) : ∃ σ', f_X0_begin b σ = some σ' ∧ TQ 87 86 3 σ0 σ' (l ++ [b]) := by
  refine ⟨_, ?_, h.push (by omega) b⟩
  unfold f_X0_begin
  rw [h.1, if_neg (Lle_ (by omega) (by omega)), jst_eq (by omega) (by omega), jset_o (by omega), h.1, jlet_eq, nI_1]
theorem began_r {σ0 σ : jMem} {l : List Int32} (h : TQ 101 89 26 σ0 σ l) (hl : l.length < 16) (b : Int32) : ∃ σ', f_X12_began b σ = some σ' ∧ TQ 101 89 26 σ0 σ' (l ++ [b]) := by
  refine ⟨_, ?_, h.push (by omega) b⟩
  unfold f_X12_began
  rw [h.1, if_neg (Lle_ (by omega) (by omega)), jst_eq (by omega) (by omega), jset_o (by omega), h.1, jlet_eq, nI_1]
def BQ (a c j : Nat) (σ0 : jMem) (f : jMem → Option (Int32 × jMem)) (v : Int32) (L : List Int32) : Prop := ∀ σ l, TQ a c j σ0 σ l → l.length + L.length ≤ 16 → ∃ σ', f σ = some (v, σ') ∧ TQ a c j σ0 σ' (l ++ L)
theorem BQ.then {a c j : Nat} {σ0 : jMem} {f : jMem → Option (Int32 × jMem)} {v : Int32} {L : List Int32} (h : BQ a c j σ0 f v L) {σ : jMem} {l : List Int32} {b : Int32} (hT : TQ a c j σ0 σ (l ++ [b])) (hl : l.length + (b :: L).length ≤ 16) : ∃ σ', f σ = some (v, σ') ∧ TQ a c j σ0 σ' (l ++ b :: L) := by
  have hl' : l.length + (L.length + 1) ≤ 16 := hl
  obtain ⟨σ', e, t⟩ := h σ (l ++ [b]) hT (by rw [List.length_append]; show l.length + 1 + L.length ≤ 16; omega)
  refine ⟨σ', e, ?_⟩
  rw [List.append_assoc] at t
  exact t
abbrev BC (σ0 : jMem) := BQ 87 86 3 σ0
theorem m10 (σ0 : jMem) (w : Nat) : BC σ0 (f_X10_mark w) (σ0.1 86 0) [20] := by
  intro σ l h hl
  obtain ⟨σ1, e1, h1⟩ := begin_c h (show l.length < 16 from hl) 20
  refine ⟨σ1, ?_, h1⟩
  unfold f_X10_mark
  rw [e1, jbv_eq, h1.2.2.1 86 0 (by omega) (by omega)]
theorem s10 (σ0 : jMem) (w : Nat) : BC σ0 (f_X10_size w) (σ0.1 86 2) [10] := by
  intro σ l h hl
  obtain ⟨σ1, e1, h1⟩ := begin_c h (show l.length < 16 from hl) 10
  refine ⟨σ1, ?_, h1⟩
  unfold f_X10_size
  rw [e1, jbv_eq, h1.2.2.1 86 2 (by omega) (by omega)]
theorem m4 (σ0 : jMem) (w : Nat) : BC σ0 (f_X4_mark w) (σ0.1 86 0 + σ0.1 86 1) [21, 20] := by
  intro σ l h hl
  have hl2 : l.length + 2 ≤ 16 := hl
  obtain ⟨σ1, e1, h1⟩ := begin_c h (by omega) 21
  obtain ⟨σ2, e2, h2⟩ := (m10 σ0 w).then h1 hl
  refine ⟨σ2, ?_, h2⟩
  unfold f_X4_mark
  rw [e1, jbv_eq, e2, jbd_eq, h2.2.2.1 86 1 (by omega) (by omega)]
theorem m1 (σ0 : jMem) (w : Nat) : BC σ0 (f_X1_mark w) ((2 : Int32) * (σ0.1 86 0 + σ0.1 86 1)) [24, 21, 20] := by
  intro σ l h hl
  have hl2 : l.length + 3 ≤ 16 := hl
  obtain ⟨σ1, e1, h1⟩ := begin_c h (by omega) 24
  obtain ⟨σ2, e2, h2⟩ := (m4 σ0 w).then h1 hl
  refine ⟨σ2, ?_, h2⟩
  unfold f_X1_mark
  rw [e1, jbv_eq, e2, jbd_eq]
theorem m3 (σ0 : jMem) (w : Nat) : BC σ0 (f_X3_mark w) ((σ0.1 86 0 + σ0.1 86 1) - (1000 : Int32)) [22, 21, 20] := by
  intro σ l h hl
  have hl2 : l.length + 3 ≤ 16 := hl
  obtain ⟨σ1, e1, h1⟩ := begin_c h (by omega) 22
  obtain ⟨σ2, e2, h2⟩ := (m4 σ0 w).then h1 hl
  refine ⟨σ2, ?_, h2⟩
  unfold f_X3_mark
  rw [e1, jbv_eq, e2, jbd_eq]
theorem s8 (σ0 : jMem) (w : Nat) : BC σ0 (f_X8_size w) (σ0.1 86 2 - (100 : Int32)) [13, 10] := by
  intro σ l h hl
  have hl2 : l.length + 2 ≤ 16 := hl
  obtain ⟨σ1, e1, h1⟩ := begin_c h (by omega) 13
  obtain ⟨σ2, e2, h2⟩ := (s10 σ0 w).then h1 hl
  refine ⟨σ2, ?_, h2⟩
  unfold f_X8_size
  rw [e1, jbv_eq, e2, jbd_eq]
theorem s7 (σ0 : jMem) (w : Nat) : BC σ0 (f_X7_size w) ((2 : Int32) * (σ0.1 86 2 - (100 : Int32))) [14, 13, 10] := by
  intro σ l h hl
  have hl2 : l.length + 3 ≤ 16 := hl
  obtain ⟨σ1, e1, h1⟩ := begin_c h (by omega) 14
  obtain ⟨σ2, e2, h2⟩ := (s8 σ0 w).then h1 hl
  refine ⟨σ2, ?_, h2⟩
  unfold f_X7_size
  rw [e1, jbv_eq, e2, jbd_eq]
def mkV (kd : Nat) (n a s : Int32) : Int32 := if kd = 1 then n + a else if kd = 2 then (2 : Int32) * (n + a) else if kd = 3 then (n + a) - (1000 : Int32) else if kd = 4 then n - (s - (100 : Int32)) else n - (2 : Int32) * (s - (100 : Int32))
def mkL (kd : Nat) : List Int32 := if kd = 1 then [21, 20] else if kd = 2 then [24, 21, 20] else if kd = 3 then [22, 21, 20] else if kd = 4 then [23, 20, 13, 10] else [23, 20, 14, 13, 10]
def szV (kd : Nat) (n a s : Int32) : Int32 := if kd = 1 then s + mkV 1 n a s else if kd = 2 then -(s + mkV 2 n a s) else if kd = 3 then s + mkV 3 n a s else if kd = 4 then s - (100 : Int32) else (2 : Int32) * (s - (100 : Int32))
def szL (kd : Nat) : List Int32 := if kd = 1 then [11, 10, 21, 20] else if kd = 2 then [12, 11, 10, 24, 21, 20] else if kd = 3 then [11, 10, 22, 21, 20] else if kd = 4 then [13, 10] else [14, 13, 10]
theorem m8 {σ0 : jMem} {w : Nat} {v : Int32} {L : List Int32} (hs : BC σ0 (vf_X8_size w) v L) : BC σ0 (f_X8_mark w) (σ0.1 86 0 - v) (23 :: 20 :: L) := by
  intro σ l h hl
  have hl2 : l.length + (L.length + 1 + 1) ≤ 16 := hl
  obtain ⟨σ1, e1, h1⟩ := begin_c h (by omega) 23
  have g1 : (l ++ [(23 : Int32)]).length = l.length + 1 := by rw [List.length_append]; rfl
  obtain ⟨σ2, e2, h2⟩ := m10 σ0 w σ1 (l ++ [23]) h1 (by rw [g1]; show l.length + 1 + 1 ≤ 16; omega)
  obtain ⟨σ3, e3, h3⟩ := hs.then h2 (by rw [g1]; show l.length + 1 + (L.length + 1) ≤ 16; omega)
  refine ⟨σ3, ?_, ?_⟩
  · unfold f_X8_mark
    rw [e1, jbv_eq, e2, jbd_eq, e3, jbd_eq]
  · rw [List.append_assoc] at h3
    exact h3
theorem s4 {σ0 : jMem} {w : Nat} {v : Int32} {L : List Int32} (hs : BC σ0 (vf_X4_mark w) v L) : BC σ0 (f_X4_size w) (σ0.1 86 2 + v) (11 :: 10 :: L) := by
  intro σ l h hl
  have hl2 : l.length + (L.length + 1 + 1) ≤ 16 := hl
  obtain ⟨σ1, e1, h1⟩ := begin_c h (by omega) 11
  have g1 : (l ++ [(11 : Int32)]).length = l.length + 1 := by rw [List.length_append]; rfl
  obtain ⟨σ2, e2, h2⟩ := s10 σ0 w σ1 (l ++ [11]) h1 (by rw [g1]; show l.length + 1 + 1 ≤ 16; omega)
  obtain ⟨σ3, e3, h3⟩ := hs.then h2 (by rw [g1]; show l.length + 1 + (L.length + 1) ≤ 16; omega)
  refine ⟨σ3, ?_, ?_⟩
  · unfold f_X4_size
    rw [e1, jbv_eq, e2, jbd_eq, e3, jbd_eq]
  · rw [List.append_assoc] at h3
    exact h3
theorem s1 (σ0 : jMem) : BC σ0 (f_X1_size 18) (-(σ0.1 86 2 + (2 : Int32) * (σ0.1 86 0 + σ0.1 86 1))) [12, 11, 10, 24, 21, 20] := by
  intro σ l h hl
  have hl2 : l.length + 6 ≤ 16 := hl
  obtain ⟨σ1, e1, h1⟩ := begin_c h (by omega) 12
  have hs : BC σ0 (vf_X4_mark 18) ((2 : Int32) * (σ0.1 86 0 + σ0.1 86 1)) [24, 21, 20] := m1 σ0 18
  obtain ⟨σ2, e2, h2⟩ := (s4 hs).then h1 hl
  refine ⟨σ2, ?_, h2⟩
  unfold f_X1_size
  rw [e1, jbv_eq, e2, jbd_eq]
theorem mark_c (σ0 : jMem) {kd : Nat} (h1 : 1 ≤ kd) (h5 : kd ≤ 5) : BC σ0 (vf_X10_mark (16 + 1 * kd)) (mkV kd (σ0.1 86 0) (σ0.1 86 1) (σ0.1 86 2)) (mkL kd) := by
  rcases (show kd = 1 ∨ kd = 2 ∨ kd = 3 ∨ kd = 4 ∨ kd = 5 by omega) with rfl | rfl | rfl | rfl | rfl
  · exact m4 σ0 17
  · exact m1 σ0 18
  · exact m3 σ0 19
  · exact m8 (w := 20) (s8 σ0 20)
  · exact m8 (w := 21) (s7 σ0 21)
theorem size_c (σ0 : jMem) {kd : Nat} (h1 : 1 ≤ kd) (h5 : kd ≤ 5) : BC σ0 (vf_X10_size (16 + 1 * kd)) (szV kd (σ0.1 86 0) (σ0.1 86 1) (σ0.1 86 2)) (szL kd) := by
  rcases (show kd = 1 ∨ kd = 2 ∨ kd = 3 ∨ kd = 4 ∨ kd = 5 by omega) with rfl | rfl | rfl | rfl | rfl
  · exact s4 (w := 17) (m4 σ0 17)
  · exact s1 σ0
  · exact s4 (w := 19) (m3 σ0 19)
  · exact s8 σ0 20
  · exact s7 σ0 21
/-! the reference -/
abbrev BR (σ0 : jMem) := BQ 101 89 26 σ0
theorem TQ.pr {σ0 σ : jMem} {l : List Int32} {A : aP} (h : TQ 101 89 26 σ0 σ l) (hP : PR σ0 93 0 A) (hW : WF A) : PR σ 93 0 A := hP.congr (r' := 93) (o' := 0) hW.b (fun j _ => h.2.2.1 93 _ (by omega) (by omega))
theorem plain_r {σ0 : jMem} {A : aP} {w : Nat} (hP : PR σ0 93 0 A) (hW : WF A) (hw : w < a_nw A) : BR σ0 (f_X12_plainSize (nI w)) (nI (popc (aSw A w))) [10] := by
  intro σ l h hl
  obtain ⟨σ1, e1, h1⟩ := began_r h (show l.length < 16 from hl) 10
  have hlt := np_lt hW (aSw_lt hW hw)
  refine ⟨σ1, ?_, h1⟩
  unfold f_X12_plainSize
  rw [e1, jbv_eq, swears_r (h1.pr hP hW) hW hw, jbd_eq, bits_spec (by omega), jbd_eq]
theorem str_r {σ0 : jMem} {A : aP} {w : Nat} (hP : PR σ0 93 0 A) (hW : WF A) (hw : w < a_nw A) (h4 : 4 ≤ a_kd A w) : BR σ0 (f_X12_strangerSize (nI w)) (if a_kd A w = 4 then nI (popc (aSw A w)) - (100 : Int32) else (2 : Int32) * (nI (popc (aSw A w)) - (100 : Int32))) (if a_kd A w = 4 then [13, 10] else [14, 13, 10]) := by
  intro σ l h hl
  have hk := hW.2.2.2 w hw
  unfold f_X12_strangerSize
  rw [of_k (h.pr hP hW) hW hw, jbd_eq]
  rcases (show a_kd A w = 4 ∨ a_kd A w = 5 by omega) with k | k
  · rw [k, if_pos rfl] at hl ⊢
    have hl2 : l.length + 2 ≤ 16 := hl
    obtain ⟨σ1, e1, h1⟩ := began_r h (by omega) 13
    obtain ⟨σ2, e2, h2⟩ := (plain_r hP hW hw).then h1 hl
    refine ⟨σ2, ?_, h2⟩
    rw [jj_eq, if_pos (by decide)]
    dsimp only
    rw [jj_eq, if_pos rfl]
    dsimp only
    rw [e1, jbv_eq, e2, jbd_eq, jlet_eq, if_pos rfl]
  · rw [k, if_neg (by omega)] at hl ⊢
    have hl2 : l.length + 3 ≤ 16 := hl
    obtain ⟨σ1, e1, h1⟩ := began_r h (by omega) 14
    obtain ⟨σ2, e2, h2⟩ := began_r h1 (by rw [List.length_append]; show l.length + 1 < 16; omega) 13
    obtain ⟨σ3, e3, h3⟩ := (plain_r hP hW hw).then h2 (by rw [List.length_append]; show l.length + 1 + 2 ≤ 16; omega)
    refine ⟨σ3, ?_, ?_⟩
    · rw [jj_eq, if_neg (by decide)]
      dsimp only
      rw [jj_eq, if_neg (by decide), e1, jbv_eq]
      dsimp only
      rw [e2, jbv_eq, e3, jbd_eq, jlet_eq, if_neg (by decide)]
    · rw [if_neg (by omega)]
      rw [List.append_assoc] at h3
      exact h3
theorem markOf_r {σ0 : jMem} {A : aP} {w : Nat} (hP : PR σ0 93 0 A) (hW : WF A) (hw : w < a_nw A) : BR σ0 (f_X12_markOf (nI w)) (mkV (a_kd A w) (nI w) (nI (a_ag A w)) (nI (popc (aSw A w)))) (mkL (a_kd A w)) := by
  intro σ l h hl
  have hk := hW.2.2.2 w hw
  unfold f_X12_markOf
  rw [of_k (h.pr hP hW) hW hw, jbd_eq]
  have g1 : ∀ b : Int32, (l ++ [b]).length = l.length + 1 := fun b => by rw [List.length_append]; rfl
  have str := str_r hP hW hw
  rcases (show a_kd A w = 1 ∨ a_kd A w = 2 ∨ a_kd A w = 3 ∨ a_kd A w = 4 ∨ a_kd A w = 5 by omega) with k | k | k | k | k
  · rw [k] at hl ⊢
    have hl2 : l.length + 2 ≤ 16 := hl
    obtain ⟨σ1, e1, h1⟩ := began_r h (by omega) 21
    obtain ⟨σ2, e2, h2⟩ := began_r h1 (by rw [g1]; omega) 20
    refine ⟨σ2, ?_, ?_⟩
    · rw [if_pos (by decide), jj_eq, if_pos (by decide)]
      dsimp only
      rw [e1, jbv_eq, e2, jbv_eq, of_a (h2.pr hP hW) hW hw, jbd_eq, jlet_eq, if_neg (by decide)]
      rfl
    · rw [List.append_assoc] at h2
      exact h2
  · rw [k] at hl ⊢
    have hl2 : l.length + 3 ≤ 16 := hl
    obtain ⟨σ0', e0, h0⟩ := began_r h (by omega) 24
    obtain ⟨σ1, e1, h1⟩ := began_r h0 (by rw [g1]; omega) 21
    obtain ⟨σ2, e2, h2⟩ := began_r h1 (by rw [List.length_append, g1]; show l.length + 1 + 1 < 16; omega) 20
    refine ⟨σ2, ?_, ?_⟩
    · rw [if_pos (by decide), jj_eq, if_neg (by decide), jj_eq, if_pos (by decide)]
      dsimp only
      rw [e0, jbv_eq, e1, jbv_eq, e2, jbv_eq, of_a (h2.pr hP hW) hW hw, jbd_eq, jlet_eq, if_pos (by decide), if_pos (by decide), nI_add]
      show _ = some ((2 : Int32) * (nI w + nI (a_ag A w)), σ2)
      rw [nI_add]
    · rw [List.append_assoc, List.append_assoc] at h2
      exact h2
  · rw [k] at hl ⊢
    have hl2 : l.length + 3 ≤ 16 := hl
    obtain ⟨σ0', e0, h0⟩ := began_r h (by omega) 22
    obtain ⟨σ1, e1, h1⟩ := began_r h0 (by rw [g1]; omega) 21
    obtain ⟨σ2, e2, h2⟩ := began_r h1 (by rw [List.length_append, g1]; show l.length + 1 + 1 < 16; omega) 20
    refine ⟨σ2, ?_, ?_⟩
    · rw [if_pos (by decide), jj_eq, if_neg (by decide), jj_eq, if_neg (by decide)]
      dsimp only
      rw [e0, jbv_eq, e1, jbv_eq, e2, jbv_eq, of_a (h2.pr hP hW) hW hw, jbd_eq, jlet_eq, if_pos (by decide), if_neg (by decide)]
      rfl
    · rw [List.append_assoc, List.append_assoc] at h2
      exact h2
  · rw [k] at hl str ⊢
    have hl2 : l.length + 4 ≤ 16 := hl
    obtain ⟨σ1, e1, h1⟩ := began_r h (by omega) 23
    obtain ⟨σ2, e2, h2⟩ := began_r h1 (by rw [g1]; omega) 20
    obtain ⟨σ3, e3, h3⟩ := (str (by omega)).then h2 (by rw [g1]; show l.length + 1 + 3 ≤ 16; omega)
    refine ⟨σ3, ?_, ?_⟩
    · rw [if_neg (by decide), e1, jbv_eq, e2, jbv_eq, e3, jbd_eq]
      rfl
    · rw [List.append_assoc] at h3
      exact h3
  · rw [k] at hl str ⊢
    have hl2 : l.length + 5 ≤ 16 := hl
    obtain ⟨σ1, e1, h1⟩ := began_r h (by omega) 23
    obtain ⟨σ2, e2, h2⟩ := began_r h1 (by rw [g1]; omega) 20
    obtain ⟨σ3, e3, h3⟩ := (str (by omega)).then h2 (by rw [g1]; show l.length + 1 + 4 ≤ 16; omega)
    refine ⟨σ3, ?_, ?_⟩
    · rw [if_neg (by decide), e1, jbv_eq, e2, jbv_eq, e3, jbd_eq]
      rfl
    · rw [List.append_assoc] at h3
      exact h3
theorem sizeOf_r {σ0 : jMem} {A : aP} {w : Nat} (hP : PR σ0 93 0 A) (hW : WF A) (hw : w < a_nw A) : BR σ0 (f_X12_sizeOf (nI w)) (szV (a_kd A w) (nI w) (nI (a_ag A w)) (nI (popc (aSw A w)))) (szL (a_kd A w)) := by
  intro σ l h hl
  have hk := hW.2.2.2 w hw
  unfold f_X12_sizeOf
  rw [of_k (h.pr hP hW) hW hw, jbd_eq]
  have g1 : ∀ b : Int32, (l ++ [b]).length = l.length + 1 := fun b => by rw [List.length_append]; rfl
  have str := str_r hP hW hw
  have mk := markOf_r hP hW hw
  rcases (show a_kd A w = 1 ∨ a_kd A w = 2 ∨ a_kd A w = 3 ∨ a_kd A w = 4 ∨ a_kd A w = 5 by omega) with k | k | k | k | k
  · rw [k] at hl mk ⊢
    have hl2 : l.length + 4 ≤ 16 := hl
    obtain ⟨σ1, e1, h1⟩ := began_r h (by omega) 11
    obtain ⟨σ2, e2, h2⟩ := plain_r hP hW hw σ1 _ h1 (by rw [g1]; show l.length + 1 + 1 ≤ 16; omega)
    obtain ⟨σ3, e3, h3⟩ := mk.then h2 (by rw [g1]; show l.length + 1 + 3 ≤ 16; omega)
    refine ⟨σ3, ?_, ?_⟩
    · rw [if_pos (by decide), jj_eq, if_pos (by decide)]
      dsimp only
      rw [e1, jbv_eq, e2, jbd_eq, e3, jbd_eq, jlet_eq, if_pos (by decide)]
      rfl
    · rw [List.append_assoc] at h3
      exact h3
  · rw [k] at hl mk ⊢
    have hl2 : l.length + 6 ≤ 16 := hl
    obtain ⟨σ0', e0, h0⟩ := began_r h (by omega) 12
    obtain ⟨σ1, e1, h1⟩ := began_r h0 (by rw [g1]; omega) 11
    obtain ⟨σ2, e2, h2⟩ := plain_r hP hW hw σ1 _ h1 (by rw [List.length_append, g1]; show l.length + 1 + 1 + 1 ≤ 16; omega)
    obtain ⟨σ3, e3, h3⟩ := mk.then h2 (by rw [List.length_append, g1]; show l.length + 1 + 1 + 4 ≤ 16; omega)
    refine ⟨σ3, ?_, ?_⟩
    · rw [if_pos (by decide), jj_eq, if_neg (by decide), e0, jbv_eq]
      dsimp only
      rw [e1, jbv_eq, e2, jbd_eq, e3, jbd_eq, jlet_eq, if_neg (by decide)]
      rfl
    · rw [List.append_assoc, List.append_assoc] at h3
      exact h3
  · rw [k] at hl mk ⊢
    have hl2 : l.length + 5 ≤ 16 := hl
    obtain ⟨σ1, e1, h1⟩ := began_r h (by omega) 11
    obtain ⟨σ2, e2, h2⟩ := plain_r hP hW hw σ1 _ h1 (by rw [g1]; show l.length + 1 + 1 ≤ 16; omega)
    obtain ⟨σ3, e3, h3⟩ := mk.then h2 (by rw [g1]; show l.length + 1 + 4 ≤ 16; omega)
    refine ⟨σ3, ?_, ?_⟩
    · rw [if_pos (by decide), jj_eq, if_pos (by decide)]
      dsimp only
      rw [e1, jbv_eq, e2, jbd_eq, e3, jbd_eq, jlet_eq, if_pos (by decide)]
      rfl
    · rw [List.append_assoc] at h3
      exact h3
  · rw [k] at hl str ⊢
    obtain ⟨σ3, e3, h3⟩ := str (by omega) σ l h hl
    refine ⟨σ3, ?_, h3⟩
    rw [if_neg (by decide), e3, jbd_eq]
    rfl
  · rw [k] at hl str ⊢
    obtain ⟨σ3, e3, h3⟩ := str (by omega) σ l h hl
    refine ⟨σ3, ?_, h3⟩
    rw [if_neg (by decide), e3, jbd_eq]
    rfl
theorem RInv.tr {σ σ' : jMem} {A : aP} (h : RInv σ A) (ht : RTrace σ') (e : ∀ c j, ¬ scr c j → c ≠ 86 → c ≠ 87 → ¬ (c = 89 ∧ j = 26) → c ≠ 101 → σ'.1 c j = σ.1 c j) (e2 : ∀ n, σ'.2 84 n = σ.2 84 n) : RInv σ' A := by
  obtain ⟨h1, h2, ⟨w1, w2, w3, w4⟩, h4, h5, h6, h7, h8⟩ := h
  have E : ∀ c j, (¬ scr c j ∧ c ≠ 86 ∧ c ≠ 87 ∧ ¬ (c = 89 ∧ j = 26) ∧ c ≠ 101) → σ'.1 c j = σ.1 c j := fun c j q => e c j q.1 q.2.1 q.2.2.1 q.2.2.2.1 q.2.2.2.2
  refine ⟨fun r hr => (h1 r hr).congr hr (fun c j a b => E c j (by unfold scr; omega)) (fun c j a b => E c j (by unfold scr; omega)), h2.congr (fun j hj => E 13 j (by unfold scr; omega)) (fun j => E 14 j (by unfold scr; omega)) (fun j hj => E 89 j (by unfold scr; omega)) (fun j => E 97 j (by unfold scr; omega)), ⟨w1, w2, w3.congr (fun c j a b => E c j (by unfold scr; omega)), w4.congr (r' := 93) (o' := 0) w1.b (fun j _ => E 93 _ (by unfold scr; omega))⟩, h4.congr ⟨E 0 7 (by unfold scr; omega), E 0 8 (by unfold scr; omega), E 89 9 (by unfold scr; omega)⟩ (fun c j a b => E c j (by unfold scr; omega)) (fun j => E 96 j (by unfold scr; omega)), fun j hj => (h5 j hj).congr hj (fun c i a b => E c i (by unfold scr; omega)) (fun i => E 99 i (by unfold scr; omega)) (fun i => E 100 i (by unfold scr; omega)), ht, ?_, h8.congr e2⟩
  rw [E 0 12 (by unfold scr; omega), E 89 1 (by unfold scr; omega)]
  exact h7
theorem szL_le (kd : Nat) : (szL kd).length ≤ 16 := by
  unfold szL
  repeat' split
  all_goals decide
theorem mkL_le (kd : Nat) : (mkL kd).length ≤ 16 := by
  unfold mkL
  repeat' split
  all_goals decide
