/-! ===== PURE: the paths at a field; the next field; the way ===== -/
def pAt (A : aP) (v : Nat) : Nat := orN (fun i => if a_pa A i = v ∨ a_pb A i = v then 2 ^ i else 0) (a_np A)
theorem pAt_lt (A : aP) (v : Nat) : pAt A v < 2 ^ a_np A := by
  refine orN_lt (fun i hi => ?_)
  split
  · exact p2_lt hi
  · exact Nat.two_pow_pos _
theorem p2_test (i j : Nat) : (2 ^ i).testBit j = decide (i = j) := Nat.testBit_two_pow
theorem pAt_test (A : aP) (v j : Nat) : (pAt A v).testBit j = true ↔ j < a_np A ∧ (a_pa A j = v ∨ a_pb A j = v) := by
  unfold pAt
  rw [orN_test]
  constructor
  · rintro ⟨i, hi, h⟩
    by_cases c : a_pa A i = v ∨ a_pb A i = v
    · rw [if_pos c, p2_test] at h
      have : i = j := by simpa using h
      subst this
      exact ⟨hi, c⟩
    · rw [if_neg c] at h
      simp at h
  · rintro ⟨hj, c⟩
    refine ⟨j, hj, ?_⟩
    rw [if_pos c, p2_test]
    simp
theorem pathsAt_c {σ : jMem} {k v : Nat} {A : aP} (hP : PC σ k A) (hW : WF A) (hv : v < 8) : f_X5_pathsAt k (nI v) σ = some (nI (pAt A v), σ) := by
  have hb := hW.b
  unfold f_X5_pathsAt
  have : X5_pathsAt_L4 k (nI v) jFU ((0 : Int32), (0 : Int32)) σ = some (nI (pAt A v), σ) := by
    refine jloop_run (body := fun rec s9 σ => X5_pathsAt_L4_b k (nI v) rec s9.1 s9.2 σ) (fun i => (nI (orN (fun i => if a_pa A i = v ∨ a_pb A i = v then 2 ^ i else 0) i), nI i)) (fun _ => σ) (a_np A) _ ?_ ?_ jFU (by unfold jFU; omega)
    · intro i hi rec
      have hp := hW.2.1 i hi
      obtain ⟨p1, p2, p3⟩ := hP.2.1 i hi
      show X5_pathsAt_L4_b k (nI v) rec (nI (orN (fun i => if a_pa A i = v ∨ a_pb A i = v then 2 ^ i else 0) i)) (nI i) σ = _
      unfold X5_pathsAt_L4_b
      rw [hP.1.2.2.2.2.1, if_neg (nle_ (by omega) (by omega)), jld_eq (by omega) (by omega), p1, jj_eq]
      by_cases c1 : a_pa A i = v
      · rw [if_pos (by rw [c1])]
        dsimp only
        rw [jlet_eq, nI_one_shl (by omega), nI_or, nI_1, orN, if_pos (Or.inl c1)]
      · rw [if_neg (nne_ c1 (by omega) (by omega)), jld_eq (by omega) (by omega), p2]
        by_cases c2 : a_pb A i = v
        · rw [if_neg (fun z => z (by rw [c2]))]
          dsimp only
          rw [jlet_eq, nI_one_shl (by omega), nI_or, nI_1, orN, if_pos (Or.inr c2)]
        · rw [if_pos (nne_ c2 (by omega) (by omega)), nI_1, orN, if_neg (by omega), Nat.or_zero]
    · intro rec
      show X5_pathsAt_L4_b k (nI v) rec _ (nI (a_np A)) σ = _
      unfold X5_pathsAt_L4_b
      rw [hP.1.2.2.2.2.1, if_pos (nI_le (Nat.le_refl _) (by omega))]
      rfl
  rw [this]
  rfl
def oth (A : aP) (i v : Nat) : Nat := if a_pa A i = v then a_pb A i else if a_pb A i = v then a_pa A i else INF
theorem oth_lt {A : aP} (hW : WF A) {i v : Nat} (hi : i < a_np A) (h : a_pa A i = v ∨ a_pb A i = v) : oth A i v < 8 := by
  have hp := hW.2.1 i hi
  unfold oth
  by_cases c : a_pa A i = v
  · rw [if_pos c]
    exact hp.2.1
  · rw [if_neg c, if_pos (by omega)]
    exact hp.1
theorem other_r {σ : jMem} {i v : Nat} {A : aP} (hP : PR σ 93 0 A) (hW : WF A) (hi : i < a_np A) (hv : v < 8) : f_X12_other (nI i) (nI v) σ = some (rF (oth A i v), σ) := by
  have hb := hW.b
  have hI := INF_v
  have hp := hW.2.1 i hi
  obtain ⟨p1, p2, p3⟩ := hP.2.1 i hi
  simp only [Nat.zero_add] at p1 p2 p3
  unfold f_X12_other oth
  rw [nI_Lmul, nI_Ladd, jlet_eq, jld_eq (by omega) (by omega), p1]
  by_cases c1 : a_pa A i = v
  · rw [if_neg (fun z => z (by rw [c1])), nI_1, jld_eq (by omega) (by omega), p2, if_pos c1, rF_n (by omega)]
  · rw [if_pos (nne_ c1 (by omega) (by omega)), nI_1, jld_eq (by omega) (by omega), p2, if_neg c1]
    by_cases c2 : a_pb A i = v
    · rw [if_neg (fun z => z (by rw [c2])), jld_eq (by omega) (by omega), p1, if_pos c2, rF_n (by omega)]
    · rw [if_pos (nne_ c2 (by omega) (by omega)), if_neg c2, rF_i]
theorem pathsAt_r {σ : jMem} {v : Nat} {A : aP} (hP : PR σ 93 0 A) (hW : WF A) (hv : v < 8) : f_X12_pathsAt (nI v) σ = some (nI (pAt A v), σ) := by
  have hb := hW.b
  have hI := INF_v
  unfold f_X12_pathsAt
  have h93 : σ.1 93 3 = nI (a_np A) := (hP.f (o := 0)).2.2.2.1
  have : X12_pathsAt_L4 (nI v) jFU ((0 : Int32), (0 : Int32)) σ = some (nI (pAt A v), σ) := by
    refine jloop_run (body := fun rec s9 σ => X12_pathsAt_L4_b (nI v) rec s9.1 s9.2 σ) (fun i => (nI (orN (fun i => if a_pa A i = v ∨ a_pb A i = v then 2 ^ i else 0) i), nI i)) (fun _ => σ) (a_np A) _ ?_ ?_ jFU (by unfold jFU; omega)
    · intro i hi rec
      show X12_pathsAt_L4_b (nI v) rec (nI (orN (fun i => if a_pa A i = v ∨ a_pb A i = v then 2 ^ i else 0) i)) (nI i) σ = _
      unfold X12_pathsAt_L4_b
      rw [jldL_ (by omega) (by omega), h93, if_neg (nle_ (by omega) (by omega)), other_r hP hW hi hv, jbd_eq]
      by_cases c : a_pa A i = v ∨ a_pb A i = v
      · have := oth_lt hW hi c
        rw [rF_n (by omega), if_neg (nI_ne_inf (by omega)), jlet_eq, nI_one_shl (by omega), nI_or, nI_1, orN, if_pos c]
      · have : oth A i v = INF := by
          unfold oth
          rw [if_neg (by omega), if_neg (by omega)]
        rw [this, rF_i, if_pos rfl, jlet_eq, show (0 : Int32) = nI 0 from rfl, nI_or, nI_1, orN, if_neg c]
    · intro rec
      show X12_pathsAt_L4_b (nI v) rec _ (nI (a_np A)) σ = _
      unfold X12_pathsAt_L4_b
      rw [jldL_ (by omega) (by omega), h93, if_pos (nI_le (Nat.le_refl _) (by omega))]
      rfl
  rw [this]
  rfl
/-- the next field: the least, and by which path -/
abbrev cnd (A : aP) (op : Nat) (D : Nat → Nat) (v i : Nat) : Prop := bt1 op i = 1 ∧ (a_pa A i = v ∨ a_pb A i = v) ∧ D (oth A i v) + a_pl A i = D v
def nx (A : aP) (op : Nat) (D : Nat → Nat) (v : Nat) : Nat → Nat × Nat
  | 0 => (8, 0)
  | n + 1 => if cnd A op D v n ∧ oth A n v < (nx A op D v n).1 then (oth A n v, n) else nx A op D v n
theorem nx_le (A : aP) (op : Nat) (D : Nat → Nat) (v : Nat) : ∀ n, (nx A op D v n).1 ≤ 8
  | 0 => Nat.le_refl _
  | n + 1 => by
    have := nx_le A op D v n
    unfold nx
    split
    · rename_i h
      show oth A n v ≤ 8
      omega
    · exact this
theorem nx_min (A : aP) (op : Nat) (D : Nat → Nat) (v : Nat) {i : Nat} (h : cnd A op D v i) : ∀ n, i < n → (nx A op D v n).1 ≤ oth A i v
  | 0, hi => by omega
  | n + 1, hi => by
    unfold nx
    by_cases e : i = n
    · subst e
      by_cases c : oth A i v < (nx A op D v i).1
      · rw [if_pos ⟨h, c⟩]
        exact Nat.le_refl _
      · rw [if_neg (fun z => c z.2)]
        omega
    · have := nx_min A op D v h n (by omega)
      by_cases c : cnd A op D v n ∧ oth A n v < (nx A op D v n).1
      · rw [if_pos c]
        show oth A n v ≤ _
        omega
      · rw [if_neg c]
        exact this
theorem nx_is (A : aP) (op : Nat) (D : Nat → Nat) (v : Nat) : ∀ n, (nx A op D v n).1 = 8 ∨ ((nx A op D v n).2 < n ∧ cnd A op D v (nx A op D v n).2 ∧ (nx A op D v n).1 = oth A (nx A op D v n).2 v ∧ (nx A op D v n).1 < 8)
  | 0 => Or.inl rfl
  | n + 1 => by
    have h8 := nx_le A op D v n
    unfold nx
    by_cases c : cnd A op D v n ∧ oth A n v < (nx A op D v n).1
    · rw [if_pos c]
      right
      exact ⟨Nat.lt_succ_self n, c.1, rfl, by show oth A n v < 8; omega⟩
    · rw [if_neg c]
      rcases nx_is A op D v n with h | ⟨h1, h2⟩
      · exact Or.inl h
      · exact Or.inr ⟨by omega, h2⟩
theorem nextF_c {σ : jMem} {k op v B : Nat} {A : aP} {D : Nat → Nat} (hP : PC σ k A) (hW : WF A) (hop : op < 4096) (hC : CF σ D) (hD : fnB B D) (hB : B + 9 < INF) (hv : v < 8) (hf : D v < INF) : f_X2_nextField k (nI op) (nI v) σ = some (nI (nx A op D v (a_np A)).1, σ) := by
  have hb := hW.b
  have hI := INF_v
  have hvB : D v ≤ B := by rcases hD v with q | q <;> omega
  unfold f_X2_nextField
  have : X2_nextField_L7 k (nI op) (nI v) jFU ((8 : Int32), (0 : Int32)) σ = some (nI (nx A op D v (a_np A)).1, σ) := by
    refine jloop_run (body := fun rec s9 σ => X2_nextField_L7_b k (nI op) (nI v) rec s9.1 s9.2 σ) (fun i => (nI (nx A op D v i).1, nI i)) (fun _ => σ) (a_np A) _ ?_ ?_ jFU (by unfold jFU; omega)
    · intro i hi rec
      have hp := hW.2.1 i hi
      obtain ⟨p1, p2, p3⟩ := hP.2.1 i hi
      have h8 := nx_le A op D v i
      show X2_nextField_L7_b k (nI op) (nI v) rec (nI (nx A op D v i).1) (nI i) σ = rec (nI (nx A op D v (i + 1)).1, nI (i + 1)) σ
      unfold X2_nextField_L7_b
      rw [hP.1.2.2.2.2.1, if_neg (nle_ (by omega) (by omega)), bitOf_spec (by omega) (by omega), jbd_eq]
      have hsP : cnd A op D v i → oth A i v < (nx A op D v i).1 → nx A op D v (i + 1) = (oth A i v, i) := fun a b => if_pos ⟨a, b⟩
      have hsN : ¬ (cnd A op D v i ∧ oth A i v < (nx A op D v i).1) → nx A op D v (i + 1) = nx A op D v i := fun a => if_neg a
      by_cases cb : bt1 op i = 1
      · rw [cb, if_neg (by decide), jld_eq (by omega) (by omega), p1, jj_eq]
        have go : ∀ u : Nat, u = oth A i v → (a_pa A i = v ∨ a_pb A i = v) → (if nI (nx A op D v i).1 ≤ nI u then
            rec (nI (nx A op D v i).1, (nI i + 1)) σ
          else
            jld σ 81 8 (nI u) (fun v12 =>
            if v12 = (-1 : Int32) then
            rec (nI (nx A op D v i).1, (nI i + 1)) σ
          else
            jld σ 81 8 (nI u) (fun v13 =>
            jld σ (k + 3) 12 (nI i) (fun v14 =>
            jld σ 81 8 (nI v) (fun v15 =>
            if ¬ (v13 + v14) = v15 then
            rec (nI (nx A op D v i).1, (nI i + 1)) σ
          else
            rec (nI u, (nI i + 1)) σ))))) = rec (nI (nx A op D v (i + 1)).1, nI (i + 1)) σ := by
          intro u hu ht
          have hu8 := oth_lt hW hi ht
          rw [← hu] at hu8
          rw [nI_1]
          by_cases c1 : (nx A op D v i).1 ≤ u
          · rw [if_pos (nI_le c1 (by omega)), hsN (fun z => by have := z.2; omega)]
          · rw [if_neg (nle_ (by omega) (by omega)), jld_eq (by omega) (by omega), hC u hu8]
            by_cases c2 : D u = INF
            · rw [c2, cF_i, if_pos rfl, hsN]
              rintro ⟨⟨_, _, z⟩, _⟩
              rw [← hu] at z
              omega
            · have huB : D u ≤ B := by rcases hD u with q | q <;> omega
              rw [cF_n (by omega), if_neg (nI_ne_m1 (by omega)), jld_eq (by omega) (by omega), hC u hu8, cF_n (by omega), jld_eq (by omega) (by omega), p3, jld_eq (by omega) (by omega), hC v hv, cF_n (by omega), nI_add]
              by_cases c3 : D u + a_pl A i = D v
              · rw [if_neg (fun z => z (by rw [c3])), hsP ⟨cb, ht, by rw [← hu]; exact c3⟩ (by omega), ← hu]
              · rw [if_pos (nne_ c3 (by omega) (by omega)), hsN]
                rintro ⟨⟨_, _, z⟩, _⟩
                rw [← hu] at z
                exact c3 z
        by_cases c1 : a_pa A i = v
        · rw [if_pos (by rw [c1])]
          dsimp only
          rw [jld_eq (by omega) (by omega), p1, jj_eq, if_neg (fun z => z (by rw [c1])), jld_eq (by omega) (by omega), p2]
          exact go (a_pb A i) (by unfold oth; rw [if_pos c1]) (Or.inl c1)
        · rw [if_neg (nne_ c1 (by omega) (by omega)), jld_eq (by omega) (by omega), p2]
          by_cases c2 : a_pb A i = v
          · rw [if_neg (fun z => z (by rw [c2]))]
            dsimp only
            rw [jld_eq (by omega) (by omega), p1, jj_eq, if_pos (nne_ c1 (by omega) (by omega)), jld_eq (by omega) (by omega), p1]
            exact go (a_pa A i) (by unfold oth; rw [if_neg c1, if_pos c2]) (Or.inr c2)
          · rw [if_pos (nne_ c2 (by omega) (by omega)), nI_1, hsN (fun z => by have := z.1.2.1; omega)]
      · have hle := bt1_le op i
        rw [show bt1 op i = 0 by omega, if_pos (by decide), nI_1, hsN (fun z => cb z.1.1)]
    · intro rec
      show X2_nextField_L7_b k (nI op) (nI v) rec _ (nI (a_np A)) σ = _
      unfold X2_nextField_L7_b
      rw [hP.1.2.2.2.2.1, if_pos (nI_le (Nat.le_refl _) (by omega))]
  rw [this]
  rfl
def eN (x y : Nat) : Int32 := if x = 8 then -1000000 else nI y
theorem nextF_r {σ : jMem} {op v B : Nat} {A : aP} {D : Nat → Nat} (hP : PR σ 93 0 A) (hW : WF A) (hop : op < 4096) (hC : RF σ D) (hD : fnB B D) (hB : B + 9 < INF) (hv : v < 8) (hf : D v < INF) : X12_layWay_L69 (nI op) (nI v) jFU ((-1000000 : Int32), (-1000000 : Int32), (0 : Int32)) σ = some ((eN (nx A op D v (a_np A)).1 (nx A op D v (a_np A)).2, eN (nx A op D v (a_np A)).1 (nx A op D v (a_np A)).1), σ) := by
  have hb := hW.b
  have hI := INF_v
  have hvB : D v ≤ B := by rcases hD v with q | q <;> omega
  have h93 : σ.1 93 3 = nI (a_np A) := (hP.f (o := 0)).2.2.2.1
  refine jloop_run (body := fun rec s9 σ => X12_layWay_L69_b (nI op) (nI v) rec s9.1 s9.2.1 s9.2.2 σ) (fun i => (eN (nx A op D v i).1 (nx A op D v i).2, eN (nx A op D v i).1 (nx A op D v i).1, nI i)) (fun _ => σ) (a_np A) _ ?_ ?_ jFU (by unfold jFU; omega)
  · intro i hi rec
    have hp := hW.2.1 i hi
    obtain ⟨p1, p2, p3⟩ := hP.2.1 i hi
    simp only [Nat.zero_add] at p1 p2 p3
    have h8 := nx_le A op D v i
    show X12_layWay_L69_b (nI op) (nI v) rec (eN (nx A op D v i).1 (nx A op D v i).2) (eN (nx A op D v i).1 (nx A op D v i).1) (nI i) σ = rec (eN (nx A op D v (i + 1)).1 (nx A op D v (i + 1)).2, eN (nx A op D v (i + 1)).1 (nx A op D v (i + 1)).1, nI (i + 1)) σ
    unfold X12_layWay_L69_b
    rw [jldL_ (by omega) (by omega), h93, if_neg (nle_ (by omega) (by omega)), has_bit (by omega) (by omega), jbd_eq, jj_eq]
    have hsP : cnd A op D v i → oth A i v < (nx A op D v i).1 → nx A op D v (i + 1) = (oth A i v, i) := fun a b => if_pos ⟨a, b⟩
    have hsN : ¬ (cnd A op D v i ∧ oth A i v < (nx A op D v i).1) → nx A op D v (i + 1) = nx A op D v i := fun a => if_neg a
    by_cases cb : bt1 op i = 1
    · rw [cb, if_neg (by decide), other_r hP hW hi hv, jbd_eq]
      dsimp only
      rw [jj_eq, jj_eq]
      dsimp only
      by_cases ct : a_pa A i = v ∨ a_pb A i = v
      · have hu8 := oth_lt hW hi ct
        have eu : ∀ u, u = oth A i v → cnd A op D v i = (D u + a_pl A i = D v) := by
          intro u hu
          apply propext
          constructor
          · intro z
            rw [hu]
            exact z.2.2
          · intro z
            rw [hu] at z
            exact ⟨cb, ct, z⟩
        generalize hu : oth A i v = u at hu8 hsP hsN ⊢
        rw [rF_n (by omega), if_neg (nI_ne_inf (by omega)), jld_eq (by omega) (by omega), hC u hu8]
        by_cases c2 : D u = INF
        · rw [c2, rF_i, if_pos rfl, if_pos rfl, nI_1, hsN]
          rintro ⟨z, _⟩
          rw [eu u hu.symm] at z
          omega
        · have huB : D u ≤ B := by rcases hD u with q | q <;> omega
          rw [rF_n (d := D u) (by omega), if_neg (nI_ne_inf (by omega)), jld_eq (by omega) (by omega), hC u hu8, rF_n (d := D u) (by omega), nI_Lmul, nI_Ladd, nI_addL, jld_eq (by omega) (by omega), p3, jld_eq (by omega) (by omega), hC v hv, rF_n (d := D v) (by omega), nI_add]
          by_cases c3 : D u + a_pl A i = D v
          · rw [if_neg (fun z => z (by rw [c3])), if_neg (by decide), jj_eq]
            have hc : cnd A op D v i := by rw [eu u hu.symm]; exact c3
            by_cases c4 : (nx A op D v i).1 = 8
            · have e1 : eN (nx A op D v i).1 (nx A op D v i).1 = -1000000 := if_pos c4
              rw [e1, if_pos rfl, nI_1, hsP hc (by omega)]
              unfold eN
              rw [if_neg (by omega), if_neg (by omega)]
            · have e1 : eN (nx A op D v i).1 (nx A op D v i).1 = nI (nx A op D v i).1 := if_neg c4
              rw [e1, if_neg (nI_ne_inf (by omega))]
              by_cases c5 : (nx A op D v i).1 ≤ u
              · rw [if_pos (nI_le c5 (by omega)), nI_1, hsN (fun z => by have := z.2; omega), e1]
              · rw [if_neg (nle_ (by omega) (by omega)), nI_1, hsP hc (by omega)]
                unfold eN
                rw [if_neg (by omega), if_neg (by omega)]
          · rw [if_pos (nne_ c3 (by omega) (by omega)), if_pos rfl, nI_1, hsN]
            rintro ⟨z, _⟩
            rw [eu u hu.symm] at z
            exact c3 z
      · have : oth A i v = INF := by
          unfold oth
          rw [if_neg (by omega), if_neg (by omega)]
        rw [this, rF_i, if_pos rfl, if_pos rfl, nI_1, hsN (fun z => ct z.1.2.1)]
    · have hle := bt1_le op i
      rw [show bt1 op i = 0 by omega, if_pos (by decide)]
      dsimp only
      rw [jj_eq, jj_eq, if_pos rfl]
      dsimp only
      rw [if_pos rfl, nI_1, hsN (fun z => cb z.1.1)]
  · intro rec
    show X12_layWay_L69_b (nI op) (nI v) rec (eN (nx A op D v (a_np A)).1 (nx A op D v (a_np A)).2) (eN (nx A op D v (a_np A)).1 (nx A op D v (a_np A)).1) (nI (a_np A)) σ = _
    unfold X12_layWay_L69_b
    rw [jldL_ (by omega) (by omega), h93, if_pos (nI_le (Nat.le_refl _) (by omega))]
