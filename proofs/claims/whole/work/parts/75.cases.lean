/-! ===== PURE: locked, the class's way ===== -/
theorem FR.setL {P : Nat → Nat → Prop} {σ τ : jMem} (h : FR P σ τ) {k j : Nat} {v : Int64} (hs : k ≠ 84) : FR P σ (jsetL τ k j v) := by
  refine ⟨fun c i hc => h.1 c i hc, fun n => ?_⟩
  rw [jsetL_app2, if_neg (fun q => hs q.1.symm)]
  exact h.2 n
theorem smN_gap {g : Nat → Nat} {m : Nat} : ∀ {n : Nat}, m ≤ n → (∀ T, m ≤ T → T < n → g T = 0) → smN g n = smN g m
  | 0, h, _ => by rw [show m = 0 by omega]
  | n + 1, h, hz => by
    by_cases c : m = n + 1
    · rw [c]
    · show smN g n + g n = _
      rw [hz n (by omega) (by omega), smN_gap (n := n) (by omega) (fun T h1 h2 => hz T h1 (by omega))]
      rfl
theorem smN_pre {g : Nat → Nat} {s : Nat} : ∀ {n : Nat}, s ≤ n → smN g s ≤ smN g n
  | 0, h => by rw [show s = 0 by omega]; exact Nat.le_refl _
  | n + 1, h => by
    by_cases c : s = n + 1
    · rw [c]
      exact Nat.le_refl _
    · have := smN_pre (g := g) (s := s) (n := n) (by omega)
      show smN g s ≤ smN g n + g n
      omega
def gapOk : Bool := (List.range 256).all fun S => (List.range 256).all fun L => L == 0 || L &&& S != L || (List.range (L - ((L - 1) &&& S) - 1)).all fun d => ((((L - 1) &&& S) + 1 + d) &&& S != ((L - 1) &&& S) + 1 + d)
theorem gap_ok : gapOk = true := by decide +kernel
theorem gap_no {S L T : Nat} (hS : S < 256) (hL : L < 256) (h0 : L ≠ 0) (hs : L &&& S = L) (h1 : (L - 1) &&& S < T) (h2 : T < L) : T &&& S ≠ T := by
  have h := gap_ok
  unfold gapOk at h
  have h3 := List.all_eq_true.mp (List.all_eq_true.mp h S (List.mem_range.mpr hS)) L (List.mem_range.mpr hL)
  rw [Bool.or_eq_true, Bool.or_eq_true] at h3
  rcases h3 with (h3 | h3) | h3
  · exact absurd (by simpa using h3) h0
  · exact absurd hs (by simpa using h3)
  · have h4 := List.all_eq_true.mp h3 (T - ((L - 1) &&& S) - 1) (List.mem_range.mpr (by omega))
    rw [show ((L - 1) &&& S) + 1 + (T - ((L - 1) &&& S) - 1) = T by omega] at h4
    simpa using h4
theorem sub_and {S T : Nat} : (T &&& S = T) ↔ ∀ v, T.testBit v = true → S.testBit v = true := by
  constructor
  · intro h v hv
    rw [← h, Nat.testBit_and] at hv
    cases c : S.testBit v
    · rw [c] at hv
      simp at hv
    · rfl
  · intro h
    apply Nat.eq_of_testBit_eq
    intro v
    rw [Nat.testBit_and]
    cases c : T.testBit v
    · rfl
    · rw [h v c]
      rfl
theorem eW_bt {A : aP} {S i : Nat} (hi : i < a_np A) : (bt1 (opn A) i &&& bt1 S (a_pa A i)) &&& bt1 S (a_pb A i) = bt1 (eW A S) i := by
  have e := eW_test A S i
  rw [← bt1_1, ← bt1_1, ← bt1_1, ← bt1_1] at e
  have l0 := bt1_le (eW A S) i
  have l1 := bt1_le (opn A) i
  have l2 := bt1_le S (a_pa A i)
  have l3 := bt1_le S (a_pb A i)
  have n0 : ∀ z, bt1 (eW A S) i ≠ 1 → bt1 (eW A S) i = z → z = 0 := fun z h1 h2 => by omega
  rcases (show bt1 (opn A) i = 0 ∨ bt1 (opn A) i = 1 by omega) with a | a <;> rcases (show bt1 S (a_pa A i) = 0 ∨ bt1 S (a_pa A i) = 1 by omega) with b | b <;> rcases (show bt1 S (a_pb A i) = 0 ∨ bt1 S (a_pb A i) = 1 by omega) with c | c <;> rw [a, b, c] at e ⊢ <;> simp [hi] at e ⊢ <;> omega
theorem withinI_c {σ : jMem} {A : aP} {S : Nat} (hP : PC σ 22 A) (hW : WF A) (hS : S < 256) (h0 : σ.1 82 S = 0) : ∃ σ', X2_countWithin_L24 22 (nI (opn A)) (nI S) jFU (0 : Int32) σ = some ((), σ') ∧ σ'.1 82 S = nI (wN A S) ∧ FR (fun c j => c = 82 ∧ j = S) σ σ' := by
  have hb := hW.b
  have hop := np_lt hW (opn_lt A)
  have H := jloop_inv (body := fun rec s σ => X2_countWithin_L24_b 22 (nI (opn A)) (nI S) rec s σ) (fun i s τ => s = nI i ∧ τ.1 82 S = nI (cnn (eW A S) i) ∧ FR (fun c j => c = 82 ∧ j = S) σ τ) (fun r => r.2.1 82 S = nI (wN A S) ∧ FR (fun c j => c = 82 ∧ j = S) σ r.2) (a_np A) ?_ ?_ (0 : Int32) σ ⟨rfl, h0, FR.refl σ⟩ jFU (by unfold jFU; omega)
  · obtain ⟨⟨u, ρ⟩, ⟨h1, h2⟩, h3⟩ := H
    exact ⟨ρ, h3, h1, h2⟩
  · rintro i s τ hi ⟨rfl, h2, h3⟩
    have hPt := hP.offF h3 (fun c j q1 q2 => by omega)
    have hp := hW.2.1 i hi
    have p1 : τ.1 (22 + 1) i = nI (a_pa A i) := (hPt.2.1 i hi).1
    have p2 : τ.1 (22 + 2) i = nI (a_pb A i) := (hPt.2.1 i hi).2.1
    have h5 : τ.1 22 5 = nI (a_np A) := hPt.1.2.2.2.2.1
    refine ⟨nI (i + 1), jset τ 82 S (nI (cnn (eW A S) (i + 1))), ⟨rfl, jset_i, h3.set ⟨rfl, rfl⟩⟩, fun rec => ?_⟩
    show X2_countWithin_L24_b 22 (nI (opn A)) (nI S) rec (nI i) τ = _
    unfold X2_countWithin_L24_b
    rw [h5, if_neg (nle_ (by omega) (by omega)), jld_eq (by omega) (by omega), h2, bitOf_spec (by omega) (by omega), jbd_eq, jld_eq (by omega) (by omega), p1, bitOf_spec (by omega) (by omega), jbd_eq, jld_eq (by omega) (by omega), p2, bitOf_spec (by omega) (by omega), jbd_eq, nI_and, nI_and, eW_bt hi, nI_add, ← cnn_s, jst_eq (by omega) (by omega), nI_1]
  · rintro s τ ⟨rfl, h2, h3⟩
    have hPt := hP.offF h3 (fun c j q1 q2 => by omega)
    have h5 : τ.1 22 5 = nI (a_np A) := hPt.1.2.2.2.2.1
    refine ⟨((), τ), ⟨h2, h3⟩, fun rec => ?_⟩
    show X2_countWithin_L24_b 22 (nI (opn A)) (nI S) rec (nI (a_np A)) τ = _
    unfold X2_countWithin_L24_b
    rw [h5, if_pos (nI_le (Nat.le_refl _) (by omega))]
theorem within_c {σ : jMem} {A : aP} (hP : PC σ 22 A) (hW : WF A) : ∃ σ', f_X2_countWithin 22 σ = some σ' ∧ (∀ S, S < 256 → σ'.1 82 S = nI (wN A S)) ∧ FR (fun c _ => c = 82) σ σ' := by
  have H := jloop_inv (body := fun rec s σ => X2_countWithin_L7_b 22 (nI (opn A)) rec s σ) (fun i s τ => s = nI i ∧ (∀ S, S < i → τ.1 82 S = nI (wN A S)) ∧ FR (fun c _ => c = 82) σ τ) (fun r => (∀ S, S < 256 → r.2.1 82 S = nI (wN A S)) ∧ FR (fun c _ => c = 82) σ r.2) 256 ?_ ?_ (0 : Int32) σ ⟨rfl, fun S hS => by omega, FR.refl σ⟩ jFU (by unfold jFU; omega)
  · obtain ⟨⟨u, ρ⟩, ⟨h1, h2⟩, h3⟩ := H
    refine ⟨ρ, ?_, h1, h2⟩
    unfold f_X2_countWithin
    rw [open_c hP hW, jbd_eq, show X2_countWithin_L7 22 (nI (andn (2 ^ a_np A - 1) (a_gt A))) jFU (0 : Int32) σ = some (u, ρ) from h3, jbd_eq]
  · rintro i s τ hi ⟨rfl, h2, h3⟩
    have h3' : FR (fun c _ => c = 82) σ (jset τ 82 i 0) := h3.set rfl
    have hPt := hP.offF h3' (fun c j q1 q2 => by omega)
    obtain ⟨τ1, b1, b2, b3⟩ := withinI_c hPt hW hi jset_i
    refine ⟨nI (i + 1), τ1, ⟨rfl, fun S hS => ?_, h3'.trans (b3.mono (fun c j q => q.1))⟩, fun rec => ?_⟩
    · by_cases c : S = i
      · rw [c]
        exact b2
      · rw [b3.1 82 S (fun q => c q.2), jset_o (by omega)]
        exact h2 S (by omega)
    · show X2_countWithin_L7_b 22 (nI (opn A)) rec (nI i) τ = _
      unfold X2_countWithin_L7_b
      rw [if_neg (Lle_ (by omega) (by omega)), jst_eq (by omega) (by omega), b1, jbd_eq, nI_1]
  · rintro s τ ⟨rfl, h2, h3⟩
    refine ⟨((), τ), ⟨h2, h3⟩, fun rec => ?_⟩
    show X2_countWithin_L7_b 22 (nI (opn A)) rec (nI 256) τ = _
    unfold X2_countWithin_L7_b
    rw [if_pos (by decide)]
theorem powers_c {σ : jMem} {p : Nat} (hp : p ≤ 10) : ∃ σ', f_X2_fillPowers (nI p) σ = some σ' ∧ (∀ n, n ≤ 12 → σ'.2 85 n = lN (p ^ n)) ∧ FR (fun _ _ => False) σ σ' := by
  have H := jloop_inv (body := fun rec s σ => X2_fillPowers_L5_b (nI p) rec s.1 s.2 σ) (fun i s τ => s = (lN (p ^ i), nI i) ∧ (∀ n, n < i → τ.2 85 n = lN (p ^ n)) ∧ FR (fun _ _ => False) σ τ) (fun r => (∀ n, n < 13 → r.2.2 85 n = lN (p ^ n)) ∧ FR (fun _ _ => False) σ r.2) 13 ?_ ?_ ((1 : Int64), (0 : Int32)) σ ⟨rfl, fun n hn => by omega, FR.refl σ⟩ jFU (by unfold jFU; omega)
  · obtain ⟨⟨u, ρ⟩, ⟨h1, h2⟩, h3⟩ := H
    refine ⟨ρ, ?_, fun n hn => h1 n (by omega), h2⟩
    unfold f_X2_fillPowers
    rw [show X2_fillPowers_L5 (nI p) jFU ((1 : Int64), (0 : Int32)) σ = some (u, ρ) from h3, jbd_eq]
  · rintro i s τ hi ⟨rfl, h2, h3⟩
    refine ⟨(lN (p ^ (i + 1)), nI (i + 1)), jsetL τ 85 i (lN (p ^ i)), ⟨rfl, fun n hn => ?_, h3.setL (by omega)⟩, fun rec => ?_⟩
    · rw [jsetL_app2]
      by_cases c : n = i
      · rw [if_pos ⟨rfl, c⟩, c]
      · rw [if_neg (fun q => c q.2)]
        exact h2 n (by omega)
    · show X2_fillPowers_L5_b (nI p) rec (lN (p ^ i)) (nI i) τ = _
      unfold X2_fillPowers_L5_b
      rw [if_neg (Llt_ (by omega) (by omega)), jstL_eq (by omega) (by omega), nI_l (by omega), lN_mul, ← Nat.pow_succ, jlet_eq, nI_1]
  · rintro s τ ⟨rfl, h2, h3⟩
    refine ⟨((), τ), ⟨h2, h3⟩, fun rec => ?_⟩
    show X2_fillPowers_L5_b (nI p) rec (lN (p ^ 13)) (nI 13) τ = _
    unfold X2_fillPowers_L5_b
    rw [if_pos (by decide)]
/-- what stands while cases are counted -/
def LK (σ : jMem) (A : aP) (p : Nat) : Prop := (∀ S, S < 256 → σ.1 82 S = nI (wN A S)) ∧ (∀ n, n ≤ 12 → σ.2 85 n = lN (p ^ n)) ∧ (∀ n, n ≤ 12 → σ.2 84 n = lN (10 ^ n))
theorem wN_le {A : aP} (hW : WF A) (S : Nat) : wN A S ≤ 12 := Nat.le_trans (cnn_le _ _) hW.b.1
theorem parted_c {σ : jMem} {A : aP} {p a S T : Nat} (hp : p ≤ 10) (hW : WF A) (h : LK σ A p) (ha : a < 8) (hS : S < 256) (hTa : T.testBit a = true) (hTS : T &&& S = T) (h83 : σ.2 83 T = lN (tm A p a T T)) : f_X2_casesParted (nI T) (nI S) σ = some (lN (tm A p a S T), σ) := by
  have hT : T < 256 := by
    rw [← hTS]
    exact Nat.lt_of_le_of_lt Nat.and_le_right hS
  have hA : andn S T < 256 := andn_lt (n := 8) hS
  have hw := wN_parts (A := A) (sub_and.mp hTS)
  have l1 := wN_le hW S
  unfold f_X2_casesParted
  rw [nI_andn, jlet_eq, jld_eq hS (by omega), h.1 S hS, jld_eq hT (by omega), h.1 T hT, jld_eq hA (by omega), h.1 _ hA, pk_sub (by omega), pk_sub (by omega), jlet_eq, jldL_eq hT (by omega), h83, jldL_eq (by omega) (by omega), h.2.1 _ (by omega), jld_eq hA (by omega), h.1 _ hA, jldL_eq (by omega) (by omega), h.2.2 _ (by omega), lN_mul, lN_mul, ← tm_part hp hW ha hT hTa (sub_and.mp hTS)]
theorem joined_c {σ : jMem} {A : aP} {p a S : Nat} (hp : p ≤ 10) (hW : WF A) (h : LK σ A p) (ha : a < 8) (hS : S < 256) (hSa : S.testBit a = true) (h83 : ∀ T, T < S → T.testBit a = true → T &&& S = T → σ.2 83 T = lN (tm A p a T T)) : f_X2_casesJoined (nI S) (nI a) σ = some (lN (tm A p a S S), σ) := by
  have l1 := wN_le hW S
  have tot : tm A p a S S + smN (tm A p a S) S = 10 ^ wN A S := by
    rw [← tm_sum hp a S]
    have e : smN (tm A p a S) 256 = smN (tm A p a S) (S + 1) := smN_gap (by omega) (fun T h1 h2 => tm_zero ha hS hSa (fun q => by
      have := Nat.and_le_right (n := T) (m := S)
      rw [sub_and.mpr q.2] at this
      omega))
    rw [e]
    show _ = smN (tm A p a S) S + tm A p a S S
    omega
  unfold f_X2_casesJoined
  rw [jld_eq hS (by omega), h.1 S hS, jldL_eq (by omega) (by omega), h.2.2 _ l1, ← tot]
  have H := jloop_ex (body := fun rec s σ => X2_casesJoined_L18_b (nI S) (nI a) rec s.1 s.2.1 s.2.2 σ) (fun k s τ => ∃ L, s = (lN (tm A p a S S + smN (tm A p a S) L), nI L, nI k) ∧ τ = σ ∧ L &&& S = L ∧ L + k ≤ S) (fun r => r = (lN (tm A p a S S), σ)) 256 ?_ ?_ (lN (tm A p a S S + smN (tm A p a S) S), nI S, (0 : Int32)) σ ⟨S, rfl, rfl, Nat.and_self S, Nat.le_refl _⟩ jFU (by unfold jFU; omega)
  · obtain ⟨r, rfl, h2⟩ := H
    rw [show X2_casesJoined_L18 (nI S) (nI a) jFU (lN (tm A p a S S + smN (tm A p a S) S), nI S, (0 : Int32)) σ = some (lN (tm A p a S S), σ) from h2, jbd_eq]
  · rintro k s τ hk ⟨L, rfl, rfl, hL, hLk⟩
    by_cases c : L = 0
    · right
      refine ⟨_, rfl, fun rec => ?_⟩
      subst c
      show X2_casesJoined_L18_b (nI S) (nI a) rec (lN (tm A p a S S + 0)) (nI 0) (nI k) τ = _
      unfold X2_casesJoined_L18_b
      rw [if_neg (Lle_ (by omega) (by omega)), if_pos (show nI 0 = 0 from rfl), Nat.add_zero]
    · left
      have hlt : (L - 1) &&& S < L := by
        have := Nat.and_le_left (n := L - 1) (m := S)
        omega
      have hLS : (L - 1 &&& S) &&& S = L - 1 &&& S := by rw [Nat.and_assoc, Nat.and_self]
      have ga : smN (tm A p a S) L = smN (tm A p a S) (L - 1 &&& S) + tm A p a S (L - 1 &&& S) := by
        have e : smN (tm A p a S) L = smN (tm A p a S) ((L - 1 &&& S) + 1) := smN_gap (by omega) (fun T h1 h2 => tm_zero ha hS hSa (fun q => gap_no hS (by omega) c hL (by omega) h2 (sub_and.mpr q.2)))
        rw [e]
        rfl
      refine ⟨(lN (tm A p a S S + smN (tm A p a S) (L - 1 &&& S)), nI (L - 1 &&& S), nI (k + 1)), τ, ⟨_, rfl, rfl, hLS, by omega⟩, fun rec => ?_⟩
      show X2_casesJoined_L18_b (nI S) (nI a) rec (lN (tm A p a S S + smN (tm A p a S) L)) (nI L) (nI k) τ = _
      unfold X2_casesJoined_L18_b
      rw [if_neg (Lle_ (by omega) (by omega)), if_neg (neL_ c (by omega) (by omega)), nI_subL (by omega), nI_and, jlet_eq, bitOf_spec (by omega) (by omega), jbd_eq, nI_1]
      have l2 := bt1_le (L - 1 &&& S) a
      by_cases d : (L - 1 &&& S).testBit a = true
      · rw [bt1_1.mpr d, if_neg (by decide), parted_c hp hW h ha hS d hLS (h83 _ (by omega) d hLS), jbd_eq, lN_sub (by omega), jlet_eq, show tm A p a S S + smN (tm A p a S) L - tm A p a S (L - 1 &&& S) = tm A p a S S + smN (tm A p a S) (L - 1 &&& S) by omega]
      · have z : tm A p a S (L - 1 &&& S) = 0 := tm_zero ha hS hSa (fun q => d q.1)
        rw [bt1_f d, if_pos (by decide), ga, z, Nat.add_zero]
  · rintro s τ ⟨L, rfl, rfl, hL, hLk⟩
    omega
