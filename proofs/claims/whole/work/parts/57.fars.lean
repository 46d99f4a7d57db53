/-! ===== PURE: both sides lay how far ===== -/
theorem jloop_ex {α S : Type} {body : (S → jMem → Option α) → S → jMem → Option α} (P : Nat → S → jMem → Prop) (Q : α → Prop) (N : Nat) (hstep : ∀ i s σ, i < N → P i s σ → (∃ s' σ', P (i + 1) s' σ' ∧ ∀ rec, body rec s σ = rec s' σ') ∨ (∃ r, Q r ∧ ∀ rec, body rec s σ = some r)) (hend : ∀ s σ, P N s σ → ∃ r, Q r ∧ ∀ rec, body rec s σ = some r) : ∀ (s : S) (σ : jMem), P 0 s σ → ∀ n, N < n → ∃ r, Q r ∧ jloop body n s σ = some r := by
  have key : ∀ k, k ≤ N → ∀ s σ, P (N - k) s σ → ∀ n, k < n → ∃ r, Q r ∧ jloop body n s σ = some r := by
    intro k
    induction k with
    | zero =>
      intro _ s σ hP n hn
      obtain ⟨n, rfl⟩ : ∃ n', n = n' + 1 := ⟨n - 1, by omega⟩
      obtain ⟨r, h1, h2⟩ := hend s σ hP
      exact ⟨r, h1, h2 _⟩
    | succ k ih =>
      intro hk s σ hP n hn
      obtain ⟨n, rfl⟩ : ∃ n', n = n' + 1 := ⟨n - 1, by omega⟩
      rcases hstep _ s σ (by omega) hP with ⟨s', σ', h1, h2⟩ | ⟨r, h1, h2⟩
      · rw [show N - (k + 1) + 1 = N - k by omega] at h1
        obtain ⟨r, h3, h4⟩ := ih (by omega) s' σ' h1 n (by omega)
        exact ⟨r, h3, (h2 _).trans h4⟩
      · exact ⟨r, h1, h2 _⟩
  intro s σ hP n hn
  exact key N (Nat.le_refl N) s σ (by rwa [Nat.sub_self]) n hn
def cF (d : Nat) : Int32 := if d = INF then -1 else nI d
def rF (d : Nat) : Int32 := if d = INF then -1000000 else nI d
theorem cF_i : cF INF = -1 := if_pos rfl
theorem rF_i : rF INF = -1000000 := if_pos rfl
theorem cF_n {d : Nat} (h : d < INF) : cF d = nI d := if_neg (by omega)
theorem rF_n {d : Nat} (h : d < INF) : rF d = nI d := if_neg (by omega)
theorem INF_v : INF = 1000000 := rfl
theorem nI_ne_inf {n : Nat} (h : n < 2 ^ 31) : ¬ nI n = -1000000 := by
  intro q
  rw [pI_eq, nI_toInt h] at q
  have : (-1000000 : Int32).toInt = -1000000 := by decide
  omega
def CF (σ : jMem) (D : Nat → Nat) : Prop := ∀ v, v < 8 → σ.1 81 v = cF (D v)
def RF (σ : jMem) (D : Nat → Nat) : Prop := ∀ v, v < 8 → σ.1 98 v = rF (D v)
theorem rlx_o {D : Nat → Nat} {a b l : Nat} (h : ¬ D b + l < D a) : rlx D a b l = D := by
  funext v
  exact if_neg (fun q => h q.2)
theorem rlx_v {D : Nat → Nat} {a b l : Nat} (h : D b + l < D a) (v : Nat) : rlx D a b l v = if v = a then D b + l else D v := by
  unfold rlx
  by_cases q : v = a
  · rw [if_pos ⟨q, h⟩, if_pos q]
  · rw [if_neg (fun z => q z.1), if_neg q]
theorem CF.set {σ : jMem} {D : Nat → Nat} {a b l : Nat} (h : CF σ D) (hl : D b + l < D a) (hI : D a ≤ INF) : CF (jset σ 81 a (nI (D b + l))) (rlx D a b l) := by
  intro v hv
  rw [jset_v, rlx_v hl]
  by_cases q : v = a
  · rw [if_pos q, if_pos q, cF_n (by omega)]
  · rw [if_neg q, if_neg q, h v hv]
theorem shorten_c {σ : jMem} {D : Nat → Nat} {B a b l : Nat} (h : CF σ D) (hD : fnB B D) (ha : a < 8) (hb : b < 8) (hl : l ≤ 9) (hB : B + 9 < INF) : ∃ f σ', f ≤ 1 ∧ f_X2_shorten (nI a) (nI b) (nI l) σ = some (nI f, σ') ∧ CF σ' (rlx D a b l) ∧ (f = 0 → rlx D a b l = D) ∧ FR (fun c _ => c = 81) σ σ' := by
  have hI := INF_v
  have hda : D a ≤ INF := by rcases hD a with q | q <;> omega
  unfold f_X2_shorten
  rw [jld_eq (by omega) (by omega), h b hb]
  by_cases cb : D b = INF
  · refine ⟨0, σ, by omega, ?_, ?_, fun _ => rlx_o (by omega), FR.refl σ⟩
    · rw [cb, cF_i, if_pos rfl]
      rfl
    · rw [rlx_o (by omega)]
      exact h
  · have hbB : D b ≤ B := by rcases hD b with q | q <;> omega
    rw [cF_n (by omega), if_neg (nI_ne_m1 (by omega)), jld_eq (by omega) (by omega), h a ha, jj_eq]
    by_cases ca : D a = INF
    · refine ⟨1, jset σ 81 a (nI (D b + l)), by omega, ?_, h.set (by omega) hda, by omega, (FR.refl σ).set rfl⟩
      rw [ca, cF_i, if_pos rfl]
      dsimp only
      rw [jld_eq (by omega) (by omega), h b hb, cF_n (by omega), nI_add, jst_eq (by omega) (by omega)]
      rfl
    · have haB : D a ≤ B := by rcases hD a with q | q <;> omega
      rw [cF_n (d := D a) (by omega), if_neg (nI_ne_m1 (by omega)), jld_eq (by omega) (by omega), h a ha, cF_n (d := D a) (by omega), jld_eq (by omega) (by omega), h b hb, cF_n (d := D b) (by omega), nI_add]
      by_cases c : D b + l < D a
      · refine ⟨1, jset σ 81 a (nI (D b + l)), by omega, ?_, h.set c hda, by omega, (FR.refl σ).set rfl⟩
        rw [if_pos (nI_lt c (by omega))]
        dsimp only
        rw [jld_eq (by omega) (by omega), h b hb, cF_n (by omega), nI_add, jst_eq (by omega) (by omega)]
        rfl
      · refine ⟨0, σ, by omega, ?_, ?_, fun _ => rlx_o c, FR.refl σ⟩
        · rw [if_neg (nlt_ (by omega) (by omega))]
          rfl
        · rw [rlx_o c]
          exact h
theorem or01 {f g : Nat} (hf : f ≤ 1) (hg : g ≤ 1) : f ||| g ≤ 1 ∧ (f ||| g = 0 → f = 0 ∧ g = 0) := by
  rcases (show f = 0 ∨ f = 1 by omega) with rfl | rfl <;> rcases (show g = 0 ∨ g = 1 by omega) with rfl | rfl <;> decide
theorem PC.offF {σ σ' : jMem} {k : Nat} {A : aP} {P : Nat → Nat → Prop} (h : PC σ k A) (f : FR P σ σ') (hP : ∀ c j, k ≤ c → c ≤ k + 7 → ¬ P c j) : PC σ' k A := h.congr (fun c j h1 h2 => f.1 c j (hP c j h1 h2))
theorem PR.offF {σ σ' : jMem} {r o : Nat} {A : aP} {P : Nat → Nat → Prop} (h : PR σ r o A) (hW : WF A) (f : FR P σ σ') (hP : ∀ j, ¬ P r j) : PR σ' r o A := h.congr (r' := r) (o' := o) hW.b (fun j _ => f.1 _ _ (hP _))
theorem roundC {σ : jMem} {k op B : Nat} {A : aP} {D : Nat → Nat} (x : Int32) (hP : PC σ k A) (hW : WF A) (hk : k + 7 < 80) (hop : op < 4096) (h : CF σ D) (hD : fnB B D) (hB : B + 300 < INF) : ∃ f σ', f ≤ 1 ∧ X2_measure_L52 k (nI op) x jFU ((0 : Int32), (0 : Int32)) σ = some (nI f, σ') ∧ CF σ' (rnd A op D (a_np A)) ∧ (f = 0 → rnd A op D (a_np A) = D) ∧ FR (fun c _ => c = 81) σ σ' := by
  have hb := hW.b
  have H := jloop_inv (body := fun rec s σ => X2_measure_L52_b k (nI op) x rec s.1 s.2 σ) (fun i s τ => ∃ f, f ≤ 1 ∧ s = (nI f, nI i) ∧ CF τ (rnd A op D i) ∧ (f = 0 → rnd A op D i = D) ∧ FR (fun c _ => c = 81) σ τ) (fun r => ∃ f, f ≤ 1 ∧ r.1 = nI f ∧ CF r.2 (rnd A op D (a_np A)) ∧ (f = 0 → rnd A op D (a_np A) = D) ∧ FR (fun c _ => c = 81) σ r.2) (a_np A) ?_ ?_ ((0 : Int32), (0 : Int32)) σ ⟨0, by omega, rfl, h, fun _ => rfl, FR.refl σ⟩ jFU (by unfold jFU; omega)
  · obtain ⟨⟨r, ρ⟩, ⟨f, h1, h2, h3, h4, h5⟩, h6⟩ := H
    refine ⟨f, ρ, h1, ?_, h3, h4, h5⟩
    rw [← h2]
    exact h6
  · rintro i s τ hi ⟨f, hf, rfl, h1, h2, h3⟩
    have hPt := hP.offF h3 (fun c j q1 q2 => by omega)
    have hp := hW.2.1 i hi
    obtain ⟨p1, p2, p3⟩ := hPt.2.1 i hi
    have hfn := rnd_fn (op := op) hW hD i (by omega) (by omega)
    by_cases c : bt1 op i = 1
    · obtain ⟨f1, τ1, g1, g2, g3, g4, g5⟩ := shorten_c (a := a_pa A i) (b := a_pb A i) (l := a_pl A i) h1 hfn hp.1 hp.2.1 hp.2.2.2.2 (by omega)
      have hPt1 := hPt.offF g5 (fun c j q1 q2 => by omega)
      obtain ⟨q1, q2, q3⟩ := hPt1.2.1 i hi
      obtain ⟨f2, τ2, e1, e2, e3, e4, e5⟩ := shorten_c (a := a_pb A i) (b := a_pa A i) (l := a_pl A i) g3 (rlx_fn hfn hp.2.2.2.2 (by omega)) hp.2.1 hp.1 hp.2.2.2.2 (by omega)
      have o1 := or01 hf g1
      have o2 := or01 o1.1 e1
      have es : rnd A op D (i + 1) = rlx (rlx (rnd A op D i) (a_pa A i) (a_pb A i) (a_pl A i)) (a_pb A i) (a_pa A i) (a_pl A i) := if_pos c
      refine ⟨(nI (f ||| f1 ||| f2), nI (i + 1)), τ2, ⟨_, o2.1, rfl, ?_, ?_, (h3.trans g5).trans e5⟩, fun rec => ?_⟩
      · rw [es]
        exact e3
      · intro z
        have z2 := o2.2 z
        have z1 := o1.2 z2.1
        rw [es, e4 z2.2, g4 z1.2, h2 z1.1]
      · show X2_measure_L52_b k (nI op) x rec (nI f) (nI i) τ = _
        unfold X2_measure_L52_b
        rw [hPt.1.2.2.2.2.1, if_neg (nle_ (by omega) (by omega)), bitOf_spec (by omega) (by omega), jbd_eq, c, if_neg (by decide), jld_eq (by omega) (by omega), p1, jld_eq (by omega) (by omega), p2, jld_eq (by omega) (by omega), p3, g2, jbd_eq, nI_or, jlet_eq, jld_eq (by omega) (by omega), q2, jld_eq (by omega) (by omega), q1, jld_eq (by omega) (by omega), q3, e2, jbd_eq, nI_or, jlet_eq, nI_1]
    · have es : rnd A op D (i + 1) = rnd A op D i := if_neg c
      refine ⟨(nI f, nI (i + 1)), τ, ⟨f, hf, rfl, by rw [es]; exact h1, by rw [es]; exact h2, h3⟩, fun rec => ?_⟩
      show X2_measure_L52_b k (nI op) x rec (nI f) (nI i) τ = _
      unfold X2_measure_L52_b
      have hle := bt1_le op i
      rw [hPt.1.2.2.2.2.1, if_neg (nle_ (by omega) (by omega)), bitOf_spec (by omega) (by omega), jbd_eq, show bt1 op i = 0 by omega, if_pos (by decide), nI_1]
  · rintro s τ ⟨f, hf, rfl, h1, h2, h3⟩
    have hPt := hP.offF h3 (fun c j q1 q2 => by omega)
    refine ⟨(nI f, τ), ⟨f, hf, rfl, h1, h2, h3⟩, fun rec => ?_⟩
    show X2_measure_L52_b k (nI op) x rec (nI f) (nI (a_np A)) τ = _
    unfold X2_measure_L52_b
    rw [hPt.1.2.2.2.2.1, if_pos (nI_le (Nat.le_refl _) (by omega))]
theorem fD_still {A : aP} {op k : Nat} (h : fD A op (k + 1) = fD A op k) : ∀ m, fD A op (k + m) = fD A op k
  | 0 => rfl
  | m + 1 => by
    show rnd A op (fD A op (k + m)) (a_np A) = _
    rw [fD_still h m]
    exact h
theorem measL2 (k : Nat) (x : Int32) (σ : jMem) : ∃ σ', X2_measure_L2 k x jFU (0 : Int32) σ = some ((), σ') ∧ (∀ v, v < 8 → σ'.1 81 v = -1) ∧ FR (fun c _ => c = 81) σ σ' := by
  have H := jloop_inv (body := fun rec s σ => X2_measure_L2_b k x rec s σ) (fun i s τ => s = nI i ∧ (∀ v, v < i → τ.1 81 v = -1) ∧ FR (fun c _ => c = 81) σ τ) (fun r => (∀ v, v < 8 → r.2.1 81 v = -1) ∧ FR (fun c _ => c = 81) σ r.2) 8 ?_ ?_ (0 : Int32) σ ⟨rfl, fun v hv => by omega, FR.refl σ⟩ jFU (by unfold jFU; omega)
  · obtain ⟨⟨r, ρ⟩, ⟨h1, h2⟩, h3⟩ := H
    exact ⟨ρ, h3, h1, h2⟩
  · rintro i s τ hi ⟨rfl, h1, h2⟩
    refine ⟨nI (i + 1), jset τ 81 i (-1), ⟨rfl, fun v hv => ?_, h2.set rfl⟩, fun rec => ?_⟩
    · rw [jset_v]
      by_cases q : v = i
      · rw [if_pos q]
      · rw [if_neg q]
        exact h1 v (by omega)
    · show X2_measure_L2_b k x rec (nI i) τ = _
      unfold X2_measure_L2_b
      rw [if_neg (Lle_ (by omega) (by omega)), jst_eq (by omega) (by omega), nI_1]
  · rintro s τ ⟨rfl, h1, h2⟩
    exact ⟨((), τ), ⟨h1, h2⟩, fun rec => rfl⟩
theorem measure_c {σ : jMem} {k op : Nat} {A : aP} (hP : PC σ k A) (hW : WF A) (hk : k + 7 < 80) (hop : op < 4096) : ∃ σ', f_X2_measure k (nI op) σ = some σ' ∧ CF σ' (dst A op) ∧ FR (fun c _ => c = 81) σ σ' := by
  have hI := INF_v
  have hch := hW.1.2.1
  obtain ⟨σ1, a1, a2, a3⟩ := measL2 k (nI op) σ
  have hP1 := hP.offF a3 (fun c j q1 q2 => by omega)
  have hP2 : PC (jset σ1 81 (a_ch A) 0) k A := hP1.o (by omega) _ _
  have hC : CF (jset σ1 81 (a_ch A) 0) (fD A op 0) := by
    intro v hv
    rw [jset_v]
    show _ = cF (if v = a_ch A then 0 else INF)
    by_cases q : v = a_ch A
    · rw [if_pos q, if_pos q]
      rfl
    · rw [if_neg q, if_neg q, a2 v hv, cF_i]
  have f2 : FR (fun c _ => c = 81) σ (jset σ1 81 (a_ch A) 0) := a3.set rfl
  have H := jloop_ex (body := fun rec s σ => X2_measure_L36_b k (nI op) rec s.1 s.2 σ) (fun i s τ => ∃ f, f ≤ 1 ∧ s = (nI f, nI i) ∧ CF τ (fD A op i) ∧ (f = 0 → fD A op (i + 1) = fD A op i) ∧ FR (fun c _ => c = 81) σ τ) (fun r => CF r.2 (fD A op 8) ∧ FR (fun c _ => c = 81) σ r.2) 8 ?_ ?_ ((1 : Int32), (0 : Int32)) (jset σ1 81 (a_ch A) 0) ⟨1, by omega, rfl, hC, by omega, f2⟩ jFU (by unfold jFU; omega)
  · obtain ⟨⟨r, ρ⟩, ⟨h1, h2⟩, h3⟩ := H
    refine ⟨ρ, ?_, h1, h2⟩
    unfold f_X2_measure
    rw [a1, jbd_eq, hP1.1.2.1, jst_eq (by omega) (by omega)]
    show jbd (X2_measure_L36 k (nI op) jFU ((1 : Int32), (0 : Int32)) (jset σ1 81 (a_ch A) 0)) _ = _
    rw [show X2_measure_L36 k (nI op) jFU ((1 : Int32), (0 : Int32)) (jset σ1 81 (a_ch A) 0) = some (r, ρ) from h3]
    rfl
  · rintro i s τ hi ⟨f, hf, rfl, h1, h2, h3⟩
    by_cases z : f = 0
    · right
      refine ⟨((), τ), ⟨?_, h3⟩, fun rec => ?_⟩
      · have := fD_still (h2 z) (8 - i)
        rw [show i + (8 - i) = 8 by omega] at this
        show CF τ (fD A op 8)
        rw [this]
        exact h1
      · show X2_measure_L36_b k (nI op) rec (nI f) (nI i) τ = _
        unfold X2_measure_L36_b
        rw [if_neg (Lle_ (by omega) (by omega)), z, if_pos (by decide)]
    · left
      have hPt := hP.offF h3 (fun c j q1 q2 => by omega)
      obtain ⟨f', τ', g1, g2, g3, g4, g5⟩ := roundC (nI i) hPt hW hk hop h1 (fD_fn op hW i (by omega)) (by omega)
      refine ⟨(nI f', nI (i + 1)), τ', ⟨f', g1, rfl, g3, ?_, h3.trans g5⟩, fun rec => ?_⟩
      · intro z'
        have e1 : fD A op (i + 1) = fD A op i := g4 z'
        show rnd A op (fD A op (i + 1)) (a_np A) = _
        rw [e1]
        exact e1
      · show X2_measure_L36_b k (nI op) rec (nI f) (nI i) τ = _
        unfold X2_measure_L36_b
        rw [if_neg (Lle_ (by omega) (by omega)), if_neg (neL_ z (by omega) (by omega)), g2, jbd_eq, nI_1]
  · rintro s τ ⟨f, hf, rfl, h1, h2, h3⟩
    refine ⟨((), τ), ⟨h1, h3⟩, fun rec => ?_⟩
    show X2_measure_L36_b k (nI op) rec (nI f) (nI 8) τ = _
    unfold X2_measure_L36_b
    rw [if_pos (by decide)]
