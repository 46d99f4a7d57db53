/-! ===== PURE: the reference lays how far ===== -/
theorem RF.set {σ : jMem} {D : Nat → Nat} {a b l : Nat} (h : RF σ D) : RF (jset σ 98 a (rF (rlx D a b l a))) (rlx D a b l) := by
  intro v hv
  rw [jset_v]
  by_cases q : v = a
  · rw [if_pos q, q]
  · rw [if_neg q, h v hv]
    have : rlx D a b l v = D v := if_neg (fun z => q z.1)
    rw [this]
/-- one try, whatever comes after -/
theorem try_r {α : Type} {σ : jMem} {D : Nat → Nat} {B a b l : Nat} (kk : Int32 → jMem → Option α) (h : RF σ D) (hD : fnB B D) (ha : a < 8) (hb : b < 8) (hl : l ≤ 9) (hB : B + 9 < INF) :
  (jld σ 98 8 (nI b) (fun v16 =>
  jj kk (fun k17 =>
  jj (fun (q38 : Unit) σ39 =>
  jld σ39 98 8 (nI a) (fun v40 =>
  k17 v40 σ39)) (fun k37 =>
  if v16 = (-1000000 : Int32) then
  k37 () σ
else
  jld σ 98 8 (nI a) (fun v41 =>
  jj (fun (q43 : Unit) σ44 =>
  jld σ44 98 8 (nI b) (fun v45 =>
  k17 (v45 + (nI l)) σ44)) (fun k42 =>
  if v41 = (-1000000 : Int32) then
  k42 () σ
else
  jld σ 98 8 (nI b) (fun v46 =>
  jld σ 98 8 (nI a) (fun v47 =>
  if v47 ≤ (v46 + (nI l)) then
  k37 () σ
else
  k42 () σ)))))))) = kk (rF (rlx D a b l a)) σ := by
  have hI := INF_v
  have hda : D a ≤ INF := by rcases hD a with q | q <;> omega
  rw [jld_eq (by omega) (by omega), h b hb, jj_eq, jj_eq]
  by_cases cb : D b = INF
  · rw [cb, rF_i, if_pos rfl]
    dsimp only
    rw [jld_eq (by omega) (by omega), h a ha, rlx_o (by omega)]
  · have hbB : D b ≤ B := by rcases hD b with q | q <;> omega
    rw [rF_n (d := D b) (by omega), if_neg (nI_ne_inf (by omega)), jld_eq (by omega) (by omega), h a ha, jj_eq]
    by_cases ca : D a = INF
    · rw [ca, rF_i, if_pos rfl]
      dsimp only
      have c : D b + l < D a := by omega
      rw [jld_eq (by omega) (by omega), h b hb, rF_n (d := D b) (by omega), nI_add, rlx_v c, if_pos rfl, rF_n (d := D b + l) (by omega)]
    · have haB : D a ≤ B := by rcases hD a with q | q <;> omega
      rw [rF_n (d := D a) (by omega), if_neg (nI_ne_inf (by omega)), jld_eq (by omega) (by omega), h b hb, rF_n (d := D b) (by omega), jld_eq (by omega) (by omega), h a ha, rF_n (d := D a) (by omega), nI_add]
      by_cases c : D b + l < D a
      · rw [if_neg (nle_ (by omega) (by omega))]
        dsimp only
        rw [jld_eq (by omega) (by omega), h b hb, rF_n (d := D b) (by omega), nI_add, rlx_v c, if_pos rfl, rF_n (d := D b + l) (by omega)]
      · rw [if_pos (nI_le (by omega) (by omega))]
        dsimp only
        rw [jld_eq (by omega) (by omega), h a ha, rlx_o c]
theorem roundR {σ : jMem} {op B : Nat} {A : aP} {D : Nat → Nat} (x : Int32) (hP : PR σ 93 0 A) (hW : WF A) (hop : op < 4096) (h : RF σ D) (hD : fnB B D) (hB : B + 300 < INF) : ∃ σ', X12_layFars_L46 (nI op) x jFU (0 : Int32) σ = some ((), σ') ∧ RF σ' (rnd A op D (a_np A)) ∧ FR (fun c _ => c = 98) σ σ' := by
  have hb := hW.b
  have H := jloop_inv (body := fun rec s σ => X12_layFars_L46_b (nI op) x rec s σ) (fun i s τ => s = nI i ∧ RF τ (rnd A op D i) ∧ FR (fun c _ => c = 98) σ τ) (fun r => RF r.2 (rnd A op D (a_np A)) ∧ FR (fun c _ => c = 98) σ r.2) (a_np A) ?_ ?_ (0 : Int32) σ ⟨rfl, h, FR.refl σ⟩ jFU (by unfold jFU; omega)
  · obtain ⟨⟨r, ρ⟩, ⟨h1, h2⟩, h3⟩ := H
    exact ⟨ρ, h3, h1, h2⟩
  · rintro i s τ hi ⟨rfl, h1, h3⟩
    have hPt := hP.offF hW h3 (fun j => by omega)
    have hp := hW.2.1 i hi
    obtain ⟨p1, p2, p3⟩ := hPt.2.1 i hi
    simp only [Nat.zero_add] at p1 p2 p3
    have h93 : τ.1 93 3 = nI (a_np A) := (hPt.f (o := 0)).2.2.2.1
    have hfn := rnd_fn (op := op) hW hD i (by omega) (by omega)
    by_cases c : bt1 op i = 1
    · have es : rnd A op D (i + 1) = rlx (rlx (rnd A op D i) (a_pa A i) (a_pb A i) (a_pl A i)) (a_pb A i) (a_pa A i) (a_pl A i) := if_pos c
      refine ⟨nI (i + 1), jset (jset τ 98 (a_pa A i) (rF (rlx (rnd A op D i) (a_pa A i) (a_pb A i) (a_pl A i) (a_pa A i)))) 98 (a_pb A i) (rF (rlx (rlx (rnd A op D i) (a_pa A i) (a_pb A i) (a_pl A i)) (a_pb A i) (a_pa A i) (a_pl A i) (a_pb A i))), ⟨rfl, ?_, (h3.set rfl).set rfl⟩, fun rec => ?_⟩
      · rw [es]
        exact (h1.set).set
      · show X12_layFars_L46_b (nI op) x rec (nI i) τ = _
        unfold X12_layFars_L46_b
        rw [jldL_ (by omega) (by omega), h93, if_neg (nle_ (by omega) (by omega)), jlet_eq, nI_Lmul, nI_Ladd, jld_eq (by omega) (by omega), p1, nI_addL, jld_eq (by omega) (by omega), p2, nI_addL, jld_eq (by omega) (by omega), p3, has_bit (by omega) (by omega), jbd_eq, c, if_neg (by decide)]
        refine (try_r (kk := _) h1 hfn hp.1 hp.2.1 hp.2.2.2.2 (by omega)).trans ?_
        rw [jst_eq (by omega) (by omega)]
        refine (try_r (kk := _) h1.set (rlx_fn hfn hp.2.2.2.2 (by omega)) hp.2.1 hp.1 hp.2.2.2.2 (by omega)).trans ?_
        rw [jst_eq (by omega) (by omega), nI_1]
    · have es : rnd A op D (i + 1) = rnd A op D i := if_neg c
      refine ⟨nI (i + 1), τ, ⟨rfl, by rw [es]; exact h1, h3⟩, fun rec => ?_⟩
      show X12_layFars_L46_b (nI op) x rec (nI i) τ = _
      unfold X12_layFars_L46_b
      have hle := bt1_le op i
      rw [jldL_ (by omega) (by omega), h93, if_neg (nle_ (by omega) (by omega)), jlet_eq, nI_Lmul, nI_Ladd, jld_eq (by omega) (by omega), nI_addL, jld_eq (by omega) (by omega), nI_addL, jld_eq (by omega) (by omega), has_bit (by omega) (by omega), jbd_eq, show bt1 op i = 0 by omega, if_pos (by decide), nI_1]
  · rintro s τ ⟨rfl, h1, h3⟩
    have hPt := hP.offF hW h3 (fun j => by omega)
    have h93 : τ.1 93 3 = nI (a_np A) := (hPt.f (o := 0)).2.2.2.1
    refine ⟨((), τ), ⟨h1, h3⟩, fun rec => ?_⟩
    show X12_layFars_L46_b (nI op) x rec (nI (a_np A)) τ = _
    unfold X12_layFars_L46_b
    rw [jldL_ (by omega) (by omega), h93, if_pos (nI_le (Nat.le_refl _) (by omega))]
theorem layFars_r {σ : jMem} {op : Nat} {A : aP} (hP : PR σ 93 0 A) (hW : WF A) (hop : op < 4096) : ∃ σ', f_X12_layFars (nI op) σ = some σ' ∧ RF σ' (dst A op) ∧ FR (fun c _ => c = 98) σ σ' := by
  have hI := INF_v
  have hch := hW.1.2.1
  have H0 := jloop_inv (body := fun rec s σ => X12_layFars_L2_b (nI op) rec s σ) (fun i s τ => s = nI i ∧ (∀ v, v < i → τ.1 98 v = rF (fD A op 0 v)) ∧ FR (fun c _ => c = 98) σ τ) (fun r => RF r.2 (fD A op 0) ∧ FR (fun c _ => c = 98) σ r.2) 8 ?_ ?_ (0 : Int32) σ ⟨rfl, fun v hv => by omega, FR.refl σ⟩ jFU (by unfold jFU; omega)
  · obtain ⟨⟨r0, ρ0⟩, ⟨h1, h2⟩, h3⟩ := H0
    have H := jloop_inv (body := fun rec s σ => X12_layFars_L38_b (nI op) rec s σ) (fun i s τ => s = nI i ∧ RF τ (fD A op i) ∧ FR (fun c _ => c = 98) σ τ) (fun r => RF r.2 (fD A op 8) ∧ FR (fun c _ => c = 98) σ r.2) 8 ?_ ?_ (0 : Int32) ρ0 ⟨rfl, h1, h2⟩ jFU (by unfold jFU; omega)
    · obtain ⟨⟨r, ρ⟩, ⟨g1, g2⟩, g3⟩ := H
      refine ⟨ρ, ?_, g1, g2⟩
      unfold f_X12_layFars
      rw [show X12_layFars_L2 (nI op) jFU (0 : Int32) σ = some (r0, ρ0) from h3, jbd_eq, show X12_layFars_L38 (nI op) jFU (0 : Int32) ρ0 = some (r, ρ) from g3]
      rfl
    · rintro i s τ hi ⟨rfl, g1, g2⟩
      have hPt := hP.offF hW g2 (fun j => by omega)
      obtain ⟨τ', e1, e2, e3⟩ := roundR (nI i) hPt hW hop g1 (fD_fn op hW i (by omega)) (by omega)
      refine ⟨nI (i + 1), τ', ⟨rfl, e2, g2.trans e3⟩, fun rec => ?_⟩
      show X12_layFars_L38_b (nI op) rec (nI i) τ = _
      unfold X12_layFars_L38_b
      rw [if_neg (Lle_ (by omega) (by omega)), e1, jbd_eq, nI_1]
    · rintro s τ ⟨rfl, g1, g2⟩
      exact ⟨((), τ), ⟨g1, g2⟩, fun rec => rfl⟩
  · rintro i s τ hi ⟨rfl, h1, h2⟩
    have hPt := hP.offF hW h2 (fun j => by omega)
    have h93 : τ.1 93 1 = nI (a_ch A) := (hPt.f (o := 0)).2.1
    refine ⟨nI (i + 1), jset τ 98 i (rF (fD A op 0 i)), ⟨rfl, fun v hv => ?_, h2.set rfl⟩, fun rec => ?_⟩
    · rw [jset_v]
      by_cases q : v = i
      · rw [if_pos q, q]
      · rw [if_neg q]
        exact h1 v (by omega)
    · show X12_layFars_L2_b (nI op) rec (nI i) τ = _
      unfold X12_layFars_L2_b
      rw [if_neg (Lle_ (by omega) (by omega)), jldL_ (by omega) (by omega), h93, jj_eq]
      have e0 : fD A op 0 i = if i = a_ch A then 0 else INF := rfl
      rw [e0]
      by_cases q : i = a_ch A
      · rw [if_neg (fun z => z (by rw [q])), if_pos q]
        dsimp only
        rw [jst_eq (by omega) (by omega), nI_1]
        rfl
      · rw [if_pos (nne_ q (by omega) (by omega)), if_neg q]
        dsimp only
        rw [jst_eq (by omega) (by omega), nI_1, rF_i]
  · rintro s τ ⟨rfl, h1, h2⟩
    exact ⟨((), τ), ⟨h1, h2⟩, fun rec => rfl⟩
