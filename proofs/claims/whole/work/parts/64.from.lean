/-! ===== PURE: from, ahead, lost ===== -/
def frmG (A : aP) (x : Int32) (a : Nat) : Nat := if bur A a = 1 ∧ nI (wB A a) = x then 2 ^ a else 0
theorem fromL_c {σ : jMem} {A : aP} (x : Int32) (hP : PC σ 22 A) (hW : WF A) : ∃ σ', X11_from_L63 x jFU ((0 : Int32), (0 : Int32)) σ = some (nI (orN (frmG A x) 8), σ') ∧ FR frC σ σ' := by
  have H := jloop_inv (body := fun rec s σ => X11_from_L63_b x rec s.1 s.2 σ) (fun i s τ => s = (nI (orN (frmG A x) i), nI i) ∧ FR frC σ τ) (fun r => r.1 = nI (orN (frmG A x) 8) ∧ FR frC σ r.2) 8 ?_ ?_ ((0 : Int32), (0 : Int32)) σ ⟨rfl, FR.refl σ⟩ jFU (by unfold jFU; omega)
  · obtain ⟨⟨r, ρ⟩, ⟨h1, h2⟩, h3⟩ := H
    exact ⟨ρ, by rw [← h1]; exact h3, h2⟩
  · rintro i s τ hi ⟨rfl, h2⟩
    have hPt := hP.offF h2 (fun c j q1 q2 => by unfold frC; omega)
    obtain ⟨τ1, b1, b2, b3⟩ := isBur_c hPt hW (by omega) hi
    refine ⟨(nI (orN (frmG A x) (i + 1)), nI (i + 1)), τ1, ⟨rfl, h2.trans b3⟩, fun rec => ?_⟩
    show X11_from_L63_b x rec (nI (orN (frmG A x) i)) (nI i) τ = _
    unfold X11_from_L63_b
    have es : orN (frmG A x) (i + 1) = orN (frmG A x) i ||| frmG A x i := rfl
    rw [if_neg (Lle_ (by omega) (by omega)), b1, jbd_eq, nI_1, es]
    unfold frmG
    rcases (show bur A i = 0 ∨ bur A i = 1 by have := bur_le A i; omega) with z | z
    · rw [z, if_pos (by decide), if_neg (fun q => by have := q.1; omega), Nat.or_zero]
    · obtain ⟨x1, x2⟩ := b2 z
      have hP1 := hPt.offF b3 (fun c j q1 q2 => by unfold frC; omega)
      rw [z, if_neg (by decide), behind_c hP1 hW hi z x1 x2, jbd_eq]
      by_cases c : nI (wB A i) = x
      · rw [if_neg (fun q => q c), if_pos ⟨rfl, c⟩, nI_one_shl (by omega), jlet_eq, nI_or]
      · rw [if_pos c, if_neg (fun q => c q.2), Nat.or_zero]
  · rintro s τ ⟨rfl, h2⟩
    generalize nI (orN (frmG A x) 8) = B
    refine ⟨(B, τ), ⟨rfl, h2⟩, fun rec => ?_⟩
    show X11_from_L63_b x rec B (nI 8) τ = some (B, τ)
    unfold X11_from_L63_b
    rw [if_pos (by decide)]
theorem fromL_r {σ : jMem} {A : aP} {r i0 : Nat} (hr : r < 8) (h0 : i0 < 40) (hP : PR σ 93 0 A) (hW : WF A) : ∃ σ', X12_from_L74 (nI r) (nI i0) jFU ((0 : Int32), (0 : Int32)) σ = some (nI (orN (frmG A (σ.1 92 (40 * r + i0))) 8), σ') ∧ FR frT σ σ' := by
  have H := jloop_inv (body := fun rec s σ => X12_from_L74_b (nI r) (nI i0) rec s.1 s.2 σ) (fun i s τ => s = (nI (orN (frmG A (σ.1 92 (40 * r + i0))) i), nI i) ∧ FR frT σ τ) (fun q => q.1 = nI (orN (frmG A (σ.1 92 (40 * r + i0))) 8) ∧ FR frT σ q.2) 8 ?_ ?_ ((0 : Int32), (0 : Int32)) σ ⟨rfl, FR.refl σ⟩ jFU (by unfold jFU; omega)
  · obtain ⟨⟨q, ρ⟩, ⟨h1, h2⟩, h3⟩ := H
    exact ⟨ρ, by rw [← h1]; exact h3, h2⟩
  · rintro i s τ hi ⟨rfl, h2⟩
    have hPt := hP.offF hW h2 (fun j => by unfold frT; omega)
    obtain ⟨τ1, b1, b2⟩ := behind_r hPt hW hi
    refine ⟨(nI (orN (frmG A (σ.1 92 (40 * r + i0))) (i + 1)), nI (i + 1)), τ1, ⟨rfl, h2.trans b2⟩, fun rec => ?_⟩
    show X12_from_L74_b (nI r) (nI i0) rec (nI (orN (frmG A (σ.1 92 (40 * r + i0))) i)) (nI i) τ = _
    unfold X12_from_L74_b
    have es : orN (frmG A (σ.1 92 (40 * r + i0))) (i + 1) = orN (frmG A (σ.1 92 (40 * r + i0))) i ||| frmG A (σ.1 92 (40 * r + i0)) i := rfl
    have e92 : τ1.1 92 (40 * r + i0) = σ.1 92 (40 * r + i0) := (h2.trans b2).1 92 _ (by unfold frT; omega)
    rw [if_neg (Lle_ (by omega) (by omega)), b1, jbd_eq, nI_1, es]
    unfold frmG
    rcases (show bur A i = 0 ∨ bur A i = 1 by have := bur_le A i; omega) with z | z
    · have e : (if bur A i = 1 then nI (wB A i) else (-1000000 : Int32)) = -1000000 := if_neg (by omega)
      rw [e, if_pos rfl, if_neg (fun q => by have := q.1; omega), jlet_eq, show (0 : Int32) = nI 0 from rfl, nI_or]
    · have e : (if bur A i = 1 then nI (wB A i) else (-1000000 : Int32)) = nI (wB A i) := if_pos z
      have hlt := np_lt hW (wB_lt hW hi z)
      rw [e, if_neg (nI_ne_inf (by omega)), nI_Lmul, nI_add, jld_eq (by omega) (by omega), e92]
      by_cases c : nI (wB A i) = σ.1 92 (40 * r + i0)
      · rw [if_neg (fun q => q c), if_pos ⟨z, c⟩, nI_one_shl (by omega), jlet_eq, nI_or]
      · rw [if_pos c, if_neg (fun q => c q.2), jlet_eq, show (0 : Int32) = nI 0 from rfl, nI_or]
  · rintro s τ ⟨rfl, h2⟩
    generalize nI (orN (frmG A (σ.1 92 (40 * r + i0))) 8) = B
    refine ⟨(B, τ), ⟨rfl, h2⟩, fun rec => ?_⟩
    show X12_from_L74_b (nI r) (nI i0) rec B (nI 8) τ = some (B, τ)
    unfold X12_from_L74_b
    rw [if_pos (by decide)]
theorem sEq.st {σ τ : jMem} (h : sEq σ τ) {c j : Nat} (hs : ¬ scr c j) : τ.1 c j = σ.1 c j := h.1 c j hs
theorem sim_from_ok : sim_from Inv := by
  rintro σ a1 a2 ⟨A, h⟩
  have h' := h.t0
  have t1 := h.W.1.1
  rcases (show a_th A = 0 ∨ a_th A = 1 by omega) with t | t
  · refine ⟨-1000002, σ, jset σ 89 0 0, ?_, ?_, h.bad⟩
    · unfold f_X11_from
      rw [h.C.1.1, t, if_neg (by decide)]
    · unfold f_X12_from
      rw [jlet_eq, there_r h'.R h.W, t]
      rfl
  · have ec : ¬ σ.1 22 1 = 0 := by rw [h.C.1.1, t]; decide
    have fnd : ∀ f : Int32, PR (jset (jset σ 0 12 f) 89 0 0) 93 0 A := fun f => (h.R.o h.W (c := 0) (by omega) 12 f).o h.W (c := 89) (by omega) 0 0
    have ert : ∀ f : Int32, f_X12_isThere (jset (jset σ 0 12 f) 89 0 0) = some (1, jset (jset σ 0 12 f) 89 0 0) := by
      intro f
      have := there_r (fnd f) h.W
      rw [t] at this
      exact this
    rcases pI_split a1 8 (by omega) with ⟨r, hr, rfl⟩ | ho
    · rcases h.1 r hr with ⟨g1, g2⟩ | ⟨n, l, n1, n2, n3, n4, n5, n6, n7⟩
      · refine ⟨(-1000010 : Int32) - 1, jset σ 0 12 1, jset (jset (jset σ 0 12 1) 89 0 0) 89 1 1, ?_, ?_, A, ?_⟩
        · unfold f_X11_from
          rw [if_pos ec, isRow_in hr, jbd_eq, if_pos (by decide), amiss_m hr g1, jbd_eq, if_neg (by decide)]
          rfl
        · unfold f_X12_from
          rw [jlet_eq, ert, jbd_eq, if_pos (by decide), isRowR_in hr, jbd_eq, if_pos (by decide), jld_eq (by omega) (by omega), jset_o (by omega), jset_o (by omega), g2, if_neg (by decide)]
          rfl
        · rw [jset_comm0 _ 0 12 89 0 _ _ (by omega)]
          exact h.found 1 ((sEq.refl σ).set scr0)
      · have hl : 0 ≤ nI l := Lle (by omega) (by omega)
        rcases pI_split a2 n (by omega) with ⟨i, hi, rfl⟩ | hx
        · have ht : (nI i).toInt = i := nI_toInt (by omega)
          have e0 : f_X6_amiss (nI r) (nI i) 1 σ = some (0, σ) := by
            rw [amiss_n hr n1 n3, if_pos]
            have : (1 : Int32).toInt = 1 := rfl
            omega
          have e0' : ∀ τ : jMem, f_X12_in (nI i).toInt64 (0 : Int64) (nI n - 1).toInt64 τ = some (1, τ) := by
            intro τ
            rw [in_sub _ n (by omega), if_pos (by omega)]
          obtain ⟨σ1, b1, b2⟩ := fromL_c (σ.1 (3 + r) i) h.C h.W
          have s1 := frC_scr b2
          have hR1 : PR (jset (jset (jset σ1 0 12 0) 89 0 0) 89 1 0) 93 0 A := (((h.congr s1).R.o h.W (c := 0) (by omega) 12 0).o h.W (c := 89) (by omega) 0 0).o h.W (c := 89) (by omega) 1 0
          have er1 : f_X12_isThere (jset (jset σ1 0 12 0) 89 0 0) = some (1, jset (jset σ1 0 12 0) 89 0 0) := by
            have := there_r (((h.congr s1).R.o h.W (c := 0) (by omega) 12 0).o h.W (c := 89) (by omega) 0 0) h.W
            rw [t] at this
            exact this
          obtain ⟨σ2, r1, r2⟩ := fromL_r hr (i0 := i) (by omega) hR1 h.W
          have ei : (jset (jset (jset σ1 0 12 0) 89 0 0) 89 1 0).1 92 (40 * r + i) = σ.1 (3 + r) i := by
            rw [jset_o (by omega), jset_o (by omega), jset_o (by omega), s1.st (by unfold scr; omega), n7 i hi]
          rw [ei] at r1
          refine ⟨nI (orN (frmG A (σ.1 (3 + r) i)) 8), jset σ1 0 12 0, σ2, ?_, ?_, A, ?_⟩
          · unfold f_X11_from
            rw [if_pos ec, isRow_in hr, jbd_eq, if_pos (by decide), e0, jbd_eq, if_pos rfl, jldr_eq (by omega) (by omega), jld_eq (by omega) (by omega), Nat.one_mul, b1, jbd_eq]
            rfl
          · unfold f_X12_from
            rw [jlet_eq, er1, jbd_eq, if_pos (by decide), isRowR_in hr, jbd_eq, if_pos (by decide), jld_eq (by omega) (by omega), jset_o (by omega), jset_o (by omega), s1.st (by unfold scr; omega), n6, if_pos hl, jld_eq (by omega) (by omega), jset_o (by omega), jset_o (by omega), s1.st (by unfold scr; omega), n4, e0', jbd_eq, if_pos (by decide), jlet_eq, r1, jbd_eq]
          · refine RInv.congr ?_ (frT_scr r2)
            rw [jset_comm0 _ 0 12 89 0 _ _ (by omega)]
            exact h.found 0 (s1.set scr0)
        · have e0 : f_X6_amiss (nI r) a2 1 σ = some (2, σ) := by
            rw [amiss_n hr n1 n3, if_neg]
            have : (1 : Int32).toInt = 1 := rfl
            omega
          have e0' : ∀ τ : jMem, f_X12_in a2.toInt64 (0 : Int64) (nI n - 1).toInt64 τ = some (0, τ) := by
            intro τ
            rw [in_sub _ n (by omega), if_neg (by omega)]
          refine ⟨(-1000010 : Int32) - 2, jset σ 0 12 2, jset (jset (jset σ 0 12 2) 89 0 0) 89 1 2, ?_, ?_, A, ?_⟩
          · unfold f_X11_from
            rw [if_pos ec, isRow_in hr, jbd_eq, if_pos (by decide), e0, jbd_eq, if_neg (by decide)]
            rfl
          · unfold f_X12_from
            rw [jlet_eq, ert, jbd_eq, if_pos (by decide), isRowR_in hr, jbd_eq, if_pos (by decide), jld_eq (by omega) (by omega), jset_o (by omega), jset_o (by omega), n6, if_pos hl, jld_eq (by omega) (by omega), jset_o (by omega), jset_o (by omega), n4, e0', jbd_eq, if_neg (by decide)]
            rfl
          · rw [jset_comm0 _ 0 12 89 0 _ _ (by omega)]
            exact h.found 2 ((sEq.refl σ).set scr0)
    · have er := there_r h'.R h.W
      rw [t] at er
      refine ⟨-1000001, σ, jset σ 89 0 0, ?_, ?_, h.bad⟩
      · unfold f_X11_from
        rw [if_pos ec, isRow_out ho]
        rfl
      · unfold f_X12_from
        rw [jlet_eq, er, jbd_eq, if_pos (by decide), isRowR_out ho]
        rfl
/-- years in the draft -/
def frD (c _j : Nat) : Prop := 30 ≤ c ∧ c ≤ 37
theorem frD_scr {σ τ : jMem} (h : FR frD σ τ) : sEq σ τ := ⟨fun c j q => h.1 c j (fun z => q (by unfold frD at z; unfold scr; omega)), h.2⟩
theorem fr95_scr {σ τ : jMem} (h : FR (fun c _ => c = 95) σ τ) : sEq σ τ := ⟨fun c j q => h.1 c j (fun z => q (by unfold scr; omega)), h.2⟩
theorem yrA_WF {A : aP} (hW : WF A) : ∀ i, a_yr A + i ≤ 1100 → WF (yrA A i)
  | 0, _ => hW
  | i + 1, h => aYear_WF (yrA_WF hW i (by omega)) (by rw [yrA_yr]; omega)
theorem bcM_fr {σ : jMem} {k a : Nat} : FR (fun c _ => k ≤ c ∧ c ≤ k + 7) σ (bcM σ k a) := ⟨fun c j q => bcM_o (by omega), fun n => rfl⟩
theorem sim_ahead_ok : sim_ahead Inv := by
  rintro σ a1 ⟨A, h⟩
  have hb := h.W.b
  have h' := h.t0
  have t1 := h.W.1.1
  have hyr := h.2.2.1.2.1
  rcases (show a_th A = 0 ∨ a_th A = 1 by omega) with t | t
  · refine ⟨-1000002, σ, jset σ 89 0 0, ?_, ?_, h.bad⟩
    · unfold f_X11_ahead
      rw [h.C.1.1, t, if_neg (by decide)]
    · unfold f_X12_ahead
      rw [jlet_eq, there_r h'.R h.W, t]
      rfl
  · have ec : ¬ σ.1 22 1 = 0 := by rw [h.C.1.1, t]; decide
    rcases pI_split a1 61 (by omega) with ⟨n, hn, rfl⟩ | hx
    · have H := jloop_inv (body := fun rec s σ => X11_ahead_L39_b (nI n) rec s σ) (fun i s τ => s = nI i ∧ PC τ 30 (yrA A i) ∧ FR frD σ τ) (fun r => PC r.2 30 (yrA A n) ∧ FR frD σ r.2) n ?_ ?_ (0 : Int32) (bcM σ 30 22) ⟨rfl, bcM_p h.C h.W (by omega), bcM_fr.mono (fun c j q => by unfold frD; omega)⟩ jFU (by unfold jFU; omega)
      · obtain ⟨⟨u, σ1⟩, ⟨k1, k2⟩, k3⟩ := H
        have s1 := frD_scr k2
        have hR1 := h.seqC s1
        have er1 := there_r hR1 h.W
        rw [t] at er1
        obtain ⟨p1, p2⟩ := then_p hR1 h.W
        have H2 := jloop_inv (body := fun rec s σ => X12_ahead_L36_b (nI n) rec s σ) (fun i s τ => s = nI i ∧ PR τ 95 0 (yrA A i) ∧ FR (fun c _ => c = 95) (jset σ1 89 0 0) τ) (fun r => PR r.2 95 0 (yrA A n) ∧ FR (fun c _ => c = 95) (jset σ1 89 0 0) r.2) n ?_ ?_ (0 : Int32) (jcpy (jset σ1 89 0 0) 93 0 95 0 67) ⟨rfl, p1, (FR.refl _).cpy (fun j _ _ => rfl)⟩ jFU (by unfold jFU; omega)
        · obtain ⟨⟨u2, σ2⟩, ⟨m1, m2⟩, m3⟩ := H2
          have hWn := yrA_WF h.W n (by omega)
          refine ⟨nI (aWays (yrA A n)), σ1, σ2, ?_, ?_, A, h.congr ((s1.set scr0).trans (fr95_scr m2))⟩
          · unfold f_X11_ahead
            rw [if_pos ec, if_neg (ltL_ (by omega) (by omega)), if_pos (leL (by omega) (by omega)), become_c h.C h.W, jbv_eq, show X11_ahead_L39 (nI n) jFU (0 : Int32) (bcM σ 30 22) = some (u, σ1) from k3, jbd_eq, ways_c k1 hWn]
            rfl
          · unfold f_X12_ahead
            rw [jlet_eq, er1, jbd_eq, if_pos (by decide)]
            have ein : ∀ τ : jMem, f_X12_in (nI n).toInt64 (0 : Int64) (60 : Int64) τ = some (1, τ) := by
              intro τ
              simp only [nlitL]
              rw [in_lit _ _ _ (by omega) (by omega), nI_toInt (by omega), if_pos (by omega)]
            rw [ein, jbd_eq, if_pos (by decide), layThen_r, jbv_eq, show X12_ahead_L36 (nI n) jFU (0 : Int32) (jcpy (jset σ1 89 0 0) 93 0 95 0 67) = some (u2, σ2) from m3, jbd_eq, ways_r m1 hWn]
            rfl
        · rintro i s τ hi ⟨rfl, g1, g2⟩
          obtain ⟨τ', y1, y2, y3⟩ := year_r g1 (yrA_WF h.W i (by omega)) (by rw [yrA_yr]; omega)
          refine ⟨nI (i + 1), τ', ⟨rfl, y2, g2.trans y3⟩, fun rec => ?_⟩
          show X12_ahead_L36_b (nI n) rec (nI i) τ = _
          unfold X12_ahead_L36_b
          rw [if_neg (nle_ (by omega) (by omega)), y1, jbv_eq, nI_1]
        · rintro s τ ⟨rfl, g1, g2⟩
          refine ⟨((), τ), ⟨g1, g2⟩, fun rec => ?_⟩
          show X12_ahead_L36_b (nI n) rec (nI n) τ = _
          unfold X12_ahead_L36_b
          rw [if_pos (nI_le (Nat.le_refl _) (by omega))]
      · rintro i s τ hi ⟨rfl, g1, g2⟩
        obtain ⟨τ', y1, y2, y3⟩ := pass_c g1 (yrA_WF h.W i (by omega)) (by rw [yrA_yr]; omega)
        refine ⟨nI (i + 1), τ', ⟨rfl, y2, g2.trans (y3.mono (fun c j q => by unfold frD; omega))⟩, fun rec => ?_⟩
        show X11_ahead_L39_b (nI n) rec (nI i) τ = _
        unfold X11_ahead_L39_b
        rw [if_neg (nle_ (by omega) (by omega)), y1, jbv_eq, nI_1]
      · rintro s τ ⟨rfl, g1, g2⟩
        refine ⟨((), τ), ⟨g1, g2⟩, fun rec => ?_⟩
        show X11_ahead_L39_b (nI n) rec (nI n) τ = _
        unfold X11_ahead_L39_b
        rw [if_pos (nI_le (Nat.le_refl _) (by omega))]
    · have er := there_r h'.R h.W
      rw [t] at er
      refine ⟨-1000001, σ, jset σ 89 0 0, ?_, ?_, h.bad⟩
      · unfold f_X11_ahead
        rw [if_pos ec]
        rcases hx with q | q
        · rw [if_pos (by rw [pI_lt]; exact q)]
        · rw [if_neg (by rw [pI_lt]; show ¬ a1.toInt < 0; omega), if_neg (by rw [pI_le]; show ¬ a1.toInt ≤ 60; omega)]
      · unfold f_X12_ahead
        rw [jlet_eq, er, jbd_eq, if_pos (by decide)]
        simp only [nlitL]
        rw [in_lit _ _ _ (by omega) (by omega), if_neg (by omega), jbd_eq, if_neg (by decide)]
