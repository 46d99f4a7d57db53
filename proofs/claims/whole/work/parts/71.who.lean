/-! ===== PURE: who, the two sides ===== -/
def frO (c _j : Nat) : Prop := c = 80 ∨ c = 81 ∨ c = 88
theorem frO_scr {σ τ : jMem} (h : FR frO σ τ) : sEq σ τ := ⟨fun c j q => h.1 c j (fun z => q (by unfold frO at z; unfold scr; omega)), h.2⟩
theorem fitting_c {σ : jMem} {A : aP} {w k i0 n : Nat} {F : Nat → Nat} {I : Nat → Int32} (hP : PC σ 22 A) (hW : WF A) (hw : w < a_nw A) (hk : 3 ≤ k ∧ k ≤ 10) (hi : i0 + 2 * n ≤ 40) (hF : ∀ y, y < n → F y < 8) (eF : ∀ y, y < n → σ.1 k (i0 + 2 * y) = nI (F y)) (eI : ∀ y, y < n → σ.1 k (i0 + 2 * y + 1) = I y) : ∃ σ', f_X11_fittingKinds (nI w) k (nI i0) (nI n) σ = some (nI (wM A w F I (fun _ => n) 6), σ') ∧ FR frO σ σ' := by
  obtain ⟨σ0, f1, f2, f3⟩ := whoF_c k (nI i0) (nI n) hP hW hw
  have e62 : 62 = wM A w F I (fun _ => 0) 6 := by
    have e : wM A w F I (fun _ => 0) 6 = orN (fun kd => if 1 ≤ kd then 2 ^ kd else 0) 6 := by
      refine orN_congr (fun kd _ => ?_)
      by_cases c : 1 ≤ kd
      · rw [if_pos ⟨c, rfl⟩, if_pos c]
      · rw [if_neg (fun q => c q.1), if_neg c]
    rw [e]
    rfl
  have H := jloop_inv (body := fun rec s σ => X11_fittingKinds_L47_b (nI w) k (nI i0) (nI n) rec s.1 s.2 σ) (fun y s τ => s = (nI (wM A w F I (fun _ => y) 6), nI y) ∧ (∀ kd, 1 ≤ kd → kd ≤ 5 → τ.1 88 kd = nI (wS A w kd F y)) ∧ FR frO σ τ) (fun r => r.1 = nI (wM A w F I (fun _ => n) 6) ∧ FR frO σ r.2) n ?_ ?_ (nI 62, (0 : Int32)) σ0 ⟨by rw [← e62]; rfl, f2, f3.mono (fun c j q => by unfold fr88 at q; unfold frO; omega)⟩ jFU (by unfold jFU; omega)
  · obtain ⟨⟨r, ρ⟩, ⟨h1, h2⟩, h3⟩ := H
    refine ⟨ρ, ?_, h2⟩
    unfold f_X11_fittingKinds
    rw [f1, jbd_eq, show X11_fittingKinds_L47 (nI w) k (nI i0) (nI n) jFU (nI 62, (0 : Int32)) σ0 = some (r, ρ) from h3, jbd_eq]
    exact congrArg some (Prod.ext h1 rfl)
  · rintro y s τ hy ⟨rfl, h2, h3⟩
    have hPt := hP.offF h3 (fun c j q1 q2 => by unfold frO; omega)
    obtain ⟨τ1, b1, b2, b3⟩ := isBur_c hPt hW (by omega) (hF y hy)
    have hP1 := hPt.offF b3 (fun c j q1 q2 => by unfold frC; omega)
    obtain ⟨τ2, d1, d2, d3⟩ := whoK_c (F := F) (I := I) (i0 := i0) (y := y) (nI n) hP1 hW hw hk (by omega) (hF y hy) (by rw [b3.1 k _ (by unfold frC; omega), h3.1 k _ (by unfold frO; omega)]; exact eI y hy) (fun kd k1 k2 => by rw [b3.1 88 _ (by unfold frC; omega)]; exact h2 kd k1 k2) b2
    refine ⟨(nI (wM A w F I (fun _ => y + 1) 6), nI (y + 1)), τ2, ⟨rfl, d2, (h3.trans (b3.mono (fun c j q => by unfold frC at q; unfold frO; omega))).trans (d3.mono (fun c j q => by unfold fr88 at q; unfold frO; omega))⟩, fun rec => ?_⟩
    show X11_fittingKinds_L47_b (nI w) k (nI i0) (nI n) rec (nI (wM A w F I (fun _ => y) 6)) (nI y) τ = _
    unfold X11_fittingKinds_L47_b
    rw [if_neg (nle_ (by omega) (by omega)), nI_Lmul, nI_add, jld_eq (by omega) (by omega), h3.1 k _ (by unfold frO; omega), eF y hy, b1, jbd_eq, d1, jbd_eq, nI_1]
  · rintro s τ ⟨rfl, h2, h3⟩
    refine ⟨(nI (wM A w F I (fun _ => n) 6), τ), ⟨rfl, h3⟩, fun rec => ?_⟩
    show X11_fittingKinds_L47_b (nI w) k (nI i0) (nI n) rec (nI (wM A w F I (fun _ => n) 6)) (nI n) τ = _
    unfold X11_fittingKinds_L47_b
    rw [if_pos (nI_le (Nat.le_refl _) (by omega))]
theorem whoI_r {σ : jMem} {A : aP} {w r i0 n kd : Nat} {F : Nat → Nat} {I : Nat → Int32} (x : Int32) (hP : PR σ 93 0 A) (hW : WF A) (hw : w < a_nw A) (hr : r < 8) (hk : 1 ≤ kd ∧ kd ≤ 5) (hi : i0 + 2 * n ≤ 40) (hF : ∀ y, y < n → F y < 8) (eF : ∀ y, y < n → σ.1 92 (40 * r + i0 + 2 * y) = nI (F y)) (eI : ∀ y, y < n → σ.1 92 (40 * r + i0 + 2 * y + 1) = I y) : ∃ σ', X12_who_L176 (nI w) (nI r) (nI i0) (nI n) x (nI kd) (nI (lb A w kd)) jFU (nI (a_sw A w), (1 : Int32), (0 : Int32)) σ = some (nI (wOk A w kd F I n), σ') ∧ FR frW σ σ' := by
  have hb := hW.b
  have hww := hW.2.2.2 w hw
  have hgt := np_lt hW hW.1.2.2.2.2.2.2
  have hl := lb_le A w kd
  have H := jloop_inv (body := fun rec s σ => X12_who_L176_b (nI w) (nI r) (nI i0) (nI n) x (nI kd) (nI (lb A w kd)) rec s.1 s.2.1 s.2.2 σ) (fun y s τ => s = (nI (if lb A w kd = 1 then wS A w kd F y else a_sw A w), nI (wOk A w kd F I y), nI y) ∧ FR frW σ τ) (fun q => q.1 = nI (wOk A w kd F I n) ∧ FR frW σ q.2) n ?_ ?_ (nI (a_sw A w), (1 : Int32), (0 : Int32)) σ ⟨by show _ = (nI (if lb A w kd = 1 then a_sw A w else a_sw A w), (1 : Int32), (0 : Int32)); rw [ite_self], FR.refl σ⟩ jFU (by unfold jFU; omega)
  · obtain ⟨⟨q, ρ⟩, ⟨h1, h2⟩, h3⟩ := H
    exact ⟨ρ, by rw [← h1]; exact h3, h2⟩
  · rintro y s τ hy ⟨rfl, h2⟩
    have hPt := hP.offF hW h2 (fun j => by unfold frW; omega)
    obtain ⟨τ1, b1, b2, b3⟩ := isBur_r hPt hW (hF y hy)
    have hP1 := hPt.offF hW b3 (fun j => by unfold frW; omega)
    have h6 : τ.1 93 6 = nI (a_gt A) := (hPt.f (o := 0)).2.2.2.2.2.2
    have h6' : τ1.1 93 6 = nI (a_gt A) := (hP1.f (o := 0)).2.2.2.2.2.2
    have eS : wS A w kd F (y + 1) = wS A w kd F y ||| (if bur A (F y) = 1 then snN A (a_gt A) kd (a_hm A w) (wy A (opn A) (F y)) (2 ^ pid A (opn A) (F y)) else 0) := rfl
    have eO : wOk A w kd F I (y + 1) = if wOk A w kd F I y = 0 then 0 else if nI (if lb A w kd = 1 then wS A w kd F (y + 1) else 0) = I y then 1 else 0 := rfl
    have hO := wOk_le A w kd F I y
    refine ⟨(nI (if lb A w kd = 1 then wS A w kd F (y + 1) else a_sw A w), nI (wOk A w kd F I (y + 1)), nI (y + 1)), τ1, ⟨rfl, h2.trans b3⟩, fun rec => ?_⟩
    show X12_who_L176_b (nI w) (nI r) (nI i0) (nI n) x (nI kd) (nI (lb A w kd)) rec (nI (if lb A w kd = 1 then wS A w kd F y else a_sw A w)) (nI (wOk A w kd F I y)) (nI y) τ = _
    unfold X12_who_L176_b
    rw [if_neg (nle_ (by omega) (by omega)), nI_Lmul, nI_add, nI_Lmul, nI_add, jlet_eq, jldL_ (by omega) (by omega), h6, jld_eq (by omega) (by omega), h2.1 92 _ (by unfold frW; omega), eF y hy, b1, jbd_eq]
    refine jj_use (nI (if lb A w kd = 1 ∧ bur A (F y) = 1 then snN A (a_gt A) kd (a_hm A w) (wy A (opn A) (F y)) (2 ^ pid A (opn A) (F y)) else 0)) τ1 ?_ ?_
    · intro K
      rw [jj_eq]
      rcases (show bur A (F y) = 0 ∨ bur A (F y) = 1 by have := bur_le A (F y); omega) with z | z
      · rw [z, if_pos (by decide), if_neg (by omega)]
        rfl
      · obtain ⟨x1, x2⟩ := b2 z
        rw [z, if_neg (by decide)]
        rcases (show lb A w kd = 0 ∨ lb A w kd = 1 by omega) with l | l
        · rw [l, if_pos (by decide), if_neg (by omega)]
          rfl
        · have hpid := bur_pid hW (hF y hy) z
          rw [l, if_neg (by decide), of_h hP1 hW hw, jbd_eq, jldL_ (by omega) (by omega), h6', sees_r hP1 hW hk.1 hk.2 hww.2.2.2.1 hgt (wy_lt hW (hF y hy)) (by omega) x1 x2, jbd_eq, if_pos ⟨rfl, rfl⟩]
    · have ev : (nI (if lb A w kd = 1 then wS A w kd F y else a_sw A w) ||| nI (if lb A w kd = 1 ∧ bur A (F y) = 1 then snN A (a_gt A) kd (a_hm A w) (wy A (opn A) (F y)) (2 ^ pid A (opn A) (F y)) else 0)) = nI (if lb A w kd = 1 then wS A w kd F (y + 1) else a_sw A w) := by
        rw [nI_or, eS]
        by_cases l : lb A w kd = 1
        · rw [if_pos l, if_pos l]
          by_cases z : bur A (F y) = 1
          · rw [if_pos ⟨l, z⟩, if_pos z]
          · rw [if_neg (fun q => z q.2), if_neg z]
        · rw [if_neg l, if_neg l, if_neg (fun q => l q.1), Nat.or_zero]
      rw [ev, jlet_eq, eO]
      rcases (show wOk A w kd F I y = 0 ∨ wOk A w kd F I y = 1 by omega) with o | o
      · rw [o, if_pos (by decide), if_pos rfl, nI_1]
        rfl
      · rw [o, if_neg (show ¬ nI 1 = 0 by decide), if_neg (show ¬ (1 : Nat) = 0 by omega)]
        refine jj_use (nI (if lb A w kd = 1 then wS A w kd F (y + 1) else 0)) τ1 ?_ ?_
        · intro K
          rcases (show lb A w kd = 0 ∨ lb A w kd = 1 by omega) with l | l
          · rw [l, if_pos (by decide), if_neg (by omega)]
            rfl
          · rw [l, if_neg (show ¬ nI 1 = 0 by decide), if_pos (show 1 = 1 from rfl), if_pos (show 1 = 1 from rfl)]
        · rw [nI_1, nI_1, jld_eq (by omega) (by omega), (h2.trans b3).1 92 _ (by unfold frW; omega), eI y hy]
          by_cases c : nI (if lb A w kd = 1 then wS A w kd F (y + 1) else 0) = I y
          · rw [if_neg (fun q => q c), if_pos c]
            rfl
          · rw [if_pos c, if_neg c]
            rfl
  · rintro s τ ⟨rfl, h2⟩
    refine ⟨(nI (wOk A w kd F I n), τ), ⟨rfl, h2⟩, fun rec => ?_⟩
    show X12_who_L176_b (nI w) (nI r) (nI i0) (nI n) x (nI kd) (nI (lb A w kd)) rec (nI (if lb A w kd = 1 then wS A w kd F n else a_sw A w)) (nI (wOk A w kd F I n)) (nI n) τ = _
    unfold X12_who_L176_b
    rw [if_pos (nI_le (Nat.le_refl _) (by omega))]
theorem whoO_r {σ : jMem} {A : aP} {w r i0 n : Nat} {F : Nat → Nat} {I : Nat → Int32} (hP : PR σ 93 0 A) (hW : WF A) (hw : w < a_nw A) (hr : r < 8) (hi : i0 + 2 * n ≤ 40) (hF : ∀ y, y < n → F y < 8) (eF : ∀ y, y < n → σ.1 92 (40 * r + i0 + 2 * y) = nI (F y)) (eI : ∀ y, y < n → σ.1 92 (40 * r + i0 + 2 * y + 1) = I y) : ∃ σ', X12_who_L133 (nI w) (nI r) (nI i0) (nI n) jFU ((0 : Int32), (1 : Int32)) σ = some (nI (wM A w F I (fun _ => n) 6), σ') ∧ FR frW σ σ' := by
  have hb := hW.b
  have hww := hW.2.2.2 w hw
  have w1 : wM A w F I (fun _ => n) (0 + 1) = 0 := by
    show 0 ||| (if 1 ≤ 0 ∧ wOk A w 0 F I n = 1 then 2 ^ 0 else 0) = 0
    rw [if_neg (fun q => by have := q.1; omega)]
    rfl
  have H := jloop_inv (body := fun rec s σ => X12_who_L133_b (nI w) (nI r) (nI i0) (nI n) rec s.1 s.2 σ) (fun i s τ => s = (nI (wM A w F I (fun _ => n) (i + 1)), nI (i + 1)) ∧ FR frW σ τ) (fun q => q.1 = nI (wM A w F I (fun _ => n) 6) ∧ FR frW σ q.2) 5 ?_ ?_ ((0 : Int32), (1 : Int32)) σ ⟨by rw [w1]; rfl, FR.refl σ⟩ jFU (by unfold jFU; omega)
  · obtain ⟨⟨q, ρ⟩, ⟨h1, h2⟩, h3⟩ := H
    exact ⟨ρ, by rw [← h1]; exact h3, h2⟩
  · rintro i s τ hi5 ⟨rfl, h2⟩
    have hPt := hP.offF hW h2 (fun j => by unfold frW; omega)
    obtain ⟨τ1, b1, b2⟩ := whoI_r (F := F) (I := I) (kd := i + 1) (nI (wM A w F I (fun _ => n) (i + 1))) hPt hW hw hr (by omega) hi hF (fun y hy => by rw [h2.1 92 _ (by unfold frW; omega)]; exact eF y hy) (fun y hy => by rw [h2.1 92 _ (by unfold frW; omega)]; exact eI y hy)
    have eM : wM A w F I (fun _ => n) (i + 1 + 1) = wM A w F I (fun _ => n) (i + 1) ||| (if 1 ≤ i + 1 ∧ wOk A w (i + 1) F I n = 1 then 2 ^ (i + 1) else 0) := rfl
    have hO := wOk_le A w (i + 1) F I n
    refine ⟨(nI (wM A w F I (fun _ => n) (i + 1 + 1)), nI (i + 1 + 1)), τ1, ⟨rfl, h2.trans b2⟩, fun rec => ?_⟩
    show X12_who_L133_b (nI w) (nI r) (nI i0) (nI n) rec (nI (wM A w F I (fun _ => n) (i + 1))) (nI (i + 1)) τ = _
    unfold X12_who_L133_b
    have el := livesBy_r hPt hW (kd := i + 1) (ag := a_ag A w) (by omega) hww.2.2.1
    change f_X12_livesBy 93 (nI (i + 1)) (nI (a_ag A w)) τ = some (nI (lb A w (i + 1)), τ) at el
    rw [if_neg (Llt_ (by omega) (by omega)), of_s hPt hW hw, jbd_eq, of_a hPt hW hw, jbd_eq, el, jbd_eq, b1, jbd_eq, eM, nI_1]
    rcases (show wOk A w (i + 1) F I n = 0 ∨ wOk A w (i + 1) F I n = 1 by omega) with o | o
    · rw [o, if_pos (by decide), if_neg (by omega), show (0 : Int32) = nI 0 from rfl, nI_or, jlet_eq]
    · rw [o, if_neg (by decide), if_pos ⟨by omega, rfl⟩, nI_one_shl (by omega), nI_or, jlet_eq]
  · rintro s τ ⟨rfl, h2⟩
    refine ⟨(nI (wM A w F I (fun _ => n) 6), τ), ⟨rfl, h2⟩, fun rec => ?_⟩
    show X12_who_L133_b (nI w) (nI r) (nI i0) (nI n) rec (nI (wM A w F I (fun _ => n) 6)) (nI 6) τ = _
    unfold X12_who_L133_b
    rw [if_pos (by decide)]
/-- are all of them fields -/
def isF (a : Int32) : Prop := 0 ≤ a.toInt ∧ a.toInt ≤ 7
theorem whoC_c {σ : jMem} {r i0 n : Nat} {T : Nat → Int32} (x : Int32) (hr : r < 8) (hi : i0 + 2 * n ≤ 40) (eT : ∀ y, y < n → σ.1 (3 + r) (i0 + 2 * y) = T y) : ((∀ y, y < n → isF (T y)) ∧ X11_who_L63 x (nI r) (nI i0) (nI n) jFU (0 : Int32) σ = some (.inl ((), σ))) ∨ ((¬ ∀ y, y < n → isF (T y)) ∧ X11_who_L63 x (nI r) (nI i0) (nI n) jFU (0 : Int32) σ = some (.inr ((-1000001 : Int32), σ))) := by
  have H := jloop_ex (body := fun rec s σ => X11_who_L63_b x (nI r) (nI i0) (nI n) rec s σ) (fun y s τ => s = nI y ∧ τ = σ ∧ ∀ z, z < y → isF (T z)) (fun q => ((∀ y, y < n → isF (T y)) ∧ q = .inl ((), σ)) ∨ ((¬ ∀ y, y < n → isF (T y)) ∧ q = .inr ((-1000001 : Int32), σ))) n ?_ ?_ (0 : Int32) σ ⟨rfl, rfl, fun z hz => by omega⟩ jFU (by unfold jFU; omega)
  · obtain ⟨q, h1, h2⟩ := H
    rcases h1 with ⟨h1, rfl⟩ | ⟨h1, rfl⟩
    · exact Or.inl ⟨h1, h2⟩
    · exact Or.inr ⟨h1, h2⟩
  · rintro y s τ hy ⟨rfl, rfl, h3⟩
    have eb : ∀ rec, X11_who_L63_b x (nI r) (nI i0) (nI n) rec (nI y) τ = if 0 ≤ (T y).toInt ∧ (T y).toInt ≤ 7 then rec (nI (y + 1)) τ else some (.inr ((-1000001 : Int32), τ)) := by
      intro rec
      unfold X11_who_L63_b
      rw [if_neg (nle_ (by omega) (by omega)), jldr_eq (by omega) (by omega), nI_Lmul, nI_add, Nat.one_mul, jld_eq (by omega) (by omega), eT y hy, isField_c, jbd_eq, nI_1]
      by_cases c : 0 ≤ (T y).toInt ∧ (T y).toInt ≤ 7
      · rw [if_pos c, if_pos (by decide), if_pos c]
      · rw [if_neg c, if_neg (by decide), if_neg c]
    by_cases c : isF (T y)
    · left
      refine ⟨nI (y + 1), τ, ⟨rfl, rfl, fun z hz => ?_⟩, fun rec => ?_⟩
      · by_cases q : z = y
        · rw [q]
          exact c
        · exact h3 z (by omega)
      · exact (eb rec).trans (if_pos c)
    · right
      exact ⟨_, Or.inr ⟨fun h => c (h y hy), rfl⟩, fun rec => (eb rec).trans (if_neg c)⟩
  · rintro s τ ⟨rfl, rfl, h3⟩
    refine ⟨_, Or.inl ⟨h3, rfl⟩, fun rec => ?_⟩
    show X11_who_L63_b x (nI r) (nI i0) (nI n) rec (nI n) τ = _
    unfold X11_who_L63_b
    rw [if_pos (nI_le (Nat.le_refl _) (by omega))]
theorem whoC_r {σ : jMem} {r i0 n : Nat} {T : Nat → Int32} (x : Int32) (hr : r < 8) (hi : i0 + 2 * n ≤ 40) (eT : ∀ y, y < n → σ.1 92 (40 * r + i0 + 2 * y) = T y) : ((∀ y, y < n → isF (T y)) ∧ X12_who_L83 x (nI r) (nI i0) (nI n) jFU (0 : Int32) σ = some (.inl ((), σ))) ∨ ((¬ ∀ y, y < n → isF (T y)) ∧ X12_who_L83 x (nI r) (nI i0) (nI n) jFU (0 : Int32) σ = some (.inr ((-1000001 : Int32), σ))) := by
  have H := jloop_ex (body := fun rec s σ => X12_who_L83_b x (nI r) (nI i0) (nI n) rec s σ) (fun y s τ => s = nI y ∧ τ = σ ∧ ∀ z, z < y → isF (T z)) (fun q => ((∀ y, y < n → isF (T y)) ∧ q = .inl ((), σ)) ∨ ((¬ ∀ y, y < n → isF (T y)) ∧ q = .inr ((-1000001 : Int32), σ))) n ?_ ?_ (0 : Int32) σ ⟨rfl, rfl, fun z hz => by omega⟩ jFU (by unfold jFU; omega)
  · obtain ⟨q, h1, h2⟩ := H
    rcases h1 with ⟨h1, rfl⟩ | ⟨h1, rfl⟩
    · exact Or.inl ⟨h1, h2⟩
    · exact Or.inr ⟨h1, h2⟩
  · rintro y s τ hy ⟨rfl, rfl, h3⟩
    have eb : ∀ rec, X12_who_L83_b x (nI r) (nI i0) (nI n) rec (nI y) τ = if 0 ≤ (T y).toInt ∧ (T y).toInt ≤ 7 then rec (nI (y + 1)) τ else some (.inr ((-1000001 : Int32), τ)) := by
      intro rec
      unfold X12_who_L83_b
      rw [if_neg (nle_ (by omega) (by omega)), nI_Lmul, nI_add, nI_Lmul, nI_add, jld_eq (by omega) (by omega), eT y hy, isField_r, jbd_eq, nI_1]
      by_cases c : 0 ≤ (T y).toInt ∧ (T y).toInt ≤ 7
      · rw [if_pos c, if_pos (by decide), if_pos c]
      · rw [if_neg c, if_neg (by decide), if_neg c]
    by_cases c : isF (T y)
    · left
      refine ⟨nI (y + 1), τ, ⟨rfl, rfl, fun z hz => ?_⟩, fun rec => ?_⟩
      · by_cases q : z = y
        · rw [q]
          exact c
        · exact h3 z (by omega)
      · exact (eb rec).trans (if_pos c)
    · right
      exact ⟨_, Or.inr ⟨fun h => c (h y hy), rfl⟩, fun rec => (eb rec).trans (if_neg c)⟩
  · rintro s τ ⟨rfl, rfl, h3⟩
    refine ⟨_, Or.inl ⟨h3, rfl⟩, fun rec => ?_⟩
    show X12_who_L83_b x (nI r) (nI i0) (nI n) rec (nI n) τ = _
    unfold X12_who_L83_b
    rw [if_pos (nI_le (Nat.le_refl _) (by omega))]
