/-! ===== PURE: must ===== -/
theorem through_r {σ : jMem} {g a : Nat} {A : aP} (hP : PR σ 93 0 A) (hW : WF A) (ha : a < 8) : ∃ σ', f_X12_comesThrough (nI g) (nI a) σ = some (nI (if dst A (andn (2 ^ a_np A - 1) g) a = INF then 0 else 1), σ') ∧ FR (fun c _ => c = 98) σ σ' := by
  have hI := INF_v
  have hop : andn (2 ^ a_np A - 1) g < 4096 := np_lt hW (andn_lt (by have := Nat.two_pow_pos (a_np A); omega))
  obtain ⟨σ1, m1, m2, m3⟩ := layFars_r hP hW hop
  refine ⟨σ1, ?_, m3⟩
  unfold f_X12_comesThrough
  rw [allP_r hP hW, jbd_eq, nI_andn, m1, jbv_eq, jld_eq (by omega) (by omega), m2 a ha]
  by_cases c : dst A (andn (2 ^ a_np A - 1) g) a = INF
  · rw [c, rF_i, if_pos rfl, if_pos rfl]
    rfl
  · have q1 : dst A (andn (2 ^ a_np A - 1) g) a ≤ 1728 := by rcases dst_fn (andn (2 ^ a_np A - 1) g) hW a with q | q <;> omega
    rw [rF_n (by omega), if_neg (nI_ne_inf (by omega)), if_neg c]
    rfl
theorem andn_andn (f g x : Nat) : andn (andn f g) x = andn f (g ||| x) := by
  apply Nat.eq_of_testBit_eq
  intro i
  rw [andn_test, andn_test, andn_test, Nat.testBit_or]
  cases f.testBit i <;> cases g.testBit i <;> cases x.testBit i <;> rfl
theorem bt1_1 {s i : Nat} : bt1 s i = 1 ↔ s.testBit i = true := by
  rw [bt1_test]
  simp
theorem dst_step {A : aP} {op i v u : Nat} (hW : WF A) (he : edg A op i v u) (hv : v < 8) (hu : u < 8) (h : dst A op u < INF) : dst A op v < INF := by
  have hI := INF_v
  have h1 := dst_fix op hW he hv hu
  have hl := (hW.2.1 i he.1).2.2.2.2
  have h2 : dst A op u ≤ 1728 := by rcases dst_fn op hW u with q | q <;> omega
  omega
theorem wk_bit {A : aP} {op a k i : Nat} (h : (wk A op a k).2.testBit i = true) : ∀ m, (wk A op a (k + m)).2.testBit i = true
  | 0 => h
  | m + 1 => by
    have h1 := wk_bit h m
    show (if (wk A op a (k + m)).1 = a_ch A then wk A op a (k + m) else (nxt A op (wk A op a (k + m)).1, (wk A op a (k + m)).2 ||| 2 ^ pid A op (wk A op a (k + m)).1)).2.testBit i = true
    split
    · exact h1
    · show ((wk A op a (k + m)).2 ||| 2 ^ pid A op (wk A op a (k + m)).1).testBit i = true
      rw [Nat.testBit_or, h1]
      rfl
theorem off_way {A : aP} {op a i : Nat} (hW : WF A) (ha : a < 8) (hf : dst A op a < INF) (hi : (wy A op a).testBit i = false) : dst A (andn op (2 ^ i)) a < INF := by
  have hI := INF_v
  have hwy : wy A op a = (wk A op a 7).2 := by
    unfold wy
    rw [if_neg (by omega)]
  have key : ∀ m, m ≤ 7 → dst A (andn op (2 ^ i)) (wk A op a (7 - m)).1 < INF := by
    intro m
    induction m with
    | zero =>
      intro _
      rw [Nat.sub_zero, wk_7 hW ha hf, dst_ch]
      omega
    | succ m ih =>
      intro hm
      have ih := ih (by omega)
      obtain ⟨w1, w2, w3, w4⟩ := wk_ok hW ha hf (7 - (m + 1))
      by_cases c : (wk A op a (7 - (m + 1))).1 = a_ch A
      · rw [c, dst_ch]
        omega
      · obtain ⟨n1, n2, n3, n4⟩ := nxt_ok hW w1 c w2
        have es := wk_s c
        rw [show 7 - (m + 1) + 1 = 7 - m by omega] at es
        have hb : (wk A op a (7 - m)).2.testBit (pid A op (wk A op a (7 - (m + 1))).1) = true := by
          rw [es]
          show ((wk A op a (7 - (m + 1))).2 ||| 2 ^ pid A op (wk A op a (7 - (m + 1))).1).testBit _ = true
          rw [Nat.testBit_or, p2_test]
          simp
        have hb7 := wk_bit hb m
        rw [show 7 - m + m = 7 by omega, ← hwy] at hb7
        have hne : i ≠ pid A op (wk A op a (7 - (m + 1))).1 := by
          intro q
          rw [← q, hi] at hb7
          exact absurd hb7 (by decide)
        have e1 : (wk A op a (7 - m)).1 = nxt A op (wk A op a (7 - (m + 1))).1 := by rw [es]
        rw [e1] at ih
        refine dst_step (i := pid A op (wk A op a (7 - (m + 1))).1) hW ⟨n3.1, ?_, n3.2.2⟩ w1 n1 ih
        rw [bt1_1, andn_test, p2_test, bt1_1.mp n3.2.1, decide_eq_false hne]
        rfl
  have := key 7 (Nat.le_refl 7)
  rwa [Nat.sub_self] at this
theorem wy_op {A : aP} {op a i : Nat} (hW : WF A) (ha : a < 8) (h : (wy A op a).testBit i = true) : op.testBit i = true := by
  have hI := INF_v
  by_cases c : dst A op a = INF
  · unfold wy at h
    rw [if_pos c] at h
    simp at h
  · have hinf := dst_inf A op a
    have hf : dst A op a < INF := by omega
    have hwy : wy A op a = (wk A op a 7).2 := by
      unfold wy
      rw [if_neg c]
    rw [hwy] at h
    have key : ∀ k, (wk A op a k).2.testBit i = true → op.testBit i = true := by
      intro k
      induction k with
      | zero =>
        intro q
        change (0 : Nat).testBit i = true at q
        simp at q
      | succ k ih =>
        intro q
        obtain ⟨w1, w2, w3, w4⟩ := wk_ok hW ha hf k
        by_cases c2 : (wk A op a k).1 = a_ch A
        · have e : wk A op a (k + 1) = wk A op a k := if_pos c2
          rw [e] at q
          exact ih q
        · rw [wk_s c2] at q
          change ((wk A op a k).2 ||| 2 ^ pid A op (wk A op a k).1).testBit i = true at q
          rw [Nat.testBit_or, p2_test, Bool.or_eq_true] at q
          rcases q with q | q
          · exact ih q
          · obtain ⟨n1, n2, n3, n4⟩ := nxt_ok hW w1 c2 w2
            have : pid A op (wk A op a k).1 = i := by simpa using q
            rw [← this]
            exact bt1_1.mp n3.2.1
    exact key 7 h
/-- the paths that a burial at a must take -/
def mstG (A : aP) (a i : Nat) : Nat := if bt1 (wy A (opn A) a) i = 1 ∧ dst A (andn (opn A) (2 ^ i)) a = INF then 2 ^ i else 0
theorem mustL_c {σ : jMem} {A : aP} {a : Nat} (hP : PC σ 22 A) (hW : WF A) (ha : a < 8) : ∃ σ', X11_must_L63 (nI a) (nI (opn A)) (nI (wy A (opn A) a)) jFU ((0 : Int32), (0 : Int32)) σ = some (nI (orN (mstG A a) (a_np A)), σ') ∧ FR frC σ σ' := by
  have hb := hW.b
  have hwl := np_lt hW (wy_lt (op := opn A) hW ha)
  have H := jloop_inv (body := fun rec s σ => X11_must_L63_b (nI a) (nI (opn A)) (nI (wy A (opn A) a)) rec s.1 s.2 σ) (fun i s τ => s = (nI (orN (mstG A a) i), nI i) ∧ FR frC σ τ) (fun r => r.1 = nI (orN (mstG A a) (a_np A)) ∧ FR frC σ r.2) (a_np A) ?_ ?_ ((0 : Int32), (0 : Int32)) σ ⟨rfl, FR.refl σ⟩ jFU (by unfold jFU; omega)
  · obtain ⟨⟨r, ρ⟩, ⟨h1, h2⟩, h3⟩ := H
    exact ⟨ρ, by rw [← h1]; exact h3, h2⟩
  · rintro i s τ hi ⟨rfl, h2⟩
    have hPt := hP.offF h2 (fun c j q1 q2 => by unfold frC; omega)
    have es : orN (mstG A a) (i + 1) = orN (mstG A a) i ||| mstG A a i := rfl
    have hle := bt1_le (wy A (opn A) a) i
    by_cases c : bt1 (wy A (opn A) a) i = 1
    · obtain ⟨τ1, b1, _, _, _, _, b6⟩ := carry_c (op := andn (opn A) (2 ^ i)) hPt hW (by omega) (np_lt hW (andn_lt (opn_lt A))) ha
      refine ⟨(nI (orN (mstG A a) (i + 1)), nI (i + 1)), τ1, ⟨rfl, h2.trans b6⟩, fun rec => ?_⟩
      show X11_must_L63_b (nI a) (nI (opn A)) (nI (wy A (opn A) a)) rec (nI (orN (mstG A a) i)) (nI i) τ = _
      unfold X11_must_L63_b
      rw [hPt.1.2.2.2.2.1, if_neg (nle_ (by omega) (by omega)), bitOf_spec (by omega) (by omega), jbd_eq, c, if_neg (by decide), nI_one_shl (by omega), nI_andn, b1, jbd_eq, nI_1, es]
      unfold mstG
      by_cases c2 : dst A (andn (opn A) (2 ^ i)) a = INF
      · rw [if_pos c2, if_neg (fun q => q rfl), jlet_eq, nI_or, if_pos ⟨c, c2⟩]
      · rw [if_neg c2, if_pos (by decide), if_neg (fun q => c2 q.2), Nat.or_zero]
    · refine ⟨(nI (orN (mstG A a) (i + 1)), nI (i + 1)), τ, ⟨rfl, h2⟩, fun rec => ?_⟩
      show X11_must_L63_b (nI a) (nI (opn A)) (nI (wy A (opn A) a)) rec (nI (orN (mstG A a) i)) (nI i) τ = _
      unfold X11_must_L63_b
      rw [hPt.1.2.2.2.2.1, if_neg (nle_ (by omega) (by omega)), bitOf_spec (by omega) (by omega), jbd_eq, show bt1 (wy A (opn A) a) i = 0 by omega, if_pos (by decide), nI_1, es]
      unfold mstG
      rw [if_neg (fun q => c q.1), Nat.or_zero]
  · rintro s τ ⟨rfl, h2⟩
    have hPt := hP.offF h2 (fun c j q1 q2 => by unfold frC; omega)
    refine ⟨(nI (orN (mstG A a) (a_np A)), τ), ⟨rfl, h2⟩, fun rec => ?_⟩
    show X11_must_L63_b (nI a) (nI (opn A)) (nI (wy A (opn A) a)) rec (nI (orN (mstG A a) (a_np A))) (nI (a_np A)) τ = _
    unfold X11_must_L63_b
    rw [hPt.1.2.2.2.2.1, if_pos (nI_le (Nat.le_refl _) (by omega))]
theorem mustL_r {σ : jMem} {A : aP} {a : Nat} (hP : PR σ 93 0 A) (hW : WF A) (ha : a < 8) (hbr : bur A a = 1) : ∃ σ', X12_must__L44 (nI a) (1 : Int32) jFU ((0 : Int32), (0 : Int32)) σ = some (nI (orN (mstG A a) (a_np A)), σ') ∧ FR frT σ σ' := by
  have hb := hW.b
  have hgl := np_lt hW hW.1.2.2.2.2.2.2
  have hfin : dst A (opn A) a < INF := by
    have h1 := dst_inf A (opn A) a
    have h2 : dst A (opn A) a ≠ INF := by
      intro q
      unfold bur at hbr
      rw [if_pos (Or.inl q)] at hbr
      omega
    omega
  have H := jloop_inv (body := fun rec s σ => X12_must__L44_b (nI a) (1 : Int32) rec s.1 s.2 σ) (fun i s τ => s = (nI (orN (mstG A a) i), nI i) ∧ FR frT σ τ) (fun r => r.1 = nI (orN (mstG A a) (a_np A)) ∧ FR frT σ r.2) (a_np A) ?_ ?_ ((0 : Int32), (0 : Int32)) σ ⟨rfl, FR.refl σ⟩ jFU (by unfold jFU; omega)
  · obtain ⟨⟨r, ρ⟩, ⟨h1, h2⟩, h3⟩ := H
    exact ⟨ρ, by rw [← h1]; exact h3, h2⟩
  · rintro i s τ hi ⟨rfl, h2⟩
    have hPt := hP.offF hW h2 (fun j => by unfold frT; omega)
    have es : orN (mstG A a) (i + 1) = orN (mstG A a) i ||| mstG A a i := rfl
    have hle := bt1_le (a_gt A) i
    have h93 : τ.1 93 3 = nI (a_np A) := (hPt.f (o := 0)).2.2.2.1
    have h96 : τ.1 93 6 = nI (a_gt A) := (hPt.f (o := 0)).2.2.2.2.2.2
    by_cases c : bt1 (a_gt A) i = 1
    · refine ⟨(nI (orN (mstG A a) (i + 1)), nI (i + 1)), τ, ⟨rfl, h2⟩, fun rec => ?_⟩
      show X12_must__L44_b (nI a) (1 : Int32) rec (nI (orN (mstG A a) i)) (nI i) τ = _
      unfold X12_must__L44_b
      rw [jldL_ (by omega) (by omega), h93, if_neg (nle_ (by omega) (by omega)), if_neg (by decide), jldL_ (by omega) (by omega), h96, has_bit (by omega) (by omega), jbd_eq, c, if_pos (by decide), jlet_eq, show (0 : Int32) = nI 0 from rfl, nI_or, nI_1, es]
      unfold mstG
      rw [if_neg]
      rintro ⟨q, _⟩
      have h3 := wy_op hW ha (bt1_1.mp q)
      unfold opn at h3
      rw [andn_test, bt1_1.mp c] at h3
      simp at h3
    · obtain ⟨τ1, b1, b2⟩ := through_r (g := a_gt A ||| 2 ^ i) hPt hW ha
      rw [← andn_andn] at b1
      change _ = some (nI (if dst A (andn (opn A) (2 ^ i)) a = INF then 0 else 1), τ1) at b1
      refine ⟨(nI (orN (mstG A a) (i + 1)), nI (i + 1)), τ1, ⟨rfl, h2.trans (b2.mono (fun c j q => by unfold frT; omega))⟩, fun rec => ?_⟩
      show X12_must__L44_b (nI a) (1 : Int32) rec (nI (orN (mstG A a) i)) (nI i) τ = _
      unfold X12_must__L44_b
      rw [jldL_ (by omega) (by omega), h93, if_neg (nle_ (by omega) (by omega)), if_neg (by decide), jldL_ (by omega) (by omega), h96, has_bit (by omega) (by omega), jbd_eq, show bt1 (a_gt A) i = 0 by omega, if_neg (by decide), jldL_ (by omega) (by omega), h96, nI_one_shl (by omega), nI_or, b1, jbd_eq, nI_1, es]
      unfold mstG
      by_cases c2 : dst A (andn (opn A) (2 ^ i)) a = INF
      · have hw1 : bt1 (wy A (opn A) a) i = 1 := by
          rw [bt1_1]
          cases q : (wy A (opn A) a).testBit i
          · have := off_way hW ha hfin q
            omega
          · rfl
        rw [if_pos c2, if_neg (fun q => q rfl), jlet_eq, nI_or, if_pos ⟨hw1, c2⟩]
      · rw [if_neg c2, if_pos (by decide), if_neg (fun q => c2 q.2), jlet_eq, show (0 : Int32) = nI 0 from rfl, nI_or]
  · rintro s τ ⟨rfl, h2⟩
    have hPt := hP.offF hW h2 (fun j => by unfold frT; omega)
    have h93 : τ.1 93 3 = nI (a_np A) := (hPt.f (o := 0)).2.2.2.1
    refine ⟨(nI (orN (mstG A a) (a_np A)), τ), ⟨rfl, h2⟩, fun rec => ?_⟩
    show X12_must__L44_b (nI a) (1 : Int32) rec (nI (orN (mstG A a) (a_np A))) (nI (a_np A)) τ = _
    unfold X12_must__L44_b
    rw [jldL_ (by omega) (by omega), h93, if_pos (nI_le (Nat.le_refl _) (by omega))]
theorem sim_must_ok : sim_must Inv := by
  rintro σ a1 ⟨A, h⟩
  have hb := h.W.b
  have h' := h.t0
  have t1 := h.W.1.1
  have hI := INF_v
  rcases (show a_th A = 0 ∨ a_th A = 1 by omega) with t | t
  · refine ⟨-1000002, σ, jset σ 89 0 0, ?_, ?_, h.bad⟩
    · unfold f_X11_must
      rw [h.C.1.1, t, if_neg (by decide)]
    · unfold f_X12_must_
      rw [jlet_eq, there_r h'.R h.W, t]
      rfl
  · have ec : ¬ σ.1 22 1 = 0 := by rw [h.C.1.1, t]; decide
    by_cases hf : 0 ≤ a1.toInt ∧ a1.toInt ≤ 7
    · have hf' := hf
      obtain ⟨v, hv, rfl⟩ := field_in hf
      obtain ⟨σ1, b1, b2, b3, b4, b5, b6⟩ := carry_c (op := opn A) h.C h.W (by omega) (np_lt h.W (opn_lt A)) hv
      have hP1 := h.C.offF b6 (fun c j q1 q2 => by omega)
      rcases (show bur A v = 0 ∨ bur A v = 1 by have := bur_le A v; omega) with z | z
      · -- nothing to take
        have e1 : ∃ σ2, f_X11_must (nI v) σ = some (0, σ2) ∧ FR frC σ σ2 := by
          by_cases ci : dst A (opn A) v = INF
          · refine ⟨σ1, ?_, b6⟩
            unfold f_X11_must
            rw [if_pos ec, isField_c, if_pos hf', jbd_eq, if_pos (by decide), open_c h.C h.W, jbd_eq]
            show jbd (f_X2_carry 22 (nI (opn A)) (nI v) σ) _ = _
            rw [b1, jbd_eq, if_pos ci]
            rfl
          · obtain ⟨σ2, m1, m2⟩ := mustL_c hP1 h.W hv
            have hvc : v = a_ch A := by
              refine Classical.byContradiction (fun q => ?_)
              unfold bur at z
              rw [if_neg (by rintro (q1 | q1); exact ci q1; exact q q1)] at z
              omega
            have w0 : wy A (opn A) v = 0 := by
              have hinf := dst_inf A (opn A) v
              have hs : wk A (opn A) v (0 + 7) = wk A (opn A) v 0 := wk_stop (show (wk A (opn A) v 0).1 = a_ch A from hvc) 7
              unfold wy
              rw [if_neg ci]
              rw [Nat.zero_add] at hs
              rw [hs]
              rfl
            have e0 : orN (mstG A v) (a_np A) = 0 := by
              have : orN (mstG A v) (a_np A) = orN (fun _ => 0) (a_np A) := orN_congr (fun i _ => by
                unfold mstG
                rw [w0, if_neg]
                rintro ⟨q, _⟩
                rw [bt1_1] at q
                simp at q)
              rw [this]
              apply Nat.eq_of_testBit_eq
              intro i
              cases q : (orN (fun _ => 0) (a_np A)).testBit i
              · simp
              · rw [orN_test] at q
                obtain ⟨j, _, q2⟩ := q
                simp at q2
            refine ⟨σ2, ?_, b6.trans m2⟩
            unfold f_X11_must
            rw [if_pos ec, isField_c, if_pos hf', jbd_eq, if_pos (by decide), open_c h.C h.W, jbd_eq]
            show jbd (f_X2_carry 22 (nI (opn A)) (nI v) σ) _ = _
            rw [b1, jbd_eq, if_neg ci, if_pos (by decide), jlet_eq, b3]
            show jbd (X11_must_L63 (nI v) (nI (opn A)) (nI (wy A (opn A) v)) jFU ((0 : Int32), (0 : Int32)) σ1) _ = _
            rw [m1, jbd_eq, e0]
            rfl
        obtain ⟨σ2, e1, f1⟩ := e1
        have s1 := frC_scr f1
        have hR1 := h.seqC s1
        have er1 := there_r hR1 h.W
        rw [t] at er1
        obtain ⟨σ3, r1, r2, r3⟩ := isBur_r hR1 h.W hv
        have hR3 := hR1.offF h.W r3 (fun j => by unfold frW; omega)
        have h93 : σ3.1 93 3 = nI (a_np A) := (hR3.f (o := 0)).2.2.2.1
        refine ⟨0, σ2, σ3, e1, ?_, A, h.congr ((s1.set scr0).trans (frW_scr r3))⟩
        unfold f_X12_must_
        rw [jlet_eq, er1, jbd_eq, if_pos (by decide), isField_r, if_pos hf', jbd_eq, if_pos (by decide), jldL_ (by omega) (by omega), (hR1.f (o := 0)).2.2.2.2.2.2, r1, z, jbd_eq]
        have : X12_must__L44 (nI v) (nI 0) jFU ((0 : Int32), (0 : Int32)) σ3 = some (0, σ3) := by
          show X12_must__L44_b (nI v) (nI 0) (X12_must__L44 (nI v) (nI 0) (jFU - 1)) 0 0 σ3 = _
          unfold X12_must__L44_b
          rw [jldL_ (by omega) (by omega), if_pos (show nI 0 = 0 from rfl)]
          exact ite_self _
        rw [this]
        rfl
      · have ci : ¬ dst A (opn A) v = INF := by
          intro q
          unfold bur at z
          rw [if_pos (Or.inl q)] at z
          omega
        obtain ⟨σ2, m1, m2⟩ := mustL_c hP1 h.W hv
        have f1 : FR frC σ σ2 := b6.trans m2
        have e1 : f_X11_must (nI v) σ = some (nI (orN (mstG A v) (a_np A)), σ2) := by
          unfold f_X11_must
          rw [if_pos ec, isField_c, if_pos hf', jbd_eq, if_pos (by decide), open_c h.C h.W, jbd_eq]
          show jbd (f_X2_carry 22 (nI (opn A)) (nI v) σ) _ = _
          rw [b1, jbd_eq, if_neg ci, if_pos (by decide), jlet_eq, b3]
          show jbd (X11_must_L63 (nI v) (nI (opn A)) (nI (wy A (opn A) v)) jFU ((0 : Int32), (0 : Int32)) σ1) _ = _
          rw [m1]
          rfl
        have s1 := frC_scr f1
        have hR1 := h.seqC s1
        have er1 := there_r hR1 h.W
        rw [t] at er1
        obtain ⟨σ3, r1, r2, r3⟩ := isBur_r hR1 h.W hv
        have hR3 := hR1.offF h.W r3 (fun j => by unfold frW; omega)
        obtain ⟨σ4, l1, l2⟩ := mustL_r hR3 h.W hv z
        refine ⟨_, σ2, σ4, e1, ?_, A, h.congr (((s1.set scr0).trans (frW_scr r3)).trans (frT_scr l2))⟩
        unfold f_X12_must_
        rw [jlet_eq, er1, jbd_eq, if_pos (by decide), isField_r, if_pos hf', jbd_eq, if_pos (by decide), jldL_ (by omega) (by omega), (hR1.f (o := 0)).2.2.2.2.2.2, r1, z, jbd_eq]
        show jbd (X12_must__L44 (nI v) (1 : Int32) jFU ((0 : Int32), (0 : Int32)) σ3) _ = _
        rw [l1]
        rfl
    · have er := there_r h'.R h.W
      rw [t] at er
      refine ⟨-1000001, σ, jset σ 89 0 0, ?_, ?_, h.bad⟩
      · unfold f_X11_must
        rw [if_pos ec, isField_c, if_neg hf]
        rfl
      · unfold f_X12_must_
        rw [jlet_eq, er, jbd_eq, if_pos (by decide), isField_r, if_neg hf]
        rfl
