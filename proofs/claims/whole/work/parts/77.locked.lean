/-! ===== PURE: locked, the reference's way; alike ===== -/
theorem wt_le {p : Nat} (hp : p ≤ 10) (D x : Nat) : ∀ n, wt p D x n ≤ 10 ^ n
  | 0 => Nat.le_refl 1
  | n + 1 => by
    have ih := wt_le hp D x n
    show wt p D x n * (if D.testBit n = true then (if x.testBit n = true then p else 10 - p) else 1) ≤ 10 ^ n * 10
    refine Nat.mul_le_mul ih ?_
    split
    · split <;> omega
    · omega
theorem wt_r {σ : jMem} {A : aP} {p x : Nat} (u v : Int32) (y z : Int64) (hp : p ≤ 10) (hP : PR σ 93 0 A) (hW : WF A) (hx : x < 4096) : X12_locked_L100 u (nI p) v (nI (opn A)) y z (nI x) jFU ((1 : Int64), (0 : Int32)) σ = some (lN (wt p (opn A) x (a_np A)), σ) := by
  have hb := hW.b
  have hop := np_lt hW (opn_lt A)
  have h3 : σ.1 93 3 = nI (a_np A) := (hP.f (o := 0)).2.2.2.1
  refine jloop_run (body := fun rec s σ => X12_locked_L100_b u (nI p) v (nI (opn A)) y z (nI x) rec s.1 s.2 σ) (fun n => (lN (wt p (opn A) x n), nI n)) (fun _ => σ) (a_np A) _ ?_ ?_ jFU (by unfold jFU; omega)
  · intro i hi rec
    show X12_locked_L100_b u (nI p) v (nI (opn A)) y z (nI x) rec (lN (wt p (opn A) x i)) (nI i) σ = rec (lN (wt p (opn A) x (i + 1)), nI (i + 1)) σ
    have e : wt p (opn A) x (i + 1) = wt p (opn A) x i * (if (opn A).testBit i = true then (if x.testBit i = true then p else 10 - p) else 1) := rfl
    unfold X12_locked_L100_b
    rw [jldL_ (by omega) (by omega), h3, if_neg (nle_ (by omega) (by omega)), has_bit (by omega) (by omega), jbd_eq, nI_1, e]
    by_cases c : (opn A).testBit i = true
    · rw [bt1_1.mpr c, if_pos (by decide), has_bit (by omega) (by omega), jbd_eq, if_pos c]
      by_cases d : x.testBit i = true
      · rw [bt1_1.mpr d, if_neg (by decide), if_pos d, nI_l (by omega), lN_mul, jlet_eq]
      · rw [bt1_f d, if_pos (by decide), if_neg d, nI_l (by omega), show (10 : Int64) = lN 10 from rfl, lN_sub hp, lN_mul, jlet_eq]
    · rw [bt1_f c, if_neg (by decide), if_neg c, show (1 : Int64) = lN 1 from rfl, lN_mul, jlet_eq]
  · intro rec
    show X12_locked_L100_b u (nI p) v (nI (opn A)) y z (nI x) rec (lN (wt p (opn A) x (a_np A))) (nI (a_np A)) σ = _
    unfold X12_locked_L100_b
    rw [jldL_ (by omega) (by omega), h3, if_pos (nI_le (Nat.le_refl _) (by omega))]
def gW (A : aP) (p : Nat) (g : Nat → Nat) (x : Nat) : Nat := if andn x (opn A) = 0 then wt p (opn A) x (a_np A) * g x else 0
def gT (A : aP) (a x : Nat) : Nat := if dst A (andn (opn A) x) a = INF then 0 else 1
theorem cases_r {σ : jMem} {A : aP} {p a : Nat} (v : Int32) (hp : p ≤ 10) (hP : PR σ 93 0 A) (hW : WF A) (ha : a < 8) : ∃ σ', X12_locked_L75 (nI a) (nI p) v (nI (opn A)) jFU ((0 : Int64), (0 : Int64), (0 : Int32)) σ = some ((lN (smN (gW A p (gT A a)) (2 ^ a_np A)), lN (smN (gW A p (fun _ => 1)) (2 ^ a_np A))), σ') ∧ FR (fun c _ => c = 98) σ σ' := by
  have hb := hW.b
  have hop := np_lt hW (opn_lt A)
  have hgt := np_lt hW hW.1.2.2.2.2.2.2
  have h2p := Nat.two_pow_pos (a_np A)
  have hN : 2 ^ a_np A ≤ 4096 := by
    have := p2_le hb.1
    simpa using this
  have H := jloop_inv (body := fun rec s σ => X12_locked_L75_b (nI a) (nI p) v (nI (opn A)) rec s.1 s.2.1 s.2.2 σ) (fun x s τ => s = (lN (smN (gW A p (gT A a)) x), lN (smN (gW A p (fun _ => 1)) x), nI x) ∧ FR (fun c _ => c = 98) σ τ) (fun r => r.1 = (lN (smN (gW A p (gT A a)) (2 ^ a_np A)), lN (smN (gW A p (fun _ => 1)) (2 ^ a_np A))) ∧ FR (fun c _ => c = 98) σ r.2) (2 ^ a_np A) ?_ ?_ ((0 : Int64), (0 : Int64), (0 : Int32)) σ ⟨rfl, FR.refl σ⟩ jFU (by unfold jFU; omega)
  · obtain ⟨⟨r, ρ⟩, ⟨h1, h2⟩, h3⟩ := H
    exact ⟨ρ, by rw [← h1]; exact h3, h2⟩
  · rintro x s τ hx ⟨rfl, h2⟩
    have hPt := hP.offF hW h2 (fun j => by omega)
    have h6 : τ.1 93 6 = nI (a_gt A) := (hPt.f (o := 0)).2.2.2.2.2.2
    have ga : smN (gW A p (gT A a)) (x + 1) = smN (gW A p (gT A a)) x + gW A p (gT A a) x := rfl
    have gb : smN (gW A p (fun _ => 1)) (x + 1) = smN (gW A p (fun _ => 1)) x + gW A p (fun _ => 1) x := rfl
    have hal : andn x (opn A) < 4096 := andn_lt (n := 12) (by omega)
    by_cases c : andn x (opn A) = 0
    · have g1 : gW A p (gT A a) x = wt p (opn A) x (a_np A) * gT A a x := if_pos c
      have g2 : gW A p (fun _ => 1) x = wt p (opn A) x (a_np A) := (if_pos c).trans (Nat.mul_one _)
      have hwl : wt p (opn A) x (a_np A) ≤ 10 ^ 12 := Nat.le_trans (wt_le hp (opn A) x (a_np A)) (Nat.pow_le_pow_right (by omega) hb.1)
      obtain ⟨τ1, t1, t2⟩ := through_r (g := a_gt A ||| x) hPt hW ha
      have et : andn (2 ^ a_np A - 1) (a_gt A ||| x) = andn (opn A) x := (andn_andn _ _ _).symm
      rw [et] at t1
      by_cases w0 : wt p (opn A) x (a_np A) = 0
      · refine ⟨(lN (smN (gW A p (gT A a)) (x + 1)), lN (smN (gW A p (fun _ => 1)) (x + 1)), nI (x + 1)), τ, ⟨rfl, h2⟩, fun rec => ?_⟩
        show X12_locked_L75_b (nI a) (nI p) v (nI (opn A)) rec (lN (smN (gW A p (gT A a)) x)) (lN (smN (gW A p (fun _ => 1)) x)) (nI x) τ = _
        unfold X12_locked_L75_b
        rw [allP_r hPt hW, jbd_eq, if_neg (nlt_ (by omega) (by omega)), nI_andn, c, if_neg (fun q => q rfl), wt_r _ _ _ _ hp hPt hW (by omega), jbd_eq, lN_add, jlet_eq, w0, if_pos (show lg_cmp (lN 0) (0 : Int64) ≤ 0 from (q_le0 _ _).mpr (show lN 0 ≤ lN 0 from (pk_lLE (by omega) (by omega)).mpr (Nat.le_refl _))), show (0 : Int64) = lN 0 from rfl, lN_add, jlet_eq, nI_1, ga, gb, g1, g2, w0, Nat.zero_mul]
      · have hnz : ¬ lg_cmp (lN (wt p (opn A) x (a_np A))) (0 : Int64) ≤ 0 := by
          rw [q_le0]
          intro q
          have := (pk_lLE (b := 0) (by omega) (by omega)).mp q
          omega
        refine ⟨(lN (smN (gW A p (gT A a)) (x + 1)), lN (smN (gW A p (fun _ => 1)) (x + 1)), nI (x + 1)), τ1, ⟨rfl, h2.trans t2⟩, fun rec => ?_⟩
        show X12_locked_L75_b (nI a) (nI p) v (nI (opn A)) rec (lN (smN (gW A p (gT A a)) x)) (lN (smN (gW A p (fun _ => 1)) x)) (nI x) τ = _
        unfold X12_locked_L75_b
        rw [allP_r hPt hW, jbd_eq, if_neg (nlt_ (by omega) (by omega)), nI_andn, c, if_neg (fun q => q rfl), wt_r _ _ _ _ hp hPt hW (by omega), jbd_eq, lN_add, jlet_eq, if_neg hnz, jldL_ (by omega) (by omega), show τ.1 93 (OfNat.ofNat 6) = nI (a_gt A) from h6, nI_or, t1, jbd_eq, nI_1, ga, gb, g1, g2]
        by_cases d : dst A (andn (opn A) x) a = INF
        · have eg : gT A a x = 0 := if_pos d
          rw [if_pos d, if_pos (show nI 0 = 0 from rfl), show (0 : Int64) = lN 0 from rfl, lN_add, jlet_eq, eg, Nat.mul_zero]
        · have eg : gT A a x = 1 := if_neg d
          rw [if_neg d, if_neg (show ¬ nI 1 = 0 by decide), lN_add, jlet_eq, eg, Nat.mul_one]
    · have g1 : gW A p (gT A a) x = 0 := if_neg c
      have g2 : gW A p (fun _ => 1) x = 0 := if_neg c
      refine ⟨(lN (smN (gW A p (gT A a)) (x + 1)), lN (smN (gW A p (fun _ => 1)) (x + 1)), nI (x + 1)), τ, ⟨rfl, h2⟩, fun rec => ?_⟩
      show X12_locked_L75_b (nI a) (nI p) v (nI (opn A)) rec (lN (smN (gW A p (gT A a)) x)) (lN (smN (gW A p (fun _ => 1)) x)) (nI x) τ = _
      unfold X12_locked_L75_b
      rw [allP_r hPt hW, jbd_eq, if_neg (nlt_ (by omega) (by omega)), nI_andn, if_pos (neL_ c (by omega) (by omega)), nI_1, ga, gb, g1, g2]
      rfl
  · rintro s τ ⟨rfl, h2⟩
    have hPt := hP.offF hW h2 (fun j => by omega)
    refine ⟨((lN (smN (gW A p (gT A a)) (2 ^ a_np A)), lN (smN (gW A p (fun _ => 1)) (2 ^ a_np A))), τ), ⟨rfl, h2⟩, fun rec => ?_⟩
    show X12_locked_L75_b (nI a) (nI p) v (nI (opn A)) rec (lN (smN (gW A p (gT A a)) (2 ^ a_np A))) (lN (smN (gW A p (fun _ => 1)) (2 ^ a_np A))) (nI (2 ^ a_np A)) τ = _
    unfold X12_locked_L75_b
    rw [allP_r hPt hW, jbd_eq, if_pos (nI_lt (by omega) (by omega))]
theorem cnn_popc {A : aP} (hW : WF A) : popc (opn A) = wN A 255 := by
  unfold wN
  rw [eW_all hW]
  have hb := hW.b
  refine smN_gap hb.1 (fun i h1 h2 => bt1_f (fun q => ?_))
  have := opn_lt A
  have hp := p2_le h1
  rw [Nat.testBit_lt_two_pow (show opn A < 2 ^ i by omega)] at q
  exact absurd q (by decide)
theorem below_r {A : aP} {p : Nat} (hp : p ≤ 10) (hW : WF A) : smN (gW A p (fun _ => 1)) (2 ^ a_np A) = 10 ^ wN A 255 := by
  have := sS_mask p (opn A) (a_np A) (fun _ => 1)
  rw [sS_one hp] at this
  unfold wN
  rw [eW_all hW]
  exact this
theorem above_r {A : aP} {p a : Nat} (hW : WF A) (ha : a < 8) : smN (gW A p (gT A a)) (2 ^ a_np A) = smN (hY A p a) 256 := by
  have h1 := sS_mask p (opn A) (a_np A) (gT A a)
  have h2 := tm_some (p := p) (a := a) hW
  refine Eq.trans h1 (Eq.trans ?_ h2.symm)
  refine sS_congr (fun x _ => ?_)
  have h3 := cmp_dst (y := andn (opn A) x) hW ha
  unfold gT
  by_cases c : dst A (andn (opn A) x) a = INF
  · rw [if_pos c, if_neg (fun q => h3.mp q c)]
  · rw [if_neg c, if_pos (h3.mpr c)]
theorem fr98_scr {σ τ : jMem} (h : FR (fun c _ => c = 98) σ τ) : sEq σ τ := ⟨fun c j q => h.1 c j (fun z => q (by unfold scr; omega)), h.2⟩
theorem sim_locked_ok : sim_locked Inv := by
  rintro σ a1 a2 a3 ⟨A, h⟩
  have hb := h.W.b
  have h' := h.t0
  have t1 := h.W.1.1
  rcases (show a_th A = 0 ∨ a_th A = 1 by omega) with t | t
  · refine ⟨-1000002, σ, jset σ 89 0 0, ?_, ?_, h.bad⟩
    · unfold f_X11_locked
      rw [h.C.1.1, t, if_neg (by decide)]
    · unfold f_X12_locked
      rw [jlet_eq, there_r h'.R h.W, t]
      rfl
  · have ec : ¬ σ.1 22 1 = 0 := by rw [h.C.1.1, t]; decide
    have er := there_r h'.R h.W
    rw [t] at er
    have hin : ∀ τ : jMem, f_X12_in a2.toInt64 (0 : Int64) (10 : Int64) τ = some (if 0 ≤ a2.toInt ∧ a2.toInt ≤ 10 then 1 else 0, τ) := by
      intro τ
      simp only [nlitL]
      exact in_lit _ _ _ (by omega) (by omega) τ
    by_cases c1 : 0 ≤ a1.toInt ∧ a1.toInt ≤ 7
    · obtain ⟨a, ha, rfl⟩ := field_in c1
      by_cases c2 : 0 ≤ a2.toInt ∧ a2.toInt ≤ 10
      · obtain ⟨p, hp, rfl⟩ : ∃ p, p ≤ 10 ∧ a2 = nI p := by
          rcases pI_split a2 11 (by omega) with ⟨p, hp, rfl⟩ | q
          · exact ⟨p, by omega, rfl⟩
          · omega
        by_cases c3 : a3 = 0 ∨ a3 = 1
        · obtain ⟨σ1, b1, b2⟩ := through_c hp h.C h.W ha h.2.2.2.2.2.2.2
          have s1 := fr83_scr b2
          have hC1 := (h.congr s1).C
          have hT1 : RTens σ1 := (h.congr s1).2.2.2.2.2.2.2
          have hR1 := h.seqC s1
          have er1 := there_r hR1 h.W
          rw [t] at er1
          obtain ⟨σ2, d1, d2⟩ := cases_r a3 hp hR1 h.W ha
          have hop := np_lt h.W (opn_lt A)
          have l255 := wN_le h.W 255
          have hsum := hNY (A := A) hp a
          have hp12 : 10 ^ wN A 255 ≤ 10 ^ 12 := Nat.pow_le_pow_right (by omega) l255
          have hpos : 0 < 10 ^ wN A 255 := Nat.pow_pos (by omega)
          have hle : smN (hY A p a) 256 ≤ 10 ^ wN A 255 := by omega
          have e6 : (jset σ1 89 0 0).1 93 6 = nI (a_gt A) := (hR1.f (o := 0)).2.2.2.2.2.2
          rw [above_r h.W ha, below_r hp h.W] at d1
          have hg := Nat.gcd_pos_of_pos_left (smN (hY A p a) 256) hpos
          have hgl := Nat.gcd_le_left (smN (hY A p a) 256) hpos
          have hgz : ¬ lN (Nat.gcd (10 ^ wN A 255) (smN (hY A p a) 256)) = 0 := fun q => by
            have := (pk_lEQ (b := 0) (by omega) (by omega)).mp q
            omega
          refine ⟨if ¬ a3 = 0 then lN (10 ^ wN A 255) / lN (Nat.gcd (10 ^ wN A 255) (smN (hY A p a) 256)) else lN (smN (hY A p a) 256) / lN (Nat.gcd (10 ^ wN A 255) (smN (hY A p a) 256)), σ1, σ2, ?_, ?_, A, h.congr ((s1.set scr0).trans (fr98_scr d2))⟩
          · unfold f_X11_locked
            rw [if_pos ec, isField_c, if_pos c1, jbd_eq, if_neg (by decide), if_neg (ltL_ (by omega) (by omega)), if_neg (Llt_ (by omega) (by omega)), oneOf_c, if_pos c3, jbd_eq, if_pos (by decide), b1, jbd_eq, open_c hC1 h.W, jbd_eq]
            show jbd (f_J6_bitCount_0f7a4 (nI (opn A)) σ1) _ = _
            rw [bc_spec hop, jbd_eq, cnn_popc h.W, jldL_eq (by omega) (by omega), hT1 _ l255, common_c hle hpos hp12, jbd_eq]
            by_cases c0 : a3 = 0
            · rw [if_neg (fun q => q c0), jck_t hgz, if_neg (fun q => q c0)]
            · rw [if_pos c0, jck_t hgz, if_pos c0]
          · unfold f_X12_locked
            rw [jlet_eq, er1, jbd_eq, if_pos (by decide), isField_r, if_pos c1, jbd_eq, if_neg (by decide), hin, if_pos c2, jbd_eq, if_neg (by decide), oneOf_r, if_pos c3, jbd_eq, if_pos (by decide), allP_r hR1 h.W, jbd_eq, jldL_ (by omega) (by omega), show (jset σ1 89 0 0).1 93 (OfNat.ofNat 6) = nI (a_gt A) from e6, nI_andn, jlet_eq]
            show jbd (X12_locked_L75 (nI a) (nI p) a3 (nI (opn A)) jFU ((0 : Int64), (0 : Int64), (0 : Int32)) (jset σ1 89 0 0)) _ = _
            rw [d1, jbd_eq]
            dsimp only
            rw [common_r _ _ _ hle hpos hp12, jbd_eq]
            by_cases c0 : a3 = 0
            · rw [if_neg (fun q => q c0), jck_t hgz, if_neg (fun q => q c0)]
            · rw [if_pos c0, jck_t hgz, if_pos c0]
        · refine ⟨-1000001, σ, jset σ 89 0 0, ?_, ?_, h.bad⟩
          · unfold f_X11_locked
            rw [if_pos ec, isField_c, if_pos c1, jbd_eq, if_neg (by decide), if_neg (ltL_ (by omega) (by omega)), if_neg (Llt_ (by omega) (by omega)), oneOf_c, if_neg c3]
            rfl
          · unfold f_X12_locked
            rw [jlet_eq, er, jbd_eq, if_pos (by decide), isField_r, if_pos c1, jbd_eq, if_neg (by decide), hin, if_pos c2, jbd_eq, if_neg (by decide), oneOf_r, if_neg c3]
            rfl
      · refine ⟨-1000001, σ, jset σ 89 0 0, ?_, ?_, h.bad⟩
        · unfold f_X11_locked
          rw [if_pos ec, isField_c, if_pos c1, jbd_eq, if_neg (by decide)]
          by_cases q : a2 < 0
          · rw [if_pos q]
          · have h0 : (0 : Int32).toInt = 0 := rfl
            have h10 : (10 : Int32).toInt = 10 := rfl
            rw [if_neg q, if_pos]
            rw [pI_lt] at q ⊢
            omega
        · unfold f_X12_locked
          rw [jlet_eq, er, jbd_eq, if_pos (by decide), isField_r, if_pos c1, jbd_eq, if_neg (by decide), hin, if_neg c2]
          rfl
    · refine ⟨-1000001, σ, jset σ 89 0 0, ?_, ?_, h.bad⟩
      · unfold f_X11_locked
        rw [if_pos ec, isField_c, if_neg c1]
        rfl
      · unfold f_X12_locked
        rw [jlet_eq, er, jbd_eq, if_pos (by decide), isField_r, if_neg c1]
        rfl
