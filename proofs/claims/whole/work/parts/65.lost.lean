/-! ===== PURE: lost, drawn ===== -/
def lsv (A : aP) (p : Nat) : Nat → Nat → Int32
  | _, 0 => -1000000
  | i, f + 1 => if bt1 (aWays (yrA A i)) p = 0 then nI i else lsv A p (i + 1) f
theorem sim_lost_ok : sim_lost Inv := by
  rintro σ a1 ⟨A, h⟩
  have hb := h.W.b
  have h' := h.t0
  have hyr := h.2.2.1.2.1
  rcases hasPath_c h.C h.W a1 with ⟨p, hp, rfl, e⟩ | ⟨ho, e⟩
  · have hin := inN ⟨p, hp, rfl⟩ (by omega)
    have H := jloop_ex (body := fun rec s σ => X11_lost_L27_b (nI p) rec s σ) (fun i s τ => s = nI i ∧ lsv A p 0 61 = lsv A p i (61 - i) ∧ PC τ 30 (yrA A i) ∧ FR frD σ τ) (fun r => ∃ τ, FR frD σ τ ∧ ((r = .inl ((), τ) ∧ lsv A p 0 61 = -1000000) ∨ r = .inr (lsv A p 0 61, τ))) 61 ?_ ?_ (0 : Int32) (bcM σ 30 22) ⟨rfl, rfl, bcM_p h.C h.W (by omega), bcM_fr.mono (fun c j q => by unfold frD; omega)⟩ jFU (by unfold jFU; omega)
    · obtain ⟨r, ⟨σ1, k1, k2⟩, k3⟩ := H
      have e1 : f_X11_lost (nI p) σ = some (lsv A p 0 61, σ1) := by
        unfold f_X11_lost
        rw [e, jbd_eq, if_pos (by decide), become_c h.C h.W, jbv_eq, show X11_lost_L27 (nI p) jFU (0 : Int32) (bcM σ 30 22) = some r from k3]
        rcases k2 with ⟨q1, q2⟩ | q1
        · rw [q1, q2]
          rfl
        · rw [q1]
          rfl
      have s1 := frD_scr k1
      have hR1 := h.seqC s1
      obtain ⟨p1, p2⟩ := then_p hR1 h.W
      have H2 := jloop_ex (body := fun rec s σ => X12_lost_L22_b (nI p) rec s σ) (fun i s τ => s = nI i ∧ lsv A p 0 61 = lsv A p i (61 - i) ∧ PR τ 95 0 (yrA A i) ∧ FR (fun c _ => c = 95) (jset σ1 89 0 0) τ) (fun r => ∃ τ, FR (fun c _ => c = 95) (jset σ1 89 0 0) τ ∧ ((r = .inl ((), τ) ∧ lsv A p 0 61 = -1000000) ∨ r = .inr (lsv A p 0 61, τ))) 61 ?_ ?_ (0 : Int32) (jcpy (jset σ1 89 0 0) 93 0 95 0 67) ⟨rfl, rfl, p1, (FR.refl _).cpy (fun j _ _ => rfl)⟩ jFU (by unfold jFU; omega)
      · obtain ⟨r2, ⟨σ2, m1, m2⟩, m3⟩ := H2
        refine ⟨_, _, σ2, e1, ?_, A, h.congr ((s1.set scr0).trans (fr95_scr m1))⟩
        unfold f_X12_lost
        rw [jlet_eq, isPath_r hR1 h.W, if_pos hin, jbd_eq, if_pos (by decide), layThen_r, jbv_eq, show X12_lost_L22 (nI p) jFU (0 : Int32) (jcpy (jset σ1 89 0 0) 93 0 95 0 67) = some r2 from m3]
        rcases m2 with ⟨q1, q2⟩ | q1
        · rw [q1, q2]
          rfl
        · rw [q1]
          rfl
      · rintro i s τ hi ⟨rfl, g0, g1, g2⟩
        have hWi := yrA_WF h.W i (by omega)
        have hlt := np_lt hWi (aWays_lt hWi)
        obtain ⟨f, hf⟩ : ∃ f, 61 - i = f + 1 := ⟨60 - i, by omega⟩
        have el : lsv A p i (61 - i) = if bt1 (aWays (yrA A i)) p = 0 then nI i else lsv A p (i + 1) f := by
          rw [hf]
          rfl
        by_cases c : bt1 (aWays (yrA A i)) p = 0
        · right
          refine ⟨.inr (nI i, τ), ⟨τ, g2, Or.inr ?_⟩, fun rec => ?_⟩
          · rw [g0, el, if_pos c]
          · show X12_lost_L22_b (nI p) rec (nI i) τ = _
            unfold X12_lost_L22_b
            rw [if_neg (Lle_ (by omega) (by omega)), ways_r g1 hWi, jbd_eq, has_bit (by omega) (by omega), jbd_eq, c, if_neg (fun q => q rfl)]
        · left
          obtain ⟨τ', y1, y2, y3⟩ := year_r g1 hWi (by rw [yrA_yr]; omega)
          refine ⟨nI (i + 1), τ', ⟨rfl, ?_, y2, g2.trans y3⟩, fun rec => ?_⟩
          · rw [g0, el, if_neg c, show 61 - (i + 1) = f by omega]
          · show X12_lost_L22_b (nI p) rec (nI i) τ = _
            unfold X12_lost_L22_b
            have hle := bt1_le (aWays (yrA A i)) p
            rw [if_neg (Lle_ (by omega) (by omega)), ways_r g1 hWi, jbd_eq, has_bit (by omega) (by omega), jbd_eq, show bt1 (aWays (yrA A i)) p = 1 by omega, if_pos (by decide), y1, jbv_eq, nI_1]
      · rintro s τ ⟨rfl, g0, g1, g2⟩
        refine ⟨.inl ((), τ), ⟨τ, g2, Or.inl ⟨rfl, g0⟩⟩, fun rec => ?_⟩
        show X12_lost_L22_b (nI p) rec (nI 61) τ = _
        unfold X12_lost_L22_b
        rw [if_pos (by decide)]
    · rintro i s τ hi ⟨rfl, g0, g1, g2⟩
      have hWi := yrA_WF h.W i (by omega)
      have hlt := np_lt hWi (aWays_lt hWi)
      obtain ⟨f, hf⟩ : ∃ f, 61 - i = f + 1 := ⟨60 - i, by omega⟩
      have el : lsv A p i (61 - i) = if bt1 (aWays (yrA A i)) p = 0 then nI i else lsv A p (i + 1) f := by
        rw [hf]
        rfl
      by_cases c : bt1 (aWays (yrA A i)) p = 0
      · right
        refine ⟨.inr (nI i, τ), ⟨τ, g2, Or.inr ?_⟩, fun rec => ?_⟩
        · rw [g0, el, if_pos c]
        · show X11_lost_L27_b (nI p) rec (nI i) τ = _
          unfold X11_lost_L27_b
          rw [if_neg (Llt_ (by omega) (by omega)), ways_c g1 hWi, jbd_eq, bitOf_spec (by omega) (by omega), jbd_eq, c, if_neg (fun q => q rfl)]
      · left
        obtain ⟨τ', y1, y2, y3⟩ := pass_c g1 hWi (by rw [yrA_yr]; omega)
        refine ⟨nI (i + 1), τ', ⟨rfl, ?_, y2, g2.trans (y3.mono (fun c j q => by unfold frD; omega))⟩, fun rec => ?_⟩
        · rw [g0, el, if_neg c, show 61 - (i + 1) = f by omega]
        · show X11_lost_L27_b (nI p) rec (nI i) τ = _
          unfold X11_lost_L27_b
          have hle := bt1_le (aWays (yrA A i)) p
          rw [if_neg (Llt_ (by omega) (by omega)), ways_c g1 hWi, jbd_eq, bitOf_spec (by omega) (by omega), jbd_eq, show bt1 (aWays (yrA A i)) p = 1 by omega, if_pos (by decide), y1, jbv_eq, nI_1]
    · rintro s τ ⟨rfl, g0, g1, g2⟩
      refine ⟨.inl ((), τ), ⟨τ, g2, Or.inl ⟨rfl, g0⟩⟩, fun rec => ?_⟩
      show X11_lost_L27_b (nI p) rec (nI 61) τ = _
      unfold X11_lost_L27_b
      rw [if_pos (by decide)]
  · refine ⟨-1000001, σ, jset σ 89 0 0, ?_, ?_, h.bad⟩
    · unfold f_X11_lost
      rw [e]
      rfl
    · unfold f_X12_lost
      rw [jlet_eq, isPath_r h'.R h.W, if_neg (by omega)]
      rfl
/-- drawn -/
def sd (s : Nat) : Nat → Nat
  | 0 => s
  | i + 1 => (sd s i * 16807) % 2147483647
theorem sd_lt {s : Nat} (h : s < 2147483647) : ∀ i, sd s i < 2147483647
  | 0 => h
  | i + 1 => Nat.mod_lt _ (by omega)
def drw (A : aP) (s : Nat) : Nat → aP × Nat
  | 0 => (A, 0)
  | i + 1 => if bur (drw A s i).1 (sd s (i + 1) % 8) = 1 then (aYear (aSee (drw A s i).1 (wy (drw A s i).1 (opn (drw A s i).1) (sd s (i + 1) % 8)) (2 ^ pid (drw A s i).1 (opn (drw A s i).1) (sd s (i + 1) % 8))), (drw A s i).2 + 1) else (aYear (drw A s i).1, (drw A s i).2)
theorem drw_ok {A : aP} (hW : WF A) (s : Nat) : ∀ i, a_yr A + i ≤ 1100 → WF (drw A s i).1 ∧ a_yr (drw A s i).1 = a_yr A + i ∧ a_gt (drw A s i).1 = a_gt A ∧ (drw A s i).1 = dy A (dOf (drw A s i).1) ∧ (drw A s i).2 ≤ i
  | 0, _ => ⟨hW, rfl, rfl, rfl, Nat.le_refl 0⟩
  | i + 1, h => by
    obtain ⟨h1, h2, h3, h4, h5⟩ := drw_ok hW s i (by omega)
    by_cases c : bur (drw A s i).1 (sd s (i + 1) % 8) = 1
    · have e : drw A s (i + 1) = (aYear (aSee (drw A s i).1 (wy (drw A s i).1 (opn (drw A s i).1) (sd s (i + 1) % 8)) (2 ^ pid (drw A s i).1 (opn (drw A s i).1) (sd s (i + 1) % 8))), (drw A s i).2 + 1) := if_pos c
      rw [e]
      generalize (drw A s i).1 = X at h1 h2 h3 h4 c
      generalize (drw A s i).2 = n at h5
      have hv : sd s (i + 1) % 8 < 8 := Nat.mod_lt _ (by omega)
      have hS := aSee_WF h1 (wy_lt (op := opn X) h1 hv) (p2_lt (bur_pid h1 hv c))
      generalize wy X (opn X) (sd s (i + 1) % 8) = w at hS ⊢
      generalize 2 ^ pid X (opn X) (sd s (i + 1) % 8) = f at hS ⊢
      refine ⟨aYear_WF hS (by show a_yr X < 1100; omega), by show a_yr X + 1 = _; omega, h3, ?_, by show n + 1 ≤ _; omega⟩
      have hh : dy X (dOf (aYear (aSee X w f))) = dy (dy A (dOf X)) (dOf (aYear (aSee X w f))) := congrArg (fun Y => dy Y (dOf (aYear (aSee X w f)))) h4
      exact hh
    · have e : drw A s (i + 1) = (aYear (drw A s i).1, (drw A s i).2) := if_neg c
      rw [e]
      generalize (drw A s i).1 = X at h1 h2 h3 h4
      generalize (drw A s i).2 = n at h5
      refine ⟨aYear_WF h1 (by omega), by show a_yr X + 1 = _; omega, h3, ?_, by show n ≤ _; omega⟩
      have hh : dy X (dOf (aYear X)) = dy (dy A (dOf X)) (dOf (aYear X)) := congrArg (fun Y => dy Y (dOf (aYear X))) h4
      exact hh
theorem bur_dy {A X : aP} (h : X = dy A (dOf X)) (hg : a_gt X = a_gt A) (a : Nat) : opn X = opn A ∧ bur X a = bur A a ∧ wy X (opn X) a = wy A (opn A) a ∧ pid X (opn X) a = pid A (opn A) a := by
  have e1 : opn X = opn A := by
    unfold opn
    rw [hg, h]
    rfl
  have e2 : a_ch X = a_ch A := by rw [h]; rfl
  have e3 : dst X (opn A) = dst A (opn A) := by rw [h]; exact dst_dy A _ _
  refine ⟨e1, ?_, ?_, ?_⟩
  · unfold bur
    rw [e1, e2, e3]
  · rw [e1, h]
    exact wy_dy A _ _ _
  · rw [e1, h]
    exact pid_dy A _ _ _
theorem draw_n {s : Nat} (h : s < 2147483647) : (lN s * (16807 : Int64)) - (lN s * (16807 : Int64)) / (2147483647 : Int64) * (2147483647 : Int64) = lN ((s * 16807) % 2147483647) := by
  rw [show (16807 : Int64) = lN 16807 from rfl, lN_mul]
  exact pk_lRem (b := 2147483647) (by omega) (by omega) (by omega)
theorem draw_f {s : Nat} (h : s < 2147483647) : ((lN s - lN s / (8 : Int64) * (8 : Int64))).toInt32 = nI (s % 8) := by
  have e : lN s - lN s / (8 : Int64) * (8 : Int64) = lN (s % 8) := pk_lRem (b := 8) (by omega) (by omega) (by omega)
  rw [e, lN_i]
def frDC (c j : Nat) : Prop := frD c j ∨ frC c j
theorem frDC_scr {σ τ : jMem} (h : FR frDC σ τ) : sEq σ τ := ⟨fun c j q => h.1 c j (fun z => q (by unfold frDC frD frC at z; unfold scr; omega)), h.2⟩
theorem drawL_c {σ : jMem} {A : aP} {n s : Nat} (x : Int32) (hP : PC σ 30 A) (hW : WF A) (hy : a_yr A + n ≤ 1100) (hn : n ≤ 60) (hs : s < 2147483647) : ∃ σ', X11_drawn_L66 (nI n) x jFU ((0 : Int32), lN s, (0 : Int32)) σ = some (nI (drw A s n).2, σ') ∧ PC σ' 30 (drw A s n).1 ∧ FR frDC σ σ' := by
  have H := jloop_inv (body := fun rec s σ => X11_drawn_L66_b (nI n) x rec s.1 s.2.1 s.2.2 σ) (fun i t τ => t = (nI (drw A s i).2, lN (sd s i), nI i) ∧ PC τ 30 (drw A s i).1 ∧ FR frDC σ τ) (fun r => r.1 = nI (drw A s n).2 ∧ PC r.2 30 (drw A s n).1 ∧ FR frDC σ r.2) n ?_ ?_ ((0 : Int32), lN s, (0 : Int32)) σ ⟨rfl, hP, FR.refl σ⟩ jFU (by unfold jFU; omega)
  · obtain ⟨⟨r, ρ⟩, ⟨h1, h2, h4⟩, h3⟩ := H
    exact ⟨ρ, by rw [← h1]; exact h3, h2, h4⟩
  · rintro i t τ hi ⟨rfl, g1, g2⟩
    obtain ⟨d1, d2, d3, d4, d5⟩ := drw_ok hW s i (by omega)
    have hsl := sd_lt hs i
    have hsl2 := sd_lt hs (i + 1)
    have hv : sd s (i + 1) % 8 < 8 := Nat.mod_lt _ (by omega)
    obtain ⟨τ1, b1, b2, b3⟩ := isBur_c g1 d1 (by omega) hv
    have f1 : FR frDC σ τ1 := g2.trans (b3.mono (fun c j q => Or.inr q))
    have hP1 := g1.offF b3 (fun c j q1 q2 => by unfold frC; omega)
    have es : sd s (i + 1) = (sd s i * 16807) % 2147483647 := rfl
    by_cases c : bur (drw A s i).1 (sd s (i + 1) % 8) = 1
    · have e : drw A s (i + 1) = (aYear (aSee (drw A s i).1 (wy (drw A s i).1 (opn (drw A s i).1) (sd s (i + 1) % 8)) (2 ^ pid (drw A s i).1 (opn (drw A s i).1) (sd s (i + 1) % 8))), (drw A s i).2 + 1) := if_pos c
      obtain ⟨w1, w2⟩ := b2 c
      have hwl := wy_lt (op := opn (drw A s i).1) d1 hv
      have hpl := p2_lt (bur_pid d1 hv c)
      obtain ⟨τ2, s1, s2, s3⟩ := see_c hP1 d1 (by omega) hwl hpl w1 w2
      have hS := aSee_WF d1 hwl hpl
      obtain ⟨τ3, y1, y2, y3⟩ := pass_c s2 hS (by show a_yr (drw A s i).1 < 1100; omega)
      refine ⟨(nI (drw A s (i + 1)).2, lN (sd s (i + 1)), nI (i + 1)), τ3, ⟨rfl, by rw [e]; exact y2, (f1.trans (s3.mono (fun c j q => by unfold frDC frD; omega))).trans (y3.mono (fun c j q => by unfold frDC frD; omega))⟩, fun rec => ?_⟩
      show X11_drawn_L66_b (nI n) x rec (nI (drw A s i).2) (lN (sd s i)) (nI i) τ = _
      unfold X11_drawn_L66_b
      rw [if_neg (nle_ (by omega) (by omega)), draw_n hsl, ← es, jlet_eq, draw_f hsl2, b1, jbd_eq, c, jj_eq, if_neg (by decide), s1, jbv_eq, e]
      dsimp only
      rw [y1, jbv_eq, nI_1, nI_1]
    · have e : drw A s (i + 1) = (aYear (drw A s i).1, (drw A s i).2) := if_neg c
      have hbl := bur_le (drw A s i).1 (sd s (i + 1) % 8)
      obtain ⟨τ3, y1, y2, y3⟩ := pass_c hP1 d1 (by omega)
      refine ⟨(nI (drw A s (i + 1)).2, lN (sd s (i + 1)), nI (i + 1)), τ3, ⟨rfl, by rw [e]; exact y2, f1.trans (y3.mono (fun c j q => by unfold frDC frD; omega))⟩, fun rec => ?_⟩
      show X11_drawn_L66_b (nI n) x rec (nI (drw A s i).2) (lN (sd s i)) (nI i) τ = _
      unfold X11_drawn_L66_b
      rw [if_neg (nle_ (by omega) (by omega)), draw_n hsl, ← es, jlet_eq, draw_f hsl2, b1, jbd_eq, show bur (drw A s i).1 (sd s (i + 1) % 8) = 0 by omega, jj_eq, if_pos (by decide), e]
      dsimp only
      rw [y1, jbv_eq, nI_1]
  · rintro t τ ⟨rfl, g1, g2⟩
    refine ⟨(nI (drw A s n).2, τ), ⟨rfl, g1, g2⟩, fun rec => ?_⟩
    show X11_drawn_L66_b (nI n) x rec (nI (drw A s n).2) (lN (sd s n)) (nI n) τ = _
    unfold X11_drawn_L66_b
    rw [if_pos (nI_le (Nat.le_refl _) (by omega))]
theorem drawL_r {σ : jMem} {A : aP} {n s : Nat} (x : Int32) (hP : PR σ 95 0 A) (hP3 : PR σ 93 0 A) (hW : WF A) (hy : a_yr A + n ≤ 1100) (hn : n ≤ 60) (hs : s < 2147483647) : ∃ σ', X12_drawn_L66 (nI n) x jFU (lN s, (0 : Int32), (0 : Int32)) σ = some (nI (drw A s n).2, σ') ∧ PR σ' 95 0 (drw A s n).1 ∧ FR frT σ σ' := by
  have H := jloop_inv (body := fun rec s σ => X12_drawn_L66_b (nI n) x rec s.1 s.2.1 s.2.2 σ) (fun i t τ => t = (lN (sd s i), nI (drw A s i).2, nI i) ∧ PR τ 95 0 (drw A s i).1 ∧ FR frT σ τ) (fun r => r.1 = nI (drw A s n).2 ∧ PR r.2 95 0 (drw A s n).1 ∧ FR frT σ r.2) n ?_ ?_ (lN s, (0 : Int32), (0 : Int32)) σ ⟨rfl, hP, FR.refl σ⟩ jFU (by unfold jFU; omega)
  · obtain ⟨⟨r, ρ⟩, ⟨h1, h2, h4⟩, h3⟩ := H
    exact ⟨ρ, by rw [← h1]; exact h3, h2, h4⟩
  · rintro i t τ hi ⟨rfl, g1, g2⟩
    obtain ⟨d1, d2, d3, d4, d5⟩ := drw_ok hW s i (by omega)
    have hsl := sd_lt hs i
    have hsl2 := sd_lt hs (i + 1)
    have hv : sd s (i + 1) % 8 < 8 := Nat.mod_lt _ (by omega)
    have h3t := hP3.offF hW g2 (fun j => by unfold frT; omega)
    obtain ⟨τ1, b1, b2, b3⟩ := isBur_r h3t hW hv
    obtain ⟨o1, o2, o3, o4⟩ := bur_dy d4 d3 (sd s (i + 1) % 8)
    have f1 : FR frT σ τ1 := g2.trans (b3.mono (fun c j q => by unfold frW at q; unfold frT; omega))
    have hP1 := g1.offF d1 b3 (fun j => by unfold frW; omega)
    have h31 := h3t.offF hW b3 (fun j => by unfold frW; omega)
    have es : sd s (i + 1) = (sd s i * 16807) % 2147483647 := rfl
    have hg95 : τ.1 95 6 = nI (a_gt A) := by rw [(g1.f (o := 0)).2.2.2.2.2.2, d3]
    by_cases c : bur (drw A s i).1 (sd s (i + 1) % 8) = 1
    · have e : drw A s (i + 1) = (aYear (aSee (drw A s i).1 (wy (drw A s i).1 (opn (drw A s i).1) (sd s (i + 1) % 8)) (2 ^ pid (drw A s i).1 (opn (drw A s i).1) (sd s (i + 1) % 8))), (drw A s i).2 + 1) := if_pos c
      have c' : bur A (sd s (i + 1) % 8) = 1 := by rw [← o2]; exact c
      obtain ⟨w1, w2⟩ := b2 c'
      rw [← o3] at w1
      rw [← o4] at w2
      have hwl := wy_lt (op := opn (drw A s i).1) d1 hv
      have hpid := bur_pid d1 hv c
      have hXA : dy (drw A s i).1 (dOf A) = A := by
        rw [d4]
        rfl
      obtain ⟨τ2, s1, s2, s3⟩ := see_r hP1 d1 (by omega) hwl hpid w1 w2 (Or.inr ⟨dOf A, by rw [hXA]; exact hW, by rw [hXA]; exact h31⟩)
      have hS := aSee_WF d1 hwl (p2_lt hpid)
      obtain ⟨τ3, y1, y2, y3⟩ := year_r s2 hS (by show a_yr (drw A s i).1 < 1100; omega)
      refine ⟨(lN (sd s (i + 1)), nI (drw A s (i + 1)).2, nI (i + 1)), τ3, ⟨rfl, by rw [e]; exact y2, (f1.trans (s3.mono (fun c j q => by unfold frT; omega))).trans (y3.mono (fun c j q => by unfold frT; omega))⟩, fun rec => ?_⟩
      show X12_drawn_L66_b (nI n) x rec (lN (sd s i)) (nI (drw A s i).2) (nI i) τ = _
      unfold X12_drawn_L66_b
      rw [if_neg (nle_ (by omega) (by omega)), draw_n hsl, ← es, jlet_eq, jldL_ (by omega) (by omega), hg95, draw_f hsl2, b1, jbd_eq, c', jj_eq, if_neg (by decide), s1, jbv_eq, e]
      dsimp only
      rw [y1, jbv_eq, nI_1, nI_1]
    · have e : drw A s (i + 1) = (aYear (drw A s i).1, (drw A s i).2) := if_neg c
      have hbl := bur_le (drw A s i).1 (sd s (i + 1) % 8)
      have c' : bur A (sd s (i + 1) % 8) = 0 := by rw [← o2]; omega
      obtain ⟨τ3, y1, y2, y3⟩ := year_r hP1 d1 (by omega)
      refine ⟨(lN (sd s (i + 1)), nI (drw A s (i + 1)).2, nI (i + 1)), τ3, ⟨rfl, by rw [e]; exact y2, f1.trans (y3.mono (fun c j q => by unfold frT; omega))⟩, fun rec => ?_⟩
      show X12_drawn_L66_b (nI n) x rec (lN (sd s i)) (nI (drw A s i).2) (nI i) τ = _
      unfold X12_drawn_L66_b
      rw [if_neg (nle_ (by omega) (by omega)), draw_n hsl, ← es, jlet_eq, jldL_ (by omega) (by omega), hg95, draw_f hsl2, b1, jbd_eq, c', jj_eq, if_pos (by decide), e]
      dsimp only
      rw [y1, jbv_eq, nI_1]
  · rintro t τ ⟨rfl, g1, g2⟩
    refine ⟨(nI (drw A s n).2, τ), ⟨rfl, g1, g2⟩, fun rec => ?_⟩
    show X12_drawn_L66_b (nI n) x rec (lN (sd s n)) (nI (drw A s n).2) (nI n) τ = _
    unfold X12_drawn_L66_b
    rw [if_pos (nI_le (Nat.le_refl _) (by omega))]
theorem sim_drawn_ok : sim_drawn Inv := by
  rintro σ a1 a2 a3 ⟨A, h⟩
  have hb := h.W.b
  have h' := h.t0
  have t1 := h.W.1.1
  have hyr := h.2.2.1.2.1
  rcases (show a_th A = 0 ∨ a_th A = 1 by omega) with t | t
  · refine ⟨-1000002, σ, jset σ 89 0 0, ?_, ?_, h.bad⟩
    · unfold f_X11_drawn
      rw [h.C.1.1, t, if_neg (by decide)]
    · unfold f_X12_drawn
      rw [jlet_eq, there_r h'.R h.W, t]
      rfl
  · have ec : ¬ σ.1 22 1 = 0 := by rw [h.C.1.1, t]; decide
    have er := there_r h'.R h.W
    rw [t] at er
    rcases pI_split a1 61 (by omega) with ⟨n, hn, rfl⟩ | hx
    · have ein : ∀ τ : jMem, f_X12_in (nI n).toInt64 (0 : Int64) (60 : Int64) τ = some (1, τ) := by
        intro τ
        simp only [nlitL]
        rw [in_lit _ _ _ (by omega) (by omega), nI_toInt (by omega), if_pos (by omega)]
      rcases pI_split a2 1000000 (by omega) with ⟨s, hs, rfl⟩ | hx2
      · by_cases s0 : s = 0
        · subst s0
          refine ⟨-1000001, σ, jset σ 89 0 0, ?_, ?_, h.bad⟩
          · unfold f_X11_drawn
            rw [if_pos ec, if_neg (ltL_ (by omega) (by omega)), if_neg (Llt_ (by omega) (by omega)), if_pos (by decide)]
          · unfold f_X12_drawn
            rw [jlet_eq, er, jbd_eq, if_pos (by decide), ein, jbd_eq, if_neg (by decide)]
            rfl
        · have ein2 : ∀ τ : jMem, f_X12_in (nI s).toInt64 (1 : Int64) (999999 : Int64) τ = some (1, τ) := by
            intro τ
            simp only [nlitL]
            rw [in_lit _ _ _ (by omega) (by omega), nI_toInt (by omega), if_pos (by omega)]
          by_cases c : a3 = 0 ∨ a3 = 1
          · obtain ⟨σ1, k1, k2, k3⟩ := drawL_c (n := n) (s := s) a3 (bcM_p (k := 30) h.C h.W (by omega)) h.W (by omega) (by omega) (by omega)
            have s1 := frDC_scr ((bcM_fr (σ := σ) (k := 30) (a := 22)).mono (Q := frDC) (fun c j q => by unfold frDC frD; omega) |>.trans k3)
            have hR1 := h.seqC s1
            have er1 := there_r hR1 h.W
            rw [t] at er1
            obtain ⟨p1, p2⟩ := then_p hR1 h.W
            obtain ⟨σ2, m1, m2, m3⟩ := drawL_r (n := n) (s := s) a3 p1 p2 h.W (by omega) (by omega) (by omega)
            obtain ⟨d1, d2, d3, d4, d5⟩ := drw_ok h.W s n (by omega)
            have s2 : sEq σ σ2 := (s1.set (v := 0) scr0).trans (frT_scr (((FR.refl _).cpy (fun j _ _ => by unfold frT; omega)).trans m3))
            refine ⟨if ¬ a3 = 0 then nI (drw A s n).2 else nI (aWays (drw A s n).1), σ1, σ2, ?_, ?_, A, h.congr s2⟩
            · unfold f_X11_drawn
              rw [if_pos ec, if_neg (ltL_ (by omega) (by omega)), if_neg (Llt_ (by omega) (by omega)), if_neg (ltL_ (by omega) (by omega)), if_neg (Llt_ (by omega) (by omega)), oneOf_c, if_pos c, jbd_eq, if_pos (by decide), become_c h.C h.W, jbv_eq, jlet_eq, nI_l (by omega), k1, jbd_eq]
              by_cases c0 : a3 = 0
              · rw [if_neg (fun z => z c0), if_neg (fun z => z c0), ways_c k2 d1]
                rfl
              · rw [if_pos c0, if_pos c0]
            · unfold f_X12_drawn
              rw [jlet_eq, er1, jbd_eq, if_pos (by decide), ein, jbd_eq, if_neg (by decide), ein2, jbd_eq, if_neg (by decide), oneOf_r, if_pos c, jbd_eq, if_pos (by decide), layThen_r, jbv_eq, jlet_eq, nI_l (by omega), m1, jbd_eq]
              by_cases c0 : a3 = 0
              · rw [if_neg (fun z => z c0), if_neg (fun z => z c0), ways_r m2 d1]
                rfl
              · rw [if_pos c0, if_pos c0]
          · refine ⟨-1000001, σ, jset σ 89 0 0, ?_, ?_, h.bad⟩
            · unfold f_X11_drawn
              rw [if_pos ec, if_neg (ltL_ (by omega) (by omega)), if_neg (Llt_ (by omega) (by omega)), if_neg (ltL_ (by omega) (by omega)), if_neg (Llt_ (by omega) (by omega)), oneOf_c, if_neg c]
              rfl
            · unfold f_X12_drawn
              rw [jlet_eq, er, jbd_eq, if_pos (by decide), ein, jbd_eq, if_neg (by decide), ein2, jbd_eq, if_neg (by decide), oneOf_r, if_neg c]
              rfl
      · refine ⟨-1000001, σ, jset σ 89 0 0, ?_, ?_, h.bad⟩
        · unfold f_X11_drawn
          rw [if_pos ec, if_neg (ltL_ (by omega) (by omega)), if_neg (Llt_ (by omega) (by omega))]
          rcases hx2 with q | q
          · rw [if_pos (by rw [pI_lt]; show a2.toInt < 1; omega)]
          · rw [if_neg (by rw [pI_lt]; show ¬ a2.toInt < 1; omega), if_pos (by rw [pI_lt]; show (999999 : Int) < a2.toInt; omega)]
        · unfold f_X12_drawn
          rw [jlet_eq, er, jbd_eq, if_pos (by decide), ein, jbd_eq, if_neg (by decide)]
          simp only [nlitL]
          rw [in_lit _ _ _ (by omega) (by omega), if_neg (by omega), jbd_eq, if_pos (by decide)]
    · refine ⟨-1000001, σ, jset σ 89 0 0, ?_, ?_, h.bad⟩
      · unfold f_X11_drawn
        rw [if_pos ec]
        rcases hx with q | q
        · rw [if_pos (by rw [pI_lt]; exact q)]
        · rw [if_neg (by rw [pI_lt]; show ¬ a1.toInt < 0; omega), if_pos (by rw [pI_lt]; show (60 : Int) < a1.toInt; omega)]
      · unfold f_X12_drawn
        rw [jlet_eq, er, jbd_eq, if_pos (by decide)]
        simp only [nlitL]
        rw [in_lit _ _ _ (by omega) (by omega), if_neg (by omega), jbd_eq, if_pos (by decide)]
