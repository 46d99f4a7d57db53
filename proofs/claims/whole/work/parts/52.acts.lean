/-! ===== PURE: lock, follow, undo ===== -/
theorem WF.dyn {A : aP} (h : WF A) (d : aD) (h1 : d.1 ≤ 1100) (h2 : d.2.1 < 2 ^ a_np A) (h3 : ∀ w, w < a_nw A → d.2.2.1 w ≤ 100 ∧ d.2.2.2 w < 2 ^ a_np A) : WF (dy A d) := ⟨⟨h.1.1, h.1.2.1, h.1.2.2.1, h1, h.1.2.2.2.2.1, h.1.2.2.2.2.2.1, h2⟩, h.2.1, h.2.2.1, fun w hw => ⟨(h.2.2.2 w hw).1, (h.2.2.2 w hw).2.1, (h3 w hw).1, (h.2.2.2 w hw).2.2.2.1, (h3 w hw).2⟩⟩
theorem GD.dyn {A : aP} {m : Nat} {L : Nat → aD} (g : GD A m L) (d : aD) (h1 : d.1 ≤ 999) (h : WF (dy A d)) : GD (dy A d) m L := ⟨g.1, h, h1, fun j hj => g.2.2.2 j hj⟩
theorem bt_xor {s p n : Nat} (hs : s < 2 ^ n) (hp : p < n) : s ^^^ 2 ^ p < 2 ^ n := Nat.xor_lt_two_pow hs (p2_lt hp)
theorem FR.s {P Q : Nat → Nat → Prop} {σ τ : jMem} (h : FR P σ τ) (hq : ∀ c j, P c j → ¬ Q c j) {c j : Nat} (h2 : Q c j) : τ.1 c j = σ.1 c j := h.1 c j (fun q => hq c j q h2)
theorem cC_cR (c j : Nat) : cC c j → ¬ cR c j := by unfold cC cR; omega
theorem RS.off {σ σ' : jMem} {A : aP} {m : Nat} {L : Nat → aD} (g : GD A m L) (h : RS σ A m L) (f : FR cC σ σ') : RS σ' A m L := h.congr g (fun c j q => f.1 c j (by unfold cC; omega))
theorem CS.off {σ σ' : jMem} {A : aP} {m : Nat} {L : Nat → aD} (h : CS σ A m L) (f : FR cR σ σ') : CS σ' A m L := h.congr (fun c j q => f.1 c j (by unfold cC at q; unfold cR; omega))
theorem FR.both {σ τ ρ : jMem} (h1 : FR cC σ τ) (h2 : FR cR τ ρ) : FR (fun c j => scr c j ∨ cC c j ∨ cR c j) σ ρ := FR.trans (h1.mono (fun c j q => Or.inr (Or.inl q))) (h2.mono (fun c j q => Or.inr (Or.inr q)))
theorem CS.dyn {σ σ' : jMem} {A : aP} {m : Nat} {L : Nat → aD} (h : CS σ A m L) (d : aD) (h1 : PC σ' 22 (dy A d)) (f : ∀ c j, cC c j → ¬ (22 ≤ c ∧ c ≤ 29) → σ'.1 c j = σ.1 c j) : CS σ' (dy A d) m L := by
  obtain ⟨hP, p, hp, h7, h8, hj⟩ := h
  exact ⟨h1, p, hp, by rw [f _ _ (by unfold cC; omega) (by omega)]; exact h7, by rw [f _ _ (by unfold cC; omega) (by omega)]; exact h8, fun j hj' => (hj j hj').congr (fun i => f _ _ (by unfold cC; omega) (by omega))⟩
theorem RS.dyn {σ σ' : jMem} {A : aP} {m : Nat} {L : Nat → aD} (g : GD A m L) (h : RS σ A m L) (d : aD) (h1 : PR σ' 93 0 (dy A d)) (f : ∀ c j, c = 96 ∨ (c = 89 ∧ j = 9) → σ'.1 c j = σ.1 c j) : RS σ' (dy A d) m L :=
  ⟨h1, by rw [f _ _ (by omega)]; exact h.2.1, fun j hj => (h.2.2 j hj).congr (r' := 96) (o' := 67 * j) (g.2.2.2 j hj).2.b (fun i _ => f _ _ (by omega))⟩
theorem sim_lock_ok : sim_lock Inv := by
  rintro σ a1 a2 ⟨A, h⟩
  have hb := h.W.b
  have h' := h.t0
  have hgt := np_lt h.W h.W.1.2.2.2.2.2.2
  rcases hasPath_c h.C h.W a1 with ⟨p, hp, rfl, e⟩ | ⟨ho, e⟩
  · have hin := inN ⟨p, hp, rfl⟩ (by omega)
    by_cases c : a2 = 0 ∨ a2 = 1
    · by_cases cb : nI (bt1 (a_gt A) p) = a2
      · refine ⟨-1000002, σ, jset σ 89 0 0, ?_, ?_, h.bad⟩
        · unfold f_X11_lock
          rw [e, jbd_eq, if_neg (by decide), oneOf_c, if_pos c, jbd_eq, if_pos (by decide), h.C.1.2.2.2.2.2.2, bitOf_spec (by omega) (by omega), jbd_eq, if_neg (fun q => q cb)]
        · unfold f_X12_lock
          rw [jlet_eq, isPath_r h'.R h.W, if_pos hin, jbd_eq, if_neg (by decide), oneOf_r, if_pos c, jbd_eq, if_pos (by decide), jldL_ (by omega) (by omega), (h'.R.f (o := 0)).2.2.2.2.2.2, nI_bit (by omega) (by omega), if_neg (fun q => q cb)]
      · obtain ⟨m, L, g, hC, hR⟩ := h.split
        obtain ⟨σ1, k1, k2, k3⟩ := kC_spec g hC
        have g' := g.push
        have hx := bt_xor h.W.1.2.2.2.2.2.2 hp
        have hg1 := k2.1.1.2.2.2.2.2.2
        have e1 : f_X11_lock (nI p) a2 σ = some (nI (a_gt A ^^^ 2 ^ p), jset σ1 22 7 (nI (a_gt A ^^^ 2 ^ p))) := by
          unfold f_X11_lock
          rw [e, jbd_eq, if_neg (by decide), oneOf_c, if_pos c, jbd_eq, if_pos (by decide), h.C.1.2.2.2.2.2.2, bitOf_spec (by omega) (by omega), jbd_eq, if_pos cb, k1, jbv_eq, hg1, nI_one_shl (by omega), nI_xor, jlet_eq, jset_i]
        have hC2 : CS (jset σ1 22 7 (nI (a_gt A ^^^ 2 ^ p))) (dy A (a_yr A, a_gt A ^^^ 2 ^ p, a_ag A, a_sw A)) (pshN m) (pshL m L (dOf A)) := by
          refine k2.dyn _ (k2.1.dyn _ (fun c j q1 q2 q3 => jset_o (by omega)) ?_ jset_i (fun w hw => ?_)) (fun c j q1 q2 => jset_o (by omega))
          · rw [jset_o (by omega)]
            exact k2.1.1.2.2.2.1
          · rw [jset_o (by omega), jset_o (by omega)]
            exact (k2.1.2.2 w hw).2.2
        have f2 : FR cC σ (jset σ1 22 7 (nI (a_gt A ^^^ 2 ^ p))) := k3.set (by unfold cC; omega)
        have hR2 := (hR.off g f2).congr g (σ' := jset (jset σ1 22 7 (nI (a_gt A ^^^ 2 ^ p))) 89 0 0) (fun c j q => jset_o (by omega))
        obtain ⟨σ3, r1, r2, r3⟩ := kR_spec g hR2
        have hp2 := r2.1.f (o := 0)
        have e2 : f_X12_lock (nI p) a2 (jset σ1 22 7 (nI (a_gt A ^^^ 2 ^ p))) = some (nI (a_gt A ^^^ 2 ^ p), jset σ3 93 6 (nI (a_gt A ^^^ 2 ^ p))) := by
          unfold f_X12_lock
          rw [jlet_eq, isPath_r hR2.1 h.W, if_pos hin, jbd_eq, if_neg (by decide), oneOf_r, if_pos c, jbd_eq, if_pos (by decide), jldL_ (by omega) (by omega), (hR2.1.f (o := 0)).2.2.2.2.2.2, nI_bit (by omega) (by omega), if_pos cb, r1, jbv_eq, jldL_ (by omega) (by omega), hp2.2.2.2.2.2.2, nI_one_shl (by omega), nI_xor, jstL_ (by omega) (by omega), jldL_ (by omega) (by omega), jset_i]
        have hR3 : RS (jset σ3 93 6 (nI (a_gt A ^^^ 2 ^ p))) (dy A (a_yr A, a_gt A ^^^ 2 ^ p, a_ag A, a_sw A)) (pshN m) (pshL m L (dOf A)) := by
          refine r2.dyn g' _ (r2.1.dyn hb _ (fun j q1 q2 q3 => jset_o (by omega)) ?_ ?_ (fun w hw => ⟨jset_o (by omega), ?_, jset_o (by omega), ?_⟩)) (fun c j q => jset_o (by omega))
          · rw [jset_o (by omega)]
            exact r2.1.1.2.2.2.2.2.1
          · exact jset_e (by omega)
          · rw [jset_o (by omega)]
            exact (r2.1.2.2 w hw).2.1
          · rw [jset_o (by omega)]
            exact (r2.1.2.2 w hw).2.2.2
        have f3 : FR cR (jset σ1 22 7 (nI (a_gt A ^^^ 2 ^ p))) (jset σ3 93 6 (nI (a_gt A ^^^ 2 ^ p))) := FR.set (FR.trans (FR.set (FR.refl _) (by unfold cR; omega)) r3) (by unfold cR; omega)
        have hWd : WF (dy A (a_yr A, a_gt A ^^^ 2 ^ p, a_ag A, a_sw A)) := h.W.dyn _ h.W.1.2.2.2.1 hx (fun w hw => ⟨(h.W.2.2.2 w hw).2.2.1, (h.W.2.2.2 w hw).2.2.2.2⟩)
        exact ⟨_, _, _, e1, e2, _, h.join (g'.dyn _ g.2.2.1 hWd) (hC2.off f3) hR3 (f2.both f3)⟩
    · refine ⟨-1000001, σ, jset σ 89 0 0, ?_, ?_, h.bad⟩
      · unfold f_X11_lock
        rw [e, jbd_eq, if_neg (by decide), oneOf_c, if_neg c]
        rfl
      · unfold f_X12_lock
        rw [jlet_eq, isPath_r h'.R h.W, if_pos hin, jbd_eq, if_neg (by decide), oneOf_r, if_neg c]
        rfl
  · refine ⟨-1000001, σ, jset σ 89 0 0, ?_, ?_, h.bad⟩
    · unfold f_X11_lock
      rw [e]
      rfl
    · unfold f_X12_lock
      rw [jlet_eq, isPath_r h'.R h.W, if_neg (by omega)]
      rfl
theorem sim_follow_ok : sim_follow Inv := by
  rintro σ a1 ⟨A, h⟩
  have hb := h.W.b
  have h' := h.t0
  rcases hasWit_c h.C h.W a1 with ⟨w, hw, rfl, e⟩ | ⟨ho, e⟩
  · have hin := inN ⟨w, hw, rfl⟩ (by omega)
    rcases (show aLv A w = 0 ∨ aLv A w = 1 by have := aLv_le A w; omega) with z | z
    · obtain ⟨m, L, g, hC, hR⟩ := h.split
      obtain ⟨σ1, k1, k2, k3⟩ := kC_spec g hC
      have g' := g.push
      have hWd : WF (dy A (a_yr A, a_gt A, (fun i => if i = w then 0 else a_ag A i), (fun i => if i = w then 0 else a_sw A i))) := by
        refine h.W.dyn _ h.W.1.2.2.2.1 h.W.1.2.2.2.2.2.2 (fun i hi => ?_)
        have := h.W.2.2.2 i hi
        show (if i = w then 0 else a_ag A i) ≤ 100 ∧ (if i = w then 0 else a_sw A i) < 2 ^ a_np A
        by_cases q : i = w
        · rw [if_pos q, if_pos q]
          exact ⟨by omega, Nat.two_pow_pos _⟩
        · rw [if_neg q, if_neg q]
          exact ⟨this.2.2.1, this.2.2.2.2⟩
      have hC2 : CS (jset (jset σ1 28 w 0) 29 w 0) (dy A (a_yr A, a_gt A, (fun i => if i = w then 0 else a_ag A i), (fun i => if i = w then 0 else a_sw A i))) (pshN m) (pshL m L (dOf A)) := by
        refine k2.dyn _ (k2.1.dyn _ (fun c j q1 q2 q3 => by rw [jset_o (by omega), jset_o (by omega)]) ?_ ?_ (fun i hi => ⟨?_, ?_⟩)) (fun c j q1 q2 => by rw [jset_o (by omega), jset_o (by omega)])
        · rw [jset_o (by omega), jset_o (by omega)]
          exact k2.1.1.2.2.2.1
        · rw [jset_o (by omega), jset_o (by omega)]
          exact k2.1.1.2.2.2.2.2.2
        · show (jset (jset σ1 28 w 0) 29 w 0).1 28 i = nI (if i = w then 0 else a_ag A i)
          rw [jset_o (by omega)]
          by_cases q : i = w
          · rw [jset_e (by omega), if_pos q]
            rfl
          · rw [jset_o (by omega), if_neg q]
            exact (k2.1.2.2 i hi).2.2.1
        · show (jset (jset σ1 28 w 0) 29 w 0).1 29 i = nI (if i = w then 0 else a_sw A i)
          by_cases q : i = w
          · rw [jset_e (by omega), if_pos q]
            rfl
          · rw [jset_o (by omega), jset_o (by omega), if_neg q]
            exact (k2.1.2.2 i hi).2.2.2
      have f2 : FR cC σ (jset (jset σ1 28 w 0) 29 w 0) := (k3.set (by unfold cC; omega)).set (by unfold cC; omega)
      have e1 : f_X11_follow (nI w) σ = some (nI (aLiv (dy A (a_yr A, a_gt A, (fun i => if i = w then 0 else a_ag A i), (fun i => if i = w then 0 else a_sw A i)))), jset (jset σ1 28 w 0) 29 w 0) := by
        unfold f_X11_follow
        rw [e, jbd_eq, if_pos (by decide), alive_c h.C h.W hw, z, jbd_eq, if_pos (by decide), k1, jbv_eq, jst_eq (by omega) (by omega), jst_eq (by omega) (by omega), living_c hC2.1 hWd]
        rfl
      have hR2 := (hR.off g f2).congr g (σ' := jset (jset (jset σ1 28 w 0) 29 w 0) 89 0 0) (fun c j q => jset_o (by omega))
      obtain ⟨σ3, r1, r2, r3⟩ := kR_spec g hR2
      have hR3 : RS (jset (jset σ3 93 (43 + 4 * w + 1) 0) 93 (43 + 4 * w + 3) 0) (dy A (a_yr A, a_gt A, (fun i => if i = w then 0 else a_ag A i), (fun i => if i = w then 0 else a_sw A i))) (pshN m) (pshL m L (dOf A)) := by
        refine r2.dyn g' _ (r2.1.dyn hb _ (fun j q1 q2 q3 => by rw [jset_o (by omega), jset_o (by omega)]) ?_ ?_ (fun i hi => ⟨by rw [jset_o (by omega), jset_o (by omega)], ?_, by rw [jset_o (by omega), jset_o (by omega)], ?_⟩)) (fun c j q => by rw [jset_o (by omega), jset_o (by omega)])
        · rw [jset_o (by omega), jset_o (by omega)]
          exact r2.1.1.2.2.2.2.2.1
        · rw [jset_o (by omega), jset_o (by omega)]
          exact r2.1.1.2.2.2.2.2.2
        · show (jset (jset σ3 93 (43 + 4 * w + 1) 0) 93 (43 + 4 * w + 3) 0).1 93 (0 + 43 + 4 * i + 1) = nI (if i = w then 0 else a_ag A i)
          rw [jset_o (by omega)]
          by_cases q : i = w
          · rw [jset_e (by omega), if_pos q]
            rfl
          · rw [jset_o (by omega), if_neg q]
            exact (r2.1.2.2 i hi).2.1
        · show (jset (jset σ3 93 (43 + 4 * w + 1) 0) 93 (43 + 4 * w + 3) 0).1 93 (0 + 43 + 4 * i + 3) = nI (if i = w then 0 else a_sw A i)
          by_cases q : i = w
          · rw [jset_e (by omega), if_pos q]
            rfl
          · rw [jset_o (by omega), jset_o (by omega), if_neg q]
            exact (r2.1.2.2 i hi).2.2.2
      have e2 : f_X12_follow (nI w) (jset (jset σ1 28 w 0) 29 w 0) = some (nI (aLiv (dy A (a_yr A, a_gt A, (fun i => if i = w then 0 else a_ag A i), (fun i => if i = w then 0 else a_sw A i)))), jset (jset σ3 93 (43 + 4 * w + 1) 0) 93 (43 + 4 * w + 3) 0) := by
        unfold f_X12_follow
        rw [jlet_eq, isWit_r hR2.1 h.W, if_pos hin, jbd_eq, if_pos (by decide), lives_r hR2.1 h.W hw, z, jbd_eq, if_pos (by decide), r1, jbv_eq, nI_Lmul, nI_Ladd, nI_addL, nI_addL, jst_eq (by omega) (by omega), jst_eq (by omega) (by omega), living_r hR3.1 hWd]
        rfl
      have f3 : FR cR (jset (jset σ1 28 w 0) 29 w 0) (jset (jset σ3 93 (43 + 4 * w + 1) 0) 93 (43 + 4 * w + 3) 0) := FR.set (FR.set (FR.trans (FR.set (FR.refl _) (by unfold cR; omega)) r3) (by unfold cR; omega)) (by unfold cR; omega)
      exact ⟨_, _, _, e1, e2, _, h.join (g'.dyn _ g.2.2.1 hWd) (hC2.off f3) hR3 (f2.both f3)⟩
    · refine ⟨-1000002, σ, jset σ 89 0 0, ?_, ?_, h.bad⟩
      · unfold f_X11_follow
        rw [e, jbd_eq, if_pos (by decide), alive_c h.C h.W hw, z]
        rfl
      · unfold f_X12_follow
        rw [jlet_eq, isWit_r h'.R h.W, if_pos hin, jbd_eq, if_pos (by decide), lives_r h'.R h.W hw, z]
        rfl
  · refine ⟨-1000001, σ, jset σ 89 0 0, ?_, ?_, h.bad⟩
    · unfold f_X11_follow
      rw [e]
      rfl
    · unfold f_X12_follow
      rw [jlet_eq, isWit_r h'.R h.W, if_neg (by omega)]
      rfl
/-- undoing -/
def ldM (σ : jMem) (k c : Nat) : jMem := jcpy (jcpy (jset (jset σ k 4 (σ.1 c 0)) k 7 ((jset σ k 4 (σ.1 c 0)).1 c 1)) c 2 (k + 6) 0 6) c 8 (k + 7) 0 6
theorem load_c (σ : jMem) (k c : Nat) : f_X5_load k c σ = some (ldM σ k c) := by
  unfold f_X5_load
  rw [jldL_ (by omega) (by omega), jlet_eq, jldL_ (by omega) (by omega), jlet_eq, jcpL_ (by omega) (by omega) (by omega) (by omega), jcpL_ (by omega) (by omega) (by omega) (by omega)]
  rfl
theorem ldM_d {σ : jMem} {k c : Nat} {A : aP} {d : aD} (h : PC σ k A) (hd : DC σ c (a_nw A) d) (hW : a_nw A ≤ 6) (hc : c < k ∨ k + 7 < c) : PC (ldM σ k c) k (dy A d) := by
  refine h.dyn d (fun x y q1 q2 q3 => ?_) ?_ ?_ (fun w hw => ⟨?_, ?_⟩)
  · unfold ldM
    rw [jcpy_o (by omega), jcpy_o (by omega), jset_o (by omega), jset_o (by omega)]
  · unfold ldM
    rw [jcpy_o (by omega), jcpy_o (by omega), jset_o (by omega), jset_i]
    exact hd.1
  · unfold ldM
    rw [jcpy_o (by omega), jcpy_o (by omega), jset_i, jset_o (by omega)]
    exact hd.2.1
  · unfold ldM
    rw [jcpy_o (by omega), jcpy_i (by omega), jset_o (by omega), jset_o (by omega), show 2 + (w - 0) = 2 + w by omega]
    exact (hd.2.2 w hw).1
  · unfold ldM
    rw [jcpy_i (by omega), jcpy_o (by omega), jset_o (by omega), jset_o (by omega), show 8 + (w - 0) = 8 + w by omega]
    exact (hd.2.2 w hw).2
theorem undoL {σ : jMem} {m : Nat} (hm : m < 24) (h : σ.1 89 9 = nI m) : X12_undo_L27 jFU (0 : Int32) σ = some ((), jcpy σ 96 (67 * m) 93 0 67) := by
  have := jloop_run (body := fun rec s σ => X12_undo_L27_b rec s σ) (fun k => nI k) (fun k => jcpy σ 96 (67 * m) 93 0 k) 67 ((), jcpy σ 96 (67 * m) 93 0 67) ?_ ?_ jFU (by unfold jFU; omega)
  · simp only [jcpy_0] at this
    exact this
  · intro k hk rec
    show X12_undo_L27_b _ _ _ = _
    unfold X12_undo_L27_b
    have h1 := cpy_s (τ := σ) (a := 96) (sp := 67 * m) (b := 93) (dp := 0) (by omega) k
    rw [Nat.zero_add] at h1
    rw [if_neg (Lle_ (by omega) (by omega)), jcpy_o (a := 89) (by omega), h, nI_Lmul, nI_add, jld_eq (by omega) (by omega), jst_eq (by omega) (by omega), nI_1]
    rw [← h1]
  · intro rec
    rfl
theorem sim_undo_ok : sim_undo Inv := by
  rintro σ ⟨A, h⟩
  have hb := h.W.b
  obtain ⟨m, L, g, hC, hR⟩ := h.split
  have hm := g.1
  have h9 := hR.2.1
  obtain ⟨hP, p, hp, h7, h8, hj⟩ := hC
  by_cases q : m = 0
  · refine ⟨-1000002, σ, jset σ 89 0 0, ?_, ?_, h.bad⟩
    · unfold f_X11_undo
      rw [h7, q]
      rfl
    · unfold f_X12_undo
      rw [jlet_eq, jset_o (by omega), h9, q]
      rfl
  · obtain ⟨n, rfl⟩ : ∃ n, m = n + 1 := ⟨m - 1, by omega⟩
    have ec : (p + 24 - (n + 1) + n) % 24 = (p + 23) % 24 := by omega
    have hd := hj n (by omega)
    rw [ec] at hd
    have e1 : f_X11_undo σ = some (nI n, ldM (jset (jset σ 0 8 (nI ((p + 23) % 24))) 0 7 (nI n)) 22 (56 + (p + 23) % 24)) := by
      unfold f_X11_undo
      rw [h7, if_pos (neL_ (by omega) (by omega) (by omega)), h8, nI_addL, nI_subL (by omega)]
      have e1 : nI (p + 24 - 1) - nI (p + 24 - 1) / (24 : Int32) * (24 : Int32) = nI ((p + 23) % 24) := pk_rem (d := 24) (by omega) (by omega) (by omega)
      rw [e1, jlet_eq, jset_o (by omega), h7, nI_subL (by omega), jlet_eq, jset_o (by omega), jset_i, jldr_eq (by omega) (by omega), Nat.one_mul, load_c, jbv_eq]
      unfold ldM
      rw [jcpy_o (by omega), jcpy_o (by omega), jset_o (by omega), jset_o (by omega), jset_i]
      rfl
    have hC2 : CS (ldM (jset (jset σ 0 8 (nI ((p + 23) % 24))) 0 7 (nI n)) 22 (56 + (p + 23) % 24)) (dy A (L n)) n L := by
      refine ⟨ldM_d (hP.congr (fun c j _ _ => by rw [jset_o (by omega), jset_o (by omega)])) (hd.congr (fun i => by rw [jset_o (by omega), jset_o (by omega)])) hb.2 (by omega), (p + 23) % 24, by omega, ?_, ?_, fun j hj' => ?_⟩
      · unfold ldM
        rw [jcpy_o (by omega), jcpy_o (by omega), jset_o (by omega), jset_o (by omega), jset_i]
      · unfold ldM
        rw [jcpy_o (by omega), jcpy_o (by omega), jset_o (by omega), jset_o (by omega), jset_o (by omega), jset_i]
      · have := hj j (by omega)
        rw [show (p + 24 - (n + 1) + j) % 24 = ((p + 23) % 24 + 24 - n + j) % 24 by omega] at this
        refine this.congr (fun i => ?_)
        unfold ldM
        rw [jcpy_o (by omega), jcpy_o (by omega), jset_o (by omega), jset_o (by omega), jset_o (by omega), jset_o (by omega)]
    have f2 : FR cC σ (ldM (jset (jset σ 0 8 (nI ((p + 23) % 24))) 0 7 (nI n)) 22 (56 + (p + 23) % 24)) := by
      unfold ldM
      exact FR.cpy (FR.cpy (FR.set (FR.set (FR.set (FR.set (FR.refl σ) (by unfold cC; omega)) (by unfold cC; omega)) (by unfold cC; omega)) (by unfold cC; omega)) (fun j _ _ => by unfold cC; omega)) (fun j _ _ => by unfold cC; omega)
    generalize ldM (jset (jset σ 0 8 (nI ((p + 23) % 24))) 0 7 (nI n)) 22 (56 + (p + 23) % 24) = σ1 at e1 hC2 f2
    have hR1 := hR.off g f2
    have e2 : f_X12_undo σ1 = some (nI n, jcpy (jset (jset σ1 89 0 0) 89 9 (nI n)) 96 (67 * n) 93 0 67) := by
      unfold f_X12_undo
      rw [jlet_eq, jset_o (by omega), hR1.2.1, if_pos (neL_ (by omega) (by omega) (by omega)), nI_subL (by omega), jlet_eq]
      have := undoL (σ := jset (jset σ1 89 0 0) 89 9 (nI n)) (m := n) (by omega) jset_i
      show jbd (X12_undo_L27 jFU (0 : Int32) (jset (jset σ1 89 0 0) 89 9 (nI n))) _ = _
      rw [this, jbd_eq, jcpy_o (by omega), jset_i]
    have hR2 : RS (jcpy (jset (jset σ1 89 0 0) 89 9 (nI n)) 96 (67 * n) 93 0 67) (dy A (L n)) n L := by
      refine ⟨(hR1.2.2 n (by omega)).congr (r' := 93) (o' := 0) (g.2.2.2 n (by omega)).2.b (fun i hi => ?_), ?_, fun j hj' => (hR1.2.2 j (by omega)).congr (r' := 96) (o' := 67 * j) (g.2.2.2 j (by omega)).2.b (fun i hi => ?_)⟩
      · rw [jcpy_i (by omega), jset_o (by omega), jset_o (by omega), show 67 * n + (0 + i - 0) = 67 * n + i by omega]
      · rw [jcpy_o (by omega), jset_i]
      · rw [jcpy_o (by omega), jset_o (by omega), jset_o (by omega)]
    have f3 : FR cR σ1 (jcpy (jset (jset σ1 89 0 0) 89 9 (nI n)) 96 (67 * n) 93 0 67) := FR.cpy (FR.set (FR.set (FR.refl _) (by unfold cR; omega)) (by unfold cR; omega)) (fun j _ _ => by unfold cR; omega)
    have gd : GD (dy A (L n)) n L := ⟨by omega, (g.2.2.2 n (by omega)).2, (g.2.2.2 n (by omega)).1, fun j hj => g.2.2.2 j (by omega)⟩
    exact ⟨_, _, _, e1, e2, _, h.join gd (hC2.off f3) hR2 (f2.both f3)⟩
