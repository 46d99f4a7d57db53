/-! ===== PURE: bury, goes, far ===== -/
theorem field_in {a : Int32} (h : 0 ≤ a.toInt ∧ a.toInt ≤ 7) : ∃ v, v < 8 ∧ a = nI v := by
  rcases pI_split a 8 (by omega) with h1 | h1
  · exact h1
  · omega
theorem fld_v {v : Nat} (h : v < 8) : 0 ≤ (nI v).toInt ∧ (nI v).toInt ≤ 7 := by
  rw [nI_toInt (by omega)]
  omega
theorem aSee_sw (A : aP) (w f i : Nat) : aSw (aSee A w f) i = aSw A i ||| snA A w f i := by
  have e1 : aSp (aSee A w f) i = aSp A i := rfl
  unfold aSw snA aLv
  rw [e1]
  show (if a_ag A i ≤ aSp A i then a_sw A i ||| snA A w f i else 0) = _
  by_cases c : a_ag A i ≤ aSp A i
  · rw [if_pos c, if_pos c, if_pos c]
    unfold snA aLv
    rw [if_pos c]
  · rw [if_neg c, if_neg c, if_neg c, if_neg (by omega)]
    rfl
theorem frC_scr {σ τ : jMem} (h : FR frC σ τ) : sEq σ τ := ⟨fun c j q => h.1 c j (fun z => q (by unfold frC at z; unfold scr; omega)), h.2⟩
theorem frW_scr {σ τ : jMem} (h : FR frW σ τ) : sEq σ τ := ⟨fun c j q => h.1 c j (fun z => q (by unfold frW at z; unfold scr; omega)), h.2⟩
theorem CS.seq {σ σ' : jMem} {A : aP} {m : Nat} {L : Nat → aD} (h : CS σ A m L) (e : sEq σ σ') : CS σ' A m L := h.congr (fun c j q => e.1 c j (by unfold cC at q; unfold scr; omega))
theorem RS.seq {σ σ' : jMem} {A : aP} {m : Nat} {L : Nat → aD} (g : GD A m L) (h : RS σ A m L) (e : sEq σ σ') : RS σ' A m L := h.congr g (fun c j q => e.1 c j (by unfold scr; omega))
theorem sEq.fr {σ σ' : jMem} (e : sEq σ σ') : FR (fun c j => scr c j ∨ cC c j ∨ cR c j) σ σ' := ⟨fun c j q => e.1 c j (fun z => q (Or.inl z)), e.2⟩
theorem sim_bury_ok : sim_bury Inv := by
  rintro σ a1 ⟨A, h⟩
  have hb := h.W.b
  have h' := h.t0
  have t1 := h.W.1.1
  rcases (show a_th A = 0 ∨ a_th A = 1 by omega) with t | t
  · refine ⟨-1000002, σ, jset σ 89 0 0, ?_, ?_, h.bad⟩
    · unfold f_X11_bury
      rw [h.C.1.1, t, if_neg (by decide)]
    · unfold f_X12_bury
      rw [jlet_eq, there_r h'.R h.W, t]
      rfl
  · have ec : ¬ σ.1 22 1 = 0 := by rw [h.C.1.1, t]; decide
    by_cases hf : 0 ≤ a1.toInt ∧ a1.toInt ≤ 7
    · have hf' := hf
      obtain ⟨v, hv, rfl⟩ := field_in hf
      obtain ⟨m, L, g, hC, hR⟩ := h.split
      obtain ⟨σ1, b1, b2, b3⟩ := isBur_c h.C h.W (by omega) hv
      have s1 := frC_scr b3
      have hR1 : RS (jset σ1 89 0 0) A m L := hR.seq g (s1.set scr0)
      have er := there_r hR1.1 h.W
      rw [t] at er
      rcases (show bur A v = 0 ∨ bur A v = 1 by have := bur_le A v; omega) with z | z
      · obtain ⟨σ2, r1, r2, r3⟩ := isBur_r hR1.1 h.W hv
        refine ⟨-1000002, σ1, σ2, ?_, ?_, A, h.congr ((s1.set scr0).trans (frW_scr r3))⟩
        · unfold f_X11_bury
          rw [if_pos ec, isField_c, if_pos hf', jbd_eq, if_pos (by decide), b1, z]
          rfl
        · unfold f_X12_bury
          rw [jlet_eq, er, jbd_eq, if_pos (by decide), isField_r, if_pos hf', jbd_eq, if_pos (by decide), jldL_ (by omega) (by omega), (hR1.1.f (o := 0)).2.2.2.2.2.2, r1, z]
          rfl
      · obtain ⟨w1, w2⟩ := b2 z
        have hpid := bur_pid h.W hv z
        have hwy := wy_lt (op := opn A) h.W hv
        have hC1 := hC.seq s1
        obtain ⟨σ2, k1, k2, k3⟩ := kC_spec g hC1
        have g' := g.push
        obtain ⟨σ3, s31, s32, s33⟩ := see_c k2.1 h.W (by omega) hwy (p2_lt hpid) (by rw [k3.1 80 1 (by unfold cC; omega)]; exact w1) (by rw [k3.1 80 2 (by unfold cC; omega)]; exact w2)
        have hWs := aSee_WF h.W hwy (p2_lt hpid)
        have hC3 : CS σ3 (aSee A (wy A (opn A) v) (2 ^ pid A (opn A) v)) (pshN m) (pshL m L (dOf A)) := k2.dyn _ s32 (fun c j q1 q2 => s33.1 c j (by omega))
        have e1 : f_X11_bury (nI v) σ = some (nI (aWays (aSee A (wy A (opn A) v) (2 ^ pid A (opn A) v))), σ3) := by
          unfold f_X11_bury
          rw [if_pos ec, isField_c, if_pos hf', jbd_eq, if_pos (by decide), b1, z, jbd_eq, if_pos (by decide), k1, jbv_eq, s31, jbv_eq, ways_c s32 hWs]
          rfl
        have f13 : FR (fun c j => scr c j ∨ cC c j ∨ cR c j) σ σ3 := (s1.fr.trans (k3.mono (fun c j q => Or.inr (Or.inl q)))).trans (s33.mono (fun c j q => by unfold cC; omega))
        have hR3 : RS (jset σ3 89 0 0) A m L := hR.congr g (fun c j q => by
          rw [jset_o (by omega), s33.1 c j (by omega), k3.1 c j (by unfold cC; omega), s1.1 c j (by unfold scr; omega)])
        have er3 := there_r hR3.1 h.W
        rw [t] at er3
        obtain ⟨σ4, r1, r2, r3⟩ := isBur_r hR3.1 h.W hv
        obtain ⟨x1, x2⟩ := r2 z
        have hR4 := hR3.seq g (frW_scr r3)
        obtain ⟨σ5, l1, l2, l3⟩ := kR_spec g hR4
        obtain ⟨σ6, y1, y2, y3⟩ := see_r l2.1 h.W (by omega) hwy hpid (by rw [l3.1 89 20 (by unfold cR; omega)]; exact x1) (by rw [l3.1 89 21 (by unfold cR; omega)]; exact x2) (Or.inl rfl)
        have hR6 : RS σ6 (aSee A (wy A (opn A) v) (2 ^ pid A (opn A) v)) (pshN m) (pshL m L (dOf A)) := l2.dyn g' _ y2 (fun c j q => y3.1 c j (by omega))
        have e2 : f_X12_bury (nI v) σ3 = some (nI (aWays (aSee A (wy A (opn A) v) (2 ^ pid A (opn A) v))), σ6) := by
          unfold f_X12_bury
          rw [jlet_eq, er3, jbd_eq, if_pos (by decide), isField_r, if_pos hf', jbd_eq, if_pos (by decide), jldL_ (by omega) (by omega), (hR3.1.f (o := 0)).2.2.2.2.2.2, r1, z, jbd_eq, if_pos (by decide), l1, jbv_eq, y1, jbv_eq, ways_r y2 hWs]
          rfl
        have f36 : FR (fun c j => scr c j ∨ cR c j) σ3 σ6 := (((FR.set (FR.refl σ3) (by unfold scr; omega)).trans (r3.mono (fun c j q => by unfold frW at q; unfold scr; omega))).trans (l3.mono (fun c j q => Or.inr q))).trans (y3.mono (fun c j q => by unfold cR; omega))
        refine ⟨_, _, _, e1, e2, _, h.join (g'.dyn _ g.2.2.1 hWs) (hC3.congr (fun c j q => f36.1 c j (by unfold cC at q; unfold scr cR; omega))) hR6 (f13.trans (f36.mono (fun c j q => by rcases q with q | q; exact Or.inl q; exact Or.inr (Or.inr q))))⟩
    · have er := there_r h'.R h.W
      rw [t] at er
      refine ⟨-1000001, σ, jset σ 89 0 0, ?_, ?_, h.bad⟩
      · unfold f_X11_bury
        rw [if_pos ec, isField_c, if_neg hf]
        rfl
      · unfold f_X12_bury
        rw [jlet_eq, er, jbd_eq, if_pos (by decide), isField_r, if_neg hf]
        rfl
theorem RInv.seqC {σ σ' : jMem} {A : aP} (h : RInv σ A) (e : sEq σ σ') : PR (jset σ' 89 0 0) 93 0 A := (h.congr (e.set scr0)).R
theorem sim_goes_ok : sim_goes Inv := by
  rintro σ a1 a2 ⟨A, h⟩
  have hb := h.W.b
  have h' := h.t0
  have t1 := h.W.1.1
  have hI := INF_v
  rcases (show a_th A = 0 ∨ a_th A = 1 by omega) with t | t
  · refine ⟨-1000002, σ, jset σ 89 0 0, ?_, ?_, h.bad⟩
    · unfold f_X11_goes
      rw [h.C.1.1, t, if_neg (by decide)]
    · unfold f_X12_goes
      rw [jlet_eq, there_r h'.R h.W, t]
      rfl
  · have ec : ¬ σ.1 22 1 = 0 := by rw [h.C.1.1, t]; decide
    have er := there_r h'.R h.W
    rw [t] at er
    by_cases hf : 0 ≤ a1.toInt ∧ a1.toInt ≤ 7
    · have hf' := hf
      obtain ⟨v, hv, rfl⟩ := field_in hf
      by_cases c : a2 = 0 ∨ a2 = 1
      · obtain ⟨σ1, b1, b2, b3, b4, b5, b6⟩ := carry_c (op := opn A) h.C h.W (by omega) (np_lt h.W (opn_lt A)) hv
        have s1 := frC_scr b6
        have hR1 := h.seqC s1
        have er1 := there_r hR1 h.W
        rw [t] at er1
        have hg := np_lt h.W h.W.1.2.2.2.2.2.2
        obtain ⟨σ2, r1, r2, r3, r4, r5, r6⟩ := layWay_r (g := a_gt A) hR1 h.W (by omega) hv
        have s2 := (s1.set (v := 0) scr0).trans (frW_scr r6)
        by_cases ci : dst A (opn A) v = INF
        · refine ⟨-1000000, σ1, σ2, ?_, ?_, A, h.congr s2⟩
          · unfold f_X11_goes
            rw [if_pos ec, isField_c, if_pos hf', jbd_eq, if_neg (by decide), oneOf_c, if_pos c, jbd_eq, if_pos (by decide), open_c h.C h.W, jbd_eq]
            show jbd (f_X2_carry 22 (nI (opn A)) (nI v) σ) _ = _
            rw [b1, jbd_eq, if_pos ci]
            rfl
          · unfold f_X12_goes
            rw [jlet_eq, er1, jbd_eq, if_pos (by decide), isField_r, if_pos hf', jbd_eq, if_neg (by decide), oneOf_r, if_pos c, jbd_eq, if_pos (by decide), jldL_ (by omega) (by omega), (hR1.f (o := 0)).2.2.2.2.2.2, r1, jbv_eq, r4]
            show (if rF (dst A (opn A) v) = _ then some (rF (dst A (opn A) v), σ2) else _) = _
            rw [ci, rF_i, if_pos rfl]
        · have q1 : dst A (opn A) v ≤ 1728 := by rcases dst_fn (opn A) h.W v with q | q <;> omega
          by_cases c0 : a2 = 0
          · refine ⟨nI (dst A (opn A) v), σ1, σ2, ?_, ?_, A, h.congr s2⟩
            · unfold f_X11_goes
              rw [if_pos ec, isField_c, if_pos hf', jbd_eq, if_neg (by decide), oneOf_c, if_pos c, jbd_eq, if_pos (by decide), open_c h.C h.W, jbd_eq]
              show jbd (f_X2_carry 22 (nI (opn A)) (nI v) σ) _ = _
              rw [b1, jbd_eq, if_neg ci, if_pos (by decide), if_neg (fun z => z c0), b2, cF_n (by omega)]
            · unfold f_X12_goes
              rw [jlet_eq, er1, jbd_eq, if_pos (by decide), isField_r, if_pos hf', jbd_eq, if_neg (by decide), oneOf_r, if_pos c, jbd_eq, if_pos (by decide), jldL_ (by omega) (by omega), (hR1.f (o := 0)).2.2.2.2.2.2, r1, jbv_eq, r4]
              show (if rF (dst A (opn A) v) = _ then _ else if _ then _ else some (rF (dst A (opn A) v), σ2)) = _
              rw [rF_n (by omega), if_neg (nI_ne_inf (by omega)), if_neg (fun z => z c0)]
          · refine ⟨nI (wy A (opn A) v), σ1, σ2, ?_, ?_, A, h.congr s2⟩
            · unfold f_X11_goes
              rw [if_pos ec, isField_c, if_pos hf', jbd_eq, if_neg (by decide), oneOf_c, if_pos c, jbd_eq, if_pos (by decide), open_c h.C h.W, jbd_eq]
              show jbd (f_X2_carry 22 (nI (opn A)) (nI v) σ) _ = _
              rw [b1, jbd_eq, if_neg ci, if_pos (by decide), if_pos c0, b3]
            · unfold f_X12_goes
              rw [jlet_eq, er1, jbd_eq, if_pos (by decide), isField_r, if_pos hf', jbd_eq, if_neg (by decide), oneOf_r, if_pos c, jbd_eq, if_pos (by decide), jldL_ (by omega) (by omega), (hR1.f (o := 0)).2.2.2.2.2.2, r1, jbv_eq, r4]
              show (if rF (dst A (opn A) v) = _ then _ else _) = _
              rw [rF_n (by omega), if_neg (nI_ne_inf (by omega)), if_pos c0, r2]
              rfl
      · refine ⟨-1000001, σ, jset σ 89 0 0, ?_, ?_, h.bad⟩
        · unfold f_X11_goes
          rw [if_pos ec, isField_c, if_pos hf', jbd_eq, if_neg (by decide), oneOf_c, if_neg c]
          rfl
        · unfold f_X12_goes
          rw [jlet_eq, er, jbd_eq, if_pos (by decide), isField_r, if_pos hf', jbd_eq, if_neg (by decide), oneOf_r, if_neg c]
          rfl
    · refine ⟨-1000001, σ, jset σ 89 0 0, ?_, ?_, h.bad⟩
      · unfold f_X11_goes
        rw [if_pos ec, isField_c, if_neg hf]
        rfl
      · unfold f_X12_goes
        rw [jlet_eq, er, jbd_eq, if_pos (by decide), isField_r, if_neg hf]
        rfl
theorem fr98 {σ τ : jMem} (h : FR (fun c _ => c = 98) σ τ) : sEq σ τ := ⟨fun c j q => h.1 c j (fun z => q (by unfold scr; omega)), h.2⟩
theorem sim_far_ok : sim_far Inv := by
  rintro σ a1 ⟨A, h⟩
  have hb := h.W.b
  have h' := h.t0
  have t1 := h.W.1.1
  have hI := INF_v
  rcases (show a_th A = 0 ∨ a_th A = 1 by omega) with t | t
  · refine ⟨-1000002, σ, jset σ 89 0 0, ?_, ?_, h.bad⟩
    · unfold f_X11_far
      rw [h.C.1.1, t, if_neg (by decide)]
    · unfold f_X12_far
      rw [jlet_eq, there_r h'.R h.W, t]
      rfl
  · have ec : ¬ σ.1 22 1 = 0 := by rw [h.C.1.1, t]; decide
    have er := there_r h'.R h.W
    rw [t] at er
    by_cases hf : 0 ≤ a1.toInt ∧ a1.toInt ≤ 7
    · have hf' := hf
      obtain ⟨v, hv, rfl⟩ := field_in hf
      have hop : 2 ^ a_np A - 1 < 4096 := np_lt h.W (by have := Nat.two_pow_pos (a_np A); omega)
      obtain ⟨σ1, b1, b2, b3, b4, b5, b6⟩ := carry_c (op := 2 ^ a_np A - 1) h.C h.W (by omega) hop hv
      have s1 := frC_scr b6
      have hR1 := h.seqC s1
      have er1 := there_r hR1 h.W
      rw [t] at er1
      obtain ⟨σ2, r1, r2, r3⟩ := layFars_r hR1 h.W hop
      have s2 := (s1.set (v := 0) scr0).trans (fr98 r3)
      refine ⟨rF (dst A (2 ^ a_np A - 1) v), σ1, σ2, ?_, ?_, A, h.congr s2⟩
      · unfold f_X11_far
        rw [if_pos ec, isField_c, if_pos hf', jbd_eq, if_pos (by decide), allP_c h.C h.W, jbd_eq, b1, jbd_eq]
        by_cases ci : dst A (2 ^ a_np A - 1) v = INF
        · rw [if_pos ci, ci, rF_i]
          rfl
        · have q1 : dst A (2 ^ a_np A - 1) v ≤ 1728 := by rcases dst_fn (2 ^ a_np A - 1) h.W v with q | q <;> omega
          rw [if_neg ci, if_neg (by decide), b2, cF_n (by omega), rF_n (by omega)]
      · unfold f_X12_far
        rw [jlet_eq, er1, jbd_eq, if_pos (by decide), isField_r, if_pos hf', jbd_eq, if_pos (by decide), allP_r hR1 h.W, jbd_eq, r1, jbv_eq, jld_eq (by omega) (by omega), r2 v hv]
    · refine ⟨-1000001, σ, jset σ 89 0 0, ?_, ?_, h.bad⟩
      · unfold f_X11_far
        rw [if_pos ec, isField_c, if_neg hf]
        rfl
      · unfold f_X12_far
        rw [jlet_eq, er, jbd_eq, if_pos (by decide), isField_r, if_neg hf]
        rfl
