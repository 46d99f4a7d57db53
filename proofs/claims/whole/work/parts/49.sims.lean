/-! ===== PURE: witness, path, stand, kind, as, count ===== -/
theorem RInv.W {σ : jMem} {A : aP} (h : RInv σ A) : WF A := h.2.2.1.1
theorem RInv.C {σ : jMem} {A : aP} (h : RInv σ A) : PC σ 22 A := h.2.2.1.2.2.1
theorem RInv.R {σ : jMem} {A : aP} (h : RInv σ A) : PR σ 93 0 A := h.2.2.1.2.2.2
theorem inN {n : Nat} {a : Int32} (h : ∃ p, p < n ∧ a = nI p) (hn : n < 2 ^ 31) : 0 ≤ a.toInt ∧ a.toInt ≤ (n : Int) - 1 := by
  obtain ⟨p, hp, rfl⟩ := h
  rw [nI_toInt (by omega)]
  omega
theorem sim_witness_ok : sim_witness Inv := by
  rintro σ a1 a2 ⟨A, h⟩
  have hb := h.W.b
  have h' := h.t0
  rcases hasWit_c h.C h.W a1 with ⟨w, hw, rfl, e⟩ | ⟨ho, e⟩
  · have hin := inN ⟨w, hw, rfl⟩ (by omega)
    obtain ⟨g1, g2, g3, g4⟩ := h.C.2.2 w hw
    unfold f_X11_witness f_X12_witness
    by_cases c0 : a2 = 0
    · refine ⟨nI (a_ag A w), σ, jset σ 89 0 0, ?_, ?_, h.bad⟩
      · rw [e, jbd_eq, if_pos (by decide), if_pos c0, jld_eq (by omega) (by omega), g3]
      · rw [jlet_eq, isWit_r h'.R h.W, if_pos hin, jbd_eq, if_pos (by decide), if_pos c0, of_a h'.R h.W hw]
        rfl
    · by_cases c1 : a2 = 1
      · refine ⟨nI (a_hm A w), σ, jset σ 89 0 0, ?_, ?_, h.bad⟩
        · rw [e, jbd_eq, if_pos (by decide), if_neg c0, if_pos c1, jld_eq (by omega) (by omega), g2]
        · rw [jlet_eq, isWit_r h'.R h.W, if_pos hin, jbd_eq, if_pos (by decide), if_neg c0, if_pos c1, of_h h'.R h.W hw]
          rfl
      · by_cases c2 : a2 = 2
        · refine ⟨nI (aLv A w), σ, jset σ 89 0 0, ?_, ?_, h.bad⟩
          · rw [e, jbd_eq, if_pos (by decide), if_neg c0, if_neg c1, if_pos c2, alive_c h.C h.W hw, jbd_eq]
            rcases (show aLv A w = 0 ∨ aLv A w = 1 by have := aLv_le A w; omega) with z | z <;> rw [z] <;> rfl
          · rw [jlet_eq, isWit_r h'.R h.W, if_pos hin, jbd_eq, if_pos (by decide), if_neg c0, if_neg c1, if_pos c2, lives_r h'.R h.W hw, jbd_eq]
            rcases (show aLv A w = 0 ∨ aLv A w = 1 by have := aLv_le A w; omega) with z | z <;> rw [z] <;> rfl
        · by_cases c3 : a2 = 3
          · refine ⟨nI (aSw A w), σ, jset σ 89 0 0, ?_, ?_, h.bad⟩
            · rw [e, jbd_eq, if_pos (by decide), if_neg c0, if_neg c1, if_neg c2, if_pos c3, swears_c h.C h.W hw]
              rfl
            · rw [jlet_eq, isWit_r h'.R h.W, if_pos hin, jbd_eq, if_pos (by decide), if_neg c0, if_neg c1, if_neg c2, if_pos c3, swears_r h'.R h.W hw]
              rfl
          · refine ⟨-1000001, σ, jset σ 89 0 0, ?_, ?_, h.bad⟩
            · rw [e, jbd_eq, if_pos (by decide), if_neg c0, if_neg c1, if_neg c2, if_neg c3]
            · rw [jlet_eq, isWit_r h'.R h.W, if_pos hin, jbd_eq, if_pos (by decide), if_neg c0, if_neg c1, if_neg c2, if_neg c3]
  · refine ⟨-1000001, σ, jset σ 89 0 0, ?_, ?_, h.bad⟩
    · unfold f_X11_witness
      rw [e]
      rfl
    · unfold f_X12_witness
      rw [jlet_eq, isWit_r h'.R h.W, if_neg (by omega)]
      rfl
theorem sim_kind_ok : sim_kind Inv := by
  rintro σ a1 ⟨A, h⟩
  have hb := h.W.b
  have h' := h.t0
  rcases hasWit_c h.C h.W a1 with ⟨w, hw, rfl, e⟩ | ⟨ho, e⟩
  · have hin := inN ⟨w, hw, rfl⟩ (by omega)
    refine ⟨nI (a_kd A w), σ, jset σ 89 0 0, ?_, ?_, h.bad⟩
    · unfold f_X11_kind
      rw [e, jbd_eq, if_neg (by decide), jld_eq (by omega) (by omega), (h.C.2.2 w hw).1]
    · unfold f_X12_kind
      rw [jlet_eq, isWit_r h'.R h.W, if_pos hin, jbd_eq, if_neg (by decide), of_k h'.R h.W hw]
      rfl
  · refine ⟨-1000001, σ, jset σ 89 0 0, ?_, ?_, h.bad⟩
    · unfold f_X11_kind
      rw [e]
      rfl
    · unfold f_X12_kind
      rw [jlet_eq, isWit_r h'.R h.W, if_neg (by omega)]
      rfl
theorem sim_stand_ok : sim_stand Inv := by
  rintro σ a1 ⟨A, h⟩
  have hb := h.W.b
  have h' := h.t0
  have t1 := h.W.1.1
  rcases (show a_th A = 0 ∨ a_th A = 1 by omega) with t | t
  · refine ⟨-1000002, σ, jset σ 89 0 0, ?_, ?_, h.bad⟩
    · unfold f_X11_stand
      rw [h.C.1.1, t, if_neg (by decide)]
    · unfold f_X12_stand
      rw [jlet_eq, there_r h'.R h.W, t]
      rfl
  · have ec : ¬ σ.1 22 1 = 0 := by rw [h.C.1.1, t]; decide
    have er := there_r h'.R h.W
    rw [t] at er
    have hr := h'.R.f (o := 0)
    unfold f_X11_stand f_X12_stand
    by_cases c0 : a1 = 0
    · refine ⟨nI (aWays A), σ, jset σ 89 0 0, ?_, ?_, h.bad⟩
      · rw [if_pos ec, if_pos c0, ways_c h.C h.W]
        rfl
      · rw [jlet_eq, er, jbd_eq, if_pos (by decide), if_pos c0, ways_r h'.R h.W]
        rfl
    · by_cases c1 : a1 = 1
      · refine ⟨nI (a_gt A), σ, jset σ 89 0 0, ?_, ?_, h.bad⟩
        · rw [if_pos ec, if_neg c0, if_pos c1, h.C.1.2.2.2.2.2.2]
        · rw [jlet_eq, er, jbd_eq, if_pos (by decide), if_neg c0, if_pos c1, show (6 : Int32) = nI 6 from rfl, jld_eq (by omega) (by omega), hr.2.2.2.2.2.2]
      · by_cases c2 : a1 = 2
        · refine ⟨nI (aLiv A), σ, jset σ 89 0 0, ?_, ?_, h.bad⟩
          · rw [if_pos ec, if_neg c0, if_neg c1, if_pos c2, living_c h.C h.W]
            rfl
          · rw [jlet_eq, er, jbd_eq, if_pos (by decide), if_neg c0, if_neg c1, if_pos c2, living_r h'.R h.W]
            rfl
        · by_cases c3 : a1 = 3
          · refine ⟨nI (a_ch A), σ, jset σ 89 0 0, ?_, ?_, h.bad⟩
            · rw [if_pos ec, if_neg c0, if_neg c1, if_neg c2, if_pos c3, h.C.1.2.1]
            · rw [jlet_eq, er, jbd_eq, if_pos (by decide), if_neg c0, if_neg c1, if_neg c2, if_pos c3, show (1 : Int32) = nI 1 from rfl, jld_eq (by omega) (by omega), hr.2.1]
          · refine ⟨-1000001, σ, jset σ 89 0 0, ?_, ?_, h.bad⟩
            · rw [if_pos ec, if_neg c0, if_neg c1, if_neg c2, if_neg c3]
            · rw [jlet_eq, er, jbd_eq, if_pos (by decide), if_neg c0, if_neg c1, if_neg c2, if_neg c3]
theorem pathL_r {σ : jMem} {A : aP} (hP : PR σ 93 0 A) (hW : WF A) {p : Nat} (hp : p < 12) (x : Int32) : X12_path_L52 (nI p) x jFU ((0 : Int32), (0 : Int32)) σ = some (nI (orN (fun w => bt1 (aSw A w) p * 2 ^ w) (a_nw A)), σ) := by
  have hb := hW.b
  refine jloop_run (body := fun rec s9 σ => X12_path_L52_b (nI p) x rec s9.1 s9.2 σ) (fun i => (nI (orN (fun w => bt1 (aSw A w) p * 2 ^ w) i), nI i)) (fun _ => σ) (a_nw A) _ ?_ ?_ jFU (by unfold jFU; omega)
  · intro i hi rec
    have hlt := np_lt hW (aSw_lt hW hi)
    show X12_path_L52_b (nI p) x rec (nI (orN (fun w => bt1 (aSw A w) p * 2 ^ w) i)) (nI i) σ = _
    unfold X12_path_L52_b
    rw [show (4 : Int32) = nI 4 from rfl, jld_eq (by omega) (by omega), (hP.f (o := 0)).2.2.2.2.1, if_neg (fun q => absurd ((nI_leI (by omega) (by omega)).mp q) (by omega)), swears_r hP hW hi, jbd_eq, has_bit (by omega) (by omega), jbd_eq]
    have hle := bt1_le (aSw A i) p
    rcases (show bt1 (aSw A i) p = 0 ∨ bt1 (aSw A i) p = 1 by omega) with e | e
    · rw [e, if_pos (by decide), jlet_eq, show (0 : Int32) = nI 0 from rfl, nI_or, nI_1]
      simp only [orN, e, Nat.zero_mul, Nat.or_zero]
    · rw [e, if_neg (by decide), jlet_eq, nI_one_shl (by omega), nI_or, nI_1]
      simp only [orN, e, Nat.one_mul]
  · intro rec
    show X12_path_L52_b (nI p) x rec (nI (orN (fun w => bt1 (aSw A w) p * 2 ^ w) (a_nw A))) (nI (a_nw A)) σ = _
    unfold X12_path_L52_b
    rw [show (4 : Int32) = nI 4 from rfl, jld_eq (by omega) (by omega), (hP.f (o := 0)).2.2.2.2.1, if_pos (nI_le (Nat.le_refl _) (by omega))]
theorem sim_path_ok : sim_path Inv := by
  rintro σ a1 a2 ⟨A, h⟩
  have hb := h.W.b
  have h' := h.t0
  have hgt := np_lt h.W h.W.1.2.2.2.2.2.2
  rcases hasPath_c h.C h.W a1 with ⟨p, hp, rfl, e⟩ | ⟨ho, e⟩
  · have hin := inN ⟨p, hp, rfl⟩ (by omega)
    obtain ⟨g1, g2, g3⟩ := h.C.2.1 p hp
    obtain ⟨r1, r2, r3⟩ := h'.R.2.1 p hp
    simp only [Nat.zero_add] at r1 r2 r3
    unfold f_X11_path f_X12_path
    have ein : ∀ n : Nat, n < 5 → a2 = nI n → f_X12_in a2.toInt64 (0 : Int64) (4 : Int64) (jset σ 89 0 0) = some (1, jset σ 89 0 0) := by
      intro n hn hx
      simp only [nlitL]
      rw [in_lit _ _ _ (by omega) (by omega), hx, nI_toInt (by omega), if_pos (by omega)]
    by_cases c0 : a2 = 0
    · refine ⟨nI (a_pa A p), σ, jset σ 89 0 0, ?_, ?_, h.bad⟩
      · rw [e, jbd_eq, if_pos (by decide), if_pos c0, jld_eq (by omega) (by omega), g1]
      · rw [jlet_eq, isPath_r h'.R h.W, if_pos hin, jbd_eq, if_neg (by decide), ein 0 (by omega) c0, jbd_eq, if_pos (by decide), c0, if_neg (by decide), Int32.add_zero, show (7 : Int32) = nI 7 from rfl, show (3 : Int32) = nI 3 from rfl, pk_mul, nI_add, jld_eq (by omega) (by omega), r1]
    · by_cases c1 : a2 = 1
      · refine ⟨nI (a_pb A p), σ, jset σ 89 0 0, ?_, ?_, h.bad⟩
        · rw [e, jbd_eq, if_pos (by decide), if_neg c0, if_pos c1, jld_eq (by omega) (by omega), g2]
        · rw [jlet_eq, isPath_r h'.R h.W, if_pos hin, jbd_eq, if_neg (by decide), ein 1 (by omega) c1, jbd_eq, if_pos (by decide), c1, if_neg (by decide), show (1 : Int32) = nI 1 from rfl, show (7 : Int32) = nI 7 from rfl, show (3 : Int32) = nI 3 from rfl, pk_mul, nI_add, nI_add, jld_eq (by omega) (by omega), r2]
      · by_cases c2 : a2 = 2
        · refine ⟨nI (a_pl A p), σ, jset σ 89 0 0, ?_, ?_, h.bad⟩
          · rw [e, jbd_eq, if_pos (by decide), if_neg c0, if_neg c1, if_pos c2, jld_eq (by omega) (by omega), g3]
          · rw [jlet_eq, isPath_r h'.R h.W, if_pos hin, jbd_eq, if_neg (by decide), ein 2 (by omega) c2, jbd_eq, if_pos (by decide), c2, if_neg (by decide), show (2 : Int32) = nI 2 from rfl, show (7 : Int32) = nI 7 from rfl, show (3 : Int32) = nI 3 from rfl, pk_mul, nI_add, nI_add, jld_eq (by omega) (by omega), r3]
        · by_cases c3 : a2 = 3
          · refine ⟨nI (bt1 (a_gt A) p), σ, jset σ 89 0 0, ?_, ?_, h.bad⟩
            · rw [e, jbd_eq, if_pos (by decide), if_neg c0, if_neg c1, if_neg c2, if_pos c3, h.C.1.2.2.2.2.2.2, bitOf_spec (by omega) (by omega)]
              rfl
            · rw [jlet_eq, isPath_r h'.R h.W, if_pos hin, jbd_eq, if_neg (by decide), ein 3 (by omega) c3, jbd_eq, if_pos (by decide), if_pos (by rw [c3]; decide), pathL_r h'.R h.W (by omega), jbd_eq, if_neg (fun q => q c3), show (6 : Int32) = nI 6 from rfl, jld_eq (by omega) (by omega), (h'.R.f (o := 0)).2.2.2.2.2.2, nI_bit (by omega) (by omega)]
          · by_cases c4 : a2 = 4
            · refine ⟨nI (orN (fun w => bt1 (aSw A w) p * 2 ^ w) (a_nw A)), σ, jset σ 89 0 0, ?_, ?_, h.bad⟩
              · rw [e, jbd_eq, if_pos (by decide), if_neg c0, if_neg c1, if_neg c2, if_neg c3, if_pos c4, swearing_c h.C h.W (by omega)]
                rfl
              · rw [jlet_eq, isPath_r h'.R h.W, if_pos hin, jbd_eq, if_neg (by decide), ein 4 (by omega) c4, jbd_eq, if_pos (by decide), if_pos (by rw [c4]; decide), pathL_r h'.R h.W (by omega), jbd_eq, if_pos c3]
            · refine ⟨-1000001, σ, jset σ 89 0 0, ?_, ?_, h.bad⟩
              · rw [e, jbd_eq, if_pos (by decide), if_neg c0, if_neg c1, if_neg c2, if_neg c3, if_neg c4]
              · rw [jlet_eq, isPath_r h'.R h.W, if_pos hin, jbd_eq, if_neg (by decide)]
                simp only [nlitL]
                rw [in_lit _ _ _ (by omega) (by omega), if_neg (by
                  intro q
                  rw [pI_eq] at c0 c1 c2 c3 c4
                  have e0 : (0 : Int32).toInt = 0 := rfl
                  have e1 : (1 : Int32).toInt = 1 := rfl
                  have e2 : (2 : Int32).toInt = 2 := rfl
                  have e3 : (3 : Int32).toInt = 3 := rfl
                  have e4 : (4 : Int32).toInt = 4 := rfl
                  omega), jbd_eq, if_neg (by decide)]
  · refine ⟨-1000001, σ, jset σ 89 0 0, ?_, ?_, h.bad⟩
    · unfold f_X11_path
      rw [e]
      rfl
    · unfold f_X12_path
      rw [jlet_eq, isPath_r h'.R h.W, if_neg (by omega)]
      rfl
