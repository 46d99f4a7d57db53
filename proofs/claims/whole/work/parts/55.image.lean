/-! ===== PURE: image, restore ===== -/
def fcM (σ : jMem) (k a : Nat) : Nat → jMem
  | 0 => σ
  | n + 1 => jset (fcM σ k a n) k (n + 1) ((fcM σ k a n).1 a (n + 1))
def bcM (σ : jMem) (k a : Nat) : jMem := jcpy (jcpy (jcpy (jcpy (jcpy (jcpy (jcpy (fcM σ k a 7) (a + 1) 0 (k + 1) 0 12) (a + 2) 0 (k + 2) 0 12) (a + 3) 0 (k + 3) 0 12) (a + 4) 0 (k + 4) 0 6) (a + 5) 0 (k + 5) 0 6) (a + 6) 0 (k + 6) 0 6) (a + 7) 0 (k + 7) 0 6
theorem become_c {σ : jMem} {k a : Nat} {A : aP} (h : PC σ a A) (hW : WF A) : f_X5_become k a σ = some (bcM σ k a) := by
  unfold f_X5_become
  have ht := hW.1.1
  rw [jck_t (by rw [h.1.1]; exact jisb_n01 ht)]
  simp only [jlet_eq]
  rw [jcpL_ (by omega) (by omega) (by omega) (by omega), jcpL_ (by omega) (by omega) (by omega) (by omega), jcpL_ (by omega) (by omega) (by omega) (by omega), jcpL_ (by omega) (by omega) (by omega) (by omega), jcpL_ (by omega) (by omega) (by omega) (by omega), jcpL_ (by omega) (by omega) (by omega) (by omega), jcpL_ (by omega) (by omega) (by omega) (by omega)]
  rfl
theorem fcM_o {σ : jMem} {k a c j : Nat} : ∀ (n : Nat), ¬ (c = k ∧ 1 ≤ j ∧ j ≤ n) → (fcM σ k a n).1 c j = σ.1 c j
  | 0, _ => rfl
  | n + 1, h => by
    rw [fcM, jset_o (by omega)]
    exact fcM_o n (by omega)
theorem fcM_i {σ : jMem} {k a j : Nat} (hk : a ≠ k) : ∀ (n : Nat), 1 ≤ j → j ≤ n → (fcM σ k a n).1 k j = σ.1 a j
  | 0, h1, h2 => by omega
  | n + 1, h1, h2 => by
    by_cases q : j = n + 1
    · subst q
      rw [fcM, jset_i]
      exact fcM_o n (by omega)
    · rw [fcM, jset_o (by omega)]
      exact fcM_i hk n h1 (by omega)
theorem bcM_o {σ : jMem} {k a c j : Nat} (h : c < k ∨ k + 7 < c) : (bcM σ k a).1 c j = σ.1 c j := by
  unfold bcM
  rw [jcpy_o (by omega), jcpy_o (by omega), jcpy_o (by omega), jcpy_o (by omega), jcpy_o (by omega), jcpy_o (by omega), jcpy_o (by omega)]
  exact fcM_o 7 (by omega)
theorem bcM_p {σ : jMem} {k a : Nat} {A : aP} (h : PC σ a A) (hW : WF A) (hk : a + 7 < k ∨ k + 7 < a) : PC (bcM σ k a) k A := by
  have hb := hW.b
  have hf : ∀ j, 1 ≤ j → j ≤ 7 → (bcM σ k a).1 k j = σ.1 a j := by
    intro j h1 h2
    unfold bcM
    rw [jcpy_o (by omega), jcpy_o (by omega), jcpy_o (by omega), jcpy_o (by omega), jcpy_o (by omega), jcpy_o (by omega), jcpy_o (by omega)]
    exact fcM_i (by omega) 7 h1 h2
  have h1 : ∀ i, i < 12 → (bcM σ k a).1 (k + 1) i = σ.1 (a + 1) i := by
    intro i hi
    unfold bcM
    rw [jcpy_o (by omega), jcpy_o (by omega), jcpy_o (by omega), jcpy_o (by omega), jcpy_o (by omega), jcpy_o (by omega), jcpy_i (by omega), fcM_o 7 (by omega), Nat.zero_add, Nat.sub_zero]
  have h2 : ∀ i, i < 12 → (bcM σ k a).1 (k + 2) i = σ.1 (a + 2) i := by
    intro i hi
    unfold bcM
    rw [jcpy_o (by omega), jcpy_o (by omega), jcpy_o (by omega), jcpy_o (by omega), jcpy_o (by omega), jcpy_i (by omega), jcpy_o (by omega), fcM_o 7 (by omega), Nat.zero_add, Nat.sub_zero]
  have h3 : ∀ i, i < 12 → (bcM σ k a).1 (k + 3) i = σ.1 (a + 3) i := by
    intro i hi
    unfold bcM
    rw [jcpy_o (by omega), jcpy_o (by omega), jcpy_o (by omega), jcpy_o (by omega), jcpy_i (by omega), jcpy_o (by omega), jcpy_o (by omega), fcM_o 7 (by omega), Nat.zero_add, Nat.sub_zero]
  have h4 : ∀ i, i < 6 → (bcM σ k a).1 (k + 4) i = σ.1 (a + 4) i := by
    intro i hi
    unfold bcM
    rw [jcpy_o (by omega), jcpy_o (by omega), jcpy_o (by omega), jcpy_i (by omega), jcpy_o (by omega), jcpy_o (by omega), jcpy_o (by omega), fcM_o 7 (by omega), Nat.zero_add, Nat.sub_zero]
  have h5 : ∀ i, i < 6 → (bcM σ k a).1 (k + 5) i = σ.1 (a + 5) i := by
    intro i hi
    unfold bcM
    rw [jcpy_o (by omega), jcpy_o (by omega), jcpy_i (by omega), jcpy_o (by omega), jcpy_o (by omega), jcpy_o (by omega), jcpy_o (by omega), fcM_o 7 (by omega), Nat.zero_add, Nat.sub_zero]
  have h6 : ∀ i, i < 6 → (bcM σ k a).1 (k + 6) i = σ.1 (a + 6) i := by
    intro i hi
    unfold bcM
    rw [jcpy_o (by omega), jcpy_i (by omega), jcpy_o (by omega), jcpy_o (by omega), jcpy_o (by omega), jcpy_o (by omega), jcpy_o (by omega), fcM_o 7 (by omega), Nat.zero_add, Nat.sub_zero]
  have h7 : ∀ i, i < 6 → (bcM σ k a).1 (k + 7) i = σ.1 (a + 7) i := by
    intro i hi
    unfold bcM
    rw [jcpy_i (by omega), jcpy_o (by omega), jcpy_o (by omega), jcpy_o (by omega), jcpy_o (by omega), jcpy_o (by omega), jcpy_o (by omega), fcM_o 7 (by omega), Nat.zero_add, Nat.sub_zero]
  obtain ⟨⟨f1, f2, f3, f4, f5, f6, f7⟩, hp, hw⟩ := h
  refine ⟨⟨?_, ?_, ?_, ?_, ?_, ?_, ?_⟩, fun i hi => ⟨?_, ?_, ?_⟩, fun w hw' => ⟨?_, ?_, ?_, ?_⟩⟩
  · rw [hf 1 (by omega) (by omega)]; exact f1
  · rw [hf 2 (by omega) (by omega)]; exact f2
  · rw [hf 3 (by omega) (by omega)]; exact f3
  · rw [hf 4 (by omega) (by omega)]; exact f4
  · rw [hf 5 (by omega) (by omega)]; exact f5
  · rw [hf 6 (by omega) (by omega)]; exact f6
  · rw [hf 7 (by omega) (by omega)]; exact f7
  · rw [h1 i (by omega)]; exact (hp i hi).1
  · rw [h2 i (by omega)]; exact (hp i hi).2.1
  · rw [h3 i (by omega)]; exact (hp i hi).2.2
  · rw [h4 w (by omega)]; exact (hw w hw').1
  · rw [h5 w (by omega)]; exact (hw w hw').2.1
  · rw [h6 w (by omega)]; exact (hw w hw').2.2.1
  · rw [h7 w (by omega)]; exact (hw w hw').2.2.2
theorem bcM_2 {σ : jMem} {k a : Nat} : (bcM σ k a).2 = σ.2 := rfl
theorem imageL {σ : jMem} {j : Nat} (hj : j < 2) : X12_image_L30 (nI j) jFU (0 : Int32) σ = some ((), jcpy σ 93 0 100 (67 * j) 67) := by
  have := jloop_run (body := fun rec s σ => X12_image_L30_b (nI j) rec s σ) (fun k => nI k) (fun k => jcpy σ 93 0 100 (67 * j) k) 67 ((), jcpy σ 93 0 100 (67 * j) 67) ?_ ?_ jFU (by unfold jFU; omega)
  · simp only [jcpy_0] at this
    exact this
  · intro k hk rec
    show X12_image_L30_b _ _ _ _ = _
    unfold X12_image_L30_b
    have h1 := cpy_s (τ := σ) (a := 93) (sp := 0) (b := 100) (dp := 67 * j) (by omega) k
    rw [Nat.zero_add] at h1
    rw [if_neg (Lle_ (by omega) (by omega)), jld_eq (by omega) (by omega), nI_Lmul, nI_add, jst_eq (by omega) (by omega), nI_1]
    rw [← h1]
  · intro rec
    rfl
theorem restoreL {σ : jMem} {j : Nat} (hj : j < 2) : X12_restore_L32 (nI j) jFU (0 : Int32) σ = some ((), jcpy σ 100 (67 * j) 93 0 67) := by
  have := jloop_run (body := fun rec s σ => X12_restore_L32_b (nI j) rec s σ) (fun k => nI k) (fun k => jcpy σ 100 (67 * j) 93 0 k) 67 ((), jcpy σ 100 (67 * j) 93 0 67) ?_ ?_ jFU (by unfold jFU; omega)
  · simp only [jcpy_0] at this
    exact this
  · intro k hk rec
    show X12_restore_L32_b _ _ _ _ = _
    unfold X12_restore_L32_b
    have h1 := cpy_s (τ := σ) (a := 100) (sp := 67 * j) (b := 93) (dp := 0) (by omega) k
    rw [Nat.zero_add] at h1
    rw [if_neg (Lle_ (by omega) (by omega)), nI_Lmul, nI_add, jld_eq (by omega) (by omega), jst_eq (by omega) (by omega), nI_1]
    rw [← h1]
  · intro rec
    rfl
theorem RInv.imgs {σ σ' : jMem} {A : aP} (h : RInv σ A) (hi : ∀ j, j < 2 → RImg σ' j) (e : FR (fun c j => scr c j ∨ (38 ≤ c ∧ c ≤ 53) ∨ c = 99 ∨ c = 100) σ σ') : RInv σ' A := by
  obtain ⟨h1, h2, ⟨w1, w2, w3, w4⟩, h4, _, h6, h7, h8⟩ := h
  have E : ∀ c j, ¬ (scr c j ∨ (38 ≤ c ∧ c ≤ 53) ∨ c = 99 ∨ c = 100) → σ'.1 c j = σ.1 c j := e.1
  refine ⟨fun r hr => (h1 r hr).congr hr (fun c j a b => E c j (by unfold scr; omega)) (fun c j a b => E c j (by unfold scr; omega)), h2.congr (fun j hj => E 13 j (by unfold scr; omega)) (fun j => E 14 j (by unfold scr; omega)) (fun j hj => E 89 j (by unfold scr; omega)) (fun j => E 97 j (by unfold scr; omega)), ⟨w1, w2, w3.congr (fun c j a b => E c j (by unfold scr; omega)), w4.congr (r' := 93) (o' := 0) w1.b (fun j _ => E 93 _ (by unfold scr; omega))⟩, h4.congr ⟨E 0 7 (by unfold scr; omega), E 0 8 (by unfold scr; omega), E 89 9 (by unfold scr; omega)⟩ (fun c j a b => E c j (by unfold scr; omega)) (fun j => E 96 j (by unfold scr; omega)), hi, h6.congr (E 86 3 (by unfold scr; omega)) (fun j => E 87 j (by unfold scr; omega)) (E 89 26 (by unfold scr; omega)) (fun j => E 101 j (by unfold scr; omega)), ?_, h8.congr e.2⟩
  rw [E 0 12 (by unfold scr; omega), E 89 1 (by unfold scr; omega)]
  exact h7
theorem two_c {α : Type} {a : Int32} {x y : α} : (if a < 0 then x else if a < (2 : Int32) then y else x) = if a = 0 ∨ a = 1 then y else x := by
  by_cases h : a = 0 ∨ a = 1
  · rw [if_pos h]
    rcases h with rfl | rfl <;> rfl
  · rw [if_neg h]
    by_cases h1 : a < 0
    · rw [if_pos h1]
    · rw [if_neg h1, if_neg]
      intro h2
      apply h
      rw [pI_lt] at h1 h2
      rw [pI_eq, pI_eq]
      change ¬ a.toInt < 0 at h1
      change a.toInt < 2 at h2
      show a.toInt = 0 ∨ a.toInt = 1
      omega
theorem two_n {a : Int32} (h : a = 0 ∨ a = 1) : ∃ j, j < 2 ∧ a = nI j := by
  rcases h with rfl | rfl
  · exact ⟨0, by omega, rfl⟩
  · exact ⟨1, by omega, rfl⟩
theorem sim_image_ok : sim_image Inv := by
  rintro σ a1 ⟨A, h⟩
  have hb := h.W.b
  have h' := h.t0
  have t1 := h.W.1.1
  by_cases c : a1 = 0 ∨ a1 = 1
  · rcases (show a_th A = 0 ∨ a_th A = 1 by omega) with t | t
    · refine ⟨-1000002, σ, jset σ 89 0 0, ?_, ?_, h.bad⟩
      · unfold f_X11_image
        rw [two_c, if_pos c, h.C.1.1, t, if_neg (by decide)]
      · unfold f_X12_image
        rw [jlet_eq, oneOf_r, if_pos c, jbd_eq, if_pos (by decide), there_r h'.R h.W, t]
        rfl
    · have ec : ¬ σ.1 22 1 = 0 := by rw [h.C.1.1, t]; decide
      have c' := c
      obtain ⟨j, hj, rfl⟩ := two_n c
      have e1 : f_X11_image (nI j) σ = some (1, bcM σ (38 + 8 * j) 22) := by
        unfold f_X11_image
        rw [two_c, if_pos c', if_pos ec, jldr_eq (by omega) (by omega), become_c h.C h.W]
        rfl
      have hR1 : PR (jset (bcM σ (38 + 8 * j) 22) 89 0 0) 93 0 A := h.R.congr (r' := 93) (o' := 0) hb (fun i _ => by rw [jset_o (by omega), bcM_o (by omega)])
      have er := there_r hR1 h.W
      rw [t] at er
      have e2 : f_X12_image (nI j) (bcM σ (38 + 8 * j) 22) = some (1, jset (jcpy (jset (bcM σ (38 + 8 * j) 22) 89 0 0) 93 0 100 (67 * j) 67) 99 j 1) := by
        unfold f_X12_image
        rw [jlet_eq, oneOf_r, if_pos c', jbd_eq, if_pos (by decide), er, jbd_eq, if_pos (by decide), imageL hj, jbd_eq, jst_eq (by omega) (by omega)]
      refine ⟨_, _, _, e1, e2, A, h.imgs (fun i hi => ?_) ?_⟩
      · by_cases q : i = j
        · subst q
          right
          refine ⟨A, h.W, t, h.2.2.1.2.1, ?_, ?_, jset_i⟩
          · exact (bcM_p h.C h.W (by omega)).congr (fun c x _ _ => by rw [jset_o (by omega), jcpy_o (by omega), jset_o (by omega)])
          · exact hR1.congr (r' := 100) (o' := 67 * i) hb (fun x hx => by rw [jset_o (by omega), jcpy_i (by omega), show 0 + (67 * i + x - 67 * i) = 0 + x by omega])
        · rcases h.2.2.2.2.1 i hi with ⟨g1, g2⟩ | ⟨B, g1, g2, g3, g4, g5, g6⟩
          · left
            refine ⟨?_, ?_⟩
            · rw [jset_o (by omega), jcpy_o (by omega), jset_o (by omega), bcM_o (by omega)]; exact g1
            · rw [jset_o (by omega), jcpy_o (by omega), jset_o (by omega), bcM_o (by omega)]; exact g2
          · right
            refine ⟨B, g1, g2, g3, ?_, ?_, ?_⟩
            · exact g4.congr (fun c x _ _ => by rw [jset_o (by omega), jcpy_o (by omega), jset_o (by omega), bcM_o (by omega)])
            · exact g5.congr (r' := 100) (o' := 67 * i) g1.b (fun x hx => by rw [jset_o (by omega), jcpy_o (by omega), jset_o (by omega), bcM_o (by omega)])
            · rw [jset_o (by omega), jcpy_o (by omega), jset_o (by omega), bcM_o (by omega)]; exact g6
      · refine FR.set (FR.cpy (FR.set ⟨fun c x q => bcM_o (by omega), fun n => rfl⟩ (by unfold scr; omega)) (fun x _ _ => by omega)) (by omega)
  · refine ⟨-1000001, σ, jset σ 89 0 0, ?_, ?_, h.bad⟩
    · unfold f_X11_image
      rw [two_c, if_neg c]
    · unfold f_X12_image
      rw [jlet_eq, oneOf_r, if_neg c]
      rfl
theorem sim_restore_ok : sim_restore Inv := by
  rintro σ a1 ⟨A, h⟩
  have hb := h.W.b
  have h' := h.t0
  by_cases c : a1 = 0 ∨ a1 = 1
  · have c' := c
    obtain ⟨j, hj, rfl⟩ := two_n c
    rcases h.2.2.2.2.1 j hj with ⟨g1, g2⟩ | ⟨B, g1, g2, g3, g4, g5, g6⟩
    · refine ⟨-1000002, σ, jset σ 89 0 0, ?_, ?_, h.bad⟩
      · unfold f_X11_restore
        rw [two_c, if_pos c', jldr_eq (by omega) (by omega), g1]
        rfl
      · unfold f_X12_restore
        rw [jlet_eq, oneOf_r, if_pos c', jbd_eq, if_pos (by decide), jld_eq (by omega) (by omega), jset_o (by omega), g2]
        rfl
    · have ec : ¬ σ.1 (38 + 8 * j) 1 = 0 := by rw [g4.1.1, g2]; decide
      have e1 : f_X11_restore (nI j) σ = some (1, jset (bcM σ 22 (38 + 8 * j)) 0 7 0) := by
        unfold f_X11_restore
        rw [two_c, if_pos c', jldr_eq (by omega) (by omega), if_pos ec, jldr_eq (by omega) (by omega), become_c g4 g1]
        rfl
      have e2 : f_X12_restore (nI j) (jset (bcM σ 22 (38 + 8 * j)) 0 7 0) = some (1, jset (jcpy (jset (jset (bcM σ 22 (38 + 8 * j)) 0 7 0) 89 0 0) 100 (67 * j) 93 0 67) 89 9 0) := by
        unfold f_X12_restore
        rw [jlet_eq, oneOf_r, if_pos c', jbd_eq, if_pos (by decide), jld_eq (by omega) (by omega), jset_o (by omega), jset_o (by omega), bcM_o (by omega), g6, if_pos (by decide), restoreL hj, jbd_eq, jlet_eq]
      obtain ⟨m, L, g, ⟨_, p, hp, _, hp8, _⟩, hR⟩ := h.split
      refine ⟨_, _, _, e1, e2, B, h.join (m := 0) (L := L) ⟨by omega, g1, g3, fun i hi => by omega⟩ ⟨?_, p, hp, ?_, ?_, fun i hi => by omega⟩ ⟨?_, jset_i, fun i hi => by omega⟩ ?_⟩
      · exact (bcM_p g4 g1 (by omega)).congr (fun c x _ _ => by rw [jset_o (by omega), jcpy_o (by omega), jset_o (by omega), jset_o (by omega)])
      · rw [jset_o (by omega), jcpy_o (by omega), jset_o (by omega), jset_i]
        rfl
      · rw [jset_o (by omega), jcpy_o (by omega), jset_o (by omega), jset_o (by omega), bcM_o (by omega)]
        exact hp8
      · exact g5.congr (r' := 93) (o' := 0) g1.b (fun x hx => by rw [jset_o (by omega), jcpy_i (by omega), jset_o (by omega), jset_o (by omega), bcM_o (by omega), show 67 * j + (0 + x - 0) = 67 * j + x by omega])
      · refine FR.set (FR.cpy (FR.set (FR.set ⟨fun c x q => bcM_o (by unfold cC at q; omega), fun n => rfl⟩ (by unfold cC; omega)) (by unfold scr; omega)) (fun x _ _ => by unfold cR; omega)) (by unfold cR; omega)
  · refine ⟨-1000001, σ, jset σ 89 0 0, ?_, ?_, h.bad⟩
    · unfold f_X11_restore
      rw [two_c, if_neg c]
    · unfold f_X12_restore
      rw [jlet_eq, oneOf_r, if_neg c]
      rfl
