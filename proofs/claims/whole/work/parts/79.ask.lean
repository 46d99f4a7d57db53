/-! ===== PURE: ask, alike ===== -/
theorem sim_ask_ok : sim_ask Inv := by
  rintro σ a1 a2 ⟨A, h⟩
  have hb := h.W.b
  have h' := h.t0
  rcases hasWit_c h.C h.W a1 with ⟨w, hw, rfl, ew⟩ | ⟨ho, ew⟩
  · have erw : ∀ τ : jMem, PR τ 93 0 A → f_X12_isWitness (nI w) τ = some (1, τ) := by
      intro τ hτ
      rw [isWit_r hτ h.W, nI_toInt (by omega), if_pos (by omega)]
    by_cases c : a2 = 0 ∨ a2 = 1
    · have hk := h.W.2.2.2 w hw
      obtain ⟨p1, p2, p3, p4⟩ := h.C.2.2 w hw
      have hlt := np_lt h.W (aSw_lt h.W hw)
      have hPa : ∀ (j : Nat) (v : Int32) (τ : jMem), PC τ 22 A → PC (jset τ 86 j v) 22 A := fun j v τ hτ => hτ.congr (fun c i q1 q2 => jset_o (by omega))
      have hP1 := hPa 1 (nI (a_ag A w)) _ (hPa 0 (nI w) σ h.C)
      have hσ0 : ∃ σ0 : jMem, σ0 = jset (jset (jset (jset σ 86 0 (nI w)) 86 1 (nI (a_ag A w))) 86 2 (nI (popc (aSw A w)))) 86 3 (0 : Int32) := ⟨_, rfl⟩
      obtain ⟨σ0, e0⟩ := hσ0
      have q0 : σ0.1 86 0 = nI w := by rw [e0, jset_o (by omega), jset_o (by omega), jset_o (by omega), jset_i]
      have q1 : σ0.1 86 1 = nI (a_ag A w) := by rw [e0, jset_o (by omega), jset_o (by omega), jset_i]
      have q2 : σ0.1 86 2 = nI (popc (aSw A w)) := by rw [e0, jset_o (by omega), jset_i]
      have q3 : σ0.1 86 3 = 0 := by rw [e0, jset_i]
      have qo : ∀ c j, c ≠ 86 → σ0.1 c j = σ.1 c j := fun c j hc => by rw [e0, jset_o (by omega), jset_o (by omega), jset_o (by omega), jset_o (by omega)]
      have q26 : σ0.1 26 w = nI (a_kd A w) := by rw [qo 26 w (by omega)]; exact p1
      have q2L : σ0.2 = σ.2 := by rw [e0]; rfl
      have T0 : TQ 87 86 3 σ0 σ0 [] := ⟨q3, fun i hi => absurd hi (Nat.not_lt_zero i), fun _ _ _ _ => rfl, rfl⟩
      -- what both come to
      have fin : ∀ (f : jMem → Option (Int32 × jMem)) (g : jMem → Option (Int32 × jMem)) (V : Int32) (L : List Int32), L.length ≤ 16 → BC σ0 f V L → (∀ τ, PR τ 93 0 A → BR τ g V L) → ∃ σ1 σ2, f σ0 = some (V, σ1) ∧ PR (jset σ1 89 0 0) 93 0 A ∧ g (jset (jset σ1 89 0 0) 89 26 0) = some (V, σ2) ∧ RInv σ2 A := by
        intro f g V L hL hf hg
        obtain ⟨σ1, f1, f2⟩ := hf σ0 [] T0 (by show 0 + _ ≤ 16; omega)
        have hR : ∀ τ : jMem, (∀ j, τ.1 93 j = σ.1 93 j) → PR τ 93 0 A := fun τ hτ => h.R.congr (r' := 93) (o' := 0) h.W.b (fun j _ => hτ _)
        have r93 : ∀ j, σ1.1 93 j = σ.1 93 j := fun j => by rw [f2.2.2.1 93 j (by omega) (by omega), qo 93 j (by omega)]
        have hRa : PR (jset σ1 89 0 0) 93 0 A := hR _ (fun j => by rw [jset_o (by omega)]; exact r93 j)
        have hRb : PR (jset (jset σ1 89 0 0) 89 26 0) 93 0 A := hR _ (fun j => by rw [jset_o (by omega), jset_o (by omega)]; exact r93 j)
        obtain ⟨σ2, g1, g2⟩ := hg _ hRb (jset (jset σ1 89 0 0) 89 26 0) [] ⟨jset_i, fun i hi => absurd hi (Nat.not_lt_zero i), fun _ _ _ _ => rfl, rfl⟩ (by show 0 + _ ≤ 16; omega)
        have o2 : ∀ c j, c ≠ 101 → ¬ (c = 89 ∧ j = 26) → ¬ (c = 89 ∧ j = 0) → σ2.1 c j = σ1.1 c j := fun c j z1 z2 z3 => by rw [g2.2.2.1 c j z1 z2, jset_o z2, jset_o z3]
        refine ⟨σ1, σ2, f1, hRa, g1, h.tr ?_ ?_ ?_⟩
        · refine ⟨L.length, hL, ?_, g2.1, fun i hi => ?_⟩
          · rw [o2 86 3 (by omega) (by omega) (by omega)]
            exact f2.1
          · rw [o2 87 i (by omega) (by omega) (by omega), f2.2.1 i hi]
            exact (g2.2.1 i hi).symm
        · intro c j z0 z1 z2 z3 z4
          rw [o2 c j z4 z3 (fun q => z0 (by unfold scr; omega)), f2.2.2.1 c j z2 (by omega), qo c j z1]
        · intro n
          rw [g2.2.2.2, show (jset (jset σ1 89 0 0) 89 26 0).2 = σ1.2 from rfl, f2.2.2.2, q2L]
      have pre : ∀ K : Nat → jMem → Option (Int32 × jMem), (jlet (jset σ 86 0 (nI w)) fun σ7 => jld σ7 28 6 (nI w) fun v8 => jlet (jset σ7 86 1 v8) fun σ9 => jbd (f_X5_swears 22 (nI w) σ9) fun v10 σ11 => jbd (f_J6_bitCount_0f7a4 v10 σ11) fun v13 σ14 => jlet (jset σ14 86 2 v13) fun σ16 => jlet (jset σ16 86 3 (0 : Int32)) fun σ17 => jld σ17 26 6 (nI w) fun v18 => jldr 6 16 1 v18 fun k19 => K k19 σ17) = K (16 + 1 * a_kd A w) σ0 := by
        intro K
        rw [jlet_eq, jld_eq (by omega) (by omega), jset_o (by omega), show σ.1 28 w = nI (a_ag A w) from p3, jlet_eq, swears_c hP1 h.W hw, jbd_eq, bc_spec hlt, jbd_eq, jlet_eq, jlet_eq, ← e0, jld_eq (by omega) (by omega), q26, jldr_eq (by omega) (by omega)]
      by_cases c0 : a2 = 0
      · have F := fin (vf_X10_size (16 + 1 * a_kd A w)) (f_X12_sizeOf (nI w)) (szV (a_kd A w) (nI w) (nI (a_ag A w)) (nI (popc (aSw A w)))) (szL (a_kd A w)) (szL_le _) (by have := size_c σ0 hk.1 hk.2.1; rw [q0, q1, q2] at this; exact this) (fun τ hτ => sizeOf_r hτ h.W hw)
        obtain ⟨σ1, σ2, f1, f2, f3, f4⟩ := F
        refine ⟨szV (a_kd A w) (nI w) (nI (a_ag A w)) (nI (popc (aSw A w))), σ1, σ2, ?_, ?_, A, f4⟩
        · unfold f_X11_ask
          rw [ew, jbd_eq, if_neg (by decide), oneOf_c, if_pos c, jbd_eq, if_pos (by decide)]
          refine Eq.trans (pre (fun k τ => if ¬ a2 = 0 then jbd (vf_X10_mark k τ) (fun v20 σ21 => some ((v20, σ21))) else jbd (vf_X10_size k τ) (fun v23 σ24 => some ((v23, σ24))))) ?_
          show (if ¬ a2 = 0 then _ else _) = _
          rw [if_neg (fun q => q c0), f1, jbd_eq]
        · unfold f_X12_ask
          rw [jlet_eq, erw _ f2, jbd_eq, if_neg (by decide), oneOf_r, if_pos c, jbd_eq, if_pos (by decide), jlet_eq, if_neg (fun q => q c0), f3, jbd_eq]
      · have F := fin (vf_X10_mark (16 + 1 * a_kd A w)) (f_X12_markOf (nI w)) (mkV (a_kd A w) (nI w) (nI (a_ag A w)) (nI (popc (aSw A w)))) (mkL (a_kd A w)) (mkL_le _) (by have := mark_c σ0 hk.1 hk.2.1; rw [q0, q1, q2] at this; exact this) (fun τ hτ => markOf_r hτ h.W hw)
        obtain ⟨σ1, σ2, f1, f2, f3, f4⟩ := F
        refine ⟨mkV (a_kd A w) (nI w) (nI (a_ag A w)) (nI (popc (aSw A w))), σ1, σ2, ?_, ?_, A, f4⟩
        · unfold f_X11_ask
          rw [ew, jbd_eq, if_neg (by decide), oneOf_c, if_pos c, jbd_eq, if_pos (by decide)]
          refine Eq.trans (pre (fun k τ => if ¬ a2 = 0 then jbd (vf_X10_mark k τ) (fun v20 σ21 => some ((v20, σ21))) else jbd (vf_X10_size k τ) (fun v23 σ24 => some ((v23, σ24))))) ?_
          show (if ¬ a2 = 0 then _ else _) = _
          rw [if_pos c0, f1, jbd_eq]
        · unfold f_X12_ask
          rw [jlet_eq, erw _ f2, jbd_eq, if_neg (by decide), oneOf_r, if_pos c, jbd_eq, if_pos (by decide), jlet_eq, if_pos c0, f3, jbd_eq]
    · refine ⟨-1000001, σ, jset σ 89 0 0, ?_, ?_, h.bad⟩
      · unfold f_X11_ask
        rw [ew, jbd_eq, if_neg (by decide), oneOf_c, if_neg c]
        rfl
      · unfold f_X12_ask
        rw [jlet_eq, erw _ h'.R, jbd_eq, if_neg (by decide), oneOf_r, if_neg c]
        rfl
  · refine ⟨-1000001, σ, jset σ 89 0 0, ?_, ?_, h.bad⟩
    · unfold f_X11_ask
      rw [ew]
      rfl
    · unfold f_X12_ask
      rw [jlet_eq, isWit_r h'.R h.W, if_neg (by omega)]
      rfl
