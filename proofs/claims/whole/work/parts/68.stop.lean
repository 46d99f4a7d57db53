/-! ===== PURE: stop ===== -/
theorem scn_b {P : Nat → Bool} {k : Nat} (hk : k ≤ INF) : scn P k = INF ∨ scn P k < k := by
  rcases scn_ok P k hk with ⟨h, _⟩ | ⟨h, _⟩
  · exact Or.inl h
  · exact Or.inr h
theorem stopL_r {σ : jMem} {a : Nat} {A : aP} (x : Int32) (hP : PR σ 93 0 A) (hW : WF A) (ha : a < 8) : ∃ σ', X12_stop_L55 (nI a) x jFU ((-1000000 : Int32), (0 : Int32)) σ = some (rF (scn (prt A a) (2 ^ a_np A)), σ') ∧ FR frT σ σ' := by
  have hb := hW.b
  have hI := INF_v
  have hpw := Nat.two_pow_pos (a_np A)
  have hN := np_lt hW (x := 2 ^ a_np A - 1) (by omega)
  have hgl := np_lt hW hW.1.2.2.2.2.2.2
  have H := jloop_inv (body := fun rec s σ => X12_stop_L55_b (nI a) x rec s.1 s.2 σ) (fun i s τ => s = (rF (scn (prt A a) i), nI i) ∧ FR frT σ τ) (fun r => r.1 = rF (scn (prt A a) (2 ^ a_np A)) ∧ FR frT σ r.2) (2 ^ a_np A) ?_ ?_ ((-1000000 : Int32), (0 : Int32)) σ ⟨rfl, FR.refl σ⟩ jFU (by unfold jFU; omega)
  · obtain ⟨⟨r, ρ⟩, ⟨h1, h2⟩, h3⟩ := H
    exact ⟨ρ, by rw [← h1]; exact h3, h2⟩
  · rintro i s τ hi ⟨rfl, h2⟩
    have hPt := hP.offF hW h2 (fun j => by unfold frT; omega)
    have h96 : τ.1 93 6 = nI (a_gt A) := (hPt.f (o := 0)).2.2.2.2.2.2
    have hsb := scn_b (P := prt A a) (k := i) (by omega)
    have hal : i &&& a_gt A < 4096 := Nat.lt_of_le_of_lt Nat.and_le_left (by omega)
    have hsP : (prt A a i = true ∧ (scn (prt A a) i = INF ∨ popc i < popc (scn (prt A a) i))) → scn (prt A a) (i + 1) = i := fun z => if_pos z
    have hsN : ¬ (prt A a i = true ∧ (scn (prt A a) i = INF ∨ popc i < popc (scn (prt A a) i))) → scn (prt A a) (i + 1) = scn (prt A a) i := fun z => if_neg z
    obtain ⟨τ1, b1, b2⟩ := through_r (g := a_gt A ||| i) hPt hW ha
    rw [← andn_andn] at b1
    change _ = some (nI (if dst A (andn (opn A) i) a = INF then 0 else 1), τ1) at b1
    have f1 : FR frT σ τ1 := h2.trans (b2.mono (fun c j q => by unfold frT; omega))
    by_cases c1 : i &&& a_gt A = 0
    · by_cases c2 : scn (prt A a) i = INF ∨ popc i < popc (scn (prt A a) i)
      · refine ⟨(rF (scn (prt A a) (i + 1)), nI (i + 1)), τ1, ⟨rfl, f1⟩, fun rec => ?_⟩
        show X12_stop_L55_b (nI a) x rec (rF (scn (prt A a) i)) (nI i) τ = _
        unfold X12_stop_L55_b
        rw [allP_r hPt hW, jbd_eq, if_neg (nlt_ (by omega) (by omega)), jldL_ (by omega) (by omega), h96, nI_and, jj_eq, jj_eq, c1, if_neg (fun z => z rfl), jj_eq]
        have go : (if ((1 : Int32) = 0) then rec (rF (scn (prt A a) i), nI i + 1) τ else jld τ 93 67 (6 : Int32) (fun v19 =>
            jbd (f_X12_comesThrough (v19 ||| nI i) (nI a) τ) (fun v20 σ21 =>
            if ¬ v20 = 0 then
            rec (rF (scn (prt A a) i), (nI i + 1)) σ21
          else
            rec (nI i, (nI i + 1)) σ21))) = rec (rF (scn (prt A a) (i + 1)), nI (i + 1)) τ1 := by
          rw [if_neg (by decide), jldL_ (by omega) (by omega), h96, nI_or, b1, jbd_eq, nI_1]
          by_cases c3 : dst A (andn (opn A) i) a = INF
          · rw [if_pos c3, if_neg (fun z => z rfl), hsP ⟨prt_t.mpr ⟨c1, c3⟩, c2⟩, rF_n (by omega)]
          · rw [if_neg c3, if_pos (by decide), hsN (fun z => c3 (prt_t.mp z.1).2)]
        by_cases c4 : scn (prt A a) i = INF
        · rw [c4] at go ⊢
          rw [rF_i] at go ⊢
          rw [if_pos rfl]
          exact go
        · have hlt : scn (prt A a) i < i := by omega
          have c5 : popc i < popc (scn (prt A a) i) := by
            rcases c2 with q | q
            · exact absurd q c4
            · exact q
          have p1 := popc_le (scn (prt A a) i)
          rw [rF_n (by omega)] at go ⊢
          rw [if_neg (nI_ne_inf (by omega)), bits_spec (by omega), jbd_eq, bits_spec (by omega), jbd_eq, if_neg (nle_ (by omega) (by omega))]
          exact go
      · refine ⟨(rF (scn (prt A a) (i + 1)), nI (i + 1)), τ, ⟨rfl, h2⟩, fun rec => ?_⟩
        show X12_stop_L55_b (nI a) x rec (rF (scn (prt A a) i)) (nI i) τ = _
        unfold X12_stop_L55_b
        have c4 : ¬ scn (prt A a) i = INF := fun q => c2 (Or.inl q)
        have c5 : popc (scn (prt A a) i) ≤ popc i := by
          refine Classical.byContradiction (fun q => c2 (Or.inr (by omega)))
        have p1 := popc_le i
        rw [allP_r hPt hW, jbd_eq, if_neg (nlt_ (by omega) (by omega)), jldL_ (by omega) (by omega), h96, nI_and, jj_eq, jj_eq, c1, if_neg (fun z => z rfl), jj_eq, hsN (fun z => c2 z.2), rF_n (by omega), if_neg (nI_ne_inf (by omega)), bits_spec (by omega), jbd_eq, bits_spec (by omega), jbd_eq, if_pos (nI_le c5 (by omega))]
        dsimp only
        rw [if_pos rfl, nI_1]
    · refine ⟨(rF (scn (prt A a) (i + 1)), nI (i + 1)), τ, ⟨rfl, h2⟩, fun rec => ?_⟩
      show X12_stop_L55_b (nI a) x rec (rF (scn (prt A a) i)) (nI i) τ = _
      unfold X12_stop_L55_b
      rw [allP_r hPt hW, jbd_eq, if_neg (nlt_ (by omega) (by omega)), jldL_ (by omega) (by omega), h96, nI_and, jj_eq, jj_eq, if_pos (neL_ c1 (by omega) (by omega)), hsN (fun z => c1 (prt_t.mp z.1).1)]
      dsimp only
      rw [if_pos rfl, nI_1]
  · rintro s τ ⟨rfl, h2⟩
    have hPt := hP.offF hW h2 (fun j => by unfold frT; omega)
    refine ⟨(rF (scn (prt A a) (2 ^ a_np A)), τ), ⟨rfl, h2⟩, fun rec => ?_⟩
    show X12_stop_L55_b (nI a) x rec (rF (scn (prt A a) (2 ^ a_np A))) (nI (2 ^ a_np A)) τ = _
    unfold X12_stop_L55_b
    rw [allP_r hPt hW, jbd_eq, if_pos (nI_lt (by omega) (by omega))]
theorem sim_stop_ok : sim_stop Inv := by
  rintro σ a1 a2 ⟨A, h⟩
  have hb := h.W.b
  have h' := h.t0
  have t1 := h.W.1.1
  have hI := INF_v
  have hch := h.W.1.2.1
  rcases (show a_th A = 0 ∨ a_th A = 1 by omega) with t | t
  · refine ⟨-1000002, σ, jset σ 89 0 0, ?_, ?_, h.bad⟩
    · unfold f_X11_stop
      rw [h.C.1.1, t, if_neg (by decide)]
    · unfold f_X12_stop
      rw [jlet_eq, there_r h'.R h.W, t]
      rfl
  · have ec : ¬ σ.1 22 1 = 0 := by rw [h.C.1.1, t]; decide
    have er := there_r h'.R h.W
    rw [t] at er
    have h93 : (jset σ 89 0 0).1 93 1 = nI (a_ch A) := (h'.R.f (o := 0)).2.1
    by_cases hf : 0 ≤ a1.toInt ∧ a1.toInt ≤ 7
    · have hf' := hf
      obtain ⟨v, hv, rfl⟩ := field_in hf
      by_cases c : a2 = 0 ∨ a2 = 1
      · by_cases cc : v = a_ch A
        · refine ⟨-1000000, σ, jset σ 89 0 0, ?_, ?_, h.bad⟩
          · unfold f_X11_stop
            rw [if_pos ec, isField_c, if_pos hf', jbd_eq, if_neg (by decide), oneOf_c, if_pos c, jbd_eq, if_pos (by decide), h.C.1.2.1, if_neg (fun z => z (by rw [cc]))]
          · unfold f_X12_stop
            rw [jlet_eq, er, jbd_eq, if_pos (by decide), isField_r, if_pos hf', jbd_eq, if_neg (by decide), oneOf_r, if_pos c, jbd_eq, if_pos (by decide), jldL_ (by omega) (by omega), h93, if_neg (fun z => z (by rw [cc]))]
        · obtain ⟨σ2, l1, l2⟩ := stopL_r a2 h'.R h.W hv
          have hcl := np_lt h.W (cst_ok h.W hv cc 256).1
          rw [stop_eq h.W hv cc, rF_n (by omega)] at l1
          refine ⟨if ¬ a2 = 0 then nI (cst A v 256) else nI (popc (cst A v 256)), σ, σ2, ?_, ?_, A, h'.congr (frT_scr l2)⟩
          · unfold f_X11_stop
            rw [if_pos ec, isField_c, if_pos hf', jbd_eq, if_neg (by decide), oneOf_c, if_pos c, jbd_eq, if_pos (by decide), h.C.1.2.1, if_pos (nne_ cc (by omega) (by omega)), open_c h.C h.W, jbd_eq]
            show jbd (f_X2_fewestGates 22 (nI (opn A)) (nI v) σ) _ = _
            rw [few_c h.C h.W hv cc, jbd_eq]
            by_cases c0 : a2 = 0
            · rw [if_neg (fun z => z c0), if_neg (fun z => z c0), bc_spec hcl]
              rfl
            · rw [if_pos c0, if_pos c0]
          · unfold f_X12_stop
            rw [jlet_eq, er, jbd_eq, if_pos (by decide), isField_r, if_pos hf', jbd_eq, if_neg (by decide), oneOf_r, if_pos c, jbd_eq, if_pos (by decide), jldL_ (by omega) (by omega), h93, if_pos (nne_ cc (by omega) (by omega)), l1, jbd_eq]
            by_cases c0 : a2 = 0
            · rw [if_neg (fun z => z c0), if_neg (fun z => z c0), bits_spec (by omega)]
              rfl
            · rw [if_pos c0, if_pos c0]
      · refine ⟨-1000001, σ, jset σ 89 0 0, ?_, ?_, h.bad⟩
        · unfold f_X11_stop
          rw [if_pos ec, isField_c, if_pos hf', jbd_eq, if_neg (by decide), oneOf_c, if_neg c]
          rfl
        · unfold f_X12_stop
          rw [jlet_eq, er, jbd_eq, if_pos (by decide), isField_r, if_pos hf', jbd_eq, if_neg (by decide), oneOf_r, if_neg c]
          rfl
    · refine ⟨-1000001, σ, jset σ 89 0 0, ?_, ?_, h.bad⟩
      · unfold f_X11_stop
        rw [if_pos ec, isField_c, if_neg hf]
        rfl
      · unfold f_X12_stop
        rw [jlet_eq, er, jbd_eq, if_pos (by decide), isField_r, if_neg hf]
        rfl
