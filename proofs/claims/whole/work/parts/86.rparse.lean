/-! ===== PURE: the reference's paths and witnesses ===== -/
def DR (σ : jMem) (A : aP) : Prop := PR σ 94 0 A ∧ ∀ w, a_nw A ≤ w → w < 6 → σ.1 94 (46 + 4 * w) = 0
theorem DR.fr {σ τ : jMem} {A : aP} (h : DR σ A) (hW : WF A) (f : FR frR σ τ) : DR τ A := ⟨h.1.offF hW f (fun j => by unfold frR; omega), fun w h1 h2 => (f.1 94 _ (by unfold frR; omega)).trans (h.2 w h1 h2)⟩
def SR (B : Nat → Nat) (n : Nat) (σ0 σ : jMem) (p : Nat) (A : aP) : Prop := TR σ B n p ∧ DR σ A ∧ GA A ∧ FR frQ σ0 σ
def OV (B : Nat → Nat) (n : Nat) (σ0 : jMem) (X : Option jMem) : PRs → Prop
  | .inl e => ∃ σ', X = some σ' ∧ FL σ' e.1 e.2 ∧ FR frQ σ0 σ'
  | .inr q => ∃ σ', X = some σ' ∧ SR B n σ0 σ' q.2 q.1
theorem told_r {σ : jMem} {A : aP} {a x : Nat} (hP : PR σ 94 0 A) (hW : WF A) (ha : a < 8) (hx : x < 256) : f_X12_isTold (nI a) (nI x).toInt64 σ = some (nI (jdN A a x (a_np A)), σ) := by
  have hb := hW.b
  have h3 : σ.1 94 3 = nI (a_np A) := (hP.f (o := 0)).2.2.2.1
  have cmpE : ∀ b, b < 256 → (lg_cmp (nI b).toInt64 (nI x).toInt64 = 0 ↔ b = x) := by
    intro b hb
    rw [q_eq0, nI_l (by omega), nI_l (by omega), pk_lEQ (by omega) (by omega)]
  have L : X12_isTold_L6 (nI a) (nI x).toInt64 jFU ((0 : Int32), (0 : Int32)) σ = some (nI (jdN A a x (a_np A)), σ) := by
    refine jloop_run (body := fun rec s σ => X12_isTold_L6_b (nI a) (nI x).toInt64 rec s.1 s.2 σ) (fun i => (nI (jdN A a x i), nI i)) (fun _ => σ) (a_np A) _ ?_ ?_ jFU (by unfold jFU; omega)
    · intro i hi rec
      have hp := hW.2.1 i hi
      obtain ⟨p1, p2, p3⟩ := hP.2.1 i hi
      rw [Nat.zero_add] at p1 p2 p3
      have hl := jdN_le A a x i
      have es : jdN A a x (i + 1) = if jdN A a x i = 1 then 1 else if isJ A a x i then 1 else 0 := rfl
      show X12_isTold_L6_b (nI a) (nI x).toInt64 rec (nI (jdN A a x i)) (nI i) σ = rec (nI (jdN A a x (i + 1)), nI (i + 1)) σ
      unfold X12_isTold_L6_b
      rw [jldL_ (by omega) (by omega), h3, if_neg (nle_ (by omega) (by omega)), nI_Lmul, nI_Ladd, jlet_eq, nI_1, es]
      by_cases c0 : jdN A a x i = 1
      · rw [c0, if_pos (by decide), if_pos rfl]
        rfl
      · rw [show jdN A a x i = 0 by omega, if_neg (by decide), if_neg (by omega), jld_eq (by omega) (by omega), p1, jj_eq]
        have k4 : ∀ z : Bool, (z = true ↔ (a_pa A i = x ∧ a_pb A i = a)) → (jld σ 94 67 (nI (7 + 3 * i)) fun v7 => if ¬ (lg_cmp v7.toInt64 (nI x).toInt64) = 0 then rec ((0 : Int32), nI (i + 1)) σ else jld σ 94 67 (nI (7 + 3 * i) + (1 : Int32)) fun v8 => if ¬ v8 = nI a then rec ((0 : Int32), nI (i + 1)) σ else rec ((1 : Int32), nI (i + 1)) σ) = rec (if z = true then (1 : Int32) else 0, nI (i + 1)) σ := by
          intro z hz
          rw [jld_eq (by omega) (by omega), p1]
          by_cases c3 : a_pa A i = x
          · rw [if_neg (fun q => q ((cmpE _ (by omega)).mpr c3)), nI_1, jld_eq (by omega) (by omega), p2]
            by_cases c4 : a_pb A i = a
            · rw [if_neg (fun q => q (by rw [c4])), if_pos (hz.mpr ⟨c3, c4⟩)]
            · rw [if_pos (nne_ c4 (by omega) (by omega)), if_neg (fun q => c4 (hz.mp q).2)]
          · rw [if_pos (fun q => c3 ((cmpE _ (by omega)).mp q)), if_neg (fun q => c3 (hz.mp q).1)]
        by_cases c1 : a_pa A i = a
        · rw [if_neg (fun q => q (by rw [c1])), nI_1, jld_eq (by omega) (by omega), p2]
          by_cases c2 : a_pb A i = x
          · rw [if_pos ((cmpE _ (by omega)).mpr c2), if_pos (Or.inl ⟨c1, c2⟩)]
            rfl
          · rw [if_neg (fun q => c2 ((cmpE _ (by omega)).mp q))]
            have := k4 (decide (a_pa A i = x ∧ a_pb A i = a)) (by simp)
            rw [nI_1] at this
            refine Eq.trans this ?_
            by_cases c5 : a_pa A i = x ∧ a_pb A i = a
            · rw [if_pos (by simpa using c5), if_pos (Or.inr c5)]
              rfl
            · rw [if_neg (by simpa using c5), if_neg (by unfold isJ; omega)]
              rfl
        · rw [if_pos (nne_ c1 (by omega) (by omega))]
          refine Eq.trans (k4 (decide (a_pa A i = x ∧ a_pb A i = a)) (by simp)) ?_
          by_cases c5 : a_pa A i = x ∧ a_pb A i = a
          · rw [if_pos (by simpa using c5), if_pos (Or.inr c5)]
            rfl
          · rw [if_neg (by simpa using c5), if_neg (by unfold isJ; omega)]
            rfl
    · intro rec
      show X12_isTold_L6_b (nI a) (nI x).toInt64 rec (nI (jdN A a x (a_np A))) (nI (a_np A)) σ = _
      unfold X12_isTold_L6_b
      rw [jldL_ (by omega) (by omega), h3, if_pos (nI_le (Nat.le_refl _) (by omega))]
  unfold f_X12_isTold
  rw [L, jbd_eq, jck_t (jisb_n01 (jdN_le A a x (a_np A)))]
def rpD (v10 v18 v23 : Int32) (σ26 : jMem) : Option jMem :=
  if ¬ (σ26.1 89 16) = 0 then some σ26 else jld σ26 94 67 (3 : Int32) (fun v28 => jlet (((7 : Int32) + ((3 : Int32) * v28))) (fun v29 => jst σ26 94 67 v29 v10 (fun σ30 => jst σ30 94 67 (v29 + (1 : Int32)) v18 (fun σ31 => jst σ31 94 67 (v29 + (2 : Int32)) v23 (fun σ32 => jld σ32 94 67 (3 : Int32) (fun v33 => jst σ32 94 67 (3 : Int32) (v33 + (1 : Int32)) (fun σ34 => some σ34)))))))
def rpC (v10 : Int32) (σ17 : jMem) : Option jMem := jbd (f_X12_number (0 : Int32) (7 : Int32) σ17) (fun v18 σ19 => jbv (f_X12_mustSign (44 : Int32) σ19) (fun σ21 => jbd (f_X12_number (1 : Int32) (9 : Int32) σ21) (fun v23 σ24 => jbv (f_X12_mustSign (59 : Int32) σ24) (fun σ26 => rpD v10 v18 v23 σ26))))
def rpB (v10 : Int32) (σ13 : jMem) : Option jMem := jj (fun (_ : Unit) σ17 => rpC v10 σ17) (fun k15 => if ¬ (σ13.1 89 16) = 0 then k15 () σ13 else if ¬ (σ13.1 89 14) = (3 : Int32) then k15 () σ13 else jj (fun (_ : Unit) σ37 => jbv (f_X12_bad (2 : Int32) σ37) (fun σ38 => k15 () σ38)) (fun k35 => if (σ13.1 89 15) = v10 then k35 () σ13 else jbd (f_X12_isTold v10 (((σ13.1 89 15)).toInt64) σ13) (fun v40 σ41 => if v40 = 0 then k15 () σ41 else k35 () σ41)))
def rpA (σ4 : jMem) : Option jMem := jbd (f_X12_isLetter (112 : Int32) σ4) (fun v5 σ6 => jbv (f_X12_must v5 σ6) (fun σ8 => jbd (f_X12_number (0 : Int32) (7 : Int32) σ8) (fun v10 σ11 => jbv (f_X12_mustSign (44 : Int32) σ11) (fun σ13 => rpB v10 σ13))))
theorem rp_eq (σ : jMem) : f_X12_readPath σ = jld σ 94 67 (3 : Int32) (fun v1 => jj (fun (_ : Unit) σ4 => rpA σ4) (fun k2 => if ¬ v1 = (12 : Int32) then k2 () σ else jbv (f_X12_bad (3 : Int32) σ) (fun σ43 => k2 () σ43))) := rfl
theorem OV_l {B : Nat → Nat} {n : Nat} {σ0 σ : jMem} {f pl : Nat} (h : FL σ f pl) (hF : FR frQ σ0 σ) : OV B n σ0 (some σ) (.inl (f, pl)) := ⟨σ, rfl, h, hF⟩
theorem rpD_A {B : Nat → Nat} {n : Nat} {σ0 : jMem} (a b l : Int32) : AB σ0 (OV B n σ0) (rpD a b l) := by
  intro σ f pl h hF
  unfold rpD
  rw [if_pos h.nz]
  exact OV_l h hF
theorem rpC_A {B : Nat → Nat} {n : Nat} {σ0 : jMem} (a : Int32) : AB σ0 (OV B n σ0) (rpC a) := AB_num _ _ (fun v => AB_sign _ (AB_num _ _ (fun v' => AB_sign _ (rpD_A a v v'))))
theorem rpB_A {B : Nat → Nat} {n : Nat} {σ0 : jMem} (a : Int32) : AB σ0 (OV B n σ0) (rpB a) := by
  intro σ f pl h hF
  unfold rpB
  rw [jj_eq, if_pos h.nz]
  exact rpC_A a σ f pl h hF
theorem rpD_r {B : Nat → Nat} {n p : Nat} {σ0 σ : jMem} {A : aP} {a b l : Nat} (hT : TR σ B n p) (hD : DR σ A) (hG : GA A) (hG' : GA (addP A a b l)) (hF : FR frQ σ0 σ) (hn : a_np A < 12) : OV B n σ0 (rpD (nI a) (nI b) (nI l) σ) (.inr (addP A a b l, p)) := by
  have hb := hG.1.b
  have h3 : σ.1 94 3 = nI (a_np A) := (hD.1.f (o := 0)).2.2.2.1
  obtain ⟨⟨f0, f1, f2, f3, f4, f5, f6⟩, hp, hw⟩ := hD.1
  simp only [Nat.zero_add] at f0 f1 f2 f3 f4 f5 f6 hp hw
  refine ⟨jset (jset (jset (jset σ 94 (7 + 3 * a_np A) (nI a)) 94 (7 + 3 * a_np A + 1) (nI b)) 94 (7 + 3 * a_np A + 2) (nI l)) 94 3 (nI (a_np A + 1)), ?_, (((hT.set (by omega) (by omega) _ _).set (by omega) (by omega) _ _).set (by omega) (by omega) _ _).set (by omega) (by omega) _ _, ⟨⟨⟨?_, ?_, ?_, ?_, ?_, ?_, ?_⟩, fun i hi => ?_, fun w hwi => ?_⟩, fun w h1 h2 => ?_⟩, hG', (((hF.set (Or.inl rfl)).set (Or.inl rfl)).set (Or.inl rfl)).set (Or.inl rfl)⟩
  · unfold rpD
    rw [hT.2.2.2.2.2.2, if_neg (fun z => z rfl), jldL_ (by omega) (by omega), h3, nI_Lmul, nI_Ladd, jlet_eq, jst_eq (by omega) (by omega), nI_1, jst_eq (by omega) (by omega), nI_addL, jst_eq (by omega) (by omega), jldL_ (by omega) (by omega), jset_o (by omega), jset_o (by omega), jset_o (by omega), h3, nI_1, jstL_ (by omega) (by omega)]
  · rw [jset_o (by omega), jset_o (by omega), jset_o (by omega), jset_o (by omega)]; exact f0
  · rw [jset_o (by omega), jset_o (by omega), jset_o (by omega), jset_o (by omega)]; exact f1
  · rw [jset_o (by omega), jset_o (by omega), jset_o (by omega), jset_o (by omega)]; exact f2
  · rw [jset_e (by omega)]; rfl
  · rw [jset_o (by omega), jset_o (by omega), jset_o (by omega), jset_o (by omega)]; exact f4
  · rw [jset_o (by omega), jset_o (by omega), jset_o (by omega), jset_o (by omega)]; exact f5
  · rw [jset_o (by omega), jset_o (by omega), jset_o (by omega), jset_o (by omega)]; exact f6
  · change i < a_np A + 1 at hi
    simp only [Nat.zero_add]
    show _ = nI (up (a_pa A) (a_np A) a i) ∧ _ = nI (up (a_pb A) (a_np A) b i) ∧ _ = nI (up (a_pl A) (a_np A) l i)
    by_cases c : i = a_np A
    · subst c
      rw [up_e, up_e, up_e]
      refine ⟨?_, ?_, ?_⟩
      · rw [jset_o (by omega), jset_o (by omega), jset_o (by omega), jset_e (by omega)]
      · rw [jset_o (by omega), jset_o (by omega), jset_e (by omega)]
      · rw [jset_o (by omega), jset_e (by omega)]
    · have := hp i (by omega)
      rw [up_o _ _ c, up_o _ _ c, up_o _ _ c, ← this.1, ← this.2.1, ← this.2.2]
      refine ⟨?_, ?_, ?_⟩ <;> rw [jset_o (by omega), jset_o (by omega), jset_o (by omega), jset_o (by omega)]
  · have := hw w hwi
    simp only [Nat.zero_add]
    show _ = nI (a_kd A w) ∧ _ = nI (a_ag A w) ∧ _ = nI (a_hm A w) ∧ _ = nI (a_sw A w)
    rw [← this.1, ← this.2.1, ← this.2.2.1, ← this.2.2.2]
    refine ⟨?_, ?_, ?_, ?_⟩ <;> rw [jset_o (by omega), jset_o (by omega), jset_o (by omega), jset_o (by omega)]
  · rw [jset_o (by omega), jset_o (by omega), jset_o (by omega), jset_o (by omega)]
    exact hD.2 w h1 h2
theorem readPath_r {B : Nat → Nat} {n p : Nat} {σ0 σ : jMem} {A : aP} (h : SR B n σ0 σ p A) (htk : isTk B n 112 p) : OV B n σ0 (f_X12_readPath σ) (pPath B n A p) := by
  obtain ⟨hT, hD, hG, hF⟩ := h
  have hb := hG.1.b
  have h3 : σ.1 94 3 = nI (a_np A) := (hD.1.f (o := 0)).2.2.2.1
  rw [rp_eq, jldL_ (by omega) (by omega), h3, jj_eq]
  unfold pPath
  by_cases c0 : 12 ≤ a_np A
  · obtain ⟨σ', e, q, f⟩ := bad_r (f := 3) hT (by omega) (by omega)
    rw [if_neg (fun z => z (eqL_ (by omega))), if_pos ⟨htk, c0⟩, show (3 : Int32) = nI 3 from rfl, e, jbv_eq]
    dsimp only
    unfold rpA
    rw [let_f q, jbd_eq, must_f q, jbv_eq, num_f q, jbd_eq, sign_f q, jbv_eq]
    exact rpB_A _ σ' 3 p q (hF.trans f)
  · rw [if_pos (neL_ (by omega) (by omega) (by omega)), if_neg (fun z => c0 z.2)]
    show OV B n σ0 (rpA σ) _
    unfold rpA
    refine letterK (G := OV B n σ0) (c := 112) hT (by omega) hF (AB_num _ _ (fun v => AB_sign _ (rpB_A v))) (fun _ σ1 t1 f1 => ?_)
    have F1 := hF.trans (frR_Q f1)
    refine numR (G := OV B n σ0) (lo := 0) (hi := 7) t1 (by omega) F1 (fun _ => rfl) (fun v => AB_sign _ (rpB_A v)) (fun q1 _ l2 σ3 t3 f3 => ?_)
    have F3 := F1.trans (frR_Q f3)
    refine signK (G := OV B n σ0) (c := 44) t3 (by omega) F3 (rpB_A _) (fun _ σ4 t4 f4 => ?_)
    have F4 := F3.trans (frR_Q f4)
    have D4 : DR σ4 A := ((hD.fr hG.1 f1).fr hG.1 f3).fr hG.1 f4
    generalize tX B n (tN B n p) = a at l2 ⊢
    generalize tN B n (tN B n (tN B n p)) = pb at t4 ⊢
    have fin : (tT B n pb = 3 → exP A a (tX B n pb) = 0) → OV B n σ0 (rpC (nI a) σ4) (pNm B n 0 7 pb (exP A a) fun b p4 => pTk B n 44 p4 fun p5 => pNm B n 1 9 p5 pZ fun l p6 => pTk B n 59 p6 fun p7 => .inr (addP A a b l, p7)) := by
      intro hex
      unfold rpC
      refine numR (G := OV B n σ0) (lo := 0) (hi := 7) t4 (by omega) F4 hex (fun v => AB_sign _ (AB_num _ _ (fun v' => AB_sign _ (rpD_A _ v v')))) (fun q4 _ l4 σ5 t5 f5 => ?_)
      have F5 := F4.trans (frR_Q f5)
      refine signK (G := OV B n σ0) (c := 44) t5 (by omega) F5 (AB_num _ _ (fun v' => AB_sign _ (rpD_A _ _ v'))) (fun _ σ6 t6 f6 => ?_)
      have F6 := F5.trans (frR_Q f6)
      refine numR (G := OV B n σ0) (lo := 1) (hi := 9) t6 (by omega) F6 (fun _ => rfl) (fun v' => AB_sign _ (rpD_A _ _ v')) (fun q6 l5 l6 σ7 t7 f7 => ?_)
      have F7 := F6.trans (frR_Q f7)
      refine signK (G := OV B n σ0) (c := 59) t7 (by omega) F7 (rpD_A _ _ _) (fun _ σ8 t8 f8 => ?_)
      exact rpD_r t8 ((((D4.fr hG.1 f5).fr hG.1 f6).fr hG.1 f7).fr hG.1 f8) hG (hG.addP (by omega) (by omega) (by omega) (hex q4) l5 l6) (F7.trans (frR_Q f8)) (by omega)
    obtain ⟨σ', e, q, f⟩ := bad_r (f := 2) t4 (by omega) (by omega)
    have e : f_X12_bad (2 : Int32) σ4 = some σ' := e
    have hT4 := tT_le B n pb
    unfold rpB
    rw [jj_eq, t4.2.2.2.2.2.2, if_neg (fun z => z rfl), t4.2.2.2.2.1]
    by_cases t : tT B n pb = 3
    · have hx := tX_num t
      rw [if_neg (fun z => z (eqL_ t)), jj_eq, t4.2.2.2.2.2.1 (by omega)]
      have bad : exP A a (tX B n pb) ≠ 0 → OV B n σ0 (some σ' >>= fun σ38 => rpC (nI a) σ38) (pNm B n 0 7 pb (exP A a) fun b p4 => pTk B n 44 p4 fun p5 => pNm B n 1 9 p5 pZ fun l p6 => pTk B n 59 p6 fun p7 => .inr (addP A a b l, p7)) := by
        intro hne
        unfold pNm
        rw [if_pos t, if_neg (fun z => hne z.2)]
        exact rpC_A _ σ' 2 pb q (F4.trans f)
      by_cases cab : a = tX B n pb
      · rw [if_pos (show nI (tX B n pb) = nI a by rw [← cab])]
        dsimp only
        rw [e]
        exact bad (by unfold exP; rw [if_pos cab]; omega)
      · have hl := jdN_le A a (tX B n pb) (a_np A)
        rw [if_neg (nne_ (fun z => cab z.symm) (by omega) (by omega)), told_r D4.1 hG.1 (by omega) (by omega), jbd_eq]
        by_cases cj : jdN A a (tX B n pb) (a_np A) = 0
        · rw [cj, if_pos (show nI 0 = 0 from rfl)]
          exact fin (fun _ => by unfold exP; rw [if_neg cab]; exact cj)
        · rw [if_neg (neL_ cj (by omega) (by omega))]
          dsimp only
          rw [e]
          exact bad (by unfold exP; rw [if_neg cab]; exact cj)
    · rw [if_pos (neL_ t (by omega) (by omega))]
      exact fin (fun z => absurd z t)
