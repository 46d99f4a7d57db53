/-! ===== PURE: the reference's witnesses, loops ===== -/
def rwD (v1 v10 v15 : Int32) (σ18 : jMem) : Option jMem :=
  if ¬ (σ18.1 89 16) = 0 then some σ18 else jld σ18 94 67 (4 : Int32) (fun v20 => jlet (((43 : Int32) + ((4 : Int32) * v20))) (fun v21 => jst σ18 94 67 v21 v1 (fun σ22 => jst σ22 94 67 (v21 + (1 : Int32)) v10 (fun σ23 => jst σ23 94 67 (v21 + (2 : Int32)) v15 (fun σ24 => jld σ24 94 67 (4 : Int32) (fun v25 => jst σ24 94 67 (4 : Int32) (v25 + (1 : Int32)) (fun σ26 => some σ26)))))))
def rwA (v1 : Int32) (σ7 : jMem) : Option jMem := jbv (f_X12_must (1 : Int32) σ7) (fun σ8 => jbd (f_X12_number (0 : Int32) (60 : Int32) σ8) (fun v10 σ11 => jbv (f_X12_mustSign (44 : Int32) σ11) (fun σ13 => jbd (f_X12_number (0 : Int32) (7 : Int32) σ13) (fun v15 σ16 => jbv (f_X12_mustSign (59 : Int32) σ16) (fun σ18 => rwD v1 v10 v15 σ18)))))
theorem rw_eq (σ : jMem) : f_X12_readWitness σ = jbd (f_X12_kindBy (σ.1 89 15) σ) (fun v1 σ2 => jld σ2 94 67 (4 : Int32) (fun v4 => jj (fun (_ : Unit) σ7 => rwA v1 σ7) (fun k5 => if ¬ v4 = (6 : Int32) then k5 () σ2 else jbv (f_X12_bad (3 : Int32) σ2) (fun σ27 => k5 () σ27)))) := rfl
theorem rwD_A {B : Nat → Nat} {n : Nat} {σ0 : jMem} (a b l : Int32) : AB σ0 (OV B n σ0) (rwD a b l) := by
  intro σ f pl h hF
  unfold rwD
  rw [if_pos h.nz]
  exact OV_l h hF
theorem rwA_A {B : Nat → Nat} {n : Nat} {σ0 : jMem} (a : Int32) : AB σ0 (OV B n σ0) (rwA a) := AB_must _ (AB_num _ _ (fun v => AB_sign _ (AB_num _ _ (fun v' => AB_sign _ (rwD_A a v v')))))
theorem rwD_r {B : Nat → Nat} {n p : Nat} {σ0 σ : jMem} {A : aP} {kd ag hm : Nat} (hT : TR σ B n p) (hD : DR σ A) (hG : GA A) (hG' : GA (addW A kd ag hm)) (hF : FR frQ σ0 σ) (hn : a_nw A < 6) : OV B n σ0 (rwD (nI kd) (nI ag) (nI hm) σ) (.inr (addW A kd ag hm, p)) := by
  have hb := hG.1.b
  have h4 : σ.1 94 4 = nI (a_nw A) := (hD.1.f (o := 0)).2.2.2.2.1
  obtain ⟨⟨f0, f1, f2, f3, f4, f5, f6⟩, hp, hw⟩ := hD.1
  simp only [Nat.zero_add] at f0 f1 f2 f3 f4 f5 f6 hp hw
  refine ⟨jset (jset (jset (jset σ 94 (43 + 4 * a_nw A) (nI kd)) 94 (43 + 4 * a_nw A + 1) (nI ag)) 94 (43 + 4 * a_nw A + 2) (nI hm)) 94 4 (nI (a_nw A + 1)), ?_, (((hT.set (by omega) (by omega) _ _).set (by omega) (by omega) _ _).set (by omega) (by omega) _ _).set (by omega) (by omega) _ _, ⟨⟨⟨?_, ?_, ?_, ?_, ?_, ?_, ?_⟩, fun i hi => ?_, fun w hwi => ?_⟩, fun w h1 h2 => ?_⟩, hG', (((hF.set (Or.inl rfl)).set (Or.inl rfl)).set (Or.inl rfl)).set (Or.inl rfl)⟩
  · unfold rwD
    rw [hT.2.2.2.2.2.2, if_neg (fun z => z rfl), jldL_ (by omega) (by omega), h4, nI_Lmul, nI_Ladd, jlet_eq, jst_eq (by omega) (by omega), nI_1, jst_eq (by omega) (by omega), nI_addL, jst_eq (by omega) (by omega), jldL_ (by omega) (by omega), jset_o (by omega), jset_o (by omega), jset_o (by omega), h4, nI_1, jstL_ (by omega) (by omega)]
  · rw [jset_o (by omega), jset_o (by omega), jset_o (by omega), jset_o (by omega)]; exact f0
  · rw [jset_o (by omega), jset_o (by omega), jset_o (by omega), jset_o (by omega)]; exact f1
  · rw [jset_o (by omega), jset_o (by omega), jset_o (by omega), jset_o (by omega)]; exact f2
  · rw [jset_o (by omega), jset_o (by omega), jset_o (by omega), jset_o (by omega)]; exact f3
  · rw [jset_e (by omega)]; rfl
  · rw [jset_o (by omega), jset_o (by omega), jset_o (by omega), jset_o (by omega)]; exact f5
  · rw [jset_o (by omega), jset_o (by omega), jset_o (by omega), jset_o (by omega)]; exact f6
  · have := hp i hi
    simp only [Nat.zero_add]
    show _ = nI (a_pa A i) ∧ _ = nI (a_pb A i) ∧ _ = nI (a_pl A i)
    have hi12 : i < 12 := Nat.lt_of_lt_of_le hi hb.1
    rw [← this.1, ← this.2.1, ← this.2.2]
    refine ⟨?_, ?_, ?_⟩ <;> rw [jset_o (by omega), jset_o (by omega), jset_o (by omega), jset_o (by omega)]
  · change w < a_nw A + 1 at hwi
    simp only [Nat.zero_add]
    show _ = nI (up (a_kd A) (a_nw A) kd w) ∧ _ = nI (up (a_ag A) (a_nw A) ag w) ∧ _ = nI (up (a_hm A) (a_nw A) hm w) ∧ _ = nI (up (a_sw A) (a_nw A) 0 w)
    by_cases c : w = a_nw A
    · subst c
      rw [up_e, up_e, up_e, up_e]
      refine ⟨?_, ?_, ?_, ?_⟩
      · rw [jset_o (by omega), jset_o (by omega), jset_o (by omega), jset_e (by omega)]
      · rw [jset_o (by omega), jset_o (by omega), jset_e (by omega)]
      · rw [jset_o (by omega), jset_e (by omega)]
      · rw [jset_o (by omega), jset_o (by omega), jset_o (by omega), jset_o (by omega), show 43 + 4 * a_nw A + 3 = 46 + 4 * a_nw A by omega]
        exact hD.2 (a_nw A) (Nat.le_refl _) hn
    · have := hw w (by omega)
      rw [up_o _ _ c, up_o _ _ c, up_o _ _ c, up_o _ _ c, ← this.1, ← this.2.1, ← this.2.2.1, ← this.2.2.2]
      refine ⟨?_, ?_, ?_, ?_⟩ <;> rw [jset_o (by omega), jset_o (by omega), jset_o (by omega), jset_o (by omega)]
  · change a_nw A + 1 ≤ w at h1
    rw [jset_o (by omega), jset_o (by omega), jset_o (by omega), jset_o (by omega)]
    exact hD.2 w (by omega) h2
theorem kind_r {B : Nat → Nat} {n p : Nat} (hB : ∀ i, i < n → B i < 256) (t : tT B n p = 2) (σ : jMem) : f_X12_kindBy (nI (tX B n p)) σ = some (if srt B n p = 0 then -1000000 else nI (srt B n p), σ) := by
  have hx := tX_lt (p := p) hB (by omega)
  have i : ∀ c, 97 ≤ c → (isTk B n c p ↔ tX B n p = c) := fun c hc => by
    rw [isTk_l hc]
    exact ⟨fun q => q.2, fun q => ⟨t, q⟩⟩
  have i1 := i 110 (by omega)
  have i2 := i 99 (by omega)
  have i3 := i 102 (by omega)
  have i4 := i 115 (by omega)
  have i5 := i 109 (by omega)
  unfold f_X12_kindBy srt
  by_cases c1 : tX B n p = 110
  · rw [if_neg (fun z => z (eqL_ c1)), if_pos (i1.mpr c1)]
    rfl
  · rw [if_pos (neL_ c1 (by omega) (by omega)), if_neg (fun z => c1 (i1.mp z))]
    by_cases c2 : tX B n p = 99
    · rw [if_neg (fun z => z (eqL_ c2)), if_pos (i2.mpr c2)]
      rfl
    · rw [if_pos (neL_ c2 (by omega) (by omega)), if_neg (fun z => c2 (i2.mp z))]
      by_cases c3 : tX B n p = 102
      · rw [if_neg (fun z => z (eqL_ c3)), if_pos (i3.mpr c3)]
        rfl
      · rw [if_pos (neL_ c3 (by omega) (by omega)), if_neg (fun z => c3 (i3.mp z))]
        by_cases c4 : tX B n p = 115
        · rw [if_neg (fun z => z (eqL_ c4)), if_pos (i4.mpr c4)]
          rfl
        · rw [if_pos (neL_ c4 (by omega) (by omega)), if_neg (fun z => c4 (i4.mp z))]
          by_cases c5 : tX B n p = 109
          · rw [if_neg (fun z => z (eqL_ c5)), if_pos (i5.mpr c5)]
            rfl
          · rw [if_pos (neL_ c5 (by omega) (by omega)), if_neg (fun z => c5 (i5.mp z))]
            rfl
theorem srt_no {B : Nat → Nat} {n p : Nat} (t : ¬ tT B n p = 2) : srt B n p = 0 := by
  have i : ∀ c, 97 ≤ c → ¬ isTk B n c p := fun c hc q => t ((isTk_l hc).mp q).1
  unfold srt
  rw [if_neg (i 110 (by omega)), if_neg (i 99 (by omega)), if_neg (i 102 (by omega)), if_neg (i 115 (by omega)), if_neg (i 109 (by omega))]
theorem readWit_r {B : Nat → Nat} {n p : Nat} {σ0 σ : jMem} {A : aP} (h : SR B n σ0 σ p A) (t : tT B n p = 2) (hs : srt B n p ≠ 0) : OV B n σ0 (f_X12_readWitness σ) (pWit B n A p) := by
  obtain ⟨hT, hD, hG, hF⟩ := h
  have hb := hG.1.b
  have hs5 := srt_le B n p
  have h4 : σ.1 94 4 = nI (a_nw A) := (hD.1.f (o := 0)).2.2.2.2.1
  rw [rw_eq, hT.2.2.2.2.2.1 (by omega), kind_r (fun i hi => (hT.1.2.2 i hi).1) t, if_neg hs, jbd_eq, jldL_ (by omega) (by omega), h4, jj_eq]
  unfold pWit
  by_cases c0 : 6 ≤ a_nw A
  · obtain ⟨σ', e, q, f⟩ := bad_r (f := 3) hT (by omega) (by omega)
    rw [if_neg (fun z => z (eqL_ (by omega))), if_pos c0, show (3 : Int32) = nI 3 from rfl, e, jbv_eq]
    exact rwA_A _ σ' 3 p q (hF.trans f)
  · rw [if_pos (neL_ (by omega) (by omega) (by omega)), if_neg c0]
    show OV B n σ0 (rwA (nI (srt B n p)) σ) _
    unfold rwA
    obtain ⟨σ1, e1, t1, f1⟩ := must_y (x := 1) hT (by decide)
    rw [e1, jbv_eq]
    have F1 := hF.trans (frR_Q f1)
    refine numR (G := OV B n σ0) (lo := 0) (hi := 60) t1 (by omega) F1 (fun _ => rfl) (fun v => AB_sign _ (AB_num _ _ (fun v' => AB_sign _ (rwD_A _ v v')))) (fun q1 _ l2 σ3 t3 f3 => ?_)
    have F3 := F1.trans (frR_Q f3)
    refine signK (G := OV B n σ0) (c := 44) t3 (by omega) F3 (AB_num _ _ (fun v' => AB_sign _ (rwD_A _ _ v'))) (fun _ σ4 t4 f4 => ?_)
    have F4 := F3.trans (frR_Q f4)
    refine numR (G := OV B n σ0) (lo := 0) (hi := 7) t4 (by omega) F4 (fun _ => rfl) (fun v' => AB_sign _ (rwD_A _ _ v')) (fun q4 _ l4 σ5 t5 f5 => ?_)
    have F5 := F4.trans (frR_Q f5)
    refine signK (G := OV B n σ0) (c := 59) t5 (by omega) F5 (rwD_A _ _ _) (fun _ σ6 t6 f6 => ?_)
    exact rwD_r t6 (((((hD.fr hG.1 f1).fr hG.1 f3).fr hG.1 f4).fr hG.1 f5).fr hG.1 f6) hG (hG.addW (by omega) (by omega) hs5 l2 (by omega)) (F5.trans (frR_Q f6)) (by omega)
def OW (B : Nat → Nat) (n : Nat) (σ0 : jMem) (X : Option (Unit × jMem)) : PRs → Prop
  | .inl e => ∃ σ', X = some ((), σ') ∧ FL σ' e.1 e.2 ∧ FR frQ σ0 σ'
  | .inr q => ∃ σ', X = some ((), σ') ∧ SR B n σ0 σ' q.2 q.1
theorem l100_f {σ : jMem} {f pl m : Nat} (h : FL σ f pl) (hm : 0 < m) : jloop (fun (rec : Unit → jMem → Option (Unit × jMem)) (_ : Unit) σ => X12_parish_L100_b rec σ) m () σ = some ((), σ) := by
  obtain ⟨m, rfl⟩ : ∃ m', m = m' + 1 := ⟨m - 1, by omega⟩
  show X12_parish_L100_b (jloop (fun (rec : Unit → jMem → Option (Unit × jMem)) (_ : Unit) σ => X12_parish_L100_b rec σ) m) σ = _
  unfold X12_parish_L100_b
  rw [let_f h, jbd_eq, if_pos rfl]
theorem l116_f {σ : jMem} {f pl m : Nat} (h : FL σ f pl) (hm : 0 < m) : jloop (fun (rec : Unit → jMem → Option (Unit × jMem)) (_ : Unit) σ => X12_parish_L116_b rec σ) m () σ = some ((), σ) := by
  obtain ⟨m, rfl⟩ : ∃ m', m = m' + 1 := ⟨m - 1, by omega⟩
  show X12_parish_L116_b (jloop (fun (rec : Unit → jMem → Option (Unit × jMem)) (_ : Unit) σ => X12_parish_L116_b rec σ) m) σ = _
  unfold X12_parish_L116_b
  rw [if_pos h.nz]
theorem pathsR {B : Nat → Nat} {n : Nat} {σ0 : jMem} : ∀ (k : Nat) (A : aP) (p : Nat) (σ : jMem) (m : Nat), a_np A + k = 13 → SR B n σ0 σ p A → k + 1 < m → OW B n σ0 (jloop (fun (rec : Unit → jMem → Option (Unit × jMem)) (_ : Unit) σ => X12_parish_L100_b rec σ) m () σ) (if isTk B n 112 p then pPs B n k A p else .inr (A, p))
  | 0, A, p, σ, m, hk, h, _ => by
    have := h.2.2.1.1.b
    omega
  | k + 1, A, p, σ, m, hk, h, hm => by
    obtain ⟨m, rfl⟩ : ∃ m', m = m' + 1 := ⟨m - 1, by omega⟩
    have hl := let_r (c := 112) h.1 (by omega) (by omega)
    have hl : f_X12_isLetter (112 : Int32) σ = some (if isTk B n 112 p then 1 else 0, σ) := hl
    have st : jloop (fun (rec : Unit → jMem → Option (Unit × jMem)) (_ : Unit) σ => X12_parish_L100_b rec σ) (m + 1) () σ = jbd (f_X12_isLetter (112 : Int32) σ) (fun v31 σ32 => if v31 = 0 then some ((), σ32) else jbv (f_X12_readPath σ32) (fun σ34 => jloop (fun (rec : Unit → jMem → Option (Unit × jMem)) (_ : Unit) σ => X12_parish_L100_b rec σ) m () σ34)) := rfl
    rw [st, hl, jbd_eq]
    by_cases t : isTk B n 112 p
    · rw [if_pos t, if_neg (by decide), if_pos t]
      have hr := readPath_r h t
      show OW B n σ0 _ (bnd (pPath B n A p) (fun A' p' => if isTk B n 112 p' then pPs B n k A' p' else .inr (A', p')))
      cases e : pPath B n A p with
      | inl z =>
        rw [e] at hr
        obtain ⟨σ', r1, r2, r3⟩ := hr
        rw [r1, jbv_eq, l100_f r2 (by omega)]
        exact ⟨σ', rfl, r2, r3⟩
      | inr z =>
        rw [e] at hr
        obtain ⟨σ', r1, r2⟩ := hr
        have hnp := pPath_np e
        rw [r1, jbv_eq]
        exact pathsR k z.1 z.2 σ' m (by omega) r2 (by omega)
    · rw [if_neg t, if_pos rfl, if_neg t]
      exact ⟨σ, rfl, h⟩
theorem witsR {B : Nat → Nat} {n : Nat} {σ0 : jMem} : ∀ (k : Nat) (A : aP) (p : Nat) (σ : jMem) (m : Nat), a_nw A + k = 7 → SR B n σ0 σ p A → k + 1 < m → OW B n σ0 (jloop (fun (rec : Unit → jMem → Option (Unit × jMem)) (_ : Unit) σ => X12_parish_L116_b rec σ) m () σ) (pWs B n k A p)
  | 0, A, p, σ, m, hk, h, _ => by
    have := h.2.2.1.1.b
    omega
  | k + 1, A, p, σ, m, hk, h, hm => by
    obtain ⟨m, rfl⟩ : ∃ m', m = m' + 1 := ⟨m - 1, by omega⟩
    have hT := tT_le B n p
    have hs5 := srt_le B n p
    have st : jloop (fun (rec : Unit → jMem → Option (Unit × jMem)) (_ : Unit) σ => X12_parish_L116_b rec σ) (m + 1) () σ = (if ¬ (σ.1 89 16) = 0 then some ((), σ) else if ¬ (σ.1 89 14) = (2 : Int32) then some ((), σ) else jbd (f_X12_kindBy (σ.1 89 15) σ) (fun v38 σ39 => if v38 = (-1000000 : Int32) then some ((), σ39) else jbv (f_X12_readWitness σ39) (fun σ41 => jloop (fun (rec : Unit → jMem → Option (Unit × jMem)) (_ : Unit) σ => X12_parish_L116_b rec σ) m () σ41))) := rfl
    show OW B n σ0 _ (if srt B n p = 0 then .inr (A, p) else bnd (pWit B n A p) fun A' p' => pWs B n k A' p')
    rw [st, h.1.2.2.2.2.2.2, if_neg (fun z => z rfl), h.1.2.2.2.2.1]
    by_cases t : tT B n p = 2
    · rw [if_neg (fun z => z (eqL_ t)), h.1.2.2.2.2.2.1 (by omega), kind_r (fun i hi => (h.1.1.2.2 i hi).1) t, jbd_eq]
      by_cases s : srt B n p = 0
      · rw [if_pos s, if_pos rfl, if_pos s]
        exact ⟨σ, rfl, h⟩
      · rw [if_neg s, if_neg (nI_ne_inf (by omega)), if_neg s]
        have hr := readWit_r h t s
        cases e : pWit B n A p with
        | inl z =>
          rw [e] at hr
          obtain ⟨σ', r1, r2, r3⟩ := hr
          rw [r1, jbv_eq, l116_f r2 (by omega)]
          exact ⟨σ', rfl, r2, r3⟩
        | inr z =>
          rw [e] at hr
          obtain ⟨σ', r1, r2⟩ := hr
          have hnw := pWit_nw e
          rw [r1, jbv_eq]
          exact witsR k z.1 z.2 σ' m (by omega) r2 (by omega)
    · rw [if_pos (neL_ t (by omega) (by omega)), if_pos (srt_no t)]
      exact ⟨σ, rfl, h⟩
