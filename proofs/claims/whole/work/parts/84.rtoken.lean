/-! ===== PURE: the reference's tokens ===== -/
def RT (σ : jMem) (B : Nat → Nat) (n : Nat) : Prop := n ≤ 140 ∧ σ.1 89 11 = nI n ∧ ∀ i, i < n → B i < 256 ∧ σ.1 97 i = nI (B i)
def frR (c j : Nat) : Prop := c = 89 ∧ 12 ≤ j ∧ j ≤ 15
theorem RT.fr {σ τ : jMem} {B : Nat → Nat} {n : Nat} {P : Nat → Nat → Prop} (h : RT σ B n) (f : FR P σ τ) (h1 : ¬ P 89 11) (h2 : ∀ i, ¬ P 97 i) : RT τ B n := ⟨h.1, (f.1 89 11 h1).trans h.2.1, fun i hi => ⟨(h.2.2 i hi).1, (f.1 97 i (h2 i)).trans (h.2.2 i hi).2⟩⟩
theorem in_b {b lo hi : Nat} (hb : b < 256) (hl : (OfNat.ofNat lo : Nat) < 256) (hh : (OfNat.ofNat hi : Nat) < 256) (σ : jMem) : f_X12_in (nI b).toInt64 (OfNat.ofNat lo : Int64) (OfNat.ofNat hi : Int64) σ = some (if (OfNat.ofNat lo : Nat) ≤ b ∧ b ≤ (OfNat.ofNat hi : Nat) then 1 else 0, σ) := by
  have hl' : lo < 256 := hl
  have hh' : hi < 256 := hh
  have := in_lit (nI b) lo hi (by omega) (by omega) σ
  rw [nI_toInt (by omega)] at this
  refine Eq.trans this ?_
  show some (if (lo : Int) ≤ b ∧ (b : Int) ≤ hi then (1 : Int32) else 0, σ) = some (if lo ≤ b ∧ b ≤ hi then 1 else 0, σ)
  by_cases c : lo ≤ b ∧ b ≤ hi
  · rw [if_pos c, if_pos (by omega)]
  · rw [if_neg c, if_neg (by omega)]
theorem numL_r {σ : jMem} {B : Nat → Nat} {n p : Nat} (hS : RT σ B n) (h13 : σ.1 89 13 = nI p) (h12 : σ.1 89 12 = nI (p + 1)) (h15 : σ.1 89 15 = nI (B p - 48)) (hf : fg B n p) : ∃ σ', X12_nextToken_L165 jFU () σ = some ((), σ') ∧ σ'.1 89 15 = nI (vK B p (enF B n p - p)) ∧ σ'.1 89 12 = nI (enF B n p) ∧ FR (fun c j => c = 89 ∧ (j = 12 ∨ j = 15)) σ σ' := by
  have hn := hS.1
  have hp := hf.1
  have H := jloop_ex (body := fun (rec : Unit → jMem → Option (Unit × jMem)) (s : Unit) σ => X12_nextToken_L165_b rec σ) (fun k s τ => (∀ j, j < k + 1 → fg B n (p + j)) ∧ τ.1 89 15 = nI (vK B p (k + 1)) ∧ τ.1 89 12 = nI (p + (k + 1)) ∧ FR (fun c j => c = 89 ∧ (j = 12 ∨ j = 15)) σ τ) (fun r => r.2.1 89 15 = nI (vK B p (enF B n p - p)) ∧ r.2.1 89 12 = nI (enF B n p) ∧ FR (fun c j => c = 89 ∧ (j = 12 ∨ j = 15)) σ r.2) (n - p - 1) ?_ ?_ () σ ⟨fun j hj => by rw [show j = 0 by omega]; exact hf, h15, h12, FR.refl σ⟩ jFU (by unfold jFU; omega)
  · obtain ⟨⟨u, ρ⟩, ⟨r1, r2, r3⟩, r4⟩ := H
    exact ⟨ρ, r4, r1, r2, r3⟩
  · rintro k s τ hk ⟨g1, g2, g3, g4⟩
    have hSt := hS.fr g4 (by omega) (fun i => by omega)
    have g13 : τ.1 89 13 = nI p := (g4.1 89 13 (by omega)).trans h13
    have hb := hSt.2.2 (p + (k + 1)) (by omega)
    have hv := vK_le g1
    by_cases c : 48 ≤ B (p + (k + 1)) ∧ B (p + (k + 1)) ≤ 57
    · left
      have hf' : fg B n (p + (k + 1)) := ⟨by omega, c⟩
      refine ⟨(), jset (jset τ 89 15 (nI (vK B p (k + 1 + 1)))) 89 12 (nI (p + (k + 1 + 1))), ⟨fun j hj => ?_, by rw [jset_o (by omega), jset_i], jset_i, (g4.set ⟨rfl, by omega⟩).set ⟨rfl, by omega⟩⟩, fun rec => ?_⟩
      · by_cases e : j = k + 1
        · rw [e]
          exact hf'
        · exact g1 j (by omega)
      · show X12_nextToken_L165_b rec τ = _
        unfold X12_nextToken_L165_b
        rw [hSt.2.1, g3, if_neg (nle_ (by omega) (by omega)), jld_eq (by omega) (by omega), hb.2, in_b hb.1 (by omega) (by omega), if_pos c, jbd_eq, if_neg (by decide)]
        refine jj_use (nI (vK B p (k + 1 + 1))) τ ?_ ?_
        · intro K
          rw [g3, g13, pk_sub (by omega), show p + (k + 1) - p = k + 1 by omega]
          by_cases c2 : 2 ≤ k + 1
          · rw [if_pos (Lle c2 (by omega)), g2, vK_2 B p c2]
          · rw [if_neg (Lle_ (by omega) (by omega)), jld_eq (by omega) (by omega), hb.2, g2, nI_Lmul, nI_add, nI_subL (by omega), Nat.mul_comm, vK_s g1 hf' (by omega)]
        · rw [jlet_eq, jset_o (by omega), g3, nI_1, jlet_eq]
          rfl
    · right
      have he : enF B n p = p + (k + 1) := enF_k g1 (fun q => c q.2)
      refine ⟨((), τ), ⟨by rw [he, show p + (k + 1) - p = k + 1 by omega]; exact g2, by rw [he]; exact g3, g4⟩, fun rec => ?_⟩
      show X12_nextToken_L165_b rec τ = _
      unfold X12_nextToken_L165_b
      rw [hSt.2.1, g3, if_neg (nle_ (by omega) (by omega)), jld_eq (by omega) (by omega), hb.2, in_b hb.1 (by omega) (by omega), if_neg c, jbd_eq, if_pos rfl]
  · rintro s τ ⟨g1, g2, g3, g4⟩
    have hSt := hS.fr g4 (by omega) (fun i => by omega)
    have he : enF B n p = p + (n - p - 1 + 1) := enF_k g1 (fun q => by have := q.1; omega)
    refine ⟨((), τ), ⟨by rw [he, show p + (n - p - 1 + 1) - p = n - p - 1 + 1 by omega]; exact g2, by rw [he]; exact g3, g4⟩, fun rec => ?_⟩
    show X12_nextToken_L165_b rec τ = _
    unfold X12_nextToken_L165_b
    rw [hSt.2.1, g3, if_pos (nI_le (by omega) (by omega))]
/-- it stands at the token at p, with no fault so far -/
def TR (σ : jMem) (B : Nat → Nat) (n p : Nat) : Prop := RT σ B n ∧ p ≤ n ∧ σ.1 89 12 = nI (tN B n p) ∧ σ.1 89 13 = nI p ∧ σ.1 89 14 = nI (tT B n p) ∧ (2 ≤ tT B n p → σ.1 89 15 = nI (tX B n p)) ∧ σ.1 89 16 = 0
theorem next_r {σ : jMem} {B : Nat → Nat} {n p : Nat} (hS : RT σ B n) (hp : p ≤ n) (h12 : σ.1 89 12 = nI p) (h16 : σ.1 89 16 = 0) : ∃ σ', f_X12_nextToken σ = some σ' ∧ TR σ' B n p ∧ FR frR σ σ' := by
  have hn := hS.1
  have h11 := hS.2.1
  have F1 : FR frR σ (jset σ 89 13 (nI p)) := (FR.refl σ).set ⟨rfl, by omega⟩
  have mk : ∀ σ', FR frR σ σ' → σ'.1 89 12 = nI (tN B n p) → σ'.1 89 13 = nI p → σ'.1 89 14 = nI (tT B n p) → (2 ≤ tT B n p → σ'.1 89 15 = nI (tX B n p)) → TR σ' B n p := fun σ' f q1 q2 q3 q4 => ⟨hS.fr f (by unfold frR; omega) (fun i => by unfold frR; omega), hp, q1, q2, q3, q4, (f.1 89 16 (by unfold frR; omega)).trans h16⟩
  have a11 : (jset σ 89 13 (nI p)).1 89 11 = nI n := by rw [jset_o (by omega)]; exact h11
  have a12 : (jset σ 89 13 (nI p)).1 89 12 = nI p := by rw [jset_o (by omega)]; exact h12
  by_cases cp : n ≤ p
  · have e : p = n := by omega
    have et : tT B n p = 1 := by
      unfold tT
      rw [if_pos cp]
    have en : tN B n p = p := by
      unfold tN
      rw [if_pos cp]
    refine ⟨jset (jset (jset (jset σ 89 13 (nI p)) 89 15 (-1000000)) 89 14 (nI 1)) 89 12 (nI p), ?_, mk _ (((F1.set ⟨rfl, by omega⟩).set ⟨rfl, by omega⟩).set ⟨rfl, by omega⟩) (by rw [jset_i, en]) (by rw [jset_o (by omega), jset_o (by omega), jset_o (by omega), jset_i]) (by rw [jset_o (by omega), jset_i, et]) (fun q => by omega), ((F1.set ⟨rfl, by omega⟩).set ⟨rfl, by omega⟩).set ⟨rfl, by omega⟩⟩
    unfold f_X12_nextToken
    rw [h12, jlet_eq]
    refine jj_use (-1000000) (jset σ 89 13 (nI p)) ?_ ?_
    · intro K
      rw [a11, a12, if_pos (nI_le cp (by omega))]
    · rw [jlet_eq]
      refine jj_use (nI 1) (jset (jset σ 89 13 (nI p)) 89 15 (-1000000)) ?_ ?_
      · intro K
        rw [jset_o (by omega), a12, jset_o (by omega), a11, if_neg (fun z => z (by rw [e]))]
        rfl
      · rw [jlet_eq]
        refine jj_use (0 : Int32) (jset (jset (jset σ 89 13 (nI p)) 89 15 (-1000000)) 89 14 (nI 1)) ?_ ?_
        · intro K
          rw [jset_o (by omega), jset_o (by omega), a11, jset_o (by omega), jset_o (by omega), a12, if_pos (nI_le cp (by omega))]
        · rw [jset_o (by omega), jset_o (by omega), a12, show nI p + (0 : Int32) = nI p from nI_add p 0, jlet_eq, jset_o (by omega), jset_i, if_pos (by decide)]
  · have hb := hS.2.2 p (by omega)
    have a97 : (jset σ 89 13 (nI p)).1 97 p = nI (B p) := by rw [jset_o (by omega)]; exact hb.2
    have pre : ∀ t : Nat, (if 97 ≤ B p ∧ B p ≤ 122 then 2 else if 48 ≤ B p ∧ B p ≤ 57 then 3 else if B p = 44 ∨ B p = 59 then 4 else 0) = t → f_X12_nextToken σ = (if ¬ nI t = (3 : Int32) then some (jset (jset (jset (jset σ 89 13 (nI p)) 89 15 (nI (B p))) 89 14 (nI t)) 89 12 (nI (p + 1))) else jlet (jset (jset (jset (jset (jset σ 89 13 (nI p)) 89 15 (nI (B p))) 89 14 (nI t)) 89 12 (nI (p + 1))) 89 15 (nI (B p) - (48 : Int32))) (fun σ14 => jbd (X12_nextToken_L165 jFU () σ14) (fun q25 σ26 => jj (fun (q28 : Int32) σ29 => jlet (jset σ29 89 14 q28) (fun σ30 => some σ30)) (fun k27 => if ((σ26.1 89 12) - (σ26.1 89 13)) ≤ (2 : Int32) then k27 (3 : Int32) σ26 else k27 (0 : Int32) σ26)))) := by
      intro t ht
      unfold f_X12_nextToken
      rw [h12, jlet_eq]
      refine jj_use (nI (B p)) (jset σ 89 13 (nI p)) ?_ ?_
      · intro K
        rw [a11, a12, if_neg (nle_ (by omega) (by omega)), jld_eq (by omega) (by omega), a97]
      · rw [jlet_eq]
        refine jj_use (nI t) (jset (jset σ 89 13 (nI p)) 89 15 (nI (B p))) ?_ ?_
        · intro K
          rw [jset_o (by omega), a12, jset_o (by omega), a11, if_pos (nne_ (by omega) (by omega) (by omega)), jset_i, in_b hb.1 (by omega) (by omega), ← ht]
          by_cases c1 : 97 ≤ B p ∧ B p ≤ 122
          · rw [if_pos c1, jbd_eq, if_neg (by decide), if_pos c1]
            rfl
          · rw [if_neg c1, jbd_eq, if_pos rfl, jset_i, in_b hb.1 (by omega) (by omega), if_neg c1]
            by_cases c2 : 48 ≤ B p ∧ B p ≤ 57
            · rw [if_pos c2, jbd_eq, if_neg (by decide), if_pos c2]
              rfl
            · rw [if_neg c2, jbd_eq, if_pos rfl, if_neg c2, jj_eq, jset_i]
              by_cases c3 : B p = 44
              · rw [if_pos (eqL_ c3), if_pos (Or.inl c3)]
                rfl
              · rw [if_neg (neL_ c3 (by omega) (by omega))]
                by_cases c4 : B p = 59
                · rw [if_neg (fun z => z (eqL_ c4)), if_pos (Or.inr c4)]
                  rfl
                · rw [if_pos (neL_ c4 (by omega) (by omega)), if_neg (show ¬ (B p = 44 ∨ B p = 59) by omega)]
                  rfl
        · rw [jlet_eq]
          refine jj_use (1 : Int32) (jset (jset (jset σ 89 13 (nI p)) 89 15 (nI (B p))) 89 14 (nI t)) ?_ ?_
          · intro K
            rw [jset_o (by omega), jset_o (by omega), a11, jset_o (by omega), jset_o (by omega), a12, if_neg (nle_ (by omega) (by omega))]
          · have b14 : (jset (jset (jset (jset σ 89 13 (nI p)) 89 15 (nI (B p))) 89 14 (nI t)) 89 12 (nI (p + 1))).1 89 14 = nI t := by rw [jset_o (by omega), jset_i]
            have b15 : (jset (jset (jset (jset σ 89 13 (nI p)) 89 15 (nI (B p))) 89 14 (nI t)) 89 12 (nI (p + 1))).1 89 15 = nI (B p) := by rw [jset_o (by omega), jset_o (by omega), jset_i]
            have b12 : (jset (jset (jset σ 89 13 (nI p)) 89 15 (nI (B p))) 89 14 (nI t)).1 89 12 = nI p := by rw [jset_o (by omega), jset_o (by omega), a12]
            rw [b12, nI_1, jlet_eq, b14, b15]
    have F4 : ∀ t : Nat, FR frR σ (jset (jset (jset (jset σ 89 13 (nI p)) 89 15 (nI (B p))) 89 14 (nI t)) 89 12 (nI (p + 1))) := fun t => ((F1.set ⟨rfl, by omega⟩).set ⟨rfl, by omega⟩).set ⟨rfl, by omega⟩
    by_cases cf : 48 ≤ B p ∧ B p ≤ 57
    · have hf : fg B n p := ⟨by omega, cf⟩
      have hl := enF_le (B := B) (n := n) (p := p) hp
      have e3 := pre 3 (by rw [if_neg (by omega), if_pos cf])
      rw [if_neg (fun z => z rfl), nI_subL (by omega), jlet_eq] at e3
      have F5 : FR frR σ (jset (jset (jset (jset (jset σ 89 13 (nI p)) 89 15 (nI (B p))) 89 14 (nI 3)) 89 12 (nI (p + 1))) 89 15 (nI (B p - 48))) := (F4 3).set ⟨rfl, by omega⟩
      obtain ⟨σ', t1, t2, t3, t4⟩ := numL_r (p := p) (hS.fr F5 (by unfold frR; omega) (fun i => by unfold frR; omega)) (by rw [jset_o (by omega), jset_o (by omega), jset_o (by omega), jset_o (by omega), jset_i]) (by rw [jset_o (by omega), jset_i]) jset_i hf
      have t13 : σ'.1 89 13 = nI p := by
        rw [t4.1 89 13 (by omega), jset_o (by omega), jset_o (by omega), jset_o (by omega), jset_o (by omega), jset_i]
      have F6 : FR frR σ σ' := F5.trans (t4.mono (fun c j q => ⟨q.1, by omega⟩))
      have en : tN B n p = enF B n p := by
        unfold tN
        rw [if_neg cp, if_pos hf]
      have ex : tX B n p = vK B p (enF B n p - p) := if_pos hf
      have et : tT B n p = if enF B n p - p ≤ 2 then 3 else 0 := by
        unfold tT
        rw [if_neg cp, if_neg (by omega), if_pos cf]
      refine ⟨jset σ' 89 14 (nI (tT B n p)), ?_, mk _ (F6.set ⟨rfl, by omega⟩) (by rw [jset_o (by omega), en]; exact t3) (by rw [jset_o (by omega)]; exact t13) jset_i (fun _ => by rw [jset_o (by omega), ex]; exact t2), F6.set ⟨rfl, by omega⟩⟩
      rw [e3]
      rw [t1, jbd_eq, jj_eq, t3, t13, pk_sub (by omega), et]
      by_cases c : enF B n p - p ≤ 2
      · rw [if_pos (leL c (by omega)), if_pos c]
        rfl
      · rw [if_neg (leL_ (by omega) (by omega)), if_neg c]
        rfl
    · have nf : ¬ fg B n p := fun q => cf q.2
      have en : tN B n p = p + 1 := by
        unfold tN
        rw [if_neg cp, if_neg nf]
      have ex : tX B n p = B p := if_neg nf
      have et : tT B n p = (if 97 ≤ B p ∧ B p ≤ 122 then 2 else if 48 ≤ B p ∧ B p ≤ 57 then 3 else if B p = 44 ∨ B p = 59 then 4 else 0) := by
        unfold tT
        rw [if_neg cp, if_neg cf, if_neg cf]
      have n3 : tT B n p ≠ 3 := by
        rw [et, if_neg cf]
        split
        · omega
        · split <;> omega
      have l4 : tT B n p ≤ 4 := by
        rw [et, if_neg cf]
        split
        · omega
        · split <;> omega
      refine ⟨_, (pre _ et.symm).trans (if_pos (neL_ n3 (by omega) (by omega))), mk _ (F4 _) (by rw [jset_i, en]) (by rw [jset_o (by omega), jset_o (by omega), jset_o (by omega), jset_i]) (by rw [jset_o (by omega), jset_i]) (fun _ => by rw [jset_o (by omega), jset_o (by omega), jset_i, ex]), F4 _⟩
