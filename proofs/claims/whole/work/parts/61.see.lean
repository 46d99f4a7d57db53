/-! ===== PURE: a burial; what is seen ===== -/
def opn (A : aP) : Nat := andn (2 ^ a_np A - 1) (a_gt A)
def bur (A : aP) (a : Nat) : Nat := if dst A (opn A) a = INF ∨ a = a_ch A then 0 else 1
theorem opn_lt (A : aP) : opn A < 2 ^ a_np A := andn_lt (by have := Nat.two_pow_pos (a_np A); omega)
def frC (c _j : Nat) : Prop := c = 80 ∨ c = 81
def frW (c j : Nat) : Prop := c = 98 ∨ (c = 89 ∧ 20 ≤ j ∧ j ≤ 22)
theorem bur_le (A : aP) (a : Nat) : bur A a ≤ 1 := by unfold bur; split <;> omega
theorem isBur_c {σ : jMem} {k a : Nat} {A : aP} (hP : PC σ k A) (hW : WF A) (hk : k + 7 < 80) (ha : a < 8) : ∃ σ', f_X2_isBurial k (nI a) σ = some (nI (bur A a), σ') ∧ (bur A a = 1 → σ'.1 80 1 = nI (wy A (opn A) a) ∧ σ'.1 80 2 = nI (2 ^ pid A (opn A) a)) ∧ FR frC σ σ' := by
  have hch := hW.1.2.1
  unfold f_X2_isBurial
  rw [hP.1.2.1]
  by_cases c : a = a_ch A
  · have e : bur A a = 0 := if_pos (Or.inr c)
    refine ⟨σ, ?_, by rw [e]; omega, FR.refl σ⟩
    rw [if_pos (by rw [c]), e]
    rfl
  · rw [if_neg (nne_ c (by omega) (by omega)), open_c hP hW, jbd_eq]
    obtain ⟨σ', h1, h2, h3, h4, h5, h6⟩ := carry_c (op := opn A) hP hW hk (np_lt hW (opn_lt A)) ha
    refine ⟨σ', ?_, ?_, h6⟩
    · show jbd (f_X2_carry k (nI (opn A)) (nI a) σ) _ = _
      rw [h1, jbd_eq]
      unfold bur
      by_cases c2 : dst A (opn A) a = INF
      · rw [if_pos c2, if_pos (Or.inl c2)]
        rfl
      · have hn : ¬ (dst A (opn A) a = INF ∨ a = a_ch A) := by rintro (q | q); exact c2 q; exact c q
        rw [if_neg c2, if_neg hn]
        rfl
    · intro hb
      have c2 : ¬ (dst A (opn A) a = INF ∨ a = a_ch A) := by
        intro q
        unfold bur at hb
        rw [if_pos q] at hb
        omega
      refine ⟨h3, ?_⟩
      rw [h4]
      unfold fm
      rw [if_neg c2]
theorem isBur_r {σ : jMem} {a : Nat} {A : aP} (hP : PR σ 93 0 A) (hW : WF A) (ha : a < 8) : ∃ σ', f_X12_isBurial (nI (a_gt A)) (nI a) σ = some (nI (bur A a), σ') ∧ (bur A a = 1 → σ'.1 89 20 = nI (wy A (opn A) a) ∧ σ'.1 89 21 = nI (pid A (opn A) a)) ∧ FR frW σ σ' := by
  have hch := hW.1.2.1
  have hg := np_lt hW hW.1.2.2.2.2.2.2
  have hI := INF_v
  obtain ⟨σ', h1, h2, h3, h4, h5, h6⟩ := layWay_r (g := a_gt A) hP hW (by omega) ha
  have hP' := hP.offF hW h6 (fun j => by omega)
  have h93 : σ'.1 93 1 = nI (a_ch A) := (hP'.f (o := 0)).2.1
  refine ⟨σ', ?_, ?_, h6⟩
  · unfold f_X12_isBurial
    rw [h1, jbv_eq, jldL_ (by omega) (by omega), h93]
    unfold bur
    by_cases c : a = a_ch A
    · rw [if_pos (by rw [c]), if_pos (Or.inr c)]
      rfl
    · rw [if_neg (nne_ c (by omega) (by omega)), h4]
      by_cases c2 : dst A (opn A) a = INF
      · rw [if_pos (Or.inl c2)]
        show (if rF (dst A (opn A) a) = _ then _ else _) = _
        rw [c2, rF_i, if_pos rfl]
        rfl
      · have hn : ¬ (dst A (opn A) a = INF ∨ a = a_ch A) := by rintro (q | q); exact c2 q; exact c q
        rw [if_neg hn]
        show (if rF (dst A (opn A) a) = _ then _ else _) = _
        have q1 : dst A (opn A) a ≤ 1728 := by rcases dst_fn (opn A) hW a with q | q <;> omega
        rw [rF_n (by omega), if_neg (nI_ne_inf (by omega))]
        rfl
  · intro hb
    have c2 : ¬ (dst A (opn A) a = INF ∨ a = a_ch A) := by
      intro q
      unfold bur at hb
      rw [if_pos q] at hb
      omega
    refine ⟨h2, ?_⟩
    rw [h3]
    show (if dst A (opn A) a = INF ∨ a = a_ch A then _ else _) = _
    rw [if_neg c2]
    rfl
theorem bur_pid {A : aP} {a : Nat} (hW : WF A) (ha : a < 8) (hb : bur A a = 1) : pid A (opn A) a < a_np A := by
  have c2 : ¬ (dst A (opn A) a = INF ∨ a = a_ch A) := by
    intro q
    unfold bur at hb
    rw [if_pos q] at hb
    omega
  have := dst_inf A (opn A) a
  exact (nxt_ok hW ha (fun q => c2 (Or.inr q)) (by
    have : dst A (opn A) a ≠ INF := fun q => c2 (Or.inl q)
    omega)).2.1
/-- what a kind sees of the way w, whose first path is f -/
def snN (A : aP) (gt kd hm w f : Nat) : Nat :=
  if kd = 1 then w &&& pAt A hm else if kd = 2 then (if w &&& pAt A hm ≠ 0 ∨ hm = a_ch A then w else 0) else if kd = 3 then (if pAt A hm &&& gt ≠ 0 then 0 else w &&& pAt A hm) else if kd = 4 then w else f
theorem snN_lt {A : aP} {gt kd hm w f : Nat} (hw : w < 2 ^ a_np A) (hf : f < 2 ^ a_np A) : snN A gt kd hm w f < 2 ^ a_np A := by
  have h1 : w &&& pAt A hm < 2 ^ a_np A := Nat.lt_of_le_of_lt Nat.and_le_left hw
  have h0 := Nat.two_pow_pos (a_np A)
  unfold snN
  split
  · exact h1
  · split
    · split
      · exact hw
      · exact h0
    · split
      · split
        · exact h0
        · exact h1
      · split
        · exact hw
        · exact hf
theorem x4_sees {σ : jMem} {k x hm w : Nat} {A : aP} (hP : PC σ k A) (hW : WF A) (hh : hm < 8) (h1 : σ.1 80 1 = nI w) : f_X4_sees x k (nI hm) σ = some (nI (w &&& pAt A hm), σ) := by
  unfold f_X4_sees
  rw [pathsAt_c hP hW hh, jbd_eq, h1, nI_and]
theorem sees_c {σ : jMem} {k kd hm w f : Nat} {A : aP} (hP : PC σ k A) (hW : WF A) (h1 : 1 ≤ kd) (h2 : kd ≤ 5) (hh : hm < 8) (hw : w < 2 ^ a_np A) (e1 : σ.1 80 1 = nI w) (e2 : σ.1 80 2 = nI f) : vf_X10_sees (16 + 1 * kd) k (nI hm) σ = some (nI (snN A (a_gt A) kd hm w f), σ) := by
  have hch := hW.1.2.1
  have hlt := np_lt hW (Nat.lt_of_le_of_lt (Nat.and_le_left (m := pAt A hm)) hw)
  have hlt3 := np_lt hW (Nat.lt_of_le_of_lt (Nat.and_le_left (m := a_gt A)) (pAt_lt A hm))
  rcases (show kd = 1 ∨ kd = 2 ∨ kd = 3 ∨ kd = 4 ∨ kd = 5 by omega) with rfl | rfl | rfl | rfl | rfl
  · show f_X4_sees 17 k (nI hm) σ = _
    rw [x4_sees hP hW hh e1]
    rfl
  · show f_X1_sees 18 k (nI hm) σ = _
    unfold f_X1_sees
    rw [x4_sees hP hW hh e1, jbd_eq, jj_eq, jj_eq]
    show _ = some (nI (if w &&& pAt A hm ≠ 0 ∨ hm = a_ch A then w else 0), σ)
    by_cases c1 : w &&& pAt A hm = 0
    · rw [c1, if_neg (fun z => z rfl), hP.1.2.1]
      by_cases c2 : hm = a_ch A
      · rw [if_neg (fun z => z (by rw [c2])), if_pos (Or.inr c2)]
        dsimp only
        rw [if_neg (by decide), e1]
      · rw [if_pos (nne_ c2 (by omega) (by omega)), if_neg (by rintro (q | q); exact q rfl; exact c2 q)]
        dsimp only
        rw [if_pos rfl]
        rfl
    · rw [if_pos (neL_ c1 (by omega) (by omega)), if_pos (Or.inl c1)]
      dsimp only
      rw [if_neg (by decide), e1]
  · show f_X3_sees 19 k (nI hm) σ = _
    unfold f_X3_sees
    rw [pathsAt_c hP hW hh, jbd_eq, jj_eq, hP.1.2.2.2.2.2.2, nI_and]
    show _ = some (nI (if pAt A hm &&& a_gt A ≠ 0 then 0 else w &&& pAt A hm), σ)
    by_cases c1 : pAt A hm &&& a_gt A = 0
    · rw [if_pos (by rw [c1]; rfl), if_neg (fun z => z c1)]
      dsimp only
      rw [if_pos rfl, x4_sees hP hW hh e1]
      rfl
    · rw [if_neg (neL_ c1 (by omega) (by omega)), if_pos c1]
      rfl
  · show f_X8_sees 20 k (nI hm) σ = _
    unfold f_X8_sees
    rw [e1]
    rfl
  · show f_X7_sees 21 k (nI hm) σ = _
    unfold f_X7_sees
    rw [e2]
    rfl
theorem sees_r {σ : jMem} {gt kd hm w p : Nat} {A : aP} (hP : PR σ 93 0 A) (hW : WF A) (h1 : 1 ≤ kd) (h2 : kd ≤ 5) (hh : hm < 8) (hg : gt < 4096) (hw : w < 2 ^ a_np A) (hp : p < 12) (e1 : σ.1 89 20 = nI w) (e2 : σ.1 89 21 = nI p) : f_X12_sees (nI kd) (nI hm) (nI gt) σ = some (nI (snN A gt kd hm w (2 ^ p)), σ) := by
  have hch := hW.1.2.1
  have hlt := np_lt hW (Nat.lt_of_le_of_lt (Nat.and_le_left (m := pAt A hm)) hw)
  have hlt3 := np_lt hW (Nat.lt_of_le_of_lt (Nat.and_le_left (m := gt)) (pAt_lt A hm))
  have h93 : σ.1 93 1 = nI (a_ch A) := (hP.f (o := 0)).2.1
  unfold f_X12_sees snN
  rw [pathsAt_r hP hW hh, jbd_eq, e1, nI_and, jlet_eq]
  by_cases c1 : kd = 1
  · rw [if_pos (eqL_ c1), if_pos c1]
  · rw [if_neg (neL_ c1 (by omega) (by omega)), if_neg c1]
    by_cases c2 : kd = 2
    · rw [if_pos (eqL_ c2), if_pos c2]
      by_cases d1 : w &&& pAt A hm = 0
      · rw [d1, if_neg (fun z => z rfl), jldL_ (by omega) (by omega), h93]
        by_cases d2 : hm = a_ch A
        · rw [if_neg (fun z => z (by rw [d2])), if_pos (Or.inr d2)]
        · rw [if_pos (nne_ d2 (by omega) (by omega)), if_neg (by rintro (q | q); exact q rfl; exact d2 q)]
          rfl
      · rw [if_pos (neL_ d1 (by omega) (by omega)), if_pos (Or.inl d1)]
    · rw [if_neg (neL_ c2 (by omega) (by omega)), if_neg c2]
      by_cases c3 : kd = 3
      · rw [if_pos (eqL_ c3), if_pos c3, pathsAt_r hP hW hh, jbd_eq, nI_and]
        by_cases d1 : pAt A hm &&& gt = 0
        · rw [if_neg (fun z => z (by rw [d1]; rfl)), if_neg (fun z => z d1)]
        · rw [if_pos (neL_ d1 (by omega) (by omega)), if_pos d1]
          rfl
      · rw [if_neg (neL_ c3 (by omega) (by omega)), if_neg c3]
        by_cases c4 : kd = 4
        · rw [if_pos (eqL_ c4), if_pos c4]
        · rw [if_neg (neL_ c4 (by omega) (by omega)), if_neg c4, e2, nI_one_shl (by omega)]
def snA (A : aP) (w f i : Nat) : Nat := if aLv A i = 1 then snN A (a_gt A) (a_kd A i) (a_hm A i) w f else 0
def aSee (A : aP) (w f : Nat) : aP := dy A (a_yr A, a_gt A, a_ag A, fun i => a_sw A i ||| snA A w f i)
theorem snA_lt {A : aP} {w f : Nat} (hw : w < 2 ^ a_np A) (hf : f < 2 ^ a_np A) (i : Nat) : snA A w f i < 2 ^ a_np A := by
  unfold snA
  split
  · exact snN_lt hw hf
  · exact Nat.two_pow_pos _
theorem aSee_WF {A : aP} {w f : Nat} (hW : WF A) (hw : w < 2 ^ a_np A) (hf : f < 2 ^ a_np A) : WF (aSee A w f) := hW.dyn _ hW.1.2.2.2.1 hW.1.2.2.2.2.2.2 (fun i hi => ⟨(hW.2.2.2 i hi).2.2.1, Nat.or_lt_two_pow (hW.2.2.2 i hi).2.2.2.2 (snA_lt hw hf i)⟩)
theorem seenBy_c {σ : jMem} {k w f i : Nat} {A : aP} (hP : PC σ k A) (hW : WF A) (hw : w < 2 ^ a_np A) (e1 : σ.1 80 1 = nI w) (e2 : σ.1 80 2 = nI f) (hi : i < a_nw A) : f_X5_seenBy k (nI i) σ = some (nI (snA A w f i), σ) := by
  have hb := hW.b
  have hk := hW.2.2.2 i hi
  obtain ⟨p1, p2, p3, p4⟩ := hP.2.2 i hi
  unfold f_X5_seenBy snA
  rw [alive_c hP hW hi, jbd_eq]
  rcases (show aLv A i = 0 ∨ aLv A i = 1 by have := aLv_le A i; omega) with z | z
  · rw [z, if_pos (by decide), if_neg (by omega)]
    rfl
  · rw [z, if_neg (by decide), if_pos rfl, jld_eq (by omega) (by omega), p1, jldr_eq (by omega) (by omega), jld_eq (by omega) (by omega), p2, sees_c hP hW hk.1 hk.2.1 hk.2.2.2.1 hw e1 e2]
    rfl
theorem snA_mix (A B : aP) (w f i : Nat) : snA (dy A (mixD A B i)) w f i = snA A w f i := by
  have e := (mix_at A B i).2.2
  unfold snA
  rw [e]
  rfl
theorem see_c {σ : jMem} {k w f : Nat} {A : aP} (hP : PC σ k A) (hW : WF A) (hk : k + 7 < 80) (hw : w < 2 ^ a_np A) (hf : f < 2 ^ a_np A) (e1 : σ.1 80 1 = nI w) (e2 : σ.1 80 2 = nI f) : ∃ σ', f_X5_see k σ = some σ' ∧ PC σ' k (aSee A w f) ∧ FR (fun c _ => c = k + 7) σ σ' := by
  have hb := hW.b
  have hB := aSee_WF hW hw hf
  have hBB : ∀ i, i < a_nw A → a_ag (aSee A w f) i ≤ 100 ∧ a_sw (aSee A w f) i < 2 ^ a_np A := fun i hi => ⟨(hB.2.2.2 i hi).2.2.1, (hB.2.2.2 i hi).2.2.2.2⟩
  have H := jloop_inv (body := fun rec s σ => X5_see_L2_b k rec s σ) (fun i s τ => s = nI i ∧ PC τ k (dy A (mixD A (aSee A w f) i)) ∧ FR (fun c _ => c = k + 7) σ τ) (fun r => PC r.2 k (dy A (mixD A (aSee A w f) (a_nw A))) ∧ FR (fun c _ => c = k + 7) σ r.2) (a_nw A) ?_ ?_ (0 : Int32) σ ⟨rfl, by rw [mix0]; exact hP, FR.refl σ⟩ jFU (by unfold jFU; omega)
  · obtain ⟨⟨u, ρ⟩, ⟨hr1, hr2⟩, hr3⟩ := H
    refine ⟨ρ, ?_, ?_, hr2⟩
    · unfold f_X5_see
      rw [show X5_see_L2 k jFU (0 : Int32) σ = some (u, ρ) from hr3]
      rfl
    · refine hr1.dyn (dOf (aSee A w f)) (fun c j q1 q2 q3 => rfl) hr1.1.2.2.2.1 hr1.1.2.2.2.2.2.2 (fun i hi => ?_)
      have := hr1.2.2 i hi
      refine ⟨this.2.2.1.trans ?_, this.2.2.2.trans ?_⟩
      · show nI (if i < a_nw A then a_ag (aSee A w f) i else a_ag A i) = _
        rw [if_pos (show i < a_nw A from hi)]
      · show nI (if i < a_nw A then a_sw (aSee A w f) i else a_sw A i) = _
        rw [if_pos (show i < a_nw A from hi)]
  · rintro i s τ hi ⟨rfl, h1, h2⟩
    have hM := mix_WF hW hBB i
    obtain ⟨m1, m2, m3⟩ := mix_at A (aSee A w f) i
    have hwi := h1.2.2 i hi
    rw [m1, m2] at hwi
    have e1' : τ.1 80 1 = nI w := by rw [h2.1 80 1 (by omega)]; exact e1
    have e2' : τ.1 80 2 = nI f := by rw [h2.1 80 2 (by omega)]; exact e2
    refine ⟨nI (i + 1), jset τ (k + 7) i (nI (a_sw A i ||| snA A w f i)), ⟨rfl, ?_, h2.set rfl⟩, fun rec => ?_⟩
    · refine mix_c h1 (fun w' hw' => ?_) (fun w' hw' => jset_v _ _ _ _ _) (fun c j _ _ => jset_o (by omega))
      rw [jset_o (by omega)]
      by_cases q : w' = i
      · subst q
        rw [if_pos rfl, hwi.2.2.1]
        rfl
      · rw [if_neg q]
    · show X5_see_L2_b k rec (nI i) τ = _
      unfold X5_see_L2_b
      rw [h1.1.2.2.2.2.2.1, if_neg (nle_ (by show i < a_nw A; omega) (by show a_nw A < _; omega)), jld_eq (by omega) (by omega), hwi.2.2.2, seenBy_c h1 hM hw e1' e2' hi, jbd_eq, snA_mix, nI_or, jst_eq (by omega) (by omega), nI_1]
  · rintro s τ ⟨rfl, h1, h2⟩
    refine ⟨((), τ), ⟨h1, h2⟩, fun rec => ?_⟩
    show X5_see_L2_b k rec (nI (a_nw A)) τ = _
    unfold X5_see_L2_b
    rw [h1.1.2.2.2.2.2.1]
    exact if_pos (nI_le (Nat.le_refl (a_nw A)) (by omega))
theorem see_r {σ : jMem} {r w p : Nat} {A : aP} (hP : PR σ r 0 A) (hW : WF A) (hr : r ≠ 89) (hw : w < 2 ^ a_np A) (hp : p < a_np A) (e1 : σ.1 89 20 = nI w) (e2 : σ.1 89 21 = nI p) (hs : r = 93 ∨ ∃ d, WF (dy A d) ∧ PR σ 93 0 (dy A d)) : ∃ σ', f_X12_see r σ = some σ' ∧ PR σ' r 0 (aSee A w (2 ^ p)) ∧ FR (fun c _ => c = r) σ σ' := by
  have hb := hW.b
  have hf : 2 ^ p < 2 ^ a_np A := p2_lt hp
  have hB := aSee_WF hW hw hf
  have hBB : ∀ i, i < a_nw A → a_ag (aSee A w (2 ^ p)) i ≤ 100 ∧ a_sw (aSee A w (2 ^ p)) i < 2 ^ a_np A := fun i hi => ⟨(hB.2.2.2 i hi).2.2.1, (hB.2.2.2 i hi).2.2.2.2⟩
  have H := jloop_inv (body := fun rec s σ => X12_see_L2_b r rec s σ) (fun i s τ => s = nI i ∧ PR τ r 0 (dy A (mixD A (aSee A w (2 ^ p)) i)) ∧ FR (fun c _ => c = r) σ τ) (fun q => PR q.2 r 0 (dy A (mixD A (aSee A w (2 ^ p)) (a_nw A))) ∧ FR (fun c _ => c = r) σ q.2) (a_nw A) ?_ ?_ (0 : Int32) σ ⟨rfl, by rw [mix0]; exact hP, FR.refl σ⟩ jFU (by unfold jFU; omega)
  · obtain ⟨⟨u, ρ⟩, ⟨hr1, hr2⟩, hr3⟩ := H
    refine ⟨ρ, ?_, ?_, hr2⟩
    · unfold f_X12_see
      rw [show X12_see_L2 r jFU (0 : Int32) σ = some (u, ρ) from hr3]
      rfl
    · refine hr1.dyn hb (dOf (aSee A w (2 ^ p))) (fun j q1 q2 q3 => rfl) hr1.1.2.2.2.2.2.1 hr1.1.2.2.2.2.2.2 (fun i hi => ?_)
      have := hr1.2.2 i hi
      refine ⟨rfl, this.2.1.trans ?_, rfl, this.2.2.2.trans ?_⟩
      · show nI (if i < a_nw A then a_ag (aSee A w (2 ^ p)) i else a_ag A i) = _
        rw [if_pos (show i < a_nw A from hi)]
      · show nI (if i < a_nw A then a_sw (aSee A w (2 ^ p)) i else a_sw A i) = _
        rw [if_pos (show i < a_nw A from hi)]
  · rintro i s τ hi ⟨rfl, h1, h2⟩
    have hM := mix_WF hW hBB i
    obtain ⟨m1, m2, m3⟩ := mix_at A (aSee A w (2 ^ p)) i
    have hwi := h1.2.2 i hi
    rw [m1, m2] at hwi
    simp only [Nat.zero_add] at hwi
    change τ.1 r (43 + 4 * i) = nI (a_kd A i) ∧ _ at hwi
    have hk := hW.2.2.2 i hi
    have hlt := np_lt hW hk.2.2.2.2
    have hgt := np_lt hW hW.1.2.2.2.2.2.2
    have e1' : τ.1 89 20 = nI w := by rw [h2.1 89 20 (by omega)]; exact e1
    have e2' : τ.1 89 21 = nI p := by rw [h2.1 89 21 (by omega)]; exact e2
    have h4 : τ.1 r 4 = nI (a_nw A) := (h1.f (o := 0)).2.2.2.2.1
    have h6 : τ.1 r 6 = nI (a_gt A) := (h1.f (o := 0)).2.2.2.2.2.2
    have hsee : f_X12_sees (nI (a_kd A i)) (nI (a_hm A i)) (nI (a_gt A)) τ = some (nI (snN A (a_gt A) (a_kd A i) (a_hm A i) w (2 ^ p)), τ) := by
      rcases hs with rfl | ⟨d, d1, d2⟩
      · exact sees_r (A := dy A (mixD A (aSee A w (2 ^ p)) i)) h1 hM hk.1 hk.2.1 hk.2.2.2.1 hgt hw (by omega) e1' e2'
      · by_cases c93 : r = 93
        · subst c93
          exact sees_r (A := dy A (mixD A (aSee A w (2 ^ p)) i)) h1 hM hk.1 hk.2.1 hk.2.2.2.1 hgt hw (by omega) e1' e2'
        · exact sees_r (A := dy A d) (d2.offF d1 h2 (fun j => by omega)) d1 hk.1 hk.2.1 hk.2.2.2.1 hgt hw (by omega) e1' e2'
    refine ⟨nI (i + 1), jset τ r (43 + 4 * i + 3) (nI (a_sw A i ||| snA A w (2 ^ p) i)), ⟨rfl, ?_, h2.set rfl⟩, fun rec => ?_⟩
    · refine mix_r h1 hb (fun w' hw' => ?_) (fun w' hw' => ?_) (fun j _ => jset_o (by omega)) (fun w' hw' => by rw [jset_o (by omega), jset_o (by omega)]; exact ⟨rfl, rfl⟩)
      · rw [jset_o (by omega)]
        by_cases q : w' = i
        · subst q
          rw [if_pos rfl, hwi.2.1]
          rfl
        · rw [if_neg q]
      · rw [jset_v]
        by_cases q : w' = i
        · rw [if_pos q, if_pos (by omega)]
          rfl
        · rw [if_neg q, if_neg (by omega)]
    · show X12_see_L2_b r rec (nI i) τ = _
      unfold X12_see_L2_b
      rw [jldL_ (by omega) (by omega), h4, if_neg (nle_ (by omega) (by omega)), nI_Lmul, nI_Ladd, nI_addL, jlet_eq, jld_eq (by omega) (by omega), hwi.2.2.2, lives_r h1 hM hi, jbd_eq, m3, jj_eq]
      unfold snA
      rcases (show aLv A i = 0 ∨ aLv A i = 1 by have := aLv_le A i; omega) with z | z
      · rw [z, if_pos (by decide), if_neg (by omega)]
        dsimp only
        rw [show (0 : Int32) = nI 0 from rfl, nI_or, jst_eq (by omega) (by omega), nI_1]
      · rw [z, if_neg (by decide), if_pos rfl, of_k h1 hM hi, jbd_eq, of_h h1 hM hi, jbd_eq, jldL_ (by omega) (by omega), h6]
        show jbd (f_X12_sees (nI (a_kd A i)) (nI (a_hm A i)) (nI (a_gt A)) τ) _ = _
        rw [hsee, jbd_eq]
        dsimp only
        rw [nI_or, jst_eq (by omega) (by omega), nI_1]
  · rintro s τ ⟨rfl, h1, h2⟩
    refine ⟨((), τ), ⟨h1, h2⟩, fun rec => ?_⟩
    show X12_see_L2_b r rec (nI (a_nw A)) τ = _
    unfold X12_see_L2_b
    have h4 : τ.1 r 4 = nI (a_nw A) := (h1.f (o := 0)).2.2.2.2.1
    rw [jldL_ (by omega) (by omega), h4, if_pos (nI_le (Nat.le_refl _) (by omega))]
