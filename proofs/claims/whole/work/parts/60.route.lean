/-! ===== PURE: the route ===== -/
def nxt (A : aP) (op v : Nat) : Nat := (nx A op (dst A op) v (a_np A)).1
def pid (A : aP) (op v : Nat) : Nat := (nx A op (dst A op) v (a_np A)).2
def wk (A : aP) (op a : Nat) : Nat → Nat × Nat
  | 0 => (a, 0)
  | k + 1 => if (wk A op a k).1 = a_ch A then wk A op a k else (nxt A op (wk A op a k).1, (wk A op a k).2 ||| 2 ^ pid A op (wk A op a k).1)
theorem nxt_ok {A : aP} {op v : Nat} (hW : WF A) (hv : v < 8) (hc : v ≠ a_ch A) (hf : dst A op v < INF) : nxt A op v < 8 ∧ pid A op v < a_np A ∧ edg A op (pid A op v) v (nxt A op v) ∧ dst A op (nxt A op v) + a_pl A (pid A op v) = dst A op v := by
  obtain ⟨i, u, hu, he, hd⟩ := dst_prd op hW hv hc hf
  have ht : a_pa A i = v ∨ a_pb A i = v := by rcases he.2.2 with ⟨q, _⟩ | ⟨q, _⟩ <;> simp [q]
  have hne := (hW.2.1 i he.1).2.2.1
  have ho : oth A i v = u := by
    unfold oth
    rcases he.2.2 with ⟨q1, q2⟩ | ⟨q1, q2⟩
    · rw [if_pos q1, q2]
    · rw [if_neg (by omega), if_pos q1, q2]
  have hc1 : cnd A op (dst A op) v i := ⟨he.2.1, ht, by rw [ho]; exact hd⟩
  have hm := nx_min A op (dst A op) v hc1 (a_np A) he.1
  rcases nx_is A op (dst A op) v (a_np A) with q | ⟨q1, q2, q3, q4⟩
  · omega
  · refine ⟨q4, q1, ⟨q1, q2.1, ?_⟩, ?_⟩
    · have e : nxt A op v = oth A (pid A op v) v := q3
      rw [e]
      have hne2 := (hW.2.1 _ q1).2.2.1
      unfold oth
      by_cases c : a_pa A (pid A op v) = v
      · left
        rw [if_pos c]
        exact ⟨c, rfl⟩
      · right
        have c2 : a_pb A (pid A op v) = v := by
          rcases q2.2.1 with z | z
          · exact absurd z c
          · exact z
        rw [if_neg c, if_pos c2]
        exact ⟨c2, rfl⟩
    · have e : nxt A op v = oth A (pid A op v) v := q3
      rw [e]
      exact q2.2.2
def cnt (A : aP) (op v : Nat) : Nat := smN (fun u => if dst A op u < dst A op v then 1 else 0) 8
theorem cnt_lt {A : aP} {op v : Nat} (hW : WF A) (hv : v < 8) (hc : v ≠ a_ch A) (hf : dst A op v < INF) : cnt A op (nxt A op v) < cnt A op v := by
  obtain ⟨h1, h2, h3, h4⟩ := nxt_ok hW hv hc hf
  have hl := (hW.2.1 _ h2).2.2.2.1
  refine smN_lt (j := nxt A op v) (fun i hi => ?_) h1 ?_
  · show (if dst A op i < dst A op (nxt A op v) then 1 else 0) ≤ if dst A op i < dst A op v then 1 else 0
    by_cases c : dst A op i < dst A op (nxt A op v)
    · rw [if_pos c, if_pos (by omega)]
      omega
    · rw [if_neg c]
      exact Nat.zero_le _
  · show (if dst A op (nxt A op v) < dst A op (nxt A op v) then 1 else 0) < if dst A op (nxt A op v) < dst A op v then 1 else 0
    rw [if_neg (Nat.lt_irrefl _), if_pos (by omega)]
    omega
theorem cnt_7 {A : aP} {op v : Nat} (hv : v < 8) : cnt A op v ≤ 7 := by
  have : cnt A op v < smN (fun _ => 1) 8 := by
    refine smN_lt (j := v) (fun i hi => ?_) hv ?_
    · show (if dst A op i < dst A op v then 1 else 0) ≤ 1
      split <;> omega
    · show (if dst A op v < dst A op v then 1 else 0) < 1
      rw [if_neg (Nat.lt_irrefl _)]
      omega
  have e : smN (fun _ => 1) 8 = 8 := rfl
  omega
theorem wk_ok {A : aP} {op a : Nat} (hW : WF A) (ha : a < 8) (hf : dst A op a < INF) : ∀ k, (wk A op a k).1 < 8 ∧ dst A op (wk A op a k).1 < INF ∧ (wk A op a k).2 < 2 ^ a_np A ∧ ((wk A op a k).1 = a_ch A ∨ cnt A op (wk A op a k).1 + k ≤ 7)
  | 0 => by
    have h7 := cnt_7 (A := A) (op := op) ha
    refine ⟨ha, hf, ?_, Or.inr ?_⟩
    · show 0 < 2 ^ a_np A
      exact Nat.two_pow_pos _
    · show cnt A op a + 0 ≤ 7
      omega
  | k + 1 => by
    obtain ⟨h1, h2, h3, h4⟩ := wk_ok hW ha hf k
    by_cases c : (wk A op a k).1 = a_ch A
    · have e : wk A op a (k + 1) = wk A op a k := if_pos c
      rw [e]
      exact ⟨h1, h2, h3, Or.inl c⟩
    · have e : wk A op a (k + 1) = (nxt A op (wk A op a k).1, (wk A op a k).2 ||| 2 ^ pid A op (wk A op a k).1) := if_neg c
      rw [e]
      obtain ⟨n1, n2, n3, n4⟩ := nxt_ok hW h1 c h2
      have hl := cnt_lt hW h1 c h2
      refine ⟨n1, ?_, Nat.or_lt_two_pow h3 (p2_lt n2), Or.inr ?_⟩
      · show dst A op (nxt A op (wk A op a k).1) < INF
        omega
      · rcases h4 with q | q
        · exact absurd q c
        · show cnt A op (nxt A op (wk A op a k).1) + (k + 1) ≤ 7
          omega
theorem wk_7 {A : aP} {op a : Nat} (hW : WF A) (ha : a < 8) (hf : dst A op a < INF) : (wk A op a 7).1 = a_ch A := by
  obtain ⟨h1, h2, h3, h4⟩ := wk_ok hW ha hf 7
  refine Classical.byContradiction (fun c => ?_)
  have hl := cnt_lt hW h1 c h2
  rcases h4 with q | q
  · exact c q
  · omega
theorem wk_stop {A : aP} {op a k : Nat} (h : (wk A op a k).1 = a_ch A) : ∀ m, wk A op a (k + m) = wk A op a k
  | 0 => rfl
  | m + 1 => by
    have e := wk_stop h m
    show (if (wk A op a (k + m)).1 = a_ch A then wk A op a (k + m) else _) = _
    rw [e, if_pos h]
theorem wk_s {A : aP} {op a k : Nat} (h : (wk A op a k).1 ≠ a_ch A) : wk A op a (k + 1) = (nxt A op (wk A op a k).1, (wk A op a k).2 ||| 2 ^ pid A op (wk A op a k).1) := if_neg h
/-- the way from a, its first path -/
def wy (A : aP) (op a : Nat) : Nat := if dst A op a = INF then 0 else (wk A op a 7).2
theorem wy_lt {A : aP} {op a : Nat} (hW : WF A) (ha : a < 8) : wy A op a < 2 ^ a_np A := by
  unfold wy
  split
  · exact Nat.two_pow_pos _
  · have := dst_inf A op a
    exact (wk_ok hW ha (by omega) 7).2.2.1
theorem pAt_two {A : aP} {op i v u : Nat} (hW : WF A) (h : edg A op i v u) : pAt A v &&& pAt A u = 2 ^ i := by
  apply Nat.eq_of_testBit_eq
  intro j
  rw [Nat.testBit_and, p2_test]
  have hne := (hW.2.1 i h.1).2.2.1
  by_cases c : i = j
  · subst c
    have h1 : (pAt A v).testBit i = true := (pAt_test A v i).mpr ⟨h.1, by rcases h.2.2 with ⟨q, _⟩ | ⟨q, _⟩ <;> simp [q]⟩
    have h2 : (pAt A u).testBit i = true := (pAt_test A u i).mpr ⟨h.1, by rcases h.2.2 with ⟨_, q⟩ | ⟨_, q⟩ <;> simp [q]⟩
    rw [h1, h2]
    simp
  · have : ¬ ((pAt A v).testBit j = true ∧ (pAt A u).testBit j = true) := by
      rintro ⟨h1, h2⟩
      rw [pAt_test] at h1 h2
      have hnj := (hW.2.1 j h1.1).2.2.1
      refine hW.2.2.1 i j h.1 h1.1 c ?_
      rcases h.2.2 with ⟨q1, q2⟩ | ⟨q1, q2⟩ <;> rcases h1.2 with z1 | z1 <;> rcases h2.2 with z2 | z2 <;> omega
    have e : ((pAt A v).testBit j && (pAt A u).testBit j) = false := by
      cases g1 : (pAt A v).testBit j <;> cases g2 : (pAt A u).testBit j <;> simp_all
    rw [e]
    simp [c]
def fm (A : aP) (op a : Nat) : Nat := if dst A op a = INF ∨ a = a_ch A then 0 else 2 ^ pid A op a
def fb (A : aP) (op a : Nat) : Int32 := if dst A op a = INF ∨ a = a_ch A then -1000000 else nI (pid A op a)
theorem carry_c {σ : jMem} {k op a : Nat} {A : aP} (hP : PC σ k A) (hW : WF A) (hk : k + 7 < 80) (hop : op < 4096) (ha : a < 8) : ∃ σ', f_X2_carry k (nI op) (nI a) σ = some (nI (if dst A op a = INF then 0 else 1), σ') ∧ σ'.1 80 0 = cF (dst A op a) ∧ σ'.1 80 1 = nI (wy A op a) ∧ σ'.1 80 2 = nI (fm A op a) ∧ CF σ' (dst A op) ∧ FR (fun c _ => c = 80 ∨ c = 81) σ σ' := by
  have hI := INF_v
  have hb := hW.b
  obtain ⟨σ1, m1, m2, m3⟩ := measure_c hP hW hk hop
  have hfn := fD_fn op hW 8 (by omega)
  have hch := hW.1.2.1
  unfold f_X2_carry
  rw [m1, jbv_eq, jld_eq (by omega) (by omega), m2 a ha, jlet_eq, jlet_eq, jlet_eq, jset_o (by omega), jset_o (by omega), jset_i]
  have f1 : FR (fun c _ => c = 80 ∨ c = 81) σ (jset (jset (jset σ1 80 0 (cF (dst A op a))) 80 1 0) 80 2 0) := (((m3.mono (fun c _ q => Or.inr q)).set (by exact Or.inl rfl)).set (by exact Or.inl rfl)).set (by exact Or.inl rfl)
  have c1 : CF (jset (jset (jset σ1 80 0 (cF (dst A op a))) 80 1 0) 80 2 0) (dst A op) := fun v hv => by rw [jset_o (by omega), jset_o (by omega), jset_o (by omega)]; exact m2 v hv
  have e0 : (jset (jset (jset σ1 80 0 (cF (dst A op a))) 80 1 0) 80 2 0).1 80 0 = cF (dst A op a) := by rw [jset_o (by omega), jset_o (by omega), jset_i]
  have e1 : (jset (jset (jset σ1 80 0 (cF (dst A op a))) 80 1 0) 80 2 0).1 80 1 = 0 := by rw [jset_o (by omega), jset_i]
  have e2 : (jset (jset (jset σ1 80 0 (cF (dst A op a))) 80 1 0) 80 2 0).1 80 2 = 0 := jset_i
  generalize jset (jset (jset σ1 80 0 (cF (dst A op a))) 80 1 0) 80 2 0 = σ2 at f1 c1 e0 e1 e2
  by_cases ci : dst A op a = INF
  · refine ⟨σ2, ?_, e0, ?_, ?_, c1, f1⟩
    · rw [ci, cF_i, if_neg (fun z => z rfl), if_pos rfl]
      rfl
    · unfold wy
      rw [e1, if_pos ci]
      rfl
    · unfold fm
      rw [e2, if_pos (Or.inl ci)]
      rfl
  · have hinf := dst_inf A op a
    have hf : dst A op a < INF := by omega
    have haB : dst A op a ≤ 1728 := by rcases dst_fn op hW a with q | q <;> omega
    rw [cF_n hf, if_pos (nI_ne_m1 (by omega)), if_neg ci]
    have hw7 := wk_7 (op := op) hW ha hf
    have H := jloop_ex (body := fun rec s σ => X2_carry_L42_b k (nI op) rec s.1 s.2 σ) (fun i s τ => s = (nI (wk A op a i).1, nI i) ∧ τ.1 80 0 = cF (dst A op a) ∧ τ.1 80 1 = nI (wk A op a i).2 ∧ τ.1 80 2 = nI (if i = 0 then 0 else 2 ^ pid A op a) ∧ (0 < i → a ≠ a_ch A) ∧ CF τ (dst A op) ∧ FR (fun c _ => c = 80 ∨ c = 81) σ τ) (fun r => ∃ τ, r = .inl ((), τ) ∧ τ.1 80 0 = cF (dst A op a) ∧ τ.1 80 1 = nI (wy A op a) ∧ τ.1 80 2 = nI (fm A op a) ∧ CF τ (dst A op) ∧ FR (fun c _ => c = 80 ∨ c = 81) σ τ) 7 ?_ ?_ (nI a, (0 : Int32)) σ2 ⟨rfl, e0, e1, e2, by omega, c1, f1⟩ jFU (by unfold jFU; omega)
    · obtain ⟨r, ⟨τ, rfl, g1, g2, g3, g4, g5⟩, g6⟩ := H
      refine ⟨τ, ?_, g1.trans (cF_n hf), g2, g3, g4, g5⟩
      rw [show X2_carry_L42 k (nI op) jFU (nI a, (0 : Int32)) σ2 = some (.inl ((), τ)) from g6]
      rfl
    · rintro i s τ hi ⟨rfl, h0, h1, h2, h3, h4, h5⟩
      have hPt := hP.offF h5 (fun c j q1 q2 => by omega)
      obtain ⟨w1, w2, w3, w4⟩ := wk_ok (op := op) hW ha hf i
      by_cases c : (wk A op a i).1 = a_ch A
      · right
        have e7 := wk_stop c (7 - i)
        rw [show i + (7 - i) = 7 by omega] at e7
        refine ⟨.inl ((), τ), ⟨τ, rfl, h0, ?_, ?_, h4, h5⟩, fun rec => ?_⟩
        · unfold wy
          rw [if_neg ci, e7]
          exact h1
        · rw [h2]
          unfold fm
          by_cases z : i = 0
          · subst z
            rw [if_pos rfl, if_pos (Or.inr (show a = a_ch A from c))]
          · rw [if_neg z, if_neg (by rintro (q | q); exact ci q; exact h3 (by omega) q)]
        · show X2_carry_L42_b k (nI op) rec (nI (wk A op a i).1) (nI i) τ = _
          unfold X2_carry_L42_b
          rw [if_neg (Lle_ (by omega) (by omega)), hPt.1.2.1, if_pos (by rw [c])]
      · left
        obtain ⟨n1, n2, n3, n4⟩ := nxt_ok hW w1 c w2
        have hnf := nextF_c hPt hW hop h4 hfn (by omega) w1 w2
        have hlt := np_lt hW w3
        have hlt2 := np_lt hW (p2_lt n2)
        have ha2 : a ≠ a_ch A := by
          rcases Nat.eq_zero_or_pos i with z | z
          · subst z
            exact c
          · exact h3 z
        refine ⟨(nI (wk A op a (i + 1)).1, nI (i + 1)), jset (jset τ 80 2 (nI (2 ^ pid A op a))) 80 1 (nI (wk A op a (i + 1)).2), ⟨rfl, ?_, jset_i, ?_, fun _ => ha2, fun v hv => ?_, (h5.set (by exact Or.inl rfl)).set (by exact Or.inl rfl)⟩, fun rec => ?_⟩
        · rw [jset_o (by omega), jset_o (by omega)]
          exact h0
        · rw [jset_o (by omega), jset_i, if_neg (by omega)]
        · rw [jset_o (by omega), jset_o (by omega)]
          exact h4 v hv
        · show X2_carry_L42_b k (nI op) rec (nI (wk A op a i).1) (nI i) τ = _
          unfold X2_carry_L42_b
          rw [if_neg (Lle_ (by omega) (by omega)), hPt.1.2.1, if_neg (nne_ c (by omega) (by omega)), hnf, jbd_eq]
          change (if ¬ nI (nxt A op (wk A op a i).1) = (8 : Int32) then _ else _) = _
          rw [if_pos (neL_ (by omega) (by omega) (by omega)), pathsAt_c hPt hW w1, jbd_eq]
          show jbd (f_X5_pathsAt k (nI (nxt A op (wk A op a i).1)) τ) _ = _
          rw [pathsAt_c hPt hW n1, jbd_eq, nI_and, pAt_two hW n3, jlet_eq, jj_eq, nI_1, wk_s c]
          by_cases z : i = 0
          · subst z
            rw [if_neg (fun q => q rfl)]
            dsimp only
            rw [jlet_eq, jset_o (by omega), h1, jlet_eq, nI_or]
            rfl
          · rw [if_pos (neL_ z (by omega) (by omega))]
            dsimp only
            rw [jlet_eq, jset_o (by omega), h1, jlet_eq, nI_or, h2, if_neg z]
            rfl
    · rintro s τ ⟨rfl, h0, h1, h2, h3, h4, h5⟩
      have hPt := hP.offF h5 (fun c j q1 q2 => by omega)
      refine ⟨.inl ((), τ), ⟨τ, rfl, h0, ?_, ?_, h4, h5⟩, fun rec => ?_⟩
      · unfold wy
        rw [if_neg ci]
        exact h1
      · rw [h2]
        unfold fm
        rw [if_neg (by omega), if_neg (by rintro (q | q); exact ci q; exact h3 (by omega) q)]
      · show X2_carry_L42_b k (nI op) rec (nI (wk A op a 7).1) (nI 7) τ = _
        unfold X2_carry_L42_b
        rw [if_neg (Lle_ (by omega) (by omega)), hPt.1.2.1, if_pos (by rw [hw7])]
theorem layWay_r {σ : jMem} {g a : Nat} {A : aP} (hP : PR σ 93 0 A) (hW : WF A) (hg : g < 2 ^ 31) (ha : a < 8) : ∃ σ', f_X12_layWay (nI g) (nI a) σ = some σ' ∧ σ'.1 89 20 = nI (wy A (andn (2 ^ a_np A - 1) g) a) ∧ σ'.1 89 21 = fb A (andn (2 ^ a_np A - 1) g) a ∧ σ'.1 89 22 = rF (dst A (andn (2 ^ a_np A - 1) g) a) ∧ RF σ' (dst A (andn (2 ^ a_np A - 1) g)) ∧ FR (fun c j => c = 98 ∨ (c = 89 ∧ 20 ≤ j ∧ j ≤ 22)) σ σ' := by
  have hI := INF_v
  have hb := hW.b
  have hch := hW.1.2.1
  have hop : andn (2 ^ a_np A - 1) g < 4096 := np_lt hW (andn_lt (by have := Nat.two_pow_pos (a_np A); omega))
  unfold f_X12_layWay
  rw [allP_r hP hW, jbd_eq, nI_andn, jlet_eq]
  generalize andn (2 ^ a_np A - 1) g = op at hop ⊢
  obtain ⟨σ1, m1, m2, m3⟩ := layFars_r hP hW hop
  have hfn := fD_fn op hW 8 (by omega)
  rw [m1, jbv_eq, jlet_eq, jlet_eq, jld_eq (by omega) (by omega), jset_o (by omega), jset_o (by omega), m2 a ha, jlet_eq]
  have f1 : FR (fun c j => c = 98 ∨ (c = 89 ∧ 20 ≤ j ∧ j ≤ 22)) σ (jset (jset (jset σ1 89 20 0) 89 21 (-1000000)) 89 22 (rF (dst A op a))) := (((m3.mono (fun c _ q => Or.inl q)).set (by omega)).set (by omega)).set (by omega)
  have c1 : RF (jset (jset (jset σ1 89 20 0) 89 21 (-1000000)) 89 22 (rF (dst A op a))) (dst A op) := fun v hv => by rw [jset_o (by omega), jset_o (by omega), jset_o (by omega)]; exact m2 v hv
  have e0 : (jset (jset (jset σ1 89 20 0) 89 21 (-1000000)) 89 22 (rF (dst A op a))).1 89 22 = rF (dst A op a) := jset_i
  have e1 : (jset (jset (jset σ1 89 20 0) 89 21 (-1000000)) 89 22 (rF (dst A op a))).1 89 20 = 0 := by rw [jset_o (by omega), jset_o (by omega), jset_i]
  have e2 : (jset (jset (jset σ1 89 20 0) 89 21 (-1000000)) 89 22 (rF (dst A op a))).1 89 21 = -1000000 := by rw [jset_o (by omega), jset_i]
  generalize jset (jset (jset σ1 89 20 0) 89 21 (-1000000)) 89 22 (rF (dst A op a)) = σ2 at f1 c1 e0 e1 e2
  have H := jloop_ex (body := fun rec s σ => X12_layWay_L38_b (nI op) rec s σ) (fun i s τ => s = nI (wk A op a i).1 ∧ τ.1 89 22 = rF (dst A op a) ∧ τ.1 89 20 = nI (wk A op a i).2 ∧ τ.1 89 21 = (if i = 0 then -1000000 else nI (pid A op a)) ∧ (0 < i → a ≠ a_ch A ∧ dst A op a < INF) ∧ RF τ (dst A op) ∧ FR (fun c j => c = 98 ∨ (c = 89 ∧ 20 ≤ j ∧ j ≤ 22)) σ τ) (fun r => r.2.1 89 22 = rF (dst A op a) ∧ r.2.1 89 20 = nI (wy A op a) ∧ r.2.1 89 21 = fb A op a ∧ RF r.2 (dst A op) ∧ FR (fun c j => c = 98 ∨ (c = 89 ∧ 20 ≤ j ∧ j ≤ 22)) σ r.2) 7 ?_ ?_ (nI a) σ2 ⟨rfl, e0, e1, e2, by omega, c1, f1⟩ jFU (by unfold jFU; omega)
  · obtain ⟨⟨r, τ⟩, ⟨g1, g2, g3, g4, g5⟩, g6⟩ := H
    refine ⟨τ, ?_, g2, g3, g1, g4, g5⟩
    rw [show X12_layWay_L38 (nI op) jFU (nI a) σ2 = some (r, τ) from g6]
    rfl
  · rintro i s τ hi ⟨rfl, h0, h1, h2, h3, h4, h5⟩
    have hPt := hP.offF hW h5 (fun j => by omega)
    have h93 : τ.1 93 1 = nI (a_ch A) := (hPt.f (o := 0)).2.1
    by_cases ci : dst A op a = INF
    · right
      have z : i = 0 := by
        rcases Nat.eq_zero_or_pos i with z | z
        · exact z
        · have := (h3 z).2
          omega
      subst z
      refine ⟨((), τ), ⟨h0, ?_, ?_, h4, h5⟩, fun rec => ?_⟩
      · rw [h1]
        unfold wy
        rw [if_pos ci]
        rfl
      · rw [h2]
        unfold fb
        rw [if_pos (Or.inl ci), if_pos rfl]
      · show X12_layWay_L38_b (nI op) rec (nI (wk A op a 0).1) τ = _
        unfold X12_layWay_L38_b
        rw [h0, ci, rF_i, if_pos rfl]
    · have hinf := dst_inf A op a
      have hf : dst A op a < INF := by omega
      have haB : dst A op a ≤ 1728 := by rcases dst_fn op hW a with q | q <;> omega
      obtain ⟨w1, w2, w3, w4⟩ := wk_ok (op := op) hW ha hf i
      by_cases c : (wk A op a i).1 = a_ch A
      · right
        have e7 := wk_stop c (7 - i)
        rw [show i + (7 - i) = 7 by omega] at e7
        refine ⟨((), τ), ⟨h0, ?_, ?_, h4, h5⟩, fun rec => ?_⟩
        · unfold wy
          rw [if_neg ci, e7]
          exact h1
        · rw [h2]
          unfold fb
          by_cases z : i = 0
          · subst z
            rw [if_pos rfl, if_pos (Or.inr (show a = a_ch A from c))]
          · rw [if_neg z, if_neg (by rintro (q | q); exact ci q; exact (h3 (by omega)).1 q)]
        · show X12_layWay_L38_b (nI op) rec (nI (wk A op a i).1) τ = _
          unfold X12_layWay_L38_b
          rw [h0, rF_n hf, if_neg (nI_ne_inf (by omega)), jldL_ (by omega) (by omega), h93, if_pos (by rw [c])]
      · left
        obtain ⟨n1, n2, n3, n4⟩ := nxt_ok hW w1 c w2
        have hnf := nextF_r hPt hW hop h4 hfn (by omega) w1 w2
        have hlt := np_lt hW w3
        have hlt2 := np_lt hW (p2_lt n2)
        have ha2 : a ≠ a_ch A := by
          rcases Nat.eq_zero_or_pos i with z | z
          · subst z
            exact c
          · exact (h3 z).1
        refine ⟨nI (wk A op a (i + 1)).1, jset (jset τ 89 20 (nI (wk A op a (i + 1)).2)) 89 21 (nI (pid A op a)), ⟨rfl, ?_, ?_, ?_, fun _ => ⟨ha2, hf⟩, fun v hv => ?_, (h5.set (by omega)).set (by omega)⟩, fun rec => ?_⟩
        · rw [jset_o (by omega), jset_o (by omega)]
          exact h0
        · rw [jset_o (by omega), jset_i]
        · rw [jset_i, if_neg (by omega)]
        · rw [jset_o (by omega), jset_o (by omega)]
          exact h4 v hv
        · show X12_layWay_L38_b (nI op) rec (nI (wk A op a i).1) τ = _
          unfold X12_layWay_L38_b
          rw [h0, rF_n hf, if_neg (nI_ne_inf (by omega)), jldL_ (by omega) (by omega), h93, if_neg (nne_ c (by omega) (by omega)), hnf, jbd_eq]
          have e3 : eN (nx A op (fD A op 8) (wk A op a i).1 (a_np A)).1 (nx A op (fD A op 8) (wk A op a i).1 (a_np A)).2 = nI (pid A op (wk A op a i).1) := if_neg (by show nxt A op (wk A op a i).1 ≠ 8; omega)
          have e4 : eN (nx A op (fD A op 8) (wk A op a i).1 (a_np A)).1 (nx A op (fD A op 8) (wk A op a i).1 (a_np A)).1 = nI (nxt A op (wk A op a i).1) := if_neg (by show nxt A op (wk A op a i).1 ≠ 8; omega)
          have e3' : eN (nx A op (dst A op) (wk A op a i).1 (a_np A)).1 (nx A op (dst A op) (wk A op a i).1 (a_np A)).2 = nI (pid A op (wk A op a i).1) := e3
          have e4' : eN (nx A op (dst A op) (wk A op a i).1 (a_np A)).1 (nx A op (dst A op) (wk A op a i).1 (a_np A)).1 = nI (nxt A op (wk A op a i).1) := e4
          dsimp only
          rw [e3', e4', nI_one_shl (by omega), h1, nI_or, jlet_eq, jj_eq, jset_o (by omega), h2, wk_s c]
          by_cases z : i = 0
          · subst z
            rw [if_pos rfl, if_neg (fun q => q rfl)]
            dsimp only
            rw [jlet_eq]
            rfl
          · rw [if_neg z, if_pos (nI_ne_inf (by
              have q1 := nxt_ok hW ha ha2 hf
              have := q1.2.1
              omega))]
            dsimp only
            rw [jlet_eq]
  · rintro s τ ⟨rfl, h0, h1, h2, h3, h4, h5⟩
    have hPt := hP.offF hW h5 (fun j => by omega)
    have h93 : τ.1 93 1 = nI (a_ch A) := (hPt.f (o := 0)).2.1
    have hf := (h3 (by omega)).2
    have hw7 := wk_7 (op := op) hW ha hf
    have haB : dst A op a ≤ 1728 := by rcases dst_fn op hW a with q | q <;> omega
    refine ⟨((), τ), ⟨h0, ?_, ?_, h4, h5⟩, fun rec => ?_⟩
    · rw [h1]
      unfold wy
      rw [if_neg (by omega)]
    · rw [h2]
      unfold fb
      rw [if_neg (by omega), if_neg (by rintro (q | q); omega; exact (h3 (by omega)).1 q)]
    · show X12_layWay_L38_b (nI op) rec (nI (wk A op a 7).1) τ = _
      unfold X12_layWay_L38_b
      rw [h0, rF_n hf, if_neg (nI_ne_inf (by omega)), jldL_ (by omega) (by omega), h93, if_pos (by rw [hw7])]
