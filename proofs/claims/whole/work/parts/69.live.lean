/-! ===== PURE: live ===== -/
theorem nI_self (a : Int32) : a = nI a.toBitVec.toNat := by
  apply Int32.toBitVec_inj.1
  show a.toBitVec = BitVec.ofNat 32 a.toBitVec.toNat
  rw [BitVec.ofNat_toNat, BitVec.setWidth_eq]
theorem nI_zero {x : Nat} (h : x < 2 ^ 32) (e : nI x = 0) : x = 0 := by
  have e1 : BitVec.ofNat 32 x = (0 : Int32).toBitVec := congrArg Int32.toBitVec e
  have e2 := congrArg BitVec.toNat e1
  rw [BitVec.toNat_ofNat] at e2
  have e3 : (0 : Int32).toBitVec.toNat = 0 := rfl
  omega
theorem mask_in (a : Int32) (n : Nat) (hn : n ≤ 12) : (a &&& (nI (2 ^ n - 1) ^^^ (-1 : Int32)) = 0 ∧ ∃ s, s < 2 ^ n ∧ a = nI s) ∨ (¬ a &&& (nI (2 ^ n - 1) ^^^ (-1 : Int32)) = 0 ∧ (a.toInt < 0 ∨ ((2 ^ n : Nat) : Int) ≤ a.toInt)) := by
  have hp := p2_le hn
  have hpos := Nat.two_pow_pos n
  rcases pI_split a (2 ^ n) (by omega) with ⟨s, hs, rfl⟩ | ho
  · left
    refine ⟨?_, s, hs, rfl⟩
    rw [nI_andn]
    have : andn s (2 ^ n - 1) = 0 := by
      apply Nat.eq_of_testBit_eq
      intro i
      rw [andn_test, Nat.testBit_two_pow_sub_one, Nat.zero_testBit]
      by_cases c : i < n
      · simp [c]
      · rw [Nat.testBit_lt_two_pow (Nat.lt_of_lt_of_le hs (p2_le (by omega)))]
        rfl
    rw [this]
    rfl
  · right
    refine ⟨fun e => ?_, ho⟩
    rw [nI_self a, nI_andn] at e
    have ht : a.toBitVec.toNat < 2 ^ 32 := a.toBitVec.isLt
    have e0 := nI_zero (andn_lt ht) e
    have hlt : a.toBitVec.toNat < 2 ^ n := by
      apply Nat.lt_pow_two_of_testBit
      intro i hi
      have := congrArg (fun z => z.testBit i) e0
      simp only [andn_test, Nat.testBit_two_pow_sub_one, Nat.zero_testBit] at this
      have c : ¬ i < n := by omega
      simpa [c] using this
    have ea := nI_self a
    rw [ea, nI_toInt (by omega)] at ho
    omega
/-- what a set of witnesses swears; whether all of it live -/
def cvr (A : aP) (s : Nat) : Nat := orN (fun w => if bt1 s w = 1 then aSw A w else 0) (a_nw A)
def alN (A : aP) (s : Nat) : Nat → Nat
  | 0 => 1
  | n + 1 => if alN A s n = 0 then 0 else if bt1 s n = 0 then 1 else if aLv A n = 0 then 0 else 1
theorem alN_le (A : aP) (s n : Nat) : alN A s n ≤ 1 := by
  cases n with
  | zero => exact Nat.le_refl 1
  | succ n =>
    unfold alN
    split
    · omega
    · split
      · omega
      · split <;> omega
theorem alN_1 (A : aP) (s : Nat) : ∀ n, alN A s n = 1 ↔ ∀ w, w < n → bt1 s w = 1 → aLv A w = 1
  | 0 => ⟨fun _ w hw => by omega, fun _ => rfl⟩
  | n + 1 => by
    have ih := alN_1 A s n
    have h1 := alN_le A s n
    have h2 := bt1_le s n
    have h3 := aLv_le A n
    have e : alN A s (n + 1) = if alN A s n = 0 then 0 else if bt1 s n = 0 then 1 else if aLv A n = 0 then 0 else 1 := rfl
    rw [e]
    constructor
    · intro h w hw hb
      by_cases c1 : alN A s n = 0
      · rw [if_pos c1] at h
        omega
      · rw [if_neg c1] at h
        by_cases q : w = n
        · subst q
          rw [if_neg (by omega)] at h
          by_cases c3 : aLv A w = 0
          · rw [if_pos c3] at h
            omega
          · omega
        · exact ih.mp (by omega) w (by omega) hb
    · intro h
      have c1 : alN A s n = 1 := ih.mpr (fun w hw => h w (by omega))
      rw [if_neg (by omega)]
      by_cases c2 : bt1 s n = 0
      · rw [if_pos c2]
      · rw [if_neg c2, if_neg (by have := h n (by omega) (by omega); omega)]
def lv1 (A : aP) (g s : Nat) : Bool := decide (andn g (cvr A s) = 0)
def lv2 (A : aP) (g s : Nat) : Bool := decide (andn g (cvr A s) = 0 ∧ alN A s (a_nw A) = 1)
theorem live_eq {A : aP} (g : Nat) (hW : WF A) : scn (lv1 A g) (2 ^ a_nw A) = scn (lv2 A g) (2 ^ a_nw A) := by
  have hb := hW.b
  have hI := INF_v
  have hN : 2 ^ a_nw A ≤ 64 := by
    have := p2_le hb.2
    simpa using this
  have sub : ∀ x, lv2 A g x = true → lv1 A g x = true := by
    intro x h
    unfold lv2 at h
    unfold lv1
    simp only [decide_eq_true_eq] at h ⊢
    exact h.1
  rcases scn_ok (lv1 A g) (2 ^ a_nw A) (by omega) with ⟨h1, h2⟩ | ⟨h1, h2, h3⟩
  · rcases scn_ok (lv2 A g) (2 ^ a_nw A) (by omega) with ⟨k1, k2⟩ | ⟨k1, k2, k3⟩
    · rw [h1, k1]
    · have := h2 _ k1
      rw [sub _ k2] at this
      exact absurd this (by decide)
  · generalize scn (lv1 A g) (2 ^ a_nw A) = r at h1 h2 h3
    have hr : lv2 A g r = true := by
      unfold lv1 at h2
      unfold lv2
      simp only [decide_eq_true_eq] at h2 ⊢
      refine ⟨h2, (alN_1 A r _).mpr (fun w hw hbw => ?_)⟩
      refine Classical.byContradiction (fun hd => ?_)
      have hl := aLv_le A w
      have hsw : aSw A w = 0 := by
        unfold aLv at hd
        unfold aSw
        by_cases c : a_ag A w ≤ aSp A w
        · rw [if_pos c] at hd
          exact absurd rfl hd
        · rw [if_neg c]
      have hb2 : ∀ i, bt1 (andn r (2 ^ w)) i = 1 ↔ bt1 r i = 1 ∧ i ≠ w := by
        intro i
        rw [bt1_1, bt1_1, andn_test, p2_test]
        by_cases c : w = i
        · subst c
          simp
        · have c' : i ≠ w := fun q => c q.symm
          simp [c, c']
      have ec : cvr A (andn r (2 ^ w)) = cvr A r := by
        refine orN_congr (fun i hi => ?_)
        by_cases c : i = w
        · subst c
          have n1 : ¬ bt1 (andn r (2 ^ i)) i = 1 := fun q => ((hb2 i).mp q).2 rfl
          rw [if_neg n1, if_pos hbw, hsw]
        · by_cases c2 : bt1 r i = 1
          · rw [if_pos c2, if_pos ((hb2 i).mpr ⟨c2, c⟩)]
          · rw [if_neg c2, if_neg (fun q => c2 ((hb2 i).mp q).1)]
      have hp : lv1 A g (andn r (2 ^ w)) = true := by
        unfold lv1
        simp only [decide_eq_true_eq]
        rw [ec]
        exact h2
      have hlt : andn r (2 ^ w) < 2 ^ a_nw A := andn_lt h1
      have l1 := h3 _ hlt hp
      have l2 : lxl (andn r (2 ^ w)) r := popc_sub (by omega) (by omega) (fun i hi => by
        rw [andn_test] at hi
        cases c : r.testBit i
        · rw [c] at hi
          simp at hi
        · rfl)
      have e := lxl_anti l1 l2
      have := (hb2 w).mp (by rw [← e]; exact hbw)
      exact this.2 rfl
    rcases scn_ok (lv2 A g) (2 ^ a_nw A) (by omega) with ⟨k1, k2⟩ | ⟨k1, k2, k3⟩
    · have := k2 _ h1
      rw [hr] at this
      exact absurd this (by decide)
    · exact lxl_anti (h3 _ k1 (sub _ k2)) (k3 _ h1 hr)
theorem liveL_c {σ : jMem} {A : aP} {g : Nat} (x : Int32) (hP : PC σ 22 A) (hW : WF A) (hg : g < 4096) : X11_live_L43 (nI g) x jFU ((-1000000 : Int32), (0 : Int32)) σ = some (rF (scn (lv1 A g) (2 ^ a_nw A)), σ) := by
  have hb := hW.b
  have hI := INF_v
  have hN : 2 ^ a_nw A ≤ 64 := by
    have := p2_le hb.2
    simpa using this
  refine jloop_run (body := fun rec s9 σ => X11_live_L43_b (nI g) x rec s9.1 s9.2 σ) (fun n => (rF (scn (lv1 A g) n), nI n)) (fun _ => σ) (2 ^ a_nw A) _ ?_ ?_ jFU (by unfold jFU; omega)
  · intro i hi rec
    show X11_live_L43_b (nI g) x rec (rF (scn (lv1 A g) i)) (nI i) σ = rec (rF (scn (lv1 A g) (i + 1)), nI (i + 1)) σ
    have hsb := scn_b (P := lv1 A g) (k := i) (by omega)
    have hsP : (lv1 A g i = true ∧ (scn (lv1 A g) i = INF ∨ popc i < popc (scn (lv1 A g) i))) → scn (lv1 A g) (i + 1) = i := fun z => if_pos z
    have hsN : ¬ (lv1 A g i = true ∧ (scn (lv1 A g) i = INF ∨ popc i < popc (scn (lv1 A g) i))) → scn (lv1 A g) (i + 1) = scn (lv1 A g) i := fun z => if_neg z
    have hal : andn g (cvr A i) < 4096 := andn_lt (n := 12) hg
    unfold X11_live_L43_b
    rw [hP.1.2.2.2.2.2.1, nI_one_shl (by omega), if_neg (nle_ (by omega) (by omega)), sworn_c hP hW (by omega), jbd_eq, jj_eq]
    change (if ¬ (nI g &&& (nI (cvr A i) ^^^ (-1 : Int32))) = 0 then _ else _) = _
    rw [nI_andn]
    by_cases c1 : andn g (cvr A i) = 0
    · have hl : lv1 A g i = true := by
        unfold lv1
        simp [c1]
      rw [c1, if_neg (fun z => z rfl)]
      dsimp only
      rw [if_neg (by decide), nI_1]
      by_cases c4 : scn (lv1 A g) i = INF
      · rw [hsP ⟨hl, Or.inl c4⟩, c4, rF_i, if_pos rfl, rF_n (by omega)]
      · have p1 := popc_le i
        have p2 := popc_le (scn (lv1 A g) i)
        by_cases c5 : popc i < popc (scn (lv1 A g) i)
        · rw [hsP ⟨hl, Or.inr c5⟩, rF_n (d := scn (lv1 A g) i) (by omega), if_neg (nI_ne_inf (by omega)), bc_spec (by omega), jbd_eq, bc_spec (by omega), jbd_eq, if_neg (nle_ (by omega) (by omega)), rF_n (by omega)]
        · rw [hsN (by rintro ⟨_, q | q⟩; exact c4 q; exact c5 q), rF_n (d := scn (lv1 A g) i) (by omega), if_neg (nI_ne_inf (by omega)), bc_spec (by omega), jbd_eq, bc_spec (by omega), jbd_eq, if_pos (nI_le (by omega) (by omega))]
    · have hl : ¬ lv1 A g i = true := by
        unfold lv1
        simp [c1]
      rw [if_pos (neL_ c1 (by omega) (by omega)), hsN (fun z => hl z.1)]
      dsimp only
      rw [if_pos rfl, nI_1]
  · intro rec
    show X11_live_L43_b (nI g) x rec (rF (scn (lv1 A g) (2 ^ a_nw A))) (nI (2 ^ a_nw A)) σ = _
    unfold X11_live_L43_b
    rw [hP.1.2.2.2.2.2.1, nI_one_shl (by omega), if_pos (nI_le (Nat.le_refl _) (by omega))]
theorem liveI_r {σ : jMem} {A : aP} {s : Nat} (x y z : Int32) (hP : PR σ 93 0 A) (hW : WF A) (hs : s < 64) : X12_live_L70 x y z (nI s) jFU ((0 : Int32), (1 : Int32), (0 : Int32)) σ = some ((nI (cvr A s), nI (alN A s (a_nw A))), σ) := by
  have hb := hW.b
  have h94 : σ.1 93 4 = nI (a_nw A) := (hP.f (o := 0)).2.2.2.2.1
  refine jloop_run (body := fun rec s9 σ => X12_live_L70_b x y z (nI s) rec s9.1 s9.2.1 s9.2.2 σ) (fun n => (nI (orN (fun w => if bt1 s w = 1 then aSw A w else 0) n), nI (alN A s n), nI n)) (fun _ => σ) (a_nw A) _ ?_ ?_ jFU (by unfold jFU; omega)
  · intro i hi rec
    show X12_live_L70_b x y z (nI s) rec (nI (orN (fun w => if bt1 s w = 1 then aSw A w else 0) i)) (nI (alN A s i)) (nI i) σ = rec (nI (orN (fun w => if bt1 s w = 1 then aSw A w else 0) (i + 1)), nI (alN A s (i + 1)), nI (i + 1)) σ
    have e1 : orN (fun w => if bt1 s w = 1 then aSw A w else 0) (i + 1) = orN (fun w => if bt1 s w = 1 then aSw A w else 0) i ||| (if bt1 s i = 1 then aSw A i else 0) := rfl
    have e2 : alN A s (i + 1) = if alN A s i = 0 then 0 else if bt1 s i = 0 then 1 else if aLv A i = 0 then 0 else 1 := rfl
    have l1 := bt1_le s i
    have l2 := aLv_le A i
    have l3 := alN_le A s i
    unfold X12_live_L70_b
    rw [jldL_ (by omega) (by omega), h94, if_neg (nle_ (by omega) (by omega)), has_bit (by omega) (by omega), jbd_eq, jj_eq, e1, e2]
    rcases (show bt1 s i = 0 ∨ bt1 s i = 1 by omega) with b | b
    · rw [b, if_pos (show nI 0 = 0 from rfl)]
      dsimp only
      rw [show ((0 : Int32)) = nI 0 from rfl, nI_or, jlet_eq, if_neg (show ¬ (0 = 1) by omega), nI_1]
      by_cases c : alN A s i = 0
      · rw [c, if_pos rfl, if_pos rfl]
      · rw [if_neg (nne_ c (by omega) (by omega)), if_neg c, has_bit (by omega) (by omega), jbd_eq, b, if_pos rfl, if_pos rfl]
        rfl
    · rw [b, if_neg (show ¬ nI 1 = 0 by decide), swears_r hP hW hi, jbd_eq]
      dsimp only
      rw [nI_or, jlet_eq, if_pos (show 1 = 1 from rfl), nI_1]
      by_cases c : alN A s i = 0
      · rw [c, if_pos (show nI 0 = 0 from rfl), if_pos rfl]
        rfl
      · rw [if_neg (neL_ c (by omega) (by omega)), if_neg c, has_bit (by omega) (by omega), jbd_eq, b, if_neg (by decide), lives_r hP hW hi, jbd_eq, if_neg (show ¬ (1 = 0) by omega)]
        rcases (show aLv A i = 0 ∨ aLv A i = 1 by omega) with d | d
        · rw [d, if_pos (show nI 0 = 0 from rfl), if_pos rfl]
          rfl
        · rw [d, if_neg (show ¬ nI 1 = 0 by decide), if_neg (show ¬ (1 = 0) by omega)]
          rfl
  · intro rec
    show X12_live_L70_b x y z (nI s) rec (nI (orN (fun w => if bt1 s w = 1 then aSw A w else 0) (a_nw A))) (nI (alN A s (a_nw A))) (nI (a_nw A)) σ = _
    unfold X12_live_L70_b
    rw [jldL_ (by omega) (by omega), h94, if_pos (nI_le (Nat.le_refl _) (by omega))]
    rfl
theorem liveL_r {σ : jMem} {A : aP} {g : Nat} (x : Int32) (hP : PR σ 93 0 A) (hW : WF A) (hg : g < 4096) : X12_live_L48 (nI g) x jFU ((-1000000 : Int32), (0 : Int32)) σ = some (rF (scn (lv2 A g) (2 ^ a_nw A)), σ) := by
  have hb := hW.b
  have hI := INF_v
  have hN : 2 ^ a_nw A ≤ 64 := by
    have := p2_le hb.2
    simpa using this
  have h94 : σ.1 93 4 = nI (a_nw A) := (hP.f (o := 0)).2.2.2.2.1
  refine jloop_run (body := fun rec s9 σ => X12_live_L48_b (nI g) x rec s9.1 s9.2 σ) (fun n => (rF (scn (lv2 A g) n), nI n)) (fun _ => σ) (2 ^ a_nw A) _ ?_ ?_ jFU (by unfold jFU; omega)
  · intro i hi rec
    show X12_live_L48_b (nI g) x rec (rF (scn (lv2 A g) i)) (nI i) σ = rec (rF (scn (lv2 A g) (i + 1)), nI (i + 1)) σ
    have hsb := scn_b (P := lv2 A g) (k := i) (by omega)
    have hsP : (lv2 A g i = true ∧ (scn (lv2 A g) i = INF ∨ popc i < popc (scn (lv2 A g) i))) → scn (lv2 A g) (i + 1) = i := fun z => if_pos z
    have hsN : ¬ (lv2 A g i = true ∧ (scn (lv2 A g) i = INF ∨ popc i < popc (scn (lv2 A g) i))) → scn (lv2 A g) (i + 1) = scn (lv2 A g) i := fun z => if_neg z
    have hal : andn g (cvr A i) < 4096 := andn_lt (n := 12) hg
    have hlv : lv2 A g i = true ↔ andn g (cvr A i) = 0 ∧ alN A i (a_nw A) = 1 := by
      unfold lv2
      simp
    have l3 := alN_le A i (a_nw A)
    unfold X12_live_L48_b
    rw [jldL_ (by omega) (by omega), h94, nI_one_shl (by omega), if_neg (nle_ (by omega) (by omega)), liveI_r _ _ _ hP hW (by omega), jbd_eq, jj_eq, jj_eq]
    have go : (scn (lv2 A g) i = INF ∨ popc i < popc (scn (lv2 A g) i)) → (if ((1 : Int32) = 0) then
        rec (rF (scn (lv2 A g) i), (nI i + 1)) σ
      else
        if nI (alN A i (a_nw A)) = 0 then
        rec (rF (scn (lv2 A g) i), (nI i + 1)) σ
      else
        if ¬ (nI g &&& (nI (cvr A i) ^^^ (-1 : Int32))) = 0 then
        rec (rF (scn (lv2 A g) i), (nI i + 1)) σ
      else
        rec (nI i, (nI i + 1)) σ) = rec (rF (scn (lv2 A g) (i + 1)), nI (i + 1)) σ := by
      intro hq
      rw [if_neg (by decide), nI_1, nI_andn]
      by_cases c2 : alN A i (a_nw A) = 0
      · rw [c2, if_pos (show nI 0 = 0 from rfl), hsN (fun z => by have := (hlv.mp z.1).2; omega)]
      · rw [if_neg (neL_ c2 (by omega) (by omega))]
        by_cases c1 : andn g (cvr A i) = 0
        · rw [c1, if_neg (fun z => z rfl), hsP ⟨hlv.mpr ⟨c1, by omega⟩, hq⟩, rF_n (by omega)]
        · rw [if_pos (neL_ c1 (by omega) (by omega)), hsN (fun z => c1 (hlv.mp z.1).1)]
    by_cases c4 : scn (lv2 A g) i = INF
    · have := go (Or.inl c4)
      rw [c4, rF_i] at this ⊢
      rw [if_pos rfl]
      exact this
    · have p1 := popc_le i
      have p2 := popc_le (scn (lv2 A g) i)
      by_cases c5 : popc i < popc (scn (lv2 A g) i)
      · have := go (Or.inr c5)
        rw [rF_n (d := scn (lv2 A g) i) (by omega)] at this ⊢
        rw [if_neg (nI_ne_inf (by omega)), bits_spec (by omega), jbd_eq, bits_spec (by omega), jbd_eq, if_neg (nle_ (by omega) (by omega))]
        exact this
      · rw [hsN (by rintro ⟨_, q | q⟩; exact c4 q; exact c5 q), rF_n (d := scn (lv2 A g) i) (by omega), if_neg (nI_ne_inf (by omega)), bits_spec (by omega), jbd_eq, bits_spec (by omega), jbd_eq, if_pos (nI_le (by omega) (by omega))]
        dsimp only
        rw [if_pos rfl, nI_1]
  · intro rec
    show X12_live_L48_b (nI g) x rec (rF (scn (lv2 A g) (2 ^ a_nw A))) (nI (2 ^ a_nw A)) σ = _
    unfold X12_live_L48_b
    rw [jldL_ (by omega) (by omega), h94, nI_one_shl (by omega), if_pos (nI_le (Nat.le_refl _) (by omega))]
theorem sim_live_ok : sim_live Inv := by
  rintro σ a1 a2 ⟨A, h⟩
  have hb := h.W.b
  have h' := h.t0
  have t1 := h.W.1.1
  have hI := INF_v
  rcases (show a_th A = 0 ∨ a_th A = 1 by omega) with t | t
  · refine ⟨-1000002, σ, jset σ 89 0 0, ?_, ?_, h.bad⟩
    · unfold f_X11_live
      rw [h.C.1.1, t, if_neg (by decide)]
    · unfold f_X12_live
      rw [jlet_eq, there_r h'.R h.W, t]
      rfl
  · have ec : ¬ σ.1 22 1 = 0 := by rw [h.C.1.1, t]; decide
    have er := there_r h'.R h.W
    rw [t] at er
    have hp2 := Nat.two_pow_pos (a_np A)
    have hpl := np_lt h.W (x := 2 ^ a_np A - 1) (by omega)
    rcases mask_in a1 (a_np A) hb.1 with ⟨hm, s, hs, rfl⟩ | ⟨hm, ho⟩
    · have hsl := np_lt h.W hs
      have ein : ∀ τ : jMem, f_X12_in (nI s).toInt64 (0 : Int64) (nI (2 ^ a_np A - 1)).toInt64 τ = some (1, τ) := by
        intro τ
        have := in_nat (nI s) 0 (2 ^ a_np A - 1) (by omega) (by omega) τ
        rw [nI_toInt (by omega), if_pos (by omega)] at this
        exact this
      by_cases c : a2 = 0 ∨ a2 = 1
      · have hv := scn_b (P := lv1 A s) (k := 2 ^ a_nw A) (by
          have := p2_le hb.2
          omega)
        have hN : 2 ^ a_nw A ≤ 64 := by
          have := p2_le hb.2
          simpa using this
        have e1 := liveL_c a2 h.C h.W hsl
        have e2 := liveL_r a2 h'.R h.W hsl
        rw [← live_eq s h.W] at e2
        refine ⟨if rF (scn (lv1 A s) (2 ^ a_nw A)) = (-1000000 : Int32) then rF (scn (lv1 A s) (2 ^ a_nw A)) else if ¬ a2 = (1 : Int32) then nI (popc (scn (lv1 A s) (2 ^ a_nw A))) else rF (scn (lv1 A s) (2 ^ a_nw A)), σ, jset σ 89 0 0, ?_, ?_, h.bad⟩
        · unfold f_X11_live
          rw [if_pos ec, allP_c h.C h.W, jbd_eq, if_neg (fun z => z hm), oneOf_c, if_pos c, jbd_eq, if_pos (by decide), e1, jbd_eq]
          by_cases ci : scn (lv1 A s) (2 ^ a_nw A) = INF
          · rw [ci, rF_i, if_pos rfl, if_pos rfl]
          · rw [rF_n (by omega), if_neg (nI_ne_inf (by omega)), if_neg (nI_ne_inf (by omega))]
            by_cases c1 : a2 = 1
            · rw [if_neg (fun z => z c1), if_neg (fun z => z c1)]
            · rw [if_pos c1, if_pos c1, bc_spec (by omega)]
              rfl
        · unfold f_X12_live
          rw [jlet_eq, er, jbd_eq, if_pos (by decide), allP_r h'.R h.W, jbd_eq, ein, jbd_eq, if_neg (by decide), oneOf_r, if_pos c, jbd_eq, if_pos (by decide), e2, jbd_eq]
          by_cases ci : scn (lv1 A s) (2 ^ a_nw A) = INF
          · rw [ci, rF_i, if_pos rfl, if_pos rfl]
          · rw [rF_n (by omega), if_neg (nI_ne_inf (by omega)), if_neg (nI_ne_inf (by omega))]
            by_cases c1 : a2 = 1
            · rw [if_neg (fun z => z c1), if_neg (fun z => z c1)]
            · rw [if_pos c1, if_pos c1, bits_spec (by omega)]
              rfl
      · refine ⟨-1000001, σ, jset σ 89 0 0, ?_, ?_, h.bad⟩
        · unfold f_X11_live
          rw [if_pos ec, allP_c h.C h.W, jbd_eq, if_neg (fun z => z hm), oneOf_c, if_neg c]
          rfl
        · unfold f_X12_live
          rw [jlet_eq, er, jbd_eq, if_pos (by decide), allP_r h'.R h.W, jbd_eq, ein, jbd_eq, if_neg (by decide), oneOf_r, if_neg c]
          rfl
    · refine ⟨-1000001, σ, jset σ 89 0 0, ?_, ?_, h.bad⟩
      · unfold f_X11_live
        rw [if_pos ec, allP_c h.C h.W, jbd_eq, if_pos hm]
      · unfold f_X12_live
        rw [jlet_eq, er, jbd_eq, if_pos (by decide), allP_r h'.R h.W, jbd_eq]
        have := in_nat a1 0 (2 ^ a_np A - 1) (by omega) (by omega) (jset σ 89 0 0)
        rw [if_neg (by omega)] at this
        have e0 : f_X12_in a1.toInt64 (0 : Int64) (nI (2 ^ a_np A - 1)).toInt64 (jset σ 89 0 0) = some (0, jset σ 89 0 0) := this
        rw [e0, jbd_eq, if_pos rfl]
