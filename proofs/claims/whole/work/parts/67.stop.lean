/-! ===== PURE: the least: fewest first, then smallest; stop ===== -/
def lxl (x y : Nat) : Prop := popc x < popc y ∨ (popc x = popc y ∧ x ≤ y)
theorem lxl_refl (x : Nat) : lxl x x := Or.inr ⟨rfl, Nat.le_refl x⟩
theorem lxl_trans {x y z : Nat} (h1 : lxl x y) (h2 : lxl y z) : lxl x z := by
  unfold lxl at *
  omega
theorem lxl_anti {x y : Nat} (h1 : lxl x y) (h2 : lxl y x) : x = y := by
  unfold lxl at *
  omega
theorem popc_sub {b x : Nat} (hb : b < 4096) (hx : x < 4096) (h : ∀ i, b.testBit i = true → x.testBit i = true) : lxl b x := by
  have hle : ∀ i, bt1 b i ≤ bt1 x i := by
    intro i
    have h1 := bt1_le b i
    by_cases c : bt1 b i = 1
    · rw [bt1_1.mpr (h i (bt1_1.mp c)), c]
      exact Nat.le_refl 1
    · omega
  by_cases c : ∀ i, i < 12 → bt1 b i = bt1 x i
  · have e : b = x := by
      apply Nat.eq_of_testBit_eq
      intro i
      by_cases hi : i < 12
      · have := c i hi
        rw [bt1_test, bt1_test, this]
      · have p := p2_le (show 12 ≤ i by omega)
        rw [Nat.testBit_lt_two_pow (show b < 2 ^ i by omega), Nat.testBit_lt_two_pow (show x < 2 ^ i by omega)]
    rw [e]
    exact lxl_refl x
  · left
    have c2 : ∃ i, i < 12 ∧ bt1 b i ≠ bt1 x i := by
      refine Classical.byContradiction (fun q => c (fun i hi => ?_))
      exact Classical.byContradiction (fun z => q ⟨i, hi, z⟩)
    obtain ⟨i, hi, hn⟩ := c2
    have := hle i
    exact smN_lt (j := i) (fun j _ => hle j) hi (by omega)
def scn (P : Nat → Bool) : Nat → Nat
  | 0 => INF
  | k + 1 => if P k = true ∧ (scn P k = INF ∨ popc k < popc (scn P k)) then k else scn P k
theorem scn_ok (P : Nat → Bool) : ∀ k, k ≤ INF → (scn P k = INF ∧ ∀ x, x < k → P x = false) ∨ (scn P k < k ∧ P (scn P k) = true ∧ ∀ x, x < k → P x = true → lxl (scn P k) x)
  | 0, _ => Or.inl ⟨rfl, fun x hx => by omega⟩
  | k + 1, hk => by
    have ih := scn_ok P k (by omega)
    by_cases c : P k = true ∧ (scn P k = INF ∨ popc k < popc (scn P k))
    · have e : scn P (k + 1) = k := if_pos c
      rw [e]
      right
      refine ⟨Nat.lt_succ_self k, c.1, fun x hx hp => ?_⟩
      by_cases q : x = k
      · rw [q]
        exact lxl_refl k
      · rcases ih with ⟨h1, h2⟩ | ⟨h1, h2, h3⟩
        · rw [h2 x (by omega)] at hp
          exact absurd hp (by decide)
        · have := h3 x (by omega) hp
          rcases c.2 with q2 | q2
          · omega
          · left
            unfold lxl at this
            omega
    · have e : scn P (k + 1) = scn P k := if_neg c
      rw [e]
      rcases ih with ⟨h1, h2⟩ | ⟨h1, h2, h3⟩
      · left
        refine ⟨h1, fun x hx => ?_⟩
        by_cases q : x = k
        · subst q
          cases hp : P x
          · rfl
          · exact absurd ⟨hp, Or.inl h1⟩ c
        · exact h2 x (by omega)
      · right
        refine ⟨by omega, h2, fun x hx hp => ?_⟩
        by_cases q : x = k
        · subst q
          have : ¬ popc x < popc (scn P x) := fun z => c ⟨hp, Or.inr z⟩
          unfold lxl
          omega
        · exact h3 x (by omega) hp
/-- a set of paths that parts a from the church -/
def prt (A : aP) (a x : Nat) : Bool := decide (x &&& a_gt A = 0 ∧ dst A (andn (opn A) x) a = INF)
theorem prt_t {A : aP} {a x : Nat} : prt A a x = true ↔ x &&& a_gt A = 0 ∧ dst A (andn (opn A) x) a = INF := by
  unfold prt
  simp
def btw (A : aP) (S : Nat) : Nat := orN (fun i => if bt1 S (a_pa A i) = bt1 S (a_pb A i) then 0 else 2 ^ i) (a_np A) &&& opn A
theorem btw_test (A : aP) (S i : Nat) : (btw A S).testBit i = true ↔ i < a_np A ∧ bt1 S (a_pa A i) ≠ bt1 S (a_pb A i) ∧ (opn A).testBit i = true := by
  unfold btw
  rw [Nat.testBit_and, Bool.and_eq_true, orN_test]
  constructor
  · rintro ⟨⟨j, hj, h⟩, h2⟩
    by_cases c : bt1 S (a_pa A j) = bt1 S (a_pb A j)
    · rw [if_pos c] at h
      simp at h
    · rw [if_neg c, p2_test] at h
      have : j = i := by simpa using h
      subst this
      exact ⟨hj, c, h2⟩
  · rintro ⟨h1, h2, h3⟩
    refine ⟨⟨i, h1, ?_⟩, h3⟩
    rw [if_neg h2, p2_test]
    simp
theorem btw_lt (A : aP) (S : Nat) : btw A S < 2 ^ a_np A := Nat.lt_of_le_of_lt Nat.and_le_right (opn_lt A)
theorem opn_gt {A : aP} {x : Nat} (h : ∀ i, x.testBit i = true → (opn A).testBit i = true) : x &&& a_gt A = 0 := by
  apply Nat.eq_of_testBit_eq
  intro i
  rw [Nat.testBit_and, Nat.zero_testBit]
  cases c1 : x.testBit i
  · rfl
  · have h2 := h i c1
    unfold opn at h2
    rw [andn_test] at h2
    cases c2 : (a_gt A).testBit i
    · rfl
    · rw [c2] at h2
      simp at h2
theorem prt_btw {A : aP} {a S : Nat} (hW : WF A) (ha : a < 8) (hS : bt1 S a = 1) (hc : bt1 S (a_ch A) = 0) : prt A a (btw A S) = true := by
  rw [prt_t]
  refine ⟨opn_gt (fun i h => ((btw_test A S i).mp h).2.2), ?_⟩
  have key : ∀ n v, v < 8 → bt1 S v = 1 → dst A (andn (opn A) (btw A S)) v ≤ n → dst A (andn (opn A) (btw A S)) v = INF := by
    intro n
    induction n with
    | zero =>
      intro v hv hs hn
      refine Classical.byContradiction (fun q => ?_)
      have hinf := dst_inf A (andn (opn A) (btw A S)) v
      have hvc : v ≠ a_ch A := by
        rintro rfl
        omega
      obtain ⟨i, u, hu, he, hd⟩ := dst_prd (andn (opn A) (btw A S)) hW hv hvc (by omega)
      have hl := (hW.2.1 i he.1).2.2.2.1
      omega
    | succ n ih =>
      intro v hv hs hn
      refine Classical.byContradiction (fun q => ?_)
      have hinf := dst_inf A (andn (opn A) (btw A S)) v
      have hvc : v ≠ a_ch A := by
        rintro rfl
        omega
      obtain ⟨i, u, hu, he, hd⟩ := dst_prd (andn (opn A) (btw A S)) hW hv hvc (by omega)
      have hl := (hW.2.1 i he.1).2.2.2.1
      have hb := bt1_1.mp he.2.1
      rw [andn_test] at hb
      have hus : bt1 S u = 1 := by
        refine Classical.byContradiction (fun z => ?_)
        have hu1 := bt1_le S u
        have hbt : (btw A S).testBit i = true := by
          rw [btw_test]
          refine ⟨he.1, ?_, ?_⟩
          · rcases he.2.2 with ⟨q1, q2⟩ | ⟨q1, q2⟩
            · rw [q1, q2]
              omega
            · rw [q1, q2]
              omega
          · cases c : (opn A).testBit i
            · rw [c] at hb
              simp at hb
            · rfl
        rw [hbt] at hb
        simp at hb
      have h1 := ih u hu hus (by omega)
      omega
  exact key _ a ha hS (Nat.le_refl _)
theorem prt_sub {A : aP} {a x : Nat} (hW : WF A) (ha : a < 8) (hx : x < 2 ^ a_np A) (h : prt A a x = true) : ∃ S, S < 256 ∧ bt1 S a = 1 ∧ bt1 S (a_ch A) = 0 ∧ lxl (btw A S) x := by
  rw [prt_t] at h
  have hI := INF_v
  have hch := hW.1.2.1
  have ht : ∀ v, (orN (fun v => if dst A (andn (opn A) x) v = INF then 2 ^ v else 0) 8).testBit v = true ↔ v < 8 ∧ dst A (andn (opn A) x) v = INF := by
    intro v
    rw [orN_test]
    constructor
    · rintro ⟨j, hj, q⟩
      by_cases c : dst A (andn (opn A) x) j = INF
      · rw [if_pos c, p2_test] at q
        have : j = v := by simpa using q
        subst this
        exact ⟨hj, c⟩
      · rw [if_neg c] at q
        simp at q
    · rintro ⟨q1, q2⟩
      refine ⟨v, q1, ?_⟩
      rw [if_pos q2, p2_test]
      simp
  refine ⟨orN (fun v => if dst A (andn (opn A) x) v = INF then 2 ^ v else 0) 8, ?_, bt1_1.mpr ((ht a).mpr ⟨ha, h.2⟩), ?_, ?_⟩
  · have := orN_lt (g := fun v => if dst A (andn (opn A) x) v = INF then 2 ^ v else 0) (m := 8) (n := 8) (fun i hi => by
      by_cases c : dst A (andn (opn A) x) i = INF
      · rw [if_pos c]
        exact p2_lt hi
      · rw [if_neg c]
        omega)
    simpa using this
  · have hle := bt1_le (orN (fun v => if dst A (andn (opn A) x) v = INF then 2 ^ v else 0) 8) (a_ch A)
    have : ¬ bt1 (orN (fun v => if dst A (andn (opn A) x) v = INF then 2 ^ v else 0) 8) (a_ch A) = 1 := by
      intro q
      have := ((ht (a_ch A)).mp (bt1_1.mp q)).2
      rw [dst_ch] at this
      omega
    omega
  · refine popc_sub (np_lt hW (btw_lt A _)) (np_lt hW hx) (fun i hi => ?_)
    obtain ⟨b1, b2, b3⟩ := (btw_test A _ i).mp hi
    have hp := hW.2.1 i b1
    refine Classical.byContradiction (fun q => b2 ?_)
    have hop : bt1 (andn (opn A) x) i = 1 := by
      rw [bt1_1, andn_test, b3]
      cases c : x.testBit i
      · rfl
      · exact absurd c q
    have e1 : edg A (andn (opn A) x) i (a_pa A i) (a_pb A i) := ⟨b1, hop, Or.inl ⟨rfl, rfl⟩⟩
    have e2 : edg A (andn (opn A) x) i (a_pb A i) (a_pa A i) := ⟨b1, hop, Or.inr ⟨rfl, rfl⟩⟩
    have iff : (dst A (andn (opn A) x) (a_pa A i) = INF) ↔ (dst A (andn (opn A) x) (a_pb A i) = INF) := by
      have i1 := dst_inf A (andn (opn A) x) (a_pa A i)
      have i2 := dst_inf A (andn (opn A) x) (a_pb A i)
      constructor
      · intro z
        refine Classical.byContradiction (fun z2 => ?_)
        have := dst_step hW e1 hp.1 hp.2.1 (by omega)
        omega
      · intro z
        refine Classical.byContradiction (fun z2 => ?_)
        have := dst_step hW e2 hp.2.1 hp.1 (by omega)
        omega
    have l1 := bt1_le (orN (fun v => if dst A (andn (opn A) x) v = INF then 2 ^ v else 0) 8) (a_pa A i)
    have l2 := bt1_le (orN (fun v => if dst A (andn (opn A) x) v = INF then 2 ^ v else 0) 8) (a_pb A i)
    have t1 := ht (a_pa A i)
    have t2 := ht (a_pb A i)
    rw [← bt1_1] at t1 t2
    by_cases c : dst A (andn (opn A) x) (a_pa A i) = INF
    · rw [t1.mpr ⟨hp.1, c⟩, t2.mpr ⟨hp.2.1, iff.mp c⟩]
    · have n1 : ¬ bt1 (orN (fun v => if dst A (andn (opn A) x) v = INF then 2 ^ v else 0) 8) (a_pa A i) = 1 := fun z => c (t1.mp z).2
      have n2 : ¬ bt1 (orN (fun v => if dst A (andn (opn A) x) v = INF then 2 ^ v else 0) 8) (a_pb A i) = 1 := fun z => c (iff.mpr (t2.mp z).2)
      omega
theorem prt_op {A : aP} {a : Nat} (hW : WF A) (ha : a < 8) (hc : a ≠ a_ch A) : prt A a (opn A) = true := by
  rw [prt_t]
  refine ⟨opn_gt (fun i h => h), ?_⟩
  refine Classical.byContradiction (fun q => ?_)
  have hinf := dst_inf A (andn (opn A) (opn A)) a
  obtain ⟨i, u, hu, he, hd⟩ := dst_prd (andn (opn A) (opn A)) hW ha hc (by omega)
  have hb := bt1_1.mp he.2.1
  rw [andn_test] at hb
  cases c : (opn A).testBit i <;> rw [c] at hb <;> simp at hb
/-- the class's way to it: over the sides -/
def vld (A : aP) (a S : Nat) : Prop := bt1 S a = 1 ∧ bt1 S (a_ch A) = 0
def cst (A : aP) (a : Nat) : Nat → Nat
  | 0 => opn A
  | k + 1 => if (bt1 k a = 1 ∧ bt1 k (a_ch A) = 0) ∧ (popc (btw A k) < popc (cst A a k) ∨ (popc (btw A k) = popc (cst A a k) ∧ btw A k < cst A a k)) then btw A k else cst A a k
theorem cst_ok {A : aP} {a : Nat} (hW : WF A) (ha : a < 8) (hc : a ≠ a_ch A) : ∀ k, cst A a k < 2 ^ a_np A ∧ prt A a (cst A a k) = true ∧ ∀ S, S < k → bt1 S a = 1 → bt1 S (a_ch A) = 0 → lxl (cst A a k) (btw A S)
  | 0 => ⟨opn_lt A, prt_op hW ha hc, fun S hS => by omega⟩
  | k + 1 => by
    obtain ⟨h1, h2, h3⟩ := cst_ok hW ha hc k
    by_cases c : (bt1 k a = 1 ∧ bt1 k (a_ch A) = 0) ∧ (popc (btw A k) < popc (cst A a k) ∨ (popc (btw A k) = popc (cst A a k) ∧ btw A k < cst A a k))
    · have e : cst A a (k + 1) = btw A k := if_pos c
      rw [e]
      refine ⟨btw_lt A k, prt_btw hW ha c.1.1 c.1.2, fun S hS q1 q2 => ?_⟩
      by_cases z : S = k
      · rw [z]
        exact lxl_refl _
      · have := h3 S (by omega) q1 q2
        unfold lxl at this ⊢
        omega
    · have e : cst A a (k + 1) = cst A a k := if_neg c
      rw [e]
      refine ⟨h1, h2, fun S hS q1 q2 => ?_⟩
      by_cases z : S = k
      · subst z
        have : ¬ (popc (btw A S) < popc (cst A a S) ∨ (popc (btw A S) = popc (cst A a S) ∧ btw A S < cst A a S)) := fun z => c ⟨⟨q1, q2⟩, z⟩
        unfold lxl
        omega
      · exact h3 S (by omega) q1 q2
theorem stop_eq {A : aP} {a : Nat} (hW : WF A) (ha : a < 8) (hc : a ≠ a_ch A) : scn (prt A a) (2 ^ a_np A) = cst A a 256 := by
  have hI := INF_v
  have hp := np_lt hW (x := 2 ^ a_np A - 1) (by have := Nat.two_pow_pos (a_np A); omega)
  obtain ⟨c1, c2, c3⟩ := cst_ok hW ha hc 256
  rcases scn_ok (prt A a) (2 ^ a_np A) (by omega) with ⟨h1, h2⟩ | ⟨h1, h2, h3⟩
  · have := h2 _ c1
    rw [c2] at this
    exact absurd this (by decide)
  · refine lxl_anti (h3 _ c1 c2) ?_
    obtain ⟨S, s1, s2, s3, s4⟩ := prt_sub hW ha h1 h2
    exact lxl_trans (c3 S s1 s2 s3) s4
theorem between_c {σ : jMem} {k S : Nat} {A : aP} (hP : PC σ k A) (hW : WF A) (hS : S < 256) : f_X2_between k (nI (opn A)) (nI S) σ = some (nI (btw A S), σ) := by
  have hb := hW.b
  unfold f_X2_between
  have : X2_between_L5 k (nI (opn A)) (nI S) jFU ((0 : Int32), (0 : Int32)) σ = some (nI (orN (fun i => if bt1 S (a_pa A i) = bt1 S (a_pb A i) then 0 else 2 ^ i) (a_np A)), σ) := by
    refine jloop_run (body := fun rec s9 σ => X2_between_L5_b k (nI (opn A)) (nI S) rec s9.1 s9.2 σ) (fun n => (nI (orN (fun i => if bt1 S (a_pa A i) = bt1 S (a_pb A i) then 0 else 2 ^ i) n), nI n)) (fun _ => σ) (a_np A) _ ?_ ?_ jFU (by unfold jFU; omega)
    · intro i hi rec
      have hp := hW.2.1 i hi
      obtain ⟨p1, p2, p3⟩ := hP.2.1 i hi
      have l1 := bt1_le S (a_pa A i)
      have l2 := bt1_le S (a_pb A i)
      show X2_between_L5_b k (nI (opn A)) (nI S) rec (nI (orN (fun i => if bt1 S (a_pa A i) = bt1 S (a_pb A i) then 0 else 2 ^ i) i)) (nI i) σ = _
      unfold X2_between_L5_b
      rw [hP.1.2.2.2.2.1, if_neg (nle_ (by omega) (by omega)), jld_eq (by omega) (by omega), p1, bitOf_spec (by omega) (by omega), jbd_eq, jld_eq (by omega) (by omega), p2, bitOf_spec (by omega) (by omega), jbd_eq, nI_1]
      by_cases c : bt1 S (a_pa A i) = bt1 S (a_pb A i)
      · rw [if_pos (by rw [c]), orN, if_pos c, Nat.or_zero]
      · rw [if_neg (nne_ c (by omega) (by omega)), orN, if_neg c, nI_one_shl (by omega), nI_or, jlet_eq]
    · intro rec
      show X2_between_L5_b k (nI (opn A)) (nI S) rec _ (nI (a_np A)) σ = _
      unfold X2_between_L5_b
      rw [hP.1.2.2.2.2.1, if_pos (nI_le (Nat.le_refl _) (by omega))]
  rw [this, jbd_eq, nI_and]
  rfl
theorem few_c {σ : jMem} {a : Nat} {A : aP} (hP : PC σ 22 A) (hW : WF A) (ha : a < 8) (hc : a ≠ a_ch A) : f_X2_fewestGates 22 (nI (opn A)) (nI a) σ = some (nI (cst A a 256), σ) := by
  have hb := hW.b
  have hch := hW.1.2.1
  unfold f_X2_fewestGates
  have : X2_fewestGates_L6 22 (nI (opn A)) (nI a) jFU (nI (opn A), (0 : Int32)) σ = some (nI (cst A a 256), σ) := by
    refine jloop_run (body := fun rec s9 σ => X2_fewestGates_L6_b 22 (nI (opn A)) (nI a) rec s9.1 s9.2 σ) (fun n => (nI (cst A a n), nI n)) (fun _ => σ) 256 _ ?_ ?_ jFU (by unfold jFU; omega)
    · intro i hi rec
      show X2_fewestGates_L6_b 22 (nI (opn A)) (nI a) rec (nI (cst A a i)) (nI i) σ = rec (nI (cst A a (i + 1)), nI (i + 1)) σ
      have hsP : ((bt1 i a = 1 ∧ bt1 i (a_ch A) = 0) ∧ (popc (btw A i) < popc (cst A a i) ∨ (popc (btw A i) = popc (cst A a i) ∧ btw A i < cst A a i))) → cst A a (i + 1) = btw A i := fun z => if_pos z
      have hsN : ¬ ((bt1 i a = 1 ∧ bt1 i (a_ch A) = 0) ∧ (popc (btw A i) < popc (cst A a i) ∨ (popc (btw A i) = popc (cst A a i) ∧ btw A i < cst A a i))) → cst A a (i + 1) = cst A a i := fun z => if_neg z
      have hcl := np_lt hW (cst_ok hW ha hc i).1
      have hbl := np_lt hW (btw_lt A i)
      have p1 := popc_le (btw A i)
      have p2 := popc_le (cst A a i)
      have l1 := bt1_le i a
      have l2 := bt1_le i (a_ch A)
      unfold X2_fewestGates_L6_b
      rw [if_neg (Lle_ (by omega) (by omega)), bitOf_spec (by omega) (by omega), jbd_eq, nI_1]
      by_cases c1 : bt1 i a = 1
      · rw [c1, if_neg (by decide), hP.1.2.1, bitOf_spec (by omega) (by omega), jbd_eq]
        by_cases c2 : bt1 i (a_ch A) = 0
        · rw [c2, if_neg (fun z => z rfl), between_c hP hW hi, jbd_eq, bc_spec hbl, jbd_eq, bc_spec hcl, jbd_eq, jlet_eq]
          have es : (nI (popc (btw A i)) - nI (popc (cst A a i))).toInt = (popc (btw A i) : Int) - popc (cst A a i) := pk_sub_toInt (by omega) (by omega)
          by_cases c3 : popc (btw A i) < popc (cst A a i)
          · rw [if_pos (by rw [pI_lt, es]; show _ < (0 : Int); omega), hsP ⟨⟨c1, c2⟩, Or.inl c3⟩]
          · rw [if_neg (by rw [pI_lt, es]; show ¬ _ < (0 : Int); omega)]
            by_cases c4 : popc (btw A i) = popc (cst A a i)
            · rw [if_neg (fun z => z (by rw [pI_eq, es]; show _ = (0 : Int); omega))]
              by_cases c5 : cst A a i ≤ btw A i
              · rw [if_pos (nI_le c5 (by omega)), hsN (by omega)]
              · rw [if_neg (nle_ (by omega) (by omega)), hsP ⟨⟨c1, c2⟩, Or.inr ⟨c4, by omega⟩⟩]
            · rw [if_pos (fun z => by rw [pI_eq, es] at z; change _ = (0 : Int) at z; omega), hsN (by omega)]
        · rw [if_pos (neL_ c2 (by omega) (by omega)), hsN (by omega)]
      · rw [show bt1 i a = 0 by omega, if_pos (by decide), hsN (by omega)]
    · intro rec
      show X2_fewestGates_L6_b 22 (nI (opn A)) (nI a) rec _ (nI 256) σ = _
      unfold X2_fewestGates_L6_b
      rw [if_pos (by decide)]
  rw [this]
  rfl
