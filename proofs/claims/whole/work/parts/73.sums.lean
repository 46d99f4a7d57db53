/-! ===== PURE: sums over sets of gates ===== -/
def sS (p D : Nat) : Nat → (Nat → Nat) → Nat
  | 0, g => g 0
  | n + 1, g => if D.testBit n = true then (10 - p) * sS p D n g + p * sS p D n (fun x => g (x ||| 2 ^ n)) else sS p D n g
def cnn (D n : Nat) : Nat := smN (bt1 D) n
theorem cnn_s (D n : Nat) : cnn D (n + 1) = cnn D n + bt1 D n := rfl
theorem cnn_le (D n : Nat) : cnn D n ≤ n := by
  have := smN_le (g := bt1 D) (b := 1) (n := n) (fun i _ => bt1_le D i)
  unfold cnn
  omega
theorem bt1_f {D i : Nat} (h : ¬ D.testBit i = true) : bt1 D i = 0 := by
  have := bt1_le D i
  have h2 : ¬ bt1 D i = 1 := fun q => h (bt1_1.mp q)
  omega
theorem or_lt {x n : Nat} (h : x < 2 ^ n) : x ||| 2 ^ n < 2 ^ (n + 1) := Nat.or_lt_two_pow (Nat.lt_trans h (p2_lt (Nat.lt_succ_self n))) (p2_lt (Nat.lt_succ_self n))
theorem sS_congr {p D : Nat} : ∀ {n : Nat} {g g' : Nat → Nat}, (∀ x, x < 2 ^ n → g x = g' x) → sS p D n g = sS p D n g'
  | 0, g, g', h => h 0 (by decide)
  | n + 1, g, g', h => by
    have hn := p2_lt (Nat.lt_succ_self n)
    have e1 : sS p D n g = sS p D n g' := sS_congr (fun x hx => h x (by omega))
    have e2 : sS p D n (fun x => g (x ||| 2 ^ n)) = sS p D n (fun x => g' (x ||| 2 ^ n)) := sS_congr (fun x hx => h _ (or_lt hx))
    unfold sS
    rw [e1, e2]
theorem sS_zero (p D : Nat) : ∀ n, sS p D n (fun _ => 0) = 0
  | 0 => rfl
  | n + 1 => by
    unfold sS
    rw [sS_zero p D n]
    split <;> simp
theorem sS_add (p D : Nat) : ∀ (n : Nat) (g h : Nat → Nat), sS p D n (fun x => g x + h x) = sS p D n g + sS p D n h
  | 0, g, h => rfl
  | n + 1, g, h => by
    have e1 := sS_add p D n g h
    have e2 := sS_add p D n (fun x => g (x ||| 2 ^ n)) (fun x => h (x ||| 2 ^ n))
    unfold sS
    rw [e1, e2]
    by_cases c : D.testBit n = true
    · rw [if_pos c, if_pos c, if_pos c, Nat.mul_add, Nat.mul_add]
      omega
    · rw [if_neg c, if_neg c, if_neg c]
theorem sS_sum (p D n : Nat) (g : Nat → Nat → Nat) : ∀ m, smN (fun T => sS p D n (g T)) m = sS p D n (fun x => smN (fun T => g T x) m)
  | 0 => (sS_zero p D n).symm
  | m + 1 => by
    show smN (fun T => sS p D n (g T)) m + sS p D n (g m) = sS p D n (fun x => smN (fun T => g T x) m + g m x)
    rw [sS_sum p D n g m, sS_add]
theorem sS_split {p : Nat} (hp : p ≤ 10) : ∀ (n D D1 D2 D3 : Nat) (f : Nat → Nat), (∀ i, i < n → (D.testBit i = true ↔ (D1.testBit i = true ∨ D2.testBit i = true ∨ D3.testBit i = true))) → (∀ i, i < n → ¬ (D1.testBit i = true ∧ D2.testBit i = true) ∧ ¬ (D1.testBit i = true ∧ D3.testBit i = true) ∧ ¬ (D2.testBit i = true ∧ D3.testBit i = true)) → (∀ x y, (∀ i, D1.testBit i = true → x.testBit i = y.testBit i) → f x = f y) → ∀ P : Nat → Prop, ∀ _ : DecidablePred P, (∀ x, x < 2 ^ n → (P x ↔ ∀ i, i < n → D2.testBit i = true → x.testBit i = true)) → sS p D n (fun x => if P x then f x else 0) = sS p D1 n f * p ^ cnn D2 n * 10 ^ cnn D3 n
  | 0, D, D1, D2, D3, f, h1, h2, h3, P, _, hP => by
    show (if P 0 then f 0 else 0) = f 0 * p ^ 0 * 10 ^ 0
    rw [if_pos ((hP 0 (by decide)).mpr (fun i hi => by omega))]
    simp
  | n + 1, D, D1, D2, D3, f, h1, h2, h3, P, dP, hP => by
    have hn := p2_lt (Nat.lt_succ_self n)
    have tb : ∀ x i, (x ||| 2 ^ n).testBit i = (x.testBit i || decide (n = i)) := fun x i => by rw [Nat.testBit_or, p2_test]
    have h3' : ∀ x y, (∀ i, D1.testBit i = true → x.testBit i = y.testBit i) → f (x ||| 2 ^ n) = f (y ||| 2 ^ n) := by
      intro x y hxy
      refine h3 _ _ (fun i hi => ?_)
      rw [tb, tb, hxy i hi]
    have g1 : ∀ i, i < n → (D.testBit i = true ↔ (D1.testBit i = true ∨ D2.testBit i = true ∨ D3.testBit i = true)) := fun i hi => h1 i (by omega)
    have g2 : ∀ i, i < n → ¬ (D1.testBit i = true ∧ D2.testBit i = true) ∧ ¬ (D1.testBit i = true ∧ D3.testBit i = true) ∧ ¬ (D2.testBit i = true ∧ D3.testBit i = true) := fun i hi => h2 i (by omega)
    have xn : ∀ x, x < 2 ^ n → x.testBit n = false := fun x hx => Nat.testBit_lt_two_pow hx
    have c1 := h1 n (by omega)
    have c2 := h2 n (by omega)
    have hPa : ¬ D2.testBit n = true → ∀ x, x < 2 ^ n → (P x ↔ ∀ i, i < n → D2.testBit i = true → x.testBit i = true) := by
      intro q x hx
      rw [hP x (by omega)]
      constructor
      · intro z i hi
        exact z i (by omega)
      · intro z i hi hd
        by_cases e : i = n
        · subst e
          exact absurd hd q
        · exact z i (by omega) hd
    have hPb : ∀ x, x < 2 ^ n → (P (x ||| 2 ^ n) ↔ ∀ i, i < n → D2.testBit i = true → x.testBit i = true) := by
      intro x hx
      rw [hP _ (or_lt hx)]
      constructor
      · intro z i hi hd
        have := z i (by omega) hd
        rw [tb, decide_eq_false (by omega), Bool.or_false] at this
        exact this
      · intro z i hi hd
        rw [tb]
        by_cases e : n = i
        · simp [e]
        · rw [z i (by omega) hd]
          rfl
    have F2 := sS_split hp n D D1 D2 D3 (fun x => f (x ||| 2 ^ n)) g1 g2 h3' (fun x => P (x ||| 2 ^ n)) (fun x => dP _) hPb
    have F1 : ¬ D2.testBit n = true → sS p D n (fun x => if P x then f x else 0) = sS p D1 n f * p ^ cnn D2 n * 10 ^ cnn D3 n := fun q => sS_split hp n D D1 D2 D3 f g1 g2 h3 P dP (hPa q)
    have fe : ¬ D1.testBit n = true → sS p D1 n (fun x => f (x ||| 2 ^ n)) = sS p D1 n f := by
      intro q
      refine sS_congr (fun x hx => ?_)
      refine h3 _ _ (fun i hi => ?_)
      rw [tb]
      by_cases e : n = i
      · subst e
        exact absurd hi q
      · rw [decide_eq_false e, Bool.or_false]
    rw [cnn_s, cnn_s]
    show (if D.testBit n = true then (10 - p) * sS p D n (fun x => if P x then f x else 0) + p * sS p D n (fun x => if P (x ||| 2 ^ n) then f (x ||| 2 ^ n) else 0) else sS p D n (fun x => if P x then f x else 0)) = (if D1.testBit n = true then (10 - p) * sS p D1 n f + p * sS p D1 n (fun x => f (x ||| 2 ^ n)) else sS p D1 n f) * p ^ (cnn D2 n + bt1 D2 n) * 10 ^ (cnn D3 n + bt1 D3 n)
    by_cases d1 : D1.testBit n = true
    · have d2 : ¬ D2.testBit n = true := fun q => c2.1 ⟨d1, q⟩
      have d3 : ¬ D3.testBit n = true := fun q => c2.2.1 ⟨d1, q⟩
      rw [if_pos (c1.mpr (Or.inl d1)), if_pos d1, F1 d2, F2, bt1_f d2, bt1_f d3, Nat.add_zero, Nat.add_zero, Nat.add_mul, Nat.add_mul]
      simp only [Nat.mul_assoc]
    · rw [if_neg d1]
      rw [fe d1] at F2
      by_cases d2 : D2.testBit n = true
      · have d3 : ¬ D3.testBit n = true := fun q => c2.2.2 ⟨d2, q⟩
        have z : sS p D n (fun x => if P x then f x else 0) = 0 := by
          refine Eq.trans (sS_congr (g' := fun _ => 0) (fun x hx => if_neg (fun q => ?_))) (sS_zero p D n)
          have := (hP x (by omega)).mp q n (by omega) d2
          rw [xn x hx] at this
          exact absurd this (by decide)
        rw [if_pos (c1.mpr (Or.inr (Or.inl d2))), z, F2, bt1_1.mpr d2, bt1_f d3, Nat.add_zero, Nat.mul_zero, Nat.zero_add, Nat.pow_succ]
        ac_rfl
      · by_cases d3 : D3.testBit n = true
        · rw [if_pos (c1.mpr (Or.inr (Or.inr d3))), F1 d2, F2, bt1_f d2, bt1_1.mpr d3, Nat.add_zero, ← Nat.add_mul, show 10 - p + p = 10 by omega, Nat.pow_succ]
          ac_rfl
        · have d0 : ¬ D.testBit n = true := fun q => by
            rcases c1.mp q with z | z | z
            · exact d1 z
            · exact d2 z
            · exact d3 z
          rw [if_neg d0, F1 d2, bt1_f d2, bt1_f d3, Nat.add_zero, Nat.add_zero]
theorem sS_one {p : Nat} (hp : p ≤ 10) (D n : Nat) : sS p D n (fun _ => 1) = 10 ^ cnn D n := by
  have := sS_split hp n D 0 0 D (fun _ => 1) (fun i _ => by simp) (fun i _ => by simp) (fun _ _ _ => rfl) (fun _ => True) (fun _ => inferInstance) (fun x _ => by simp)
  have e0 : ∀ n, sS p 0 n (fun _ => 1) = 1 := by
    intro n
    induction n with
    | zero => rfl
    | succ n ih =>
      unfold sS
      rw [if_neg (by simp), ih]
  have e1 : ∀ n, cnn 0 n = 0 := by
    intro n
    induction n with
    | zero => rfl
    | succ n ih => rw [cnn_s, ih, bt1_f (by simp)]
  rw [e0, e1] at this
  simpa using this
/-- as a sum over masks -/
def wt (p D x : Nat) : Nat → Nat
  | 0 => 1
  | n + 1 => wt p D x n * (if D.testBit n = true then (if x.testBit n = true then p else 10 - p) else 1)
theorem wt_congr {p D : Nat} : ∀ {n x y : Nat}, (∀ i, i < n → x.testBit i = y.testBit i) → wt p D x n = wt p D y n
  | 0, _, _, _ => rfl
  | n + 1, x, y, h => by
    unfold wt
    rw [wt_congr (n := n) (fun i hi => h i (by omega)), h n (by omega)]
theorem smN_add (g : Nat → Nat) (m : Nat) : ∀ n, smN g (m + n) = smN g m + smN (fun x => g (m + x)) n
  | 0 => rfl
  | n + 1 => by
    show smN g (m + n) + g (m + n) = smN g m + (smN (fun x => g (m + x)) n + g (m + n))
    rw [smN_add g m n]
    omega
theorem smN_mul (c : Nat) (g : Nat → Nat) : ∀ n, smN (fun x => c * g x) n = c * smN g n
  | 0 => rfl
  | n + 1 => by
    show smN (fun x => c * g x) n + c * g n = c * (smN g n + g n)
    rw [smN_mul c g n, Nat.mul_add]
theorem smN_zero : ∀ n, smN (fun _ => 0) n = 0
  | 0 => rfl
  | n + 1 => by
    show smN (fun _ => 0) n + 0 = 0
    rw [smN_zero n]
theorem sS_mask (p D : Nat) : ∀ (n : Nat) (g : Nat → Nat), smN (fun x => if andn x D = 0 then wt p D x n * g x else 0) (2 ^ n) = sS p D n g
  | 0, g => by
    show 0 + (if andn 0 D = 0 then 1 * g 0 else 0) = g 0
    have : andn 0 D = 0 := by
      apply Nat.eq_of_testBit_eq
      intro i
      rw [andn_test]
      simp
    rw [if_pos this]
    omega
  | n + 1, g => by
    have tb : ∀ x i, (x ||| 2 ^ n).testBit i = (x.testBit i || decide (n = i)) := fun x i => by rw [Nat.testBit_or, p2_test]
    have e2 : (2 : Nat) ^ (n + 1) = 2 ^ n + 2 ^ n := by rw [Nat.pow_succ]; omega
    have eo : ∀ x, x < 2 ^ n → 2 ^ n + x = x ||| 2 ^ n := by
      intro x hx
      have := Nat.two_pow_add_eq_or_of_lt hx 1
      rw [Nat.mul_one] at this
      rw [this, Nat.or_comm]
    have xn : ∀ x, x < 2 ^ n → x.testBit n = false := fun x hx => Nat.testBit_lt_two_pow hx
    have sub : ∀ x, x < 2 ^ n → (andn (x ||| 2 ^ n) D = 0 ↔ andn x D = 0 ∧ D.testBit n = true) := by
      intro x hx
      constructor
      · intro h
        have hb : ∀ i, (andn (x ||| 2 ^ n) D).testBit i = false := fun i => by rw [h, Nat.zero_testBit]
        refine ⟨?_, ?_⟩
        · apply Nat.eq_of_testBit_eq
          intro i
          have := hb i
          rw [andn_test, tb] at this
          rw [andn_test, Nat.zero_testBit]
          cases q1 : x.testBit i
          · rfl
          · rw [q1] at this
            simpa using this
        · have := hb n
          rw [andn_test, tb] at this
          simpa using this
      · rintro ⟨h1, h2⟩
        have hb : ∀ i, (andn x D).testBit i = false := fun i => by rw [h1, Nat.zero_testBit]
        apply Nat.eq_of_testBit_eq
        intro i
        have := hb i
        rw [andn_test] at this
        rw [andn_test, tb, Nat.zero_testBit]
        by_cases e : n = i
        · subst e
          rw [h2]
          simp
        · rw [decide_eq_false e, Bool.or_false]
          exact this
    have wl : ∀ x, x < 2 ^ n → wt p D x (n + 1) = (if D.testBit n = true then 10 - p else 1) * wt p D x n := by
      intro x hx
      show wt p D x n * _ = _
      rw [xn x hx, if_neg (by decide : ¬ (false = true)), Nat.mul_comm]
    have wh : ∀ x, x < 2 ^ n → D.testBit n = true → wt p D (x ||| 2 ^ n) (n + 1) = p * wt p D x n := by
      intro x hx hd
      show wt p D (x ||| 2 ^ n) n * _ = _
      have e : wt p D (x ||| 2 ^ n) n = wt p D x n := wt_congr (fun i hi => by rw [tb, decide_eq_false (by omega), Bool.or_false])
      rw [e, if_pos hd, if_pos (by rw [tb]; simp), Nat.mul_comm]
    rw [e2, smN_add]
    have A1 : smN (fun x => if andn x D = 0 then wt p D x (n + 1) * g x else 0) (2 ^ n) = (if D.testBit n = true then 10 - p else 1) * sS p D n g := by
      rw [← sS_mask p D n g, ← smN_mul]
      refine smN_congr (fun x hx => ?_)
      by_cases c : andn x D = 0
      · rw [if_pos c, if_pos c, wl x hx, Nat.mul_assoc]
      · rw [if_neg c, if_neg c, Nat.mul_zero]
    have A2 : smN (fun x => if andn (2 ^ n + x) D = 0 then wt p D (2 ^ n + x) (n + 1) * g (2 ^ n + x) else 0) (2 ^ n) = (if D.testBit n = true then p * sS p D n (fun x => g (x ||| 2 ^ n)) else 0) := by
      by_cases d : D.testBit n = true
      · rw [if_pos d, ← sS_mask p D n (fun x => g (x ||| 2 ^ n)), ← smN_mul]
        refine smN_congr (fun x hx => ?_)
        rw [eo x hx]
        by_cases c : andn x D = 0
        · rw [if_pos ((sub x hx).mpr ⟨c, d⟩), if_pos c, wh x hx d, Nat.mul_assoc]
        · rw [if_neg (fun q => c ((sub x hx).mp q).1), if_neg c, Nat.mul_zero]
      · rw [if_neg d]
        refine Eq.trans (smN_congr (g' := fun _ => 0) (fun x hx => ?_)) (smN_zero (2 ^ n))
        rw [eo x hx, if_neg (fun q => d ((sub x hx).mp q).2)]
    rw [A1, A2]
    show _ = (if D.testBit n = true then (10 - p) * sS p D n g + p * sS p D n (fun x => g (x ||| 2 ^ n)) else sS p D n g)
    by_cases d : D.testBit n = true
    · rw [if_pos d, if_pos d, if_pos d]
    · rw [if_neg d, if_neg d, if_neg d]
      omega
