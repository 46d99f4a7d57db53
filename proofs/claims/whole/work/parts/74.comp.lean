/-! ===== PURE: what hangs together with a field ===== -/
def clo (A : aP) (y S : Nat) : Prop := ∀ i, i < a_np A → y.testBit i = true → S.testBit (a_pa A i) = S.testBit (a_pb A i)
noncomputable def cmp (A : aP) (y a : Nat) : Nat := orN (fun v => @ite Nat (∀ S, S < 256 → S.testBit a = true → clo A y S → S.testBit v = true) (Classical.propDecidable _) (2 ^ v) 0) 8
theorem cmp_test (A : aP) (y a v : Nat) : (cmp A y a).testBit v = true ↔ v < 8 ∧ ∀ S, S < 256 → S.testBit a = true → clo A y S → S.testBit v = true := by
  unfold cmp
  rw [orN_test]
  constructor
  · rintro ⟨j, hj, h⟩
    by_cases c : ∀ S, S < 256 → S.testBit a = true → clo A y S → S.testBit j = true
    · rw [if_pos c, p2_test, decide_eq_true_eq] at h
      subst h
      exact ⟨hj, c⟩
    · rw [if_neg c, Nat.zero_testBit] at h
      exact absurd h (by decide)
  · rintro ⟨h1, h2⟩
    refine ⟨v, h1, ?_⟩
    rw [if_pos h2, p2_test, decide_eq_true_eq]
theorem cmp_lt (A : aP) (y a : Nat) : cmp A y a < 256 := by
  have := orN_lt (g := fun v => @ite Nat (∀ S, S < 256 → S.testBit a = true → clo A y S → S.testBit v = true) (Classical.propDecidable _) (2 ^ v) 0) (m := 8) (n := 8) (fun i hi => by
    by_cases c : ∀ S, S < 256 → S.testBit a = true → clo A y S → S.testBit i = true
    · rw [if_pos c]
      exact p2_lt hi
    · rw [if_neg c]
      exact Nat.two_pow_pos 8)
  exact this
theorem cmp_a (A : aP) (y : Nat) {a : Nat} (ha : a < 8) : (cmp A y a).testBit a = true := (cmp_test A y a a).mpr ⟨ha, fun S _ h _ => h⟩
theorem cmp_clo {A : aP} (hW : WF A) (y a : Nat) : clo A y (cmp A y a) := by
  intro i hi hy
  have hp := hW.2.1 i hi
  rw [Bool.eq_iff_iff, cmp_test, cmp_test]
  constructor
  · rintro ⟨_, h⟩
    refine ⟨hp.2.1, fun S s1 s2 s3 => ?_⟩
    rw [← s3 i hi hy]
    exact h S s1 s2 s3
  · rintro ⟨_, h⟩
    refine ⟨hp.1, fun S s1 s2 s3 => ?_⟩
    rw [s3 i hi hy]
    exact h S s1 s2 s3
theorem cmp_sub {A : aP} {y a S v : Nat} (hS : S < 256) (ha : S.testBit a = true) (hc : clo A y S) (h : (cmp A y a).testBit v = true) : S.testBit v = true := ((cmp_test A y a v).mp h).2 S hS ha hc
theorem sub_ext {S T : Nat} (h1 : ∀ v, S.testBit v = true → T.testBit v = true) (h2 : ∀ v, T.testBit v = true → S.testBit v = true) : S = T := by
  apply Nat.eq_of_testBit_eq
  intro v
  rw [Bool.eq_iff_iff]
  exact ⟨h1 v, h2 v⟩
/-- the open paths within a set of fields; those that part one from the rest -/
def eW (A : aP) (S : Nat) : Nat := orN (fun i => if (opn A).testBit i = true ∧ S.testBit (a_pa A i) = true ∧ S.testBit (a_pb A i) = true then 2 ^ i else 0) (a_np A)
theorem eW_test (A : aP) (S i : Nat) : (eW A S).testBit i = true ↔ i < a_np A ∧ (opn A).testBit i = true ∧ S.testBit (a_pa A i) = true ∧ S.testBit (a_pb A i) = true := by
  unfold eW
  rw [orN_test]
  constructor
  · rintro ⟨j, hj, h⟩
    by_cases c : (opn A).testBit j = true ∧ S.testBit (a_pa A j) = true ∧ S.testBit (a_pb A j) = true
    · rw [if_pos c, p2_test, decide_eq_true_eq] at h
      subst h
      exact ⟨hj, c⟩
    · rw [if_neg c, Nat.zero_testBit] at h
      exact absurd h (by decide)
  · rintro ⟨h1, h2⟩
    refine ⟨i, h1, ?_⟩
    rw [if_pos h2, p2_test, decide_eq_true_eq]
theorem eW_all {A : aP} (hW : WF A) : eW A 255 = opn A := by
  have h255 : ∀ v, v < 8 → (255 : Nat).testBit v = true := by decide
  refine sub_ext (fun i h => ((eW_test A 255 i).mp h).2.1) (fun i h => ?_)
  have hi : i < a_np A := by
    refine Classical.byContradiction (fun q => ?_)
    have := opn_lt A
    have hp := p2_le (show a_np A ≤ i by omega)
    rw [Nat.testBit_lt_two_pow (show opn A < 2 ^ i by omega)] at h
    exact absurd h (by decide)
  have hp := hW.2.1 i hi
  exact (eW_test A 255 i).mpr ⟨hi, h, h255 _ hp.1, h255 _ hp.2.1⟩
def cuM (A : aP) (S T : Nat) : Nat := andn (andn (eW A S) (eW A T)) (eW A (andn S T))
theorem andn_t (a b i : Nat) : (andn a b).testBit i = true ↔ a.testBit i = true ∧ ¬ b.testBit i = true := by
  rw [andn_test]
  cases a.testBit i <;> cases b.testBit i <;> simp
theorem cuM_test (A : aP) (S T i : Nat) : (cuM A S T).testBit i = true ↔ (eW A S).testBit i = true ∧ ¬ (eW A T).testBit i = true ∧ ¬ (eW A (andn S T)).testBit i = true := by
  unfold cuM
  rw [andn_t, andn_t]
  constructor
  · rintro ⟨⟨h1, h2⟩, h3⟩
    exact ⟨h1, h2, h3⟩
  · rintro ⟨h1, h2, h3⟩
    exact ⟨⟨h1, h2⟩, h3⟩
theorem clo_T {A : aP} {S T x : Nat} (hcut : ∀ i, i < a_np A → (cuM A S T).testBit i = true → x.testBit i = true) : clo A (andn (eW A S) x) T := by
  intro i hi hy
  rw [andn_t] at hy
  have hn : ¬ (cuM A S T).testBit i = true := fun q => hy.2 (hcut i hi q)
  rw [cuM_test] at hn
  have hS := (eW_test A S i).mp hy.1
  rw [Bool.eq_iff_iff]
  constructor
  · intro h
    refine Classical.byContradiction (fun q => hn ⟨hy.1, fun z => q ((eW_test A T i).mp z).2.2.2, fun z => ?_⟩)
    have := ((eW_test A _ i).mp z).2.2.1
    rw [andn_t] at this
    exact this.2 h
  · intro h
    refine Classical.byContradiction (fun q => hn ⟨hy.1, fun z => q ((eW_test A T i).mp z).2.2.1, fun z => ?_⟩)
    have := ((eW_test A _ i).mp z).2.2.2
    rw [andn_t] at this
    exact this.2 h
theorem clo_mono {A : aP} {y y' S : Nat} (h : ∀ i, y'.testBit i = true → y.testBit i = true) (hc : clo A y S) : clo A y' S := fun i hi hy => hc i hi (h i hy)
theorem eW_mono {A : aP} {S T : Nat} (hTS : ∀ v, T.testBit v = true → S.testBit v = true) (i : Nat) (h : (eW A T).testBit i = true) : (eW A S).testBit i = true := by
  have := (eW_test A T i).mp h
  exact (eW_test A S i).mpr ⟨this.1, this.2.1, hTS _ this.2.2.1, hTS _ this.2.2.2⟩
theorem clo_in {A : aP} (S x : Nat) : clo A (andn (eW A S) x) S := by
  intro i hi hy
  have := (eW_test A S i).mp ((andn_t _ _ _).mp hy).1
  rw [this.2.2.1, this.2.2.2]
theorem cmp_part {A : aP} {S T x a : Nat} (hW : WF A) (ha : a < 8) (hT : T < 256) (hTa : T.testBit a = true) (hTS : ∀ v, T.testBit v = true → S.testBit v = true) : cmp A (andn (eW A S) x) a = T ↔ cmp A (andn (eW A T) x) a = T ∧ ∀ i, i < a_np A → (cuM A S T).testBit i = true → x.testBit i = true := by
  have sub : ∀ i, (andn (eW A T) x).testBit i = true → (andn (eW A S) x).testBit i = true := by
    intro i h
    rw [andn_t] at h ⊢
    exact ⟨eW_mono hTS i h.1, h.2⟩
  constructor
  · intro h
    have hcl := cmp_clo hW (andn (eW A S) x) a
    rw [h] at hcl
    refine ⟨sub_ext (fun v hv => cmp_sub hT hTa (clo_in T x) hv) (fun v hv => ?_), fun i hi hc => ?_⟩
    · rw [← h] at hv
      refine cmp_sub (cmp_lt A _ a) (cmp_a A _ ha) ?_ hv
      intro i hi hy
      have e1 := hcl i hi hy
      by_cases c : T.testBit (a_pa A i) = true
      · have c2 : T.testBit (a_pb A i) = true := by rw [← e1]; exact c
        have hS := (eW_test A S i).mp ((andn_t _ _ _).mp hy).1
        exact cmp_clo hW (andn (eW A T) x) a i hi ((andn_t _ _ _).mpr ⟨(eW_test A T i).mpr ⟨hi, hS.2.1, c, c2⟩, ((andn_t _ _ _).mp hy).2⟩)
      · have c2 : ¬ T.testBit (a_pb A i) = true := by rw [← e1]; exact c
        have n1 : ¬ (cmp A (andn (eW A T) x) a).testBit (a_pa A i) = true := fun q => c (cmp_sub hT hTa (clo_in T x) q)
        have n2 : ¬ (cmp A (andn (eW A T) x) a).testBit (a_pb A i) = true := fun q => c2 (cmp_sub hT hTa (clo_in T x) q)
        rw [Bool.eq_iff_iff]
        exact ⟨fun q => absurd q n1, fun q => absurd q n2⟩
    · refine Classical.byContradiction (fun q => ?_)
      obtain ⟨c1, c2, c3⟩ := (cuM_test A S T i).mp hc
      have hS := (eW_test A S i).mp c1
      have e1 := hcl i hi ((andn_t _ _ _).mpr ⟨c1, q⟩)
      by_cases c : T.testBit (a_pa A i) = true
      · exact c2 ((eW_test A T i).mpr ⟨hi, hS.2.1, c, by rw [← e1]; exact c⟩)
      · exact c3 ((eW_test A _ i).mpr ⟨hi, hS.2.1, (andn_t _ _ _).mpr ⟨hS.2.2.1, c⟩, (andn_t _ _ _).mpr ⟨hS.2.2.2, by rw [← e1]; exact c⟩⟩)
  · rintro ⟨h1, h2⟩
    refine sub_ext (fun v hv => cmp_sub hT hTa (clo_T h2) hv) (fun v hv => ?_)
    rw [← h1] at hv
    exact cmp_sub (cmp_lt A _ a) (cmp_a A _ ha) (clo_mono sub (cmp_clo hW _ a)) hv
/-- the cases (of ten for each gate) in which just T hangs together with a within S -/
noncomputable def tm (A : aP) (p a S T : Nat) : Nat := sS p (eW A S) (a_np A) (fun x => if cmp A (andn (eW A S) x) a = T then 1 else 0)
def wN (A : aP) (S : Nat) : Nat := cnn (eW A S) (a_np A)
theorem smN_3 {g g1 g2 g3 : Nat → Nat} : ∀ {n : Nat}, (∀ i, i < n → g i = g1 i + g2 i + g3 i) → smN g n = smN g1 n + smN g2 n + smN g3 n
  | 0, _ => rfl
  | n + 1, h => by
    show smN g n + g n = (smN g1 n + g1 n) + (smN g2 n + g2 n) + (smN g3 n + g3 n)
    rw [smN_3 (fun i hi => h i (by omega)), h n (by omega)]
    omega
theorem parts3 {A : aP} {S T : Nat} (hTS : ∀ v, T.testBit v = true → S.testBit v = true) : (∀ i, (eW A S).testBit i = true ↔ ((eW A T).testBit i = true ∨ (cuM A S T).testBit i = true ∨ (eW A (andn S T)).testBit i = true)) ∧ (∀ i, ¬ ((eW A T).testBit i = true ∧ (cuM A S T).testBit i = true) ∧ ¬ ((eW A T).testBit i = true ∧ (eW A (andn S T)).testBit i = true) ∧ ¬ ((cuM A S T).testBit i = true ∧ (eW A (andn S T)).testBit i = true)) := by
  refine ⟨fun i => ⟨fun h => ?_, fun h => ?_⟩, fun i => ⟨fun h => ?_, fun h => ?_, fun h => ?_⟩⟩
  · by_cases c1 : (eW A T).testBit i = true
    · exact Or.inl c1
    · by_cases c3 : (eW A (andn S T)).testBit i = true
      · exact Or.inr (Or.inr c3)
      · exact Or.inr (Or.inl ((cuM_test A S T i).mpr ⟨h, c1, c3⟩))
  · rcases h with h | h | h
    · exact eW_mono hTS i h
    · exact ((cuM_test A S T i).mp h).1
    · exact eW_mono (fun v hv => ((andn_t _ _ _).mp hv).1) i h
  · exact ((cuM_test A S T i).mp h.2).2.1 h.1
  · have h1 := ((eW_test A T i).mp h.1).2.2.1
    have h2 := ((eW_test A _ i).mp h.2).2.2.1
    exact ((andn_t _ _ _).mp h2).2 h1
  · exact ((cuM_test A S T i).mp h.1).2.2 h.2
theorem wN_parts {A : aP} {S T : Nat} (hTS : ∀ v, T.testBit v = true → S.testBit v = true) : wN A S = wN A T + cnn (cuM A S T) (a_np A) + wN A (andn S T) := by
  obtain ⟨h1, h2⟩ := parts3 (A := A) hTS
  refine smN_3 (fun i _ => ?_)
  have e1 := h1 i
  have e2 := h2 i
  rw [← bt1_1, ← bt1_1, ← bt1_1, ← bt1_1] at e1
  rw [← bt1_1, ← bt1_1, ← bt1_1] at e2
  have l0 := bt1_le (eW A S) i
  have l1 := bt1_le (eW A T) i
  have l2 := bt1_le (cuM A S T) i
  have l3 := bt1_le (eW A (andn S T)) i
  omega
theorem tm_part {A : aP} {p S T a : Nat} (hp : p ≤ 10) (hW : WF A) (ha : a < 8) (hT : T < 256) (hTa : T.testBit a = true) (hTS : ∀ v, T.testBit v = true → S.testBit v = true) : tm A p a S T = tm A p a T T * p ^ (wN A S - wN A T - wN A (andn S T)) * 10 ^ wN A (andn S T) := by
  obtain ⟨h1, h2⟩ := parts3 (A := A) hTS
  have hw := wN_parts (A := A) hTS
  have e : wN A S - wN A T - wN A (andn S T) = cnn (cuM A S T) (a_np A) := by omega
  rw [e]
  unfold tm
  have := sS_split hp (a_np A) (eW A S) (eW A T) (cuM A S T) (eW A (andn S T)) (fun x => if cmp A (andn (eW A T) x) a = T then 1 else 0) (fun i _ => h1 i) (fun i _ => h2 i) (fun x y hxy => by
    have : andn (eW A T) x = andn (eW A T) y := by
      apply Nat.eq_of_testBit_eq
      intro i
      rw [andn_test, andn_test]
      cases c : (eW A T).testBit i
      · rfl
      · rw [hxy i c]
    show (if cmp A (andn (eW A T) x) a = T then 1 else 0) = (if cmp A (andn (eW A T) y) a = T then 1 else 0)
    rw [this]) (fun x => ∀ i, i < a_np A → (cuM A S T).testBit i = true → x.testBit i = true) (fun x => Classical.propDecidable _) (fun x _ => Iff.rfl)
  show _ = _ * p ^ cnn (cuM A S T) (a_np A) * 10 ^ cnn (eW A (andn S T)) (a_np A)
  rw [← this]
  refine sS_congr (fun x _ => ?_)
  have k := cmp_part (x := x) hW ha hT hTa hTS
  by_cases c : cmp A (andn (eW A S) x) a = T
  · rw [if_pos c, if_pos (k.mp c).2, if_pos (k.mp c).1]
  · rw [if_neg c]
    by_cases c2 : ∀ i, i < a_np A → (cuM A S T).testBit i = true → x.testBit i = true
    · rw [if_pos c2, if_neg (fun q => c (k.mpr ⟨q, c2⟩))]
    · rw [if_neg c2]
theorem smN_dl (c : Nat) (f : Nat → Nat) : ∀ n, smN (fun T => if c = T then f T else 0) n = if c < n then f c else 0
  | 0 => rfl
  | n + 1 => by
    show smN (fun T => if c = T then f T else 0) n + (if c = n then f n else 0) = _
    rw [smN_dl c f n]
    by_cases h : c = n
    · subst h
      rw [if_neg (by omega), if_pos rfl, if_pos (by omega)]
      omega
    · rw [if_neg h]
      by_cases h2 : c < n
      · rw [if_pos h2, if_pos (by omega), Nat.add_zero]
      · rw [if_neg h2, if_neg (by omega)]
theorem tm_sum {A : aP} {p : Nat} (hp : p ≤ 10) (a S : Nat) : smN (tm A p a S) 256 = 10 ^ wN A S := by
  have := sS_sum p (eW A S) (a_np A) (fun T x => if cmp A (andn (eW A S) x) a = T then 1 else 0) 256
  show smN (fun T => tm A p a S T) 256 = _
  unfold tm wN
  rw [this, ← sS_one hp]
  refine sS_congr (fun x _ => ?_)
  show smN (fun T => if cmp A (andn (eW A S) x) a = T then (fun _ => 1) T else 0) 256 = 1
  rw [smN_dl, if_pos (cmp_lt A _ a)]
theorem tm_zero {A : aP} {p a S T : Nat} (ha : a < 8) (hS : S < 256) (hSa : S.testBit a = true) (h : ¬ (T.testBit a = true ∧ ∀ v, T.testBit v = true → S.testBit v = true)) : tm A p a S T = 0 := by
  unfold tm
  refine Eq.trans (sS_congr (g' := fun _ => 0) (fun x _ => if_neg (fun q => h ?_))) (sS_zero p (eW A S) (a_np A))
  rw [← q]
  exact ⟨cmp_a A _ ha, fun v hv => cmp_sub hS hSa (clo_in S x) hv⟩
theorem tm_some {A : aP} {p a : Nat} (hW : WF A) : smN (fun T => if T.testBit (a_ch A) = true then tm A p a 255 T else 0) 256 = sS p (opn A) (a_np A) (fun x => if (cmp A (andn (opn A) x) a).testBit (a_ch A) = true then 1 else 0) := by
  have := sS_sum p (opn A) (a_np A) (fun T x => if cmp A (andn (opn A) x) a = T then (if T.testBit (a_ch A) = true then 1 else 0) else 0) 256
  have e : (fun x => smN (fun T => if cmp A (andn (opn A) x) a = T then (if T.testBit (a_ch A) = true then 1 else 0) else 0) 256) = (fun x => if (cmp A (andn (opn A) x) a).testBit (a_ch A) = true then 1 else 0) := by
    funext x
    show smN (fun T => if cmp A (andn (opn A) x) a = T then (fun T => if T.testBit (a_ch A) = true then 1 else 0) T else 0) 256 = _
    rw [smN_dl, if_pos (cmp_lt A _ a)]
  rw [e] at this
  rw [← this]
  refine smN_congr (fun T _ => ?_)
  unfold tm
  rw [eW_all hW]
  by_cases c : T.testBit (a_ch A) = true
  · rw [if_pos c]
    refine sS_congr (fun x _ => ?_)
    rw [if_pos c]
  · rw [if_neg c]
    refine Eq.symm (Eq.trans (sS_congr (g' := fun _ => 0) (fun x _ => ?_)) (sS_zero p (opn A) (a_np A)))
    rw [if_neg c, ite_self]
/-- a coffin comes through if the church hangs together with the field -/
theorem clo_inf {A : aP} {y S : Nat} (hW : WF A) (hc : clo A y S) (hch : ¬ S.testBit (a_ch A) = true) : ∀ n v, v < 8 → S.testBit v = true → dst A y v ≤ n → dst A y v = INF := by
  intro n
  induction n with
  | zero =>
    intro v hv hs hn
    refine Classical.byContradiction (fun q => ?_)
    have hinf := dst_inf A y v
    have hvc : v ≠ a_ch A := by
      rintro rfl
      exact hch hs
    obtain ⟨i, u, hu, he, hd⟩ := dst_prd y hW hv hvc (by omega)
    have hl := (hW.2.1 i he.1).2.2.2.1
    omega
  | succ n ih =>
    intro v hv hs hn
    refine Classical.byContradiction (fun q => ?_)
    have hinf := dst_inf A y v
    have hvc : v ≠ a_ch A := by
      rintro rfl
      exact hch hs
    obtain ⟨i, u, hu, he, hd⟩ := dst_prd y hW hv hvc (by omega)
    have hl := (hW.2.1 i he.1).2.2.2.1
    have e1 := hc i he.1 (bt1_1.mp he.2.1)
    have hus : S.testBit u = true := by
      rcases he.2.2 with ⟨q1, q2⟩ | ⟨q1, q2⟩
      · rw [q1, q2] at e1
        rw [← e1]
        exact hs
      · rw [q1, q2] at e1
        rw [e1]
        exact hs
    have h1 := ih u hu hus (by omega)
    omega
theorem cmp_dst {A : aP} {y a : Nat} (hW : WF A) (ha : a < 8) : (cmp A y a).testBit (a_ch A) = true ↔ ¬ dst A y a = INF := by
  have hI := INF_v
  constructor
  · intro h q
    have ht : ∀ v, (orN (fun v => if dst A y v = INF then 2 ^ v else 0) 8).testBit v = true ↔ v < 8 ∧ dst A y v = INF := by
      intro v
      rw [orN_test]
      constructor
      · rintro ⟨j, hj, q⟩
        by_cases c : dst A y j = INF
        · rw [if_pos c, p2_test, decide_eq_true_eq] at q
          subst q
          exact ⟨hj, c⟩
        · rw [if_neg c] at q
          simp at q
      · rintro ⟨q1, q2⟩
        refine ⟨v, q1, ?_⟩
        rw [if_pos q2, p2_test]
        simp
    have hlt : orN (fun v => if dst A y v = INF then 2 ^ v else 0) 8 < 256 := by
      have := orN_lt (g := fun v => if dst A y v = INF then 2 ^ v else 0) (m := 8) (n := 8) (fun i hi => by
        by_cases c : dst A y i = INF
        · rw [if_pos c]
          exact p2_lt hi
        · rw [if_neg c]
          omega)
      simpa using this
    have := cmp_sub hlt ((ht a).mpr ⟨ha, q⟩) (fun i hi hy => by
      have hp := hW.2.1 i hi
      have hop : bt1 y i = 1 := bt1_1.mpr hy
      have e1 : edg A y i (a_pa A i) (a_pb A i) := ⟨hi, hop, Or.inl ⟨rfl, rfl⟩⟩
      have e2 : edg A y i (a_pb A i) (a_pa A i) := ⟨hi, hop, Or.inr ⟨rfl, rfl⟩⟩
      have i1 := dst_inf A y (a_pa A i)
      have i2 := dst_inf A y (a_pb A i)
      rw [Bool.eq_iff_iff, ht, ht]
      constructor
      · rintro ⟨z1, z⟩
        refine ⟨hp.2.1, Classical.byContradiction (fun z2 => ?_)⟩
        have := dst_step hW e1 hp.1 hp.2.1 (by omega)
        omega
      · rintro ⟨z1, z⟩
        refine ⟨hp.1, Classical.byContradiction (fun z2 => ?_)⟩
        have := dst_step hW e2 hp.2.1 hp.1 (by omega)
        omega) h
    have := ((ht _).mp this).2
    rw [dst_ch] at this
    omega
  · intro h
    refine Classical.byContradiction (fun q => h ?_)
    exact clo_inf hW (cmp_clo hW y a) q _ a ha (cmp_a A y ha) (Nat.le_refl _)
