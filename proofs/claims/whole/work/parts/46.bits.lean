/-! ===== PURE: sets as numbers ===== -/
theorem nI_and (a b : Nat) : nI a &&& nI b = nI (a &&& b) := by
  apply Int32.toBitVec_inj.1
  show BitVec.ofNat 32 a &&& BitVec.ofNat 32 b = BitVec.ofNat 32 (a &&& b)
  apply BitVec.eq_of_getLsbD_eq
  intro i hi
  simp [hi]
theorem nI_or (a b : Nat) : nI a ||| nI b = nI (a ||| b) := by
  apply Int32.toBitVec_inj.1
  show BitVec.ofNat 32 a ||| BitVec.ofNat 32 b = BitVec.ofNat 32 (a ||| b)
  apply BitVec.eq_of_getLsbD_eq
  intro i hi
  simp [hi]
theorem nI_xor (a b : Nat) : nI a ^^^ nI b = nI (a ^^^ b) := by
  apply Int32.toBitVec_inj.1
  show BitVec.ofNat 32 a ^^^ BitVec.ofNat 32 b = BitVec.ofNat 32 (a ^^^ b)
  apply BitVec.eq_of_getLsbD_eq
  intro i hi
  simp [hi]
theorem sh_l : ∀ n, n < 32 → ((nI n &&& 31).toBitVec.smod 32).toNat = n := by decide +kernel
theorem nI_shl {a i : Nat} (hi : i < 32) (h : a * 2 ^ i < 2 ^ 32) : nI a <<< (nI i &&& 31) = nI (a * 2 ^ i) := pk_shlN _ i (sh_l i hi) h
theorem nI_shr {a i : Nat} (hi : i < 32) (h : a < 2 ^ 31) : nI a >>> (nI i &&& 31) = nI (a / 2 ^ i) := pk_shrN h _ i (sh_l i hi)
theorem nI_one_shl {i : Nat} (hi : i < 31) : (1 : Int32) <<< (nI i &&& 31) = nI (2 ^ i) := by
  have h : (2 : Nat) ^ i < 2 ^ 32 := Nat.pow_lt_pow_right (by omega) (by omega)
  have := nI_shl (a := 1) (i := i) (by omega) (by omega)
  rw [Nat.one_mul] at this
  exact this
theorem p2_lt {i n : Nat} (h : i < n) : (2 : Nat) ^ i < 2 ^ n := Nat.pow_lt_pow_right (by omega) h
theorem p2_le {i n : Nat} (h : i ≤ n) : (2 : Nat) ^ i ≤ 2 ^ n := Nat.pow_le_pow_right (by omega) h
/-- bit i of s, as a number -/
def bt1 (s i : Nat) : Nat := s / 2 ^ i % 2
theorem bt1_le (s i : Nat) : bt1 s i ≤ 1 := by unfold bt1; omega
theorem bt1_test (s i : Nat) : s.testBit i = decide (bt1 s i = 1) := by
  rw [Nat.testBit_eq_decide_div_mod_eq]
  rfl
theorem nI_bit {s i : Nat} (hi : i < 32) (h : s < 2 ^ 31) : (nI s >>> (nI i &&& 31)) &&& 1 = nI (bt1 s i) := by
  rw [nI_shr hi h, show (1 : Int32) = nI 1 from rfl, nI_and]
  congr 1
  exact Nat.and_one_is_mod _
/-- a without b -/
def andn (a b : Nat) : Nat := a ^^^ (a &&& b)
theorem andn_test (a b i : Nat) : (andn a b).testBit i = (a.testBit i && !b.testBit i) := by
  unfold andn
  rw [Nat.testBit_xor, Nat.testBit_and]
  cases a.testBit i <;> cases b.testBit i <;> rfl
theorem nI_andn (a b : Nat) : nI a &&& (nI b ^^^ (-1 : Int32)) = nI (andn a b) := by
  apply Int32.toBitVec_inj.1
  show BitVec.ofNat 32 a &&& (BitVec.ofNat 32 b ^^^ (-1 : Int32).toBitVec) = BitVec.ofNat 32 (andn a b)
  have e : (-1 : Int32).toBitVec = BitVec.allOnes 32 := by decide
  rw [e]
  apply BitVec.eq_of_getLsbD_eq
  intro i hi
  simp only [BitVec.getLsbD_and, BitVec.getLsbD_xor, BitVec.getLsbD_ofNat, BitVec.getLsbD_allOnes, hi, decide_true, Bool.true_and, andn_test]
  cases a.testBit i <;> cases b.testBit i <;> rfl
theorem andn_lt {a b n : Nat} (h : a < 2 ^ n) : andn a b < 2 ^ n := Nat.xor_lt_two_pow h (Nat.lt_of_le_of_lt Nat.and_le_left h)
theorem test_ext {a b : Nat} (h : ∀ i, a.testBit i = b.testBit i) : a = b := Nat.eq_of_testBit_eq h
/-- unions and sums over the first n -/
def orN (g : Nat → Nat) : Nat → Nat
  | 0 => 0
  | n + 1 => orN g n ||| g n
def smN (g : Nat → Nat) : Nat → Nat
  | 0 => 0
  | n + 1 => smN g n + g n
theorem orN_lt {g : Nat → Nat} {m : Nat} : ∀ {n : Nat}, (∀ i, i < n → g i < 2 ^ m) → orN g n < 2 ^ m
  | 0, _ => Nat.two_pow_pos m
  | n + 1, h => Nat.or_lt_two_pow (orN_lt (fun i hi => h i (by omega))) (h n (by omega))
theorem orN_test {g : Nat → Nat} (k : Nat) : ∀ (n : Nat), ((orN g n).testBit k = true ↔ ∃ i, i < n ∧ (g i).testBit k = true)
  | 0 => by simp [orN]
  | n + 1 => by
    rw [orN, Nat.testBit_or, Bool.or_eq_true, orN_test k n]
    constructor
    · rintro (⟨i, h1, h2⟩ | h)
      · exact ⟨i, by omega, h2⟩
      · exact ⟨n, by omega, h⟩
    · rintro ⟨i, h1, h2⟩
      by_cases e : i = n
      · subst e; exact Or.inr h2
      · exact Or.inl ⟨i, by omega, h2⟩
theorem orN_congr {g g' : Nat → Nat} : ∀ {n : Nat}, (∀ i, i < n → g i = g' i) → orN g n = orN g' n
  | 0, _ => rfl
  | n + 1, h => by rw [orN, orN, orN_congr (fun i hi => h i (by omega)), h n (by omega)]
theorem smN_congr {g g' : Nat → Nat} : ∀ {n : Nat}, (∀ i, i < n → g i = g' i) → smN g n = smN g' n
  | 0, _ => rfl
  | n + 1, h => by rw [smN, smN, smN_congr (fun i hi => h i (by omega)), h n (by omega)]
theorem smN_le {g : Nat → Nat} {b : Nat} : ∀ {n : Nat}, (∀ i, i < n → g i ≤ b) → smN g n ≤ n * b
  | 0, _ => by simp [smN]
  | n + 1, h => by
    have h1 := smN_le (n := n) (fun i hi => h i (by omega))
    have h2 := h n (by omega)
    rw [smN, Nat.succ_mul]
    omega
/-- how many -/
def popc (s : Nat) : Nat := smN (bt1 s) 12
theorem popc_le (s : Nat) : popc s ≤ 12 := by
  have := smN_le (g := bt1 s) (b := 1) (n := 12) (fun i _ => bt1_le s i)
  unfold popc
  omega
theorem bits_spec {s : Nat} (h : s < 2 ^ 31) (σ : jMem) : f_X12_bits (nI s) σ = some (nI (popc s), σ) := by
  unfold f_X12_bits
  have hl : X12_bits_L4 (nI s) jFU ((0 : Int32), (0 : Int32)) σ = some (nI (popc s), σ) := by
    refine jloop_run (body := fun rec s9 σ => X12_bits_L4_b (nI s) rec s9.1 s9.2 σ) (fun i => (nI (smN (bt1 s) i), nI i)) (fun _ => σ) 12 (nI (popc s), σ) ?_ ?_ jFU (by unfold jFU; omega)
    · intro i hi rec
      show X12_bits_L4_b _ _ _ _ _ = _
      unfold X12_bits_L4_b
      rw [if_neg (by simp (disch := omega) only [nlit, nI_leI]; omega), nI_bit (by omega) h, jlet_eq, nI_add, nI_1]
      rfl
    · intro rec
      show X12_bits_L4_b _ _ _ _ _ = _
      unfold X12_bits_L4_b
      rw [if_pos (show (12 : Int32) ≤ nI 12 by decide)]
      rfl
  rw [hl]
  rfl
def bcV (x : Int32) : Int32 :=
  let v1 := x - ((((x).toUInt32 >>> (((1 : Int32)).toUInt32 &&& Int32.toUInt32 31)).toInt32) &&& (1431655765 : Int32))
  let v2 := (v1 &&& (858993459 : Int32)) + ((((v1).toUInt32 >>> (((2 : Int32)).toUInt32 &&& Int32.toUInt32 31)).toInt32) &&& (858993459 : Int32))
  let v3 := (v2 + (((v2).toUInt32 >>> (((4 : Int32)).toUInt32 &&& Int32.toUInt32 31)).toInt32)) &&& (252645135 : Int32)
  let v4 := v3 + (((v3).toUInt32 >>> (((8 : Int32)).toUInt32 &&& Int32.toUInt32 31)).toInt32)
  let v5 := v4 + (((v4).toUInt32 >>> (((16 : Int32)).toUInt32 &&& Int32.toUInt32 31)).toInt32)
  v5 &&& (63 : Int32)
set_option maxRecDepth 100000 in
theorem bcV_ok : ∀ s, s < 4096 → bcV (nI s) = nI (popc s) := by decide +kernel
theorem bc_spec {s : Nat} (h : s < 4096) (σ : jMem) : f_J6_bitCount_0f7a4 (nI s) σ = some (nI (popc s), σ) := by
  rw [← bcV_ok s h]
  rfl
theorem bitOf_spec {s i : Nat} (hi : i < 32) (h : s < 2 ^ 31) (σ : jMem) : f_X11_bitOf (nI s) (nI i) σ = some (nI (bt1 s i), σ) := by
  unfold f_X11_bitOf
  rw [nI_bit hi h]
theorem has_bit {s i : Nat} (hi : i < 32) (h : s < 2 ^ 31) (σ : jMem) : f_X12_has (nI s) (nI i) σ = some (nI (bt1 s i), σ) := by
  unfold f_X12_has
  rw [nI_bit hi h]
  have := bt1_le s i
  rcases (show bt1 s i = 0 ∨ bt1 s i = 1 by omega) with e | e
  · rw [e]; rfl
  · rw [e]; rfl
theorem p2m1 (n : Nat) (h : n < 31) : ((1 : Int32) <<< (nI n &&& 31)) - (1 : Int32) = nI (2 ^ n - 1) := by
  rw [nI_one_shl h, show (1 : Int32) = nI 1 from rfl, pk_sub (Nat.two_pow_pos n)]
theorem bt1_full {n i : Nat} (h : i < n) : bt1 (2 ^ n - 1) i = 1 := by
  have h1 : (2 ^ n - 1).testBit i = true := by rw [Nat.testBit_two_pow_sub_one]; simpa using h
  rw [bt1_test] at h1
  simpa using h1
