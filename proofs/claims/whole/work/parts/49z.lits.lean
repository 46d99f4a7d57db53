/-! ===== PURE: comparisons ===== -/
abbrev oN (n : Nat) : Nat := n
theorem nle_ {a b : Nat} (h : b < a) (ha : a < 2 ^ 31) : ¬ nI a ≤ nI b := fun q => absurd ((nI_leI ha (by omega)).mp q) (by omega)
theorem nlt_ {a b : Nat} (h : b ≤ a) (ha : a < 2 ^ 31) : ¬ nI a < nI b := fun q => absurd ((nI_ltI ha (by omega)).mp q) (by omega)
theorem nne_ {a b : Nat} (h : a ≠ b) (ha : a < 2 ^ 31) (hb : b < 2 ^ 31) : ¬ nI a = nI b := fun q => absurd ((nI_eq ha hb).mp q) h
theorem Lle_ {a b : Nat} (h : b < (OfNat.ofNat a : Nat)) (ha : (OfNat.ofNat a : Nat) < 2 ^ 31) : ¬ (OfNat.ofNat a : Int32) ≤ nI b := nle_ h ha
theorem leL_ {a b : Nat} (h : (OfNat.ofNat b : Nat) < a) (ha : a < 2 ^ 31) : ¬ nI a ≤ (OfNat.ofNat b : Int32) := nle_ h ha
theorem Llt_ {a b : Nat} (h : b ≤ (OfNat.ofNat a : Nat)) (ha : (OfNat.ofNat a : Nat) < 2 ^ 31) : ¬ (OfNat.ofNat a : Int32) < nI b := nlt_ h ha
theorem ltL_ {a b : Nat} (h : (OfNat.ofNat b : Nat) ≤ a) (ha : a < 2 ^ 31) : ¬ nI a < (OfNat.ofNat b : Int32) := nlt_ h ha
theorem neL_ {a b : Nat} (h : a ≠ (OfNat.ofNat b : Nat)) (ha : a < 2 ^ 31) (hb : (OfNat.ofNat b : Nat) < 2 ^ 31) : ¬ nI a = (OfNat.ofNat b : Int32) := nne_ h ha hb
theorem eqL_ {a b : Nat} (h : a = (OfNat.ofNat b : Nat)) : nI a = (OfNat.ofNat b : Int32) := by rw [h]; rfl
theorem Lle {a b : Nat} (h : (OfNat.ofNat a : Nat) ≤ b) (hb : b < 2 ^ 31) : (OfNat.ofNat a : Int32) ≤ nI b := nI_le h hb
theorem leL {a b : Nat} (h : a ≤ (OfNat.ofNat b : Nat)) (hb : (OfNat.ofNat b : Nat) < 2 ^ 31) : nI a ≤ (OfNat.ofNat b : Int32) := nI_le h hb
theorem Llt {a b : Nat} (h : (OfNat.ofNat a : Nat) < b) (hb : b < 2 ^ 31) : (OfNat.ofNat a : Int32) < nI b := nI_lt h hb
theorem ltL {a b : Nat} (h : a < (OfNat.ofNat b : Nat)) (hb : (OfNat.ofNat b : Nat) < 2 ^ 31) : nI a < (OfNat.ofNat b : Int32) := nI_lt h hb
theorem jldL_ {α : Type} {σ : jMem} {k n i : Nat} {f : Int32 → Option α} (h : (OfNat.ofNat i : Nat) < n) (hn : n < 2 ^ 31) : jld σ k n (OfNat.ofNat i : Int32) f = f (σ.1 k (OfNat.ofNat i : Nat)) := jld_eq h hn
theorem jstL_ {α : Type} {σ : jMem} {k n i : Nat} {v : Int32} {f : jMem → Option α} (h : (OfNat.ofNat i : Nat) < n) (hn : n < 2 ^ 31) : jst σ k n (OfNat.ofNat i : Int32) v f = f (jset σ k (OfNat.ofNat i : Nat) v) := jst_eq h hn
theorem nI_addL (a b : Nat) : nI a + (OfNat.ofNat b : Int32) = nI (a + (OfNat.ofNat b : Nat)) := nI_add a b
theorem nI_Ladd (a b : Nat) : (OfNat.ofNat a : Int32) + nI b = nI ((OfNat.ofNat a : Nat) + b) := nI_add a b
theorem nI_Lmul (a b : Nat) : (OfNat.ofNat a : Int32) * nI b = nI ((OfNat.ofNat a : Nat) * b) := pk_mul a b
theorem nI_subL {a b : Nat} (h : (OfNat.ofNat b : Nat) ≤ a) : nI a - (OfNat.ofNat b : Int32) = nI (a - (OfNat.ofNat b : Nat)) := pk_sub h
