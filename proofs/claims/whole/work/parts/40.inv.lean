/-! ===== PURE: what the two sides hold alike ===== -/
theorem jlet_eq {α β : Type} (e : β) (f : β → Option α) : jlet e f = f e := rfl
theorem jj_eq {α β : Type} (rest : β → jMem → Option α) (body : (β → jMem → Option α) → Option α) : jj rest body = body rest := rfl
theorem jbd_eq {α β : Type} (v : β) (σ : jMem) (f : β → jMem → Option α) : jbd (some (v, σ)) f = f v σ := rfl
theorem jbv_eq {α : Type} (σ : jMem) (f : jMem → Option α) : jbv (some σ) f = f σ := rfl
theorem jbl_eq {α β γ : Type} (v : β) (σ : jMem) (f : β → jMem → Option α) (g : γ → Option α) : jbr (some (.inl (v, σ))) f g = f v σ := rfl
theorem jbrr_eq {α β γ : Type} (v : γ) (f : β → jMem → Option α) (g : γ → Option α) : jbr (some (.inr v)) f g = g v := rfl
theorem jck_t {α : Type} {c : Prop} {d : Decidable c} {x : Option α} (h : c) : @jck α c d x = x := if_pos h
theorem jin_nI {i n : Nat} (h : i < n) (hn : n < 2 ^ 31) : jin (nI i) n = true := by
  have := vp_in_nI h hn
  simpa [jin, vp_in] using this
theorem jld_eq {α : Type} {σ : jMem} {k n i : Nat} {f : Int32 → Option α} (h : i < n) (hn : n < 2 ^ 31) : jld σ k n (nI i) f = f (σ.1 k i) := by
  unfold jld
  rw [if_pos (jin_nI h hn), nI_clamp (by omega)]
theorem jldL_eq {α : Type} {σ : jMem} {k n i : Nat} {f : Int64 → Option α} (h : i < n) (hn : n < 2 ^ 31) : jldL σ k n (nI i) f = f (σ.2 k i) := by
  unfold jldL
  rw [if_pos (jin_nI h hn), nI_clamp (by omega)]
theorem jst_eq {α : Type} {σ : jMem} {k n i : Nat} {v : Int32} {f : jMem → Option α} (h : i < n) (hn : n < 2 ^ 31) : jst σ k n (nI i) v f = f (jset σ k i v) := by
  unfold jst
  rw [if_pos (jin_nI h hn), nI_clamp (by omega)]
theorem jstL_eq {α : Type} {σ : jMem} {k n i : Nat} {v : Int64} {f : jMem → Option α} (h : i < n) (hn : n < 2 ^ 31) : jstL σ k n (nI i) v f = f (jsetL σ k i v) := by
  unfold jstL
  rw [if_pos (jin_nI h hn), nI_clamp (by omega)]
theorem jldr_eq {α : Type} {n t d i : Nat} {f : Nat → Option α} (h : i < n) (hn : n < 2 ^ 31) : jldr n t d (nI i) f = f (t + d * i) := by
  unfold jldr
  rw [if_pos (jin_nI h hn), nI_clamp (by omega)]
theorem jcp_eq {α : Type} {σ : jMem} {a na sp b nb dp n : Nat} {f : jMem → Option α} (h1 : sp + n ≤ na) (h2 : dp + n ≤ nb) (h3 : na < 2 ^ 31) (h4 : nb < 2 ^ 31) : jcp σ a na (nI sp) b nb (nI dp) (nI n) f = f (jcpy σ a sp b dp n) := by
  unfold jcp
  rw [if_pos, nI_clamp (by omega), nI_clamp (by omega), nI_clamp (by omega)]
  rw [nI_clamp (by omega), nI_clamp (by omega), nI_clamp (by omega)]
  exact ⟨nI_pos (by omega), nI_pos (by omega), nI_pos (by omega), h1, h2⟩
theorem jset_app (σ : jMem) (k j : Nat) (v : Int32) (a b : Nat) : (jset σ k j v).1 a b = if a = k ∧ b = j then v else σ.1 a b := rfl
theorem jset_app2 (σ : jMem) (k j : Nat) (v : Int32) : (jset σ k j v).2 = σ.2 := rfl
theorem jsetL_app (σ : jMem) (k j : Nat) (v : Int64) : (jsetL σ k j v).1 = σ.1 := rfl
theorem jsetL_app2 (σ : jMem) (k j : Nat) (v : Int64) (a b : Nat) : (jsetL σ k j v).2 a b = if a = k ∧ b = j then v else σ.2 a b := rfl
theorem jcpy_app (σ : jMem) (a sp b dp n x y : Nat) : (jcpy σ a sp b dp n).1 x y = if x = b ∧ dp ≤ y ∧ y < dp + n then σ.1 a (sp + (y - dp)) else σ.1 x y := rfl
theorem jcpy_app2 (σ : jMem) (a sp b dp n : Nat) : (jcpy σ a sp b dp n).2 = σ.2 := rfl
theorem nlit (n : Nat) : (OfNat.ofNat n : Int32) = nI n := rfl
/-- a loop whose states are told -/
theorem jloop_run {α S : Type} {body : (S → jMem → Option α) → S → jMem → Option α} (st : Nat → S) (mm : Nat → jMem) (N : Nat) (r : α) (hstep : ∀ i, i < N → ∀ rec, body rec (st i) (mm i) = rec (st (i + 1)) (mm (i + 1))) (hend : ∀ rec, body rec (st N) (mm N) = some r) : ∀ n, N < n → jloop body n (st 0) (mm 0) = some r := by
  have key : ∀ k, k ≤ N → ∀ n, k < n → jloop body n (st (N - k)) (mm (N - k)) = some r := by
    intro k
    induction k with
    | zero =>
      intro _ n hn
      obtain ⟨n, rfl⟩ : ∃ n', n = n' + 1 := ⟨n - 1, by omega⟩
      exact hend _
    | succ k ih =>
      intro hk n hn
      obtain ⟨n, rfl⟩ : ∃ n', n = n' + 1 := ⟨n - 1, by omega⟩
      show body (jloop body n) (st (N - (k + 1))) (mm (N - (k + 1))) = some r
      rw [hstep _ (by omega)]
      rw [show N - (k + 1) + 1 = N - k by omega]
      exact ih (by omega) n (by omega)
  intro n hn
  have := key N (Nat.le_refl N) n hn
  rwa [Nat.sub_self] at this
/-- the same, in memories that hold a property -/
theorem jloop_inv {α S : Type} {body : (S → jMem → Option α) → S → jMem → Option α} (P : Nat → S → jMem → Prop) (Q : α → Prop) (N : Nat) (hstep : ∀ i s σ, i < N → P i s σ → ∃ s' σ', P (i + 1) s' σ' ∧ ∀ rec, body rec s σ = rec s' σ') (hend : ∀ s σ, P N s σ → ∃ r, Q r ∧ ∀ rec, body rec s σ = some r) : ∀ (s : S) (σ : jMem), P 0 s σ → ∀ n, N < n → ∃ r, Q r ∧ jloop body n s σ = some r := by
  have key : ∀ k, k ≤ N → ∀ s σ, P (N - k) s σ → ∀ n, k < n → ∃ r, Q r ∧ jloop body n s σ = some r := by
    intro k
    induction k with
    | zero =>
      intro _ s σ hP n hn
      obtain ⟨n, rfl⟩ : ∃ n', n = n' + 1 := ⟨n - 1, by omega⟩
      obtain ⟨r, h1, h2⟩ := hend s σ hP
      exact ⟨r, h1, h2 _⟩
    | succ k ih =>
      intro hk s σ hP n hn
      obtain ⟨n, rfl⟩ : ∃ n', n = n' + 1 := ⟨n - 1, by omega⟩
      obtain ⟨s', σ', h1, h2⟩ := hstep _ s σ (by omega) hP
      rw [show N - (k + 1) + 1 = N - k by omega] at h1
      obtain ⟨r, h3, h4⟩ := ih (by omega) s' σ' h1 n (by omega)
      exact ⟨r, h3, (h2 _).trans h4⟩
  intro s σ hP n hn
  exact key N (Nat.le_refl N) s σ (by rwa [Nat.sub_self]) n hn
/-- numbers -/
theorem pI_lt (a b : Int32) : a < b ↔ a.toInt < b.toInt := Int32.lt_iff_toInt_lt
theorem pI_le (a b : Int32) : a ≤ b ↔ a.toInt ≤ b.toInt := Int32.le_iff_toInt_le
theorem pI_eq (a b : Int32) : a = b ↔ a.toInt = b.toInt := Int32.toInt_inj.symm
theorem pI_split (a : Int32) (n : Nat) (hn : n < 2 ^ 31) : (∃ r, r < n ∧ a = nI r) ∨ (a.toInt < 0 ∨ (n : Int) ≤ a.toInt) := by
  rcases pk_ix a hn with h | h | h
  · right; left
    have := (pI_lt a 0).mp h
    exact this
  · right; right
    have := (pI_le (nI n) a).mp h
    rwa [nI_toInt hn] at this
  · left
    exact h
theorem q_tri (a b : Int64) : (a < b ∧ lg_cmp a b = -1) ∨ (a = b ∧ lg_cmp a b = 0) ∨ (b < a ∧ lg_cmp a b = 1) := by
  by_cases h1 : b < a
  · right; right
    exact ⟨h1, by unfold lg_cmp; rw [if_pos h1]⟩
  · by_cases h2 : a = b
    · right; left
      exact ⟨h2, by unfold lg_cmp; rw [if_neg h1, if_pos h2]⟩
    · left
      refine ⟨?_, by unfold lg_cmp; rw [if_neg h1, if_neg h2]⟩
      have h3 : a ≤ b := Int64.not_lt.mp h1
      rw [Int64.lt_iff_toInt_lt]
      rw [Int64.le_iff_toInt_le] at h3
      have h4 : a.toInt ≠ b.toInt := fun q => h2 (Int64.toInt_inj.mp q)
      omega
theorem q_lt0 (a b : Int64) : lg_cmp a b < 0 ↔ a < b := by
  rcases q_tri a b with ⟨h, e⟩ | ⟨h, e⟩ | ⟨h, e⟩
  · rw [e]; exact ⟨fun _ => h, fun _ => by decide⟩
  · rw [e]; exact ⟨fun q => absurd q (by decide), fun q => absurd q (by rw [h]; exact Int64.lt_irrefl)⟩
  · rw [e]; exact ⟨fun q => absurd q (by decide), fun q => absurd q (Int64.lt_asymm h)⟩
theorem q_gt0 (a b : Int64) : 0 < lg_cmp a b ↔ b < a := by
  rcases q_tri a b with ⟨h, e⟩ | ⟨h, e⟩ | ⟨h, e⟩
  · rw [e]; exact ⟨fun q => absurd q (by decide), fun q => absurd q (Int64.lt_asymm h)⟩
  · rw [e]; exact ⟨fun q => absurd q (by decide), fun q => absurd q (by rw [h]; exact Int64.lt_irrefl)⟩
  · rw [e]; exact ⟨fun _ => h, fun _ => by decide⟩
theorem q_le0 (a b : Int64) : lg_cmp a b ≤ 0 ↔ a ≤ b := by
  rcases q_tri a b with ⟨h, e⟩ | ⟨h, e⟩ | ⟨h, e⟩
  · rw [e]; exact ⟨fun _ => Int64.le_of_lt h, fun _ => by decide⟩
  · rw [e, h]; exact ⟨fun _ => Int64.le_refl b, fun _ => by decide⟩
  · rw [e]; exact ⟨fun q => absurd q (by decide), fun q => absurd q (Int64.not_le.mpr h)⟩
theorem q_eq0 (a b : Int64) : lg_cmp a b = 0 ↔ a = b := by
  rcases q_tri a b with ⟨h, e⟩ | ⟨h, e⟩ | ⟨h, e⟩
  · rw [e]; exact ⟨fun q => absurd q (by decide), fun q => absurd h (by rw [q]; exact Int64.lt_irrefl)⟩
  · rw [e]; exact ⟨fun _ => h, fun _ => rfl⟩
  · rw [e]; exact ⟨fun q => absurd q (by decide), fun q => absurd h (by rw [q]; exact Int64.lt_irrefl)⟩
theorem in_spec (a b c : Int64) (σ : jMem) : f_X12_in a b c σ = some (if b ≤ a ∧ a ≤ c then 1 else 0, σ) := by
  unfold f_X12_in
  by_cases h1 : b ≤ a
  · have e1 : ¬ lg_cmp a b < 0 := fun q => absurd ((q_lt0 a b).mp q) (Int64.not_lt.mpr h1)
    rw [if_neg e1]
    by_cases h2 : a ≤ c
    · have e2 : ¬ 0 < lg_cmp a c := fun q => absurd ((q_gt0 a c).mp q) (Int64.not_lt.mpr h2)
      rw [if_neg e2, if_pos ⟨h1, h2⟩]
    · have e2 : 0 < lg_cmp a c := (q_gt0 a c).mpr (Int64.not_le.mp h2)
      rw [if_pos e2, if_neg (fun q => h2 q.2)]
  · have e1 : lg_cmp a b < 0 := (q_lt0 a b).mpr (Int64.not_le.mp h1)
    rw [if_pos e1, if_neg (fun q => h1 q.1)]
theorem in32 (a b c : Int32) (σ : jMem) : f_X12_in a.toInt64 b.toInt64 c.toInt64 σ = some (if b.toInt ≤ a.toInt ∧ a.toInt ≤ c.toInt then 1 else 0, σ) := by
  rw [in_spec]
  congr 2
  simp only [Int64.le_iff_toInt_le, Int32.toInt_toInt64]
