/-! ===== PURE: how far: the rounds, and that eight are enough ===== -/
def INF : Nat := 1000000
def rlx (D : Nat → Nat) (a b l : Nat) (v : Nat) : Nat := if v = a ∧ D b + l < D a then D b + l else D v
def stp (A : aP) (op : Nat) (D : Nat → Nat) (i : Nat) : Nat → Nat := if bt1 op i = 1 then rlx (rlx D (a_pa A i) (a_pb A i) (a_pl A i)) (a_pb A i) (a_pa A i) (a_pl A i) else D
def rnd (A : aP) (op : Nat) (D : Nat → Nat) : Nat → (Nat → Nat)
  | 0 => D
  | n + 1 => stp A op (rnd A op D n) n
def fD (A : aP) (op : Nat) : Nat → (Nat → Nat)
  | 0 => fun v => if v = a_ch A then 0 else INF
  | k + 1 => rnd A op (fD A op k) (a_np A)
def edg (A : aP) (op i v u : Nat) : Prop := i < a_np A ∧ bt1 op i = 1 ∧ ((a_pa A i = v ∧ a_pb A i = u) ∨ (a_pb A i = v ∧ a_pa A i = u))
theorem rlx_le (D : Nat → Nat) (a b l v : Nat) : rlx D a b l v ≤ D v := by
  unfold rlx
  split
  · rename_i h
    rw [h.1]
    omega
  · omega
theorem rlx_at (D : Nat → Nat) (a b l : Nat) : rlx D a b l a ≤ D b + l := by
  unfold rlx
  by_cases h : D b + l < D a
  · rw [if_pos ⟨rfl, h⟩]
    exact Nat.le_refl _
  · rw [if_neg (fun q => h q.2)]
    omega
theorem stp_le (A : aP) (op : Nat) (D : Nat → Nat) (i v : Nat) : stp A op D i v ≤ D v := by
  unfold stp
  split
  · exact Nat.le_trans (rlx_le _ _ _ _ _) (rlx_le _ _ _ _ _)
  · exact Nat.le_refl _
theorem rnd_le (A : aP) (op : Nat) (D : Nat → Nat) (v n : Nat) : ∀ m, rnd A op D (n + m) v ≤ rnd A op D n v
  | 0 => Nat.le_refl _
  | m + 1 => Nat.le_trans (stp_le A op _ _ _) (rnd_le A op D v n m)
theorem rnd_le0 (A : aP) (op : Nat) (D : Nat → Nat) (v n : Nat) : rnd A op D n v ≤ D v := by
  have := rnd_le A op D v 0 n
  rwa [Nat.zero_add] at this
theorem stp_edge (A : aP) (op : Nat) (D : Nat → Nat) {i v u : Nat} (h : edg A op i v u) : stp A op D i v ≤ D u + a_pl A i := by
  obtain ⟨h1, h2, h3⟩ := h
  unfold stp
  rw [if_pos h2]
  rcases h3 with ⟨rfl, rfl⟩ | ⟨rfl, rfl⟩
  · exact Nat.le_trans (rlx_le _ _ _ _ _) (rlx_at _ _ _ _)
  · refine Nat.le_trans (rlx_at _ _ _ _) ?_
    have := rlx_le D (a_pa A i) (a_pb A i) (a_pl A i) (a_pa A i)
    omega
theorem rnd_edge (A : aP) (op : Nat) (D : Nat → Nat) {i v u : Nat} (h : edg A op i v u) : rnd A op D (a_np A) v ≤ D u + a_pl A i := by
  have h1 : i + 1 ≤ a_np A := h.1
  have h2 := rnd_le A op D v (i + 1) (a_np A - (i + 1))
  rw [show i + 1 + (a_np A - (i + 1)) = a_np A by omega] at h2
  refine Nat.le_trans h2 ?_
  have h3 : rnd A op D (i + 1) v ≤ rnd A op D i u + a_pl A i := stp_edge A op _ h
  have h4 := rnd_le0 A op D u i
  omega
theorem fD_le (A : aP) (op v k : Nat) : ∀ m, fD A op (k + m) v ≤ fD A op k v
  | 0 => Nat.le_refl _
  | m + 1 => Nat.le_trans (rnd_le0 A op _ _ _) (fD_le A op v k m)
theorem fD_inf (A : aP) (op v k : Nat) : fD A op k v ≤ INF := by
  have := fD_le A op v 0 k
  rw [Nat.zero_add] at this
  refine Nat.le_trans this ?_
  show (if v = a_ch A then 0 else INF) ≤ INF
  split
  · exact Nat.zero_le _
  · exact Nat.le_refl _
theorem fD_ch (A : aP) (op k : Nat) : fD A op k (a_ch A) = 0 := by
  have := fD_le A op (a_ch A) 0 k
  rw [Nat.zero_add] at this
  have h0 : fD A op 0 (a_ch A) = 0 := if_pos rfl
  omega
/-- where a length comes from -/
def prd (A : aP) (op : Nat) (D : Nat → Nat) : Prop := ∀ v, v ≠ a_ch A → D v = INF ∨ ∃ i u, edg A op i v u ∧ D u + a_pl A i ≤ D v
theorem rlx_prd {A : aP} {op : Nat} {D : Nat → Nat} {i a b : Nat} (h : prd A op D) (he : edg A op i a b) (hne : a ≠ b) : prd A op (rlx D a b (a_pl A i)) := by
  intro v hv
  by_cases c : v = a ∧ D b + a_pl A i < D a
  · right
    refine ⟨i, b, by rw [c.1]; exact he, ?_⟩
    have e1 : rlx D a b (a_pl A i) v = D b + a_pl A i := if_pos c
    have e2 := rlx_le D a b (a_pl A i) b
    omega
  · have e1 : rlx D a b (a_pl A i) v = D v := if_neg c
    rcases h v hv with q | ⟨j, u, q1, q2⟩
    · left
      omega
    · right
      have := rlx_le D a b (a_pl A i) u
      exact ⟨j, u, q1, by omega⟩
theorem stp_prd {A : aP} {op : Nat} {D : Nat → Nat} {i : Nat} (hW : WF A) (hi : i < a_np A) (h : prd A op D) : prd A op (stp A op D i) := by
  unfold stp
  split
  · rename_i hb
    have hne := (hW.2.1 i hi).2.2.1
    exact rlx_prd (rlx_prd h ⟨hi, hb, Or.inl ⟨rfl, rfl⟩⟩ hne) ⟨hi, hb, Or.inr ⟨rfl, rfl⟩⟩ (Ne.symm hne)
  · exact h
theorem rnd_prd {A : aP} {op : Nat} {D : Nat → Nat} (hW : WF A) (h : prd A op D) : ∀ n, n ≤ a_np A → prd A op (rnd A op D n)
  | 0, _ => h
  | n + 1, hn => stp_prd hW (by omega) (rnd_prd hW h n (by omega))
theorem fD_prd {A : aP} (op : Nat) (hW : WF A) : ∀ k, prd A op (fD A op k)
  | 0 => fun v hv => Or.inl (if_neg hv)
  | k + 1 => rnd_prd hW (fD_prd op hW k) _ (Nat.le_refl _)
/-- it stands still at last -/
theorem stab (f : Nat → Nat) (h : ∀ k m, f (k + m) ≤ f k) : ∃ N, ∀ m, N ≤ m → f m = f N := by
  obtain ⟨x, ⟨N, hN⟩, hl⟩ := pk_least (fun x => ∃ k, f k = x) ⟨f 0, 0, rfl⟩
  refine ⟨N, fun m hm => ?_⟩
  have h1 := h N (m - N)
  rw [show N + (m - N) = m by omega] at h1
  by_cases q : f m = f N
  · exact q
  · exact absurd ⟨m, rfl⟩ (hl (f m) (by omega))
theorem stab_all (A : aP) (op : Nat) : ∀ n, ∃ N, ∀ v, v < n → ∀ m, N ≤ m → fD A op m v = fD A op N v
  | 0 => ⟨0, fun v hv => by omega⟩
  | n + 1 => by
    obtain ⟨N, hN⟩ := stab_all A op n
    obtain ⟨M, hM⟩ := stab (fun k => fD A op k n) (fun k m => fD_le A op n k m)
    refine ⟨N + M, fun v hv m hm => ?_⟩
    by_cases q : v = n
    · subst q
      have e1 := hM m (by omega)
      have e2 := hM (N + M) (by omega)
      rw [e1, e2]
    · rw [hN v (by omega) m (by omega), hN v (by omega) (N + M) (by omega)]
theorem smN_mono {g h : Nat → Nat} : ∀ {n : Nat}, (∀ i, i < n → g i ≤ h i) → smN g n ≤ smN h n
  | 0, _ => Nat.le_refl _
  | n + 1, q => by
    have h1 := smN_mono (n := n) (fun i hi => q i (by omega))
    have h2 := q n (by omega)
    rw [smN, smN]
    omega
theorem smN_lt {g h : Nat → Nat} {j : Nat} : ∀ {n : Nat}, (∀ i, i < n → g i ≤ h i) → j < n → g j < h j → smN g n < smN h n
  | 0, _, hj, _ => by omega
  | n + 1, q, hj, hl => by
    rw [smN, smN]
    by_cases e : j = n
    · subst e
      have h1 := smN_mono (n := j) (fun i hi => q i (by omega))
      omega
    · have h1 := smN_lt (n := n) (fun i hi => q i (by omega)) (by omega) hl
      have h2 := q n (by omega)
      omega
theorem smN_full {g : Nat → Nat} : ∀ {n : Nat}, (∀ i, i < n → g i ≤ 1) → n ≤ smN g n → ∀ i, i < n → g i = 1
  | 0, _, _, i, hi => by omega
  | n + 1, q, hn, i, hi => by
    have h1 := smN_le (n := n) (b := 1) (fun i hi => q i (by omega))
    have h2 := q n (by omega)
    rw [smN] at hn
    by_cases e : i = n
    · subst e
      omega
    · exact smN_full (n := n) (fun i hi => q i (by omega)) (by omega) i (by omega)
theorem fD_done {A : aP} (op : Nat) (hW : WF A) {N : Nat} (hN : ∀ v, v < 8 → ∀ m, N ≤ m → fD A op m v = fD A op N v) : ∀ k, k ≤ 7 → (∀ v, v < 8 → fD A op k v = fD A op N v) ∨ k + 1 ≤ smN (fun v => if fD A op k v = fD A op N v then 1 else 0) 8 := by
  have hlow : ∀ k v, v < 8 → fD A op N v ≤ fD A op k v := by
    intro k v hv
    have h1 := fD_le A op v k N
    rw [hN v hv (k + N) (by omega)] at h1
    exact h1
  have hfix : ∀ i v u, edg A op i v u → v < 8 → fD A op N v ≤ fD A op N u + a_pl A i := by
    intro i v u he hv
    have h1 : fD A op (N + 1) v ≤ fD A op N u + a_pl A i := rnd_edge A op _ he
    rw [hN v hv (N + 1) (by omega)] at h1
    exact h1
  have hch := hW.1.2.1
  intro k
  induction k with
  | zero =>
    intro _
    right
    have : smN (fun _ => 0) 8 < smN (fun v => if fD A op 0 v = fD A op N v then 1 else 0) 8 := by
      refine smN_lt (j := a_ch A) (fun i hi => Nat.zero_le _) hch ?_
      show 0 < if fD A op 0 (a_ch A) = fD A op N (a_ch A) then 1 else 0
      rw [fD_ch, fD_ch, if_pos rfl]
      omega
    omega
  | succ k ih =>
    intro hk
    have keep : ∀ v, v < 8 → fD A op k v = fD A op N v → fD A op (k + 1) v = fD A op N v := by
      intro v hv e
      have h1 := hlow (k + 1) v hv
      have h2 := fD_le A op v k 1
      omega
    rcases ih (by omega) with h | h
    · left
      exact fun v hv => keep v hv (h v hv)
    · by_cases q : ∀ v, v < 8 → fD A op k v = fD A op N v
      · left
        exact fun v hv => keep v hv (q v hv)
      · right
        have q2 : ∃ x, ∃ v, v < 8 ∧ ¬ fD A op k v = fD A op N v ∧ fD A op N v = x := by
          by_cases c : ∃ v, v < 8 ∧ ¬ fD A op k v = fD A op N v
          · obtain ⟨v, c1, c2⟩ := c
            exact ⟨_, v, c1, c2, rfl⟩
          · exact absurd (fun v hv => Classical.byContradiction (fun z => c ⟨v, hv, z⟩)) q
        obtain ⟨x, ⟨v, hv, hne, hx⟩, hl⟩ := pk_least _ q2
        have h1 := hlow k v hv
        have h2 := fD_inf A op v k
        have hvc : v ≠ a_ch A := by
          rintro rfl
          exact hne (by rw [fD_ch, fD_ch])
        rcases fD_prd op hW N v hvc with c | ⟨i, u, c1, c2⟩
        · omega
        · have hp := hW.2.1 i c1.1
          have hu : u < 8 := by
            rcases c1.2.2 with ⟨_, rfl⟩ | ⟨_, rfl⟩
            · exact hp.2.1
            · exact hp.1
          have hul : fD A op k u = fD A op N u := by
            refine Classical.byContradiction (fun z => hl (fD A op N u) ?_ ⟨u, hu, z, rfl⟩)
            omega
          have h3 : fD A op (k + 1) v ≤ fD A op k u + a_pl A i := rnd_edge A op _ c1
          have h4 := hlow (k + 1) v hv
          have h5 : fD A op (k + 1) v = fD A op N v := by omega
          have := smN_lt (g := fun v => if fD A op k v = fD A op N v then 1 else 0) (h := fun v => if fD A op (k + 1) v = fD A op N v then 1 else 0) (j := v) (n := 8) (fun w hw => by
            by_cases z : fD A op k w = fD A op N w
            · rw [if_pos z, if_pos (keep w hw z)]
              omega
            · rw [if_neg z]
              exact Nat.zero_le _) hv (by
            rw [if_neg hne, if_pos h5]
            omega)
          omega
/-- how far the field v lies, by open paths -/
def dst (A : aP) (op v : Nat) : Nat := fD A op 8 v
theorem dst_fix {A : aP} (op : Nat) (hW : WF A) {i v u : Nat} (he : edg A op i v u) (hv : v < 8) (hu : u < 8) : dst A op v ≤ dst A op u + a_pl A i := by
  obtain ⟨N, hN⟩ := stab_all A op 8
  have h7 : ∀ v, v < 8 → fD A op 7 v = fD A op N v := by
    rcases fD_done op hW hN 7 (by omega) with h | h
    · exact h
    · intro v hv
      have := smN_full (n := 8) (g := fun v => if fD A op 7 v = fD A op N v then 1 else 0) (fun i hi => by split <;> omega) (by omega) v hv
      by_cases z : fD A op 7 v = fD A op N v
      · exact z
      · rw [if_neg z] at this
        omega
  have hlow : ∀ k v, v < 8 → fD A op N v ≤ fD A op k v := by
    intro k v hv
    have h1 := fD_le A op v k N
    rw [hN v hv (k + N) (by omega)] at h1
    exact h1
  have h8 : fD A op 8 u = fD A op 7 u := by
    have h1 := hlow 8 u hu
    have h2 : fD A op 8 u ≤ fD A op 7 u := fD_le A op u 7 1
    have h3 := h7 u hu
    omega
  have h1 : fD A op 8 v ≤ fD A op 7 u + a_pl A i := rnd_edge A op _ he
  unfold dst
  omega
theorem dst_ch (A : aP) (op : Nat) : dst A op (a_ch A) = 0 := fD_ch A op 8
theorem dst_inf (A : aP) (op v : Nat) : dst A op v ≤ INF := fD_inf A op v 8
theorem dst_prd {A : aP} (op : Nat) (hW : WF A) {v : Nat} (hv : v < 8) (hc : v ≠ a_ch A) (hf : dst A op v < INF) : ∃ i u, u < 8 ∧ edg A op i v u ∧ dst A op u + a_pl A i = dst A op v := by
  rcases fD_prd op hW 8 v hc with q | ⟨i, u, c1, c2⟩
  · unfold dst at hf
    omega
  · have hp := hW.2.1 i c1.1
    have hu : u < 8 := by
      rcases c1.2.2 with ⟨_, rfl⟩ | ⟨_, rfl⟩
      · exact hp.2.1
      · exact hp.1
    have := dst_fix op hW c1 hv hu
    exact ⟨i, u, hu, c1, Nat.le_antisymm c2 this⟩
/-- the lengths stay small -/
def fnB (B : Nat) (D : Nat → Nat) : Prop := ∀ v, D v = INF ∨ D v ≤ B
theorem rlx_fn {D : Nat → Nat} {B a b l : Nat} (h : fnB B D) (hl : l ≤ 9) (hB : B + 9 < INF) : fnB (B + 9) (rlx D a b l) := by
  intro v
  unfold rlx
  split
  · rename_i c
    right
    rcases h b with q | q
    · rcases h a with q2 | q2 <;> omega
    · omega
  · rcases h v with q | q
    · exact Or.inl q
    · right
      omega
theorem stp_fn {A : aP} {op : Nat} {D : Nat → Nat} {B i : Nat} (hW : WF A) (hi : i < a_np A) (h : fnB B D) (hB : B + 18 < INF) : fnB (B + 18) (stp A op D i) := by
  unfold stp
  have hl := (hW.2.1 i hi).2.2.2.2
  split
  · exact rlx_fn (rlx_fn h hl (by omega)) hl (by omega)
  · intro v
    rcases h v with q | q
    · exact Or.inl q
    · right
      omega
theorem rnd_fn {A : aP} {op : Nat} {D : Nat → Nat} {B : Nat} (hW : WF A) (h : fnB B D) : ∀ n, n ≤ a_np A → B + 18 * n < INF → fnB (B + 18 * n) (rnd A op D n)
  | 0, _, _ => h
  | n + 1, hn, hB => by
    have := stp_fn (op := op) hW (i := n) (by omega) (rnd_fn (op := op) hW h n (by omega) (by omega)) (by omega)
    exact this
theorem fD_fn {A : aP} (op : Nat) (hW : WF A) : ∀ k, k ≤ 8 → fnB (216 * k) (fD A op k)
  | 0, _ => fun v => by
    show (if v = a_ch A then 0 else INF) = INF ∨ (if v = a_ch A then 0 else INF) ≤ 0
    split
    · right
      omega
    · left
      rfl
  | k + 1, hk => by
    have hb := hW.b
    have h1 := rnd_fn (op := op) hW (fD_fn op hW k (by omega)) (a_np A) (Nat.le_refl _) (by unfold INF; omega)
    intro v
    rcases h1 v with q | q
    · exact Or.inl q
    · right
      show rnd A op (fD A op k) (a_np A) v ≤ _
      omega
theorem dst_fn {A : aP} (op : Nat) (hW : WF A) (v : Nat) : dst A op v = INF ∨ dst A op v ≤ 1728 := fD_fn op hW 8 (by omega) v
