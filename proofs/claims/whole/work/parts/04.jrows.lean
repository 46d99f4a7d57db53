/-! ===== the walk over ONE fixed world: every cell that the system has, by its number; what it holds is a memory (ints, longs) ===== -/
section JDefs
abbrev jMem : Type := (Nat → Nat → Int32) × (Nat → Nat → Int64)
def jset (σ : jMem) (k j : Nat) (v : Int32) : jMem := (fun a b => if a = k ∧ b = j then v else σ.1 a b, σ.2)
def jsetL (σ : jMem) (k j : Nat) (v : Int64) : jMem := (σ.1, fun a b => if a = k ∧ b = j then v else σ.2 a b)
def jcpy (σ : jMem) (a sp b dp n : Nat) : jMem := (fun x y => if x = b ∧ dp ≤ y ∧ y < dp + n then σ.1 a (sp + (y - dp)) else σ.1 x y, σ.2)
/-- the cells: (0, class, fields: none an int, some t the cell t), (1 int[], 2 boolean[], 3 long[], length), (4 Witness[], 5 Parish[], 6 int[][], length, cells) -/
def jP (k : Nat) : Nat × Nat × List (Option Nat) := (0, 5, [some 15, none, none, none, none, none, none, none, some (k + 1), some (k + 2), some (k + 3), some (k + 4), some (k + 5), some (k + 6), some (k + 7)])
def jPs (k : Nat) : List (Nat × Nat × List (Option Nat)) := [jP k, (1, 12, []), (1, 12, []), (1, 12, []), (1, 6, []), (1, 6, []), (1, 6, []), (1, 6, [])]
def jlay : List (Nat × Nat × List (Option Nat)) :=
  [(0, 11, [some 1, some 13, some 15, some 22, some 30, some 54, some 55, none, none, some 80, some 86, some 88, none]),
   (0, 6, [some 2, some 11, some 12]), (6, 8, (List.range 8).map (fun i => some (3 + i)))] ++ List.replicate 8 (1, 40, []) ++ [(1, 8, []), (1, 8, []),
   (0, 9, [some 14, none, none, none, none, none, none, none]), (1, 140, []),
   (4, 6, (List.range 6).map (fun i => some (16 + i))), (0, 10, []), (0, 4, []), (0, 1, []), (0, 3, []), (0, 8, []), (0, 7, [])] ++
  jPs 22 ++ jPs 30 ++ jPs 38 ++ jPs 46 ++ [(5, 2, [some 38, some 46]), (6, 24, (List.range 24).map (fun i => some (56 + i)))] ++ List.replicate 24 (1, 14, []) ++
  [(0, 2, [none, none, none, some 81, some 82, some 83, some 84, some 85]), (1, 8, []), (1, 256, []), (3, 256, []), (3, 13, []), (3, 13, []),
   (0, 0, [none, none, none, none, some 87]), (1, 16, []), (1, 6, []),
   (0, 12, [none, none, some 90, some 91, some 92, some 93, some 94, some 95, some 96, none, some 97, none, none, none, none, none, none, none, none, some 98, none, none, none, some 99, some 100, some 101, none]), (1, 8, []), (1, 8, []), (1, 320, []), (1, 67, []), (1, 67, []), (1, 67, []), (1, 1608, []), (1, 140, []), (1, 8, []), (2, 2, []), (1, 134, []), (1, 16, [])]
def jL (k : Nat) : Nat × Nat × List (Option Nat) := jlay.getD k (9, 0, [])
def jfv (ad : Nat → Nat) (σ : jMem) (k j : Nat) (f : Option Nat) : Value := match f with
  | none => .int (σ.1 k j)
  | some t => .ref (ad t)
def jfs (ad : Nat → Nat) (σ : jMem) (k : Nat) (fs : List (Option Nat)) : List Value := fs.mapIdx (fun j f => jfv ad σ k j f)
def jcell (ad : Nat → Nat) (cid : Nat → ClassId) (σ : jMem) (k : Nat) (q : Nat × Nat × List (Option Nat)) : va_E :=
  if q.1 = 0 then .inr (q.2.1, jfs ad σ k q.2.2)
  else if q.1 = 3 then .inl (cid 3, q.2.1, .inr (.inl (σ.2 k)))
  else if q.1 ≤ 2 then .inl (cid q.1, q.2.1, .inl (σ.1 k))
  else .inl (cid q.1, q.2.1, .inr (.inr (.inr (.inr (fun i => (q.2.2.getD i none).map ad)))))
def jN : Nat := 102
def jwd (ad : Nat → Nat) (cid : Nat → ClassId) (σ : jMem) : va_W := (List.range jN).map (fun k => (ad k, jcell ad cid σ k (jL k)))
def jcv (ad : Nat → Nat) (v : Value) : Value := match v with
  | .ref k => .ref (ad k)
  | w => w
def jtys (cid : Nat → ClassId) : List (ClassId × FieldType) := [(cid 0, .int), (cid 1, .int), (cid 2, .boolean), (cid 3, .long), (cid 4, .object "CoffinWays$Witness"), (cid 5, .object "CoffinWays$Parish"), (cid 6, .array .int)]
def jI (ad : Nat → Nat) : Prop := ∀ i j, i < jN → j < jN → ad i = ad j → i = j
def jA (ad : Nat → Nat) : Nat → Prop := fun q => ∃ k, k < jN ∧ q = ad k
theorem jwd_at {ad : Nat → Nat} {cid : Nat → ClassId} {σ : jMem} {k : Nat} (h : k < jN) : (jwd ad cid σ)[k]? = some (ad k, jcell ad cid σ k (jL k)) := by
  simp [jwd, List.getElem?_map, List.getElem?_range h]
theorem jwd_D {ad : Nat → Nat} {cid : Nat → ClassId} {A : Nat → Prop} (hI : jI ad) (hA : ∀ k, k < jN → A (ad k)) (σ : jMem) : va_D A (jwd ad cid σ) := by
  have key : ∀ (k : Nat) (q : Nat × va_E), (jwd ad cid σ)[k]? = some q → k < jN ∧ q.1 = ad k := by
    intro k q hq
    have hk : k < jN := by
      have := (List.getElem?_eq_some_iff.mp hq).1
      simpa [jwd] using this
    rw [jwd_at hk] at hq
    cases hq
    exact ⟨hk, rfl⟩
  refine ⟨fun i j p q hp hq e => ?_, fun k q hq => ?_⟩
  · obtain ⟨a1, a2⟩ := key i p hp
    obtain ⟨b1, b2⟩ := key j q hq
    exact hI i j a1 b1 (by rw [← a2, ← b2]; exact e)
  · obtain ⟨a1, a2⟩ := key k q hq
    rw [a2]
    exact hA k a1
theorem jwd_upd {ad : Nat → Nat} {cid : Nat → ClassId} {σ σ' : jMem} {k : Nat} {e : va_E} (hk : k < jN) (h1 : jcell ad cid σ' k (jL k) = e) (h2 : ∀ i, i ≠ k → jcell ad cid σ' i (jL i) = jcell ad cid σ i (jL i)) : (jwd ad cid σ).set k (ad k, e) = jwd ad cid σ' := by
  apply List.ext_getElem?
  intro i
  have hl : k < (jwd ad cid σ).length := by simpa [jwd] using hk
  by_cases hi : i = k
  · subst hi
    rw [List.getElem?_set_self hl, jwd_at hk, h1]
  · rw [List.getElem?_set_ne (Ne.symm hi)]
    by_cases hN : i < jN
    · rw [jwd_at hN, jwd_at hN, h2 i hi]
    · rw [List.getElem?_eq_none (by simpa [jwd] using hN), List.getElem?_eq_none (by simpa [jwd] using hN)]
theorem jcell_o {ad : Nat → Nat} {cid : Nat → ClassId} {σ : jMem} {k ci : Nat} {fs : List (Option Nat)} : jcell ad cid σ k (0, ci, fs) = .inr (ci, jfs ad σ k fs) := rfl
theorem jcell_i {ad : Nat → Nat} {cid : Nat → ClassId} {σ : jMem} {k n : Nat} {fs : List (Option Nat)} : jcell ad cid σ k (1, n, fs) = .inl (cid 1, n, .inl (σ.1 k)) := rfl
theorem jcell_z {ad : Nat → Nat} {cid : Nat → ClassId} {σ : jMem} {k n : Nat} {fs : List (Option Nat)} : jcell ad cid σ k (2, n, fs) = .inl (cid 2, n, .inl (σ.1 k)) := rfl
theorem jcell_l {ad : Nat → Nat} {cid : Nat → ClassId} {σ : jMem} {k n : Nat} {fs : List (Option Nat)} : jcell ad cid σ k (3, n, fs) = .inl (cid 3, n, .inr (.inl (σ.2 k))) := rfl
theorem jcell_same {ad : Nat → Nat} {cid : Nat → ClassId} {σ σ' : jMem} {k : Nat} {q : Nat × Nat × List (Option Nat)} (h1 : σ'.1 k = σ.1 k) (h2 : σ'.2 k = σ.2 k) : jcell ad cid σ' k q = jcell ad cid σ k q := by
  have hf : jfs ad σ' k q.2.2 = jfs ad σ k q.2.2 := by
    unfold jfs
    congr 1
    funext j f
    cases f <;> simp [jfv, h1]
  unfold jcell
  rw [hf, h1, h2]
theorem jset_ne {σ : jMem} {k j i : Nat} {v : Int32} (h : i ≠ k) : (jset σ k j v).1 i = σ.1 i := by
  funext b
  simp [jset, h]
theorem jset_eq {σ : jMem} {k j : Nat} {v : Int32} : (jset σ k j v).1 k = upd (σ.1 k) j v := by
  funext b
  simp [jset, upd]
theorem jsetL_ne {σ : jMem} {k j i : Nat} {v : Int64} (h : i ≠ k) : (jsetL σ k j v).2 i = σ.2 i := by
  funext b
  simp [jsetL, h]
theorem jsetL_eq {σ : jMem} {k j : Nat} {v : Int64} : (jsetL σ k j v).2 k = vp_updL (σ.2 k) j v := by
  funext b
  simp [jsetL, vp_updL]
theorem jwd_put {ad : Nat → Nat} {cid : Nat → ClassId} {σ : jMem} {k ci j : Nat} {fs : List (Option Nat)} {v : Int32} (hk : k < jN) (hL : jL k = (0, ci, fs)) (hj : fs[j]? = some none) : (jwd ad cid σ).set k (ad k, .inr (ci, (jfs ad σ k fs).set j (.int v))) = jwd ad cid (jset σ k j v) := by
  refine jwd_upd hk ?_ (fun i hi => jcell_same (jset_ne hi) rfl)
  rw [hL, jcell_o]
  congr 2
  apply List.ext_getElem?
  intro i
  have hl : j < (jfs ad σ k fs).length := by
    have := (List.getElem?_eq_some_iff.mp hj).1
    simpa [jfs] using this
  by_cases hi : i = j
  · subst hi
    rw [List.getElem?_set_self hl]
    simp [jfs, List.getElem?_mapIdx, hj, jfv, jset]
  · rw [List.getElem?_set_ne (Ne.symm hi)]
    simp only [jfs, List.getElem?_mapIdx]
    cases hf : fs[i]? with
    | none => rfl
    | some f => cases f <;> simp [jfv, jset, hi]
theorem jwd_ast {ad : Nat → Nat} {cid : Nat → ClassId} {σ : jMem} {k n j : Nat} {fs : List (Option Nat)} {v : Int32} (hk : k < jN) (hL : jL k = (1, n, fs)) : (jwd ad cid σ).set k (ad k, .inl (cid 1, n, .inl (upd (σ.1 k) j v))) = jwd ad cid (jset σ k j v) := by
  refine jwd_upd hk ?_ (fun i hi => jcell_same (jset_ne hi) rfl)
  rw [hL, jcell_i, jset_eq]
theorem jwd_zst {ad : Nat → Nat} {cid : Nat → ClassId} {σ : jMem} {k n j : Nat} {fs : List (Option Nat)} {v : Int32} (hk : k < jN) (hL : jL k = (2, n, fs)) : (jwd ad cid σ).set k (ad k, .inl (cid 2, n, .inl (upd (σ.1 k) j v))) = jwd ad cid (jset σ k j v) := by
  refine jwd_upd hk ?_ (fun i hi => jcell_same (jset_ne hi) rfl)
  rw [hL, jcell_z, jset_eq]
theorem jwd_lst {ad : Nat → Nat} {cid : Nat → ClassId} {σ : jMem} {k n j : Nat} {fs : List (Option Nat)} {v : Int64} (hk : k < jN) (hL : jL k = (3, n, fs)) : (jwd ad cid σ).set k (ad k, .inl (cid 3, n, .inr (.inl (vp_updL (σ.2 k) j v)))) = jwd ad cid (jsetL σ k j v) := by
  refine jwd_upd hk ?_ (fun i hi => jcell_same rfl (jsetL_ne hi))
  rw [hL, jcell_l, jsetL_eq]
theorem jwd_cpy {ad : Nat → Nat} {cid : Nat → ClassId} {σ : jMem} {a b n m sp dp : Nat} {fs : List (Option Nat)} (hk : b < jN) (hL : jL b = (1, n, fs)) : (jwd ad cid σ).set b (ad b, .inl (cid 1, n, .inl (va_cpy (σ.1 a) (σ.1 b) sp dp m))) = jwd ad cid (jcpy σ a sp b dp m) := by
  refine jwd_upd hk ?_ (fun i hi => jcell_same (by funext y; simp [jcpy, hi]) rfl)
  rw [hL, jcell_i]
  congr 4
  funext y
  simp [jcpy, va_cpy]
end JDefs
