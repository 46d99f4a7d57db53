/-! ===== constructors ===== -/
theorem tw_oi : Cond.code objectInit ⟨#[0xb1]⟩ 1 none ∈ TT := tt_tb 24 (by decide +kernel) (by decide +kernel)
theorem i_eq {K : jK} {pc c9 s9 c9' s9' : Nat} {ls : List (Option Value)} {st : List Value} {ws ws' : va_W} (h1 : ws = ws') (h2 : c9 = c9') (h3 : s9 = s9') (k : Iw K pc ls st ws' c9' s9') : Iw K pc ls st ws c9 s9 := by subst h1; subst h2; subst h3; exact k
theorem i_mn (N : Nat) (r : Nat → Nat) : (fun i => if i < N then some (r i) else none) = (fun i => ((List.range N).map (fun i => some (r i))).getD i none) := by
  funext i
  by_cases h : i < N
  · simp [h, List.getD]
  · simp [h, List.getD]
theorem i_up2 (a b : Nat) : va_up (va_up (fun _ => none) 0 (some a)) 1 (some b) = (fun i => [some a, some b].getD i none) := by
  funext i
  match i with
  | 0 => rfl
  | 1 => rfl
  | i + 2 => simp [va_up]
theorem i_up6 (a b c d e f : Nat) : va_up (va_up (va_up (va_up (va_up (va_up (fun _ => none) 0 (some a)) 1 (some b)) 2 (some c)) 3 (some d)) 4 (some e)) 5 (some f) = (fun i => [some a, some b, some c, some d, some e, some f].getD i none) := by
  funext i
  match i with
  | 0 => rfl
  | 1 => rfl
  | 2 => rfl
  | 3 => rfl
  | 4 => rfl
  | 5 => rfl
  | i + 6 => simp [va_up]
def jfsr (ad : Nat → Nat) (σ : jMem) (k : Nat) : Nat → List (Option Nat) → List Value
  | _, [] => []
  | j, f :: fs => jfv ad σ k j f :: jfsr ad σ k (j + 1) fs
theorem jfsr_get (ad : Nat → Nat) (σ : jMem) (k : Nat) : ∀ (fs : List (Option Nat)) (j i : Nat), (jfsr ad σ k j fs)[i]? = (fs[i]?).map (fun f => jfv ad σ k (j + i) f) := by
  intro fs
  induction fs with
  | nil => intro j i; simp [jfsr]
  | cons f fs ih =>
    intro j i
    cases i with
    | zero => simp [jfsr]
    | succ i =>
      have := ih (j + 1) i
      simp only [jfsr, List.getElem?_cons_succ, this]
      rw [show j + 1 + i = j + (i + 1) by omega]
theorem jfsr_eq (ad : Nat → Nat) (σ : jMem) (k : Nat) (fs : List (Option Nat)) : jfsr ad σ k 0 fs = jfs ad σ k fs := by
  apply List.ext_getElem?
  intro i
  rw [jfsr_get]
  simp [jfs, List.getElem?_mapIdx]
def icell (ad : Nat → Nat) (cid : Nat → ClassId) (σ : jMem) (k : Nat) (q : Nat × Nat × List (Option Nat)) : va_E :=
  if q.1 = 0 then .inr (q.2.1, jfsr ad σ k 0 q.2.2)
  else if q.1 = 3 then .inl (cid 3, q.2.1, .inr (.inl (σ.2 k)))
  else if q.1 ≤ 2 then .inl (cid q.1, q.2.1, .inl (σ.1 k))
  else .inl (cid q.1, q.2.1, .inr (.inr (.inr (.inr (fun i => (q.2.2.map (Option.map ad)).getD i none)))))
theorem icell_eq (ad : Nat → Nat) (cid : Nat → ClassId) (σ : jMem) (k : Nat) (q : Nat × Nat × List (Option Nat)) : icell ad cid σ k q = jcell ad cid σ k q := by
  have h : (fun i => (q.2.2.map (Option.map ad)).getD i none) = (fun i => (q.2.2.getD i none).map ad) := by
    funext i
    simp only [List.getD_eq_getElem?_getD, List.getElem?_map]
    cases q.2.2[i]? <;> rfl
  unfold icell jcell
  rw [h, jfsr_eq]
theorem i_len1 {qs : List Nat} (h : qs.length = 1) : ∃ a0, qs = [a0] := by
  match qs, h with
  | [a0], _ => exact ⟨a0, rfl⟩
theorem i_len5 {qs : List Nat} (h : qs.length = 5) : ∃ a0 a1 a2 a3 a4, qs = [a0, a1, a2, a3, a4] := by
  match qs, h with
  | [a0, a1, a2, a3, a4], _ => exact ⟨a0, a1, a2, a3, a4, rfl⟩
theorem i_len7 {qs : List Nat} (h : qs.length = 7) : ∃ a0 a1 a2 a3 a4 a5 a6, qs = [a0, a1, a2, a3, a4, a5, a6] := by
  match qs, h with
  | [a0, a1, a2, a3, a4, a5, a6], _ => exact ⟨a0, a1, a2, a3, a4, a5, a6, rfl⟩
theorem i_len11 {qs : List Nat} (h : qs.length = 11) : ∃ a0 a1 a2 a3 a4 a5 a6 a7 a8 a9 a10, qs = [a0, a1, a2, a3, a4, a5, a6, a7, a8, a9, a10] := by
  match qs, h with
  | [a0, a1, a2, a3, a4, a5, a6, a7, a8, a9, a10], _ => exact ⟨a0, a1, a2, a3, a4, a5, a6, a7, a8, a9, a10, rfl⟩
theorem iI_RX11_9 : iSi RX11 9 yX6_init cX6_init 2 0 := ⟨tw_27, tw_28, tw_2, tw_29, rfl, by decide, by decide, by decide +kernel⟩
theorem iI_RX11_18 : iSi RX11 18 yX9_init cX9_init 1 0 := ⟨tw_49, tw_50, tw_3, tw_51, rfl, by decide, by decide, by decide +kernel⟩
theorem iN_RX11_29 : iSiN RX11 29 yX10_init RX11 cX10_init 1 0 := ⟨by decide +kernel, tw_85, tw_4, tw_86, rfl, by decide, by decide, by decide +kernel⟩
theorem iN_RX4_1 : iSiN RX4 1 yX10_init RX11 cX10_init 1 0 := ⟨by decide +kernel, tw_85, tw_4, tw_86, rfl, by decide, by decide, by decide +kernel⟩
theorem iN_RX11_32 : iSiN RX11 32 yX4_init RX11 cX4_init 1 0 := ⟨by decide +kernel, tw_92, tw_5, tw_93, rfl, by decide, by decide, by decide +kernel⟩
theorem iN_RX1_1 : iSiN RX1 1 yX4_init RX11 cX4_init 1 0 := ⟨by decide +kernel, tw_92, tw_5, tw_93, rfl, by decide, by decide, by decide +kernel⟩
theorem iN_RX11_35 : iSiN RX11 35 yX1_init RX11 cX1_init 1 0 := ⟨by decide +kernel, tw_99, tw_6, tw_100, rfl, by decide, by decide, by decide +kernel⟩
theorem iN_RX3_1 : iSiN RX3 1 yX4_init RX11 cX4_init 1 0 := ⟨by decide +kernel, tw_92, tw_5, tw_93, rfl, by decide, by decide, by decide +kernel⟩
theorem iN_RX11_38 : iSiN RX11 38 yX3_init RX11 cX3_init 1 0 := ⟨by decide +kernel, tw_106, tw_7, tw_107, rfl, by decide, by decide, by decide +kernel⟩
theorem iN_RX8_1 : iSiN RX8 1 yX10_init RX11 cX10_init 1 0 := ⟨by decide +kernel, tw_85, tw_4, tw_86, rfl, by decide, by decide, by decide +kernel⟩
theorem iN_RX11_41 : iSiN RX11 41 yX8_init RX11 cX8_init 1 0 := ⟨by decide +kernel, tw_113, tw_8, tw_114, rfl, by decide, by decide, by decide +kernel⟩
theorem iN_RX7_1 : iSiN RX7 1 yX8_init RX11 cX8_init 1 0 := ⟨by decide +kernel, tw_113, tw_8, tw_114, rfl, by decide, by decide, by decide +kernel⟩
theorem iN_RX11_44 : iSiN RX11 44 yX7_init RX11 cX7_init 1 0 := ⟨by decide +kernel, tw_120, tw_9, tw_121, rfl, by decide, by decide, by decide +kernel⟩
theorem iI_RX11_47 : iSi RX11 47 yX5_init cX5_init 2 1 := ⟨tw_126, tw_127, tw_10, tw_128, rfl, by decide, by decide, by decide +kernel⟩
theorem iI_RX11_68 : iSi RX11 68 yX2_init cX2_init 4 0 := ⟨tw_206, tw_207, tw_11, tw_208, rfl, by decide, by decide, by decide +kernel⟩
theorem iI_RX11_75 : iSi RX11 75 yX0_init cX0_init 1 0 := ⟨tw_246, tw_247, tw_12, tw_248, rfl, by decide, by decide, by decide +kernel⟩
def jS12 : Nat → Int32 := (upd (upd (upd (upd (upd (upd (upd (upd (fun _ => 0) 0 (-1)) 1 (-1)) 2 (-1)) 3 (-1)) 4 (-1)) 5 (-1)) 6 (-1)) 7 (-1))
def jS90 : Nat → Int32 := (upd (upd (upd (upd (upd (upd (upd (upd (fun _ => 0) 0 (-1)) 1 (-1)) 2 (-1)) 3 (-1)) 4 (-1)) 5 (-1)) 6 (-1)) 7 (-1))
def jS84 : Nat → Int64 := (vp_updL (vp_updL (vp_updL (vp_updL (vp_updL (vp_updL (vp_updL (vp_updL (vp_updL (vp_updL (vp_updL (vp_updL (vp_updL (fun _ => 0) 0 (1)) 1 (10)) 2 (100)) 3 (1000)) 4 (10000)) 5 (100000)) 6 (1000000)) 7 (10000000)) 8 (100000000)) 9 (1000000000)) 10 (10000000000)) 11 (100000000000)) 12 (1000000000000))
def jσ0 : jMem := (fun k => if k = 12 then jS12 else if k = 90 then jS90 else (fun _ => 0), fun k => if k = 84 then jS84 else (fun _ => 0))
def iC (cid : Nat → ClassId) (h0 : Nat) (qs : List Nat) : va_W := [0, 1, 2, 3, 4, 5, 6, 7, 8, 9, 10, 11, 12, 13, 14, 15, 16, 17, 18, 19, 20, 21, 22, 23, 24, 25, 26, 27, 28, 29, 30, 31, 32, 33, 34, 35, 36, 37, 38, 39, 40, 41, 42, 43, 44, 45, 46, 47, 48, 49, 50, 51, 52, 53, 54, 55, 56, 57, 58, 59, 60, 61, 62, 63, 64, 65, 66, 67, 68, 69, 70, 71, 72, 73, 74, 75, 76, 77, 78, 79, 80, 81, 82, 83, 84, 85, 86, 87, 88].map (fun k => ((h0 :: qs).getD k 0, icell (fun k => (h0 :: qs).getD k 0) cid jσ0 k (jL k)))
def iM (cid : Nat → ClassId) (h0 : Nat) (qs : List Nat) : va_W := [89, 90, 91, 92, 93, 94, 95, 96, 97, 98, 99, 100, 101].map (fun k => ((h0 :: qs).getD (k - 89) 0, icell (fun k => (h0 :: qs).getD (k - 89) 0) cid jσ0 k (jL k)))
