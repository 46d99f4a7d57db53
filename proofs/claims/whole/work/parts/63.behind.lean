/-! ===== PURE: makes, best, from ===== -/
/-- what stays when a year or a burial changes a parish -/
theorem rnd_dy (A : aP) (d : aD) (op : Nat) (D : Nat → Nat) : ∀ n, rnd (dy A d) op D n = rnd A op D n
  | 0 => rfl
  | n + 1 => by
    show stp (dy A d) op (rnd (dy A d) op D n) n = stp A op (rnd A op D n) n
    rw [rnd_dy A d op D n]
    rfl
theorem fD_dy (A : aP) (d : aD) (op : Nat) : ∀ k, fD (dy A d) op k = fD A op k
  | 0 => rfl
  | k + 1 => by
    show rnd (dy A d) op (fD (dy A d) op k) (a_np A) = rnd A op (fD A op k) (a_np A)
    rw [fD_dy A d op k, rnd_dy]
theorem dst_dy (A : aP) (d : aD) (op : Nat) : dst (dy A d) op = dst A op := fD_dy A d op 8
theorem nx_dy (A : aP) (d : aD) (op : Nat) (D : Nat → Nat) (v : Nat) : ∀ n, nx (dy A d) op D v n = nx A op D v n
  | 0 => rfl
  | n + 1 => by
    have h := nx_dy A d op D v n
    have e1 : nx (dy A d) op D v (n + 1) = if cnd A op D v n ∧ oth A n v < (nx (dy A d) op D v n).1 then (oth A n v, n) else nx (dy A d) op D v n := rfl
    have e2 : nx A op D v (n + 1) = if cnd A op D v n ∧ oth A n v < (nx A op D v n).1 then (oth A n v, n) else nx A op D v n := rfl
    rw [e1, e2]
    by_cases c : cnd A op D v n ∧ oth A n v < (nx A op D v n).1
    · rw [if_pos (by rw [h]; exact c), if_pos c]
    · rw [if_neg (by rw [h]; exact c), if_neg c, h]
theorem pid_dy (A : aP) (d : aD) (op v : Nat) : pid (dy A d) op v = pid A op v := by
  show (nx (dy A d) op (dst (dy A d) op) v (a_np A)).2 = (nx A op (dst A op) v (a_np A)).2
  rw [dst_dy, nx_dy]
theorem nxt_dy (A : aP) (d : aD) (op v : Nat) : nxt (dy A d) op v = nxt A op v := by
  show (nx (dy A d) op (dst (dy A d) op) v (a_np A)).1 = (nx A op (dst A op) v (a_np A)).1
  rw [dst_dy, nx_dy]
theorem wk_dy (A : aP) (d : aD) (op a : Nat) : ∀ k, wk (dy A d) op a k = wk A op a k
  | 0 => rfl
  | k + 1 => by
    have h := wk_dy A d op a k
    show (if (wk (dy A d) op a k).1 = a_ch A then wk (dy A d) op a k else (nxt (dy A d) op (wk (dy A d) op a k).1, (wk (dy A d) op a k).2 ||| 2 ^ pid (dy A d) op (wk (dy A d) op a k).1)) = (if (wk A op a k).1 = a_ch A then wk A op a k else (nxt A op (wk A op a k).1, (wk A op a k).2 ||| 2 ^ pid A op (wk A op a k).1))
    rw [h, pid_dy, nxt_dy]
theorem wy_dy (A : aP) (d : aD) (op a : Nat) : wy (dy A d) op a = wy A op a := by
  unfold wy
  rw [dst_dy, wk_dy]
theorem layThen_r (σ : jMem) : f_X12_layThen σ = some (jcpy σ 93 0 95 0 67) := by
  unfold f_X12_layThen
  have : X12_layThen_L2 jFU (0 : Int32) σ = some ((), jcpy σ 93 0 95 0 67) := by
    have := jloop_run (body := fun rec s σ => X12_layThen_L2_b rec s σ) (fun k => nI k) (fun k => jcpy σ 93 0 95 0 k) 67 ((), jcpy σ 93 0 95 0 67) ?_ ?_ jFU (by unfold jFU; omega)
    · simp only [jcpy_0] at this
      exact this
    · intro k hk rec
      show X12_layThen_L2_b _ _ _ = _
      unfold X12_layThen_L2_b
      have h1 := cpy_s (τ := σ) (a := 93) (sp := 0) (b := 95) (dp := 0) (by omega) k
      rw [Nat.zero_add] at h1
      rw [if_neg (Lle_ (by omega) (by omega)), jld_eq (by omega) (by omega), jst_eq (by omega) (by omega), nI_1]
      rw [← h1]
    · intro rec
      rfl
  rw [this]
  rfl
theorem then_p {σ : jMem} {A : aP} (h : PR σ 93 0 A) (hW : WF A) : PR (jcpy σ 93 0 95 0 67) 95 0 A ∧ PR (jcpy σ 93 0 95 0 67) 93 0 A := by
  refine ⟨h.congr (r' := 95) (o' := 0) hW.b (fun i hi => ?_), h.congr (r' := 93) (o' := 0) hW.b (fun i hi => ?_)⟩
  · rw [jcpy_i (by omega), show 0 + (0 + i - 0) = 0 + i by omega]
  · rw [jcpy_o (by omega)]
/-- the ways behind a burial at a -/
def wB (A : aP) (a : Nat) : Nat := aWays (aSee A (wy A (opn A) a) (2 ^ pid A (opn A) a))
theorem wB_eq (A : aP) (a : Nat) : wB A a = orN (fun i => aSw A i ||| snA A (wy A (opn A) a) (2 ^ pid A (opn A) a) i) (a_nw A) := orN_congr (fun i _ => aSee_sw A _ _ i)
theorem wB_lt {A : aP} {a : Nat} (hW : WF A) (ha : a < 8) (hb : bur A a = 1) : wB A a < 2 ^ a_np A := aWays_lt (A := aSee A (wy A (opn A) a) (2 ^ pid A (opn A) a)) (aSee_WF hW (wy_lt hW ha) (p2_lt (bur_pid hW ha hb)))
theorem behind_c {σ : jMem} {k a : Nat} {A : aP} (hP : PC σ k A) (hW : WF A) (ha : a < 8) (hb : bur A a = 1) (e1 : σ.1 80 1 = nI (wy A (opn A) a)) (e2 : σ.1 80 2 = nI (2 ^ pid A (opn A) a)) : f_X5_waysBehind k σ = some (nI (wB A a), σ) := by
  have hbb := hW.b
  rw [wB_eq]
  unfold f_X5_waysBehind
  have : X5_waysBehind_L4 k jFU ((0 : Int32), (0 : Int32)) σ = some (nI (orN (fun i => aSw A i ||| snA A (wy A (opn A) a) (2 ^ pid A (opn A) a) i) (a_nw A)), σ) := by
    refine jloop_run (body := fun rec s9 σ => X5_waysBehind_L4_b k rec s9.1 s9.2 σ) (fun n => (nI (orN (fun i => aSw A i ||| snA A (wy A (opn A) a) (2 ^ pid A (opn A) a) i) n), nI n)) (fun _ => σ) (a_nw A) _ ?_ ?_ jFU (by unfold jFU; omega)
    · intro i hi rec
      show X5_waysBehind_L4_b k rec (nI (orN (fun i => aSw A i ||| snA A (wy A (opn A) a) (2 ^ pid A (opn A) a) i) i)) (nI i) σ = _
      unfold X5_waysBehind_L4_b
      rw [hP.1.2.2.2.2.2.1, if_neg (nle_ (by omega) (by omega)), swears_c hP hW hi, jbd_eq, seenBy_c hP hW (wy_lt hW ha) e1 e2 hi, jbd_eq, nI_or, nI_or, jlet_eq, nI_1]
      rfl
    · intro rec
      show X5_waysBehind_L4_b k rec _ (nI (a_nw A)) σ = _
      unfold X5_waysBehind_L4_b
      rw [hP.1.2.2.2.2.2.1, if_pos (nI_le (Nat.le_refl _) (by omega))]
  rw [this]
  rfl
/-- what the reference may change here -/
def frT (c j : Nat) : Prop := c = 98 ∨ c = 95 ∨ (c = 89 ∧ 20 ≤ j ∧ j ≤ 22)
theorem frT_scr {σ τ : jMem} (h : FR frT σ τ) : sEq σ τ := ⟨fun c j q => h.1 c j (fun z => q (by unfold frT at z; unfold scr; omega)), h.2⟩
theorem behind_r {σ : jMem} {a : Nat} {A : aP} (hP : PR σ 93 0 A) (hW : WF A) (ha : a < 8) : ∃ σ', f_X12_waysBehind (nI a) σ = some (if bur A a = 1 then nI (wB A a) else -1000000, σ') ∧ FR frT σ σ' := by
  obtain ⟨σ1, r1, r2, r3⟩ := isBur_r hP hW ha
  unfold f_X12_waysBehind
  rw [jldL_ (by omega) (by omega), (hP.f (o := 0)).2.2.2.2.2.2, r1, jbd_eq]
  rcases (show bur A a = 0 ∨ bur A a = 1 by have := bur_le A a; omega) with z | z
  · refine ⟨σ1, ?_, r3.mono (fun c j q => by unfold frW at q; unfold frT; omega)⟩
    rw [z, if_neg (fun q => q rfl), if_neg (by omega)]
  · obtain ⟨x1, x2⟩ := r2 z
    have hP1 := hP.offF hW r3 (fun j => by unfold frW; omega)
    obtain ⟨t1, t2⟩ := then_p hP1 hW
    have hpid := bur_pid hW ha z
    obtain ⟨σ2, y1, y2, y3⟩ := see_r t1 hW (by omega) (wy_lt (op := opn A) hW ha) hpid (by rw [jcpy_o (by omega)]; exact x1) (by rw [jcpy_o (by omega)]; exact x2) (Or.inr ⟨dOf A, hW, t2⟩)
    refine ⟨σ2, ?_, ?_⟩
    · rw [z, if_pos (by decide), layThen_r, jbv_eq, y1, jbv_eq, ways_r y2 (aSee_WF hW (wy_lt hW ha) (p2_lt hpid)), jbd_eq, if_pos rfl]
      rfl
    · exact ((r3.mono (fun c j q => by unfold frW at q; unfold frT; omega)).cpy (fun j _ _ => by unfold frT; omega)).trans (y3.mono (fun c j q => by unfold frT; omega))
/-- how many new ways -/
def nwV (A : aP) (a : Nat) : Int32 := if bur A a = 1 then nI (popc (andn (wB A a) (aWays A))) else -1000000
theorem new_c {σ : jMem} {a : Nat} {A : aP} (hP : PC σ 22 A) (hW : WF A) (ha : a < 8) : ∃ σ', f_X11_newWays (nI a) σ = some (nwV A a, σ') ∧ FR frC σ σ' := by
  obtain ⟨σ1, b1, b2, b3⟩ := isBur_c hP hW (by omega) ha
  unfold f_X11_newWays nwV
  rw [b1, jbd_eq]
  refine ⟨σ1, ?_, b3⟩
  rcases (show bur A a = 0 ∨ bur A a = 1 by have := bur_le A a; omega) with z | z
  · rw [z, if_neg (fun q => q rfl), if_neg (by omega)]
  · obtain ⟨x1, x2⟩ := b2 z
    have hP1 := hP.offF b3 (fun c j q1 q2 => by unfold frC; omega)
    rw [z, if_pos (by decide), behind_c hP1 hW ha z x1 x2, jbd_eq, ways_c hP1 hW, jbd_eq, nI_andn, bc_spec (np_lt hW (andn_lt (wB_lt hW ha z))), jbd_eq, if_pos rfl]
theorem new_r {σ : jMem} {a : Nat} {A : aP} (hP : PR σ 93 0 A) (hW : WF A) (ha : a < 8) : ∃ σ', f_X12_makesBy (nI a) σ = some (nwV A a, σ') ∧ FR frT σ σ' := by
  obtain ⟨σ1, b1, b2⟩ := behind_r hP hW ha
  unfold f_X12_makesBy nwV
  rw [b1, jbd_eq]
  refine ⟨σ1, ?_, b2⟩
  rcases (show bur A a = 0 ∨ bur A a = 1 by have := bur_le A a; omega) with z | z
  · have e : (if bur A a = 1 then nI (wB A a) else (-1000000 : Int32)) = -1000000 := if_neg (by omega)
    have e' : (if bur A a = 1 then nI (popc (andn (wB A a) (aWays A))) else (-1000000 : Int32)) = -1000000 := if_neg (by omega)
    rw [e, e', if_neg (fun q => q rfl)]
  · have hP1 := hP.offF hW b2 (fun j => by unfold frT; omega)
    have hlt := np_lt hW (wB_lt hW ha z)
    have hlt2 := np_lt hW (andn_lt (b := aWays A) (wB_lt hW ha z))
    rw [z, if_pos rfl, if_pos (nI_ne_inf (by omega)), ways_r hP1 hW, jbd_eq, nI_andn, bits_spec (by omega), jbd_eq, if_pos rfl]
theorem sim_makes_ok : sim_makes Inv := by
  rintro σ a1 ⟨A, h⟩
  have h' := h.t0
  have t1 := h.W.1.1
  rcases (show a_th A = 0 ∨ a_th A = 1 by omega) with t | t
  · refine ⟨-1000002, σ, jset σ 89 0 0, ?_, ?_, h.bad⟩
    · unfold f_X11_makes
      rw [h.C.1.1, t, if_neg (by decide)]
    · unfold f_X12_makes
      rw [jlet_eq, there_r h'.R h.W, t]
      rfl
  · have ec : ¬ σ.1 22 1 = 0 := by rw [h.C.1.1, t]; decide
    by_cases hf : 0 ≤ a1.toInt ∧ a1.toInt ≤ 7
    · have hf' := hf
      obtain ⟨v, hv, rfl⟩ := field_in hf
      obtain ⟨σ1, b1, b2⟩ := new_c h.C h.W hv
      have s1 := frC_scr b2
      have hR1 := h.seqC s1
      have er1 := there_r hR1 h.W
      rw [t] at er1
      obtain ⟨σ2, r1, r2⟩ := new_r hR1 h.W hv
      refine ⟨nwV A v, σ1, σ2, ?_, ?_, A, h.congr ((s1.set scr0).trans (frT_scr r2))⟩
      · unfold f_X11_makes
        rw [if_pos ec, isField_c, if_pos hf', jbd_eq, if_neg (by decide), b1]
        rfl
      · unfold f_X12_makes
        rw [jlet_eq, er1, jbd_eq, if_pos (by decide), isField_r, if_pos hf', jbd_eq, if_neg (by decide), r1]
        rfl
    · have er := there_r h'.R h.W
      rw [t] at er
      refine ⟨-1000001, σ, jset σ 89 0 0, ?_, ?_, h.bad⟩
      · unfold f_X11_makes
        rw [if_pos ec, isField_c, if_neg hf]
        rfl
      · unfold f_X12_makes
        rw [jlet_eq, er, jbd_eq, if_pos (by decide), isField_r, if_neg hf]
        rfl
/-- the best so far -/
def bst (A : aP) : Nat → Int32 × Int32
  | 0 => (-1000000, -1000000)
  | n + 1 => if nwV A n ≤ (bst A n).2 then bst A n else (nI n, nwV A n)
theorem bestL_c {σ : jMem} {A : aP} (x : Int32) (hP : PC σ 22 A) (hW : WF A) : ∃ σ', X11_best_L32 x jFU ((-1000000 : Int32), (-1000000 : Int32), (0 : Int32)) σ = some (bst A 8, σ') ∧ FR frC σ σ' := by
  have H := jloop_inv (body := fun rec s σ => X11_best_L32_b x rec s.1 s.2.1 s.2.2 σ) (fun i s τ => s = ((bst A i).1, (bst A i).2, nI i) ∧ FR frC σ τ) (fun r => r.1 = bst A 8 ∧ FR frC σ r.2) 8 ?_ ?_ ((-1000000 : Int32), (-1000000 : Int32), (0 : Int32)) σ ⟨rfl, FR.refl σ⟩ jFU (by unfold jFU; omega)
  · obtain ⟨⟨r, ρ⟩, ⟨h1, h2⟩, h3⟩ := H
    exact ⟨ρ, by rw [← h1]; exact h3, h2⟩
  · rintro i s τ hi ⟨rfl, h2⟩
    have hPt := hP.offF h2 (fun c j q1 q2 => by unfold frC; omega)
    obtain ⟨τ1, b1, b2⟩ := new_c hPt hW hi
    refine ⟨((bst A (i + 1)).1, (bst A (i + 1)).2, nI (i + 1)), τ1, ⟨rfl, h2.trans b2⟩, fun rec => ?_⟩
    show X11_best_L32_b x rec (bst A i).1 (bst A i).2 (nI i) τ = _
    unfold X11_best_L32_b
    have es : bst A (i + 1) = if nwV A i ≤ (bst A i).2 then bst A i else (nI i, nwV A i) := rfl
    rw [if_neg (Lle_ (by omega) (by omega)), b1, jbd_eq, nI_1, es]
    by_cases c : nwV A i ≤ (bst A i).2
    · rw [if_pos c, if_pos c]
    · rw [if_neg c, if_neg c]
  · rintro s τ ⟨rfl, h2⟩
    generalize bst A 8 = B
    refine ⟨(B, τ), ⟨rfl, h2⟩, fun rec => ?_⟩
    show X11_best_L32_b x rec B.1 B.2 (nI 8) τ = some (B, τ)
    unfold X11_best_L32_b
    rw [if_pos (by decide)]
theorem bestL_r {σ : jMem} {A : aP} (x : Int32) (hP : PR σ 93 0 A) (hW : WF A) : ∃ σ', X12_best_L37 x jFU ((-1000000 : Int32), (-1000000 : Int32), (0 : Int32)) σ = some (bst A 8, σ') ∧ FR frT σ σ' := by
  have H := jloop_inv (body := fun rec s σ => X12_best_L37_b x rec s.1 s.2.1 s.2.2 σ) (fun i s τ => s = ((bst A i).1, (bst A i).2, nI i) ∧ FR frT σ τ) (fun r => r.1 = bst A 8 ∧ FR frT σ r.2) 8 ?_ ?_ ((-1000000 : Int32), (-1000000 : Int32), (0 : Int32)) σ ⟨rfl, FR.refl σ⟩ jFU (by unfold jFU; omega)
  · obtain ⟨⟨r, ρ⟩, ⟨h1, h2⟩, h3⟩ := H
    exact ⟨ρ, by rw [← h1]; exact h3, h2⟩
  · rintro i s τ hi ⟨rfl, h2⟩
    have hPt := hP.offF hW h2 (fun j => by unfold frT; omega)
    obtain ⟨τ1, b1, b2⟩ := new_r hPt hW hi
    refine ⟨((bst A (i + 1)).1, (bst A (i + 1)).2, nI (i + 1)), τ1, ⟨rfl, h2.trans b2⟩, fun rec => ?_⟩
    show X12_best_L37_b x rec (bst A i).1 (bst A i).2 (nI i) τ = _
    unfold X12_best_L37_b
    have es : bst A (i + 1) = if nwV A i ≤ (bst A i).2 then bst A i else (nI i, nwV A i) := rfl
    rw [if_neg (Lle_ (by omega) (by omega)), b1, jbd_eq, jj_eq, es]
    dsimp only
    by_cases c : nwV A i ≤ (bst A i).2
    · rw [if_pos c, if_pos c, if_pos c, nI_1]
    · rw [if_neg c, if_neg c, if_neg c, nI_1]
  · rintro s τ ⟨rfl, h2⟩
    generalize bst A 8 = B
    refine ⟨(B, τ), ⟨rfl, h2⟩, fun rec => ?_⟩
    show X12_best_L37_b x rec B.1 B.2 (nI 8) τ = some (B, τ)
    unfold X12_best_L37_b
    rw [if_pos (by decide)]
theorem sim_best_ok : sim_best Inv := by
  rintro σ a1 ⟨A, h⟩
  have h' := h.t0
  have t1 := h.W.1.1
  rcases (show a_th A = 0 ∨ a_th A = 1 by omega) with t | t
  · refine ⟨-1000002, σ, jset σ 89 0 0, ?_, ?_, h.bad⟩
    · unfold f_X11_best
      rw [h.C.1.1, t, if_neg (by decide)]
    · unfold f_X12_best
      rw [jlet_eq, there_r h'.R h.W, t]
      rfl
  · have ec : ¬ σ.1 22 1 = 0 := by rw [h.C.1.1, t]; decide
    by_cases c : a1 = 0 ∨ a1 = 1
    · obtain ⟨σ1, b1, b2⟩ := bestL_c a1 h.C h.W
      have s1 := frC_scr b2
      have hR1 := h.seqC s1
      have er1 := there_r hR1 h.W
      rw [t] at er1
      obtain ⟨σ2, r1, r2⟩ := bestL_r a1 hR1 h.W
      refine ⟨if ¬ a1 = 0 then (bst A 8).2 else (bst A 8).1, σ1, σ2, ?_, ?_, A, h.congr ((s1.set scr0).trans (frT_scr r2))⟩
      · unfold f_X11_best
        rw [if_pos ec, oneOf_c, if_pos c, jbd_eq, if_pos (by decide), b1, jbd_eq]
        by_cases c0 : a1 = 0
        · rw [if_neg (fun z => z c0), if_neg (fun z => z c0)]
        · rw [if_pos c0, if_pos c0]
      · unfold f_X12_best
        rw [jlet_eq, er1, jbd_eq, if_pos (by decide), oneOf_r, if_pos c, jbd_eq, if_pos (by decide), r1, jbd_eq]
        by_cases c0 : a1 = 0
        · rw [if_neg (fun z => z c0), if_neg (fun z => z c0)]
        · rw [if_pos c0, if_pos c0]
    · have er := there_r h'.R h.W
      rw [t] at er
      refine ⟨-1000001, σ, jset σ 89 0 0, ?_, ?_, h.bad⟩
      · unfold f_X11_best
        rw [if_pos ec, oneOf_c, if_neg c]
        rfl
      · unfold f_X12_best
        rw [jlet_eq, er, jbd_eq, if_pos (by decide), oneOf_r, if_neg c]
        rfl
