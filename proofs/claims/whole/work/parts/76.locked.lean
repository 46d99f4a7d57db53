/-! ===== PURE: locked ===== -/
noncomputable def hN (A : aP) (p a T : Nat) : Nat := if T.testBit (a_ch A) = true then 0 else tm A p a 255 T
noncomputable def hY (A : aP) (p a T : Nat) : Nat := if T.testBit (a_ch A) = true then tm A p a 255 T else 0
theorem hNY {A : aP} {p : Nat} (hp : p ≤ 10) (a : Nat) : smN (hN A p a) 256 + smN (hY A p a) 256 = 10 ^ wN A 255 := by
  have e := smN_3 (g := tm A p a 255) (g1 := hN A p a) (g2 := hY A p a) (g3 := fun _ => 0) (n := 256) (fun i _ => by
    unfold hN hY
    by_cases c : i.testBit (a_ch A) = true
    · rw [if_pos c, if_pos c]
      omega
    · rw [if_neg c, if_neg c]
      rfl)
  rw [smN_zero, tm_sum hp] at e
  omega
def fr83 (c _j : Nat) : Prop := c = 82
theorem fr83_scr {σ τ : jMem} (h : FR fr83 σ τ) : sEq σ τ := ⟨fun c j q => h.1 c j (fun z => q (by unfold fr83 at z; unfold scr; omega)), h.2⟩
theorem through_c {σ : jMem} {A : aP} {p a : Nat} (hp : p ≤ 10) (hP : PC σ 22 A) (hW : WF A) (ha : a < 8) (hT : RTens σ) : ∃ σ', f_X2_casesThrough 22 (nI a) (nI p) σ = some (lN (smN (hY A p a) 256), σ') ∧ FR fr83 σ σ' := by
  have hch := hW.1.2.1
  have h255 : ∀ v, v < 8 → (255 : Nat).testBit v = true := by decide
  obtain ⟨σ1, b1, b2, b3⟩ := within_c hP hW
  obtain ⟨σ3, d1, d2, d3⟩ := powers_c (σ := σ1) hp
  have hL : LK σ3 A p := ⟨fun S hS => by rw [d3.1 82 S (fun q => q)]; exact b2 S hS, d2, fun n hn => by rw [d3.2, b3.2]; exact hT n hn⟩
  have F3 : FR fr83 σ σ3 := (b3.mono (fun c j q => q)).trans (d3.mono (fun c j q => q.elim))
  have l255 := wN_le hW 255
  have hsum := hNY (A := A) hp a
  have H := jloop_inv (body := fun rec s σ => X2_casesThrough_L32_b 22 (nI a) (255 : Int32) rec s.1 s.2 σ) (fun i s τ => s = (lN (smN (hY A p a) 256 + (smN (hN A p a) 256 - smN (hN A p a) i)), nI i) ∧ LK τ A p ∧ (∀ T, T < i → T.testBit a = true → ¬ T.testBit (a_ch A) = true → τ.2 83 T = lN (tm A p a T T)) ∧ FR fr83 σ τ) (fun r => r.1 = lN (smN (hY A p a) 256) ∧ FR fr83 σ r.2) 256 ?_ ?_ (lN (10 ^ wN A 255), (0 : Int32)) σ3 ⟨by rw [← hsum, Nat.add_comm]; rfl, hL, fun T hT => by omega, F3⟩ jFU (by unfold jFU; omega)
  · obtain ⟨⟨r, ρ⟩, ⟨h1, h2⟩, h3⟩ := H
    refine ⟨ρ, ?_, h2⟩
    have h1' : r = lN (smN (hY A p a) 256) := h1
    subst h1'
    unfold f_X2_casesThrough
    rw [b1, jbv_eq, d1, jbv_eq, jldL_ (by omega) (by omega)]
    rw [show σ3.1 82 (OfNat.ofNat 255) = nI (wN A 255) from hL.1 255 (by omega), jldL_eq (by omega) (by omega), hL.2.2 _ l255, show X2_casesThrough_L32 22 (nI a) (255 : Int32) jFU (lN (10 ^ wN A 255), (0 : Int32)) σ3 = some (lN (smN (hY A p a) 256), ρ) from h3, jbd_eq]
  · rintro i s τ hi ⟨rfl, h2, h3, h4⟩
    have hPt := hP.offF h4 (fun c j q1 q2 => by unfold fr83; omega)
    have e2 : τ.1 22 2 = nI (a_ch A) := hPt.1.2.1
    have hpre := smN_pre (g := hN A p a) (s := i + 1) (n := 256) (by omega)
    have es : smN (hN A p a) (i + 1) = smN (hN A p a) i + hN A p a i := rfl
    have skip : hN A p a i = 0 → smN (hN A p a) (i + 1) = smN (hN A p a) i := fun z => by rw [es, z]; rfl
    by_cases ca : i.testBit a = true
    · by_cases cc : i.testBit (a_ch A) = true
      · refine ⟨(lN (smN (hY A p a) 256 + (smN (hN A p a) 256 - smN (hN A p a) (i + 1))), nI (i + 1)), τ, ⟨rfl, h2, fun T hT q1 q2 => ?_, h4⟩, fun rec => ?_⟩
        · by_cases z : T = i
          · rw [z] at q2
            exact absurd cc q2
          · exact h3 T (by omega) q1 q2
        · show X2_casesThrough_L32_b 22 (nI a) (255 : Int32) rec (lN (smN (hY A p a) 256 + (smN (hN A p a) 256 - smN (hN A p a) i))) (nI i) τ = _
          unfold X2_casesThrough_L32_b
          rw [if_neg (Lle_ (by omega) (by omega)), bitOf_spec (by omega) (by omega), jbd_eq, bt1_1.mpr ca, if_neg (by decide), e2, bitOf_spec (by omega) (by omega), jbd_eq, bt1_1.mpr cc, if_pos (by decide), nI_1, skip (if_pos cc)]
      · have ej := joined_c hp hW h2 ha hi ca (fun T t1 t2 t3 => h3 T t1 t2 (fun q => cc (sub_and.mp t3 _ q)))
        have hL' : LK (jsetL τ 83 i (lN (tm A p a i i))) A p := by
          refine ⟨h2.1, fun n hn => ?_, fun n hn => ?_⟩
          · rw [jsetL_app2, if_neg (by omega)]
            exact h2.2.1 n hn
          · rw [jsetL_app2, if_neg (by omega)]
            exact h2.2.2 n hn
        have hS255 : i &&& 255 = i := by
          have := Nat.and_two_pow_sub_one_of_lt_two_pow (x := i) (n := 8) hi
          exact this
        have ep := parted_c hp hW hL' ha (show 255 < 256 by omega) ca hS255 (by rw [jsetL_app2, if_pos ⟨rfl, rfl⟩])
        have eh : hN A p a i = tm A p a 255 i := if_neg cc
        refine ⟨(lN (smN (hY A p a) 256 + (smN (hN A p a) 256 - smN (hN A p a) (i + 1))), nI (i + 1)), jsetL τ 83 i (lN (tm A p a i i)), ⟨rfl, hL', fun T hT q1 q2 => ?_, h4.setL (by omega)⟩, fun rec => ?_⟩
        · rw [jsetL_app2]
          by_cases z : T = i
          · rw [if_pos ⟨rfl, z⟩, z]
          · rw [if_neg (fun q => z q.2)]
            exact h3 T (by omega) q1 q2
        · show X2_casesThrough_L32_b 22 (nI a) (255 : Int32) rec (lN (smN (hY A p a) 256 + (smN (hN A p a) 256 - smN (hN A p a) i))) (nI i) τ = _
          unfold X2_casesThrough_L32_b
          rw [if_neg (Lle_ (by omega) (by omega)), bitOf_spec (by omega) (by omega), jbd_eq, bt1_1.mpr ca, if_neg (by decide), e2, bitOf_spec (by omega) (by omega), jbd_eq, bt1_f cc, if_neg (by decide), ej, jbd_eq, jstL_eq (by omega) (by omega), show (255 : Int32) = nI 255 from rfl, ep, jbd_eq, lN_sub (by omega), jlet_eq, nI_1]
          rw [show smN (hY A p a) 256 + (smN (hN A p a) 256 - smN (hN A p a) i) - tm A p a 255 i = smN (hY A p a) 256 + (smN (hN A p a) 256 - smN (hN A p a) (i + 1)) by omega]
    · have z0 : hN A p a i = 0 := by
        unfold hN
        rw [tm_zero ha (by omega) (h255 a ha) (fun q => ca q.1), ite_self]
      refine ⟨(lN (smN (hY A p a) 256 + (smN (hN A p a) 256 - smN (hN A p a) (i + 1))), nI (i + 1)), τ, ⟨rfl, h2, fun T hT q1 q2 => ?_, h4⟩, fun rec => ?_⟩
      · by_cases z : T = i
        · rw [z] at q1
          exact absurd q1 ca
        · exact h3 T (by omega) q1 q2
      · show X2_casesThrough_L32_b 22 (nI a) (255 : Int32) rec (lN (smN (hY A p a) 256 + (smN (hN A p a) 256 - smN (hN A p a) i))) (nI i) τ = _
        unfold X2_casesThrough_L32_b
        rw [if_neg (Lle_ (by omega) (by omega)), bitOf_spec (by omega) (by omega), jbd_eq, bt1_f ca, if_pos (by decide), nI_1, skip z0]
  · rintro s τ ⟨rfl, h2, h3, h4⟩
    have e0 : smN (hY A p a) 256 + (smN (hN A p a) 256 - smN (hN A p a) 256) = smN (hY A p a) 256 := by omega
    rw [e0]
    refine ⟨(lN (smN (hY A p a) 256), τ), ⟨rfl, h4⟩, fun rec => ?_⟩
    show X2_casesThrough_L32_b 22 (nI a) (255 : Int32) rec (lN (smN (hY A p a) 256)) (nI 256) τ = _
    unfold X2_casesThrough_L32_b
    rw [if_pos (by decide)]
/-! greatest common divisors -/
theorem gcd_s (a b : Nat) : Nat.gcd a b = Nat.gcd b (a % b) := by
  rw [Nat.gcd_comm a b, Nat.gcd_rec b a, Nat.gcd_comm]
theorem l_mod {a b : Nat} (ha : a < 2 ^ 63) (h0 : 0 < b) (hb : b < 2 ^ 63) : lN a - lN a / lN b * lN b = lN (a % b) := by
  have h := Nat.div_add_mod a b
  rw [Nat.mul_comm] at h
  rw [pk_lDiv ha h0 hb, lN_mul, lN_sub (by omega)]
  congr 1
  omega
theorem mod_half {a b k : Nat} (h0 : 0 < b) (hba : b ≤ a) (h : a * b < 2 ^ (k + 1)) : b * (a % b) < 2 ^ k := by
  have h1 := Nat.mod_lt a h0
  have h2 : 2 * (a % b) ≤ a := by
    have h := Nat.div_add_mod a b
    have hd : 1 ≤ a / b := (Nat.le_div_iff_mul_le h0).mpr (by omega)
    have : b * 1 ≤ b * (a / b) := Nat.mul_le_mul_left b hd
    omega
  have h3 : b * (2 * (a % b)) ≤ b * a := Nat.mul_le_mul_left b h2
  have e1 : b * (2 * (a % b)) = 2 * (b * (a % b)) := by ac_rfl
  have e2 : b * a = a * b := Nat.mul_comm b a
  rw [Nat.pow_succ] at h
  omega
theorem gcdC (σ : jMem) : ∀ k a b i n, b ≤ a → a < 2 ^ 63 → a * b < 2 ^ k → i + k < 200 → k + 1 < n → 0 < a → jloop (fun rec s σ => X11_commonDivisor_L9_b rec s.1 s.2.1 s.2.2 σ) n (lN a, lN b, nI i) σ = some (lN (Nat.gcd a b), σ)
  | k, a, b, i, n, hba, ha, hab, hik, hn, h0 => by
    obtain ⟨n, rfl⟩ : ∃ n', n = n' + 1 := ⟨n - 1, by omega⟩
    show X11_commonDivisor_L9_b (jloop (fun rec s σ => X11_commonDivisor_L9_b rec s.1 s.2.1 s.2.2 σ) n) (lN a) (lN b) (nI i) σ = _
    unfold X11_commonDivisor_L9_b
    rw [if_neg (Lle_ (by omega) (by omega))]
    by_cases c : b = 0
    · rw [if_pos ((q_eq0 _ _).mpr (by rw [c]; rfl)), c, Nat.gcd_zero_right]
    · have hz : ¬ lN b = 0 := fun q => c ((pk_lEQ (b := 0) (by omega) (by omega)).mp q)
      rw [if_neg (fun q => hz ((q_eq0 _ _).mp q)), jck_t hz, l_mod ha (by omega) (by omega), jlet_eq, nI_1]
      cases k with
      | zero =>
        have : 1 ≤ a * b := Nat.mul_pos h0 (by omega)
        omega
      | succ k =>
        have hm := Nat.mod_lt a (show 0 < b by omega)
        have := gcdC σ k b (a % b) (i + 1) n (by omega) (by omega) (mod_half (by omega) hba hab) (by omega) (by omega) (by omega)
        rw [gcd_s a b]
        exact this
theorem gcdR (p5 p7 : Int64) (x : Int32) (σ : jMem) : ∀ k a b n, b ≤ a → a < 2 ^ 63 → a * b < 2 ^ k → k + 1 < n → 0 < a → jloop (fun rec s σ => X12_locked_L214_b x p5 p7 rec s.1 s.2 σ) n (lN a, lN b) σ = some (lN (Nat.gcd a b), σ)
  | k, a, b, n, hba, ha, hab, hn, h0 => by
    obtain ⟨n, rfl⟩ : ∃ n', n = n' + 1 := ⟨n - 1, by omega⟩
    show X12_locked_L214_b x p5 p7 (jloop (fun rec s σ => X12_locked_L214_b x p5 p7 rec s.1 s.2 σ) n) (lN a) (lN b) σ = _
    unfold X12_locked_L214_b
    by_cases c : b = 0
    · rw [if_pos ((q_eq0 _ _).mpr (by rw [c]; rfl)), c, Nat.gcd_zero_right]
    · have hz : ¬ lN b = 0 := fun q => c ((pk_lEQ (b := 0) (by omega) (by omega)).mp q)
      rw [if_neg (fun q => hz ((q_eq0 _ _).mp q)), jck_t hz, l_mod ha (by omega) (by omega), jlet_eq]
      cases k with
      | zero =>
        have : 1 ≤ a * b := Nat.mul_pos h0 (by omega)
        omega
      | succ k =>
        have hm := Nat.mod_lt a (show 0 < b by omega)
        have := gcdR p5 p7 x σ k b (a % b) n (by omega) (by omega) (mod_half (by omega) hba hab) (by omega) (by omega)
        rw [gcd_s a b]
        exact this
theorem common_c {a b : Nat} (hba : b ≤ a) (h0 : 0 < a) (ha : a ≤ 10 ^ 12) (σ : jMem) : f_X11_commonDivisor (lN a) (lN b) σ = some (lN (Nat.gcd a b), σ) := by
  have hg := Nat.gcd_pos_of_pos_left b h0
  have hl := Nat.gcd_le_left b h0
  have hab : a * b < 2 ^ 80 := by
    have : a * b ≤ 10 ^ 12 * 10 ^ 12 := Nat.mul_le_mul ha (by omega)
    omega
  unfold f_X11_commonDivisor
  rw [show X11_commonDivisor_L9 jFU (lN a, lN b, (0 : Int32)) σ = some (lN (Nat.gcd a b), σ) from gcdC σ 80 a b 0 jFU hba (by omega) hab (by omega) (by unfold jFU; omega) h0, jbd_eq]
  have : ¬ lg_cmp (lN (Nat.gcd a b)) (0 : Int64) ≤ 0 := by
    rw [q_le0]
    intro q
    have := (pk_lLE (b := 0) (by omega) (by omega)).mp q
    omega
  rw [if_neg this]
theorem common_r {a b : Nat} (x : Int32) (p5 p7 : Int64) (hba : b ≤ a) (h0 : 0 < a) (ha : a ≤ 10 ^ 12) (σ : jMem) : X12_locked_L214 x p5 p7 jFU (lN b, lN a) σ = some (lN (Nat.gcd a b), σ) := by
  have hab : a * b < 2 ^ 80 := by
    have : a * b ≤ 10 ^ 12 * 10 ^ 12 := Nat.mul_le_mul ha (by omega)
    omega
  have hz : ¬ lN a = 0 := fun q => by
    have := (pk_lEQ (b := 0) (by omega) (by omega)).mp q
    omega
  obtain ⟨n, hn⟩ : ∃ n, jFU = n + 1 := ⟨4999, rfl⟩
  have hn' : 4999 = n := by unfold jFU at hn; omega
  rw [hn]
  show X12_locked_L214_b x p5 p7 (jloop (fun rec s σ => X12_locked_L214_b x p5 p7 rec s.1 s.2 σ) n) (lN b) (lN a) σ = _
  unfold X12_locked_L214_b
  rw [if_neg (fun q => hz ((q_eq0 _ _).mp q)), jck_t hz, l_mod (by omega) h0 (by omega), jlet_eq, Nat.gcd_comm a b, gcd_s b a]
  have hm := Nat.mod_lt b h0
  have hml := Nat.mod_le b a
  have : a * (b % a) < 2 ^ 80 := Nat.lt_of_le_of_lt (Nat.mul_le_mul_left a hml) hab
  exact gcdR p5 p7 x σ 80 a (b % a) n (by omega) (by omega) this (by omega) h0
