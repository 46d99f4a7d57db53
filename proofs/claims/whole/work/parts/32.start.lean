/-! ===== the law's start ===== -/
theorem s_refs : ∀ k, k < 102 → ((jL k).2.2.all (fun f => match f with | none => true | some t => if k < 89 then decide (t < 89) else (decide (89 ≤ t) && decide (t < 102)))) = true := by decide +kernel
theorem jcell_congr {ad ad' : Nat → Nat} {cid : Nat → ClassId} {σ : jMem} {k : Nat} {q : Nat × Nat × List (Option Nat)} (h : ∀ t, some t ∈ q.2.2 → ad t = ad' t) : jcell ad cid σ k q = jcell ad' cid σ k q := by
  have h1 : jfs ad σ k q.2.2 = jfs ad' σ k q.2.2 := by
    apply List.ext_getElem?
    intro i
    simp only [jfs, List.getElem?_mapIdx]
    cases hf : q.2.2[i]? with
    | none => rfl
    | some f =>
      cases f with
      | none => rfl
      | some t => simp [jfv, h t (List.mem_of_getElem? hf)]
  have h2 : (fun i => (q.2.2.getD i none).map ad) = (fun i => (q.2.2.getD i none).map ad') := by
    funext i
    rw [List.getD_eq_getElem?_getD]
    cases hf : q.2.2[i]? with
    | none => rfl
    | some f =>
      cases f with
      | none => rfl
      | some t => simp [h t (List.mem_of_getElem? hf)]
  unfold jcell
  rw [h1, h2]
def s_ad (q0 : Nat) (qs : List Nat) (q1 : Nat) (qs' : List Nat) (b : Nat) : Nat → Nat := fun k => if k < 89 then (q0 :: qs).getD k 0 else if k < 102 then (q1 :: qs').getD (k - 89) 0 else b
theorem iC_range (cid : Nat → ClassId) (h0 : Nat) (qs : List Nat) : iC cid h0 qs = (List.range 89).map (fun k => ((h0 :: qs).getD k 0, icell (fun k => (h0 :: qs).getD k 0) cid jσ0 k (jL k))) := by
  unfold iC
  rw [show List.range 89 = [0, 1, 2, 3, 4, 5, 6, 7, 8, 9, 10, 11, 12, 13, 14, 15, 16, 17, 18, 19, 20, 21, 22, 23, 24, 25, 26, 27, 28, 29, 30, 31, 32, 33, 34, 35, 36, 37, 38, 39, 40, 41, 42, 43, 44, 45, 46, 47, 48, 49, 50, 51, 52, 53, 54, 55, 56, 57, 58, 59, 60, 61, 62, 63, 64, 65, 66, 67, 68, 69, 70, 71, 72, 73, 74, 75, 76, 77, 78, 79, 80, 81, 82, 83, 84, 85, 86, 87, 88] by decide]
theorem iM_range (cid : Nat → ClassId) (h0 : Nat) (qs : List Nat) : iM cid h0 qs = ((List.range 13).map (fun k => 89 + k)).map (fun k => ((h0 :: qs).getD (k - 89) 0, icell (fun k => (h0 :: qs).getD (k - 89) 0) cid jσ0 k (jL k))) := by
  unfold iM
  rw [show (List.range 13).map (fun k => 89 + k) = [89, 90, 91, 92, 93, 94, 95, 96, 97, 98, 99, 100, 101] by decide]
theorem s_mem {k t : Nat} (hk : k < 102) (h : some t ∈ (jL k).2.2) : if k < 89 then t < 89 else 89 ≤ t ∧ t < 102 := by
  have h1 := List.all_eq_true.mp (s_refs k hk) _ h
  by_cases c : k < 89
  · simpa [c] using h1
  · simpa [c] using h1
theorem s_world (cid : Nat → ClassId) (q0 : Nat) (qs : List Nat) (q1 : Nat) (qs' : List Nat) (b : Nat) : jwd (s_ad q0 qs q1 qs' b) cid jσ0 = iC cid q0 qs ++ iM cid q1 qs' := by
  apply List.ext_getElem?
  intro i
  rw [iC_range, iM_range]
  have hl : ((List.range 89).map (fun k => ((q0 :: qs).getD k 0, icell (fun k => (q0 :: qs).getD k 0) cid jσ0 k (jL k)))).length = 89 := by simp
  by_cases h1 : i < 89
  · rw [List.getElem?_append_left (by rw [hl]; exact h1), jwd_at (show i < jN by show i < 102; omega), List.getElem?_map, List.getElem?_range h1]
    simp only [Option.map_some]
    congr 1
    refine Prod.ext ?_ ?_
    · show s_ad q0 qs q1 qs' b i = _
      unfold s_ad
      rw [if_pos h1]
    · show jcell _ _ _ _ _ = icell _ _ _ _ _
      rw [icell_eq]
      refine jcell_congr (fun t ht => ?_)
      have := s_mem (by omega) ht
      rw [if_pos h1] at this
      unfold s_ad
      rw [if_pos this]
  · rw [List.getElem?_append_right (by rw [hl]; omega), hl]
    by_cases h2 : i < 102
    · rw [jwd_at (show i < jN from h2), List.getElem?_map, List.getElem?_map, List.getElem?_range (by omega)]
      simp only [Option.map_some]
      rw [show 89 + (i - 89) = i by omega]
      congr 1
      refine Prod.ext ?_ ?_
      · show s_ad q0 qs q1 qs' b i = _
        unfold s_ad
        rw [if_neg h1, if_pos h2]
      · show jcell _ _ _ _ _ = icell _ _ _ _ _
        rw [icell_eq]
        refine jcell_congr (fun t ht => ?_)
        have := s_mem h2 ht
        rw [if_neg h1] at this
        unfold s_ad
        rw [if_neg (by omega), if_pos this.2]
    · rw [List.getElem?_eq_none (by show _ ≤ i; simp [jwd, jN]; omega), List.getElem?_eq_none (by simp; omega)]
theorem i_hR (A : va_W) (x : Nat × va_E) (n : Nat) (h : A.length = n) : (List.range n).map (fun i => (A ++ [x])[i]?) = A.map some := by
  subst h
  apply List.ext_getElem?
  intro i
  rw [List.getElem?_map, List.getElem?_map]
  by_cases hi : i < A.length
  · rw [List.getElem?_range hi]
    simp [List.getElem?_append_left hi, List.getElem?_eq_getElem hi]
  · rw [List.getElem?_eq_none (by simp; omega), List.getElem?_eq_none (by omega)]
    rfl
theorem iC_len (cid : Nat → ClassId) (h0 : Nat) (qs : List Nat) : (iC cid h0 qs).length = 89 := by rw [iC_range]; simp
theorem i_astn {K : jK} {cc : ByteArray} {nL : Nat} {own : String} {fr lo mc ms pc c9 s9 : Nat} {ls ls' : List (Option Value)} {st : List Value} {ws : va_W} (X : IX K cc nL own fr lo mc ms) {q : Fin 4} (i : Nat) {x : Nat} (hd : decode cc pc = .ok (.astore_n q, 1)) (hi : (q : Nat) = i) (hn : i < ls.length) (hl : jst1 ls i (.ref x) = ls') (k : Iw K (pc + 1) ls' st ws c9 s9) : Iw K pc ls (.ref x :: st) ws c9 s9 := i_astore_n X i hd hi hn hl k
set_option maxRecDepth 100000 in
set_option maxHeartbeats 8000000 in
theorem whole_from {Inv : jMem → Prop} (S : simAll Inv) (hI0 : Inv jσ0) {p : Program} {e : Env} {s : State} {m : MethodId} {below : List Frame} {meth : Method} {c : Code} (l : Launch) {b L : Nat} {xs : Nat → Int32} (hL : L ≤ 384) (C0 : lw_At p s m meth c b L xs) : W p l e room_1 s m #[Value.ref b] below meth c s.heap [] 0 0 (lw_Z below #[Value.ref b] s) (entryFrame m ([Value.ref b] : List Value).toArray 4) := by
  obtain ⟨hx, hb, hr, hml, hown, hts, hX, hbl, hlocks, hgv⟩ := id C0
  have htt : ∀ w ∈ TT, w.before #[Value.ref b] s = true := fun w h => hts w (List.mem_filter.mp h).1
  have hfl := flat_of_before _ hgv
  obtain ⟨c0, iS0, hKn0⟩ := u_known (C := RX0) (T := TX0) (N := 5) (n := 5) htt inT_0 (htt _ tw_245)
  obtain ⟨c1, iS1, hKn1⟩ := u_known (C := RX1) (T := TX1) (N := 0) (n := 0) htt inT_1 (htt _ tw_97)
  obtain ⟨c2, iS2, hKn2⟩ := u_known (C := RX2) (T := TX2) (N := 8) (n := 8) htt inT_2 (htt _ tw_205)
  obtain ⟨c3, iS3, hKn3⟩ := u_known (C := RX3) (T := TX3) (N := 0) (n := 0) htt inT_3 (htt _ tw_104)
  obtain ⟨c4, iS4, hKn4⟩ := u_known (C := RX4) (T := TX4) (N := 0) (n := 0) htt inT_4 (htt _ tw_90)
  obtain ⟨c5, iS5, hKn5⟩ := u_known (C := RX5) (T := TX5) (N := 15) (n := 15) htt inT_5 (htt _ tw_125)
  obtain ⟨c6, iS6, hKn6⟩ := u_known (C := RX6) (T := TX6) (N := 3) (n := 3) htt inT_6 (htt _ tw_26)
  obtain ⟨c7, iS7, hKn7⟩ := u_known (C := RX7) (T := TX7) (N := 0) (n := 0) htt inT_7 (htt _ tw_118)
  obtain ⟨c8, iS8, hKn8⟩ := u_known (C := RX8) (T := TX8) (N := 0) (n := 0) htt inT_8 (htt _ tw_111)
  obtain ⟨c9, iS9, hKn9⟩ := u_known (C := RX9) (T := TX9) (N := 8) (n := 8) htt inT_9 (htt _ tw_48)
  obtain ⟨c10, iS10, hKn10⟩ := u_known (C := RX10) (T := TX10) (N := 0) (n := 0) htt inT_10 (htt _ tw_83)
  obtain ⟨c11, iS11, hKn11⟩ := u_known (C := RX11) (T := TX11) (N := 13) (n := 13) htt inT_11 (htt _ tw_18)
  obtain ⟨c12, iS12, hKn12⟩ := u_known (C := RX12) (T := TX12) (N := 27) (n := 27) htt inT_12 (htt _ tw_848)
  obtain ⟨dC, dI, hKc⟩ : ∃ (dC : Nat → ClassId) (dI : Nat → Nat → Nat), ∀ (k : Nat) (q : vw_C), vwCl[k]? = some q → u_Kn s q.1 q.2.1 q.2.2 (dC k) (dI k) := by
    refine ⟨fun k => if k = 0 then c0 else if k = 1 then c1 else if k = 2 then c2 else if k = 3 then c3 else if k = 4 then c4 else if k = 5 then c5 else if k = 6 then c6 else if k = 7 then c7 else if k = 8 then c8 else if k = 9 then c9 else if k = 10 then c10 else if k = 11 then c11 else c12, fun k => if k = 0 then iS0 else if k = 1 then iS1 else if k = 2 then iS2 else if k = 3 then iS3 else if k = 4 then iS4 else if k = 5 then iS5 else if k = 6 then iS6 else if k = 7 then iS7 else if k = 8 then iS8 else if k = 9 then iS9 else if k = 10 then iS10 else if k = 11 then iS11 else iS12, ?_⟩
    intro k q hq
    match k, hq with
    | 0, hq => cases hq; exact hKn0
    | 1, hq => cases hq; exact hKn1
    | 2, hq => cases hq; exact hKn2
    | 3, hq => cases hq; exact hKn3
    | 4, hq => cases hq; exact hKn4
    | 5, hq => cases hq; exact hKn5
    | 6, hq => cases hq; exact hKn6
    | 7, hq => cases hq; exact hKn7
    | 8, hq => cases hq; exact hKn8
    | 9, hq => cases hq; exact hKn9
    | 10, hq => cases hq; exact hKn10
    | 11, hq => cases hq; exact hKn11
    | 12, hq => cases hq; exact hKn12
    | k + 13, hq => simp [vwCl] at hq
  obtain ⟨aI, kI, cI, fI1, fI2, fI3⟩ := Cond.arrayClass_spec (htt _ tw_46)
  obtain ⟨aZ, kZ, cZ, fZ1, fZ2, fZ3⟩ := Cond.arrayClass_spec (htt _ tw_935)
  obtain ⟨aJ, kJ, cJ, fJ1, fJ2, fJ3⟩ := Cond.arrayClass_spec (htt _ tw_243)
  have hoW : (Cond.arrayOver (.object "CoffinWays$Witness")).before #[Value.ref b] s = true := (hts _ (List.mem_append_right _ (List.mem_of_getElem? (i := 82) (by decide +kernel))))
  have hoP : (Cond.arrayOver (.object "CoffinWays$Parish")).before #[Value.ref b] s = true := (hts _ (List.mem_append_right _ (List.mem_of_getElem? (i := 202) (by decide +kernel))))
  have hoA : (Cond.arrayOver (.array .int)).before #[Value.ref b] s = true := (hts _ (List.mem_append_right _ (List.mem_of_getElem? (i := 32) (by decide +kernel))))
  obtain ⟨cW, aW, kW, fW1, -, fW2, fW3, fW4⟩ := Cond.arrayOver_spec hoW
  obtain ⟨cP, aP, kP, fP1, -, fP2, fP3, fP4⟩ := Cond.arrayOver_spec hoP
  obtain ⟨cA, aA, kA9, fA1, -, fA2, fA3, fA4⟩ := arrayOverA_spec hoA
  obtain ⟨cid, e0, e1, e2, e3, e4, e5, e6⟩ : ∃ cid : Nat → ClassId, cid 0 = aI ∧ cid 1 = aI ∧ cid 2 = aZ ∧ cid 3 = aJ ∧ cid 4 = aW ∧ cid 5 = aP ∧ cid 6 = aA := ⟨fun k => [aI, aI, aZ, aJ, aW, aP, aA].getD k aI, rfl, rfl, rfl, rfl, rfl, rfl, rfl⟩
  have hK : va_K (dC, dI) vwCl (jtys cid) s := by
    refine ⟨hKc, fun k q h => ?_⟩
    match k, h with
    | 0, h => cases h; rw [e0]; exact ⟨fun n z => ⟨(fun k h => by cases h), kI, fI2, cI, fI3⟩, fI1⟩
    | 1, h => cases h; rw [e1]; exact ⟨fun n z => ⟨(fun k h => by cases h), kI, fI2, cI, fI3⟩, fI1⟩
    | 2, h => cases h; rw [e2]; exact ⟨fun n z => ⟨(fun k h => by cases h), kZ, fZ2, cZ, fZ3⟩, fZ1⟩
    | 3, h => cases h; rw [e3]; exact ⟨fun n z => ⟨(fun k h => by cases h), kJ, fJ2, cJ, fJ3⟩, fJ1⟩
    | 4, h => cases h; rw [e4]; exact ⟨fun n z => ⟨(fun k h => by cases h), kW, fW2, cW, fW3⟩, kW, cW, fW2, fW3, fW1, fW4⟩
    | 5, h => cases h; rw [e5]; exact ⟨fun n z => ⟨(fun k h => by cases h), kP, fP2, cP, fP3⟩, kP, cP, fP2, fP3, fP1, fP4⟩
    | 6, h => cases h; rw [e6]; exact ⟨fun n z => ⟨(fun k h => by cases h), kA9, fA2, cA, fA3⟩, fA4⟩
    | k + 7, h => simp [jtys] at h
  have hZ : iZ s := ⟨⟨(List.forall_mem_cons.mpr ⟨va_Nw.of rfl (hts _ (List.mem_append_right _ (List.mem_of_getElem? (i := 84) (by decide +kernel)))), (List.forall_mem_cons.mpr ⟨va_Nw.of rfl (hts _ (List.mem_append_right _ (List.mem_of_getElem? (i := 91) (by decide +kernel)))), (List.forall_mem_cons.mpr ⟨va_Nw.of rfl (hts _ (List.mem_append_right _ (List.mem_of_getElem? (i := 94) (by decide +kernel)))), (List.forall_mem_cons.mpr ⟨va_Nw.of rfl (hts _ (List.mem_append_right _ (List.mem_of_getElem? (i := 98) (by decide +kernel)))), (List.forall_mem_cons.mpr ⟨va_Nw.of rfl (hts _ (List.mem_append_right _ (List.mem_of_getElem? (i := 101) (by decide +kernel)))), (List.forall_mem_cons.mpr ⟨va_Nw.of rfl (hts _ (List.mem_append_right _ (List.mem_of_getElem? (i := 105) (by decide +kernel)))), (List.forall_mem_cons.mpr ⟨va_Nw.of rfl (hts _ (List.mem_append_right _ (List.mem_of_getElem? (i := 108) (by decide +kernel)))), (List.forall_mem_cons.mpr ⟨va_Nw.of rfl (hts _ (List.mem_append_right _ (List.mem_of_getElem? (i := 112) (by decide +kernel)))), (List.forall_mem_cons.mpr ⟨va_Nw.of rfl (hts _ (List.mem_append_right _ (List.mem_of_getElem? (i := 115) (by decide +kernel)))), (List.forall_mem_cons.mpr ⟨va_Nw.of rfl (hts _ (List.mem_append_right _ (List.mem_of_getElem? (i := 119) (by decide +kernel)))), (List.forall_mem_cons.mpr ⟨va_Nw.of rfl (hts _ (List.mem_append_right _ (List.mem_of_getElem? (i := 122) (by decide +kernel)))), (List.forall_mem_cons.mpr ⟨va_Nw.of rfl (hts _ (List.mem_append_right _ (List.mem_of_getElem? (i := 490) (by decide +kernel)))), (List.forall_mem_cons.mpr ⟨va_Nw.of rfl (hts _ (List.mem_append_right _ (List.mem_of_getElem? (i := 569) (by decide +kernel)))), (fun _ h => absurd h List.not_mem_nil)⟩)⟩)⟩)⟩)⟩)⟩)⟩)⟩)⟩)⟩)⟩)⟩)⟩), (List.forall_mem_cons.mpr ⟨va_Nw.of rfl (hts _ (List.mem_append_right _ (List.mem_of_getElem? (i := 1294) (by decide +kernel)))), (List.forall_mem_cons.mpr ⟨va_Nw.of rfl (hts _ (List.mem_append_right _ (List.mem_of_getElem? (i := 1295) (by decide +kernel)))), (List.forall_mem_cons.mpr ⟨va_Nw.of rfl (hts _ (List.mem_append_right _ (List.mem_of_getElem? (i := 1296) (by decide +kernel)))), (List.forall_mem_cons.mpr ⟨va_Nw.of rfl (hts _ (List.mem_append_right _ (List.mem_of_getElem? (i := 1297) (by decide +kernel)))), (List.forall_mem_cons.mpr ⟨va_Nw.of rfl (hts _ (List.mem_append_right _ (List.mem_of_getElem? (i := 1298) (by decide +kernel)))), (List.forall_mem_cons.mpr ⟨va_Nw.of rfl (hts _ (List.mem_append_right _ (List.mem_of_getElem? (i := 1299) (by decide +kernel)))), (List.forall_mem_cons.mpr ⟨va_Nw.of rfl (hts _ (List.mem_append_right _ (List.mem_of_getElem? (i := 1300) (by decide +kernel)))), (List.forall_mem_cons.mpr ⟨va_Nw.of rfl (hts _ (List.mem_append_right _ (List.mem_of_getElem? (i := 1301) (by decide +kernel)))), (fun _ h => absurd h List.not_mem_nil)⟩)⟩)⟩)⟩)⟩)⟩)⟩)⟩), (List.forall_mem_cons.mpr ⟨va_Nc.of (hfl _ (by decide +kernel)), (List.forall_mem_cons.mpr ⟨va_Nc.of (hfl _ (by decide +kernel)), (List.forall_mem_cons.mpr ⟨va_Nc.of (hfl _ (by decide +kernel)), (List.forall_mem_cons.mpr ⟨va_Nc.of (hfl _ (by decide +kernel)), (List.forall_mem_cons.mpr ⟨va_Nc.of (hfl _ (by decide +kernel)), (List.forall_mem_cons.mpr ⟨va_Nc.of (hfl _ (by decide +kernel)), (List.forall_mem_cons.mpr ⟨va_Nc.of (hfl _ (by decide +kernel)), (List.forall_mem_cons.mpr ⟨va_Nc.of (hfl _ (by decide +kernel)), (List.forall_mem_cons.mpr ⟨va_Nc.of (hfl _ (by decide +kernel)), (List.forall_mem_cons.mpr ⟨va_Nc.of (hfl _ (by decide +kernel)), (List.forall_mem_cons.mpr ⟨va_Nc.of (hfl _ (by decide +kernel)), (List.forall_mem_cons.mpr ⟨va_Nc.of (hfl _ (by decide +kernel)), (List.forall_mem_cons.mpr ⟨va_Nc.of (hfl _ (by decide +kernel)), (List.forall_mem_cons.mpr ⟨va_Nc.of (hfl _ (by decide +kernel)), (List.forall_mem_cons.mpr ⟨va_Nc.of (hfl _ (by decide +kernel)), (List.forall_mem_cons.mpr ⟨va_Nc.of (hfl _ (by decide +kernel)), (List.forall_mem_cons.mpr ⟨va_Nc.of (hfl _ (by decide +kernel)), (List.forall_mem_cons.mpr ⟨va_Nc.of (hfl _ (by decide +kernel)), (List.forall_mem_cons.mpr ⟨va_Nc.of (hfl _ (by decide +kernel)), (List.forall_mem_cons.mpr ⟨va_Nc.of (hfl _ (by decide +kernel)), (List.forall_mem_cons.mpr ⟨va_Nc.of (hfl _ (by decide +kernel)), (List.forall_mem_cons.mpr ⟨va_Nc.of (hfl _ (by decide +kernel)), (fun _ h => absurd h List.not_mem_nil)⟩)⟩)⟩)⟩)⟩)⟩)⟩)⟩)⟩)⟩)⟩)⟩)⟩)⟩)⟩)⟩)⟩)⟩)⟩)⟩)⟩)⟩)⟩, va_AO.of hoW, va_AO.of hoP, by exact hoA⟩
  have X1 : IX (p, l, e, room_1, s, m, #[Value.ref b], below, meth, c, (dC, dI), id, cid, s.heap, (fun q : Nat => s.heap.size ≤ q), 0, 0, lw_Z below #[Value.ref b] s) code 4 RL 10 354 102 4229 := ⟨hx, hb, hml, hown, htt, hK, fun _ h => h, ⟨(Nat.le_of_ble_eq_true rfl), (Nat.le_of_ble_eq_true rfl), (Nat.le_of_ble_eq_true rfl), (Nat.le_of_ble_eq_true rfl)⟩, hZ⟩
  have walk : Iw (p, l, e, room_1, s, m, #[Value.ref b], below, meth, c, (dC, dI), id, cid, s.heap, (fun q : Nat => s.heap.size ≤ q), 0, 0, lw_Z below #[Value.ref b] s) 0 [some (.ref b), none, none, none] [] [] 0 0 := by
    refine i_new (ci := 11) (fs := [.null, .null, .null, .null, .null, .null, .null, .int 0, .int 0, .null, .null, .null, .int 0]) X1 tyX11 inT_11 tyX11_ok tw_17 tw_18 tw_1 rfl (fun j hj => by rcases (show j = 0 ∨ j = 1 ∨ j = 2 ∨ j = 3 ∨ j = 4 ∨ j = 5 ∨ j = 6 ∨ j = 7 ∨ j = 8 ∨ j = 9 ∨ j = 10 ∨ j = 11 ∨ j = 12 by omega) with rfl | rfl | rfl | rfl | rfl | rfl | rfl | rfl | rfl | rfl | rfl | rfl | rfl <;> rfl) (Nat.le_of_ble_eq_true rfl) (Nat.le_of_ble_eq_true rfl) dL_law_0 (fun q0 => ?_)
    refine i_dup X1 dL_law_3 rfl ?_
    refine i_callI (as := []) (st := [.ref q0]) (wr := []) X1 (⟨tw_19, tw_20, tw_1, tw_21, rfl, by decide, by decide, by decide +kernel⟩ : iSi RL 9 yX11_init cX11_init 2 0) 0 [] rfl rfl (by decide) (by decide) ⟨by decide, by decide⟩ rfl rfl (Nat.le_of_ble_eq_true rfl) rfl dL_law_4 (Nat.le_of_ble_eq_true rfl) (Nat.le_of_ble_eq_true rfl) (ci_X11_init q0) (fun qs hqs => ?_)
    refine i_astore_n (ls' := [some (.ref b), some (.ref q0), none, none]) X1 1 dL_law_7 rfl (Nat.le_of_ble_eq_true rfl) rfl ?_
    refine i_eq (ws' := iC cid q0 qs) (c9' := 89) (s9' := 1757) rfl rfl rfl ?_
    refine i_new (ci := 12) (fs := [.int 0, .int 0, .null, .null, .null, .null, .null, .null, .null, .int 0, .null, .int 0, .int 0, .int 0, .int 0, .int 0, .int 0, .int 0, .int 0, .null, .int 0, .int 0, .int 0, .null, .null, .null, .int 0]) X1 tyX12 inT_12 tyX12_ok tw_847 tw_848 tw_13 rfl (fun j hj => by rcases (show j = 0 ∨ j = 1 ∨ j = 2 ∨ j = 3 ∨ j = 4 ∨ j = 5 ∨ j = 6 ∨ j = 7 ∨ j = 8 ∨ j = 9 ∨ j = 10 ∨ j = 11 ∨ j = 12 ∨ j = 13 ∨ j = 14 ∨ j = 15 ∨ j = 16 ∨ j = 17 ∨ j = 18 ∨ j = 19 ∨ j = 20 ∨ j = 21 ∨ j = 22 ∨ j = 23 ∨ j = 24 ∨ j = 25 ∨ j = 26 by omega) with rfl | rfl | rfl | rfl | rfl | rfl | rfl | rfl | rfl | rfl | rfl | rfl | rfl | rfl | rfl | rfl | rfl | rfl | rfl | rfl | rfl | rfl | rfl | rfl | rfl | rfl | rfl <;> rfl) (Nat.le_of_ble_eq_true rfl) (Nat.le_of_ble_eq_true rfl) dL_law_8 (fun q1 => ?_)
    refine i_dup X1 dL_law_11 rfl ?_
    refine i_callI (as := []) (st := [.ref q1]) (wr := iC cid q0 qs) X1 (⟨tw_849, tw_850, tw_13, tw_851, rfl, by decide, by decide, by decide +kernel⟩ : iSi RL 12 yX12_init cX12_init 1 0) 89 (List.range 89) (by rw [List.getElem?_append_right (by rw [iC_len]; omega), iC_len]; rfl) (i_hR _ _ _ (iC_len _ _ _)) (by decide) (by decide) ⟨by decide, by decide⟩ rfl rfl (Nat.le_of_ble_eq_true rfl) rfl dL_law_12 (Nat.le_of_ble_eq_true rfl) (Nat.le_of_ble_eq_true rfl) (ci_X12_init q1) (fun qs' hqs' => ?_)
    refine i_astore_n (ls' := [some (.ref b), some (.ref q0), some (.ref q1), none]) X1 2 dL_law_15 rfl (Nat.le_of_ble_eq_true rfl) rfl ?_
    refine i_iconst (v := 0) X1 dL_law_16 (by decide) ?_
    refine i_istore_n (ls' := [some (.ref b), some (.ref q0), some (.ref q1), some (.int 0)]) X1 3 dL_law_17 rfl (Nat.le_of_ble_eq_true rfl) rfl ?_
    refine i_eq (ws' := iC cid q0 qs ++ iM cid q1 qs') (c9' := 102) (s9' := 4229) rfl rfl rfl ?_
    intro H locs sl hP hD hS hLv
    have hP : va_P (dC, dI) vwCl (iC cid q0 qs ++ iM cid q1 qs') H := hP
    have hD : va_D (fun q : Nat => s.heap.size ≤ q) (iC cid q0 qs ++ iM cid q1 qs') := hD
    rw [← s_world cid q0 qs q1 qs' b] at hP hD
    have hJI : jI (s_ad q0 qs q1 qs' b) := fun i j hi hj h => hD.1 i j _ _ (jwd_at hi) (jwd_at hj) h
    have hJA : ∀ k, k < jN → s.heap.size ≤ s_ad q0 qs q1 qs' b k := fun k hk => hD.2 k _ (jwd_at hk)
    have X2 : JX (p, l, e, room_1, s, m, #[Value.ref b], below, meth, c, (dC, dI), s_ad q0 qs q1 qs' b, cid, s.heap, (fun q : Nat => s.heap.size ≤ q), 102, 4229, lw_Z below #[Value.ref b] s) cL_law 4 RL 10 354 := ⟨hx, hb, hml, hown, htt, hK, hJI, hJA, ⟨(Nat.le_of_ble_eq_true rfl), (Nat.le_of_ble_eq_true rfl), (Nat.le_of_ble_eq_true rfl), (Nat.le_of_ble_eq_true rfl)⟩, hZ.1⟩
    have Y : LX (p, l, e, room_1, s, m, #[Value.ref b], below, meth, c, (dC, dI), s_ad q0 qs q1 qs' b, cid, s.heap, (fun q : Nat => s.heap.size ≤ q), 102, 4229, lw_Z below #[Value.ref b] s) b L xs := ⟨hX, hbl, Nat.not_le.mpr hbl, rfl⟩
    have kend : ∀ (x3 : Int32) (σ : jMem), J (p, l, e, room_1, s, m, #[Value.ref b], below, meth, c, (dC, dI), s_ad q0 qs q1 qs' b, cid, s.heap, (fun q : Nat => s.heap.size ≤ q), 102, 4229, lw_Z below #[Value.ref b] s) 1244 [some (.ref 102), some (.ref 0), some (.ref 89), some (.int x3)] [] σ := by
      intro x3 σ
      refine j_iconst (v := 1) X2 dL_law_1244 (by decide) ?_
      intro H locs sl hP hS hLv
      refine va_forget (fun q hq => hS.2.2 q hq) ?_
      refine W.widen (k := 600000) (n := 7302250) (Nat.le_of_ble_eq_true rfl) (Nat.le_of_ble_eq_true rfl) ?_
      exact lw_ret hx hb hr hlocks dL_law_1245
    have JJ := law_loop hL X2 Y S kend (L + 1) 0 0 jσ0 (by omega) nI_0.symm (by omega) hI0
    exact JJ H locs sl hP hS ⟨hLv.1, hLv.2.1, fun i v hi => by
      match i, hi with
      | 0, hi => cases hi; exact hLv.2.2 0 (.ref b) rfl
      | 1, hi => cases hi; exact hLv.2.2 1 (.ref q0) rfl
      | 2, hi => cases hi; exact hLv.2.2 2 (.ref q1) rfl
      | 3, hi => cases hi; exact hLv.2.2 3 (.int 0) rfl
      | i + 4, hi => simp at hi⟩
  have hl := lv_entry ([.ref b]) (n := 4) (Nat.le_of_ble_eq_true rfl)
  rw [lg_entry_eq]
  generalize (lg_sl ([.ref b]) ++ List.replicate (4 - (lg_sl ([.ref b])).length) Slot.unset).toArray = sl at hl ⊢
  refine walk s.heap [] sl (fun k q h => by simp at h) ⟨fun i j p q h => by simp at h, fun k q h => by simp at h⟩ va_S.rf ?_
  exact ⟨hl.1, hl.2.1, fun i v hi => by
    match i, hi with
    | 0, hi => cases hi; exact hl.2.2 (0, .ref b) (by simp [lv_args])
    | 1, hi => simp at hi
    | 2, hi => simp at hi
    | 3, hi => simp at hi
    | i + 4, hi => simp at hi⟩
