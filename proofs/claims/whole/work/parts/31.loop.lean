def sim_row (Inv : jMem → Prop) : Prop := ∀ (σ : jMem) (a1 a2 a3 : Int32), Inv σ → ∃ (r : Int32) (σ1 σ2 : jMem), f_X11_row a1 a2 a3 σ = some (r, σ1) ∧ f_X12_row a1 a2 a3 σ1 = some (r, σ2) ∧ Inv σ2
def sim_set (Inv : jMem → Prop) : Prop := ∀ (σ : jMem) (a1 a2 a3 : Int32), Inv σ → ∃ (r : Int32) (σ1 σ2 : jMem), f_X11_set a1 a2 a3 σ = some (r, σ1) ∧ f_X12_set a1 a2 a3 σ1 = some (r, σ2) ∧ Inv σ2
def sim_copy (Inv : jMem → Prop) : Prop := ∀ (σ : jMem) (a1 a2 a3 a4 a5 : Int32), Inv σ → ∃ (r : Int32) (σ1 σ2 : jMem), f_X11_copy a1 a2 a3 a4 a5 σ = some (r, σ1) ∧ f_X12_copy a1 a2 a3 a4 a5 σ1 = some (r, σ2) ∧ Inv σ2
def sim_drop (Inv : jMem → Prop) : Prop := ∀ (σ : jMem) (a1 : Int32), Inv σ → ∃ (r : Int32) (σ1 σ2 : jMem), f_X11_drop a1 σ = some (r, σ1) ∧ f_X12_drop a1 σ1 = some (r, σ2) ∧ Inv σ2
def sim_feed (Inv : jMem → Prop) : Prop := ∀ (σ : jMem) (a1 : Int32), Inv σ → ∃ (r : Int32) (σ1 σ2 : jMem), f_X11_feed a1 σ = some (r, σ1) ∧ f_X12_feed a1 σ1 = some (r, σ2) ∧ Inv σ2
def sim_parish (Inv : jMem → Prop) : Prop := ∀ (σ : jMem), Inv σ → ∃ (r : Int32) (σ1 σ2 : jMem), f_X11_parish  σ = some (r, σ1) ∧ f_X12_parish  σ1 = some (r, σ2) ∧ Inv σ2
def sim_fault (Inv : jMem → Prop) : Prop := ∀ (σ : jMem), Inv σ → ∃ (r : Int32) (σ1 σ2 : jMem), f_X11_fault  σ = some (r, σ1) ∧ f_X12_fault  σ1 = some (r, σ2) ∧ Inv σ2
def sim_undo (Inv : jMem → Prop) : Prop := ∀ (σ : jMem), Inv σ → ∃ (r : Int32) (σ1 σ2 : jMem), f_X11_undo  σ = some (r, σ1) ∧ f_X12_undo  σ1 = some (r, σ2) ∧ Inv σ2
def sim_bury (Inv : jMem → Prop) : Prop := ∀ (σ : jMem) (a1 : Int32), Inv σ → ∃ (r : Int32) (σ1 σ2 : jMem), f_X11_bury a1 σ = some (r, σ1) ∧ f_X12_bury a1 σ1 = some (r, σ2) ∧ Inv σ2
def sim_years (Inv : jMem → Prop) : Prop := ∀ (σ : jMem) (a1 : Int32), Inv σ → ∃ (r : Int32) (σ1 σ2 : jMem), f_X11_years a1 σ = some (r, σ1) ∧ f_X12_years a1 σ1 = some (r, σ2) ∧ Inv σ2
def sim_lock (Inv : jMem → Prop) : Prop := ∀ (σ : jMem) (a1 a2 : Int32), Inv σ → ∃ (r : Int32) (σ1 σ2 : jMem), f_X11_lock a1 a2 σ = some (r, σ1) ∧ f_X12_lock a1 a2 σ1 = some (r, σ2) ∧ Inv σ2
def sim_follow (Inv : jMem → Prop) : Prop := ∀ (σ : jMem) (a1 : Int32), Inv σ → ∃ (r : Int32) (σ1 σ2 : jMem), f_X11_follow a1 σ = some (r, σ1) ∧ f_X12_follow a1 σ1 = some (r, σ2) ∧ Inv σ2
def sim_witness (Inv : jMem → Prop) : Prop := ∀ (σ : jMem) (a1 a2 : Int32), Inv σ → ∃ (r : Int32) (σ1 σ2 : jMem), f_X11_witness a1 a2 σ = some (r, σ1) ∧ f_X12_witness a1 a2 σ1 = some (r, σ2) ∧ Inv σ2
def sim_path (Inv : jMem → Prop) : Prop := ∀ (σ : jMem) (a1 a2 : Int32), Inv σ → ∃ (r : Int32) (σ1 σ2 : jMem), f_X11_path a1 a2 σ = some (r, σ1) ∧ f_X12_path a1 a2 σ1 = some (r, σ2) ∧ Inv σ2
def sim_stand (Inv : jMem → Prop) : Prop := ∀ (σ : jMem) (a1 : Int32), Inv σ → ∃ (r : Int32) (σ1 σ2 : jMem), f_X11_stand a1 σ = some (r, σ1) ∧ f_X12_stand a1 σ1 = some (r, σ2) ∧ Inv σ2
def sim_ahead (Inv : jMem → Prop) : Prop := ∀ (σ : jMem) (a1 : Int32), Inv σ → ∃ (r : Int32) (σ1 σ2 : jMem), f_X11_ahead a1 σ = some (r, σ1) ∧ f_X12_ahead a1 σ1 = some (r, σ2) ∧ Inv σ2
def sim_lost (Inv : jMem → Prop) : Prop := ∀ (σ : jMem) (a1 : Int32), Inv σ → ∃ (r : Int32) (σ1 σ2 : jMem), f_X11_lost a1 σ = some (r, σ1) ∧ f_X12_lost a1 σ1 = some (r, σ2) ∧ Inv σ2
def sim_goes (Inv : jMem → Prop) : Prop := ∀ (σ : jMem) (a1 a2 : Int32), Inv σ → ∃ (r : Int32) (σ1 σ2 : jMem), f_X11_goes a1 a2 σ = some (r, σ1) ∧ f_X12_goes a1 a2 σ1 = some (r, σ2) ∧ Inv σ2
def sim_stop (Inv : jMem → Prop) : Prop := ∀ (σ : jMem) (a1 a2 : Int32), Inv σ → ∃ (r : Int32) (σ1 σ2 : jMem), f_X11_stop a1 a2 σ = some (r, σ1) ∧ f_X12_stop a1 a2 σ1 = some (r, σ2) ∧ Inv σ2
def sim_must (Inv : jMem → Prop) : Prop := ∀ (σ : jMem) (a1 : Int32), Inv σ → ∃ (r : Int32) (σ1 σ2 : jMem), f_X11_must a1 σ = some (r, σ1) ∧ f_X12_must_ a1 σ1 = some (r, σ2) ∧ Inv σ2
def sim_live (Inv : jMem → Prop) : Prop := ∀ (σ : jMem) (a1 a2 : Int32), Inv σ → ∃ (r : Int32) (σ1 σ2 : jMem), f_X11_live a1 a2 σ = some (r, σ1) ∧ f_X12_live a1 a2 σ1 = some (r, σ2) ∧ Inv σ2
def sim_makes (Inv : jMem → Prop) : Prop := ∀ (σ : jMem) (a1 : Int32), Inv σ → ∃ (r : Int32) (σ1 σ2 : jMem), f_X11_makes a1 σ = some (r, σ1) ∧ f_X12_makes a1 σ1 = some (r, σ2) ∧ Inv σ2
def sim_best (Inv : jMem → Prop) : Prop := ∀ (σ : jMem) (a1 : Int32), Inv σ → ∃ (r : Int32) (σ1 σ2 : jMem), f_X11_best a1 σ = some (r, σ1) ∧ f_X12_best a1 σ1 = some (r, σ2) ∧ Inv σ2
def sim_from (Inv : jMem → Prop) : Prop := ∀ (σ : jMem) (a1 a2 : Int32), Inv σ → ∃ (r : Int32) (σ1 σ2 : jMem), f_X11_from a1 a2 σ = some (r, σ1) ∧ f_X12_from a1 a2 σ1 = some (r, σ2) ∧ Inv σ2
def sim_who (Inv : jMem → Prop) : Prop := ∀ (σ : jMem) (a1 a2 a3 a4 : Int32), Inv σ → ∃ (r : Int32) (σ1 σ2 : jMem), f_X11_who a1 a2 a3 a4 σ = some (r, σ1) ∧ f_X12_who a1 a2 a3 a4 σ1 = some (r, σ2) ∧ Inv σ2
def sim_far (Inv : jMem → Prop) : Prop := ∀ (σ : jMem) (a1 : Int32), Inv σ → ∃ (r : Int32) (σ1 σ2 : jMem), f_X11_far a1 σ = some (r, σ1) ∧ f_X12_far a1 σ1 = some (r, σ2) ∧ Inv σ2
def sim_pairs (Inv : jMem → Prop) : Prop := ∀ (σ : jMem), Inv σ → ∃ (r : Int32) (σ1 σ2 : jMem), f_X11_pairs  σ = some (r, σ1) ∧ f_X12_pairs  σ1 = some (r, σ2) ∧ Inv σ2
def sim_locked (Inv : jMem → Prop) : Prop := ∀ (σ : jMem) (a1 a2 a3 : Int32), Inv σ → ∃ (r : Int64) (σ1 σ2 : jMem), f_X11_locked a1 a2 a3 σ = some (r, σ1) ∧ f_X12_locked a1 a2 a3 σ1 = some (r, σ2) ∧ Inv σ2
def sim_drawn (Inv : jMem → Prop) : Prop := ∀ (σ : jMem) (a1 a2 a3 : Int32), Inv σ → ∃ (r : Int32) (σ1 σ2 : jMem), f_X11_drawn a1 a2 a3 σ = some (r, σ1) ∧ f_X12_drawn a1 a2 a3 σ1 = some (r, σ2) ∧ Inv σ2
def sim_image (Inv : jMem → Prop) : Prop := ∀ (σ : jMem) (a1 : Int32), Inv σ → ∃ (r : Int32) (σ1 σ2 : jMem), f_X11_image a1 σ = some (r, σ1) ∧ f_X12_image a1 σ1 = some (r, σ2) ∧ Inv σ2
def sim_restore (Inv : jMem → Prop) : Prop := ∀ (σ : jMem) (a1 : Int32), Inv σ → ∃ (r : Int32) (σ1 σ2 : jMem), f_X11_restore a1 σ = some (r, σ1) ∧ f_X12_restore a1 σ1 = some (r, σ2) ∧ Inv σ2
def sim_kind (Inv : jMem → Prop) : Prop := ∀ (σ : jMem) (a1 : Int32), Inv σ → ∃ (r : Int32) (σ1 σ2 : jMem), f_X11_kind a1 σ = some (r, σ1) ∧ f_X12_kind a1 σ1 = some (r, σ2) ∧ Inv σ2
def sim_as (Inv : jMem → Prop) : Prop := ∀ (σ : jMem) (a1 a2 : Int32), Inv σ → ∃ (r : Int32) (σ1 σ2 : jMem), f_X11_as a1 a2 σ = some (r, σ1) ∧ f_X12_as a1 a2 σ1 = some (r, σ2) ∧ Inv σ2
def sim_ask (Inv : jMem → Prop) : Prop := ∀ (σ : jMem) (a1 a2 : Int32), Inv σ → ∃ (r : Int32) (σ1 σ2 : jMem), f_X11_ask a1 a2 σ = some (r, σ1) ∧ f_X12_ask a1 a2 σ1 = some (r, σ2) ∧ Inv σ2
def sim_trace (Inv : jMem → Prop) : Prop := ∀ (σ : jMem) (a1 : Int32), Inv σ → ∃ (r : Int32) (σ1 σ2 : jMem), f_X11_trace a1 σ = some (r, σ1) ∧ f_X12_trace a1 σ1 = some (r, σ2) ∧ Inv σ2
def sim_count (Inv : jMem → Prop) : Prop := ∀ (σ : jMem) (a1 : Int32), Inv σ → ∃ (r : Int32) (σ1 σ2 : jMem), f_X11_count a1 σ = some (r, σ1) ∧ f_X12_count a1 σ1 = some (r, σ2) ∧ Inv σ2
def sim_status (Inv : jMem → Prop) : Prop := ∀ (σ : jMem), Inv σ → ∃ (r : Int32) (σ1 σ2 : jMem), f_X11_status  σ = some (r, σ1) ∧ f_X12_status  σ1 = some (r, σ2) ∧ Inv σ2
def simAll (Inv : jMem → Prop) : Prop := sim_row Inv ∧ sim_set Inv ∧ sim_copy Inv ∧ sim_drop Inv ∧ sim_feed Inv ∧ sim_parish Inv ∧ sim_fault Inv ∧ sim_undo Inv ∧ sim_bury Inv ∧ sim_years Inv ∧ sim_lock Inv ∧ sim_follow Inv ∧ sim_witness Inv ∧ sim_path Inv ∧ sim_stand Inv ∧ sim_ahead Inv ∧ sim_lost Inv ∧ sim_goes Inv ∧ sim_stop Inv ∧ sim_must Inv ∧ sim_live Inv ∧ sim_makes Inv ∧ sim_best Inv ∧ sim_from Inv ∧ sim_who Inv ∧ sim_far Inv ∧ sim_pairs Inv ∧ sim_locked Inv ∧ sim_drawn Inv ∧ sim_image Inv ∧ sim_restore Inv ∧ sim_kind Inv ∧ sim_as Inv ∧ sim_ask Inv ∧ sim_trace Inv ∧ sim_count Inv ∧ sim_status Inv
set_option maxRecDepth 100000 in
set_option maxHeartbeats 8000000 in
theorem law_loop {K : jK} {b L : Nat} {xs : Nat → Int32} {Inv : jMem → Prop} (hL : L ≤ 384) (X : JX K cL_law 4 RL 10 354) (Y : LX K b L xs) (S : simAll Inv) (kend : ∀ (x3 : Int32) (σ : jMem), J K 1244 [some (.ref 102), some (.ref 0), some (.ref 89), some (.int x3)] [] σ) :
    ∀ (n i : Nat) (x3 : Int32) (σ : jMem), L < 6 * (i + n) → x3 = nI (6 * i) → 6 * i ≤ L → Inv σ → J K 18 [some (.ref 102), some (.ref 0), some (.ref 89), some (.int x3)] [] σ := by
  obtain ⟨s_row, s_set, s_copy, s_drop, s_feed, s_parish, s_fault, s_undo, s_bury, s_years, s_lock, s_follow, s_witness, s_path, s_stand, s_ahead, s_lost, s_goes, s_stop, s_must, s_live, s_makes, s_best, s_from, s_who, s_far, s_pairs, s_locked, s_drawn, s_image, s_restore, s_kind, s_as, s_ask, s_trace, s_count, s_status⟩ := S
  intro n
  induction n with
  | zero => intro i x3 σ h1 _ h3 _; omega
  | succ n ih =>
    intro i x3 σ h1 hx3 h3 hI
    have hend : ∀ σ2 : jMem, Inv σ2 → 6 * (i + 1) ≤ L → J K 1238 [some (.ref 102), some (.ref 0), some (.ref 89), some (.int x3)] [] σ2 := by
      intro σ2 hI2 hle
      refine j_iinc (v := x3 + 6) (ls' := [some (.ref 102), some (.ref 0), some (.ref 89), some (.int (x3 + 6))]) X dL_law_1238 rfl rfl (Nat.le_of_ble_eq_true rfl) rfl ?_
      refine j_goto (tgt := 18) X dL_law_1241 (by decide) ?_
      exact ih (i + 1) (x3 + 6) σ2 (by omega) (by rw [hx3]; exact nI_add (6 * i) 6) hle hI2
    refine j_iload_n X 3 dL_law_18 rfl rfl ?_
    refine j_aload_n X 0 dL_law_19 rfl rfl ?_
    refine j_slen X Y dL_law_20 ?_
    refine j_bipush (v := 6) X dL_law_21 (by decide) ?_
    refine j_isub X dL_law_23 ?_
    refine jl_icmp_gt (tgt := 1244) X dL_law_24 (by decide) (fun _ => kend x3 σ) (fun hc => ?_)
    have hle : 6 * i + 6 ≤ L := by
      rcases Nat.lt_or_ge L (6 * i + 6) with q | q
      · exfalso
        apply hc
        rw [hx3]
        show nI L - nI 6 < nI (6 * i)
        rw [Int32.lt_iff_toInt_lt, pk_sub_toInt (by omega) (by omega), nI_toInt (by omega)]
        omega
      · exact q
    have hin : ∀ k : Nat, k < 6 → vp_in (x3 + nI k) L := by
      intro k hk
      rw [hx3, nI_add]
      exact vp_in_nI (by omega) (by omega)
    have n0 : vp_in x3 L := by have := hin 0 (by omega); rw [nI_0, Int32.add_zero] at this; exact this
    have n1 : vp_in (x3 + 1) L := hin 1 (by omega)
    have n2 : vp_in (x3 + 2) L := hin 2 (by omega)
    have n3 : vp_in (x3 + 3) L := hin 3 (by omega)
    have n4 : vp_in (x3 + 4) L := hin 4 (by omega)
    have n5 : vp_in (x3 + 5) L := hin 5 (by omega)
    have hend2 := fun σ2 h => hend σ2 h (by omega)
    refine j_aload_n X 0 dL_law_27 rfl rfl ?_
    refine j_iload_n X 3 dL_law_28 rfl rfl ?_
    refine j_sld X Y n0 rfl dL_law_29 ?_
    refine j_bipush (v := 63) X dL_law_30 (by decide) ?_
    refine j_iand X dL_law_32 ?_
    generalize xs x3.toNatClampNeg &&& 63 = op
    by_cases c0 : op = 0
    · refine j_tab (tgt := 196) X dL_law_33 0 c0 (by decide) (by decide) rfl (by decide) ?_
      obtain ⟨r, σ1, σ2, h1, h2, h3⟩ := s_row σ (xs (x3 + 1).toNatClampNeg) (xs (x3 + 2).toNatClampNeg) (xs (x3 + 3).toNatClampNeg) hI
      exact lawc_0 X Y n1 rfl n2 rfl n3 rfl h1 h2 (hend2 σ2 h3)
    by_cases c1 : op = 1
    · refine j_tab (tgt := 239) X dL_law_33 1 c1 (by decide) (by decide) rfl (by decide) ?_
      obtain ⟨r, σ1, σ2, h1, h2, h3⟩ := s_set σ (xs (x3 + 1).toNatClampNeg) (xs (x3 + 2).toNatClampNeg) (xs (x3 + 3).toNatClampNeg) hI
      exact lawc_1 X Y n1 rfl n2 rfl n3 rfl h1 h2 (hend2 σ2 h3)
    by_cases c2 : op = 2
    · refine j_tab (tgt := 282) X dL_law_33 2 c2 (by decide) (by decide) rfl (by decide) ?_
      obtain ⟨r, σ1, σ2, h1, h2, h3⟩ := s_copy σ (xs (x3 + 1).toNatClampNeg) (xs (x3 + 2).toNatClampNeg) (xs (x3 + 3).toNatClampNeg) (xs (x3 + 4).toNatClampNeg) (xs (x3 + 5).toNatClampNeg) hI
      exact lawc_2 X Y n1 rfl n2 rfl n3 rfl n4 rfl n5 rfl h1 h2 (hend2 σ2 h3)
    by_cases c3 : op = 3
    · refine j_tab (tgt := 345) X dL_law_33 3 c3 (by decide) (by decide) rfl (by decide) ?_
      obtain ⟨r, σ1, σ2, h1, h2, h3⟩ := s_drop σ (xs (x3 + 1).toNatClampNeg) hI
      exact lawc_3 X Y n1 rfl h1 h2 (hend2 σ2 h3)
    by_cases c4 : op = 4
    · refine j_tab (tgt := 368) X dL_law_33 4 c4 (by decide) (by decide) rfl (by decide) ?_
      obtain ⟨r, σ1, σ2, h1, h2, h3⟩ := s_feed σ (xs (x3 + 1).toNatClampNeg) hI
      exact lawc_4 X Y n1 rfl h1 h2 (hend2 σ2 h3)
    by_cases c5 : op = 5
    · refine j_tab (tgt := 391) X dL_law_33 5 c5 (by decide) (by decide) rfl (by decide) ?_
      obtain ⟨r, σ1, σ2, h1, h2, h3⟩ := s_parish σ  hI
      exact lawc_5 X Y  h1 h2 (hend2 σ2 h3)
    by_cases c6 : op = 6
    · refine j_tab (tgt := 404) X dL_law_33 6 c6 (by decide) (by decide) rfl (by decide) ?_
      obtain ⟨r, σ1, σ2, h1, h2, h3⟩ := s_fault σ  hI
      exact lawc_6 X Y  h1 h2 (hend2 σ2 h3)
    by_cases c7 : op = 7
    · refine j_tab (tgt := 417) X dL_law_33 7 c7 (by decide) (by decide) rfl (by decide) ?_
      obtain ⟨r, σ1, σ2, h1, h2, h3⟩ := s_undo σ  hI
      exact lawc_7 X Y  h1 h2 (hend2 σ2 h3)
    by_cases c8 : op = 8
    · refine j_tab (tgt := 430) X dL_law_33 8 c8 (by decide) (by decide) rfl (by decide) ?_
      obtain ⟨r, σ1, σ2, h1, h2, h3⟩ := s_bury σ (xs (x3 + 1).toNatClampNeg) hI
      exact lawc_8 X Y n1 rfl h1 h2 (hend2 σ2 h3)
    by_cases c9 : op = 9
    · refine j_tab (tgt := 453) X dL_law_33 9 c9 (by decide) (by decide) rfl (by decide) ?_
      obtain ⟨r, σ1, σ2, h1, h2, h3⟩ := s_years σ (xs (x3 + 1).toNatClampNeg) hI
      exact lawc_9 X Y n1 rfl h1 h2 (hend2 σ2 h3)
    by_cases c10 : op = 10
    · refine j_tab (tgt := 476) X dL_law_33 10 c10 (by decide) (by decide) rfl (by decide) ?_
      obtain ⟨r, σ1, σ2, h1, h2, h3⟩ := s_lock σ (xs (x3 + 1).toNatClampNeg) (xs (x3 + 2).toNatClampNeg) hI
      exact lawc_10 X Y n1 rfl n2 rfl h1 h2 (hend2 σ2 h3)
    by_cases c11 : op = 11
    · refine j_tab (tgt := 509) X dL_law_33 11 c11 (by decide) (by decide) rfl (by decide) ?_
      obtain ⟨r, σ1, σ2, h1, h2, h3⟩ := s_follow σ (xs (x3 + 1).toNatClampNeg) hI
      exact lawc_11 X Y n1 rfl h1 h2 (hend2 σ2 h3)
    by_cases c12 : op = 12
    · refine j_tab (tgt := 532) X dL_law_33 12 c12 (by decide) (by decide) rfl (by decide) ?_
      obtain ⟨r, σ1, σ2, h1, h2, h3⟩ := s_witness σ (xs (x3 + 1).toNatClampNeg) (xs (x3 + 2).toNatClampNeg) hI
      exact lawc_12 X Y n1 rfl n2 rfl h1 h2 (hend2 σ2 h3)
    by_cases c13 : op = 13
    · refine j_tab (tgt := 565) X dL_law_33 13 c13 (by decide) (by decide) rfl (by decide) ?_
      obtain ⟨r, σ1, σ2, h1, h2, h3⟩ := s_path σ (xs (x3 + 1).toNatClampNeg) (xs (x3 + 2).toNatClampNeg) hI
      exact lawc_13 X Y n1 rfl n2 rfl h1 h2 (hend2 σ2 h3)
    by_cases c14 : op = 14
    · refine j_tab (tgt := 598) X dL_law_33 14 c14 (by decide) (by decide) rfl (by decide) ?_
      obtain ⟨r, σ1, σ2, h1, h2, h3⟩ := s_stand σ (xs (x3 + 1).toNatClampNeg) hI
      exact lawc_14 X Y n1 rfl h1 h2 (hend2 σ2 h3)
    by_cases c15 : op = 15
    · refine j_tab (tgt := 621) X dL_law_33 15 c15 (by decide) (by decide) rfl (by decide) ?_
      obtain ⟨r, σ1, σ2, h1, h2, h3⟩ := s_ahead σ (xs (x3 + 1).toNatClampNeg) hI
      exact lawc_15 X Y n1 rfl h1 h2 (hend2 σ2 h3)
    by_cases c16 : op = 16
    · refine j_tab (tgt := 644) X dL_law_33 16 c16 (by decide) (by decide) rfl (by decide) ?_
      obtain ⟨r, σ1, σ2, h1, h2, h3⟩ := s_lost σ (xs (x3 + 1).toNatClampNeg) hI
      exact lawc_16 X Y n1 rfl h1 h2 (hend2 σ2 h3)
    by_cases c17 : op = 17
    · refine j_tab (tgt := 667) X dL_law_33 17 c17 (by decide) (by decide) rfl (by decide) ?_
      obtain ⟨r, σ1, σ2, h1, h2, h3⟩ := s_goes σ (xs (x3 + 1).toNatClampNeg) (xs (x3 + 2).toNatClampNeg) hI
      exact lawc_17 X Y n1 rfl n2 rfl h1 h2 (hend2 σ2 h3)
    by_cases c18 : op = 18
    · refine j_tab (tgt := 700) X dL_law_33 18 c18 (by decide) (by decide) rfl (by decide) ?_
      obtain ⟨r, σ1, σ2, h1, h2, h3⟩ := s_stop σ (xs (x3 + 1).toNatClampNeg) (xs (x3 + 2).toNatClampNeg) hI
      exact lawc_18 X Y n1 rfl n2 rfl h1 h2 (hend2 σ2 h3)
    by_cases c19 : op = 19
    · refine j_tab (tgt := 733) X dL_law_33 19 c19 (by decide) (by decide) rfl (by decide) ?_
      obtain ⟨r, σ1, σ2, h1, h2, h3⟩ := s_must σ (xs (x3 + 1).toNatClampNeg) hI
      exact lawc_19 X Y n1 rfl h1 h2 (hend2 σ2 h3)
    by_cases c20 : op = 20
    · refine j_tab (tgt := 756) X dL_law_33 20 c20 (by decide) (by decide) rfl (by decide) ?_
      obtain ⟨r, σ1, σ2, h1, h2, h3⟩ := s_live σ (xs (x3 + 1).toNatClampNeg) (xs (x3 + 2).toNatClampNeg) hI
      exact lawc_20 X Y n1 rfl n2 rfl h1 h2 (hend2 σ2 h3)
    by_cases c21 : op = 21
    · refine j_tab (tgt := 789) X dL_law_33 21 c21 (by decide) (by decide) rfl (by decide) ?_
      obtain ⟨r, σ1, σ2, h1, h2, h3⟩ := s_makes σ (xs (x3 + 1).toNatClampNeg) hI
      exact lawc_21 X Y n1 rfl h1 h2 (hend2 σ2 h3)
    by_cases c22 : op = 22
    · refine j_tab (tgt := 812) X dL_law_33 22 c22 (by decide) (by decide) rfl (by decide) ?_
      obtain ⟨r, σ1, σ2, h1, h2, h3⟩ := s_best σ (xs (x3 + 1).toNatClampNeg) hI
      exact lawc_22 X Y n1 rfl h1 h2 (hend2 σ2 h3)
    by_cases c23 : op = 23
    · refine j_tab (tgt := 835) X dL_law_33 23 c23 (by decide) (by decide) rfl (by decide) ?_
      obtain ⟨r, σ1, σ2, h1, h2, h3⟩ := s_from σ (xs (x3 + 1).toNatClampNeg) (xs (x3 + 2).toNatClampNeg) hI
      exact lawc_23 X Y n1 rfl n2 rfl h1 h2 (hend2 σ2 h3)
    by_cases c24 : op = 24
    · refine j_tab (tgt := 868) X dL_law_33 24 c24 (by decide) (by decide) rfl (by decide) ?_
      obtain ⟨r, σ1, σ2, h1, h2, h3⟩ := s_who σ (xs (x3 + 1).toNatClampNeg) (xs (x3 + 2).toNatClampNeg) (xs (x3 + 3).toNatClampNeg) (xs (x3 + 4).toNatClampNeg) hI
      exact lawc_24 X Y n1 rfl n2 rfl n3 rfl n4 rfl h1 h2 (hend2 σ2 h3)
    by_cases c25 : op = 25
    · refine j_tab (tgt := 921) X dL_law_33 25 c25 (by decide) (by decide) rfl (by decide) ?_
      obtain ⟨r, σ1, σ2, h1, h2, h3⟩ := s_far σ (xs (x3 + 1).toNatClampNeg) hI
      exact lawc_25 X Y n1 rfl h1 h2 (hend2 σ2 h3)
    by_cases c26 : op = 26
    · refine j_tab (tgt := 944) X dL_law_33 26 c26 (by decide) (by decide) rfl (by decide) ?_
      obtain ⟨r, σ1, σ2, h1, h2, h3⟩ := s_pairs σ  hI
      exact lawc_26 X Y  h1 h2 (hend2 σ2 h3)
    by_cases c27 : op = 27
    · refine j_tab (tgt := 957) X dL_law_33 27 c27 (by decide) (by decide) rfl (by decide) ?_
      obtain ⟨r, σ1, σ2, h1, h2, h3⟩ := s_locked σ (xs (x3 + 1).toNatClampNeg) (xs (x3 + 2).toNatClampNeg) (xs (x3 + 3).toNatClampNeg) hI
      exact lawc_27 X Y n1 rfl n2 rfl n3 rfl h1 h2 (hend2 σ2 h3)
    by_cases c28 : op = 28
    · refine j_tab (tgt := 1001) X dL_law_33 28 c28 (by decide) (by decide) rfl (by decide) ?_
      obtain ⟨r, σ1, σ2, h1, h2, h3⟩ := s_drawn σ (xs (x3 + 1).toNatClampNeg) (xs (x3 + 2).toNatClampNeg) (xs (x3 + 3).toNatClampNeg) hI
      exact lawc_28 X Y n1 rfl n2 rfl n3 rfl h1 h2 (hend2 σ2 h3)
    by_cases c29 : op = 29
    · refine j_tab (tgt := 1044) X dL_law_33 29 c29 (by decide) (by decide) rfl (by decide) ?_
      obtain ⟨r, σ1, σ2, h1, h2, h3⟩ := s_image σ (xs (x3 + 1).toNatClampNeg) hI
      exact lawc_29 X Y n1 rfl h1 h2 (hend2 σ2 h3)
    by_cases c30 : op = 30
    · refine j_tab (tgt := 1067) X dL_law_33 30 c30 (by decide) (by decide) rfl (by decide) ?_
      obtain ⟨r, σ1, σ2, h1, h2, h3⟩ := s_restore σ (xs (x3 + 1).toNatClampNeg) hI
      exact lawc_30 X Y n1 rfl h1 h2 (hend2 σ2 h3)
    by_cases c31 : op = 31
    · refine j_tab (tgt := 1090) X dL_law_33 31 c31 (by decide) (by decide) rfl (by decide) ?_
      obtain ⟨r, σ1, σ2, h1, h2, h3⟩ := s_kind σ (xs (x3 + 1).toNatClampNeg) hI
      exact lawc_31 X Y n1 rfl h1 h2 (hend2 σ2 h3)
    by_cases c32 : op = 32
    · refine j_tab (tgt := 1113) X dL_law_33 32 c32 (by decide) (by decide) rfl (by decide) ?_
      obtain ⟨r, σ1, σ2, h1, h2, h3⟩ := s_as σ (xs (x3 + 1).toNatClampNeg) (xs (x3 + 2).toNatClampNeg) hI
      exact lawc_32 X Y n1 rfl n2 rfl h1 h2 (hend2 σ2 h3)
    by_cases c33 : op = 33
    · refine j_tab (tgt := 1146) X dL_law_33 33 c33 (by decide) (by decide) rfl (by decide) ?_
      obtain ⟨r, σ1, σ2, h1, h2, h3⟩ := s_ask σ (xs (x3 + 1).toNatClampNeg) (xs (x3 + 2).toNatClampNeg) hI
      exact lawc_33 X Y n1 rfl n2 rfl h1 h2 (hend2 σ2 h3)
    by_cases c34 : op = 34
    · refine j_tab (tgt := 1179) X dL_law_33 34 c34 (by decide) (by decide) rfl (by decide) ?_
      obtain ⟨r, σ1, σ2, h1, h2, h3⟩ := s_trace σ (xs (x3 + 1).toNatClampNeg) hI
      exact lawc_34 X Y n1 rfl h1 h2 (hend2 σ2 h3)
    by_cases c35 : op = 35
    · refine j_tab (tgt := 1202) X dL_law_33 35 c35 (by decide) (by decide) rfl (by decide) ?_
      obtain ⟨r, σ1, σ2, h1, h2, h3⟩ := s_count σ (xs (x3 + 1).toNatClampNeg) hI
      exact lawc_35 X Y n1 rfl h1 h2 (hend2 σ2 h3)
    by_cases c36 : op = 36
    · refine j_tab (tgt := 1225) X dL_law_33 36 c36 (by decide) (by decide) rfl (by decide) ?_
      obtain ⟨r, σ1, σ2, h1, h2, h3⟩ := s_status σ  hI
      exact lawc_36 X Y  h1 h2 (hend2 σ2 h3)
    refine j_tabo (tgt := 1238) X dL_law_33 (by have w0 := lv_neT (a := 0) c0 (by decide); have w1 := lv_neT (a := 1) c1 (by decide); have w2 := lv_neT (a := 2) c2 (by decide); have w3 := lv_neT (a := 3) c3 (by decide); have w4 := lv_neT (a := 4) c4 (by decide); have w5 := lv_neT (a := 5) c5 (by decide); have w6 := lv_neT (a := 6) c6 (by decide); have w7 := lv_neT (a := 7) c7 (by decide); have w8 := lv_neT (a := 8) c8 (by decide); have w9 := lv_neT (a := 9) c9 (by decide); have w10 := lv_neT (a := 10) c10 (by decide); have w11 := lv_neT (a := 11) c11 (by decide); have w12 := lv_neT (a := 12) c12 (by decide); have w13 := lv_neT (a := 13) c13 (by decide); have w14 := lv_neT (a := 14) c14 (by decide); have w15 := lv_neT (a := 15) c15 (by decide); have w16 := lv_neT (a := 16) c16 (by decide); have w17 := lv_neT (a := 17) c17 (by decide); have w18 := lv_neT (a := 18) c18 (by decide); have w19 := lv_neT (a := 19) c19 (by decide); have w20 := lv_neT (a := 20) c20 (by decide); have w21 := lv_neT (a := 21) c21 (by decide); have w22 := lv_neT (a := 22) c22 (by decide); have w23 := lv_neT (a := 23) c23 (by decide); have w24 := lv_neT (a := 24) c24 (by decide); have w25 := lv_neT (a := 25) c25 (by decide); have w26 := lv_neT (a := 26) c26 (by decide); have w27 := lv_neT (a := 27) c27 (by decide); have w28 := lv_neT (a := 28) c28 (by decide); have w29 := lv_neT (a := 29) c29 (by decide); have w30 := lv_neT (a := 30) c30 (by decide); have w31 := lv_neT (a := 31) c31 (by decide); have w32 := lv_neT (a := 32) c32 (by decide); have w33 := lv_neT (a := 33) c33 (by decide); have w34 := lv_neT (a := 34) c34 (by decide); have w35 := lv_neT (a := 35) c35 (by decide); have w36 := lv_neT (a := 36) c36 (by decide); omega) (by decide) (hend2 σ hI)
