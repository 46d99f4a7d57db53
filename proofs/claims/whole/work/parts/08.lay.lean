/-! ===== the cells, one by one ===== -/
def jisP (k : Nat) : Prop := k = 22 ∨ k = 30 ∨ k = 38 ∨ k = 46
theorem jisP_22 : jisP 22 := Or.inl rfl
theorem jin2 {α β : Type} {a c : α} {b d : β} (h : some (a, b) = some (c, d)) : a = c ∧ b = d := by cases h; exact ⟨rfl, rfl⟩
theorem jisP_30 : jisP 30 := Or.inr (Or.inl rfl)
theorem jisP_38 : jisP 38 := Or.inr (Or.inr (Or.inl rfl))
theorem jisP_46 : jisP 46 := Or.inr (Or.inr (Or.inr rfl))
theorem jp_lt {k : Nat} (h : jisP k) : k < jN := by rcases h with rfl | rfl | rfl | rfl <;> decide
theorem jp_ly {k : Nat} (h : jisP k) : jL k = (0, 5, [some 15, none, none, none, none, none, none, none, some (k + 1), some (k + 2), some (k + 3), some (k + 4), some (k + 5), some (k + 6), some (k + 7)]) := by rcases h with rfl | rfl | rfl | rfl <;> rfl
theorem jp_lt1 {k : Nat} (h : jisP k) : k + 1 < jN := by rcases h with rfl | rfl | rfl | rfl <;> decide
theorem jp_ly1 {k : Nat} (h : jisP k) : jL (k + 1) = (1, 12, []) := by rcases h with rfl | rfl | rfl | rfl <;> rfl
theorem jp_lt2 {k : Nat} (h : jisP k) : k + 2 < jN := by rcases h with rfl | rfl | rfl | rfl <;> decide
theorem jp_ly2 {k : Nat} (h : jisP k) : jL (k + 2) = (1, 12, []) := by rcases h with rfl | rfl | rfl | rfl <;> rfl
theorem jp_lt3 {k : Nat} (h : jisP k) : k + 3 < jN := by rcases h with rfl | rfl | rfl | rfl <;> decide
theorem jp_ly3 {k : Nat} (h : jisP k) : jL (k + 3) = (1, 12, []) := by rcases h with rfl | rfl | rfl | rfl <;> rfl
theorem jp_lt4 {k : Nat} (h : jisP k) : k + 4 < jN := by rcases h with rfl | rfl | rfl | rfl <;> decide
theorem jp_ly4 {k : Nat} (h : jisP k) : jL (k + 4) = (1, 6, []) := by rcases h with rfl | rfl | rfl | rfl <;> rfl
theorem jp_lt5 {k : Nat} (h : jisP k) : k + 5 < jN := by rcases h with rfl | rfl | rfl | rfl <;> decide
theorem jp_ly5 {k : Nat} (h : jisP k) : jL (k + 5) = (1, 6, []) := by rcases h with rfl | rfl | rfl | rfl <;> rfl
theorem jp_lt6 {k : Nat} (h : jisP k) : k + 6 < jN := by rcases h with rfl | rfl | rfl | rfl <;> decide
theorem jp_ly6 {k : Nat} (h : jisP k) : jL (k + 6) = (1, 6, []) := by rcases h with rfl | rfl | rfl | rfl <;> rfl
theorem jp_lt7 {k : Nat} (h : jisP k) : k + 7 < jN := by rcases h with rfl | rfl | rfl | rfl <;> decide
theorem jp_ly7 {k : Nat} (h : jisP k) : jL (k + 7) = (1, 6, []) := by rcases h with rfl | rfl | rfl | rfl <;> rfl
theorem ln_0 : 0 < jN := by decide
theorem ly_0 : jL 0 = (0, 11, [some 1, some 13, some 15, some 22, some 30, some 54, some 55, none, none, some 80, some 86, some 88, none]) := rfl
theorem ln_1 : 1 < jN := by decide
theorem ly_1 : jL 1 = (0, 6, [some 2, some 11, some 12]) := rfl
theorem ln_2 : 2 < jN := by decide
theorem ly_2 : jL 2 = (6, 8, (List.range 8).map (fun i => some (3 + 1 * i))) := by decide
theorem ln_3 : 3 < jN := by decide
theorem ly_3 : jL 3 = (1, 40, []) := rfl
theorem ln_4 : 4 < jN := by decide
theorem ly_4 : jL 4 = (1, 40, []) := rfl
theorem ln_5 : 5 < jN := by decide
theorem ly_5 : jL 5 = (1, 40, []) := rfl
theorem ln_6 : 6 < jN := by decide
theorem ly_6 : jL 6 = (1, 40, []) := rfl
theorem ln_7 : 7 < jN := by decide
theorem ly_7 : jL 7 = (1, 40, []) := rfl
theorem ln_8 : 8 < jN := by decide
theorem ly_8 : jL 8 = (1, 40, []) := rfl
theorem ln_9 : 9 < jN := by decide
theorem ly_9 : jL 9 = (1, 40, []) := rfl
theorem ln_10 : 10 < jN := by decide
theorem ly_10 : jL 10 = (1, 40, []) := rfl
theorem ln_11 : 11 < jN := by decide
theorem ly_11 : jL 11 = (1, 8, []) := rfl
theorem ln_12 : 12 < jN := by decide
theorem ly_12 : jL 12 = (1, 8, []) := rfl
theorem ln_13 : 13 < jN := by decide
theorem ly_13 : jL 13 = (0, 9, [some 14, none, none, none, none, none, none, none]) := rfl
theorem ln_14 : 14 < jN := by decide
theorem ly_14 : jL 14 = (1, 140, []) := rfl
theorem ln_15 : 15 < jN := by decide
theorem ly_15 : jL 15 = (4, 6, (List.range 6).map (fun i => some (16 + 1 * i))) := by decide
theorem ln_16 : 16 < jN := by decide
theorem ly_16 : jL 16 = (0, 10, []) := rfl
theorem ln_17 : 17 < jN := by decide
theorem ly_17 : jL 17 = (0, 4, []) := rfl
theorem ln_18 : 18 < jN := by decide
theorem ly_18 : jL 18 = (0, 1, []) := rfl
theorem ln_19 : 19 < jN := by decide
theorem ly_19 : jL 19 = (0, 3, []) := rfl
theorem ln_20 : 20 < jN := by decide
theorem ly_20 : jL 20 = (0, 8, []) := rfl
theorem ln_21 : 21 < jN := by decide
theorem ly_21 : jL 21 = (0, 7, []) := rfl
theorem ln_22 : 22 < jN := by decide
theorem ly_22 : jL 22 = (0, 5, [some 15, none, none, none, none, none, none, none, some 23, some 24, some 25, some 26, some 27, some 28, some 29]) := rfl
theorem ln_23 : 23 < jN := by decide
theorem ly_23 : jL 23 = (1, 12, []) := rfl
theorem ln_24 : 24 < jN := by decide
theorem ly_24 : jL 24 = (1, 12, []) := rfl
theorem ln_25 : 25 < jN := by decide
theorem ly_25 : jL 25 = (1, 12, []) := rfl
theorem ln_26 : 26 < jN := by decide
theorem ly_26 : jL 26 = (1, 6, []) := rfl
theorem ln_27 : 27 < jN := by decide
theorem ly_27 : jL 27 = (1, 6, []) := rfl
theorem ln_28 : 28 < jN := by decide
theorem ly_28 : jL 28 = (1, 6, []) := rfl
theorem ln_29 : 29 < jN := by decide
theorem ly_29 : jL 29 = (1, 6, []) := rfl
theorem ln_30 : 30 < jN := by decide
theorem ly_30 : jL 30 = (0, 5, [some 15, none, none, none, none, none, none, none, some 31, some 32, some 33, some 34, some 35, some 36, some 37]) := rfl
theorem ln_31 : 31 < jN := by decide
theorem ly_31 : jL 31 = (1, 12, []) := rfl
theorem ln_32 : 32 < jN := by decide
theorem ly_32 : jL 32 = (1, 12, []) := rfl
theorem ln_33 : 33 < jN := by decide
theorem ly_33 : jL 33 = (1, 12, []) := rfl
theorem ln_34 : 34 < jN := by decide
theorem ly_34 : jL 34 = (1, 6, []) := rfl
theorem ln_35 : 35 < jN := by decide
theorem ly_35 : jL 35 = (1, 6, []) := rfl
theorem ln_36 : 36 < jN := by decide
theorem ly_36 : jL 36 = (1, 6, []) := rfl
theorem ln_37 : 37 < jN := by decide
theorem ly_37 : jL 37 = (1, 6, []) := rfl
theorem ln_38 : 38 < jN := by decide
theorem ly_38 : jL 38 = (0, 5, [some 15, none, none, none, none, none, none, none, some 39, some 40, some 41, some 42, some 43, some 44, some 45]) := rfl
theorem ln_39 : 39 < jN := by decide
theorem ly_39 : jL 39 = (1, 12, []) := rfl
theorem ln_40 : 40 < jN := by decide
theorem ly_40 : jL 40 = (1, 12, []) := rfl
theorem ln_41 : 41 < jN := by decide
theorem ly_41 : jL 41 = (1, 12, []) := rfl
theorem ln_42 : 42 < jN := by decide
theorem ly_42 : jL 42 = (1, 6, []) := rfl
theorem ln_43 : 43 < jN := by decide
theorem ly_43 : jL 43 = (1, 6, []) := rfl
theorem ln_44 : 44 < jN := by decide
theorem ly_44 : jL 44 = (1, 6, []) := rfl
theorem ln_45 : 45 < jN := by decide
theorem ly_45 : jL 45 = (1, 6, []) := rfl
theorem ln_46 : 46 < jN := by decide
theorem ly_46 : jL 46 = (0, 5, [some 15, none, none, none, none, none, none, none, some 47, some 48, some 49, some 50, some 51, some 52, some 53]) := rfl
theorem ln_47 : 47 < jN := by decide
theorem ly_47 : jL 47 = (1, 12, []) := rfl
theorem ln_48 : 48 < jN := by decide
theorem ly_48 : jL 48 = (1, 12, []) := rfl
theorem ln_49 : 49 < jN := by decide
theorem ly_49 : jL 49 = (1, 12, []) := rfl
theorem ln_50 : 50 < jN := by decide
theorem ly_50 : jL 50 = (1, 6, []) := rfl
theorem ln_51 : 51 < jN := by decide
theorem ly_51 : jL 51 = (1, 6, []) := rfl
theorem ln_52 : 52 < jN := by decide
theorem ly_52 : jL 52 = (1, 6, []) := rfl
theorem ln_53 : 53 < jN := by decide
theorem ly_53 : jL 53 = (1, 6, []) := rfl
theorem ln_54 : 54 < jN := by decide
theorem ly_54 : jL 54 = (5, 2, (List.range 2).map (fun i => some (38 + 8 * i))) := by decide
theorem ln_55 : 55 < jN := by decide
theorem ly_55 : jL 55 = (6, 24, (List.range 24).map (fun i => some (56 + 1 * i))) := by decide
theorem ln_56 : 56 < jN := by decide
theorem ly_56 : jL 56 = (1, 14, []) := rfl
theorem ln_57 : 57 < jN := by decide
theorem ly_57 : jL 57 = (1, 14, []) := rfl
theorem ln_58 : 58 < jN := by decide
theorem ly_58 : jL 58 = (1, 14, []) := rfl
theorem ln_59 : 59 < jN := by decide
theorem ly_59 : jL 59 = (1, 14, []) := rfl
theorem ln_60 : 60 < jN := by decide
theorem ly_60 : jL 60 = (1, 14, []) := rfl
theorem ln_61 : 61 < jN := by decide
theorem ly_61 : jL 61 = (1, 14, []) := rfl
theorem ln_62 : 62 < jN := by decide
theorem ly_62 : jL 62 = (1, 14, []) := rfl
theorem ln_63 : 63 < jN := by decide
theorem ly_63 : jL 63 = (1, 14, []) := rfl
theorem ln_64 : 64 < jN := by decide
theorem ly_64 : jL 64 = (1, 14, []) := rfl
theorem ln_65 : 65 < jN := by decide
theorem ly_65 : jL 65 = (1, 14, []) := rfl
theorem ln_66 : 66 < jN := by decide
theorem ly_66 : jL 66 = (1, 14, []) := rfl
theorem ln_67 : 67 < jN := by decide
theorem ly_67 : jL 67 = (1, 14, []) := rfl
theorem ln_68 : 68 < jN := by decide
theorem ly_68 : jL 68 = (1, 14, []) := rfl
theorem ln_69 : 69 < jN := by decide
theorem ly_69 : jL 69 = (1, 14, []) := rfl
theorem ln_70 : 70 < jN := by decide
theorem ly_70 : jL 70 = (1, 14, []) := rfl
theorem ln_71 : 71 < jN := by decide
theorem ly_71 : jL 71 = (1, 14, []) := rfl
theorem ln_72 : 72 < jN := by decide
theorem ly_72 : jL 72 = (1, 14, []) := rfl
theorem ln_73 : 73 < jN := by decide
theorem ly_73 : jL 73 = (1, 14, []) := rfl
theorem ln_74 : 74 < jN := by decide
theorem ly_74 : jL 74 = (1, 14, []) := rfl
theorem ln_75 : 75 < jN := by decide
theorem ly_75 : jL 75 = (1, 14, []) := rfl
theorem ln_76 : 76 < jN := by decide
theorem ly_76 : jL 76 = (1, 14, []) := rfl
theorem ln_77 : 77 < jN := by decide
theorem ly_77 : jL 77 = (1, 14, []) := rfl
theorem ln_78 : 78 < jN := by decide
theorem ly_78 : jL 78 = (1, 14, []) := rfl
theorem ln_79 : 79 < jN := by decide
theorem ly_79 : jL 79 = (1, 14, []) := rfl
theorem ln_80 : 80 < jN := by decide
theorem ly_80 : jL 80 = (0, 2, [none, none, none, some 81, some 82, some 83, some 84, some 85]) := rfl
theorem ln_81 : 81 < jN := by decide
theorem ly_81 : jL 81 = (1, 8, []) := rfl
theorem ln_82 : 82 < jN := by decide
theorem ly_82 : jL 82 = (1, 256, []) := rfl
theorem ln_83 : 83 < jN := by decide
theorem ly_83 : jL 83 = (3, 256, []) := rfl
theorem ln_84 : 84 < jN := by decide
theorem ly_84 : jL 84 = (3, 13, []) := rfl
theorem ln_85 : 85 < jN := by decide
theorem ly_85 : jL 85 = (3, 13, []) := rfl
theorem ln_86 : 86 < jN := by decide
theorem ly_86 : jL 86 = (0, 0, [none, none, none, none, some 87]) := rfl
theorem ln_87 : 87 < jN := by decide
theorem ly_87 : jL 87 = (1, 16, []) := rfl
theorem ln_88 : 88 < jN := by decide
theorem ly_88 : jL 88 = (1, 6, []) := rfl
theorem ln_89 : 89 < jN := by decide
theorem ly_89 : jL 89 = (0, 12, [none, none, some 90, some 91, some 92, some 93, some 94, some 95, some 96, none, some 97, none, none, none, none, none, none, none, none, some 98, none, none, none, some 99, some 100, some 101, none]) := rfl
theorem ln_90 : 90 < jN := by decide
theorem ly_90 : jL 90 = (1, 8, []) := rfl
theorem ln_91 : 91 < jN := by decide
theorem ly_91 : jL 91 = (1, 8, []) := rfl
theorem ln_92 : 92 < jN := by decide
theorem ly_92 : jL 92 = (1, 320, []) := rfl
theorem ln_93 : 93 < jN := by decide
theorem ly_93 : jL 93 = (1, 67, []) := rfl
theorem ln_94 : 94 < jN := by decide
theorem ly_94 : jL 94 = (1, 67, []) := rfl
theorem ln_95 : 95 < jN := by decide
theorem ly_95 : jL 95 = (1, 67, []) := rfl
theorem ln_96 : 96 < jN := by decide
theorem ly_96 : jL 96 = (1, 1608, []) := rfl
theorem ln_97 : 97 < jN := by decide
theorem ly_97 : jL 97 = (1, 140, []) := rfl
theorem ln_98 : 98 < jN := by decide
theorem ly_98 : jL 98 = (1, 8, []) := rfl
theorem ln_99 : 99 < jN := by decide
theorem ly_99 : jL 99 = (2, 2, []) := rfl
theorem ln_100 : 100 < jN := by decide
theorem ly_100 : jL 100 = (1, 134, []) := rfl
theorem ln_101 : 101 < jN := by decide
theorem ly_101 : jL 101 = (1, 16, []) := rfl
theorem jrow6 {x : Nat} (h : ∃ q, q < 6 ∧ x = 16 + 1 * q) : 16 ≤ x ∧ x ≤ 21 := by obtain ⟨q, h1, h2⟩ := h; omega
theorem jrow2 {x : Nat} (h : ∃ q, q < 2 ∧ x = 38 + 8 * q) : jisP x := by
  obtain ⟨q, h1, h2⟩ := h
  rcases (show q = 0 ∨ q = 1 by omega) with rfl | rfl
  · rw [h2]; exact jisP_38
  · rw [h2]; exact jisP_46
theorem jrow8 {x : Nat} (h : ∃ q, q < 8 ∧ x = 3 + 1 * q) : x < jN ∧ jL x = (1, 40, []) := by
  obtain ⟨q, h1, h2⟩ := h
  have key : ∀ q : Fin 8, 3 + 1 * q.val < jN ∧ jL (3 + 1 * q.val) = (1, 40, []) := by decide
  rw [h2]
  exact key ⟨q, h1⟩
theorem jrow24 {x : Nat} (h : ∃ q, q < 24 ∧ x = 56 + 1 * q) : x < jN ∧ jL x = (1, 14, []) := by
  obtain ⟨q, h1, h2⟩ := h
  have key : ∀ q : Fin 24, 56 + 1 * q.val < jN ∧ jL (56 + 1 * q.val) = (1, 14, []) := by decide
  rw [h2]
  exact key ⟨q, h1⟩
theorem jw_lt {w lo hi : Nat} (h : lo ≤ w ∧ w ≤ hi) (hh : hi < jN := by decide) : w < jN := Nat.lt_of_le_of_lt h.2 hh
theorem jw_cls {w : Nat} (h : 16 ≤ w ∧ w ≤ 21) : ∃ (ci : Nat) (q : vw_C), jL w = (0, ci, []) ∧ vwCl[ci]? = some q := by
  rcases (show w = 16 ∨ w = 17 ∨ w = 18 ∨ w = 19 ∨ w = 20 ∨ w = 21 by omega) with rfl | rfl | rfl | rfl | rfl | rfl
  · exact ⟨_, _, ly_16, rfl⟩
  · exact ⟨_, _, ly_17, rfl⟩
  · exact ⟨_, _, ly_18, rfl⟩
  · exact ⟨_, _, ly_19, rfl⟩
  · exact ⟨_, _, ly_20, rfl⟩
  · exact ⟨_, _, ly_21, rfl⟩
def jio_30 (w : Nat) : Int32 := if 17 ≤ w ∧ w ≤ 19 then 1 else 0
set_option maxRecDepth 100000 in
theorem ji_RX11_30 {K : jK} {cc : ByteArray} {nL fr lo pc w : Nat} {ls : List (Option Value)} {st : List Value} {σ : jMem} (X : JX K cc nL RX11 fr lo) (hw : 16 ≤ w ∧ w ≤ 21) (hd : decode cc pc = .ok (.instanceof 30, 3)) (kk : J K (pc + 3) ls (.int (jio_30 w) :: st) σ) : J K pc ls (.ref w :: st) σ := fun H locs sl hP hS hLv => by
  have k2 := kk H locs sl hP hS hLv
  rcases (show w = 16 ∨ w = 17 ∨ w = 18 ∨ w = 19 ∨ w = 20 ∨ w = 21 by omega) with rfl | rfl | rfl | rfl | rfl | rfl
  · exact va_instNo (C := RX10) (nm := RX4) X.1 X.2.1 X.2.2.2.1 (X.2.2.2.2.1 _ tw_89) (X.2.2.2.2.2.2.2.2.2.2.2 (RX10, RX4) (by decide)) (jrecv (q := (RX10, TX10, 0)) X ln_16 ly_16 rfl hP) hd k2
  · exact va_instS (nm := RX4) X.1 X.2.1 X.2.2.2.1 (X.2.2.2.2.1 _ tw_89) (X.2.2.2.2.2.1.1 4 _ rfl).2 (jrecv (q := (RX4, TX4, 0)) X ln_17 ly_17 rfl hP) hd k2
  · exact va_instY (C := RX1) (nm := RX4) X.1 X.2.1 X.2.2.2.1 (X.2.2.2.2.1 _ tw_89) (X.2.2.2.2.2.2.2.2.2.2.1 (RX1, RX4) (by decide)) (jrecv (q := (RX1, TX1, 0)) X ln_18 ly_18 rfl hP) hd k2
  · exact va_instY (C := RX3) (nm := RX4) X.1 X.2.1 X.2.2.2.1 (X.2.2.2.2.1 _ tw_89) (X.2.2.2.2.2.2.2.2.2.2.1 (RX3, RX4) (by decide)) (jrecv (q := (RX3, TX3, 0)) X ln_19 ly_19 rfl hP) hd k2
  · exact va_instNo (C := RX8) (nm := RX4) X.1 X.2.1 X.2.2.2.1 (X.2.2.2.2.1 _ tw_89) (X.2.2.2.2.2.2.2.2.2.2.2 (RX8, RX4) (by decide)) (jrecv (q := (RX8, TX8, 0)) X ln_20 ly_20 rfl hP) hd k2
  · exact va_instNo (C := RX7) (nm := RX4) X.1 X.2.1 X.2.2.2.1 (X.2.2.2.2.1 _ tw_89) (X.2.2.2.2.2.2.2.2.2.2.2 (RX7, RX4) (by decide)) (jrecv (q := (RX7, TX7, 0)) X ln_21 ly_21 rfl hP) hd k2
def jio_33 (w : Nat) : Int32 := if 18 ≤ w ∧ w ≤ 18 then 1 else 0
set_option maxRecDepth 100000 in
theorem ji_RX11_33 {K : jK} {cc : ByteArray} {nL fr lo pc w : Nat} {ls : List (Option Value)} {st : List Value} {σ : jMem} (X : JX K cc nL RX11 fr lo) (hw : 16 ≤ w ∧ w ≤ 21) (hd : decode cc pc = .ok (.instanceof 33, 3)) (kk : J K (pc + 3) ls (.int (jio_33 w) :: st) σ) : J K pc ls (.ref w :: st) σ := fun H locs sl hP hS hLv => by
  have k2 := kk H locs sl hP hS hLv
  rcases (show w = 16 ∨ w = 17 ∨ w = 18 ∨ w = 19 ∨ w = 20 ∨ w = 21 by omega) with rfl | rfl | rfl | rfl | rfl | rfl
  · exact va_instNo (C := RX10) (nm := RX1) X.1 X.2.1 X.2.2.2.1 (X.2.2.2.2.1 _ tw_96) (X.2.2.2.2.2.2.2.2.2.2.2 (RX10, RX1) (by decide)) (jrecv (q := (RX10, TX10, 0)) X ln_16 ly_16 rfl hP) hd k2
  · exact va_instNo (C := RX4) (nm := RX1) X.1 X.2.1 X.2.2.2.1 (X.2.2.2.2.1 _ tw_96) (X.2.2.2.2.2.2.2.2.2.2.2 (RX4, RX1) (by decide)) (jrecv (q := (RX4, TX4, 0)) X ln_17 ly_17 rfl hP) hd k2
  · exact va_instS (nm := RX1) X.1 X.2.1 X.2.2.2.1 (X.2.2.2.2.1 _ tw_96) (X.2.2.2.2.2.1.1 1 _ rfl).2 (jrecv (q := (RX1, TX1, 0)) X ln_18 ly_18 rfl hP) hd k2
  · exact va_instNo (C := RX3) (nm := RX1) X.1 X.2.1 X.2.2.2.1 (X.2.2.2.2.1 _ tw_96) (X.2.2.2.2.2.2.2.2.2.2.2 (RX3, RX1) (by decide)) (jrecv (q := (RX3, TX3, 0)) X ln_19 ly_19 rfl hP) hd k2
  · exact va_instNo (C := RX8) (nm := RX1) X.1 X.2.1 X.2.2.2.1 (X.2.2.2.2.1 _ tw_96) (X.2.2.2.2.2.2.2.2.2.2.2 (RX8, RX1) (by decide)) (jrecv (q := (RX8, TX8, 0)) X ln_20 ly_20 rfl hP) hd k2
  · exact va_instNo (C := RX7) (nm := RX1) X.1 X.2.1 X.2.2.2.1 (X.2.2.2.2.1 _ tw_96) (X.2.2.2.2.2.2.2.2.2.2.2 (RX7, RX1) (by decide)) (jrecv (q := (RX7, TX7, 0)) X ln_21 ly_21 rfl hP) hd k2
def jio_36 (w : Nat) : Int32 := if 19 ≤ w ∧ w ≤ 19 then 1 else 0
set_option maxRecDepth 100000 in
theorem ji_RX11_36 {K : jK} {cc : ByteArray} {nL fr lo pc w : Nat} {ls : List (Option Value)} {st : List Value} {σ : jMem} (X : JX K cc nL RX11 fr lo) (hw : 16 ≤ w ∧ w ≤ 21) (hd : decode cc pc = .ok (.instanceof 36, 3)) (kk : J K (pc + 3) ls (.int (jio_36 w) :: st) σ) : J K pc ls (.ref w :: st) σ := fun H locs sl hP hS hLv => by
  have k2 := kk H locs sl hP hS hLv
  rcases (show w = 16 ∨ w = 17 ∨ w = 18 ∨ w = 19 ∨ w = 20 ∨ w = 21 by omega) with rfl | rfl | rfl | rfl | rfl | rfl
  · exact va_instNo (C := RX10) (nm := RX3) X.1 X.2.1 X.2.2.2.1 (X.2.2.2.2.1 _ tw_103) (X.2.2.2.2.2.2.2.2.2.2.2 (RX10, RX3) (by decide)) (jrecv (q := (RX10, TX10, 0)) X ln_16 ly_16 rfl hP) hd k2
  · exact va_instNo (C := RX4) (nm := RX3) X.1 X.2.1 X.2.2.2.1 (X.2.2.2.2.1 _ tw_103) (X.2.2.2.2.2.2.2.2.2.2.2 (RX4, RX3) (by decide)) (jrecv (q := (RX4, TX4, 0)) X ln_17 ly_17 rfl hP) hd k2
  · exact va_instNo (C := RX1) (nm := RX3) X.1 X.2.1 X.2.2.2.1 (X.2.2.2.2.1 _ tw_103) (X.2.2.2.2.2.2.2.2.2.2.2 (RX1, RX3) (by decide)) (jrecv (q := (RX1, TX1, 0)) X ln_18 ly_18 rfl hP) hd k2
  · exact va_instS (nm := RX3) X.1 X.2.1 X.2.2.2.1 (X.2.2.2.2.1 _ tw_103) (X.2.2.2.2.2.1.1 3 _ rfl).2 (jrecv (q := (RX3, TX3, 0)) X ln_19 ly_19 rfl hP) hd k2
  · exact va_instNo (C := RX8) (nm := RX3) X.1 X.2.1 X.2.2.2.1 (X.2.2.2.2.1 _ tw_103) (X.2.2.2.2.2.2.2.2.2.2.2 (RX8, RX3) (by decide)) (jrecv (q := (RX8, TX8, 0)) X ln_20 ly_20 rfl hP) hd k2
  · exact va_instNo (C := RX7) (nm := RX3) X.1 X.2.1 X.2.2.2.1 (X.2.2.2.2.1 _ tw_103) (X.2.2.2.2.2.2.2.2.2.2.2 (RX7, RX3) (by decide)) (jrecv (q := (RX7, TX7, 0)) X ln_21 ly_21 rfl hP) hd k2
def jio_39 (w : Nat) : Int32 := if 20 ≤ w ∧ w ≤ 21 then 1 else 0
set_option maxRecDepth 100000 in
theorem ji_RX11_39 {K : jK} {cc : ByteArray} {nL fr lo pc w : Nat} {ls : List (Option Value)} {st : List Value} {σ : jMem} (X : JX K cc nL RX11 fr lo) (hw : 16 ≤ w ∧ w ≤ 21) (hd : decode cc pc = .ok (.instanceof 39, 3)) (kk : J K (pc + 3) ls (.int (jio_39 w) :: st) σ) : J K pc ls (.ref w :: st) σ := fun H locs sl hP hS hLv => by
  have k2 := kk H locs sl hP hS hLv
  rcases (show w = 16 ∨ w = 17 ∨ w = 18 ∨ w = 19 ∨ w = 20 ∨ w = 21 by omega) with rfl | rfl | rfl | rfl | rfl | rfl
  · exact va_instNo (C := RX10) (nm := RX8) X.1 X.2.1 X.2.2.2.1 (X.2.2.2.2.1 _ tw_110) (X.2.2.2.2.2.2.2.2.2.2.2 (RX10, RX8) (by decide)) (jrecv (q := (RX10, TX10, 0)) X ln_16 ly_16 rfl hP) hd k2
  · exact va_instNo (C := RX4) (nm := RX8) X.1 X.2.1 X.2.2.2.1 (X.2.2.2.2.1 _ tw_110) (X.2.2.2.2.2.2.2.2.2.2.2 (RX4, RX8) (by decide)) (jrecv (q := (RX4, TX4, 0)) X ln_17 ly_17 rfl hP) hd k2
  · exact va_instNo (C := RX1) (nm := RX8) X.1 X.2.1 X.2.2.2.1 (X.2.2.2.2.1 _ tw_110) (X.2.2.2.2.2.2.2.2.2.2.2 (RX1, RX8) (by decide)) (jrecv (q := (RX1, TX1, 0)) X ln_18 ly_18 rfl hP) hd k2
  · exact va_instNo (C := RX3) (nm := RX8) X.1 X.2.1 X.2.2.2.1 (X.2.2.2.2.1 _ tw_110) (X.2.2.2.2.2.2.2.2.2.2.2 (RX3, RX8) (by decide)) (jrecv (q := (RX3, TX3, 0)) X ln_19 ly_19 rfl hP) hd k2
  · exact va_instS (nm := RX8) X.1 X.2.1 X.2.2.2.1 (X.2.2.2.2.1 _ tw_110) (X.2.2.2.2.2.1.1 8 _ rfl).2 (jrecv (q := (RX8, TX8, 0)) X ln_20 ly_20 rfl hP) hd k2
  · exact va_instY (C := RX7) (nm := RX8) X.1 X.2.1 X.2.2.2.1 (X.2.2.2.2.1 _ tw_110) (X.2.2.2.2.2.2.2.2.2.2.1 (RX7, RX8) (by decide)) (jrecv (q := (RX7, TX7, 0)) X ln_21 ly_21 rfl hP) hd k2
def jio_42 (w : Nat) : Int32 := if 21 ≤ w ∧ w ≤ 21 then 1 else 0
set_option maxRecDepth 100000 in
theorem ji_RX11_42 {K : jK} {cc : ByteArray} {nL fr lo pc w : Nat} {ls : List (Option Value)} {st : List Value} {σ : jMem} (X : JX K cc nL RX11 fr lo) (hw : 16 ≤ w ∧ w ≤ 21) (hd : decode cc pc = .ok (.instanceof 42, 3)) (kk : J K (pc + 3) ls (.int (jio_42 w) :: st) σ) : J K pc ls (.ref w :: st) σ := fun H locs sl hP hS hLv => by
  have k2 := kk H locs sl hP hS hLv
  rcases (show w = 16 ∨ w = 17 ∨ w = 18 ∨ w = 19 ∨ w = 20 ∨ w = 21 by omega) with rfl | rfl | rfl | rfl | rfl | rfl
  · exact va_instNo (C := RX10) (nm := RX7) X.1 X.2.1 X.2.2.2.1 (X.2.2.2.2.1 _ tw_117) (X.2.2.2.2.2.2.2.2.2.2.2 (RX10, RX7) (by decide)) (jrecv (q := (RX10, TX10, 0)) X ln_16 ly_16 rfl hP) hd k2
  · exact va_instNo (C := RX4) (nm := RX7) X.1 X.2.1 X.2.2.2.1 (X.2.2.2.2.1 _ tw_117) (X.2.2.2.2.2.2.2.2.2.2.2 (RX4, RX7) (by decide)) (jrecv (q := (RX4, TX4, 0)) X ln_17 ly_17 rfl hP) hd k2
  · exact va_instNo (C := RX1) (nm := RX7) X.1 X.2.1 X.2.2.2.1 (X.2.2.2.2.1 _ tw_117) (X.2.2.2.2.2.2.2.2.2.2.2 (RX1, RX7) (by decide)) (jrecv (q := (RX1, TX1, 0)) X ln_18 ly_18 rfl hP) hd k2
  · exact va_instNo (C := RX3) (nm := RX7) X.1 X.2.1 X.2.2.2.1 (X.2.2.2.2.1 _ tw_117) (X.2.2.2.2.2.2.2.2.2.2.2 (RX3, RX7) (by decide)) (jrecv (q := (RX3, TX3, 0)) X ln_19 ly_19 rfl hP) hd k2
  · exact va_instNo (C := RX8) (nm := RX7) X.1 X.2.1 X.2.2.2.1 (X.2.2.2.2.1 _ tw_117) (X.2.2.2.2.2.2.2.2.2.2.2 (RX8, RX7) (by decide)) (jrecv (q := (RX8, TX8, 0)) X ln_20 ly_20 rfl hP) hd k2
  · exact va_instS (nm := RX7) X.1 X.2.1 X.2.2.2.1 (X.2.2.2.2.1 _ tw_117) (X.2.2.2.2.2.1.1 7 _ rfl).2 (jrecv (q := (RX7, TX7, 0)) X ln_21 ly_21 rfl hP) hd k2
theorem j_mmin {K : jK} {cc : ByteArray} {nL : Nat} {own : String} {fr lo pc index : Nat} {ls : List (Option Value)} {st : List Value} {σ : jMem} {x y : Int32} (X : JX K cc nL own fr lo) (h1 : Cond.methodLink own index yJ9_min_7cf53 ∈ TT) (h2 : Cond.static yJ9_min_7cf53 ∈ TT) (h3 : Cond.initialized RJ9 ∈ TT) (h4 : Cond.code yJ9_min_7cf53 cJ9_min_7cf53 2 (some .int) ∈ TT) (hnl : ls.length = nL) (hfr : 1 ≤ fr) (hlo : (st.map fun v => v.category).sum + 13 ≤ lo) (hd : decode cc pc = .ok (.invokestatic index, 3)) (kk : J K (pc + 3) ls (.int (if y < x then y else x) :: st) σ) : J K pc ls (.int y :: .int x :: st) σ := fun H locs sl hP hS hLv =>
  va_mmin X.1 X.2.1 (by rw [X.2.2.1, hLv.1, hnl]) X.2.2.2.1 (X.2.2.2.2.1 _ h1) (X.2.2.2.2.1 _ h2) (X.2.2.2.2.1 _ h3) (X.2.2.2.2.1 _ h4) (Nat.le_trans hfr X.2.2.2.2.2.2.2.2.1.1) (by rw [jcats]; exact Nat.le_trans hlo X.2.2.2.2.2.2.2.2.1.2.1) X.2.2.2.2.2.2.2.2.1.2.2.1 X.2.2.2.2.2.2.2.2.1.2.2.2 hd (kk H locs sl hP hS hLv)
