set_option maxRecDepth 100000 in
set_option maxHeartbeats 4000000 in
theorem ci_X6_init {l : Launch} {D : va_G} {cid : Nat → ClassId} (h0 : Nat) : iMet l D cid yX6_init cX6_init 2 1 12 11 344 [.ref h0] h0 (.inr (6, [.null, .null, .null])) 11 (fun qs => match qs with | [z0, z1, z2, z3, z4, z5, z6, z7, z8, z9, z10] => [(h0, .inr (6, [.ref z0, .ref z9, .ref z10])), (z0, .inl (cid 6, 8, .inr (.inr (.inr (.inr (fun i => [some z1, some z2, some z3, some z4, some z5, some z6, some z7, some z8].getD i none)))))), (z1, .inl (cid 1, 40, .inl (fun _ => 0))), (z2, .inl (cid 1, 40, .inl (fun _ => 0))), (z3, .inl (cid 1, 40, .inl (fun _ => 0))), (z4, .inl (cid 1, 40, .inl (fun _ => 0))), (z5, .inl (cid 1, 40, .inl (fun _ => 0))), (z6, .inl (cid 1, 40, .inl (fun _ => 0))), (z7, .inl (cid 1, 40, .inl (fun _ => 0))), (z8, .inl (cid 1, 40, .inl (fun _ => 0))), (z9, .inl (cid 1, 8, .inl (fun _ => 0))), (z10, .inl (cid 1, 8, .inl (upd (upd (upd (upd (upd (upd (upd (upd (fun _ => 0) 0 (-1)) 1 (-1)) 2 (-1)) 3 (-1)) 4 (-1)) 5 (-1)) 6 (-1)) 7 (-1))))] | _ => []) := by
  refine iMet_of (ls0 := [some (.ref h0), none]) (by decide) rfl (Nat.le_of_ble_eq_true rfl) rfl (fun K sz X R0 hk => ?_)
  obtain ⟨rfl, rfl, rfl⟩ := hk
  refine i_aload_n X 0 dX6_init_0 rfl rfl ?_
  refine i_objInit X tw_30 tw_23 tw_oi rfl (Nat.le_of_ble_eq_true rfl) (Nat.le_of_ble_eq_true rfl) dX6_init_1 ?_
  refine i_aload_n X 0 dX6_init_4 rfl rfl ?_
  refine i_bipush (v := 8) X dX6_init_5 (by decide) ?_
  refine i_bipush (v := 40) X dX6_init_7 (by decide) ?_
  refine i_mna (N := 8) (M := 40) X tw_31 tw_46 (by decide) (by decide) (by decide) (by decide) (by decide) (by decide) (Nat.le_of_ble_eq_true rfl) (Nat.le_of_ble_eq_true rfl) dX6_init_9 (fun q1 r2 => ?_)
  refine i_eq (ws' := [(h0, .inr (6, [.null, .null, .null])), (q1, .inl (kc K 6, 8, .inr (.inr (.inr (.inr (fun i => [some (r2 0), some (r2 1), some (r2 2), some (r2 3), some (r2 4), some (r2 5), some (r2 6), some (r2 7)].getD i none)))))), ((r2 0), .inl (kc K 1, 40, .inl (fun _ => 0))), ((r2 1), .inl (kc K 1, 40, .inl (fun _ => 0))), ((r2 2), .inl (kc K 1, 40, .inl (fun _ => 0))), ((r2 3), .inl (kc K 1, 40, .inl (fun _ => 0))), ((r2 4), .inl (kc K 1, 40, .inl (fun _ => 0))), ((r2 5), .inl (kc K 1, 40, .inl (fun _ => 0))), ((r2 6), .inl (kc K 1, 40, .inl (fun _ => 0))), ((r2 7), .inl (kc K 1, 40, .inl (fun _ => 0)))]) (c9' := 9) (s9' := 328) (by rw [i_mn]; rfl) rfl rfl ?_
  refine i_putF (ty := .array (.array .int)) (j := 0) (v := q1) (ws' := [(h0, .inr (6, [.ref q1, .null, .null])), (q1, .inl (kc K 6, 8, .inr (.inr (.inr (.inr (fun i => [some (r2 0), some (r2 1), some (r2 2), some (r2 3), some (r2 4), some (r2 5), some (r2 6), some (r2 7)].getD i none)))))), ((r2 0), .inl (kc K 1, 40, .inl (fun _ => 0))), ((r2 1), .inl (kc K 1, 40, .inl (fun _ => 0))), ((r2 2), .inl (kc K 1, 40, .inl (fun _ => 0))), ((r2 3), .inl (kc K 1, 40, .inl (fun _ => 0))), ((r2 4), .inl (kc K 1, 40, .inl (fun _ => 0))), ((r2 5), .inl (kc K 1, 40, .inl (fun _ => 0))), ((r2 6), .inl (kc K 1, 40, .inl (fun _ => 0))), ((r2 7), .inl (kc K 1, 40, .inl (fun _ => 0)))]) X 0 tyX6 inT_6 tyX6_ok nmX6 R0.2.2.2.2.2 rfl rfl (by decide) tw_33 rfl rfl rfl (by decide +kernel) rfl rfl (Nat.le_of_ble_eq_true rfl) rfl dX6_init_13 ?_
  refine i_aload_n X 0 dX6_init_16 rfl rfl ?_
  refine i_bipush (v := 8) X dX6_init_17 (by decide) ?_
  refine i_newa (atype := .int) (N := 8) (a0 := (8, .inl (fun _ => 0))) X 1 tw_46 rfl rfl rfl (fun _ => rfl) (by decide) (by decide) (by decide) (Nat.le_of_ble_eq_true rfl) (Nat.le_of_ble_eq_true rfl) dX6_init_19 (fun q3 => ?_)
  refine i_eq (ws' := [(h0, .inr (6, [.ref q1, .null, .null])), (q1, .inl (kc K 6, 8, .inr (.inr (.inr (.inr (fun i => [some (r2 0), some (r2 1), some (r2 2), some (r2 3), some (r2 4), some (r2 5), some (r2 6), some (r2 7)].getD i none)))))), ((r2 0), .inl (kc K 1, 40, .inl (fun _ => 0))), ((r2 1), .inl (kc K 1, 40, .inl (fun _ => 0))), ((r2 2), .inl (kc K 1, 40, .inl (fun _ => 0))), ((r2 3), .inl (kc K 1, 40, .inl (fun _ => 0))), ((r2 4), .inl (kc K 1, 40, .inl (fun _ => 0))), ((r2 5), .inl (kc K 1, 40, .inl (fun _ => 0))), ((r2 6), .inl (kc K 1, 40, .inl (fun _ => 0))), ((r2 7), .inl (kc K 1, 40, .inl (fun _ => 0))), (q3, .inl (kc K 1, 8, .inl (fun _ => 0)))]) (c9' := 10) (s9' := 336) rfl rfl rfl ?_
  refine i_putF (ty := .array .int) (j := 1) (v := q3) (ws' := [(h0, .inr (6, [.ref q1, .ref q3, .null])), (q1, .inl (kc K 6, 8, .inr (.inr (.inr (.inr (fun i => [some (r2 0), some (r2 1), some (r2 2), some (r2 3), some (r2 4), some (r2 5), some (r2 6), some (r2 7)].getD i none)))))), ((r2 0), .inl (kc K 1, 40, .inl (fun _ => 0))), ((r2 1), .inl (kc K 1, 40, .inl (fun _ => 0))), ((r2 2), .inl (kc K 1, 40, .inl (fun _ => 0))), ((r2 3), .inl (kc K 1, 40, .inl (fun _ => 0))), ((r2 4), .inl (kc K 1, 40, .inl (fun _ => 0))), ((r2 5), .inl (kc K 1, 40, .inl (fun _ => 0))), ((r2 6), .inl (kc K 1, 40, .inl (fun _ => 0))), ((r2 7), .inl (kc K 1, 40, .inl (fun _ => 0))), (q3, .inl (kc K 1, 8, .inl (fun _ => 0)))]) X 0 tyX6 inT_6 tyX6_ok nmX6 R0.2.2.2.2.2 rfl rfl (by decide) tw_35 rfl rfl rfl (by decide +kernel) rfl rfl (Nat.le_of_ble_eq_true rfl) rfl dX6_init_21 ?_
  refine i_aload_n X 0 dX6_init_24 rfl rfl ?_
  refine i_bipush (v := 8) X dX6_init_25 (by decide) ?_
  refine i_newa (atype := .int) (N := 8) (a0 := (8, .inl (fun _ => 0))) X 1 tw_46 rfl rfl rfl (fun _ => rfl) (by decide) (by decide) (by decide) (Nat.le_of_ble_eq_true rfl) (Nat.le_of_ble_eq_true rfl) dX6_init_27 (fun q4 => ?_)
  refine i_eq (ws' := [(h0, .inr (6, [.ref q1, .ref q3, .null])), (q1, .inl (kc K 6, 8, .inr (.inr (.inr (.inr (fun i => [some (r2 0), some (r2 1), some (r2 2), some (r2 3), some (r2 4), some (r2 5), some (r2 6), some (r2 7)].getD i none)))))), ((r2 0), .inl (kc K 1, 40, .inl (fun _ => 0))), ((r2 1), .inl (kc K 1, 40, .inl (fun _ => 0))), ((r2 2), .inl (kc K 1, 40, .inl (fun _ => 0))), ((r2 3), .inl (kc K 1, 40, .inl (fun _ => 0))), ((r2 4), .inl (kc K 1, 40, .inl (fun _ => 0))), ((r2 5), .inl (kc K 1, 40, .inl (fun _ => 0))), ((r2 6), .inl (kc K 1, 40, .inl (fun _ => 0))), ((r2 7), .inl (kc K 1, 40, .inl (fun _ => 0))), (q3, .inl (kc K 1, 8, .inl (fun _ => 0))), (q4, .inl (kc K 1, 8, .inl (fun _ => 0)))]) (c9' := 11) (s9' := 344) rfl rfl rfl ?_
  refine i_putF (ty := .array .int) (j := 2) (v := q4) (ws' := [(h0, .inr (6, [.ref q1, .ref q3, .ref q4])), (q1, .inl (kc K 6, 8, .inr (.inr (.inr (.inr (fun i => [some (r2 0), some (r2 1), some (r2 2), some (r2 3), some (r2 4), some (r2 5), some (r2 6), some (r2 7)].getD i none)))))), ((r2 0), .inl (kc K 1, 40, .inl (fun _ => 0))), ((r2 1), .inl (kc K 1, 40, .inl (fun _ => 0))), ((r2 2), .inl (kc K 1, 40, .inl (fun _ => 0))), ((r2 3), .inl (kc K 1, 40, .inl (fun _ => 0))), ((r2 4), .inl (kc K 1, 40, .inl (fun _ => 0))), ((r2 5), .inl (kc K 1, 40, .inl (fun _ => 0))), ((r2 6), .inl (kc K 1, 40, .inl (fun _ => 0))), ((r2 7), .inl (kc K 1, 40, .inl (fun _ => 0))), (q3, .inl (kc K 1, 8, .inl (fun _ => 0))), (q4, .inl (kc K 1, 8, .inl (fun _ => 0)))]) X 0 tyX6 inT_6 tyX6_ok nmX6 R0.2.2.2.2.2 rfl rfl (by decide) tw_37 rfl rfl rfl (by decide +kernel) rfl rfl (Nat.le_of_ble_eq_true rfl) rfl dX6_init_29 ?_
  refine i_iconst (v := 0) X dX6_init_32 (by decide) ?_
  refine i_istore_n (ls' := [some (.ref h0), some (.int (0))]) X 1 dX6_init_33 rfl (Nat.le_of_ble_eq_true rfl) rfl ?_
  refine i_iload_n X 1 dX6_init_34 rfl rfl ?_
  refine i_bipush (v := 8) X dX6_init_35 (by decide) ?_
  refine i_icmp_ge_f (tgt := 53) X dX6_init_37 (by decide) (by decide) ?_
  refine i_aload_n X 0 dX6_init_40 rfl rfl ?_
  refine i_getR (j := 2) (v := q4) X 0 inT_6 rfl rfl (by decide) tw_37 rfl rfl dX6_init_41 ?_
  refine i_iload_n X 1 dX6_init_44 rfl rfl ?_
  refine i_iconst (v := -1) X dX6_init_45 (by decide) ?_
  refine i_iast (j := 0) (ws' := [(h0, .inr (6, [.ref q1, .ref q3, .ref q4])), (q1, .inl (kc K 6, 8, .inr (.inr (.inr (.inr (fun i => [some (r2 0), some (r2 1), some (r2 2), some (r2 3), some (r2 4), some (r2 5), some (r2 6), some (r2 7)].getD i none)))))), ((r2 0), .inl (kc K 1, 40, .inl (fun _ => 0))), ((r2 1), .inl (kc K 1, 40, .inl (fun _ => 0))), ((r2 2), .inl (kc K 1, 40, .inl (fun _ => 0))), ((r2 3), .inl (kc K 1, 40, .inl (fun _ => 0))), ((r2 4), .inl (kc K 1, 40, .inl (fun _ => 0))), ((r2 5), .inl (kc K 1, 40, .inl (fun _ => 0))), ((r2 6), .inl (kc K 1, 40, .inl (fun _ => 0))), ((r2 7), .inl (kc K 1, 40, .inl (fun _ => 0))), (q3, .inl (kc K 1, 8, .inl (fun _ => 0))), (q4, .inl (kc K 1, 8, .inl (upd (fun _ => 0) 0 (-1))))]) X 11 rfl (jin_spec (by decide)) (by decide) rfl dX6_init_46 ?_
  refine i_iinc (v := 1) (ls' := [some (.ref h0), some (.int (1))]) X dX6_init_47 rfl (by decide) (Nat.le_of_ble_eq_true rfl) rfl ?_
  refine i_goto (tgt := 34) X dX6_init_50 (by decide) ?_
  refine i_iload_n X 1 dX6_init_34 rfl rfl ?_
  refine i_bipush (v := 8) X dX6_init_35 (by decide) ?_
  refine i_icmp_ge_f (tgt := 53) X dX6_init_37 (by decide) (by decide) ?_
  refine i_aload_n X 0 dX6_init_40 rfl rfl ?_
  refine i_getR (j := 2) (v := q4) X 0 inT_6 rfl rfl (by decide) tw_37 rfl rfl dX6_init_41 ?_
  refine i_iload_n X 1 dX6_init_44 rfl rfl ?_
  refine i_iconst (v := -1) X dX6_init_45 (by decide) ?_
  refine i_iast (j := 1) (ws' := [(h0, .inr (6, [.ref q1, .ref q3, .ref q4])), (q1, .inl (kc K 6, 8, .inr (.inr (.inr (.inr (fun i => [some (r2 0), some (r2 1), some (r2 2), some (r2 3), some (r2 4), some (r2 5), some (r2 6), some (r2 7)].getD i none)))))), ((r2 0), .inl (kc K 1, 40, .inl (fun _ => 0))), ((r2 1), .inl (kc K 1, 40, .inl (fun _ => 0))), ((r2 2), .inl (kc K 1, 40, .inl (fun _ => 0))), ((r2 3), .inl (kc K 1, 40, .inl (fun _ => 0))), ((r2 4), .inl (kc K 1, 40, .inl (fun _ => 0))), ((r2 5), .inl (kc K 1, 40, .inl (fun _ => 0))), ((r2 6), .inl (kc K 1, 40, .inl (fun _ => 0))), ((r2 7), .inl (kc K 1, 40, .inl (fun _ => 0))), (q3, .inl (kc K 1, 8, .inl (fun _ => 0))), (q4, .inl (kc K 1, 8, .inl (upd (upd (fun _ => 0) 0 (-1)) 1 (-1))))]) X 11 rfl (jin_spec (by decide)) (by decide) rfl dX6_init_46 ?_
  refine i_iinc (v := 2) (ls' := [some (.ref h0), some (.int (2))]) X dX6_init_47 rfl (by decide) (Nat.le_of_ble_eq_true rfl) rfl ?_
  refine i_goto (tgt := 34) X dX6_init_50 (by decide) ?_
  refine i_iload_n X 1 dX6_init_34 rfl rfl ?_
  refine i_bipush (v := 8) X dX6_init_35 (by decide) ?_
  refine i_icmp_ge_f (tgt := 53) X dX6_init_37 (by decide) (by decide) ?_
  refine i_aload_n X 0 dX6_init_40 rfl rfl ?_
  refine i_getR (j := 2) (v := q4) X 0 inT_6 rfl rfl (by decide) tw_37 rfl rfl dX6_init_41 ?_
  refine i_iload_n X 1 dX6_init_44 rfl rfl ?_
  refine i_iconst (v := -1) X dX6_init_45 (by decide) ?_
  refine i_iast (j := 2) (ws' := [(h0, .inr (6, [.ref q1, .ref q3, .ref q4])), (q1, .inl (kc K 6, 8, .inr (.inr (.inr (.inr (fun i => [some (r2 0), some (r2 1), some (r2 2), some (r2 3), some (r2 4), some (r2 5), some (r2 6), some (r2 7)].getD i none)))))), ((r2 0), .inl (kc K 1, 40, .inl (fun _ => 0))), ((r2 1), .inl (kc K 1, 40, .inl (fun _ => 0))), ((r2 2), .inl (kc K 1, 40, .inl (fun _ => 0))), ((r2 3), .inl (kc K 1, 40, .inl (fun _ => 0))), ((r2 4), .inl (kc K 1, 40, .inl (fun _ => 0))), ((r2 5), .inl (kc K 1, 40, .inl (fun _ => 0))), ((r2 6), .inl (kc K 1, 40, .inl (fun _ => 0))), ((r2 7), .inl (kc K 1, 40, .inl (fun _ => 0))), (q3, .inl (kc K 1, 8, .inl (fun _ => 0))), (q4, .inl (kc K 1, 8, .inl (upd (upd (upd (fun _ => 0) 0 (-1)) 1 (-1)) 2 (-1))))]) X 11 rfl (jin_spec (by decide)) (by decide) rfl dX6_init_46 ?_
  refine i_iinc (v := 3) (ls' := [some (.ref h0), some (.int (3))]) X dX6_init_47 rfl (by decide) (Nat.le_of_ble_eq_true rfl) rfl ?_
  refine i_goto (tgt := 34) X dX6_init_50 (by decide) ?_
  refine i_iload_n X 1 dX6_init_34 rfl rfl ?_
  refine i_bipush (v := 8) X dX6_init_35 (by decide) ?_
  refine i_icmp_ge_f (tgt := 53) X dX6_init_37 (by decide) (by decide) ?_
  refine i_aload_n X 0 dX6_init_40 rfl rfl ?_
  refine i_getR (j := 2) (v := q4) X 0 inT_6 rfl rfl (by decide) tw_37 rfl rfl dX6_init_41 ?_
  refine i_iload_n X 1 dX6_init_44 rfl rfl ?_
  refine i_iconst (v := -1) X dX6_init_45 (by decide) ?_
  refine i_iast (j := 3) (ws' := [(h0, .inr (6, [.ref q1, .ref q3, .ref q4])), (q1, .inl (kc K 6, 8, .inr (.inr (.inr (.inr (fun i => [some (r2 0), some (r2 1), some (r2 2), some (r2 3), some (r2 4), some (r2 5), some (r2 6), some (r2 7)].getD i none)))))), ((r2 0), .inl (kc K 1, 40, .inl (fun _ => 0))), ((r2 1), .inl (kc K 1, 40, .inl (fun _ => 0))), ((r2 2), .inl (kc K 1, 40, .inl (fun _ => 0))), ((r2 3), .inl (kc K 1, 40, .inl (fun _ => 0))), ((r2 4), .inl (kc K 1, 40, .inl (fun _ => 0))), ((r2 5), .inl (kc K 1, 40, .inl (fun _ => 0))), ((r2 6), .inl (kc K 1, 40, .inl (fun _ => 0))), ((r2 7), .inl (kc K 1, 40, .inl (fun _ => 0))), (q3, .inl (kc K 1, 8, .inl (fun _ => 0))), (q4, .inl (kc K 1, 8, .inl (upd (upd (upd (upd (fun _ => 0) 0 (-1)) 1 (-1)) 2 (-1)) 3 (-1))))]) X 11 rfl (jin_spec (by decide)) (by decide) rfl dX6_init_46 ?_
  refine i_iinc (v := 4) (ls' := [some (.ref h0), some (.int (4))]) X dX6_init_47 rfl (by decide) (Nat.le_of_ble_eq_true rfl) rfl ?_
  refine i_goto (tgt := 34) X dX6_init_50 (by decide) ?_
  refine i_iload_n X 1 dX6_init_34 rfl rfl ?_
  refine i_bipush (v := 8) X dX6_init_35 (by decide) ?_
  refine i_icmp_ge_f (tgt := 53) X dX6_init_37 (by decide) (by decide) ?_
  refine i_aload_n X 0 dX6_init_40 rfl rfl ?_
  refine i_getR (j := 2) (v := q4) X 0 inT_6 rfl rfl (by decide) tw_37 rfl rfl dX6_init_41 ?_
  refine i_iload_n X 1 dX6_init_44 rfl rfl ?_
  refine i_iconst (v := -1) X dX6_init_45 (by decide) ?_
  refine i_iast (j := 4) (ws' := [(h0, .inr (6, [.ref q1, .ref q3, .ref q4])), (q1, .inl (kc K 6, 8, .inr (.inr (.inr (.inr (fun i => [some (r2 0), some (r2 1), some (r2 2), some (r2 3), some (r2 4), some (r2 5), some (r2 6), some (r2 7)].getD i none)))))), ((r2 0), .inl (kc K 1, 40, .inl (fun _ => 0))), ((r2 1), .inl (kc K 1, 40, .inl (fun _ => 0))), ((r2 2), .inl (kc K 1, 40, .inl (fun _ => 0))), ((r2 3), .inl (kc K 1, 40, .inl (fun _ => 0))), ((r2 4), .inl (kc K 1, 40, .inl (fun _ => 0))), ((r2 5), .inl (kc K 1, 40, .inl (fun _ => 0))), ((r2 6), .inl (kc K 1, 40, .inl (fun _ => 0))), ((r2 7), .inl (kc K 1, 40, .inl (fun _ => 0))), (q3, .inl (kc K 1, 8, .inl (fun _ => 0))), (q4, .inl (kc K 1, 8, .inl (upd (upd (upd (upd (upd (fun _ => 0) 0 (-1)) 1 (-1)) 2 (-1)) 3 (-1)) 4 (-1))))]) X 11 rfl (jin_spec (by decide)) (by decide) rfl dX6_init_46 ?_
  refine i_iinc (v := 5) (ls' := [some (.ref h0), some (.int (5))]) X dX6_init_47 rfl (by decide) (Nat.le_of_ble_eq_true rfl) rfl ?_
  refine i_goto (tgt := 34) X dX6_init_50 (by decide) ?_
  refine i_iload_n X 1 dX6_init_34 rfl rfl ?_
  refine i_bipush (v := 8) X dX6_init_35 (by decide) ?_
  refine i_icmp_ge_f (tgt := 53) X dX6_init_37 (by decide) (by decide) ?_
  refine i_aload_n X 0 dX6_init_40 rfl rfl ?_
  refine i_getR (j := 2) (v := q4) X 0 inT_6 rfl rfl (by decide) tw_37 rfl rfl dX6_init_41 ?_
  refine i_iload_n X 1 dX6_init_44 rfl rfl ?_
  refine i_iconst (v := -1) X dX6_init_45 (by decide) ?_
  refine i_iast (j := 5) (ws' := [(h0, .inr (6, [.ref q1, .ref q3, .ref q4])), (q1, .inl (kc K 6, 8, .inr (.inr (.inr (.inr (fun i => [some (r2 0), some (r2 1), some (r2 2), some (r2 3), some (r2 4), some (r2 5), some (r2 6), some (r2 7)].getD i none)))))), ((r2 0), .inl (kc K 1, 40, .inl (fun _ => 0))), ((r2 1), .inl (kc K 1, 40, .inl (fun _ => 0))), ((r2 2), .inl (kc K 1, 40, .inl (fun _ => 0))), ((r2 3), .inl (kc K 1, 40, .inl (fun _ => 0))), ((r2 4), .inl (kc K 1, 40, .inl (fun _ => 0))), ((r2 5), .inl (kc K 1, 40, .inl (fun _ => 0))), ((r2 6), .inl (kc K 1, 40, .inl (fun _ => 0))), ((r2 7), .inl (kc K 1, 40, .inl (fun _ => 0))), (q3, .inl (kc K 1, 8, .inl (fun _ => 0))), (q4, .inl (kc K 1, 8, .inl (upd (upd (upd (upd (upd (upd (fun _ => 0) 0 (-1)) 1 (-1)) 2 (-1)) 3 (-1)) 4 (-1)) 5 (-1))))]) X 11 rfl (jin_spec (by decide)) (by decide) rfl dX6_init_46 ?_
  refine i_iinc (v := 6) (ls' := [some (.ref h0), some (.int (6))]) X dX6_init_47 rfl (by decide) (Nat.le_of_ble_eq_true rfl) rfl ?_
  refine i_goto (tgt := 34) X dX6_init_50 (by decide) ?_
  refine i_iload_n X 1 dX6_init_34 rfl rfl ?_
  refine i_bipush (v := 8) X dX6_init_35 (by decide) ?_
  refine i_icmp_ge_f (tgt := 53) X dX6_init_37 (by decide) (by decide) ?_
  refine i_aload_n X 0 dX6_init_40 rfl rfl ?_
  refine i_getR (j := 2) (v := q4) X 0 inT_6 rfl rfl (by decide) tw_37 rfl rfl dX6_init_41 ?_
  refine i_iload_n X 1 dX6_init_44 rfl rfl ?_
  refine i_iconst (v := -1) X dX6_init_45 (by decide) ?_
  refine i_iast (j := 6) (ws' := [(h0, .inr (6, [.ref q1, .ref q3, .ref q4])), (q1, .inl (kc K 6, 8, .inr (.inr (.inr (.inr (fun i => [some (r2 0), some (r2 1), some (r2 2), some (r2 3), some (r2 4), some (r2 5), some (r2 6), some (r2 7)].getD i none)))))), ((r2 0), .inl (kc K 1, 40, .inl (fun _ => 0))), ((r2 1), .inl (kc K 1, 40, .inl (fun _ => 0))), ((r2 2), .inl (kc K 1, 40, .inl (fun _ => 0))), ((r2 3), .inl (kc K 1, 40, .inl (fun _ => 0))), ((r2 4), .inl (kc K 1, 40, .inl (fun _ => 0))), ((r2 5), .inl (kc K 1, 40, .inl (fun _ => 0))), ((r2 6), .inl (kc K 1, 40, .inl (fun _ => 0))), ((r2 7), .inl (kc K 1, 40, .inl (fun _ => 0))), (q3, .inl (kc K 1, 8, .inl (fun _ => 0))), (q4, .inl (kc K 1, 8, .inl (upd (upd (upd (upd (upd (upd (upd (fun _ => 0) 0 (-1)) 1 (-1)) 2 (-1)) 3 (-1)) 4 (-1)) 5 (-1)) 6 (-1))))]) X 11 rfl (jin_spec (by decide)) (by decide) rfl dX6_init_46 ?_
  refine i_iinc (v := 7) (ls' := [some (.ref h0), some (.int (7))]) X dX6_init_47 rfl (by decide) (Nat.le_of_ble_eq_true rfl) rfl ?_
  refine i_goto (tgt := 34) X dX6_init_50 (by decide) ?_
  refine i_iload_n X 1 dX6_init_34 rfl rfl ?_
  refine i_bipush (v := 8) X dX6_init_35 (by decide) ?_
  refine i_icmp_ge_f (tgt := 53) X dX6_init_37 (by decide) (by decide) ?_
  refine i_aload_n X 0 dX6_init_40 rfl rfl ?_
  refine i_getR (j := 2) (v := q4) X 0 inT_6 rfl rfl (by decide) tw_37 rfl rfl dX6_init_41 ?_
  refine i_iload_n X 1 dX6_init_44 rfl rfl ?_
  refine i_iconst (v := -1) X dX6_init_45 (by decide) ?_
  refine i_iast (j := 7) (ws' := [(h0, .inr (6, [.ref q1, .ref q3, .ref q4])), (q1, .inl (kc K 6, 8, .inr (.inr (.inr (.inr (fun i => [some (r2 0), some (r2 1), some (r2 2), some (r2 3), some (r2 4), some (r2 5), some (r2 6), some (r2 7)].getD i none)))))), ((r2 0), .inl (kc K 1, 40, .inl (fun _ => 0))), ((r2 1), .inl (kc K 1, 40, .inl (fun _ => 0))), ((r2 2), .inl (kc K 1, 40, .inl (fun _ => 0))), ((r2 3), .inl (kc K 1, 40, .inl (fun _ => 0))), ((r2 4), .inl (kc K 1, 40, .inl (fun _ => 0))), ((r2 5), .inl (kc K 1, 40, .inl (fun _ => 0))), ((r2 6), .inl (kc K 1, 40, .inl (fun _ => 0))), ((r2 7), .inl (kc K 1, 40, .inl (fun _ => 0))), (q3, .inl (kc K 1, 8, .inl (fun _ => 0))), (q4, .inl (kc K 1, 8, .inl (upd (upd (upd (upd (upd (upd (upd (upd (fun _ => 0) 0 (-1)) 1 (-1)) 2 (-1)) 3 (-1)) 4 (-1)) 5 (-1)) 6 (-1)) 7 (-1))))]) X 11 rfl (jin_spec (by decide)) (by decide) rfl dX6_init_46 ?_
  refine i_iinc (v := 8) (ls' := [some (.ref h0), some (.int (8))]) X dX6_init_47 rfl (by decide) (Nat.le_of_ble_eq_true rfl) rfl ?_
  refine i_goto (tgt := 34) X dX6_init_50 (by decide) ?_
  refine i_iload_n X 1 dX6_init_34 rfl rfl ?_
  refine i_bipush (v := 8) X dX6_init_35 (by decide) ?_
  refine i_icmp_ge_t (tgt := 53) X dX6_init_37 (by decide) (by decide) ?_
  exact i_vret X R0 [q1, (r2 0), (r2 1), (r2 2), (r2 3), (r2 4), (r2 5), (r2 6), (r2 7), q3, q4] rfl [0, 1, 2, 3, 4, 5, 6, 7, 8, 9, 10, 11] rfl (by decide) rfl (Nat.le_of_ble_eq_true rfl) (Nat.le_of_ble_eq_true rfl) dX6_init_53
