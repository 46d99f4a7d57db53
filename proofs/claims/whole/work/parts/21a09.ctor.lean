set_option maxRecDepth 100000 in
set_option maxHeartbeats 4000000 in
theorem ci_X2_init {l : Launch} {D : va_G} {cid : Nat → ClassId} (h0 : Nat) : iMet l D cid yX2_init cX2_init 4 1 12 5 546 [.ref h0] h0 (.inr (2, [.int 0, .int 0, .int 0, .null, .null, .null, .null, .null])) 5 (fun qs => match qs with | [z0, z1, z2, z3, z4] => [(h0, .inr (2, [.int 0, .int 0, .int 0, .ref z0, .ref z1, .ref z2, .ref z3, .ref z4])), (z0, .inl (cid 1, 8, .inl (fun _ => 0))), (z1, .inl (cid 1, 256, .inl (fun _ => 0))), (z2, .inl (cid 3, 256, .inr (.inl (fun _ => 0)))), (z3, .inl (cid 3, 13, .inr (.inl (vp_updL (vp_updL (vp_updL (vp_updL (vp_updL (vp_updL (vp_updL (vp_updL (vp_updL (vp_updL (vp_updL (vp_updL (vp_updL (fun _ => 0) 0 (1)) 1 (10)) 2 (100)) 3 (1000)) 4 (10000)) 5 (100000)) 6 (1000000)) 7 (10000000)) 8 (100000000)) 9 (1000000000)) 10 (10000000000)) 11 (100000000000)) 12 (1000000000000))))), (z4, .inl (cid 3, 13, .inr (.inl (fun _ => 0))))] | _ => []) := by
  refine iMet_of (ls0 := [some (.ref h0), none, none, none]) (by decide) rfl (Nat.le_of_ble_eq_true rfl) rfl (fun K sz X R0 hk => ?_)
  obtain ⟨rfl, rfl, rfl⟩ := hk
  refine i_aload_n X 0 dX2_init_0 rfl rfl ?_
  refine i_objInit X tw_209 tw_23 tw_oi rfl (Nat.le_of_ble_eq_true rfl) (Nat.le_of_ble_eq_true rfl) dX2_init_1 ?_
  refine i_aload_n X 0 dX2_init_4 rfl rfl ?_
  refine i_bipush (v := 8) X dX2_init_5 (by decide) ?_
  refine i_newa (atype := .int) (N := 8) (a0 := (8, .inl (fun _ => 0))) X 1 tw_46 rfl rfl rfl (fun _ => rfl) (by decide) (by decide) (by decide) (Nat.le_of_ble_eq_true rfl) (Nat.le_of_ble_eq_true rfl) dX2_init_7 (fun q1 => ?_)
  refine i_eq (ws' := [(h0, .inr (2, [.int 0, .int 0, .int 0, .null, .null, .null, .null, .null])), (q1, .inl (kc K 1, 8, .inl (fun _ => 0)))]) (c9' := 1) (s9' := 8) rfl rfl rfl ?_
  refine i_putF (ty := .array .int) (j := 3) (v := q1) (ws' := [(h0, .inr (2, [.int 0, .int 0, .int 0, .ref q1, .null, .null, .null, .null])), (q1, .inl (kc K 1, 8, .inl (fun _ => 0)))]) X 0 tyX2 inT_2 tyX2_ok nmX2 R0.2.2.2.2.2 rfl rfl (by decide) tw_220 rfl rfl rfl (by decide +kernel) rfl rfl (Nat.le_of_ble_eq_true rfl) rfl dX2_init_9 ?_
  refine i_aload_n X 0 dX2_init_12 rfl rfl ?_
  refine i_sipush (v := 256) X dX2_init_13 (by decide) ?_
  refine i_newa (atype := .int) (N := 256) (a0 := (256, .inl (fun _ => 0))) X 1 tw_46 rfl rfl rfl (fun _ => rfl) (by decide) (by decide) (by decide) (Nat.le_of_ble_eq_true rfl) (Nat.le_of_ble_eq_true rfl) dX2_init_16 (fun q2 => ?_)
  refine i_eq (ws' := [(h0, .inr (2, [.int 0, .int 0, .int 0, .ref q1, .null, .null, .null, .null])), (q1, .inl (kc K 1, 8, .inl (fun _ => 0))), (q2, .inl (kc K 1, 256, .inl (fun _ => 0)))]) (c9' := 2) (s9' := 264) rfl rfl rfl ?_
  refine i_putF (ty := .array .int) (j := 4) (v := q2) (ws' := [(h0, .inr (2, [.int 0, .int 0, .int 0, .ref q1, .ref q2, .null, .null, .null])), (q1, .inl (kc K 1, 8, .inl (fun _ => 0))), (q2, .inl (kc K 1, 256, .inl (fun _ => 0)))]) X 0 tyX2 inT_2 tyX2_ok nmX2 R0.2.2.2.2.2 rfl rfl (by decide) tw_221 rfl rfl rfl (by decide +kernel) rfl rfl (Nat.le_of_ble_eq_true rfl) rfl dX2_init_18 ?_
  refine i_aload_n X 0 dX2_init_21 rfl rfl ?_
  refine i_sipush (v := 256) X dX2_init_22 (by decide) ?_
  refine i_newa (atype := .long) (N := 256) (a0 := (256, .inr (.inl (fun _ => 0)))) X 3 tw_243 rfl rfl rfl (fun _ => rfl) (by decide) (by decide) (by decide) (Nat.le_of_ble_eq_true rfl) (Nat.le_of_ble_eq_true rfl) dX2_init_25 (fun q3 => ?_)
  refine i_eq (ws' := [(h0, .inr (2, [.int 0, .int 0, .int 0, .ref q1, .ref q2, .null, .null, .null])), (q1, .inl (kc K 1, 8, .inl (fun _ => 0))), (q2, .inl (kc K 1, 256, .inl (fun _ => 0))), (q3, .inl (kc K 3, 256, .inr (.inl (fun _ => 0))))]) (c9' := 3) (s9' := 520) rfl rfl rfl ?_
  refine i_putF (ty := .array .long) (j := 5) (v := q3) (ws' := [(h0, .inr (2, [.int 0, .int 0, .int 0, .ref q1, .ref q2, .ref q3, .null, .null])), (q1, .inl (kc K 1, 8, .inl (fun _ => 0))), (q2, .inl (kc K 1, 256, .inl (fun _ => 0))), (q3, .inl (kc K 3, 256, .inr (.inl (fun _ => 0))))]) X 0 tyX2 inT_2 tyX2_ok nmX2 R0.2.2.2.2.2 rfl rfl (by decide) tw_222 rfl rfl rfl (by decide +kernel) rfl rfl (Nat.le_of_ble_eq_true rfl) rfl dX2_init_27 ?_
  refine i_aload_n X 0 dX2_init_30 rfl rfl ?_
  refine i_bipush (v := 13) X dX2_init_31 (by decide) ?_
  refine i_newa (atype := .long) (N := 13) (a0 := (13, .inr (.inl (fun _ => 0)))) X 3 tw_243 rfl rfl rfl (fun _ => rfl) (by decide) (by decide) (by decide) (Nat.le_of_ble_eq_true rfl) (Nat.le_of_ble_eq_true rfl) dX2_init_33 (fun q4 => ?_)
  refine i_eq (ws' := [(h0, .inr (2, [.int 0, .int 0, .int 0, .ref q1, .ref q2, .ref q3, .null, .null])), (q1, .inl (kc K 1, 8, .inl (fun _ => 0))), (q2, .inl (kc K 1, 256, .inl (fun _ => 0))), (q3, .inl (kc K 3, 256, .inr (.inl (fun _ => 0)))), (q4, .inl (kc K 3, 13, .inr (.inl (fun _ => 0))))]) (c9' := 4) (s9' := 533) rfl rfl rfl ?_
  refine i_putF (ty := .array .long) (j := 6) (v := q4) (ws' := [(h0, .inr (2, [.int 0, .int 0, .int 0, .ref q1, .ref q2, .ref q3, .ref q4, .null])), (q1, .inl (kc K 1, 8, .inl (fun _ => 0))), (q2, .inl (kc K 1, 256, .inl (fun _ => 0))), (q3, .inl (kc K 3, 256, .inr (.inl (fun _ => 0)))), (q4, .inl (kc K 3, 13, .inr (.inl (fun _ => 0))))]) X 0 tyX2 inT_2 tyX2_ok nmX2 R0.2.2.2.2.2 rfl rfl (by decide) tw_223 rfl rfl rfl (by decide +kernel) rfl rfl (Nat.le_of_ble_eq_true rfl) rfl dX2_init_35 ?_
  refine i_aload_n X 0 dX2_init_38 rfl rfl ?_
  refine i_bipush (v := 13) X dX2_init_39 (by decide) ?_
  refine i_newa (atype := .long) (N := 13) (a0 := (13, .inr (.inl (fun _ => 0)))) X 3 tw_243 rfl rfl rfl (fun _ => rfl) (by decide) (by decide) (by decide) (Nat.le_of_ble_eq_true rfl) (Nat.le_of_ble_eq_true rfl) dX2_init_41 (fun q5 => ?_)
  refine i_eq (ws' := [(h0, .inr (2, [.int 0, .int 0, .int 0, .ref q1, .ref q2, .ref q3, .ref q4, .null])), (q1, .inl (kc K 1, 8, .inl (fun _ => 0))), (q2, .inl (kc K 1, 256, .inl (fun _ => 0))), (q3, .inl (kc K 3, 256, .inr (.inl (fun _ => 0)))), (q4, .inl (kc K 3, 13, .inr (.inl (fun _ => 0)))), (q5, .inl (kc K 3, 13, .inr (.inl (fun _ => 0))))]) (c9' := 5) (s9' := 546) rfl rfl rfl ?_
  refine i_putF (ty := .array .long) (j := 7) (v := q5) (ws' := [(h0, .inr (2, [.int 0, .int 0, .int 0, .ref q1, .ref q2, .ref q3, .ref q4, .ref q5])), (q1, .inl (kc K 1, 8, .inl (fun _ => 0))), (q2, .inl (kc K 1, 256, .inl (fun _ => 0))), (q3, .inl (kc K 3, 256, .inr (.inl (fun _ => 0)))), (q4, .inl (kc K 3, 13, .inr (.inl (fun _ => 0)))), (q5, .inl (kc K 3, 13, .inr (.inl (fun _ => 0))))]) X 0 tyX2 inT_2 tyX2_ok nmX2 R0.2.2.2.2.2 rfl rfl (by decide) tw_225 rfl rfl rfl (by decide +kernel) rfl rfl (Nat.le_of_ble_eq_true rfl) rfl dX2_init_43 ?_
  refine i_lconst (v := 1) X dX2_init_46 (by decide) ?_
  refine i_lstore_n (ls' := [some (.ref h0), some (.long (1)), none, none]) X 1 dX2_init_47 rfl (Nat.le_of_ble_eq_true rfl) rfl ?_
  refine i_iconst (v := 0) X dX2_init_48 (by decide) ?_
  refine i_istore_n (ls' := [some (.ref h0), some (.long (1)), none, some (.int (0))]) X 3 dX2_init_49 rfl (Nat.le_of_ble_eq_true rfl) rfl ?_
  refine i_iload_n X 3 dX2_init_50 rfl rfl ?_
  refine i_bipush (v := 12) X dX2_init_51 (by decide) ?_
  refine i_icmp_gt_f (tgt := 75) X dX2_init_53 (by decide) (by decide) ?_
  refine i_aload_n X 0 dX2_init_56 rfl rfl ?_
  refine i_getR (j := 6) (v := q4) X 0 inT_2 rfl rfl (by decide) tw_223 rfl rfl dX2_init_57 ?_
  refine i_iload_n X 3 dX2_init_60 rfl rfl ?_
  refine i_lload_n X 1 dX2_init_61 rfl rfl ?_
  refine i_last (j := 0) (ws' := [(h0, .inr (2, [.int 0, .int 0, .int 0, .ref q1, .ref q2, .ref q3, .ref q4, .ref q5])), (q1, .inl (kc K 1, 8, .inl (fun _ => 0))), (q2, .inl (kc K 1, 256, .inl (fun _ => 0))), (q3, .inl (kc K 3, 256, .inr (.inl (fun _ => 0)))), (q4, .inl (kc K 3, 13, .inr (.inl (vp_updL (fun _ => 0) 0 (1))))), (q5, .inl (kc K 3, 13, .inr (.inl (fun _ => 0))))]) X 4 rfl (jin_spec (by decide)) (by decide) rfl dX2_init_62 ?_
  refine i_lload_n X 1 dX2_init_63 rfl rfl ?_
  refine i_ldc2_w (v := 10) X tw_210 dX2_init_64 ?_
  refine i_lmul (v := 10) X dX2_init_67 (by decide) ?_
  refine i_lstore_n (ls' := [some (.ref h0), some (.long (10)), none, some (.int (0))]) X 1 dX2_init_68 rfl (Nat.le_of_ble_eq_true rfl) rfl ?_
  refine i_iinc (v := 1) (ls' := [some (.ref h0), some (.long (10)), none, some (.int (1))]) X dX2_init_69 rfl (by decide) (Nat.le_of_ble_eq_true rfl) rfl ?_
  refine i_goto (tgt := 50) X dX2_init_72 (by decide) ?_
  refine i_iload_n X 3 dX2_init_50 rfl rfl ?_
  refine i_bipush (v := 12) X dX2_init_51 (by decide) ?_
  refine i_icmp_gt_f (tgt := 75) X dX2_init_53 (by decide) (by decide) ?_
  refine i_aload_n X 0 dX2_init_56 rfl rfl ?_
  refine i_getR (j := 6) (v := q4) X 0 inT_2 rfl rfl (by decide) tw_223 rfl rfl dX2_init_57 ?_
  refine i_iload_n X 3 dX2_init_60 rfl rfl ?_
  refine i_lload_n X 1 dX2_init_61 rfl rfl ?_
  refine i_last (j := 1) (ws' := [(h0, .inr (2, [.int 0, .int 0, .int 0, .ref q1, .ref q2, .ref q3, .ref q4, .ref q5])), (q1, .inl (kc K 1, 8, .inl (fun _ => 0))), (q2, .inl (kc K 1, 256, .inl (fun _ => 0))), (q3, .inl (kc K 3, 256, .inr (.inl (fun _ => 0)))), (q4, .inl (kc K 3, 13, .inr (.inl (vp_updL (vp_updL (fun _ => 0) 0 (1)) 1 (10))))), (q5, .inl (kc K 3, 13, .inr (.inl (fun _ => 0))))]) X 4 rfl (jin_spec (by decide)) (by decide) rfl dX2_init_62 ?_
  refine i_lload_n X 1 dX2_init_63 rfl rfl ?_
  refine i_ldc2_w (v := 10) X tw_210 dX2_init_64 ?_
  refine i_lmul (v := 100) X dX2_init_67 (by decide) ?_
  refine i_lstore_n (ls' := [some (.ref h0), some (.long (100)), none, some (.int (1))]) X 1 dX2_init_68 rfl (Nat.le_of_ble_eq_true rfl) rfl ?_
  refine i_iinc (v := 2) (ls' := [some (.ref h0), some (.long (100)), none, some (.int (2))]) X dX2_init_69 rfl (by decide) (Nat.le_of_ble_eq_true rfl) rfl ?_
  refine i_goto (tgt := 50) X dX2_init_72 (by decide) ?_
  refine i_iload_n X 3 dX2_init_50 rfl rfl ?_
  refine i_bipush (v := 12) X dX2_init_51 (by decide) ?_
  refine i_icmp_gt_f (tgt := 75) X dX2_init_53 (by decide) (by decide) ?_
  refine i_aload_n X 0 dX2_init_56 rfl rfl ?_
  refine i_getR (j := 6) (v := q4) X 0 inT_2 rfl rfl (by decide) tw_223 rfl rfl dX2_init_57 ?_
  refine i_iload_n X 3 dX2_init_60 rfl rfl ?_
  refine i_lload_n X 1 dX2_init_61 rfl rfl ?_
  refine i_last (j := 2) (ws' := [(h0, .inr (2, [.int 0, .int 0, .int 0, .ref q1, .ref q2, .ref q3, .ref q4, .ref q5])), (q1, .inl (kc K 1, 8, .inl (fun _ => 0))), (q2, .inl (kc K 1, 256, .inl (fun _ => 0))), (q3, .inl (kc K 3, 256, .inr (.inl (fun _ => 0)))), (q4, .inl (kc K 3, 13, .inr (.inl (vp_updL (vp_updL (vp_updL (fun _ => 0) 0 (1)) 1 (10)) 2 (100))))), (q5, .inl (kc K 3, 13, .inr (.inl (fun _ => 0))))]) X 4 rfl (jin_spec (by decide)) (by decide) rfl dX2_init_62 ?_
  refine i_lload_n X 1 dX2_init_63 rfl rfl ?_
  refine i_ldc2_w (v := 10) X tw_210 dX2_init_64 ?_
  refine i_lmul (v := 1000) X dX2_init_67 (by decide) ?_
  refine i_lstore_n (ls' := [some (.ref h0), some (.long (1000)), none, some (.int (2))]) X 1 dX2_init_68 rfl (Nat.le_of_ble_eq_true rfl) rfl ?_
  refine i_iinc (v := 3) (ls' := [some (.ref h0), some (.long (1000)), none, some (.int (3))]) X dX2_init_69 rfl (by decide) (Nat.le_of_ble_eq_true rfl) rfl ?_
  refine i_goto (tgt := 50) X dX2_init_72 (by decide) ?_
  refine i_iload_n X 3 dX2_init_50 rfl rfl ?_
  refine i_bipush (v := 12) X dX2_init_51 (by decide) ?_
  refine i_icmp_gt_f (tgt := 75) X dX2_init_53 (by decide) (by decide) ?_
  refine i_aload_n X 0 dX2_init_56 rfl rfl ?_
  refine i_getR (j := 6) (v := q4) X 0 inT_2 rfl rfl (by decide) tw_223 rfl rfl dX2_init_57 ?_
  refine i_iload_n X 3 dX2_init_60 rfl rfl ?_
  refine i_lload_n X 1 dX2_init_61 rfl rfl ?_
  refine i_last (j := 3) (ws' := [(h0, .inr (2, [.int 0, .int 0, .int 0, .ref q1, .ref q2, .ref q3, .ref q4, .ref q5])), (q1, .inl (kc K 1, 8, .inl (fun _ => 0))), (q2, .inl (kc K 1, 256, .inl (fun _ => 0))), (q3, .inl (kc K 3, 256, .inr (.inl (fun _ => 0)))), (q4, .inl (kc K 3, 13, .inr (.inl (vp_updL (vp_updL (vp_updL (vp_updL (fun _ => 0) 0 (1)) 1 (10)) 2 (100)) 3 (1000))))), (q5, .inl (kc K 3, 13, .inr (.inl (fun _ => 0))))]) X 4 rfl (jin_spec (by decide)) (by decide) rfl dX2_init_62 ?_
  refine i_lload_n X 1 dX2_init_63 rfl rfl ?_
  refine i_ldc2_w (v := 10) X tw_210 dX2_init_64 ?_
  refine i_lmul (v := 10000) X dX2_init_67 (by decide) ?_
  refine i_lstore_n (ls' := [some (.ref h0), some (.long (10000)), none, some (.int (3))]) X 1 dX2_init_68 rfl (Nat.le_of_ble_eq_true rfl) rfl ?_
  refine i_iinc (v := 4) (ls' := [some (.ref h0), some (.long (10000)), none, some (.int (4))]) X dX2_init_69 rfl (by decide) (Nat.le_of_ble_eq_true rfl) rfl ?_
  refine i_goto (tgt := 50) X dX2_init_72 (by decide) ?_
  refine i_iload_n X 3 dX2_init_50 rfl rfl ?_
  refine i_bipush (v := 12) X dX2_init_51 (by decide) ?_
  refine i_icmp_gt_f (tgt := 75) X dX2_init_53 (by decide) (by decide) ?_
  refine i_aload_n X 0 dX2_init_56 rfl rfl ?_
  refine i_getR (j := 6) (v := q4) X 0 inT_2 rfl rfl (by decide) tw_223 rfl rfl dX2_init_57 ?_
  refine i_iload_n X 3 dX2_init_60 rfl rfl ?_
  refine i_lload_n X 1 dX2_init_61 rfl rfl ?_
  refine i_last (j := 4) (ws' := [(h0, .inr (2, [.int 0, .int 0, .int 0, .ref q1, .ref q2, .ref q3, .ref q4, .ref q5])), (q1, .inl (kc K 1, 8, .inl (fun _ => 0))), (q2, .inl (kc K 1, 256, .inl (fun _ => 0))), (q3, .inl (kc K 3, 256, .inr (.inl (fun _ => 0)))), (q4, .inl (kc K 3, 13, .inr (.inl (vp_updL (vp_updL (vp_updL (vp_updL (vp_updL (fun _ => 0) 0 (1)) 1 (10)) 2 (100)) 3 (1000)) 4 (10000))))), (q5, .inl (kc K 3, 13, .inr (.inl (fun _ => 0))))]) X 4 rfl (jin_spec (by decide)) (by decide) rfl dX2_init_62 ?_
  refine i_lload_n X 1 dX2_init_63 rfl rfl ?_
  refine i_ldc2_w (v := 10) X tw_210 dX2_init_64 ?_
  refine i_lmul (v := 100000) X dX2_init_67 (by decide) ?_
  refine i_lstore_n (ls' := [some (.ref h0), some (.long (100000)), none, some (.int (4))]) X 1 dX2_init_68 rfl (Nat.le_of_ble_eq_true rfl) rfl ?_
  refine i_iinc (v := 5) (ls' := [some (.ref h0), some (.long (100000)), none, some (.int (5))]) X dX2_init_69 rfl (by decide) (Nat.le_of_ble_eq_true rfl) rfl ?_
  refine i_goto (tgt := 50) X dX2_init_72 (by decide) ?_
  refine i_iload_n X 3 dX2_init_50 rfl rfl ?_
  refine i_bipush (v := 12) X dX2_init_51 (by decide) ?_
  refine i_icmp_gt_f (tgt := 75) X dX2_init_53 (by decide) (by decide) ?_
  refine i_aload_n X 0 dX2_init_56 rfl rfl ?_
  refine i_getR (j := 6) (v := q4) X 0 inT_2 rfl rfl (by decide) tw_223 rfl rfl dX2_init_57 ?_
  refine i_iload_n X 3 dX2_init_60 rfl rfl ?_
  refine i_lload_n X 1 dX2_init_61 rfl rfl ?_
  refine i_last (j := 5) (ws' := [(h0, .inr (2, [.int 0, .int 0, .int 0, .ref q1, .ref q2, .ref q3, .ref q4, .ref q5])), (q1, .inl (kc K 1, 8, .inl (fun _ => 0))), (q2, .inl (kc K 1, 256, .inl (fun _ => 0))), (q3, .inl (kc K 3, 256, .inr (.inl (fun _ => 0)))), (q4, .inl (kc K 3, 13, .inr (.inl (vp_updL (vp_updL (vp_updL (vp_updL (vp_updL (vp_updL (fun _ => 0) 0 (1)) 1 (10)) 2 (100)) 3 (1000)) 4 (10000)) 5 (100000))))), (q5, .inl (kc K 3, 13, .inr (.inl (fun _ => 0))))]) X 4 rfl (jin_spec (by decide)) (by decide) rfl dX2_init_62 ?_
  refine i_lload_n X 1 dX2_init_63 rfl rfl ?_
  refine i_ldc2_w (v := 10) X tw_210 dX2_init_64 ?_
  refine i_lmul (v := 1000000) X dX2_init_67 (by decide) ?_
  refine i_lstore_n (ls' := [some (.ref h0), some (.long (1000000)), none, some (.int (5))]) X 1 dX2_init_68 rfl (Nat.le_of_ble_eq_true rfl) rfl ?_
  refine i_iinc (v := 6) (ls' := [some (.ref h0), some (.long (1000000)), none, some (.int (6))]) X dX2_init_69 rfl (by decide) (Nat.le_of_ble_eq_true rfl) rfl ?_
  refine i_goto (tgt := 50) X dX2_init_72 (by decide) ?_
  refine i_iload_n X 3 dX2_init_50 rfl rfl ?_
  refine i_bipush (v := 12) X dX2_init_51 (by decide) ?_
  refine i_icmp_gt_f (tgt := 75) X dX2_init_53 (by decide) (by decide) ?_
  refine i_aload_n X 0 dX2_init_56 rfl rfl ?_
  refine i_getR (j := 6) (v := q4) X 0 inT_2 rfl rfl (by decide) tw_223 rfl rfl dX2_init_57 ?_
  refine i_iload_n X 3 dX2_init_60 rfl rfl ?_
  refine i_lload_n X 1 dX2_init_61 rfl rfl ?_
  refine i_last (j := 6) (ws' := [(h0, .inr (2, [.int 0, .int 0, .int 0, .ref q1, .ref q2, .ref q3, .ref q4, .ref q5])), (q1, .inl (kc K 1, 8, .inl (fun _ => 0))), (q2, .inl (kc K 1, 256, .inl (fun _ => 0))), (q3, .inl (kc K 3, 256, .inr (.inl (fun _ => 0)))), (q4, .inl (kc K 3, 13, .inr (.inl (vp_updL (vp_updL (vp_updL (vp_updL (vp_updL (vp_updL (vp_updL (fun _ => 0) 0 (1)) 1 (10)) 2 (100)) 3 (1000)) 4 (10000)) 5 (100000)) 6 (1000000))))), (q5, .inl (kc K 3, 13, .inr (.inl (fun _ => 0))))]) X 4 rfl (jin_spec (by decide)) (by decide) rfl dX2_init_62 ?_
  refine i_lload_n X 1 dX2_init_63 rfl rfl ?_
  refine i_ldc2_w (v := 10) X tw_210 dX2_init_64 ?_
  refine i_lmul (v := 10000000) X dX2_init_67 (by decide) ?_
  refine i_lstore_n (ls' := [some (.ref h0), some (.long (10000000)), none, some (.int (6))]) X 1 dX2_init_68 rfl (Nat.le_of_ble_eq_true rfl) rfl ?_
  refine i_iinc (v := 7) (ls' := [some (.ref h0), some (.long (10000000)), none, some (.int (7))]) X dX2_init_69 rfl (by decide) (Nat.le_of_ble_eq_true rfl) rfl ?_
  refine i_goto (tgt := 50) X dX2_init_72 (by decide) ?_
  refine i_iload_n X 3 dX2_init_50 rfl rfl ?_
  refine i_bipush (v := 12) X dX2_init_51 (by decide) ?_
  refine i_icmp_gt_f (tgt := 75) X dX2_init_53 (by decide) (by decide) ?_
  refine i_aload_n X 0 dX2_init_56 rfl rfl ?_
  refine i_getR (j := 6) (v := q4) X 0 inT_2 rfl rfl (by decide) tw_223 rfl rfl dX2_init_57 ?_
  refine i_iload_n X 3 dX2_init_60 rfl rfl ?_
  refine i_lload_n X 1 dX2_init_61 rfl rfl ?_
  refine i_last (j := 7) (ws' := [(h0, .inr (2, [.int 0, .int 0, .int 0, .ref q1, .ref q2, .ref q3, .ref q4, .ref q5])), (q1, .inl (kc K 1, 8, .inl (fun _ => 0))), (q2, .inl (kc K 1, 256, .inl (fun _ => 0))), (q3, .inl (kc K 3, 256, .inr (.inl (fun _ => 0)))), (q4, .inl (kc K 3, 13, .inr (.inl (vp_updL (vp_updL (vp_updL (vp_updL (vp_updL (vp_updL (vp_updL (vp_updL (fun _ => 0) 0 (1)) 1 (10)) 2 (100)) 3 (1000)) 4 (10000)) 5 (100000)) 6 (1000000)) 7 (10000000))))), (q5, .inl (kc K 3, 13, .inr (.inl (fun _ => 0))))]) X 4 rfl (jin_spec (by decide)) (by decide) rfl dX2_init_62 ?_
  refine i_lload_n X 1 dX2_init_63 rfl rfl ?_
  refine i_ldc2_w (v := 10) X tw_210 dX2_init_64 ?_
  refine i_lmul (v := 100000000) X dX2_init_67 (by decide) ?_
  refine i_lstore_n (ls' := [some (.ref h0), some (.long (100000000)), none, some (.int (7))]) X 1 dX2_init_68 rfl (Nat.le_of_ble_eq_true rfl) rfl ?_
  refine i_iinc (v := 8) (ls' := [some (.ref h0), some (.long (100000000)), none, some (.int (8))]) X dX2_init_69 rfl (by decide) (Nat.le_of_ble_eq_true rfl) rfl ?_
  refine i_goto (tgt := 50) X dX2_init_72 (by decide) ?_
  refine i_iload_n X 3 dX2_init_50 rfl rfl ?_
  refine i_bipush (v := 12) X dX2_init_51 (by decide) ?_
  refine i_icmp_gt_f (tgt := 75) X dX2_init_53 (by decide) (by decide) ?_
  refine i_aload_n X 0 dX2_init_56 rfl rfl ?_
  refine i_getR (j := 6) (v := q4) X 0 inT_2 rfl rfl (by decide) tw_223 rfl rfl dX2_init_57 ?_
  refine i_iload_n X 3 dX2_init_60 rfl rfl ?_
  refine i_lload_n X 1 dX2_init_61 rfl rfl ?_
  refine i_last (j := 8) (ws' := [(h0, .inr (2, [.int 0, .int 0, .int 0, .ref q1, .ref q2, .ref q3, .ref q4, .ref q5])), (q1, .inl (kc K 1, 8, .inl (fun _ => 0))), (q2, .inl (kc K 1, 256, .inl (fun _ => 0))), (q3, .inl (kc K 3, 256, .inr (.inl (fun _ => 0)))), (q4, .inl (kc K 3, 13, .inr (.inl (vp_updL (vp_updL (vp_updL (vp_updL (vp_updL (vp_updL (vp_updL (vp_updL (vp_updL (fun _ => 0) 0 (1)) 1 (10)) 2 (100)) 3 (1000)) 4 (10000)) 5 (100000)) 6 (1000000)) 7 (10000000)) 8 (100000000))))), (q5, .inl (kc K 3, 13, .inr (.inl (fun _ => 0))))]) X 4 rfl (jin_spec (by decide)) (by decide) rfl dX2_init_62 ?_
  refine i_lload_n X 1 dX2_init_63 rfl rfl ?_
  refine i_ldc2_w (v := 10) X tw_210 dX2_init_64 ?_
  refine i_lmul (v := 1000000000) X dX2_init_67 (by decide) ?_
  refine i_lstore_n (ls' := [some (.ref h0), some (.long (1000000000)), none, some (.int (8))]) X 1 dX2_init_68 rfl (Nat.le_of_ble_eq_true rfl) rfl ?_
  refine i_iinc (v := 9) (ls' := [some (.ref h0), some (.long (1000000000)), none, some (.int (9))]) X dX2_init_69 rfl (by decide) (Nat.le_of_ble_eq_true rfl) rfl ?_
  refine i_goto (tgt := 50) X dX2_init_72 (by decide) ?_
  refine i_iload_n X 3 dX2_init_50 rfl rfl ?_
  refine i_bipush (v := 12) X dX2_init_51 (by decide) ?_
  refine i_icmp_gt_f (tgt := 75) X dX2_init_53 (by decide) (by decide) ?_
  refine i_aload_n X 0 dX2_init_56 rfl rfl ?_
  refine i_getR (j := 6) (v := q4) X 0 inT_2 rfl rfl (by decide) tw_223 rfl rfl dX2_init_57 ?_
  refine i_iload_n X 3 dX2_init_60 rfl rfl ?_
  refine i_lload_n X 1 dX2_init_61 rfl rfl ?_
  refine i_last (j := 9) (ws' := [(h0, .inr (2, [.int 0, .int 0, .int 0, .ref q1, .ref q2, .ref q3, .ref q4, .ref q5])), (q1, .inl (kc K 1, 8, .inl (fun _ => 0))), (q2, .inl (kc K 1, 256, .inl (fun _ => 0))), (q3, .inl (kc K 3, 256, .inr (.inl (fun _ => 0)))), (q4, .inl (kc K 3, 13, .inr (.inl (vp_updL (vp_updL (vp_updL (vp_updL (vp_updL (vp_updL (vp_updL (vp_updL (vp_updL (vp_updL (fun _ => 0) 0 (1)) 1 (10)) 2 (100)) 3 (1000)) 4 (10000)) 5 (100000)) 6 (1000000)) 7 (10000000)) 8 (100000000)) 9 (1000000000))))), (q5, .inl (kc K 3, 13, .inr (.inl (fun _ => 0))))]) X 4 rfl (jin_spec (by decide)) (by decide) rfl dX2_init_62 ?_
  refine i_lload_n X 1 dX2_init_63 rfl rfl ?_
  refine i_ldc2_w (v := 10) X tw_210 dX2_init_64 ?_
  refine i_lmul (v := 10000000000) X dX2_init_67 (by decide) ?_
  refine i_lstore_n (ls' := [some (.ref h0), some (.long (10000000000)), none, some (.int (9))]) X 1 dX2_init_68 rfl (Nat.le_of_ble_eq_true rfl) rfl ?_
  refine i_iinc (v := 10) (ls' := [some (.ref h0), some (.long (10000000000)), none, some (.int (10))]) X dX2_init_69 rfl (by decide) (Nat.le_of_ble_eq_true rfl) rfl ?_
  refine i_goto (tgt := 50) X dX2_init_72 (by decide) ?_
  refine i_iload_n X 3 dX2_init_50 rfl rfl ?_
  refine i_bipush (v := 12) X dX2_init_51 (by decide) ?_
  refine i_icmp_gt_f (tgt := 75) X dX2_init_53 (by decide) (by decide) ?_
  refine i_aload_n X 0 dX2_init_56 rfl rfl ?_
  refine i_getR (j := 6) (v := q4) X 0 inT_2 rfl rfl (by decide) tw_223 rfl rfl dX2_init_57 ?_
  refine i_iload_n X 3 dX2_init_60 rfl rfl ?_
  refine i_lload_n X 1 dX2_init_61 rfl rfl ?_
  refine i_last (j := 10) (ws' := [(h0, .inr (2, [.int 0, .int 0, .int 0, .ref q1, .ref q2, .ref q3, .ref q4, .ref q5])), (q1, .inl (kc K 1, 8, .inl (fun _ => 0))), (q2, .inl (kc K 1, 256, .inl (fun _ => 0))), (q3, .inl (kc K 3, 256, .inr (.inl (fun _ => 0)))), (q4, .inl (kc K 3, 13, .inr (.inl (vp_updL (vp_updL (vp_updL (vp_updL (vp_updL (vp_updL (vp_updL (vp_updL (vp_updL (vp_updL (vp_updL (fun _ => 0) 0 (1)) 1 (10)) 2 (100)) 3 (1000)) 4 (10000)) 5 (100000)) 6 (1000000)) 7 (10000000)) 8 (100000000)) 9 (1000000000)) 10 (10000000000))))), (q5, .inl (kc K 3, 13, .inr (.inl (fun _ => 0))))]) X 4 rfl (jin_spec (by decide)) (by decide) rfl dX2_init_62 ?_
  refine i_lload_n X 1 dX2_init_63 rfl rfl ?_
  refine i_ldc2_w (v := 10) X tw_210 dX2_init_64 ?_
  refine i_lmul (v := 100000000000) X dX2_init_67 (by decide) ?_
  refine i_lstore_n (ls' := [some (.ref h0), some (.long (100000000000)), none, some (.int (10))]) X 1 dX2_init_68 rfl (Nat.le_of_ble_eq_true rfl) rfl ?_
  refine i_iinc (v := 11) (ls' := [some (.ref h0), some (.long (100000000000)), none, some (.int (11))]) X dX2_init_69 rfl (by decide) (Nat.le_of_ble_eq_true rfl) rfl ?_
  refine i_goto (tgt := 50) X dX2_init_72 (by decide) ?_
  refine i_iload_n X 3 dX2_init_50 rfl rfl ?_
  refine i_bipush (v := 12) X dX2_init_51 (by decide) ?_
  refine i_icmp_gt_f (tgt := 75) X dX2_init_53 (by decide) (by decide) ?_
  refine i_aload_n X 0 dX2_init_56 rfl rfl ?_
  refine i_getR (j := 6) (v := q4) X 0 inT_2 rfl rfl (by decide) tw_223 rfl rfl dX2_init_57 ?_
  refine i_iload_n X 3 dX2_init_60 rfl rfl ?_
  refine i_lload_n X 1 dX2_init_61 rfl rfl ?_
  refine i_last (j := 11) (ws' := [(h0, .inr (2, [.int 0, .int 0, .int 0, .ref q1, .ref q2, .ref q3, .ref q4, .ref q5])), (q1, .inl (kc K 1, 8, .inl (fun _ => 0))), (q2, .inl (kc K 1, 256, .inl (fun _ => 0))), (q3, .inl (kc K 3, 256, .inr (.inl (fun _ => 0)))), (q4, .inl (kc K 3, 13, .inr (.inl (vp_updL (vp_updL (vp_updL (vp_updL (vp_updL (vp_updL (vp_updL (vp_updL (vp_updL (vp_updL (vp_updL (vp_updL (fun _ => 0) 0 (1)) 1 (10)) 2 (100)) 3 (1000)) 4 (10000)) 5 (100000)) 6 (1000000)) 7 (10000000)) 8 (100000000)) 9 (1000000000)) 10 (10000000000)) 11 (100000000000))))), (q5, .inl (kc K 3, 13, .inr (.inl (fun _ => 0))))]) X 4 rfl (jin_spec (by decide)) (by decide) rfl dX2_init_62 ?_
  refine i_lload_n X 1 dX2_init_63 rfl rfl ?_
  refine i_ldc2_w (v := 10) X tw_210 dX2_init_64 ?_
  refine i_lmul (v := 1000000000000) X dX2_init_67 (by decide) ?_
  refine i_lstore_n (ls' := [some (.ref h0), some (.long (1000000000000)), none, some (.int (11))]) X 1 dX2_init_68 rfl (Nat.le_of_ble_eq_true rfl) rfl ?_
  refine i_iinc (v := 12) (ls' := [some (.ref h0), some (.long (1000000000000)), none, some (.int (12))]) X dX2_init_69 rfl (by decide) (Nat.le_of_ble_eq_true rfl) rfl ?_
  refine i_goto (tgt := 50) X dX2_init_72 (by decide) ?_
  refine i_iload_n X 3 dX2_init_50 rfl rfl ?_
  refine i_bipush (v := 12) X dX2_init_51 (by decide) ?_
  refine i_icmp_gt_f (tgt := 75) X dX2_init_53 (by decide) (by decide) ?_
  refine i_aload_n X 0 dX2_init_56 rfl rfl ?_
  refine i_getR (j := 6) (v := q4) X 0 inT_2 rfl rfl (by decide) tw_223 rfl rfl dX2_init_57 ?_
  refine i_iload_n X 3 dX2_init_60 rfl rfl ?_
  refine i_lload_n X 1 dX2_init_61 rfl rfl ?_
  refine i_last (j := 12) (ws' := [(h0, .inr (2, [.int 0, .int 0, .int 0, .ref q1, .ref q2, .ref q3, .ref q4, .ref q5])), (q1, .inl (kc K 1, 8, .inl (fun _ => 0))), (q2, .inl (kc K 1, 256, .inl (fun _ => 0))), (q3, .inl (kc K 3, 256, .inr (.inl (fun _ => 0)))), (q4, .inl (kc K 3, 13, .inr (.inl (vp_updL (vp_updL (vp_updL (vp_updL (vp_updL (vp_updL (vp_updL (vp_updL (vp_updL (vp_updL (vp_updL (vp_updL (vp_updL (fun _ => 0) 0 (1)) 1 (10)) 2 (100)) 3 (1000)) 4 (10000)) 5 (100000)) 6 (1000000)) 7 (10000000)) 8 (100000000)) 9 (1000000000)) 10 (10000000000)) 11 (100000000000)) 12 (1000000000000))))), (q5, .inl (kc K 3, 13, .inr (.inl (fun _ => 0))))]) X 4 rfl (jin_spec (by decide)) (by decide) rfl dX2_init_62 ?_
  refine i_lload_n X 1 dX2_init_63 rfl rfl ?_
  refine i_ldc2_w (v := 10) X tw_210 dX2_init_64 ?_
  refine i_lmul (v := 10000000000000) X dX2_init_67 (by decide) ?_
  refine i_lstore_n (ls' := [some (.ref h0), some (.long (10000000000000)), none, some (.int (12))]) X 1 dX2_init_68 rfl (Nat.le_of_ble_eq_true rfl) rfl ?_
  refine i_iinc (v := 13) (ls' := [some (.ref h0), some (.long (10000000000000)), none, some (.int (13))]) X dX2_init_69 rfl (by decide) (Nat.le_of_ble_eq_true rfl) rfl ?_
  refine i_goto (tgt := 50) X dX2_init_72 (by decide) ?_
  refine i_iload_n X 3 dX2_init_50 rfl rfl ?_
  refine i_bipush (v := 12) X dX2_init_51 (by decide) ?_
  refine i_icmp_gt_t (tgt := 75) X dX2_init_53 (by decide) (by decide) ?_
  exact i_vret X R0 [q1, q2, q3, q4, q5] rfl [0, 1, 2, 3, 4, 5] rfl (by decide) rfl (Nat.le_of_ble_eq_true rfl) (Nat.le_of_ble_eq_true rfl) dX2_init_75
