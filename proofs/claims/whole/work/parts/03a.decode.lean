theorem dX0_init_0 : decode cX0_init 0 = .ok (.aload_n 0, 1) := by decide +kernel
theorem dX0_init_1 : decode cX0_init 1 = .ok (.invokespecial 3, 3) := by decide +kernel
theorem dX0_init_4 : decode cX0_init 4 = .ok (.aload_n 0, 1) := by decide +kernel
theorem dX0_init_5 : decode cX0_init 5 = .ok (.bipush 16, 2) := by decide +kernel
theorem dX0_init_7 : decode cX0_init 7 = .ok (.newarray .int, 2) := by decide +kernel
theorem dX0_init_9 : decode cX0_init 9 = .ok (.putfield 9, 3) := by decide +kernel
theorem dX0_init_12 : decode cX0_init 12 = .ok (.return_, 1) := by decide +kernel
theorem dX0_begin_0 : decode cX0_begin 0 = .ok (.aload_n 0, 1) := by decide +kernel
theorem dX0_begin_1 : decode cX0_begin 1 = .ok (.getfield 15, 3) := by decide +kernel
theorem dX0_begin_4 : decode cX0_begin 4 = .ok (.bipush 16, 2) := by decide +kernel
theorem dX0_begin_6 : decode cX0_begin 6 = .ok (.if_icmp .ge 23, 3) := by decide +kernel
theorem dX0_begin_9 : decode cX0_begin 9 = .ok (.aload_n 0, 1) := by decide +kernel
theorem dX0_begin_10 : decode cX0_begin 10 = .ok (.getfield 9, 3) := by decide +kernel
theorem dX0_begin_13 : decode cX0_begin 13 = .ok (.aload_n 0, 1) := by decide +kernel
theorem dX0_begin_14 : decode cX0_begin 14 = .ok (.getfield 15, 3) := by decide +kernel
theorem dX0_begin_17 : decode cX0_begin 17 = .ok (.iload_n 1, 1) := by decide +kernel
theorem dX0_begin_18 : decode cX0_begin 18 = .ok (.iastore, 1) := by decide +kernel
theorem dX0_begin_19 : decode cX0_begin 19 = .ok (.aload_n 0, 1) := by decide +kernel
theorem dX0_begin_20 : decode cX0_begin 20 = .ok (.dup, 1) := by decide +kernel
theorem dX0_begin_21 : decode cX0_begin 21 = .ok (.getfield 15, 3) := by decide +kernel
theorem dX0_begin_24 : decode cX0_begin 24 = .ok (.iconst 1, 1) := by decide +kernel
theorem dX0_begin_25 : decode cX0_begin 25 = .ok (.iadd, 1) := by decide +kernel
theorem dX0_begin_26 : decode cX0_begin 26 = .ok (.putfield 15, 3) := by decide +kernel
theorem dX0_begin_29 : decode cX0_begin 29 = .ok (.return_, 1) := by decide +kernel
theorem dX1_init_0 : decode cX1_init 0 = .ok (.aload_n 0, 1) := by decide +kernel
theorem dX1_init_1 : decode cX1_init 1 = .ok (.invokespecial 1, 3) := by decide +kernel
theorem dX1_init_4 : decode cX1_init 4 = .ok (.return_, 1) := by decide +kernel
theorem dX1_span_0 : decode cX1_span 0 = .ok (.iload_n 1, 1) := by decide +kernel
theorem dX1_span_1 : decode cX1_span 1 = .ok (.bipush 9, 2) := by decide +kernel
theorem dX1_span_3 : decode cX1_span 3 = .ok (.iadd, 1) := by decide +kernel
theorem dX1_span_4 : decode cX1_span 4 = .ok (.ireturn, 1) := by decide +kernel
theorem dX1_sees_0 : decode cX1_sees 0 = .ok (.aload_n 0, 1) := by decide +kernel
theorem dX1_sees_1 : decode cX1_sees 1 = .ok (.aload_n 1, 1) := by decide +kernel
theorem dX1_sees_2 : decode cX1_sees 2 = .ok (.iload_n 2, 1) := by decide +kernel
theorem dX1_sees_3 : decode cX1_sees 3 = .ok (.aload_n 3, 1) := by decide +kernel
theorem dX1_sees_4 : decode cX1_sees 4 = .ok (.invokespecial 7, 3) := by decide +kernel
theorem dX1_sees_7 : decode cX1_sees 7 = .ok (.ifCond .ne 11, 3) := by decide +kernel
theorem dX1_sees_10 : decode cX1_sees 10 = .ok (.iload_n 2, 1) := by decide +kernel
theorem dX1_sees_11 : decode cX1_sees 11 = .ok (.aload_n 1, 1) := by decide +kernel
theorem dX1_sees_12 : decode cX1_sees 12 = .ok (.getfield 11, 3) := by decide +kernel
theorem dX1_sees_15 : decode cX1_sees 15 = .ok (.if_icmp .ne 7, 3) := by decide +kernel
theorem dX1_sees_18 : decode cX1_sees 18 = .ok (.iconst 1, 1) := by decide +kernel
theorem dX1_sees_19 : decode cX1_sees 19 = .ok (.goto 4, 3) := by decide +kernel
theorem dX1_sees_22 : decode cX1_sees 22 = .ok (.iconst 0, 1) := by decide +kernel
theorem dX1_sees_23 : decode cX1_sees 23 = .ok (.istore 4, 2) := by decide +kernel
theorem dX1_sees_25 : decode cX1_sees 25 = .ok (.iload 4, 2) := by decide +kernel
theorem dX1_sees_27 : decode cX1_sees 27 = .ok (.ifCond .eq 10, 3) := by decide +kernel
theorem dX1_sees_30 : decode cX1_sees 30 = .ok (.aload_n 3, 1) := by decide +kernel
theorem dX1_sees_31 : decode cX1_sees 31 = .ok (.getfield 17, 3) := by decide +kernel
theorem dX1_sees_34 : decode cX1_sees 34 = .ok (.goto 4, 3) := by decide +kernel
theorem dX1_sees_37 : decode cX1_sees 37 = .ok (.iconst 0, 1) := by decide +kernel
theorem dX1_sees_38 : decode cX1_sees 38 = .ok (.ireturn, 1) := by decide +kernel
theorem dX1_size_0 : decode cX1_size 0 = .ok (.aload_n 1, 1) := by decide +kernel
theorem dX1_size_1 : decode cX1_size 1 = .ok (.bipush 12, 2) := by decide +kernel
theorem dX1_size_3 : decode cX1_size 3 = .ok (.invokevirtual 22, 3) := by decide +kernel
theorem dX1_size_6 : decode cX1_size 6 = .ok (.aload_n 0, 1) := by decide +kernel
theorem dX1_size_7 : decode cX1_size 7 = .ok (.aload_n 1, 1) := by decide +kernel
theorem dX1_size_8 : decode cX1_size 8 = .ok (.invokespecial 28, 3) := by decide +kernel
theorem dX1_size_11 : decode cX1_size 11 = .ok (.ineg, 1) := by decide +kernel
theorem dX1_size_12 : decode cX1_size 12 = .ok (.ireturn, 1) := by decide +kernel
theorem dX1_mark_0 : decode cX1_mark 0 = .ok (.aload_n 1, 1) := by decide +kernel
theorem dX1_mark_1 : decode cX1_mark 1 = .ok (.bipush 24, 2) := by decide +kernel
theorem dX1_mark_3 : decode cX1_mark 3 = .ok (.invokevirtual 22, 3) := by decide +kernel
theorem dX1_mark_6 : decode cX1_mark 6 = .ok (.iconst 2, 1) := by decide +kernel
theorem dX1_mark_7 : decode cX1_mark 7 = .ok (.aload_n 0, 1) := by decide +kernel
theorem dX1_mark_8 : decode cX1_mark 8 = .ok (.aload_n 1, 1) := by decide +kernel
theorem dX1_mark_9 : decode cX1_mark 9 = .ok (.invokespecial 32, 3) := by decide +kernel
theorem dX1_mark_12 : decode cX1_mark 12 = .ok (.imul, 1) := by decide +kernel
theorem dX1_mark_13 : decode cX1_mark 13 = .ok (.ireturn, 1) := by decide +kernel
theorem dX2_init_0 : decode cX2_init 0 = .ok (.aload_n 0, 1) := by decide +kernel
theorem dX2_init_1 : decode cX2_init 1 = .ok (.invokespecial 3, 3) := by decide +kernel
theorem dX2_init_4 : decode cX2_init 4 = .ok (.aload_n 0, 1) := by decide +kernel
theorem dX2_init_5 : decode cX2_init 5 = .ok (.bipush 8, 2) := by decide +kernel
theorem dX2_init_7 : decode cX2_init 7 = .ok (.newarray .int, 2) := by decide +kernel
theorem dX2_init_9 : decode cX2_init 9 = .ok (.putfield 9, 3) := by decide +kernel
theorem dX2_init_12 : decode cX2_init 12 = .ok (.aload_n 0, 1) := by decide +kernel
theorem dX2_init_13 : decode cX2_init 13 = .ok (.sipush 256, 3) := by decide +kernel
theorem dX2_init_16 : decode cX2_init 16 = .ok (.newarray .int, 2) := by decide +kernel
theorem dX2_init_18 : decode cX2_init 18 = .ok (.putfield 15, 3) := by decide +kernel
theorem dX2_init_21 : decode cX2_init 21 = .ok (.aload_n 0, 1) := by decide +kernel
theorem dX2_init_22 : decode cX2_init 22 = .ok (.sipush 256, 3) := by decide +kernel
theorem dX2_init_25 : decode cX2_init 25 = .ok (.newarray .long, 2) := by decide +kernel
theorem dX2_init_27 : decode cX2_init 27 = .ok (.putfield 18, 3) := by decide +kernel
theorem dX2_init_30 : decode cX2_init 30 = .ok (.aload_n 0, 1) := by decide +kernel
theorem dX2_init_31 : decode cX2_init 31 = .ok (.bipush 13, 2) := by decide +kernel
theorem dX2_init_33 : decode cX2_init 33 = .ok (.newarray .long, 2) := by decide +kernel
theorem dX2_init_35 : decode cX2_init 35 = .ok (.putfield 22, 3) := by decide +kernel
theorem dX2_init_38 : decode cX2_init 38 = .ok (.aload_n 0, 1) := by decide +kernel
theorem dX2_init_39 : decode cX2_init 39 = .ok (.bipush 13, 2) := by decide +kernel
theorem dX2_init_41 : decode cX2_init 41 = .ok (.newarray .long, 2) := by decide +kernel
theorem dX2_init_43 : decode cX2_init 43 = .ok (.putfield 25, 3) := by decide +kernel
theorem dX2_init_46 : decode cX2_init 46 = .ok (.lconst 1, 1) := by decide +kernel
theorem dX2_init_47 : decode cX2_init 47 = .ok (.lstore_n 1, 1) := by decide +kernel
theorem dX2_init_48 : decode cX2_init 48 = .ok (.iconst 0, 1) := by decide +kernel
theorem dX2_init_49 : decode cX2_init 49 = .ok (.istore_n 3, 1) := by decide +kernel
theorem dX2_init_50 : decode cX2_init 50 = .ok (.iload_n 3, 1) := by decide +kernel
theorem dX2_init_51 : decode cX2_init 51 = .ok (.bipush 12, 2) := by decide +kernel
theorem dX2_init_53 : decode cX2_init 53 = .ok (.if_icmp .gt 22, 3) := by decide +kernel
theorem dX2_init_56 : decode cX2_init 56 = .ok (.aload_n 0, 1) := by decide +kernel
theorem dX2_init_57 : decode cX2_init 57 = .ok (.getfield 22, 3) := by decide +kernel
theorem dX2_init_60 : decode cX2_init 60 = .ok (.iload_n 3, 1) := by decide +kernel
theorem dX2_init_61 : decode cX2_init 61 = .ok (.lload_n 1, 1) := by decide +kernel
theorem dX2_init_62 : decode cX2_init 62 = .ok (.lastore, 1) := by decide +kernel
theorem dX2_init_63 : decode cX2_init 63 = .ok (.lload_n 1, 1) := by decide +kernel
theorem dX2_init_64 : decode cX2_init 64 = .ok (.ldc2_w 28, 3) := by decide +kernel
theorem dX2_init_67 : decode cX2_init 67 = .ok (.lmul, 1) := by decide +kernel
theorem dX2_init_68 : decode cX2_init 68 = .ok (.lstore_n 1, 1) := by decide +kernel
theorem dX2_init_69 : decode cX2_init 69 = .ok (.iinc 3 1, 3) := by decide +kernel
theorem dX2_init_72 : decode cX2_init 72 = .ok (.goto (-22), 3) := by decide +kernel
theorem dX2_init_75 : decode cX2_init 75 = .ok (.return_, 1) := by decide +kernel
theorem dX2_isBurial_0 : decode cX2_isBurial 0 = .ok (.iload_n 2, 1) := by decide +kernel
theorem dX2_isBurial_1 : decode cX2_isBurial 1 = .ok (.aload_n 1, 1) := by decide +kernel
theorem dX2_isBurial_2 : decode cX2_isBurial 2 = .ok (.getfield 30, 3) := by decide +kernel
theorem dX2_isBurial_5 : decode cX2_isBurial 5 = .ok (.if_icmp .eq 20, 3) := by decide +kernel
theorem dX2_isBurial_8 : decode cX2_isBurial 8 = .ok (.aload_n 0, 1) := by decide +kernel
theorem dX2_isBurial_9 : decode cX2_isBurial 9 = .ok (.aload_n 1, 1) := by decide +kernel
theorem dX2_isBurial_10 : decode cX2_isBurial 10 = .ok (.aload_n 1, 1) := by decide +kernel
theorem dX2_isBurial_11 : decode cX2_isBurial 11 = .ok (.invokevirtual 36, 3) := by decide +kernel
theorem dX2_isBurial_14 : decode cX2_isBurial 14 = .ok (.iload_n 2, 1) := by decide +kernel
theorem dX2_isBurial_15 : decode cX2_isBurial 15 = .ok (.invokevirtual 40, 3) := by decide +kernel
theorem dX2_isBurial_18 : decode cX2_isBurial 18 = .ok (.ifCond .eq 7, 3) := by decide +kernel
theorem dX2_isBurial_21 : decode cX2_isBurial 21 = .ok (.iconst 1, 1) := by decide +kernel
theorem dX2_isBurial_22 : decode cX2_isBurial 22 = .ok (.goto 4, 3) := by decide +kernel
theorem dX2_isBurial_25 : decode cX2_isBurial 25 = .ok (.iconst 0, 1) := by decide +kernel
theorem dX2_isBurial_26 : decode cX2_isBurial 26 = .ok (.ireturn, 1) := by decide +kernel
theorem dX2_carry_0 : decode cX2_carry 0 = .ok (.aload_n 0, 1) := by decide +kernel
theorem dX2_carry_1 : decode cX2_carry 1 = .ok (.aload_n 1, 1) := by decide +kernel
theorem dX2_carry_2 : decode cX2_carry 2 = .ok (.iload_n 2, 1) := by decide +kernel
theorem dX2_carry_3 : decode cX2_carry 3 = .ok (.invokevirtual 44, 3) := by decide +kernel
theorem dX2_carry_6 : decode cX2_carry 6 = .ok (.aload_n 0, 1) := by decide +kernel
theorem dX2_carry_7 : decode cX2_carry 7 = .ok (.aload_n 0, 1) := by decide +kernel
theorem dX2_carry_8 : decode cX2_carry 8 = .ok (.getfield 9, 3) := by decide +kernel
theorem dX2_carry_11 : decode cX2_carry 11 = .ok (.iload_n 3, 1) := by decide +kernel
theorem dX2_carry_12 : decode cX2_carry 12 = .ok (.iaload, 1) := by decide +kernel
theorem dX2_carry_13 : decode cX2_carry 13 = .ok (.putfield 48, 3) := by decide +kernel
theorem dX2_carry_16 : decode cX2_carry 16 = .ok (.aload_n 0, 1) := by decide +kernel
theorem dX2_carry_17 : decode cX2_carry 17 = .ok (.iconst 0, 1) := by decide +kernel
theorem dX2_carry_18 : decode cX2_carry 18 = .ok (.putfield 51, 3) := by decide +kernel
theorem dX2_carry_21 : decode cX2_carry 21 = .ok (.aload_n 0, 1) := by decide +kernel
theorem dX2_carry_22 : decode cX2_carry 22 = .ok (.iconst 0, 1) := by decide +kernel
theorem dX2_carry_23 : decode cX2_carry 23 = .ok (.putfield 54, 3) := by decide +kernel
theorem dX2_carry_26 : decode cX2_carry 26 = .ok (.aload_n 0, 1) := by decide +kernel
theorem dX2_carry_27 : decode cX2_carry 27 = .ok (.getfield 48, 3) := by decide +kernel
theorem dX2_carry_30 : decode cX2_carry 30 = .ok (.iconst (-1), 1) := by decide +kernel
theorem dX2_carry_31 : decode cX2_carry 31 = .ok (.if_icmp .ne 5, 3) := by decide +kernel
theorem dX2_carry_34 : decode cX2_carry 34 = .ok (.iconst 0, 1) := by decide +kernel
theorem dX2_carry_35 : decode cX2_carry 35 = .ok (.ireturn, 1) := by decide +kernel
theorem dX2_carry_36 : decode cX2_carry 36 = .ok (.iload_n 3, 1) := by decide +kernel
theorem dX2_carry_37 : decode cX2_carry 37 = .ok (.istore 4, 2) := by decide +kernel
theorem dX2_carry_39 : decode cX2_carry 39 = .ok (.iconst 0, 1) := by decide +kernel
theorem dX2_carry_40 : decode cX2_carry 40 = .ok (.istore 5, 2) := by decide +kernel
theorem dX2_carry_42 : decode cX2_carry 42 = .ok (.iload 5, 2) := by decide +kernel
theorem dX2_carry_44 : decode cX2_carry 44 = .ok (.bipush 8, 2) := by decide +kernel
theorem dX2_carry_46 : decode cX2_carry 46 = .ok (.if_icmp .ge 85, 3) := by decide +kernel
theorem dX2_carry_49 : decode cX2_carry 49 = .ok (.iload 4, 2) := by decide +kernel
theorem dX2_carry_51 : decode cX2_carry 51 = .ok (.aload_n 1, 1) := by decide +kernel
theorem dX2_carry_52 : decode cX2_carry 52 = .ok (.getfield 30, 3) := by decide +kernel
theorem dX2_carry_55 : decode cX2_carry 55 = .ok (.if_icmp .eq 76, 3) := by decide +kernel
theorem dX2_carry_58 : decode cX2_carry 58 = .ok (.aload_n 0, 1) := by decide +kernel
theorem dX2_carry_59 : decode cX2_carry 59 = .ok (.aload_n 1, 1) := by decide +kernel
theorem dX2_carry_60 : decode cX2_carry 60 = .ok (.iload_n 2, 1) := by decide +kernel
theorem dX2_carry_61 : decode cX2_carry 61 = .ok (.iload 4, 2) := by decide +kernel
theorem dX2_carry_63 : decode cX2_carry 63 = .ok (.invokevirtual 57, 3) := by decide +kernel
theorem dX2_carry_66 : decode cX2_carry 66 = .ok (.istore 6, 2) := by decide +kernel
theorem dX2_carry_68 : decode cX2_carry 68 = .ok (.iload 6, 2) := by decide +kernel
theorem dX2_carry_70 : decode cX2_carry 70 = .ok (.bipush 8, 2) := by decide +kernel
theorem dX2_carry_72 : decode cX2_carry 72 = .ok (.if_icmp .ne 5, 3) := by decide +kernel
theorem dX2_carry_75 : decode cX2_carry 75 = .ok (.iconst 0, 1) := by decide +kernel
theorem dX2_carry_76 : decode cX2_carry 76 = .ok (.ireturn, 1) := by decide +kernel
theorem dX2_carry_77 : decode cX2_carry 77 = .ok (.aload_n 1, 1) := by decide +kernel
theorem dX2_carry_78 : decode cX2_carry 78 = .ok (.iload 4, 2) := by decide +kernel
theorem dX2_carry_80 : decode cX2_carry 80 = .ok (.invokevirtual 61, 3) := by decide +kernel
theorem dX2_carry_83 : decode cX2_carry 83 = .ok (.aload_n 1, 1) := by decide +kernel
theorem dX2_carry_84 : decode cX2_carry 84 = .ok (.iload 6, 2) := by decide +kernel
theorem dX2_carry_86 : decode cX2_carry 86 = .ok (.invokevirtual 61, 3) := by decide +kernel
theorem dX2_carry_89 : decode cX2_carry 89 = .ok (.iand, 1) := by decide +kernel
theorem dX2_carry_90 : decode cX2_carry 90 = .ok (.istore 7, 2) := by decide +kernel
theorem dX2_carry_92 : decode cX2_carry 92 = .ok (.aload_n 0, 1) := by decide +kernel
theorem dX2_carry_93 : decode cX2_carry 93 = .ok (.iload 5, 2) := by decide +kernel
theorem dX2_carry_95 : decode cX2_carry 95 = .ok (.ifCond .ne 8, 3) := by decide +kernel
theorem dX2_carry_98 : decode cX2_carry 98 = .ok (.iload 7, 2) := by decide +kernel
theorem dX2_carry_100 : decode cX2_carry 100 = .ok (.goto 7, 3) := by decide +kernel
theorem dX2_carry_103 : decode cX2_carry 103 = .ok (.aload_n 0, 1) := by decide +kernel
theorem dX2_carry_104 : decode cX2_carry 104 = .ok (.getfield 54, 3) := by decide +kernel
theorem dX2_carry_107 : decode cX2_carry 107 = .ok (.putfield 54, 3) := by decide +kernel
theorem dX2_carry_110 : decode cX2_carry 110 = .ok (.aload_n 0, 1) := by decide +kernel
theorem dX2_carry_111 : decode cX2_carry 111 = .ok (.dup, 1) := by decide +kernel
theorem dX2_carry_112 : decode cX2_carry 112 = .ok (.getfield 51, 3) := by decide +kernel
theorem dX2_carry_115 : decode cX2_carry 115 = .ok (.iload 7, 2) := by decide +kernel
theorem dX2_carry_117 : decode cX2_carry 117 = .ok (.ior, 1) := by decide +kernel
theorem dX2_carry_118 : decode cX2_carry 118 = .ok (.putfield 51, 3) := by decide +kernel
theorem dX2_carry_121 : decode cX2_carry 121 = .ok (.iload 6, 2) := by decide +kernel
theorem dX2_carry_123 : decode cX2_carry 123 = .ok (.istore 4, 2) := by decide +kernel
theorem dX2_carry_125 : decode cX2_carry 125 = .ok (.iinc 5 1, 3) := by decide +kernel
theorem dX2_carry_128 : decode cX2_carry 128 = .ok (.goto (-86), 3) := by decide +kernel
theorem dX2_carry_131 : decode cX2_carry 131 = .ok (.iconst 1, 1) := by decide +kernel
theorem dX2_carry_132 : decode cX2_carry 132 = .ok (.ireturn, 1) := by decide +kernel
theorem dX2_measure_0 : decode cX2_measure 0 = .ok (.iconst 0, 1) := by decide +kernel
theorem dX2_measure_1 : decode cX2_measure 1 = .ok (.istore_n 3, 1) := by decide +kernel
theorem dX2_measure_2 : decode cX2_measure 2 = .ok (.iload_n 3, 1) := by decide +kernel
theorem dX2_measure_3 : decode cX2_measure 3 = .ok (.bipush 8, 2) := by decide +kernel
theorem dX2_measure_5 : decode cX2_measure 5 = .ok (.if_icmp .ge 16, 3) := by decide +kernel
theorem dX2_measure_8 : decode cX2_measure 8 = .ok (.aload_n 0, 1) := by decide +kernel
theorem dX2_measure_9 : decode cX2_measure 9 = .ok (.getfield 9, 3) := by decide +kernel
theorem dX2_measure_12 : decode cX2_measure 12 = .ok (.iload_n 3, 1) := by decide +kernel
theorem dX2_measure_13 : decode cX2_measure 13 = .ok (.iconst (-1), 1) := by decide +kernel
theorem dX2_measure_14 : decode cX2_measure 14 = .ok (.iastore, 1) := by decide +kernel
theorem dX2_measure_15 : decode cX2_measure 15 = .ok (.iinc 3 1, 3) := by decide +kernel
theorem dX2_measure_18 : decode cX2_measure 18 = .ok (.goto (-16), 3) := by decide +kernel
theorem dX2_measure_21 : decode cX2_measure 21 = .ok (.aload_n 0, 1) := by decide +kernel
theorem dX2_measure_22 : decode cX2_measure 22 = .ok (.getfield 9, 3) := by decide +kernel
theorem dX2_measure_25 : decode cX2_measure 25 = .ok (.aload_n 1, 1) := by decide +kernel
theorem dX2_measure_26 : decode cX2_measure 26 = .ok (.getfield 30, 3) := by decide +kernel
theorem dX2_measure_29 : decode cX2_measure 29 = .ok (.iconst 0, 1) := by decide +kernel
theorem dX2_measure_30 : decode cX2_measure 30 = .ok (.iastore, 1) := by decide +kernel
theorem dX2_measure_31 : decode cX2_measure 31 = .ok (.iconst 1, 1) := by decide +kernel
theorem dX2_measure_32 : decode cX2_measure 32 = .ok (.istore_n 3, 1) := by decide +kernel
theorem dX2_measure_33 : decode cX2_measure 33 = .ok (.iconst 0, 1) := by decide +kernel
theorem dX2_measure_34 : decode cX2_measure 34 = .ok (.istore 4, 2) := by decide +kernel
theorem dX2_measure_36 : decode cX2_measure 36 = .ok (.iload 4, 2) := by decide +kernel
theorem dX2_measure_38 : decode cX2_measure 38 = .ok (.bipush 8, 2) := by decide +kernel
theorem dX2_measure_40 : decode cX2_measure 40 = .ok (.if_icmp .ge 99, 3) := by decide +kernel
theorem dX2_measure_43 : decode cX2_measure 43 = .ok (.iload_n 3, 1) := by decide +kernel
theorem dX2_measure_44 : decode cX2_measure 44 = .ok (.ifCond .eq 95, 3) := by decide +kernel
theorem dX2_measure_47 : decode cX2_measure 47 = .ok (.iconst 0, 1) := by decide +kernel
theorem dX2_measure_48 : decode cX2_measure 48 = .ok (.istore_n 3, 1) := by decide +kernel
theorem dX2_measure_49 : decode cX2_measure 49 = .ok (.iconst 0, 1) := by decide +kernel
theorem dX2_measure_50 : decode cX2_measure 50 = .ok (.istore 5, 2) := by decide +kernel
theorem dX2_measure_52 : decode cX2_measure 52 = .ok (.iload 5, 2) := by decide +kernel
theorem dX2_measure_54 : decode cX2_measure 54 = .ok (.aload_n 1, 1) := by decide +kernel
theorem dX2_measure_55 : decode cX2_measure 55 = .ok (.getfield 65, 3) := by decide +kernel
theorem dX2_measure_58 : decode cX2_measure 58 = .ok (.if_icmp .ge 75, 3) := by decide +kernel
theorem dX2_measure_61 : decode cX2_measure 61 = .ok (.iload_n 2, 1) := by decide +kernel
theorem dX2_measure_62 : decode cX2_measure 62 = .ok (.iload 5, 2) := by decide +kernel
theorem dX2_measure_64 : decode cX2_measure 64 = .ok (.invokestatic 68, 3) := by decide +kernel
theorem dX2_measure_67 : decode cX2_measure 67 = .ok (.iconst 1, 1) := by decide +kernel
theorem dX2_measure_68 : decode cX2_measure 68 = .ok (.if_icmp .ne 59, 3) := by decide +kernel
theorem dX2_measure_71 : decode cX2_measure 71 = .ok (.iload_n 3, 1) := by decide +kernel
theorem dX2_measure_72 : decode cX2_measure 72 = .ok (.aload_n 0, 1) := by decide +kernel
theorem dX2_measure_73 : decode cX2_measure 73 = .ok (.aload_n 1, 1) := by decide +kernel
theorem dX2_measure_74 : decode cX2_measure 74 = .ok (.getfield 72, 3) := by decide +kernel
theorem dX2_measure_77 : decode cX2_measure 77 = .ok (.iload 5, 2) := by decide +kernel
theorem dX2_measure_79 : decode cX2_measure 79 = .ok (.iaload, 1) := by decide +kernel
theorem dX2_measure_80 : decode cX2_measure 80 = .ok (.aload_n 1, 1) := by decide +kernel
theorem dX2_measure_81 : decode cX2_measure 81 = .ok (.getfield 75, 3) := by decide +kernel
theorem dX2_measure_84 : decode cX2_measure 84 = .ok (.iload 5, 2) := by decide +kernel
theorem dX2_measure_86 : decode cX2_measure 86 = .ok (.iaload, 1) := by decide +kernel
theorem dX2_measure_87 : decode cX2_measure 87 = .ok (.aload_n 1, 1) := by decide +kernel
theorem dX2_measure_88 : decode cX2_measure 88 = .ok (.getfield 78, 3) := by decide +kernel
theorem dX2_measure_91 : decode cX2_measure 91 = .ok (.iload 5, 2) := by decide +kernel
theorem dX2_measure_93 : decode cX2_measure 93 = .ok (.iaload, 1) := by decide +kernel
theorem dX2_measure_94 : decode cX2_measure 94 = .ok (.invokevirtual 81, 3) := by decide +kernel
theorem dX2_measure_97 : decode cX2_measure 97 = .ok (.ior, 1) := by decide +kernel
theorem dX2_measure_98 : decode cX2_measure 98 = .ok (.istore_n 3, 1) := by decide +kernel
theorem dX2_measure_99 : decode cX2_measure 99 = .ok (.iload_n 3, 1) := by decide +kernel
theorem dX2_measure_100 : decode cX2_measure 100 = .ok (.aload_n 0, 1) := by decide +kernel
theorem dX2_measure_101 : decode cX2_measure 101 = .ok (.aload_n 1, 1) := by decide +kernel
theorem dX2_measure_102 : decode cX2_measure 102 = .ok (.getfield 75, 3) := by decide +kernel
theorem dX2_measure_105 : decode cX2_measure 105 = .ok (.iload 5, 2) := by decide +kernel
theorem dX2_measure_107 : decode cX2_measure 107 = .ok (.iaload, 1) := by decide +kernel
theorem dX2_measure_108 : decode cX2_measure 108 = .ok (.aload_n 1, 1) := by decide +kernel
theorem dX2_measure_109 : decode cX2_measure 109 = .ok (.getfield 72, 3) := by decide +kernel
theorem dX2_measure_112 : decode cX2_measure 112 = .ok (.iload 5, 2) := by decide +kernel
theorem dX2_measure_114 : decode cX2_measure 114 = .ok (.iaload, 1) := by decide +kernel
theorem dX2_measure_115 : decode cX2_measure 115 = .ok (.aload_n 1, 1) := by decide +kernel
theorem dX2_measure_116 : decode cX2_measure 116 = .ok (.getfield 78, 3) := by decide +kernel
theorem dX2_measure_119 : decode cX2_measure 119 = .ok (.iload 5, 2) := by decide +kernel
theorem dX2_measure_121 : decode cX2_measure 121 = .ok (.iaload, 1) := by decide +kernel
theorem dX2_measure_122 : decode cX2_measure 122 = .ok (.invokevirtual 81, 3) := by decide +kernel
theorem dX2_measure_125 : decode cX2_measure 125 = .ok (.ior, 1) := by decide +kernel
theorem dX2_measure_126 : decode cX2_measure 126 = .ok (.istore_n 3, 1) := by decide +kernel
theorem dX2_measure_127 : decode cX2_measure 127 = .ok (.iinc 5 1, 3) := by decide +kernel
theorem dX2_measure_130 : decode cX2_measure 130 = .ok (.goto (-78), 3) := by decide +kernel
theorem dX2_measure_133 : decode cX2_measure 133 = .ok (.iinc 4 1, 3) := by decide +kernel
theorem dX2_measure_136 : decode cX2_measure 136 = .ok (.goto (-100), 3) := by decide +kernel
theorem dX2_measure_139 : decode cX2_measure 139 = .ok (.return_, 1) := by decide +kernel
theorem dX2_shorten_0 : decode cX2_shorten 0 = .ok (.aload_n 0, 1) := by decide +kernel
theorem dX2_shorten_1 : decode cX2_shorten 1 = .ok (.getfield 9, 3) := by decide +kernel
theorem dX2_shorten_4 : decode cX2_shorten 4 = .ok (.iload_n 2, 1) := by decide +kernel
theorem dX2_shorten_5 : decode cX2_shorten 5 = .ok (.iaload, 1) := by decide +kernel
theorem dX2_shorten_6 : decode cX2_shorten 6 = .ok (.iconst (-1), 1) := by decide +kernel
theorem dX2_shorten_7 : decode cX2_shorten 7 = .ok (.if_icmp .eq 30, 3) := by decide +kernel
theorem dX2_shorten_10 : decode cX2_shorten 10 = .ok (.aload_n 0, 1) := by decide +kernel
theorem dX2_shorten_11 : decode cX2_shorten 11 = .ok (.getfield 9, 3) := by decide +kernel
theorem dX2_shorten_14 : decode cX2_shorten 14 = .ok (.iload_n 1, 1) := by decide +kernel
theorem dX2_shorten_15 : decode cX2_shorten 15 = .ok (.iaload, 1) := by decide +kernel
theorem dX2_shorten_16 : decode cX2_shorten 16 = .ok (.iconst (-1), 1) := by decide +kernel
theorem dX2_shorten_17 : decode cX2_shorten 17 = .ok (.if_icmp .eq 22, 3) := by decide +kernel
theorem dX2_shorten_20 : decode cX2_shorten 20 = .ok (.aload_n 0, 1) := by decide +kernel
theorem dX2_shorten_21 : decode cX2_shorten 21 = .ok (.getfield 9, 3) := by decide +kernel
theorem dX2_shorten_24 : decode cX2_shorten 24 = .ok (.iload_n 1, 1) := by decide +kernel
theorem dX2_shorten_25 : decode cX2_shorten 25 = .ok (.iaload, 1) := by decide +kernel
theorem dX2_shorten_26 : decode cX2_shorten 26 = .ok (.aload_n 0, 1) := by decide +kernel
theorem dX2_shorten_27 : decode cX2_shorten 27 = .ok (.getfield 9, 3) := by decide +kernel
theorem dX2_shorten_30 : decode cX2_shorten 30 = .ok (.iload_n 2, 1) := by decide +kernel
theorem dX2_shorten_31 : decode cX2_shorten 31 = .ok (.iaload, 1) := by decide +kernel
theorem dX2_shorten_32 : decode cX2_shorten 32 = .ok (.iload_n 3, 1) := by decide +kernel
theorem dX2_shorten_33 : decode cX2_shorten 33 = .ok (.iadd, 1) := by decide +kernel
theorem dX2_shorten_34 : decode cX2_shorten 34 = .ok (.if_icmp .gt 5, 3) := by decide +kernel
theorem dX2_shorten_37 : decode cX2_shorten 37 = .ok (.iconst 0, 1) := by decide +kernel
theorem dX2_shorten_38 : decode cX2_shorten 38 = .ok (.ireturn, 1) := by decide +kernel
theorem dX2_shorten_39 : decode cX2_shorten 39 = .ok (.aload_n 0, 1) := by decide +kernel
theorem dX2_shorten_40 : decode cX2_shorten 40 = .ok (.getfield 9, 3) := by decide +kernel
theorem dX2_shorten_43 : decode cX2_shorten 43 = .ok (.iload_n 1, 1) := by decide +kernel
theorem dX2_shorten_44 : decode cX2_shorten 44 = .ok (.aload_n 0, 1) := by decide +kernel
theorem dX2_shorten_45 : decode cX2_shorten 45 = .ok (.getfield 9, 3) := by decide +kernel
theorem dX2_shorten_48 : decode cX2_shorten 48 = .ok (.iload_n 2, 1) := by decide +kernel
theorem dX2_shorten_49 : decode cX2_shorten 49 = .ok (.iaload, 1) := by decide +kernel
theorem dX2_shorten_50 : decode cX2_shorten 50 = .ok (.iload_n 3, 1) := by decide +kernel
theorem dX2_shorten_51 : decode cX2_shorten 51 = .ok (.iadd, 1) := by decide +kernel
theorem dX2_shorten_52 : decode cX2_shorten 52 = .ok (.iastore, 1) := by decide +kernel
theorem dX2_shorten_53 : decode cX2_shorten 53 = .ok (.iconst 1, 1) := by decide +kernel
theorem dX2_shorten_54 : decode cX2_shorten 54 = .ok (.ireturn, 1) := by decide +kernel
theorem dX2_nextField_0 : decode cX2_nextField 0 = .ok (.bipush 8, 2) := by decide +kernel
theorem dX2_nextField_2 : decode cX2_nextField 2 = .ok (.istore 4, 2) := by decide +kernel
theorem dX2_nextField_4 : decode cX2_nextField 4 = .ok (.iconst 0, 1) := by decide +kernel
theorem dX2_nextField_5 : decode cX2_nextField 5 = .ok (.istore 5, 2) := by decide +kernel
theorem dX2_nextField_7 : decode cX2_nextField 7 = .ok (.iload 5, 2) := by decide +kernel
theorem dX2_nextField_9 : decode cX2_nextField 9 = .ok (.aload_n 1, 1) := by decide +kernel
theorem dX2_nextField_10 : decode cX2_nextField 10 = .ok (.getfield 65, 3) := by decide +kernel
theorem dX2_nextField_13 : decode cX2_nextField 13 = .ok (.if_icmp .ge 117, 3) := by decide +kernel
theorem dX2_nextField_16 : decode cX2_nextField 16 = .ok (.iload_n 2, 1) := by decide +kernel
theorem dX2_nextField_17 : decode cX2_nextField 17 = .ok (.iload 5, 2) := by decide +kernel
theorem dX2_nextField_19 : decode cX2_nextField 19 = .ok (.invokestatic 68, 3) := by decide +kernel
theorem dX2_nextField_22 : decode cX2_nextField 22 = .ok (.iconst 1, 1) := by decide +kernel
theorem dX2_nextField_23 : decode cX2_nextField 23 = .ok (.if_icmp .ne 101, 3) := by decide +kernel
theorem dX2_nextField_26 : decode cX2_nextField 26 = .ok (.aload_n 1, 1) := by decide +kernel
theorem dX2_nextField_27 : decode cX2_nextField 27 = .ok (.getfield 72, 3) := by decide +kernel
theorem dX2_nextField_30 : decode cX2_nextField 30 = .ok (.iload 5, 2) := by decide +kernel
theorem dX2_nextField_32 : decode cX2_nextField 32 = .ok (.iaload, 1) := by decide +kernel
theorem dX2_nextField_33 : decode cX2_nextField 33 = .ok (.iload_n 3, 1) := by decide +kernel
theorem dX2_nextField_34 : decode cX2_nextField 34 = .ok (.if_icmp .eq 14, 3) := by decide +kernel
theorem dX2_nextField_37 : decode cX2_nextField 37 = .ok (.aload_n 1, 1) := by decide +kernel
theorem dX2_nextField_38 : decode cX2_nextField 38 = .ok (.getfield 75, 3) := by decide +kernel
theorem dX2_nextField_41 : decode cX2_nextField 41 = .ok (.iload 5, 2) := by decide +kernel
theorem dX2_nextField_43 : decode cX2_nextField 43 = .ok (.iaload, 1) := by decide +kernel
theorem dX2_nextField_44 : decode cX2_nextField 44 = .ok (.iload_n 3, 1) := by decide +kernel
theorem dX2_nextField_45 : decode cX2_nextField 45 = .ok (.if_icmp .ne 79, 3) := by decide +kernel
theorem dX2_nextField_48 : decode cX2_nextField 48 = .ok (.aload_n 1, 1) := by decide +kernel
theorem dX2_nextField_49 : decode cX2_nextField 49 = .ok (.getfield 72, 3) := by decide +kernel
theorem dX2_nextField_52 : decode cX2_nextField 52 = .ok (.iload 5, 2) := by decide +kernel
theorem dX2_nextField_54 : decode cX2_nextField 54 = .ok (.iaload, 1) := by decide +kernel
theorem dX2_nextField_55 : decode cX2_nextField 55 = .ok (.iload_n 3, 1) := by decide +kernel
theorem dX2_nextField_56 : decode cX2_nextField 56 = .ok (.if_icmp .ne 13, 3) := by decide +kernel
theorem dX2_nextField_59 : decode cX2_nextField 59 = .ok (.aload_n 1, 1) := by decide +kernel
theorem dX2_nextField_60 : decode cX2_nextField 60 = .ok (.getfield 75, 3) := by decide +kernel
theorem dX2_nextField_63 : decode cX2_nextField 63 = .ok (.iload 5, 2) := by decide +kernel
theorem dX2_nextField_65 : decode cX2_nextField 65 = .ok (.iaload, 1) := by decide +kernel
theorem dX2_nextField_66 : decode cX2_nextField 66 = .ok (.goto 10, 3) := by decide +kernel
theorem dX2_nextField_69 : decode cX2_nextField 69 = .ok (.aload_n 1, 1) := by decide +kernel
theorem dX2_nextField_70 : decode cX2_nextField 70 = .ok (.getfield 72, 3) := by decide +kernel
theorem dX2_nextField_73 : decode cX2_nextField 73 = .ok (.iload 5, 2) := by decide +kernel
theorem dX2_nextField_75 : decode cX2_nextField 75 = .ok (.iaload, 1) := by decide +kernel
theorem dX2_nextField_76 : decode cX2_nextField 76 = .ok (.istore 6, 2) := by decide +kernel
theorem dX2_nextField_78 : decode cX2_nextField 78 = .ok (.iload 6, 2) := by decide +kernel
theorem dX2_nextField_80 : decode cX2_nextField 80 = .ok (.iload 4, 2) := by decide +kernel
theorem dX2_nextField_82 : decode cX2_nextField 82 = .ok (.if_icmp .ge 42, 3) := by decide +kernel
theorem dX2_nextField_85 : decode cX2_nextField 85 = .ok (.aload_n 0, 1) := by decide +kernel
theorem dX2_nextField_86 : decode cX2_nextField 86 = .ok (.getfield 9, 3) := by decide +kernel
theorem dX2_nextField_89 : decode cX2_nextField 89 = .ok (.iload 6, 2) := by decide +kernel
theorem dX2_nextField_91 : decode cX2_nextField 91 = .ok (.iaload, 1) := by decide +kernel
theorem dX2_nextField_92 : decode cX2_nextField 92 = .ok (.iconst (-1), 1) := by decide +kernel
theorem dX2_nextField_93 : decode cX2_nextField 93 = .ok (.if_icmp .eq 31, 3) := by decide +kernel
theorem dX2_nextField_96 : decode cX2_nextField 96 = .ok (.aload_n 0, 1) := by decide +kernel
theorem dX2_nextField_97 : decode cX2_nextField 97 = .ok (.getfield 9, 3) := by decide +kernel
theorem dX2_nextField_100 : decode cX2_nextField 100 = .ok (.iload 6, 2) := by decide +kernel
theorem dX2_nextField_102 : decode cX2_nextField 102 = .ok (.iaload, 1) := by decide +kernel
theorem dX2_nextField_103 : decode cX2_nextField 103 = .ok (.aload_n 1, 1) := by decide +kernel
theorem dX2_nextField_104 : decode cX2_nextField 104 = .ok (.getfield 78, 3) := by decide +kernel
theorem dX2_nextField_107 : decode cX2_nextField 107 = .ok (.iload 5, 2) := by decide +kernel
theorem dX2_nextField_109 : decode cX2_nextField 109 = .ok (.iaload, 1) := by decide +kernel
theorem dX2_nextField_110 : decode cX2_nextField 110 = .ok (.iadd, 1) := by decide +kernel
theorem dX2_nextField_111 : decode cX2_nextField 111 = .ok (.aload_n 0, 1) := by decide +kernel
theorem dX2_nextField_112 : decode cX2_nextField 112 = .ok (.getfield 9, 3) := by decide +kernel
theorem dX2_nextField_115 : decode cX2_nextField 115 = .ok (.iload_n 3, 1) := by decide +kernel
theorem dX2_nextField_116 : decode cX2_nextField 116 = .ok (.iaload, 1) := by decide +kernel
theorem dX2_nextField_117 : decode cX2_nextField 117 = .ok (.if_icmp .ne 7, 3) := by decide +kernel
theorem dX2_nextField_120 : decode cX2_nextField 120 = .ok (.iload 6, 2) := by decide +kernel
theorem dX2_nextField_122 : decode cX2_nextField 122 = .ok (.istore 4, 2) := by decide +kernel
theorem dX2_nextField_124 : decode cX2_nextField 124 = .ok (.iinc 5 1, 3) := by decide +kernel
theorem dX2_nextField_127 : decode cX2_nextField 127 = .ok (.goto (-120), 3) := by decide +kernel
theorem dX2_nextField_130 : decode cX2_nextField 130 = .ok (.iload 4, 2) := by decide +kernel
theorem dX2_nextField_132 : decode cX2_nextField 132 = .ok (.ireturn, 1) := by decide +kernel
theorem dX2_fewestGates_0 : decode cX2_fewestGates 0 = .ok (.iload_n 2, 1) := by decide +kernel
theorem dX2_fewestGates_1 : decode cX2_fewestGates 1 = .ok (.istore 4, 2) := by decide +kernel
theorem dX2_fewestGates_3 : decode cX2_fewestGates 3 = .ok (.iconst 0, 1) := by decide +kernel
theorem dX2_fewestGates_4 : decode cX2_fewestGates 4 = .ok (.istore 5, 2) := by decide +kernel
theorem dX2_fewestGates_6 : decode cX2_fewestGates 6 = .ok (.iload 5, 2) := by decide +kernel
theorem dX2_fewestGates_8 : decode cX2_fewestGates 8 = .ok (.sipush 256, 3) := by decide +kernel
theorem dX2_fewestGates_11 : decode cX2_fewestGates 11 = .ok (.if_icmp .ge 74, 3) := by decide +kernel
theorem dX2_fewestGates_14 : decode cX2_fewestGates 14 = .ok (.iload 5, 2) := by decide +kernel
theorem dX2_fewestGates_16 : decode cX2_fewestGates 16 = .ok (.iload_n 3, 1) := by decide +kernel
theorem dX2_fewestGates_17 : decode cX2_fewestGates 17 = .ok (.invokestatic 68, 3) := by decide +kernel
theorem dX2_fewestGates_20 : decode cX2_fewestGates 20 = .ok (.iconst 1, 1) := by decide +kernel
theorem dX2_fewestGates_21 : decode cX2_fewestGates 21 = .ok (.if_icmp .ne 58, 3) := by decide +kernel
theorem dX2_fewestGates_24 : decode cX2_fewestGates 24 = .ok (.iload 5, 2) := by decide +kernel
theorem dX2_fewestGates_26 : decode cX2_fewestGates 26 = .ok (.aload_n 1, 1) := by decide +kernel
theorem dX2_fewestGates_27 : decode cX2_fewestGates 27 = .ok (.getfield 30, 3) := by decide +kernel
theorem dX2_fewestGates_30 : decode cX2_fewestGates 30 = .ok (.invokestatic 68, 3) := by decide +kernel
theorem dX2_fewestGates_33 : decode cX2_fewestGates 33 = .ok (.ifCond .ne 46, 3) := by decide +kernel
theorem dX2_fewestGates_36 : decode cX2_fewestGates 36 = .ok (.aload_n 1, 1) := by decide +kernel
theorem dX2_fewestGates_37 : decode cX2_fewestGates 37 = .ok (.iload_n 2, 1) := by decide +kernel
theorem dX2_fewestGates_38 : decode cX2_fewestGates 38 = .ok (.iload 5, 2) := by decide +kernel
theorem dX2_fewestGates_40 : decode cX2_fewestGates 40 = .ok (.invokestatic 85, 3) := by decide +kernel
theorem dX2_fewestGates_43 : decode cX2_fewestGates 43 = .ok (.istore 6, 2) := by decide +kernel
theorem dX2_fewestGates_45 : decode cX2_fewestGates 45 = .ok (.iload 6, 2) := by decide +kernel
theorem dX2_fewestGates_47 : decode cX2_fewestGates 47 = .ok (.invokestatic 88, 3) := by decide +kernel
theorem dX2_fewestGates_50 : decode cX2_fewestGates 50 = .ok (.iload 4, 2) := by decide +kernel
theorem dX2_fewestGates_52 : decode cX2_fewestGates 52 = .ok (.invokestatic 88, 3) := by decide +kernel
theorem dX2_fewestGates_55 : decode cX2_fewestGates 55 = .ok (.isub, 1) := by decide +kernel
theorem dX2_fewestGates_56 : decode cX2_fewestGates 56 = .ok (.istore 7, 2) := by decide +kernel
theorem dX2_fewestGates_58 : decode cX2_fewestGates 58 = .ok (.iload 7, 2) := by decide +kernel
theorem dX2_fewestGates_60 : decode cX2_fewestGates 60 = .ok (.ifCond .lt 15, 3) := by decide +kernel
theorem dX2_fewestGates_63 : decode cX2_fewestGates 63 = .ok (.iload 7, 2) := by decide +kernel
theorem dX2_fewestGates_65 : decode cX2_fewestGates 65 = .ok (.ifCond .ne 14, 3) := by decide +kernel
theorem dX2_fewestGates_68 : decode cX2_fewestGates 68 = .ok (.iload 6, 2) := by decide +kernel
theorem dX2_fewestGates_70 : decode cX2_fewestGates 70 = .ok (.iload 4, 2) := by decide +kernel
theorem dX2_fewestGates_72 : decode cX2_fewestGates 72 = .ok (.if_icmp .ge 7, 3) := by decide +kernel
theorem dX2_fewestGates_75 : decode cX2_fewestGates 75 = .ok (.iload 6, 2) := by decide +kernel
theorem dX2_fewestGates_77 : decode cX2_fewestGates 77 = .ok (.istore 4, 2) := by decide +kernel
theorem dX2_fewestGates_79 : decode cX2_fewestGates 79 = .ok (.iinc 5 1, 3) := by decide +kernel
theorem dX2_fewestGates_82 : decode cX2_fewestGates 82 = .ok (.goto (-76), 3) := by decide +kernel
theorem dX2_fewestGates_85 : decode cX2_fewestGates 85 = .ok (.iload 4, 2) := by decide +kernel
theorem dX2_fewestGates_87 : decode cX2_fewestGates 87 = .ok (.ireturn, 1) := by decide +kernel
theorem dX2_between_0 : decode cX2_between 0 = .ok (.iconst 0, 1) := by decide +kernel
theorem dX2_between_1 : decode cX2_between 1 = .ok (.istore_n 3, 1) := by decide +kernel
theorem dX2_between_2 : decode cX2_between 2 = .ok (.iconst 0, 1) := by decide +kernel
theorem dX2_between_3 : decode cX2_between 3 = .ok (.istore 4, 2) := by decide +kernel
theorem dX2_between_5 : decode cX2_between 5 = .ok (.iload 4, 2) := by decide +kernel
theorem dX2_between_7 : decode cX2_between 7 = .ok (.aload_n 0, 1) := by decide +kernel
theorem dX2_between_8 : decode cX2_between 8 = .ok (.getfield 65, 3) := by decide +kernel
theorem dX2_between_11 : decode cX2_between 11 = .ok (.if_icmp .ge 41, 3) := by decide +kernel
theorem dX2_between_14 : decode cX2_between 14 = .ok (.iload_n 2, 1) := by decide +kernel
theorem dX2_between_15 : decode cX2_between 15 = .ok (.aload_n 0, 1) := by decide +kernel
theorem dX2_between_16 : decode cX2_between 16 = .ok (.getfield 72, 3) := by decide +kernel
theorem dX2_between_19 : decode cX2_between 19 = .ok (.iload 4, 2) := by decide +kernel
theorem dX2_between_21 : decode cX2_between 21 = .ok (.iaload, 1) := by decide +kernel
theorem dX2_between_22 : decode cX2_between 22 = .ok (.invokestatic 68, 3) := by decide +kernel
theorem dX2_between_25 : decode cX2_between 25 = .ok (.iload_n 2, 1) := by decide +kernel
theorem dX2_between_26 : decode cX2_between 26 = .ok (.aload_n 0, 1) := by decide +kernel
theorem dX2_between_27 : decode cX2_between 27 = .ok (.getfield 75, 3) := by decide +kernel
theorem dX2_between_30 : decode cX2_between 30 = .ok (.iload 4, 2) := by decide +kernel
theorem dX2_between_32 : decode cX2_between 32 = .ok (.iaload, 1) := by decide +kernel
theorem dX2_between_33 : decode cX2_between 33 = .ok (.invokestatic 68, 3) := by decide +kernel
theorem dX2_between_36 : decode cX2_between 36 = .ok (.if_icmp .eq 10, 3) := by decide +kernel
theorem dX2_between_39 : decode cX2_between 39 = .ok (.iload_n 3, 1) := by decide +kernel
theorem dX2_between_40 : decode cX2_between 40 = .ok (.iconst 1, 1) := by decide +kernel
theorem dX2_between_41 : decode cX2_between 41 = .ok (.iload 4, 2) := by decide +kernel
theorem dX2_between_43 : decode cX2_between 43 = .ok (.ishl, 1) := by decide +kernel
theorem dX2_between_44 : decode cX2_between 44 = .ok (.ior, 1) := by decide +kernel
theorem dX2_between_45 : decode cX2_between 45 = .ok (.istore_n 3, 1) := by decide +kernel
theorem dX2_between_46 : decode cX2_between 46 = .ok (.iinc 4 1, 3) := by decide +kernel
theorem dX2_between_49 : decode cX2_between 49 = .ok (.goto (-44), 3) := by decide +kernel
theorem dX2_between_52 : decode cX2_between 52 = .ok (.iload_n 3, 1) := by decide +kernel
theorem dX2_between_53 : decode cX2_between 53 = .ok (.iload_n 1, 1) := by decide +kernel
theorem dX2_between_54 : decode cX2_between 54 = .ok (.iand, 1) := by decide +kernel
theorem dX2_between_55 : decode cX2_between 55 = .ok (.ireturn, 1) := by decide +kernel
theorem dX2_casesThrough_0 : decode cX2_casesThrough 0 = .ok (.aload_n 0, 1) := by decide +kernel
theorem dX2_casesThrough_1 : decode cX2_casesThrough 1 = .ok (.aload_n 1, 1) := by decide +kernel
theorem dX2_casesThrough_2 : decode cX2_casesThrough 2 = .ok (.invokevirtual 93, 3) := by decide +kernel
theorem dX2_casesThrough_5 : decode cX2_casesThrough 5 = .ok (.aload_n 0, 1) := by decide +kernel
theorem dX2_casesThrough_6 : decode cX2_casesThrough 6 = .ok (.iload_n 3, 1) := by decide +kernel
theorem dX2_casesThrough_7 : decode cX2_casesThrough 7 = .ok (.invokevirtual 97, 3) := by decide +kernel
theorem dX2_casesThrough_10 : decode cX2_casesThrough 10 = .ok (.sipush 255, 3) := by decide +kernel
theorem dX2_casesThrough_13 : decode cX2_casesThrough 13 = .ok (.istore 4, 2) := by decide +kernel
theorem dX2_casesThrough_15 : decode cX2_casesThrough 15 = .ok (.aload_n 0, 1) := by decide +kernel
theorem dX2_casesThrough_16 : decode cX2_casesThrough 16 = .ok (.getfield 22, 3) := by decide +kernel
theorem dX2_casesThrough_19 : decode cX2_casesThrough 19 = .ok (.aload_n 0, 1) := by decide +kernel
theorem dX2_casesThrough_20 : decode cX2_casesThrough 20 = .ok (.getfield 15, 3) := by decide +kernel
theorem dX2_casesThrough_23 : decode cX2_casesThrough 23 = .ok (.iload 4, 2) := by decide +kernel
theorem dX2_casesThrough_25 : decode cX2_casesThrough 25 = .ok (.iaload, 1) := by decide +kernel
theorem dX2_casesThrough_26 : decode cX2_casesThrough 26 = .ok (.laload, 1) := by decide +kernel
theorem dX2_casesThrough_27 : decode cX2_casesThrough 27 = .ok (.lstore 5, 2) := by decide +kernel
theorem dX2_casesThrough_29 : decode cX2_casesThrough 29 = .ok (.iconst 0, 1) := by decide +kernel
theorem dX2_casesThrough_30 : decode cX2_casesThrough 30 = .ok (.istore 7, 2) := by decide +kernel
theorem dX2_casesThrough_32 : decode cX2_casesThrough 32 = .ok (.iload 7, 2) := by decide +kernel
theorem dX2_casesThrough_34 : decode cX2_casesThrough 34 = .ok (.sipush 256, 3) := by decide +kernel
theorem dX2_casesThrough_37 : decode cX2_casesThrough 37 = .ok (.if_icmp .ge 58, 3) := by decide +kernel
theorem dX2_casesThrough_40 : decode cX2_casesThrough 40 = .ok (.iload 7, 2) := by decide +kernel
theorem dX2_casesThrough_42 : decode cX2_casesThrough 42 = .ok (.iload_n 2, 1) := by decide +kernel
theorem dX2_casesThrough_43 : decode cX2_casesThrough 43 = .ok (.invokestatic 68, 3) := by decide +kernel
theorem dX2_casesThrough_46 : decode cX2_casesThrough 46 = .ok (.iconst 1, 1) := by decide +kernel
theorem dX2_casesThrough_47 : decode cX2_casesThrough 47 = .ok (.if_icmp .ne 42, 3) := by decide +kernel
theorem dX2_casesThrough_50 : decode cX2_casesThrough 50 = .ok (.iload 7, 2) := by decide +kernel
theorem dX2_casesThrough_52 : decode cX2_casesThrough 52 = .ok (.aload_n 1, 1) := by decide +kernel
theorem dX2_casesThrough_53 : decode cX2_casesThrough 53 = .ok (.getfield 30, 3) := by decide +kernel
theorem dX2_casesThrough_56 : decode cX2_casesThrough 56 = .ok (.invokestatic 68, 3) := by decide +kernel
theorem dX2_casesThrough_59 : decode cX2_casesThrough 59 = .ok (.ifCond .ne 30, 3) := by decide +kernel
theorem dX2_casesThrough_62 : decode cX2_casesThrough 62 = .ok (.aload_n 0, 1) := by decide +kernel
theorem dX2_casesThrough_63 : decode cX2_casesThrough 63 = .ok (.getfield 18, 3) := by decide +kernel
theorem dX2_casesThrough_66 : decode cX2_casesThrough 66 = .ok (.iload 7, 2) := by decide +kernel
theorem dX2_casesThrough_68 : decode cX2_casesThrough 68 = .ok (.aload_n 0, 1) := by decide +kernel
theorem dX2_casesThrough_69 : decode cX2_casesThrough 69 = .ok (.iload 7, 2) := by decide +kernel
theorem dX2_casesThrough_71 : decode cX2_casesThrough 71 = .ok (.iload_n 2, 1) := by decide +kernel
theorem dX2_casesThrough_72 : decode cX2_casesThrough 72 = .ok (.invokevirtual 101, 3) := by decide +kernel
theorem dX2_casesThrough_75 : decode cX2_casesThrough 75 = .ok (.lastore, 1) := by decide +kernel
theorem dX2_casesThrough_76 : decode cX2_casesThrough 76 = .ok (.lload 5, 2) := by decide +kernel
theorem dX2_casesThrough_78 : decode cX2_casesThrough 78 = .ok (.aload_n 0, 1) := by decide +kernel
theorem dX2_casesThrough_79 : decode cX2_casesThrough 79 = .ok (.iload 7, 2) := by decide +kernel
theorem dX2_casesThrough_81 : decode cX2_casesThrough 81 = .ok (.iload 4, 2) := by decide +kernel
theorem dX2_casesThrough_83 : decode cX2_casesThrough 83 = .ok (.invokevirtual 105, 3) := by decide +kernel
theorem dX2_casesThrough_86 : decode cX2_casesThrough 86 = .ok (.lsub, 1) := by decide +kernel
theorem dX2_casesThrough_87 : decode cX2_casesThrough 87 = .ok (.lstore 5, 2) := by decide +kernel
theorem dX2_casesThrough_89 : decode cX2_casesThrough 89 = .ok (.iinc 7 1, 3) := by decide +kernel
theorem dX2_casesThrough_92 : decode cX2_casesThrough 92 = .ok (.goto (-60), 3) := by decide +kernel
theorem dX2_casesThrough_95 : decode cX2_casesThrough 95 = .ok (.lload 5, 2) := by decide +kernel
theorem dX2_casesThrough_97 : decode cX2_casesThrough 97 = .ok (.lreturn, 1) := by decide +kernel
theorem dX2_casesJoined_0 : decode cX2_casesJoined 0 = .ok (.aload_n 0, 1) := by decide +kernel
theorem dX2_casesJoined_1 : decode cX2_casesJoined 1 = .ok (.getfield 22, 3) := by decide +kernel
theorem dX2_casesJoined_4 : decode cX2_casesJoined 4 = .ok (.aload_n 0, 1) := by decide +kernel
theorem dX2_casesJoined_5 : decode cX2_casesJoined 5 = .ok (.getfield 15, 3) := by decide +kernel
theorem dX2_casesJoined_8 : decode cX2_casesJoined 8 = .ok (.iload_n 1, 1) := by decide +kernel
theorem dX2_casesJoined_9 : decode cX2_casesJoined 9 = .ok (.iaload, 1) := by decide +kernel
theorem dX2_casesJoined_10 : decode cX2_casesJoined 10 = .ok (.laload, 1) := by decide +kernel
theorem dX2_casesJoined_11 : decode cX2_casesJoined 11 = .ok (.lstore_n 3, 1) := by decide +kernel
theorem dX2_casesJoined_12 : decode cX2_casesJoined 12 = .ok (.iload_n 1, 1) := by decide +kernel
theorem dX2_casesJoined_13 : decode cX2_casesJoined 13 = .ok (.istore 5, 2) := by decide +kernel
theorem dX2_casesJoined_15 : decode cX2_casesJoined 15 = .ok (.iconst 0, 1) := by decide +kernel
theorem dX2_casesJoined_16 : decode cX2_casesJoined 16 = .ok (.istore 6, 2) := by decide +kernel
theorem dX2_casesJoined_18 : decode cX2_casesJoined 18 = .ok (.iload 6, 2) := by decide +kernel
theorem dX2_casesJoined_20 : decode cX2_casesJoined 20 = .ok (.sipush 256, 3) := by decide +kernel
theorem dX2_casesJoined_23 : decode cX2_casesJoined 23 = .ok (.if_icmp .ge 42, 3) := by decide +kernel
theorem dX2_casesJoined_26 : decode cX2_casesJoined 26 = .ok (.iload 5, 2) := by decide +kernel
theorem dX2_casesJoined_28 : decode cX2_casesJoined 28 = .ok (.ifCond .eq 37, 3) := by decide +kernel
theorem dX2_casesJoined_31 : decode cX2_casesJoined 31 = .ok (.iload 5, 2) := by decide +kernel
theorem dX2_casesJoined_33 : decode cX2_casesJoined 33 = .ok (.iconst 1, 1) := by decide +kernel
theorem dX2_casesJoined_34 : decode cX2_casesJoined 34 = .ok (.isub, 1) := by decide +kernel
theorem dX2_casesJoined_35 : decode cX2_casesJoined 35 = .ok (.iload_n 1, 1) := by decide +kernel
theorem dX2_casesJoined_36 : decode cX2_casesJoined 36 = .ok (.iand, 1) := by decide +kernel
theorem dX2_casesJoined_37 : decode cX2_casesJoined 37 = .ok (.istore 5, 2) := by decide +kernel
theorem dX2_casesJoined_39 : decode cX2_casesJoined 39 = .ok (.iload 5, 2) := by decide +kernel
theorem dX2_casesJoined_41 : decode cX2_casesJoined 41 = .ok (.iload_n 2, 1) := by decide +kernel
theorem dX2_casesJoined_42 : decode cX2_casesJoined 42 = .ok (.invokestatic 68, 3) := by decide +kernel
theorem dX2_casesJoined_45 : decode cX2_casesJoined 45 = .ok (.iconst 1, 1) := by decide +kernel
theorem dX2_casesJoined_46 : decode cX2_casesJoined 46 = .ok (.if_icmp .ne 13, 3) := by decide +kernel
theorem dX2_casesJoined_49 : decode cX2_casesJoined 49 = .ok (.lload_n 3, 1) := by decide +kernel
theorem dX2_casesJoined_50 : decode cX2_casesJoined 50 = .ok (.aload_n 0, 1) := by decide +kernel
theorem dX2_casesJoined_51 : decode cX2_casesJoined 51 = .ok (.iload 5, 2) := by decide +kernel
theorem dX2_casesJoined_53 : decode cX2_casesJoined 53 = .ok (.iload_n 1, 1) := by decide +kernel
theorem dX2_casesJoined_54 : decode cX2_casesJoined 54 = .ok (.invokevirtual 105, 3) := by decide +kernel
theorem dX2_casesJoined_57 : decode cX2_casesJoined 57 = .ok (.lsub, 1) := by decide +kernel
theorem dX2_casesJoined_58 : decode cX2_casesJoined 58 = .ok (.lstore_n 3, 1) := by decide +kernel
theorem dX2_casesJoined_59 : decode cX2_casesJoined 59 = .ok (.iinc 6 1, 3) := by decide +kernel
theorem dX2_casesJoined_62 : decode cX2_casesJoined 62 = .ok (.goto (-44), 3) := by decide +kernel
theorem dX2_casesJoined_65 : decode cX2_casesJoined 65 = .ok (.lload_n 3, 1) := by decide +kernel
theorem dX2_casesJoined_66 : decode cX2_casesJoined 66 = .ok (.lreturn, 1) := by decide +kernel
theorem dX2_casesParted_0 : decode cX2_casesParted 0 = .ok (.iload_n 2, 1) := by decide +kernel
theorem dX2_casesParted_1 : decode cX2_casesParted 1 = .ok (.iload_n 1, 1) := by decide +kernel
theorem dX2_casesParted_2 : decode cX2_casesParted 2 = .ok (.iconst (-1), 1) := by decide +kernel
theorem dX2_casesParted_3 : decode cX2_casesParted 3 = .ok (.ixor, 1) := by decide +kernel
theorem dX2_casesParted_4 : decode cX2_casesParted 4 = .ok (.iand, 1) := by decide +kernel
theorem dX2_casesParted_5 : decode cX2_casesParted 5 = .ok (.istore_n 3, 1) := by decide +kernel
theorem dX2_casesParted_6 : decode cX2_casesParted 6 = .ok (.aload_n 0, 1) := by decide +kernel
theorem dX2_casesParted_7 : decode cX2_casesParted 7 = .ok (.getfield 15, 3) := by decide +kernel
theorem dX2_casesParted_10 : decode cX2_casesParted 10 = .ok (.iload_n 2, 1) := by decide +kernel
theorem dX2_casesParted_11 : decode cX2_casesParted 11 = .ok (.iaload, 1) := by decide +kernel
theorem dX2_casesParted_12 : decode cX2_casesParted 12 = .ok (.aload_n 0, 1) := by decide +kernel
theorem dX2_casesParted_13 : decode cX2_casesParted 13 = .ok (.getfield 15, 3) := by decide +kernel
theorem dX2_casesParted_16 : decode cX2_casesParted 16 = .ok (.iload_n 1, 1) := by decide +kernel
theorem dX2_casesParted_17 : decode cX2_casesParted 17 = .ok (.iaload, 1) := by decide +kernel
theorem dX2_casesParted_18 : decode cX2_casesParted 18 = .ok (.isub, 1) := by decide +kernel
theorem dX2_casesParted_19 : decode cX2_casesParted 19 = .ok (.aload_n 0, 1) := by decide +kernel
theorem dX2_casesParted_20 : decode cX2_casesParted 20 = .ok (.getfield 15, 3) := by decide +kernel
theorem dX2_casesParted_23 : decode cX2_casesParted 23 = .ok (.iload_n 3, 1) := by decide +kernel
theorem dX2_casesParted_24 : decode cX2_casesParted 24 = .ok (.iaload, 1) := by decide +kernel
theorem dX2_casesParted_25 : decode cX2_casesParted 25 = .ok (.isub, 1) := by decide +kernel
theorem dX2_casesParted_26 : decode cX2_casesParted 26 = .ok (.istore 4, 2) := by decide +kernel
theorem dX2_casesParted_28 : decode cX2_casesParted 28 = .ok (.aload_n 0, 1) := by decide +kernel
theorem dX2_casesParted_29 : decode cX2_casesParted 29 = .ok (.getfield 18, 3) := by decide +kernel
theorem dX2_casesParted_32 : decode cX2_casesParted 32 = .ok (.iload_n 1, 1) := by decide +kernel
theorem dX2_casesParted_33 : decode cX2_casesParted 33 = .ok (.laload, 1) := by decide +kernel
theorem dX2_casesParted_34 : decode cX2_casesParted 34 = .ok (.aload_n 0, 1) := by decide +kernel
theorem dX2_casesParted_35 : decode cX2_casesParted 35 = .ok (.getfield 25, 3) := by decide +kernel
theorem dX2_casesParted_38 : decode cX2_casesParted 38 = .ok (.iload 4, 2) := by decide +kernel
theorem dX2_casesParted_40 : decode cX2_casesParted 40 = .ok (.laload, 1) := by decide +kernel
theorem dX2_casesParted_41 : decode cX2_casesParted 41 = .ok (.lmul, 1) := by decide +kernel
theorem dX2_casesParted_42 : decode cX2_casesParted 42 = .ok (.aload_n 0, 1) := by decide +kernel
theorem dX2_casesParted_43 : decode cX2_casesParted 43 = .ok (.getfield 22, 3) := by decide +kernel
theorem dX2_casesParted_46 : decode cX2_casesParted 46 = .ok (.aload_n 0, 1) := by decide +kernel
theorem dX2_casesParted_47 : decode cX2_casesParted 47 = .ok (.getfield 15, 3) := by decide +kernel
theorem dX2_casesParted_50 : decode cX2_casesParted 50 = .ok (.iload_n 3, 1) := by decide +kernel
theorem dX2_casesParted_51 : decode cX2_casesParted 51 = .ok (.iaload, 1) := by decide +kernel
theorem dX2_casesParted_52 : decode cX2_casesParted 52 = .ok (.laload, 1) := by decide +kernel
theorem dX2_casesParted_53 : decode cX2_casesParted 53 = .ok (.lmul, 1) := by decide +kernel
theorem dX2_casesParted_54 : decode cX2_casesParted 54 = .ok (.lreturn, 1) := by decide +kernel
theorem dX2_countWithin_0 : decode cX2_countWithin 0 = .ok (.aload_n 1, 1) := by decide +kernel
theorem dX2_countWithin_1 : decode cX2_countWithin 1 = .ok (.invokevirtual 36, 3) := by decide +kernel
theorem dX2_countWithin_4 : decode cX2_countWithin 4 = .ok (.istore_n 2, 1) := by decide +kernel
theorem dX2_countWithin_5 : decode cX2_countWithin 5 = .ok (.iconst 0, 1) := by decide +kernel
theorem dX2_countWithin_6 : decode cX2_countWithin 6 = .ok (.istore_n 3, 1) := by decide +kernel
theorem dX2_countWithin_7 : decode cX2_countWithin 7 = .ok (.iload_n 3, 1) := by decide +kernel
theorem dX2_countWithin_8 : decode cX2_countWithin 8 = .ok (.sipush 256, 3) := by decide +kernel
theorem dX2_countWithin_11 : decode cX2_countWithin 11 = .ok (.if_icmp .ge 73, 3) := by decide +kernel
theorem dX2_countWithin_14 : decode cX2_countWithin 14 = .ok (.aload_n 0, 1) := by decide +kernel
theorem dX2_countWithin_15 : decode cX2_countWithin 15 = .ok (.getfield 15, 3) := by decide +kernel
theorem dX2_countWithin_18 : decode cX2_countWithin 18 = .ok (.iload_n 3, 1) := by decide +kernel
theorem dX2_countWithin_19 : decode cX2_countWithin 19 = .ok (.iconst 0, 1) := by decide +kernel
theorem dX2_countWithin_20 : decode cX2_countWithin 20 = .ok (.iastore, 1) := by decide +kernel
theorem dX2_countWithin_21 : decode cX2_countWithin 21 = .ok (.iconst 0, 1) := by decide +kernel
theorem dX2_countWithin_22 : decode cX2_countWithin 22 = .ok (.istore 4, 2) := by decide +kernel
theorem dX2_countWithin_24 : decode cX2_countWithin 24 = .ok (.iload 4, 2) := by decide +kernel
theorem dX2_countWithin_26 : decode cX2_countWithin 26 = .ok (.aload_n 1, 1) := by decide +kernel
theorem dX2_countWithin_27 : decode cX2_countWithin 27 = .ok (.getfield 65, 3) := by decide +kernel
theorem dX2_countWithin_30 : decode cX2_countWithin 30 = .ok (.if_icmp .ge 48, 3) := by decide +kernel
theorem dX2_countWithin_33 : decode cX2_countWithin 33 = .ok (.aload_n 0, 1) := by decide +kernel
theorem dX2_countWithin_34 : decode cX2_countWithin 34 = .ok (.getfield 15, 3) := by decide +kernel
theorem dX2_countWithin_37 : decode cX2_countWithin 37 = .ok (.iload_n 3, 1) := by decide +kernel
theorem dX2_countWithin_38 : decode cX2_countWithin 38 = .ok (.dup2, 1) := by decide +kernel
theorem dX2_countWithin_39 : decode cX2_countWithin 39 = .ok (.iaload, 1) := by decide +kernel
theorem dX2_countWithin_40 : decode cX2_countWithin 40 = .ok (.iload_n 2, 1) := by decide +kernel
theorem dX2_countWithin_41 : decode cX2_countWithin 41 = .ok (.iload 4, 2) := by decide +kernel
theorem dX2_countWithin_43 : decode cX2_countWithin 43 = .ok (.invokestatic 68, 3) := by decide +kernel
theorem dX2_countWithin_46 : decode cX2_countWithin 46 = .ok (.iload_n 3, 1) := by decide +kernel
theorem dX2_countWithin_47 : decode cX2_countWithin 47 = .ok (.aload_n 1, 1) := by decide +kernel
theorem dX2_countWithin_48 : decode cX2_countWithin 48 = .ok (.getfield 72, 3) := by decide +kernel
theorem dX2_countWithin_51 : decode cX2_countWithin 51 = .ok (.iload 4, 2) := by decide +kernel
theorem dX2_countWithin_53 : decode cX2_countWithin 53 = .ok (.iaload, 1) := by decide +kernel
theorem dX2_countWithin_54 : decode cX2_countWithin 54 = .ok (.invokestatic 68, 3) := by decide +kernel
theorem dX2_countWithin_57 : decode cX2_countWithin 57 = .ok (.iand, 1) := by decide +kernel
theorem dX2_countWithin_58 : decode cX2_countWithin 58 = .ok (.iload_n 3, 1) := by decide +kernel
theorem dX2_countWithin_59 : decode cX2_countWithin 59 = .ok (.aload_n 1, 1) := by decide +kernel
theorem dX2_countWithin_60 : decode cX2_countWithin 60 = .ok (.getfield 75, 3) := by decide +kernel
theorem dX2_countWithin_63 : decode cX2_countWithin 63 = .ok (.iload 4, 2) := by decide +kernel
theorem dX2_countWithin_65 : decode cX2_countWithin 65 = .ok (.iaload, 1) := by decide +kernel
theorem dX2_countWithin_66 : decode cX2_countWithin 66 = .ok (.invokestatic 68, 3) := by decide +kernel
theorem dX2_countWithin_69 : decode cX2_countWithin 69 = .ok (.iand, 1) := by decide +kernel
theorem dX2_countWithin_70 : decode cX2_countWithin 70 = .ok (.iadd, 1) := by decide +kernel
theorem dX2_countWithin_71 : decode cX2_countWithin 71 = .ok (.iastore, 1) := by decide +kernel
theorem dX2_countWithin_72 : decode cX2_countWithin 72 = .ok (.iinc 4 1, 3) := by decide +kernel
theorem dX2_countWithin_75 : decode cX2_countWithin 75 = .ok (.goto (-51), 3) := by decide +kernel
theorem dX2_countWithin_78 : decode cX2_countWithin 78 = .ok (.iinc 3 1, 3) := by decide +kernel
theorem dX2_countWithin_81 : decode cX2_countWithin 81 = .ok (.goto (-74), 3) := by decide +kernel
theorem dX2_countWithin_84 : decode cX2_countWithin 84 = .ok (.return_, 1) := by decide +kernel
theorem dX2_fillPowers_0 : decode cX2_fillPowers 0 = .ok (.lconst 1, 1) := by decide +kernel
theorem dX2_fillPowers_1 : decode cX2_fillPowers 1 = .ok (.lstore_n 2, 1) := by decide +kernel
theorem dX2_fillPowers_2 : decode cX2_fillPowers 2 = .ok (.iconst 0, 1) := by decide +kernel
theorem dX2_fillPowers_3 : decode cX2_fillPowers 3 = .ok (.istore 4, 2) := by decide +kernel
theorem dX2_fillPowers_5 : decode cX2_fillPowers 5 = .ok (.iload 4, 2) := by decide +kernel
theorem dX2_fillPowers_7 : decode cX2_fillPowers 7 = .ok (.bipush 12, 2) := by decide +kernel
theorem dX2_fillPowers_9 : decode cX2_fillPowers 9 = .ok (.if_icmp .gt 22, 3) := by decide +kernel
theorem dX2_fillPowers_12 : decode cX2_fillPowers 12 = .ok (.aload_n 0, 1) := by decide +kernel
theorem dX2_fillPowers_13 : decode cX2_fillPowers 13 = .ok (.getfield 25, 3) := by decide +kernel
theorem dX2_fillPowers_16 : decode cX2_fillPowers 16 = .ok (.iload 4, 2) := by decide +kernel
theorem dX2_fillPowers_18 : decode cX2_fillPowers 18 = .ok (.lload_n 2, 1) := by decide +kernel
theorem dX2_fillPowers_19 : decode cX2_fillPowers 19 = .ok (.lastore, 1) := by decide +kernel
theorem dX2_fillPowers_20 : decode cX2_fillPowers 20 = .ok (.lload_n 2, 1) := by decide +kernel
theorem dX2_fillPowers_21 : decode cX2_fillPowers 21 = .ok (.iload_n 1, 1) := by decide +kernel
theorem dX2_fillPowers_22 : decode cX2_fillPowers 22 = .ok (.i2l, 1) := by decide +kernel
theorem dX2_fillPowers_23 : decode cX2_fillPowers 23 = .ok (.lmul, 1) := by decide +kernel
theorem dX2_fillPowers_24 : decode cX2_fillPowers 24 = .ok (.lstore_n 2, 1) := by decide +kernel
theorem dX2_fillPowers_25 : decode cX2_fillPowers 25 = .ok (.iinc 4 1, 3) := by decide +kernel
theorem dX2_fillPowers_28 : decode cX2_fillPowers 28 = .ok (.goto (-23), 3) := by decide +kernel
theorem dX2_fillPowers_31 : decode cX2_fillPowers 31 = .ok (.return_, 1) := by decide +kernel
theorem dX3_init_0 : decode cX3_init 0 = .ok (.aload_n 0, 1) := by decide +kernel
theorem dX3_init_1 : decode cX3_init 1 = .ok (.invokespecial 1, 3) := by decide +kernel
theorem dX3_init_4 : decode cX3_init 4 = .ok (.return_, 1) := by decide +kernel
theorem dX3_sees_0 : decode cX3_sees 0 = .ok (.aload_n 1, 1) := by decide +kernel
theorem dX3_sees_1 : decode cX3_sees 1 = .ok (.iload_n 2, 1) := by decide +kernel
theorem dX3_sees_2 : decode cX3_sees 2 = .ok (.invokevirtual 7, 3) := by decide +kernel
theorem dX3_sees_5 : decode cX3_sees 5 = .ok (.aload_n 1, 1) := by decide +kernel
theorem dX3_sees_6 : decode cX3_sees 6 = .ok (.getfield 13, 3) := by decide +kernel
theorem dX3_sees_9 : decode cX3_sees 9 = .ok (.iand, 1) := by decide +kernel
theorem dX3_sees_10 : decode cX3_sees 10 = .ok (.ifCond .eq 7, 3) := by decide +kernel
theorem dX3_sees_13 : decode cX3_sees 13 = .ok (.iconst 1, 1) := by decide +kernel
theorem dX3_sees_14 : decode cX3_sees 14 = .ok (.goto 4, 3) := by decide +kernel
theorem dX3_sees_17 : decode cX3_sees 17 = .ok (.iconst 0, 1) := by decide +kernel
theorem dX3_sees_18 : decode cX3_sees 18 = .ok (.istore 4, 2) := by decide +kernel
theorem dX3_sees_20 : decode cX3_sees 20 = .ok (.iload 4, 2) := by decide +kernel
theorem dX3_sees_22 : decode cX3_sees 22 = .ok (.ifCond .eq 7, 3) := by decide +kernel
theorem dX3_sees_25 : decode cX3_sees 25 = .ok (.iconst 0, 1) := by decide +kernel
theorem dX3_sees_26 : decode cX3_sees 26 = .ok (.goto 10, 3) := by decide +kernel
theorem dX3_sees_29 : decode cX3_sees 29 = .ok (.aload_n 0, 1) := by decide +kernel
theorem dX3_sees_30 : decode cX3_sees 30 = .ok (.aload_n 1, 1) := by decide +kernel
theorem dX3_sees_31 : decode cX3_sees 31 = .ok (.iload_n 2, 1) := by decide +kernel
theorem dX3_sees_32 : decode cX3_sees 32 = .ok (.aload_n 3, 1) := by decide +kernel
theorem dX3_sees_33 : decode cX3_sees 33 = .ok (.invokespecial 17, 3) := by decide +kernel
theorem dX3_sees_36 : decode cX3_sees 36 = .ok (.ireturn, 1) := by decide +kernel
theorem dX3_mark_0 : decode cX3_mark 0 = .ok (.aload_n 1, 1) := by decide +kernel
theorem dX3_mark_1 : decode cX3_mark 1 = .ok (.bipush 22, 2) := by decide +kernel
theorem dX3_mark_3 : decode cX3_mark 3 = .ok (.invokevirtual 21, 3) := by decide +kernel
theorem dX3_mark_6 : decode cX3_mark 6 = .ok (.aload_n 0, 1) := by decide +kernel
theorem dX3_mark_7 : decode cX3_mark 7 = .ok (.aload_n 1, 1) := by decide +kernel
theorem dX3_mark_8 : decode cX3_mark 8 = .ok (.invokespecial 27, 3) := by decide +kernel
theorem dX3_mark_11 : decode cX3_mark 11 = .ok (.sipush 1000, 3) := by decide +kernel
theorem dX3_mark_14 : decode cX3_mark 14 = .ok (.isub, 1) := by decide +kernel
theorem dX3_mark_15 : decode cX3_mark 15 = .ok (.ireturn, 1) := by decide +kernel
theorem dX4_init_0 : decode cX4_init 0 = .ok (.aload_n 0, 1) := by decide +kernel
theorem dX4_init_1 : decode cX4_init 1 = .ok (.invokespecial 1, 3) := by decide +kernel
theorem dX4_init_4 : decode cX4_init 4 = .ok (.return_, 1) := by decide +kernel
theorem dX4_sees_0 : decode cX4_sees 0 = .ok (.aload_n 3, 1) := by decide +kernel
theorem dX4_sees_1 : decode cX4_sees 1 = .ok (.getfield 7, 3) := by decide +kernel
theorem dX4_sees_4 : decode cX4_sees 4 = .ok (.aload_n 1, 1) := by decide +kernel
theorem dX4_sees_5 : decode cX4_sees 5 = .ok (.iload_n 2, 1) := by decide +kernel
theorem dX4_sees_6 : decode cX4_sees 6 = .ok (.invokevirtual 13, 3) := by decide +kernel
theorem dX4_sees_9 : decode cX4_sees 9 = .ok (.iand, 1) := by decide +kernel
theorem dX4_sees_10 : decode cX4_sees 10 = .ok (.ireturn, 1) := by decide +kernel
theorem dX4_size_0 : decode cX4_size 0 = .ok (.aload_n 1, 1) := by decide +kernel
theorem dX4_size_1 : decode cX4_size 1 = .ok (.bipush 11, 2) := by decide +kernel
theorem dX4_size_3 : decode cX4_size 3 = .ok (.invokevirtual 19, 3) := by decide +kernel
theorem dX4_size_6 : decode cX4_size 6 = .ok (.aload_n 0, 1) := by decide +kernel
theorem dX4_size_7 : decode cX4_size 7 = .ok (.aload_n 1, 1) := by decide +kernel
theorem dX4_size_8 : decode cX4_size 8 = .ok (.invokespecial 25, 3) := by decide +kernel
theorem dX4_size_11 : decode cX4_size 11 = .ok (.istore_n 2, 1) := by decide +kernel
theorem dX4_size_12 : decode cX4_size 12 = .ok (.iload_n 2, 1) := by decide +kernel
theorem dX4_size_13 : decode cX4_size 13 = .ok (.aload_n 0, 1) := by decide +kernel
theorem dX4_size_14 : decode cX4_size 14 = .ok (.aload_n 1, 1) := by decide +kernel
theorem dX4_size_15 : decode cX4_size 15 = .ok (.invokevirtual 29, 3) := by decide +kernel
theorem dX4_size_18 : decode cX4_size 18 = .ok (.iadd, 1) := by decide +kernel
theorem dX4_size_19 : decode cX4_size 19 = .ok (.ireturn, 1) := by decide +kernel
theorem dX4_mark_0 : decode cX4_mark 0 = .ok (.aload_n 1, 1) := by decide +kernel
theorem dX4_mark_1 : decode cX4_mark 1 = .ok (.bipush 21, 2) := by decide +kernel
theorem dX4_mark_3 : decode cX4_mark 3 = .ok (.invokevirtual 19, 3) := by decide +kernel
theorem dX4_mark_6 : decode cX4_mark 6 = .ok (.aload_n 0, 1) := by decide +kernel
theorem dX4_mark_7 : decode cX4_mark 7 = .ok (.aload_n 1, 1) := by decide +kernel
theorem dX4_mark_8 : decode cX4_mark 8 = .ok (.invokespecial 34, 3) := by decide +kernel
theorem dX4_mark_11 : decode cX4_mark 11 = .ok (.aload_n 1, 1) := by decide +kernel
theorem dX4_mark_12 : decode cX4_mark 12 = .ok (.getfield 35, 3) := by decide +kernel
theorem dX4_mark_15 : decode cX4_mark 15 = .ok (.iadd, 1) := by decide +kernel
theorem dX4_mark_16 : decode cX4_mark 16 = .ok (.ireturn, 1) := by decide +kernel
theorem dX5_init_0 : decode cX5_init 0 = .ok (.aload_n 0, 1) := by decide +kernel
theorem dX5_init_1 : decode cX5_init 1 = .ok (.invokespecial 3, 3) := by decide +kernel
theorem dX5_init_4 : decode cX5_init 4 = .ok (.aload_n 0, 1) := by decide +kernel
theorem dX5_init_5 : decode cX5_init 5 = .ok (.aload_n 1, 1) := by decide +kernel
theorem dX5_init_6 : decode cX5_init 6 = .ok (.putfield 9, 3) := by decide +kernel
theorem dX5_init_9 : decode cX5_init 9 = .ok (.aload_n 0, 1) := by decide +kernel
theorem dX5_init_10 : decode cX5_init 10 = .ok (.bipush 12, 2) := by decide +kernel
theorem dX5_init_12 : decode cX5_init 12 = .ok (.newarray .int, 2) := by decide +kernel
theorem dX5_init_14 : decode cX5_init 14 = .ok (.putfield 15, 3) := by decide +kernel
theorem dX5_init_17 : decode cX5_init 17 = .ok (.aload_n 0, 1) := by decide +kernel
theorem dX5_init_18 : decode cX5_init 18 = .ok (.bipush 12, 2) := by decide +kernel
theorem dX5_init_20 : decode cX5_init 20 = .ok (.newarray .int, 2) := by decide +kernel
theorem dX5_init_22 : decode cX5_init 22 = .ok (.putfield 19, 3) := by decide +kernel
theorem dX5_init_25 : decode cX5_init 25 = .ok (.aload_n 0, 1) := by decide +kernel
theorem dX5_init_26 : decode cX5_init 26 = .ok (.bipush 12, 2) := by decide +kernel
theorem dX5_init_28 : decode cX5_init 28 = .ok (.newarray .int, 2) := by decide +kernel
theorem dX5_init_30 : decode cX5_init 30 = .ok (.putfield 22, 3) := by decide +kernel
theorem dX5_init_33 : decode cX5_init 33 = .ok (.aload_n 0, 1) := by decide +kernel
theorem dX5_init_34 : decode cX5_init 34 = .ok (.bipush 6, 2) := by decide +kernel
theorem dX5_init_36 : decode cX5_init 36 = .ok (.newarray .int, 2) := by decide +kernel
theorem dX5_init_38 : decode cX5_init 38 = .ok (.putfield 25, 3) := by decide +kernel
theorem dX5_init_41 : decode cX5_init 41 = .ok (.aload_n 0, 1) := by decide +kernel
theorem dX5_init_42 : decode cX5_init 42 = .ok (.bipush 6, 2) := by decide +kernel
theorem dX5_init_44 : decode cX5_init 44 = .ok (.newarray .int, 2) := by decide +kernel
theorem dX5_init_46 : decode cX5_init 46 = .ok (.putfield 28, 3) := by decide +kernel
theorem dX5_init_49 : decode cX5_init 49 = .ok (.aload_n 0, 1) := by decide +kernel
theorem dX5_init_50 : decode cX5_init 50 = .ok (.bipush 6, 2) := by decide +kernel
theorem dX5_init_52 : decode cX5_init 52 = .ok (.newarray .int, 2) := by decide +kernel
theorem dX5_init_54 : decode cX5_init 54 = .ok (.putfield 31, 3) := by decide +kernel
theorem dX5_init_57 : decode cX5_init 57 = .ok (.aload_n 0, 1) := by decide +kernel
theorem dX5_init_58 : decode cX5_init 58 = .ok (.bipush 6, 2) := by decide +kernel
theorem dX5_init_60 : decode cX5_init 60 = .ok (.newarray .int, 2) := by decide +kernel
theorem dX5_init_62 : decode cX5_init 62 = .ok (.putfield 34, 3) := by decide +kernel
theorem dX5_init_65 : decode cX5_init 65 = .ok (.return_, 1) := by decide +kernel
theorem dX5_clear_0 : decode cX5_clear 0 = .ok (.aload_n 0, 1) := by decide +kernel
theorem dX5_clear_1 : decode cX5_clear 1 = .ok (.iconst 0, 1) := by decide +kernel
theorem dX5_clear_2 : decode cX5_clear 2 = .ok (.putfield 37, 3) := by decide +kernel
theorem dX5_clear_5 : decode cX5_clear 5 = .ok (.aload_n 0, 1) := by decide +kernel
theorem dX5_clear_6 : decode cX5_clear 6 = .ok (.iconst 0, 1) := by decide +kernel
theorem dX5_clear_7 : decode cX5_clear 7 = .ok (.putfield 41, 3) := by decide +kernel
theorem dX5_clear_10 : decode cX5_clear 10 = .ok (.aload_n 0, 1) := by decide +kernel
theorem dX5_clear_11 : decode cX5_clear 11 = .ok (.iconst 0, 1) := by decide +kernel
theorem dX5_clear_12 : decode cX5_clear 12 = .ok (.putfield 44, 3) := by decide +kernel
theorem dX5_clear_15 : decode cX5_clear 15 = .ok (.aload_n 0, 1) := by decide +kernel
theorem dX5_clear_16 : decode cX5_clear 16 = .ok (.iconst 0, 1) := by decide +kernel
theorem dX5_clear_17 : decode cX5_clear 17 = .ok (.putfield 47, 3) := by decide +kernel
theorem dX5_clear_20 : decode cX5_clear 20 = .ok (.return_, 1) := by decide +kernel
theorem dX5_become_0 : decode cX5_become 0 = .ok (.aload_n 0, 1) := by decide +kernel
theorem dX5_become_1 : decode cX5_become 1 = .ok (.aload_n 1, 1) := by decide +kernel
theorem dX5_become_2 : decode cX5_become 2 = .ok (.getfield 50, 3) := by decide +kernel
theorem dX5_become_5 : decode cX5_become 5 = .ok (.putfield 50, 3) := by decide +kernel
theorem dX5_become_8 : decode cX5_become 8 = .ok (.aload_n 0, 1) := by decide +kernel
theorem dX5_become_9 : decode cX5_become 9 = .ok (.aload_n 1, 1) := by decide +kernel
theorem dX5_become_10 : decode cX5_become 10 = .ok (.getfield 54, 3) := by decide +kernel
theorem dX5_become_13 : decode cX5_become 13 = .ok (.putfield 54, 3) := by decide +kernel
theorem dX5_become_16 : decode cX5_become 16 = .ok (.aload_n 0, 1) := by decide +kernel
theorem dX5_become_17 : decode cX5_become 17 = .ok (.aload_n 1, 1) := by decide +kernel
theorem dX5_become_18 : decode cX5_become 18 = .ok (.getfield 57, 3) := by decide +kernel
theorem dX5_become_21 : decode cX5_become 21 = .ok (.putfield 57, 3) := by decide +kernel
theorem dX5_become_24 : decode cX5_become 24 = .ok (.aload_n 0, 1) := by decide +kernel
theorem dX5_become_25 : decode cX5_become 25 = .ok (.aload_n 1, 1) := by decide +kernel
theorem dX5_become_26 : decode cX5_become 26 = .ok (.getfield 37, 3) := by decide +kernel
theorem dX5_become_29 : decode cX5_become 29 = .ok (.putfield 37, 3) := by decide +kernel
theorem dX5_become_32 : decode cX5_become 32 = .ok (.aload_n 0, 1) := by decide +kernel
theorem dX5_become_33 : decode cX5_become 33 = .ok (.aload_n 1, 1) := by decide +kernel
theorem dX5_become_34 : decode cX5_become 34 = .ok (.getfield 41, 3) := by decide +kernel
theorem dX5_become_37 : decode cX5_become 37 = .ok (.putfield 41, 3) := by decide +kernel
theorem dX5_become_40 : decode cX5_become 40 = .ok (.aload_n 0, 1) := by decide +kernel
theorem dX5_become_41 : decode cX5_become 41 = .ok (.aload_n 1, 1) := by decide +kernel
theorem dX5_become_42 : decode cX5_become 42 = .ok (.getfield 44, 3) := by decide +kernel
theorem dX5_become_45 : decode cX5_become 45 = .ok (.putfield 44, 3) := by decide +kernel
theorem dX5_become_48 : decode cX5_become 48 = .ok (.aload_n 0, 1) := by decide +kernel
theorem dX5_become_49 : decode cX5_become 49 = .ok (.aload_n 1, 1) := by decide +kernel
theorem dX5_become_50 : decode cX5_become 50 = .ok (.getfield 47, 3) := by decide +kernel
theorem dX5_become_53 : decode cX5_become 53 = .ok (.putfield 47, 3) := by decide +kernel
theorem dX5_become_56 : decode cX5_become 56 = .ok (.aload_n 1, 1) := by decide +kernel
theorem dX5_become_57 : decode cX5_become 57 = .ok (.getfield 15, 3) := by decide +kernel
theorem dX5_become_60 : decode cX5_become 60 = .ok (.iconst 0, 1) := by decide +kernel
theorem dX5_become_61 : decode cX5_become 61 = .ok (.aload_n 0, 1) := by decide +kernel
theorem dX5_become_62 : decode cX5_become 62 = .ok (.getfield 15, 3) := by decide +kernel
theorem dX5_become_65 : decode cX5_become 65 = .ok (.iconst 0, 1) := by decide +kernel
theorem dX5_become_66 : decode cX5_become 66 = .ok (.bipush 12, 2) := by decide +kernel
theorem dX5_become_68 : decode cX5_become 68 = .ok (.invokestatic 60, 3) := by decide +kernel
theorem dX5_become_71 : decode cX5_become 71 = .ok (.aload_n 1, 1) := by decide +kernel
theorem dX5_become_72 : decode cX5_become 72 = .ok (.getfield 19, 3) := by decide +kernel
theorem dX5_become_75 : decode cX5_become 75 = .ok (.iconst 0, 1) := by decide +kernel
theorem dX5_become_76 : decode cX5_become 76 = .ok (.aload_n 0, 1) := by decide +kernel
theorem dX5_become_77 : decode cX5_become 77 = .ok (.getfield 19, 3) := by decide +kernel
theorem dX5_become_80 : decode cX5_become 80 = .ok (.iconst 0, 1) := by decide +kernel
theorem dX5_become_81 : decode cX5_become 81 = .ok (.bipush 12, 2) := by decide +kernel
theorem dX5_become_83 : decode cX5_become 83 = .ok (.invokestatic 60, 3) := by decide +kernel
theorem dX5_become_86 : decode cX5_become 86 = .ok (.aload_n 1, 1) := by decide +kernel
theorem dX5_become_87 : decode cX5_become 87 = .ok (.getfield 22, 3) := by decide +kernel
theorem dX5_become_90 : decode cX5_become 90 = .ok (.iconst 0, 1) := by decide +kernel
theorem dX5_become_91 : decode cX5_become 91 = .ok (.aload_n 0, 1) := by decide +kernel
theorem dX5_become_92 : decode cX5_become 92 = .ok (.getfield 22, 3) := by decide +kernel
theorem dX5_become_95 : decode cX5_become 95 = .ok (.iconst 0, 1) := by decide +kernel
theorem dX5_become_96 : decode cX5_become 96 = .ok (.bipush 12, 2) := by decide +kernel
theorem dX5_become_98 : decode cX5_become 98 = .ok (.invokestatic 60, 3) := by decide +kernel
theorem dX5_become_101 : decode cX5_become 101 = .ok (.aload_n 1, 1) := by decide +kernel
theorem dX5_become_102 : decode cX5_become 102 = .ok (.getfield 25, 3) := by decide +kernel
theorem dX5_become_105 : decode cX5_become 105 = .ok (.iconst 0, 1) := by decide +kernel
theorem dX5_become_106 : decode cX5_become 106 = .ok (.aload_n 0, 1) := by decide +kernel
theorem dX5_become_107 : decode cX5_become 107 = .ok (.getfield 25, 3) := by decide +kernel
theorem dX5_become_110 : decode cX5_become 110 = .ok (.iconst 0, 1) := by decide +kernel
theorem dX5_become_111 : decode cX5_become 111 = .ok (.bipush 6, 2) := by decide +kernel
theorem dX5_become_113 : decode cX5_become 113 = .ok (.invokestatic 60, 3) := by decide +kernel
theorem dX5_become_116 : decode cX5_become 116 = .ok (.aload_n 1, 1) := by decide +kernel
theorem dX5_become_117 : decode cX5_become 117 = .ok (.getfield 28, 3) := by decide +kernel
theorem dX5_become_120 : decode cX5_become 120 = .ok (.iconst 0, 1) := by decide +kernel
theorem dX5_become_121 : decode cX5_become 121 = .ok (.aload_n 0, 1) := by decide +kernel
theorem dX5_become_122 : decode cX5_become 122 = .ok (.getfield 28, 3) := by decide +kernel
theorem dX5_become_125 : decode cX5_become 125 = .ok (.iconst 0, 1) := by decide +kernel
theorem dX5_become_126 : decode cX5_become 126 = .ok (.bipush 6, 2) := by decide +kernel
theorem dX5_become_128 : decode cX5_become 128 = .ok (.invokestatic 60, 3) := by decide +kernel
theorem dX5_become_131 : decode cX5_become 131 = .ok (.aload_n 1, 1) := by decide +kernel
theorem dX5_become_132 : decode cX5_become 132 = .ok (.getfield 31, 3) := by decide +kernel
theorem dX5_become_135 : decode cX5_become 135 = .ok (.iconst 0, 1) := by decide +kernel
theorem dX5_become_136 : decode cX5_become 136 = .ok (.aload_n 0, 1) := by decide +kernel
theorem dX5_become_137 : decode cX5_become 137 = .ok (.getfield 31, 3) := by decide +kernel
theorem dX5_become_140 : decode cX5_become 140 = .ok (.iconst 0, 1) := by decide +kernel
theorem dX5_become_141 : decode cX5_become 141 = .ok (.bipush 6, 2) := by decide +kernel
theorem dX5_become_143 : decode cX5_become 143 = .ok (.invokestatic 60, 3) := by decide +kernel
theorem dX5_become_146 : decode cX5_become 146 = .ok (.aload_n 1, 1) := by decide +kernel
theorem dX5_become_147 : decode cX5_become 147 = .ok (.getfield 34, 3) := by decide +kernel
theorem dX5_become_150 : decode cX5_become 150 = .ok (.iconst 0, 1) := by decide +kernel
theorem dX5_become_151 : decode cX5_become 151 = .ok (.aload_n 0, 1) := by decide +kernel
theorem dX5_become_152 : decode cX5_become 152 = .ok (.getfield 34, 3) := by decide +kernel
theorem dX5_become_155 : decode cX5_become 155 = .ok (.iconst 0, 1) := by decide +kernel
theorem dX5_become_156 : decode cX5_become 156 = .ok (.bipush 6, 2) := by decide +kernel
theorem dX5_become_158 : decode cX5_become 158 = .ok (.invokestatic 60, 3) := by decide +kernel
theorem dX5_become_161 : decode cX5_become 161 = .ok (.return_, 1) := by decide +kernel
theorem dX5_save_0 : decode cX5_save 0 = .ok (.aload_n 1, 1) := by decide +kernel
theorem dX5_save_1 : decode cX5_save 1 = .ok (.iconst 0, 1) := by decide +kernel
theorem dX5_save_2 : decode cX5_save 2 = .ok (.aload_n 0, 1) := by decide +kernel
theorem dX5_save_3 : decode cX5_save 3 = .ok (.getfield 37, 3) := by decide +kernel
theorem dX5_save_6 : decode cX5_save 6 = .ok (.iastore, 1) := by decide +kernel
theorem dX5_save_7 : decode cX5_save 7 = .ok (.aload_n 1, 1) := by decide +kernel
theorem dX5_save_8 : decode cX5_save 8 = .ok (.iconst 1, 1) := by decide +kernel
theorem dX5_save_9 : decode cX5_save 9 = .ok (.aload_n 0, 1) := by decide +kernel
theorem dX5_save_10 : decode cX5_save 10 = .ok (.getfield 47, 3) := by decide +kernel
theorem dX5_save_13 : decode cX5_save 13 = .ok (.iastore, 1) := by decide +kernel
theorem dX5_save_14 : decode cX5_save 14 = .ok (.aload_n 0, 1) := by decide +kernel
theorem dX5_save_15 : decode cX5_save 15 = .ok (.getfield 31, 3) := by decide +kernel
theorem dX5_save_18 : decode cX5_save 18 = .ok (.iconst 0, 1) := by decide +kernel
theorem dX5_save_19 : decode cX5_save 19 = .ok (.aload_n 1, 1) := by decide +kernel
theorem dX5_save_20 : decode cX5_save 20 = .ok (.iconst 2, 1) := by decide +kernel
theorem dX5_save_21 : decode cX5_save 21 = .ok (.bipush 6, 2) := by decide +kernel
theorem dX5_save_23 : decode cX5_save 23 = .ok (.invokestatic 60, 3) := by decide +kernel
theorem dX5_save_26 : decode cX5_save 26 = .ok (.aload_n 0, 1) := by decide +kernel
theorem dX5_save_27 : decode cX5_save 27 = .ok (.getfield 34, 3) := by decide +kernel
theorem dX5_save_30 : decode cX5_save 30 = .ok (.iconst 0, 1) := by decide +kernel
theorem dX5_save_31 : decode cX5_save 31 = .ok (.aload_n 1, 1) := by decide +kernel
theorem dX5_save_32 : decode cX5_save 32 = .ok (.bipush 8, 2) := by decide +kernel
theorem dX5_save_34 : decode cX5_save 34 = .ok (.bipush 6, 2) := by decide +kernel
theorem dX5_save_36 : decode cX5_save 36 = .ok (.invokestatic 60, 3) := by decide +kernel
theorem dX5_save_39 : decode cX5_save 39 = .ok (.return_, 1) := by decide +kernel
theorem dX5_load_0 : decode cX5_load 0 = .ok (.aload_n 0, 1) := by decide +kernel
theorem dX5_load_1 : decode cX5_load 1 = .ok (.aload_n 1, 1) := by decide +kernel
theorem dX5_load_2 : decode cX5_load 2 = .ok (.iconst 0, 1) := by decide +kernel
theorem dX5_load_3 : decode cX5_load 3 = .ok (.iaload, 1) := by decide +kernel
theorem dX5_load_4 : decode cX5_load 4 = .ok (.putfield 37, 3) := by decide +kernel
theorem dX5_load_7 : decode cX5_load 7 = .ok (.aload_n 0, 1) := by decide +kernel
theorem dX5_load_8 : decode cX5_load 8 = .ok (.aload_n 1, 1) := by decide +kernel
theorem dX5_load_9 : decode cX5_load 9 = .ok (.iconst 1, 1) := by decide +kernel
theorem dX5_load_10 : decode cX5_load 10 = .ok (.iaload, 1) := by decide +kernel
theorem dX5_load_11 : decode cX5_load 11 = .ok (.putfield 47, 3) := by decide +kernel
theorem dX5_load_14 : decode cX5_load 14 = .ok (.aload_n 1, 1) := by decide +kernel
theorem dX5_load_15 : decode cX5_load 15 = .ok (.iconst 2, 1) := by decide +kernel
theorem dX5_load_16 : decode cX5_load 16 = .ok (.aload_n 0, 1) := by decide +kernel
theorem dX5_load_17 : decode cX5_load 17 = .ok (.getfield 31, 3) := by decide +kernel
theorem dX5_load_20 : decode cX5_load 20 = .ok (.iconst 0, 1) := by decide +kernel
theorem dX5_load_21 : decode cX5_load 21 = .ok (.bipush 6, 2) := by decide +kernel
theorem dX5_load_23 : decode cX5_load 23 = .ok (.invokestatic 60, 3) := by decide +kernel
theorem dX5_load_26 : decode cX5_load 26 = .ok (.aload_n 1, 1) := by decide +kernel
theorem dX5_load_27 : decode cX5_load 27 = .ok (.bipush 8, 2) := by decide +kernel
theorem dX5_load_29 : decode cX5_load 29 = .ok (.aload_n 0, 1) := by decide +kernel
theorem dX5_load_30 : decode cX5_load 30 = .ok (.getfield 34, 3) := by decide +kernel
theorem dX5_load_33 : decode cX5_load 33 = .ok (.iconst 0, 1) := by decide +kernel
theorem dX5_load_34 : decode cX5_load 34 = .ok (.bipush 6, 2) := by decide +kernel
theorem dX5_load_36 : decode cX5_load 36 = .ok (.invokestatic 60, 3) := by decide +kernel
theorem dX5_load_39 : decode cX5_load 39 = .ok (.return_, 1) := by decide +kernel
theorem dX5_addPath_0 : decode cX5_addPath 0 = .ok (.aload_n 0, 1) := by decide +kernel
theorem dX5_addPath_1 : decode cX5_addPath 1 = .ok (.getfield 15, 3) := by decide +kernel
theorem dX5_addPath_4 : decode cX5_addPath 4 = .ok (.aload_n 0, 1) := by decide +kernel
theorem dX5_addPath_5 : decode cX5_addPath 5 = .ok (.getfield 41, 3) := by decide +kernel
theorem dX5_addPath_8 : decode cX5_addPath 8 = .ok (.iload_n 1, 1) := by decide +kernel
theorem dX5_addPath_9 : decode cX5_addPath 9 = .ok (.iastore, 1) := by decide +kernel
theorem dX5_addPath_10 : decode cX5_addPath 10 = .ok (.aload_n 0, 1) := by decide +kernel
theorem dX5_addPath_11 : decode cX5_addPath 11 = .ok (.getfield 19, 3) := by decide +kernel
theorem dX5_addPath_14 : decode cX5_addPath 14 = .ok (.aload_n 0, 1) := by decide +kernel
theorem dX5_addPath_15 : decode cX5_addPath 15 = .ok (.getfield 41, 3) := by decide +kernel
theorem dX5_addPath_18 : decode cX5_addPath 18 = .ok (.iload_n 2, 1) := by decide +kernel
theorem dX5_addPath_19 : decode cX5_addPath 19 = .ok (.iastore, 1) := by decide +kernel
theorem dX5_addPath_20 : decode cX5_addPath 20 = .ok (.aload_n 0, 1) := by decide +kernel
theorem dX5_addPath_21 : decode cX5_addPath 21 = .ok (.getfield 22, 3) := by decide +kernel
theorem dX5_addPath_24 : decode cX5_addPath 24 = .ok (.aload_n 0, 1) := by decide +kernel
theorem dX5_addPath_25 : decode cX5_addPath 25 = .ok (.getfield 41, 3) := by decide +kernel
theorem dX5_addPath_28 : decode cX5_addPath 28 = .ok (.iload_n 3, 1) := by decide +kernel
theorem dX5_addPath_29 : decode cX5_addPath 29 = .ok (.iastore, 1) := by decide +kernel
theorem dX5_addPath_30 : decode cX5_addPath 30 = .ok (.aload_n 0, 1) := by decide +kernel
theorem dX5_addPath_31 : decode cX5_addPath 31 = .ok (.dup, 1) := by decide +kernel
theorem dX5_addPath_32 : decode cX5_addPath 32 = .ok (.getfield 41, 3) := by decide +kernel
theorem dX5_addPath_35 : decode cX5_addPath 35 = .ok (.iconst 1, 1) := by decide +kernel
theorem dX5_addPath_36 : decode cX5_addPath 36 = .ok (.iadd, 1) := by decide +kernel
theorem dX5_addPath_37 : decode cX5_addPath 37 = .ok (.putfield 41, 3) := by decide +kernel
theorem dX5_addPath_40 : decode cX5_addPath 40 = .ok (.return_, 1) := by decide +kernel
theorem dX5_addWitness_0 : decode cX5_addWitness 0 = .ok (.aload_n 0, 1) := by decide +kernel
theorem dX5_addWitness_1 : decode cX5_addWitness 1 = .ok (.getfield 25, 3) := by decide +kernel
theorem dX5_addWitness_4 : decode cX5_addWitness 4 = .ok (.aload_n 0, 1) := by decide +kernel
theorem dX5_addWitness_5 : decode cX5_addWitness 5 = .ok (.getfield 44, 3) := by decide +kernel
theorem dX5_addWitness_8 : decode cX5_addWitness 8 = .ok (.iload_n 1, 1) := by decide +kernel
theorem dX5_addWitness_9 : decode cX5_addWitness 9 = .ok (.iastore, 1) := by decide +kernel
theorem dX5_addWitness_10 : decode cX5_addWitness 10 = .ok (.aload_n 0, 1) := by decide +kernel
theorem dX5_addWitness_11 : decode cX5_addWitness 11 = .ok (.getfield 31, 3) := by decide +kernel
theorem dX5_addWitness_14 : decode cX5_addWitness 14 = .ok (.aload_n 0, 1) := by decide +kernel
theorem dX5_addWitness_15 : decode cX5_addWitness 15 = .ok (.getfield 44, 3) := by decide +kernel
theorem dX5_addWitness_18 : decode cX5_addWitness 18 = .ok (.iload_n 2, 1) := by decide +kernel
theorem dX5_addWitness_19 : decode cX5_addWitness 19 = .ok (.iastore, 1) := by decide +kernel
theorem dX5_addWitness_20 : decode cX5_addWitness 20 = .ok (.aload_n 0, 1) := by decide +kernel
theorem dX5_addWitness_21 : decode cX5_addWitness 21 = .ok (.getfield 28, 3) := by decide +kernel
theorem dX5_addWitness_24 : decode cX5_addWitness 24 = .ok (.aload_n 0, 1) := by decide +kernel
theorem dX5_addWitness_25 : decode cX5_addWitness 25 = .ok (.getfield 44, 3) := by decide +kernel
theorem dX5_addWitness_28 : decode cX5_addWitness 28 = .ok (.iload_n 3, 1) := by decide +kernel
theorem dX5_addWitness_29 : decode cX5_addWitness 29 = .ok (.iastore, 1) := by decide +kernel
theorem dX5_addWitness_30 : decode cX5_addWitness 30 = .ok (.aload_n 0, 1) := by decide +kernel
theorem dX5_addWitness_31 : decode cX5_addWitness 31 = .ok (.getfield 34, 3) := by decide +kernel
theorem dX5_addWitness_34 : decode cX5_addWitness 34 = .ok (.aload_n 0, 1) := by decide +kernel
theorem dX5_addWitness_35 : decode cX5_addWitness 35 = .ok (.getfield 44, 3) := by decide +kernel
theorem dX5_addWitness_38 : decode cX5_addWitness 38 = .ok (.iconst 0, 1) := by decide +kernel
theorem dX5_addWitness_39 : decode cX5_addWitness 39 = .ok (.iastore, 1) := by decide +kernel
theorem dX5_addWitness_40 : decode cX5_addWitness 40 = .ok (.aload_n 0, 1) := by decide +kernel
theorem dX5_addWitness_41 : decode cX5_addWitness 41 = .ok (.dup, 1) := by decide +kernel
theorem dX5_addWitness_42 : decode cX5_addWitness 42 = .ok (.getfield 44, 3) := by decide +kernel
theorem dX5_addWitness_45 : decode cX5_addWitness 45 = .ok (.iconst 1, 1) := by decide +kernel
theorem dX5_addWitness_46 : decode cX5_addWitness 46 = .ok (.iadd, 1) := by decide +kernel
theorem dX5_addWitness_47 : decode cX5_addWitness 47 = .ok (.putfield 44, 3) := by decide +kernel
theorem dX5_addWitness_50 : decode cX5_addWitness 50 = .ok (.return_, 1) := by decide +kernel
theorem dX5_hasPath_0 : decode cX5_hasPath 0 = .ok (.iload_n 1, 1) := by decide +kernel
theorem dX5_hasPath_1 : decode cX5_hasPath 1 = .ok (.ifCond .lt 15, 3) := by decide +kernel
theorem dX5_hasPath_4 : decode cX5_hasPath 4 = .ok (.iload_n 1, 1) := by decide +kernel
theorem dX5_hasPath_5 : decode cX5_hasPath 5 = .ok (.aload_n 0, 1) := by decide +kernel
theorem dX5_hasPath_6 : decode cX5_hasPath 6 = .ok (.getfield 41, 3) := by decide +kernel
theorem dX5_hasPath_9 : decode cX5_hasPath 9 = .ok (.if_icmp .ge 7, 3) := by decide +kernel
theorem dX5_hasPath_12 : decode cX5_hasPath 12 = .ok (.iconst 1, 1) := by decide +kernel
theorem dX5_hasPath_13 : decode cX5_hasPath 13 = .ok (.goto 4, 3) := by decide +kernel
theorem dX5_hasPath_16 : decode cX5_hasPath 16 = .ok (.iconst 0, 1) := by decide +kernel
theorem dX5_hasPath_17 : decode cX5_hasPath 17 = .ok (.ireturn, 1) := by decide +kernel
theorem dX5_hasWitness_0 : decode cX5_hasWitness 0 = .ok (.iload_n 1, 1) := by decide +kernel
theorem dX5_hasWitness_1 : decode cX5_hasWitness 1 = .ok (.ifCond .lt 15, 3) := by decide +kernel
theorem dX5_hasWitness_4 : decode cX5_hasWitness 4 = .ok (.iload_n 1, 1) := by decide +kernel
theorem dX5_hasWitness_5 : decode cX5_hasWitness 5 = .ok (.aload_n 0, 1) := by decide +kernel
theorem dX5_hasWitness_6 : decode cX5_hasWitness 6 = .ok (.getfield 44, 3) := by decide +kernel
theorem dX5_hasWitness_9 : decode cX5_hasWitness 9 = .ok (.if_icmp .ge 7, 3) := by decide +kernel
theorem dX5_hasWitness_12 : decode cX5_hasWitness 12 = .ok (.iconst 1, 1) := by decide +kernel
theorem dX5_hasWitness_13 : decode cX5_hasWitness 13 = .ok (.goto 4, 3) := by decide +kernel
theorem dX5_hasWitness_16 : decode cX5_hasWitness 16 = .ok (.iconst 0, 1) := by decide +kernel
theorem dX5_hasWitness_17 : decode cX5_hasWitness 17 = .ok (.ireturn, 1) := by decide +kernel
theorem dX5_isJoined_0 : decode cX5_isJoined 0 = .ok (.aload_n 0, 1) := by decide +kernel
theorem dX5_isJoined_1 : decode cX5_isJoined 1 = .ok (.iload_n 1, 1) := by decide +kernel
theorem dX5_isJoined_2 : decode cX5_isJoined 2 = .ok (.invokevirtual 66, 3) := by decide +kernel
theorem dX5_isJoined_5 : decode cX5_isJoined 5 = .ok (.aload_n 0, 1) := by decide +kernel
theorem dX5_isJoined_6 : decode cX5_isJoined 6 = .ok (.iload_n 2, 1) := by decide +kernel
theorem dX5_isJoined_7 : decode cX5_isJoined 7 = .ok (.invokevirtual 66, 3) := by decide +kernel
theorem dX5_isJoined_10 : decode cX5_isJoined 10 = .ok (.iand, 1) := by decide +kernel
theorem dX5_isJoined_11 : decode cX5_isJoined 11 = .ok (.ifCond .eq 7, 3) := by decide +kernel
theorem dX5_isJoined_14 : decode cX5_isJoined 14 = .ok (.iconst 1, 1) := by decide +kernel
theorem dX5_isJoined_15 : decode cX5_isJoined 15 = .ok (.goto 4, 3) := by decide +kernel
theorem dX5_isJoined_18 : decode cX5_isJoined 18 = .ok (.iconst 0, 1) := by decide +kernel
theorem dX5_isJoined_19 : decode cX5_isJoined 19 = .ok (.ireturn, 1) := by decide +kernel
theorem dX5_allPaths_0 : decode cX5_allPaths 0 = .ok (.iconst 1, 1) := by decide +kernel
theorem dX5_allPaths_1 : decode cX5_allPaths 1 = .ok (.aload_n 0, 1) := by decide +kernel
theorem dX5_allPaths_2 : decode cX5_allPaths 2 = .ok (.getfield 41, 3) := by decide +kernel
theorem dX5_allPaths_5 : decode cX5_allPaths 5 = .ok (.ishl, 1) := by decide +kernel
theorem dX5_allPaths_6 : decode cX5_allPaths 6 = .ok (.iconst 1, 1) := by decide +kernel
theorem dX5_allPaths_7 : decode cX5_allPaths 7 = .ok (.isub, 1) := by decide +kernel
theorem dX5_allPaths_8 : decode cX5_allPaths 8 = .ok (.ireturn, 1) := by decide +kernel
theorem dX5_open_0 : decode cX5_open 0 = .ok (.aload_n 0, 1) := by decide +kernel
theorem dX5_open_1 : decode cX5_open 1 = .ok (.invokevirtual 70, 3) := by decide +kernel
theorem dX5_open_4 : decode cX5_open 4 = .ok (.aload_n 0, 1) := by decide +kernel
theorem dX5_open_5 : decode cX5_open 5 = .ok (.getfield 47, 3) := by decide +kernel
theorem dX5_open_8 : decode cX5_open 8 = .ok (.iconst (-1), 1) := by decide +kernel
theorem dX5_open_9 : decode cX5_open 9 = .ok (.ixor, 1) := by decide +kernel
theorem dX5_open_10 : decode cX5_open 10 = .ok (.iand, 1) := by decide +kernel
theorem dX5_open_11 : decode cX5_open 11 = .ok (.ireturn, 1) := by decide +kernel
theorem dX5_pathsAt_0 : decode cX5_pathsAt 0 = .ok (.iconst 0, 1) := by decide +kernel
theorem dX5_pathsAt_1 : decode cX5_pathsAt 1 = .ok (.istore_n 2, 1) := by decide +kernel
theorem dX5_pathsAt_2 : decode cX5_pathsAt 2 = .ok (.iconst 0, 1) := by decide +kernel
theorem dX5_pathsAt_3 : decode cX5_pathsAt 3 = .ok (.istore_n 3, 1) := by decide +kernel
theorem dX5_pathsAt_4 : decode cX5_pathsAt 4 = .ok (.iload_n 3, 1) := by decide +kernel
theorem dX5_pathsAt_5 : decode cX5_pathsAt 5 = .ok (.aload_n 0, 1) := by decide +kernel
theorem dX5_pathsAt_6 : decode cX5_pathsAt 6 = .ok (.getfield 41, 3) := by decide +kernel
theorem dX5_pathsAt_9 : decode cX5_pathsAt 9 = .ok (.if_icmp .ge 35, 3) := by decide +kernel
theorem dX5_pathsAt_12 : decode cX5_pathsAt 12 = .ok (.aload_n 0, 1) := by decide +kernel
theorem dX5_pathsAt_13 : decode cX5_pathsAt 13 = .ok (.getfield 15, 3) := by decide +kernel
theorem dX5_pathsAt_16 : decode cX5_pathsAt 16 = .ok (.iload_n 3, 1) := by decide +kernel
theorem dX5_pathsAt_17 : decode cX5_pathsAt 17 = .ok (.iaload, 1) := by decide +kernel
theorem dX5_pathsAt_18 : decode cX5_pathsAt 18 = .ok (.iload_n 1, 1) := by decide +kernel
theorem dX5_pathsAt_19 : decode cX5_pathsAt 19 = .ok (.if_icmp .eq 13, 3) := by decide +kernel
theorem dX5_pathsAt_22 : decode cX5_pathsAt 22 = .ok (.aload_n 0, 1) := by decide +kernel
theorem dX5_pathsAt_23 : decode cX5_pathsAt 23 = .ok (.getfield 19, 3) := by decide +kernel
theorem dX5_pathsAt_26 : decode cX5_pathsAt 26 = .ok (.iload_n 3, 1) := by decide +kernel
theorem dX5_pathsAt_27 : decode cX5_pathsAt 27 = .ok (.iaload, 1) := by decide +kernel
theorem dX5_pathsAt_28 : decode cX5_pathsAt 28 = .ok (.iload_n 1, 1) := by decide +kernel
theorem dX5_pathsAt_29 : decode cX5_pathsAt 29 = .ok (.if_icmp .ne 9, 3) := by decide +kernel
theorem dX5_pathsAt_32 : decode cX5_pathsAt 32 = .ok (.iload_n 2, 1) := by decide +kernel
theorem dX5_pathsAt_33 : decode cX5_pathsAt 33 = .ok (.iconst 1, 1) := by decide +kernel
theorem dX5_pathsAt_34 : decode cX5_pathsAt 34 = .ok (.iload_n 3, 1) := by decide +kernel
theorem dX5_pathsAt_35 : decode cX5_pathsAt 35 = .ok (.ishl, 1) := by decide +kernel
theorem dX5_pathsAt_36 : decode cX5_pathsAt 36 = .ok (.ior, 1) := by decide +kernel
theorem dX5_pathsAt_37 : decode cX5_pathsAt 37 = .ok (.istore_n 2, 1) := by decide +kernel
theorem dX5_pathsAt_38 : decode cX5_pathsAt 38 = .ok (.iinc 3 1, 3) := by decide +kernel
theorem dX5_pathsAt_41 : decode cX5_pathsAt 41 = .ok (.goto (-37), 3) := by decide +kernel
theorem dX5_pathsAt_44 : decode cX5_pathsAt 44 = .ok (.iload_n 2, 1) := by decide +kernel
theorem dX5_pathsAt_45 : decode cX5_pathsAt 45 = .ok (.ireturn, 1) := by decide +kernel
theorem dX5_isAlive_0 : decode cX5_isAlive 0 = .ok (.aload_n 0, 1) := by decide +kernel
theorem dX5_isAlive_1 : decode cX5_isAlive 1 = .ok (.getfield 31, 3) := by decide +kernel
theorem dX5_isAlive_4 : decode cX5_isAlive 4 = .ok (.iload_n 1, 1) := by decide +kernel
theorem dX5_isAlive_5 : decode cX5_isAlive 5 = .ok (.iaload, 1) := by decide +kernel
theorem dX5_isAlive_6 : decode cX5_isAlive 6 = .ok (.aload_n 0, 1) := by decide +kernel
theorem dX5_isAlive_7 : decode cX5_isAlive 7 = .ok (.getfield 9, 3) := by decide +kernel
theorem dX5_isAlive_10 : decode cX5_isAlive 10 = .ok (.aload_n 0, 1) := by decide +kernel
theorem dX5_isAlive_11 : decode cX5_isAlive 11 = .ok (.getfield 25, 3) := by decide +kernel
theorem dX5_isAlive_14 : decode cX5_isAlive 14 = .ok (.iload_n 1, 1) := by decide +kernel
theorem dX5_isAlive_15 : decode cX5_isAlive 15 = .ok (.iaload, 1) := by decide +kernel
theorem dX5_isAlive_16 : decode cX5_isAlive 16 = .ok (.aaload, 1) := by decide +kernel
theorem dX5_isAlive_17 : decode cX5_isAlive 17 = .ok (.aload_n 0, 1) := by decide +kernel
theorem dX5_isAlive_18 : decode cX5_isAlive 18 = .ok (.getfield 57, 3) := by decide +kernel
theorem dX5_isAlive_21 : decode cX5_isAlive 21 = .ok (.invokevirtual 74, 3) := by decide +kernel
theorem dX5_isAlive_24 : decode cX5_isAlive 24 = .ok (.if_icmp .gt 7, 3) := by decide +kernel
theorem dX5_isAlive_27 : decode cX5_isAlive 27 = .ok (.iconst 1, 1) := by decide +kernel
theorem dX5_isAlive_28 : decode cX5_isAlive 28 = .ok (.goto 4, 3) := by decide +kernel
theorem dX5_isAlive_31 : decode cX5_isAlive 31 = .ok (.iconst 0, 1) := by decide +kernel
theorem dX5_isAlive_32 : decode cX5_isAlive 32 = .ok (.ireturn, 1) := by decide +kernel
theorem dX5_swears_0 : decode cX5_swears 0 = .ok (.aload_n 0, 1) := by decide +kernel
theorem dX5_swears_1 : decode cX5_swears 1 = .ok (.iload_n 1, 1) := by decide +kernel
theorem dX5_swears_2 : decode cX5_swears 2 = .ok (.invokevirtual 79, 3) := by decide +kernel
theorem dX5_swears_5 : decode cX5_swears 5 = .ok (.ifCond .eq 12, 3) := by decide +kernel
theorem dX5_swears_8 : decode cX5_swears 8 = .ok (.aload_n 0, 1) := by decide +kernel
theorem dX5_swears_9 : decode cX5_swears 9 = .ok (.getfield 34, 3) := by decide +kernel
theorem dX5_swears_12 : decode cX5_swears 12 = .ok (.iload_n 1, 1) := by decide +kernel
theorem dX5_swears_13 : decode cX5_swears 13 = .ok (.iaload, 1) := by decide +kernel
theorem dX5_swears_14 : decode cX5_swears 14 = .ok (.goto 4, 3) := by decide +kernel
theorem dX5_swears_17 : decode cX5_swears 17 = .ok (.iconst 0, 1) := by decide +kernel
theorem dX5_swears_18 : decode cX5_swears 18 = .ok (.ireturn, 1) := by decide +kernel
theorem dX5_living_0 : decode cX5_living 0 = .ok (.iconst 0, 1) := by decide +kernel
theorem dX5_living_1 : decode cX5_living 1 = .ok (.istore_n 1, 1) := by decide +kernel
theorem dX5_living_2 : decode cX5_living 2 = .ok (.iconst 0, 1) := by decide +kernel
theorem dX5_living_3 : decode cX5_living 3 = .ok (.istore_n 2, 1) := by decide +kernel
theorem dX5_living_4 : decode cX5_living 4 = .ok (.iload_n 2, 1) := by decide +kernel
theorem dX5_living_5 : decode cX5_living 5 = .ok (.aload_n 0, 1) := by decide +kernel
theorem dX5_living_6 : decode cX5_living 6 = .ok (.getfield 44, 3) := by decide +kernel
theorem dX5_living_9 : decode cX5_living 9 = .ok (.if_icmp .ge 23, 3) := by decide +kernel
theorem dX5_living_12 : decode cX5_living 12 = .ok (.aload_n 0, 1) := by decide +kernel
theorem dX5_living_13 : decode cX5_living 13 = .ok (.iload_n 2, 1) := by decide +kernel
theorem dX5_living_14 : decode cX5_living 14 = .ok (.invokevirtual 79, 3) := by decide +kernel
theorem dX5_living_17 : decode cX5_living 17 = .ok (.ifCond .eq 9, 3) := by decide +kernel
theorem dX5_living_20 : decode cX5_living 20 = .ok (.iload_n 1, 1) := by decide +kernel
theorem dX5_living_21 : decode cX5_living 21 = .ok (.iconst 1, 1) := by decide +kernel
theorem dX5_living_22 : decode cX5_living 22 = .ok (.iload_n 2, 1) := by decide +kernel
theorem dX5_living_23 : decode cX5_living 23 = .ok (.ishl, 1) := by decide +kernel
theorem dX5_living_24 : decode cX5_living 24 = .ok (.ior, 1) := by decide +kernel
theorem dX5_living_25 : decode cX5_living 25 = .ok (.istore_n 1, 1) := by decide +kernel
theorem dX5_living_26 : decode cX5_living 26 = .ok (.iinc 2 1, 3) := by decide +kernel
theorem dX5_living_29 : decode cX5_living 29 = .ok (.goto (-25), 3) := by decide +kernel
theorem dX5_living_32 : decode cX5_living 32 = .ok (.iload_n 1, 1) := by decide +kernel
theorem dX5_living_33 : decode cX5_living 33 = .ok (.ireturn, 1) := by decide +kernel
theorem dX5_swearing_0 : decode cX5_swearing 0 = .ok (.iconst 0, 1) := by decide +kernel
theorem dX5_swearing_1 : decode cX5_swearing 1 = .ok (.istore_n 2, 1) := by decide +kernel
theorem dX5_swearing_2 : decode cX5_swearing 2 = .ok (.iconst 0, 1) := by decide +kernel
theorem dX5_swearing_3 : decode cX5_swearing 3 = .ok (.istore_n 3, 1) := by decide +kernel
theorem dX5_swearing_4 : decode cX5_swearing 4 = .ok (.iload_n 3, 1) := by decide +kernel
theorem dX5_swearing_5 : decode cX5_swearing 5 = .ok (.aload_n 0, 1) := by decide +kernel
theorem dX5_swearing_6 : decode cX5_swearing 6 = .ok (.getfield 44, 3) := by decide +kernel
theorem dX5_swearing_9 : decode cX5_swearing 9 = .ok (.if_icmp .ge 23, 3) := by decide +kernel
theorem dX5_swearing_12 : decode cX5_swearing 12 = .ok (.iload_n 2, 1) := by decide +kernel
theorem dX5_swearing_13 : decode cX5_swearing 13 = .ok (.aload_n 0, 1) := by decide +kernel
theorem dX5_swearing_14 : decode cX5_swearing 14 = .ok (.iload_n 3, 1) := by decide +kernel
theorem dX5_swearing_15 : decode cX5_swearing 15 = .ok (.invokevirtual 83, 3) := by decide +kernel
theorem dX5_swearing_18 : decode cX5_swearing 18 = .ok (.iload_n 1, 1) := by decide +kernel
theorem dX5_swearing_19 : decode cX5_swearing 19 = .ok (.invokestatic 86, 3) := by decide +kernel
theorem dX5_swearing_22 : decode cX5_swearing 22 = .ok (.iload_n 3, 1) := by decide +kernel
theorem dX5_swearing_23 : decode cX5_swearing 23 = .ok (.ishl, 1) := by decide +kernel
theorem dX5_swearing_24 : decode cX5_swearing 24 = .ok (.ior, 1) := by decide +kernel
theorem dX5_swearing_25 : decode cX5_swearing 25 = .ok (.istore_n 2, 1) := by decide +kernel
theorem dX5_swearing_26 : decode cX5_swearing 26 = .ok (.iinc 3 1, 3) := by decide +kernel
theorem dX5_swearing_29 : decode cX5_swearing 29 = .ok (.goto (-25), 3) := by decide +kernel
theorem dX5_swearing_32 : decode cX5_swearing 32 = .ok (.iload_n 2, 1) := by decide +kernel
theorem dX5_swearing_33 : decode cX5_swearing 33 = .ok (.ireturn, 1) := by decide +kernel
theorem dX5_sworn_0 : decode cX5_sworn 0 = .ok (.iconst 0, 1) := by decide +kernel
theorem dX5_sworn_1 : decode cX5_sworn 1 = .ok (.istore_n 2, 1) := by decide +kernel
theorem dX5_sworn_2 : decode cX5_sworn 2 = .ok (.iconst 0, 1) := by decide +kernel
theorem dX5_sworn_3 : decode cX5_sworn 3 = .ok (.istore_n 3, 1) := by decide +kernel
theorem dX5_sworn_4 : decode cX5_sworn 4 = .ok (.iload_n 3, 1) := by decide +kernel
theorem dX5_sworn_5 : decode cX5_sworn 5 = .ok (.aload_n 0, 1) := by decide +kernel
theorem dX5_sworn_6 : decode cX5_sworn 6 = .ok (.getfield 44, 3) := by decide +kernel
theorem dX5_sworn_9 : decode cX5_sworn 9 = .ok (.if_icmp .ge 26, 3) := by decide +kernel
theorem dX5_sworn_12 : decode cX5_sworn 12 = .ok (.iload_n 1, 1) := by decide +kernel
theorem dX5_sworn_13 : decode cX5_sworn 13 = .ok (.iload_n 3, 1) := by decide +kernel
theorem dX5_sworn_14 : decode cX5_sworn 14 = .ok (.invokestatic 86, 3) := by decide +kernel
theorem dX5_sworn_17 : decode cX5_sworn 17 = .ok (.iconst 1, 1) := by decide +kernel
theorem dX5_sworn_18 : decode cX5_sworn 18 = .ok (.if_icmp .ne 11, 3) := by decide +kernel
theorem dX5_sworn_21 : decode cX5_sworn 21 = .ok (.iload_n 2, 1) := by decide +kernel
theorem dX5_sworn_22 : decode cX5_sworn 22 = .ok (.aload_n 0, 1) := by decide +kernel
theorem dX5_sworn_23 : decode cX5_sworn 23 = .ok (.iload_n 3, 1) := by decide +kernel
theorem dX5_sworn_24 : decode cX5_sworn 24 = .ok (.invokevirtual 83, 3) := by decide +kernel
theorem dX5_sworn_27 : decode cX5_sworn 27 = .ok (.ior, 1) := by decide +kernel
theorem dX5_sworn_28 : decode cX5_sworn 28 = .ok (.istore_n 2, 1) := by decide +kernel
theorem dX5_sworn_29 : decode cX5_sworn 29 = .ok (.iinc 3 1, 3) := by decide +kernel
theorem dX5_sworn_32 : decode cX5_sworn 32 = .ok (.goto (-28), 3) := by decide +kernel
theorem dX5_sworn_35 : decode cX5_sworn 35 = .ok (.iload_n 2, 1) := by decide +kernel
theorem dX5_sworn_36 : decode cX5_sworn 36 = .ok (.ireturn, 1) := by decide +kernel
theorem dX5_ways_0 : decode cX5_ways 0 = .ok (.aload_n 0, 1) := by decide +kernel
theorem dX5_ways_1 : decode cX5_ways 1 = .ok (.iconst 1, 1) := by decide +kernel
theorem dX5_ways_2 : decode cX5_ways 2 = .ok (.aload_n 0, 1) := by decide +kernel
theorem dX5_ways_3 : decode cX5_ways 3 = .ok (.getfield 44, 3) := by decide +kernel
theorem dX5_ways_6 : decode cX5_ways 6 = .ok (.ishl, 1) := by decide +kernel
theorem dX5_ways_7 : decode cX5_ways 7 = .ok (.iconst 1, 1) := by decide +kernel
theorem dX5_ways_8 : decode cX5_ways 8 = .ok (.isub, 1) := by decide +kernel
theorem dX5_ways_9 : decode cX5_ways 9 = .ok (.invokevirtual 90, 3) := by decide +kernel
theorem dX5_ways_12 : decode cX5_ways 12 = .ok (.ireturn, 1) := by decide +kernel
theorem dX5_seenBy_0 : decode cX5_seenBy 0 = .ok (.aload_n 0, 1) := by decide +kernel
theorem dX5_seenBy_1 : decode cX5_seenBy 1 = .ok (.iload_n 1, 1) := by decide +kernel
theorem dX5_seenBy_2 : decode cX5_seenBy 2 = .ok (.invokevirtual 79, 3) := by decide +kernel
theorem dX5_seenBy_5 : decode cX5_seenBy 5 = .ok (.ifCond .eq 28, 3) := by decide +kernel
theorem dX5_seenBy_8 : decode cX5_seenBy 8 = .ok (.aload_n 0, 1) := by decide +kernel
theorem dX5_seenBy_9 : decode cX5_seenBy 9 = .ok (.getfield 9, 3) := by decide +kernel
theorem dX5_seenBy_12 : decode cX5_seenBy 12 = .ok (.aload_n 0, 1) := by decide +kernel
theorem dX5_seenBy_13 : decode cX5_seenBy 13 = .ok (.getfield 25, 3) := by decide +kernel
theorem dX5_seenBy_16 : decode cX5_seenBy 16 = .ok (.iload_n 1, 1) := by decide +kernel
theorem dX5_seenBy_17 : decode cX5_seenBy 17 = .ok (.iaload, 1) := by decide +kernel
theorem dX5_seenBy_18 : decode cX5_seenBy 18 = .ok (.aaload, 1) := by decide +kernel
theorem dX5_seenBy_19 : decode cX5_seenBy 19 = .ok (.aload_n 0, 1) := by decide +kernel
theorem dX5_seenBy_20 : decode cX5_seenBy 20 = .ok (.aload_n 0, 1) := by decide +kernel
theorem dX5_seenBy_21 : decode cX5_seenBy 21 = .ok (.getfield 28, 3) := by decide +kernel
theorem dX5_seenBy_24 : decode cX5_seenBy 24 = .ok (.iload_n 1, 1) := by decide +kernel
theorem dX5_seenBy_25 : decode cX5_seenBy 25 = .ok (.iaload, 1) := by decide +kernel
theorem dX5_seenBy_26 : decode cX5_seenBy 26 = .ok (.aload_n 2, 1) := by decide +kernel
theorem dX5_seenBy_27 : decode cX5_seenBy 27 = .ok (.invokevirtual 93, 3) := by decide +kernel
theorem dX5_seenBy_30 : decode cX5_seenBy 30 = .ok (.goto 4, 3) := by decide +kernel
theorem dX5_seenBy_33 : decode cX5_seenBy 33 = .ok (.iconst 0, 1) := by decide +kernel
theorem dX5_seenBy_34 : decode cX5_seenBy 34 = .ok (.ireturn, 1) := by decide +kernel
theorem dX5_waysBehind_0 : decode cX5_waysBehind 0 = .ok (.iconst 0, 1) := by decide +kernel
theorem dX5_waysBehind_1 : decode cX5_waysBehind 1 = .ok (.istore_n 2, 1) := by decide +kernel
theorem dX5_waysBehind_2 : decode cX5_waysBehind 2 = .ok (.iconst 0, 1) := by decide +kernel
theorem dX5_waysBehind_3 : decode cX5_waysBehind 3 = .ok (.istore_n 3, 1) := by decide +kernel
theorem dX5_waysBehind_4 : decode cX5_waysBehind 4 = .ok (.iload_n 3, 1) := by decide +kernel
theorem dX5_waysBehind_5 : decode cX5_waysBehind 5 = .ok (.aload_n 0, 1) := by decide +kernel
theorem dX5_waysBehind_6 : decode cX5_waysBehind 6 = .ok (.getfield 44, 3) := by decide +kernel
theorem dX5_waysBehind_9 : decode cX5_waysBehind 9 = .ok (.if_icmp .ge 24, 3) := by decide +kernel
theorem dX5_waysBehind_12 : decode cX5_waysBehind 12 = .ok (.iload_n 2, 1) := by decide +kernel
theorem dX5_waysBehind_13 : decode cX5_waysBehind 13 = .ok (.aload_n 0, 1) := by decide +kernel
theorem dX5_waysBehind_14 : decode cX5_waysBehind 14 = .ok (.iload_n 3, 1) := by decide +kernel
theorem dX5_waysBehind_15 : decode cX5_waysBehind 15 = .ok (.invokevirtual 83, 3) := by decide +kernel
theorem dX5_waysBehind_18 : decode cX5_waysBehind 18 = .ok (.aload_n 0, 1) := by decide +kernel
theorem dX5_waysBehind_19 : decode cX5_waysBehind 19 = .ok (.iload_n 3, 1) := by decide +kernel
theorem dX5_waysBehind_20 : decode cX5_waysBehind 20 = .ok (.aload_n 1, 1) := by decide +kernel
theorem dX5_waysBehind_21 : decode cX5_waysBehind 21 = .ok (.invokevirtual 97, 3) := by decide +kernel
theorem dX5_waysBehind_24 : decode cX5_waysBehind 24 = .ok (.ior, 1) := by decide +kernel
theorem dX5_waysBehind_25 : decode cX5_waysBehind 25 = .ok (.ior, 1) := by decide +kernel
theorem dX5_waysBehind_26 : decode cX5_waysBehind 26 = .ok (.istore_n 2, 1) := by decide +kernel
theorem dX5_waysBehind_27 : decode cX5_waysBehind 27 = .ok (.iinc 3 1, 3) := by decide +kernel
theorem dX5_waysBehind_30 : decode cX5_waysBehind 30 = .ok (.goto (-26), 3) := by decide +kernel
theorem dX5_waysBehind_33 : decode cX5_waysBehind 33 = .ok (.iload_n 2, 1) := by decide +kernel
theorem dX5_waysBehind_34 : decode cX5_waysBehind 34 = .ok (.ireturn, 1) := by decide +kernel
theorem dX5_see_0 : decode cX5_see 0 = .ok (.iconst 0, 1) := by decide +kernel
theorem dX5_see_1 : decode cX5_see 1 = .ok (.istore_n 2, 1) := by decide +kernel
theorem dX5_see_2 : decode cX5_see 2 = .ok (.iload_n 2, 1) := by decide +kernel
theorem dX5_see_3 : decode cX5_see 3 = .ok (.aload_n 0, 1) := by decide +kernel
theorem dX5_see_4 : decode cX5_see 4 = .ok (.getfield 44, 3) := by decide +kernel
theorem dX5_see_7 : decode cX5_see 7 = .ok (.if_icmp .ge 24, 3) := by decide +kernel
theorem dX5_see_10 : decode cX5_see 10 = .ok (.aload_n 0, 1) := by decide +kernel
theorem dX5_see_11 : decode cX5_see 11 = .ok (.getfield 34, 3) := by decide +kernel
theorem dX5_see_14 : decode cX5_see 14 = .ok (.iload_n 2, 1) := by decide +kernel
theorem dX5_see_15 : decode cX5_see 15 = .ok (.dup2, 1) := by decide +kernel
theorem dX5_see_16 : decode cX5_see 16 = .ok (.iaload, 1) := by decide +kernel
theorem dX5_see_17 : decode cX5_see 17 = .ok (.aload_n 0, 1) := by decide +kernel
theorem dX5_see_18 : decode cX5_see 18 = .ok (.iload_n 2, 1) := by decide +kernel
theorem dX5_see_19 : decode cX5_see 19 = .ok (.aload_n 1, 1) := by decide +kernel
theorem dX5_see_20 : decode cX5_see 20 = .ok (.invokevirtual 97, 3) := by decide +kernel
theorem dX5_see_23 : decode cX5_see 23 = .ok (.ior, 1) := by decide +kernel
theorem dX5_see_24 : decode cX5_see 24 = .ok (.iastore, 1) := by decide +kernel
theorem dX5_see_25 : decode cX5_see 25 = .ok (.iinc 2 1, 3) := by decide +kernel
theorem dX5_see_28 : decode cX5_see 28 = .ok (.goto (-26), 3) := by decide +kernel
theorem dX5_see_31 : decode cX5_see 31 = .ok (.return_, 1) := by decide +kernel
theorem dX5_pass_0 : decode cX5_pass 0 = .ok (.iconst 0, 1) := by decide +kernel
theorem dX5_pass_1 : decode cX5_pass 1 = .ok (.istore_n 1, 1) := by decide +kernel
theorem dX5_pass_2 : decode cX5_pass 2 = .ok (.iload_n 1, 1) := by decide +kernel
theorem dX5_pass_3 : decode cX5_pass 3 = .ok (.aload_n 0, 1) := by decide +kernel
theorem dX5_pass_4 : decode cX5_pass 4 = .ok (.getfield 44, 3) := by decide +kernel
theorem dX5_pass_7 : decode cX5_pass 7 = .ok (.if_icmp .ge 57, 3) := by decide +kernel
theorem dX5_pass_10 : decode cX5_pass 10 = .ok (.aload_n 0, 1) := by decide +kernel
theorem dX5_pass_11 : decode cX5_pass 11 = .ok (.iload_n 1, 1) := by decide +kernel
theorem dX5_pass_12 : decode cX5_pass 12 = .ok (.invokevirtual 79, 3) := by decide +kernel
theorem dX5_pass_15 : decode cX5_pass 15 = .ok (.ifCond .eq 13, 3) := by decide +kernel
theorem dX5_pass_18 : decode cX5_pass 18 = .ok (.aload_n 0, 1) := by decide +kernel
theorem dX5_pass_19 : decode cX5_pass 19 = .ok (.getfield 31, 3) := by decide +kernel
theorem dX5_pass_22 : decode cX5_pass 22 = .ok (.iload_n 1, 1) := by decide +kernel
theorem dX5_pass_23 : decode cX5_pass 23 = .ok (.dup2, 1) := by decide +kernel
theorem dX5_pass_24 : decode cX5_pass 24 = .ok (.iaload, 1) := by decide +kernel
theorem dX5_pass_25 : decode cX5_pass 25 = .ok (.iconst 1, 1) := by decide +kernel
theorem dX5_pass_26 : decode cX5_pass 26 = .ok (.iadd, 1) := by decide +kernel
theorem dX5_pass_27 : decode cX5_pass 27 = .ok (.iastore, 1) := by decide +kernel
theorem dX5_pass_28 : decode cX5_pass 28 = .ok (.aload_n 0, 1) := by decide +kernel
theorem dX5_pass_29 : decode cX5_pass 29 = .ok (.getfield 34, 3) := by decide +kernel
theorem dX5_pass_32 : decode cX5_pass 32 = .ok (.iload_n 1, 1) := by decide +kernel
theorem dX5_pass_33 : decode cX5_pass 33 = .ok (.aload_n 0, 1) := by decide +kernel
theorem dX5_pass_34 : decode cX5_pass 34 = .ok (.getfield 9, 3) := by decide +kernel
theorem dX5_pass_37 : decode cX5_pass 37 = .ok (.aload_n 0, 1) := by decide +kernel
theorem dX5_pass_38 : decode cX5_pass 38 = .ok (.getfield 25, 3) := by decide +kernel
theorem dX5_pass_41 : decode cX5_pass 41 = .ok (.iload_n 1, 1) := by decide +kernel
theorem dX5_pass_42 : decode cX5_pass 42 = .ok (.iaload, 1) := by decide +kernel
theorem dX5_pass_43 : decode cX5_pass 43 = .ok (.aaload, 1) := by decide +kernel
theorem dX5_pass_44 : decode cX5_pass 44 = .ok (.aload_n 0, 1) := by decide +kernel
theorem dX5_pass_45 : decode cX5_pass 45 = .ok (.getfield 34, 3) := by decide +kernel
theorem dX5_pass_48 : decode cX5_pass 48 = .ok (.iload_n 1, 1) := by decide +kernel
theorem dX5_pass_49 : decode cX5_pass 49 = .ok (.iaload, 1) := by decide +kernel
theorem dX5_pass_50 : decode cX5_pass 50 = .ok (.aload_n 0, 1) := by decide +kernel
theorem dX5_pass_51 : decode cX5_pass 51 = .ok (.getfield 37, 3) := by decide +kernel
theorem dX5_pass_54 : decode cX5_pass 54 = .ok (.invokevirtual 101, 3) := by decide +kernel
theorem dX5_pass_57 : decode cX5_pass 57 = .ok (.iastore, 1) := by decide +kernel
theorem dX5_pass_58 : decode cX5_pass 58 = .ok (.iinc 1 1, 3) := by decide +kernel
theorem dX5_pass_61 : decode cX5_pass 61 = .ok (.goto (-59), 3) := by decide +kernel
theorem dX5_pass_64 : decode cX5_pass 64 = .ok (.aload_n 0, 1) := by decide +kernel
theorem dX5_pass_65 : decode cX5_pass 65 = .ok (.dup, 1) := by decide +kernel
theorem dX5_pass_66 : decode cX5_pass 66 = .ok (.getfield 37, 3) := by decide +kernel
theorem dX5_pass_69 : decode cX5_pass 69 = .ok (.iconst 1, 1) := by decide +kernel
theorem dX5_pass_70 : decode cX5_pass 70 = .ok (.iadd, 1) := by decide +kernel
theorem dX5_pass_71 : decode cX5_pass 71 = .ok (.putfield 37, 3) := by decide +kernel
theorem dX5_pass_74 : decode cX5_pass 74 = .ok (.return_, 1) := by decide +kernel
theorem dX6_init_0 : decode cX6_init 0 = .ok (.aload_n 0, 1) := by decide +kernel
theorem dX6_init_1 : decode cX6_init 1 = .ok (.invokespecial 3, 3) := by decide +kernel
theorem dX6_init_4 : decode cX6_init 4 = .ok (.aload_n 0, 1) := by decide +kernel
theorem dX6_init_5 : decode cX6_init 5 = .ok (.bipush 8, 2) := by decide +kernel
theorem dX6_init_7 : decode cX6_init 7 = .ok (.bipush 40, 2) := by decide +kernel
theorem dX6_init_9 : decode cX6_init 9 = .ok (.multianewarray 9 2, 4) := by decide +kernel
theorem dX6_init_13 : decode cX6_init 13 = .ok (.putfield 11, 3) := by decide +kernel
theorem dX6_init_16 : decode cX6_init 16 = .ok (.aload_n 0, 1) := by decide +kernel
theorem dX6_init_17 : decode cX6_init 17 = .ok (.bipush 8, 2) := by decide +kernel
theorem dX6_init_19 : decode cX6_init 19 = .ok (.newarray .int, 2) := by decide +kernel
theorem dX6_init_21 : decode cX6_init 21 = .ok (.putfield 16, 3) := by decide +kernel
theorem dX6_init_24 : decode cX6_init 24 = .ok (.aload_n 0, 1) := by decide +kernel
theorem dX6_init_25 : decode cX6_init 25 = .ok (.bipush 8, 2) := by decide +kernel
theorem dX6_init_27 : decode cX6_init 27 = .ok (.newarray .int, 2) := by decide +kernel
theorem dX6_init_29 : decode cX6_init 29 = .ok (.putfield 20, 3) := by decide +kernel
theorem dX6_init_32 : decode cX6_init 32 = .ok (.iconst 0, 1) := by decide +kernel
theorem dX6_init_33 : decode cX6_init 33 = .ok (.istore_n 1, 1) := by decide +kernel
theorem dX6_init_34 : decode cX6_init 34 = .ok (.iload_n 1, 1) := by decide +kernel
theorem dX6_init_35 : decode cX6_init 35 = .ok (.bipush 8, 2) := by decide +kernel
theorem dX6_init_37 : decode cX6_init 37 = .ok (.if_icmp .ge 16, 3) := by decide +kernel
theorem dX6_init_40 : decode cX6_init 40 = .ok (.aload_n 0, 1) := by decide +kernel
theorem dX6_init_41 : decode cX6_init 41 = .ok (.getfield 20, 3) := by decide +kernel
theorem dX6_init_44 : decode cX6_init 44 = .ok (.iload_n 1, 1) := by decide +kernel
theorem dX6_init_45 : decode cX6_init 45 = .ok (.iconst (-1), 1) := by decide +kernel
theorem dX6_init_46 : decode cX6_init 46 = .ok (.iastore, 1) := by decide +kernel
theorem dX6_init_47 : decode cX6_init 47 = .ok (.iinc 1 1, 3) := by decide +kernel
theorem dX6_init_50 : decode cX6_init 50 = .ok (.goto (-16), 3) := by decide +kernel
theorem dX6_init_53 : decode cX6_init 53 = .ok (.return_, 1) := by decide +kernel
theorem dX6_isMissing_0 : decode cX6_isMissing 0 = .ok (.aload_n 0, 1) := by decide +kernel
theorem dX6_isMissing_1 : decode cX6_isMissing 1 = .ok (.getfield 20, 3) := by decide +kernel
theorem dX6_isMissing_4 : decode cX6_isMissing 4 = .ok (.iload_n 1, 1) := by decide +kernel
theorem dX6_isMissing_5 : decode cX6_isMissing 5 = .ok (.iaload, 1) := by decide +kernel
theorem dX6_isMissing_6 : decode cX6_isMissing 6 = .ok (.iconst (-1), 1) := by decide +kernel
theorem dX6_isMissing_7 : decode cX6_isMissing 7 = .ok (.if_icmp .ne 7, 3) := by decide +kernel
theorem dX6_isMissing_10 : decode cX6_isMissing 10 = .ok (.iconst 1, 1) := by decide +kernel
theorem dX6_isMissing_11 : decode cX6_isMissing 11 = .ok (.goto 4, 3) := by decide +kernel
theorem dX6_isMissing_14 : decode cX6_isMissing 14 = .ok (.iconst 0, 1) := by decide +kernel
theorem dX6_isMissing_15 : decode cX6_isMissing 15 = .ok (.ireturn, 1) := by decide +kernel
theorem dX6_has_0 : decode cX6_has 0 = .ok (.iload_n 2, 1) := by decide +kernel
theorem dX6_has_1 : decode cX6_has 1 = .ok (.ifCond .lt 33, 3) := by decide +kernel
theorem dX6_has_4 : decode cX6_has 4 = .ok (.iload_n 3, 1) := by decide +kernel
theorem dX6_has_5 : decode cX6_has 5 = .ok (.ifCond .lt 29, 3) := by decide +kernel
theorem dX6_has_8 : decode cX6_has 8 = .ok (.iload_n 2, 1) := by decide +kernel
theorem dX6_has_9 : decode cX6_has 9 = .ok (.aload_n 0, 1) := by decide +kernel
theorem dX6_has_10 : decode cX6_has 10 = .ok (.getfield 20, 3) := by decide +kernel
theorem dX6_has_13 : decode cX6_has 13 = .ok (.iload_n 1, 1) := by decide +kernel
theorem dX6_has_14 : decode cX6_has 14 = .ok (.iaload, 1) := by decide +kernel
theorem dX6_has_15 : decode cX6_has 15 = .ok (.if_icmp .gt 19, 3) := by decide +kernel
theorem dX6_has_18 : decode cX6_has 18 = .ok (.iload_n 3, 1) := by decide +kernel
theorem dX6_has_19 : decode cX6_has 19 = .ok (.aload_n 0, 1) := by decide +kernel
theorem dX6_has_20 : decode cX6_has 20 = .ok (.getfield 20, 3) := by decide +kernel
theorem dX6_has_23 : decode cX6_has 23 = .ok (.iload_n 1, 1) := by decide +kernel
theorem dX6_has_24 : decode cX6_has 24 = .ok (.iaload, 1) := by decide +kernel
theorem dX6_has_25 : decode cX6_has 25 = .ok (.iload_n 2, 1) := by decide +kernel
theorem dX6_has_26 : decode cX6_has 26 = .ok (.isub, 1) := by decide +kernel
theorem dX6_has_27 : decode cX6_has 27 = .ok (.if_icmp .gt 7, 3) := by decide +kernel
theorem dX6_has_30 : decode cX6_has 30 = .ok (.iconst 1, 1) := by decide +kernel
theorem dX6_has_31 : decode cX6_has 31 = .ok (.goto 4, 3) := by decide +kernel
theorem dX6_has_34 : decode cX6_has 34 = .ok (.iconst 0, 1) := by decide +kernel
theorem dX6_has_35 : decode cX6_has 35 = .ok (.ireturn, 1) := by decide +kernel
theorem dX6_amiss_0 : decode cX6_amiss 0 = .ok (.aload_n 0, 1) := by decide +kernel
theorem dX6_amiss_1 : decode cX6_amiss 1 = .ok (.iload_n 1, 1) := by decide +kernel
theorem dX6_amiss_2 : decode cX6_amiss 2 = .ok (.invokevirtual 23, 3) := by decide +kernel
theorem dX6_amiss_5 : decode cX6_amiss 5 = .ok (.ifCond .eq 7, 3) := by decide +kernel
theorem dX6_amiss_8 : decode cX6_amiss 8 = .ok (.iconst 1, 1) := by decide +kernel
theorem dX6_amiss_9 : decode cX6_amiss 9 = .ok (.goto 18, 3) := by decide +kernel
theorem dX6_amiss_12 : decode cX6_amiss 12 = .ok (.aload_n 0, 1) := by decide +kernel
theorem dX6_amiss_13 : decode cX6_amiss 13 = .ok (.iload_n 1, 1) := by decide +kernel
theorem dX6_amiss_14 : decode cX6_amiss 14 = .ok (.iload_n 2, 1) := by decide +kernel
theorem dX6_amiss_15 : decode cX6_amiss 15 = .ok (.iload_n 3, 1) := by decide +kernel
theorem dX6_amiss_16 : decode cX6_amiss 16 = .ok (.invokevirtual 27, 3) := by decide +kernel
theorem dX6_amiss_19 : decode cX6_amiss 19 = .ok (.ifCond .eq 7, 3) := by decide +kernel
theorem dX6_amiss_22 : decode cX6_amiss 22 = .ok (.iconst 0, 1) := by decide +kernel
theorem dX6_amiss_23 : decode cX6_amiss 23 = .ok (.goto 4, 3) := by decide +kernel
theorem dX6_amiss_26 : decode cX6_amiss 26 = .ok (.iconst 2, 1) := by decide +kernel
theorem dX6_amiss_27 : decode cX6_amiss 27 = .ok (.ireturn, 1) := by decide +kernel
theorem dX6_lay_0 : decode cX6_lay 0 = .ok (.aload_n 0, 1) := by decide +kernel
theorem dX6_lay_1 : decode cX6_lay 1 = .ok (.getfield 16, 3) := by decide +kernel
theorem dX6_lay_4 : decode cX6_lay 4 = .ok (.iload_n 1, 1) := by decide +kernel
theorem dX6_lay_5 : decode cX6_lay 5 = .ok (.iload_n 2, 1) := by decide +kernel
theorem dX6_lay_6 : decode cX6_lay 6 = .ok (.iastore, 1) := by decide +kernel
theorem dX6_lay_7 : decode cX6_lay 7 = .ok (.aload_n 0, 1) := by decide +kernel
theorem dX6_lay_8 : decode cX6_lay 8 = .ok (.getfield 20, 3) := by decide +kernel
theorem dX6_lay_11 : decode cX6_lay 11 = .ok (.iload_n 1, 1) := by decide +kernel
theorem dX6_lay_12 : decode cX6_lay 12 = .ok (.iload_n 3, 1) := by decide +kernel
theorem dX6_lay_13 : decode cX6_lay 13 = .ok (.iastore, 1) := by decide +kernel
theorem dX6_lay_14 : decode cX6_lay 14 = .ok (.iconst 0, 1) := by decide +kernel
theorem dX6_lay_15 : decode cX6_lay 15 = .ok (.istore 4, 2) := by decide +kernel
theorem dX6_lay_17 : decode cX6_lay 17 = .ok (.iload 4, 2) := by decide +kernel
theorem dX6_lay_19 : decode cX6_lay 19 = .ok (.iload_n 3, 1) := by decide +kernel
theorem dX6_lay_20 : decode cX6_lay 20 = .ok (.if_icmp .ge 19, 3) := by decide +kernel
theorem dX6_lay_23 : decode cX6_lay 23 = .ok (.aload_n 0, 1) := by decide +kernel
theorem dX6_lay_24 : decode cX6_lay 24 = .ok (.getfield 11, 3) := by decide +kernel
theorem dX6_lay_27 : decode cX6_lay 27 = .ok (.iload_n 1, 1) := by decide +kernel
theorem dX6_lay_28 : decode cX6_lay 28 = .ok (.aaload, 1) := by decide +kernel
theorem dX6_lay_29 : decode cX6_lay 29 = .ok (.iload 4, 2) := by decide +kernel
theorem dX6_lay_31 : decode cX6_lay 31 = .ok (.iconst 0, 1) := by decide +kernel
theorem dX6_lay_32 : decode cX6_lay 32 = .ok (.iastore, 1) := by decide +kernel
theorem dX6_lay_33 : decode cX6_lay 33 = .ok (.iinc 4 1, 3) := by decide +kernel
theorem dX6_lay_36 : decode cX6_lay 36 = .ok (.goto (-19), 3) := by decide +kernel
theorem dX6_lay_39 : decode cX6_lay 39 = .ok (.return_, 1) := by decide +kernel
theorem dX6_put_0 : decode cX6_put 0 = .ok (.aload_n 0, 1) := by decide +kernel
theorem dX6_put_1 : decode cX6_put 1 = .ok (.getfield 16, 3) := by decide +kernel
theorem dX6_put_4 : decode cX6_put 4 = .ok (.iload_n 1, 1) := by decide +kernel
theorem dX6_put_5 : decode cX6_put 5 = .ok (.iaload, 1) := by decide +kernel
theorem dX6_put_6 : decode cX6_put 6 = .ok (.ifCond .ne 8, 3) := by decide +kernel
theorem dX6_put_9 : decode cX6_put 9 = .ok (.iload_n 3, 1) := by decide +kernel
theorem dX6_put_10 : decode cX6_put 10 = .ok (.i2b, 1) := by decide +kernel
theorem dX6_put_11 : decode cX6_put 11 = .ok (.goto 19, 3) := by decide +kernel
theorem dX6_put_14 : decode cX6_put 14 = .ok (.aload_n 0, 1) := by decide +kernel
theorem dX6_put_15 : decode cX6_put 15 = .ok (.getfield 16, 3) := by decide +kernel
theorem dX6_put_18 : decode cX6_put 18 = .ok (.iload_n 1, 1) := by decide +kernel
theorem dX6_put_19 : decode cX6_put 19 = .ok (.iaload, 1) := by decide +kernel
theorem dX6_put_20 : decode cX6_put 20 = .ok (.iconst 1, 1) := by decide +kernel
theorem dX6_put_21 : decode cX6_put 21 = .ok (.if_icmp .ne 8, 3) := by decide +kernel
theorem dX6_put_24 : decode cX6_put 24 = .ok (.iload_n 3, 1) := by decide +kernel
theorem dX6_put_25 : decode cX6_put 25 = .ok (.i2s, 1) := by decide +kernel
theorem dX6_put_26 : decode cX6_put 26 = .ok (.goto 4, 3) := by decide +kernel
theorem dX6_put_29 : decode cX6_put 29 = .ok (.iload_n 3, 1) := by decide +kernel
theorem dX6_put_30 : decode cX6_put 30 = .ok (.istore 4, 2) := by decide +kernel
theorem dX6_put_32 : decode cX6_put 32 = .ok (.aload_n 0, 1) := by decide +kernel
theorem dX6_put_33 : decode cX6_put 33 = .ok (.getfield 11, 3) := by decide +kernel
theorem dX6_put_36 : decode cX6_put 36 = .ok (.iload_n 1, 1) := by decide +kernel
theorem dX6_put_37 : decode cX6_put 37 = .ok (.aaload, 1) := by decide +kernel
theorem dX6_put_38 : decode cX6_put 38 = .ok (.iload_n 2, 1) := by decide +kernel
theorem dX6_put_39 : decode cX6_put 39 = .ok (.iload 4, 2) := by decide +kernel
theorem dX6_put_41 : decode cX6_put 41 = .ok (.iastore, 1) := by decide +kernel
theorem dX6_put_42 : decode cX6_put 42 = .ok (.iload 4, 2) := by decide +kernel
theorem dX6_put_44 : decode cX6_put 44 = .ok (.ireturn, 1) := by decide +kernel
theorem dX6_standing_0 : decode cX6_standing 0 = .ok (.iconst 0, 1) := by decide +kernel
theorem dX6_standing_1 : decode cX6_standing 1 = .ok (.istore_n 1, 1) := by decide +kernel
theorem dX6_standing_2 : decode cX6_standing 2 = .ok (.iconst 0, 1) := by decide +kernel
theorem dX6_standing_3 : decode cX6_standing 3 = .ok (.istore_n 2, 1) := by decide +kernel
theorem dX6_standing_4 : decode cX6_standing 4 = .ok (.iload_n 2, 1) := by decide +kernel
theorem dX6_standing_5 : decode cX6_standing 5 = .ok (.bipush 8, 2) := by decide +kernel
theorem dX6_standing_7 : decode cX6_standing 7 = .ok (.if_icmp .ge 20, 3) := by decide +kernel
theorem dX6_standing_10 : decode cX6_standing 10 = .ok (.aload_n 0, 1) := by decide +kernel
theorem dX6_standing_11 : decode cX6_standing 11 = .ok (.iload_n 2, 1) := by decide +kernel
theorem dX6_standing_12 : decode cX6_standing 12 = .ok (.invokevirtual 23, 3) := by decide +kernel
theorem dX6_standing_15 : decode cX6_standing 15 = .ok (.ifCond .ne 6, 3) := by decide +kernel
theorem dX6_standing_18 : decode cX6_standing 18 = .ok (.iinc 1 1, 3) := by decide +kernel
theorem dX6_standing_21 : decode cX6_standing 21 = .ok (.iinc 2 1, 3) := by decide +kernel
theorem dX6_standing_24 : decode cX6_standing 24 = .ok (.goto (-20), 3) := by decide +kernel
theorem dX6_standing_27 : decode cX6_standing 27 = .ok (.iload_n 1, 1) := by decide +kernel
theorem dX6_standing_28 : decode cX6_standing 28 = .ok (.ireturn, 1) := by decide +kernel
theorem dX7_init_0 : decode cX7_init 0 = .ok (.aload_n 0, 1) := by decide +kernel
theorem dX7_init_1 : decode cX7_init 1 = .ok (.invokespecial 1, 3) := by decide +kernel
theorem dX7_init_4 : decode cX7_init 4 = .ok (.return_, 1) := by decide +kernel
theorem dX7_sees_0 : decode cX7_sees 0 = .ok (.aload_n 3, 1) := by decide +kernel
theorem dX7_sees_1 : decode cX7_sees 1 = .ok (.getfield 7, 3) := by decide +kernel
theorem dX7_sees_4 : decode cX7_sees 4 = .ok (.ireturn, 1) := by decide +kernel
theorem dX7_keeps_0 : decode cX7_keeps 0 = .ok (.iload_n 1, 1) := by decide +kernel
theorem dX7_keeps_1 : decode cX7_keeps 1 = .ok (.iload_n 1, 1) := by decide +kernel
theorem dX7_keeps_2 : decode cX7_keeps 2 = .ok (.iconst 1, 1) := by decide +kernel
theorem dX7_keeps_3 : decode cX7_keeps 3 = .ok (.isub, 1) := by decide +kernel
theorem dX7_keeps_4 : decode cX7_keeps 4 = .ok (.iand, 1) := by decide +kernel
theorem dX7_keeps_5 : decode cX7_keeps 5 = .ok (.ireturn, 1) := by decide +kernel
theorem dX7_size_0 : decode cX7_size 0 = .ok (.aload_n 1, 1) := by decide +kernel
theorem dX7_size_1 : decode cX7_size 1 = .ok (.bipush 14, 2) := by decide +kernel
theorem dX7_size_3 : decode cX7_size 3 = .ok (.invokevirtual 13, 3) := by decide +kernel
theorem dX7_size_6 : decode cX7_size 6 = .ok (.iconst 2, 1) := by decide +kernel
theorem dX7_size_7 : decode cX7_size 7 = .ok (.aload_n 0, 1) := by decide +kernel
theorem dX7_size_8 : decode cX7_size 8 = .ok (.aload_n 1, 1) := by decide +kernel
theorem dX7_size_9 : decode cX7_size 9 = .ok (.invokespecial 19, 3) := by decide +kernel
theorem dX7_size_12 : decode cX7_size 12 = .ok (.imul, 1) := by decide +kernel
theorem dX7_size_13 : decode cX7_size 13 = .ok (.ireturn, 1) := by decide +kernel
theorem dX8_init_0 : decode cX8_init 0 = .ok (.aload_n 0, 1) := by decide +kernel
theorem dX8_init_1 : decode cX8_init 1 = .ok (.invokespecial 1, 3) := by decide +kernel
theorem dX8_init_4 : decode cX8_init 4 = .ok (.return_, 1) := by decide +kernel
theorem dX8_sees_0 : decode cX8_sees 0 = .ok (.aload_n 3, 1) := by decide +kernel
theorem dX8_sees_1 : decode cX8_sees 1 = .ok (.getfield 7, 3) := by decide +kernel
theorem dX8_sees_4 : decode cX8_sees 4 = .ok (.ireturn, 1) := by decide +kernel
theorem dX8_keeps_0 : decode cX8_keeps 0 = .ok (.iload_n 2, 1) := by decide +kernel
theorem dX8_keeps_1 : decode cX8_keeps 1 = .ok (.iconst 3, 1) := by decide +kernel
theorem dX8_keeps_2 : decode cX8_keeps 2 = .ok (.irem, 1) := by decide +kernel
theorem dX8_keeps_3 : decode cX8_keeps 3 = .ok (.iconst 2, 1) := by decide +kernel
theorem dX8_keeps_4 : decode cX8_keeps 4 = .ok (.if_icmp .ne 7, 3) := by decide +kernel
theorem dX8_keeps_7 : decode cX8_keeps 7 = .ok (.iconst 0, 1) := by decide +kernel
theorem dX8_keeps_8 : decode cX8_keeps 8 = .ok (.goto 4, 3) := by decide +kernel
theorem dX8_keeps_11 : decode cX8_keeps 11 = .ok (.iload_n 1, 1) := by decide +kernel
theorem dX8_keeps_12 : decode cX8_keeps 12 = .ok (.ireturn, 1) := by decide +kernel
theorem dX8_size_0 : decode cX8_size 0 = .ok (.aload_n 1, 1) := by decide +kernel
theorem dX8_size_1 : decode cX8_size 1 = .ok (.bipush 13, 2) := by decide +kernel
theorem dX8_size_3 : decode cX8_size 3 = .ok (.invokevirtual 13, 3) := by decide +kernel
theorem dX8_size_6 : decode cX8_size 6 = .ok (.aload_n 0, 1) := by decide +kernel
theorem dX8_size_7 : decode cX8_size 7 = .ok (.aload_n 1, 1) := by decide +kernel
theorem dX8_size_8 : decode cX8_size 8 = .ok (.invokespecial 19, 3) := by decide +kernel
theorem dX8_size_11 : decode cX8_size 11 = .ok (.bipush 100, 2) := by decide +kernel
theorem dX8_size_13 : decode cX8_size 13 = .ok (.isub, 1) := by decide +kernel
theorem dX8_size_14 : decode cX8_size 14 = .ok (.ireturn, 1) := by decide +kernel
theorem dX8_mark_0 : decode cX8_mark 0 = .ok (.aload_n 1, 1) := by decide +kernel
theorem dX8_mark_1 : decode cX8_mark 1 = .ok (.bipush 23, 2) := by decide +kernel
theorem dX8_mark_3 : decode cX8_mark 3 = .ok (.invokevirtual 13, 3) := by decide +kernel
theorem dX8_mark_6 : decode cX8_mark 6 = .ok (.aload_n 0, 1) := by decide +kernel
theorem dX8_mark_7 : decode cX8_mark 7 = .ok (.aload_n 1, 1) := by decide +kernel
theorem dX8_mark_8 : decode cX8_mark 8 = .ok (.invokespecial 23, 3) := by decide +kernel
theorem dX8_mark_11 : decode cX8_mark 11 = .ok (.istore_n 2, 1) := by decide +kernel
theorem dX8_mark_12 : decode cX8_mark 12 = .ok (.iload_n 2, 1) := by decide +kernel
theorem dX8_mark_13 : decode cX8_mark 13 = .ok (.aload_n 0, 1) := by decide +kernel
theorem dX8_mark_14 : decode cX8_mark 14 = .ok (.aload_n 1, 1) := by decide +kernel
theorem dX8_mark_15 : decode cX8_mark 15 = .ok (.invokevirtual 26, 3) := by decide +kernel
theorem dX8_mark_18 : decode cX8_mark 18 = .ok (.isub, 1) := by decide +kernel
theorem dX8_mark_19 : decode cX8_mark 19 = .ok (.ireturn, 1) := by decide +kernel
theorem dX9_init_0 : decode cX9_init 0 = .ok (.aload_n 0, 1) := by decide +kernel
theorem dX9_init_1 : decode cX9_init 1 = .ok (.invokespecial 3, 3) := by decide +kernel
theorem dX9_init_4 : decode cX9_init 4 = .ok (.aload_n 0, 1) := by decide +kernel
theorem dX9_init_5 : decode cX9_init 5 = .ok (.sipush 140, 3) := by decide +kernel
theorem dX9_init_8 : decode cX9_init 8 = .ok (.newarray .int, 2) := by decide +kernel
theorem dX9_init_10 : decode cX9_init 10 = .ok (.putfield 9, 3) := by decide +kernel
theorem dX9_init_13 : decode cX9_init 13 = .ok (.return_, 1) := by decide +kernel
theorem dX9_append_0 : decode cX9_append 0 = .ok (.aload_n 0, 1) := by decide +kernel
theorem dX9_append_1 : decode cX9_append 1 = .ok (.getfield 9, 3) := by decide +kernel
theorem dX9_append_4 : decode cX9_append 4 = .ok (.aload_n 0, 1) := by decide +kernel
theorem dX9_append_5 : decode cX9_append 5 = .ok (.getfield 15, 3) := by decide +kernel
theorem dX9_append_8 : decode cX9_append 8 = .ok (.iload_n 1, 1) := by decide +kernel
theorem dX9_append_9 : decode cX9_append 9 = .ok (.iastore, 1) := by decide +kernel
theorem dX9_append_10 : decode cX9_append 10 = .ok (.aload_n 0, 1) := by decide +kernel
theorem dX9_append_11 : decode cX9_append 11 = .ok (.dup, 1) := by decide +kernel
theorem dX9_append_12 : decode cX9_append 12 = .ok (.getfield 15, 3) := by decide +kernel
theorem dX9_append_15 : decode cX9_append 15 = .ok (.iconst 1, 1) := by decide +kernel
theorem dX9_append_16 : decode cX9_append 16 = .ok (.iadd, 1) := by decide +kernel
theorem dX9_append_17 : decode cX9_append 17 = .ok (.putfield 15, 3) := by decide +kernel
theorem dX9_append_20 : decode cX9_append 20 = .ok (.return_, 1) := by decide +kernel
theorem dX9_read_0 : decode cX9_read 0 = .ok (.aload_n 1, 1) := by decide +kernel
theorem dX9_read_1 : decode cX9_read 1 = .ok (.invokevirtual 19, 3) := by decide +kernel
theorem dX9_read_4 : decode cX9_read 4 = .ok (.aload_n 0, 1) := by decide +kernel
theorem dX9_read_5 : decode cX9_read 5 = .ok (.iconst 0, 1) := by decide +kernel
theorem dX9_read_6 : decode cX9_read 6 = .ok (.putfield 24, 3) := by decide +kernel
theorem dX9_read_9 : decode cX9_read 9 = .ok (.aload_n 0, 1) := by decide +kernel
theorem dX9_read_10 : decode cX9_read 10 = .ok (.invokevirtual 27, 3) := by decide +kernel
theorem dX9_read_13 : decode cX9_read 13 = .ok (.aload_n 0, 1) := by decide +kernel
theorem dX9_read_14 : decode cX9_read 14 = .ok (.aload_n 1, 1) := by decide +kernel
theorem dX9_read_15 : decode cX9_read 15 = .ok (.invokevirtual 30, 3) := by decide +kernel
theorem dX9_read_18 : decode cX9_read 18 = .ok (.ifCond .ne 5, 3) := by decide +kernel
theorem dX9_read_21 : decode cX9_read 21 = .ok (.iconst 0, 1) := by decide +kernel
theorem dX9_read_22 : decode cX9_read 22 = .ok (.ireturn, 1) := by decide +kernel
theorem dX9_read_23 : decode cX9_read 23 = .ok (.iconst 0, 1) := by decide +kernel
theorem dX9_read_24 : decode cX9_read 24 = .ok (.istore_n 2, 1) := by decide +kernel
theorem dX9_read_25 : decode cX9_read 25 = .ok (.iload_n 2, 1) := by decide +kernel
theorem dX9_read_26 : decode cX9_read 26 = .ok (.bipush 12, 2) := by decide +kernel
theorem dX9_read_28 : decode cX9_read 28 = .ok (.if_icmp .gt 32, 3) := by decide +kernel
theorem dX9_read_31 : decode cX9_read 31 = .ok (.iload_n 2, 1) := by decide +kernel
theorem dX9_read_32 : decode cX9_read 32 = .ok (.ifCond .eq 12, 3) := by decide +kernel
theorem dX9_read_35 : decode cX9_read 35 = .ok (.aload_n 0, 1) := by decide +kernel
theorem dX9_read_36 : decode cX9_read 36 = .ok (.getfield 34, 3) := by decide +kernel
theorem dX9_read_39 : decode cX9_read 39 = .ok (.bipush 112, 2) := by decide +kernel
theorem dX9_read_41 : decode cX9_read 41 = .ok (.if_icmp .ne 19, 3) := by decide +kernel
theorem dX9_read_44 : decode cX9_read 44 = .ok (.aload_n 0, 1) := by decide +kernel
theorem dX9_read_45 : decode cX9_read 45 = .ok (.aload_n 1, 1) := by decide +kernel
theorem dX9_read_46 : decode cX9_read 46 = .ok (.invokevirtual 37, 3) := by decide +kernel
theorem dX9_read_49 : decode cX9_read 49 = .ok (.ifCond .ne 5, 3) := by decide +kernel
theorem dX9_read_52 : decode cX9_read 52 = .ok (.iconst 0, 1) := by decide +kernel
theorem dX9_read_53 : decode cX9_read 53 = .ok (.ireturn, 1) := by decide +kernel
theorem dX9_read_54 : decode cX9_read 54 = .ok (.iinc 2 1, 3) := by decide +kernel
theorem dX9_read_57 : decode cX9_read 57 = .ok (.goto (-32), 3) := by decide +kernel
theorem dX9_read_60 : decode cX9_read 60 = .ok (.iconst 0, 1) := by decide +kernel
theorem dX9_read_61 : decode cX9_read 61 = .ok (.istore_n 2, 1) := by decide +kernel
theorem dX9_read_62 : decode cX9_read 62 = .ok (.iload_n 2, 1) := by decide +kernel
theorem dX9_read_63 : decode cX9_read 63 = .ok (.bipush 6, 2) := by decide +kernel
theorem dX9_read_65 : decode cX9_read 65 = .ok (.if_icmp .gt 29, 3) := by decide +kernel
theorem dX9_read_68 : decode cX9_read 68 = .ok (.aload_n 0, 1) := by decide +kernel
theorem dX9_read_69 : decode cX9_read 69 = .ok (.getfield 34, 3) := by decide +kernel
theorem dX9_read_72 : decode cX9_read 72 = .ok (.invokestatic 40, 3) := by decide +kernel
theorem dX9_read_75 : decode cX9_read 75 = .ok (.ifCond .eq 19, 3) := by decide +kernel
theorem dX9_read_78 : decode cX9_read 78 = .ok (.aload_n 0, 1) := by decide +kernel
theorem dX9_read_79 : decode cX9_read 79 = .ok (.aload_n 1, 1) := by decide +kernel
theorem dX9_read_80 : decode cX9_read 80 = .ok (.invokevirtual 44, 3) := by decide +kernel
theorem dX9_read_83 : decode cX9_read 83 = .ok (.ifCond .ne 5, 3) := by decide +kernel
theorem dX9_read_86 : decode cX9_read 86 = .ok (.iconst 0, 1) := by decide +kernel
theorem dX9_read_87 : decode cX9_read 87 = .ok (.ireturn, 1) := by decide +kernel
theorem dX9_read_88 : decode cX9_read 88 = .ok (.iinc 2 1, 3) := by decide +kernel
theorem dX9_read_91 : decode cX9_read 91 = .ok (.goto (-29), 3) := by decide +kernel
theorem dX9_read_94 : decode cX9_read 94 = .ok (.aload_n 0, 1) := by decide +kernel
theorem dX9_read_95 : decode cX9_read 95 = .ok (.getfield 34, 3) := by decide +kernel
theorem dX9_read_98 : decode cX9_read 98 = .ok (.ifCond .eq 9, 3) := by decide +kernel
theorem dX9_read_101 : decode cX9_read 101 = .ok (.aload_n 0, 1) := by decide +kernel
theorem dX9_read_102 : decode cX9_read 102 = .ok (.iconst 1, 1) := by decide +kernel
theorem dX9_read_103 : decode cX9_read 103 = .ok (.invokevirtual 47, 3) := by decide +kernel
theorem dX9_read_106 : decode cX9_read 106 = .ok (.ireturn, 1) := by decide +kernel
theorem dX9_read_107 : decode cX9_read 107 = .ok (.aload_n 1, 1) := by decide +kernel
theorem dX9_read_108 : decode cX9_read 108 = .ok (.iconst 1, 1) := by decide +kernel
theorem dX9_read_109 : decode cX9_read 109 = .ok (.putfield 51, 3) := by decide +kernel
theorem dX9_read_112 : decode cX9_read 112 = .ok (.iconst 1, 1) := by decide +kernel
theorem dX9_read_113 : decode cX9_read 113 = .ok (.ireturn, 1) := by decide +kernel
theorem dX9_readLaw_0 : decode cX9_readLaw 0 = .ok (.aload_n 0, 1) := by decide +kernel
theorem dX9_readLaw_1 : decode cX9_readLaw 1 = .ok (.bipush 99, 2) := by decide +kernel
theorem dX9_readLaw_3 : decode cX9_readLaw 3 = .ok (.invokevirtual 55, 3) := by decide +kernel
theorem dX9_readLaw_6 : decode cX9_readLaw 6 = .ok (.ifCond .eq 13, 3) := by decide +kernel
theorem dX9_readLaw_9 : decode cX9_readLaw 9 = .ok (.aload_n 0, 1) := by decide +kernel
theorem dX9_readLaw_10 : decode cX9_readLaw 10 = .ok (.iconst 0, 1) := by decide +kernel
theorem dX9_readLaw_11 : decode cX9_readLaw 11 = .ok (.bipush 7, 2) := by decide +kernel
theorem dX9_readLaw_13 : decode cX9_readLaw 13 = .ok (.invokevirtual 58, 3) := by decide +kernel
theorem dX9_readLaw_16 : decode cX9_readLaw 16 = .ok (.ifCond .ne 5, 3) := by decide +kernel
theorem dX9_readLaw_19 : decode cX9_readLaw 19 = .ok (.iconst 0, 1) := by decide +kernel
theorem dX9_readLaw_20 : decode cX9_readLaw 20 = .ok (.ireturn, 1) := by decide +kernel
theorem dX9_readLaw_21 : decode cX9_readLaw 21 = .ok (.aload_n 1, 1) := by decide +kernel
theorem dX9_readLaw_22 : decode cX9_readLaw 22 = .ok (.aload_n 0, 1) := by decide +kernel
theorem dX9_readLaw_23 : decode cX9_readLaw 23 = .ok (.getfield 62, 3) := by decide +kernel
theorem dX9_readLaw_26 : decode cX9_readLaw 26 = .ok (.putfield 65, 3) := by decide +kernel
theorem dX9_readLaw_29 : decode cX9_readLaw 29 = .ok (.aload_n 0, 1) := by decide +kernel
theorem dX9_readLaw_30 : decode cX9_readLaw 30 = .ok (.invokevirtual 27, 3) := by decide +kernel
theorem dX9_readLaw_33 : decode cX9_readLaw 33 = .ok (.aload_n 0, 1) := by decide +kernel
theorem dX9_readLaw_34 : decode cX9_readLaw 34 = .ok (.bipush 44, 2) := by decide +kernel
theorem dX9_readLaw_36 : decode cX9_readLaw 36 = .ok (.invokevirtual 55, 3) := by decide +kernel
theorem dX9_readLaw_39 : decode cX9_readLaw 39 = .ok (.ifCond .eq 14, 3) := by decide +kernel
theorem dX9_readLaw_42 : decode cX9_readLaw 42 = .ok (.aload_n 0, 1) := by decide +kernel
theorem dX9_readLaw_43 : decode cX9_readLaw 43 = .ok (.bipush 20, 2) := by decide +kernel
theorem dX9_readLaw_45 : decode cX9_readLaw 45 = .ok (.bipush 90, 2) := by decide +kernel
theorem dX9_readLaw_47 : decode cX9_readLaw 47 = .ok (.invokevirtual 58, 3) := by decide +kernel
theorem dX9_readLaw_50 : decode cX9_readLaw 50 = .ok (.ifCond .ne 5, 3) := by decide +kernel
theorem dX9_readLaw_53 : decode cX9_readLaw 53 = .ok (.iconst 0, 1) := by decide +kernel
theorem dX9_readLaw_54 : decode cX9_readLaw 54 = .ok (.ireturn, 1) := by decide +kernel
theorem dX9_readLaw_55 : decode cX9_readLaw 55 = .ok (.aload_n 1, 1) := by decide +kernel
theorem dX9_readLaw_56 : decode cX9_readLaw 56 = .ok (.aload_n 0, 1) := by decide +kernel
theorem dX9_readLaw_57 : decode cX9_readLaw 57 = .ok (.getfield 62, 3) := by decide +kernel
theorem dX9_readLaw_60 : decode cX9_readLaw 60 = .ok (.putfield 68, 3) := by decide +kernel
theorem dX9_readLaw_63 : decode cX9_readLaw 63 = .ok (.aload_n 0, 1) := by decide +kernel
theorem dX9_readLaw_64 : decode cX9_readLaw 64 = .ok (.invokevirtual 27, 3) := by decide +kernel
theorem dX9_readLaw_67 : decode cX9_readLaw 67 = .ok (.aload_n 0, 1) := by decide +kernel
theorem dX9_readLaw_68 : decode cX9_readLaw 68 = .ok (.bipush 59, 2) := by decide +kernel
theorem dX9_readLaw_70 : decode cX9_readLaw 70 = .ok (.invokevirtual 55, 3) := by decide +kernel
theorem dX9_readLaw_73 : decode cX9_readLaw 73 = .ok (.ireturn, 1) := by decide +kernel
theorem dX9_readPath_0 : decode cX9_readPath 0 = .ok (.aload_n 0, 1) := by decide +kernel
theorem dX9_readPath_1 : decode cX9_readPath 1 = .ok (.getfield 34, 3) := by decide +kernel
theorem dX9_readPath_4 : decode cX9_readPath 4 = .ok (.bipush 112, 2) := by decide +kernel
theorem dX9_readPath_6 : decode cX9_readPath 6 = .ok (.if_icmp .ne 18, 3) := by decide +kernel
theorem dX9_readPath_9 : decode cX9_readPath 9 = .ok (.aload_n 1, 1) := by decide +kernel
theorem dX9_readPath_10 : decode cX9_readPath 10 = .ok (.getfield 71, 3) := by decide +kernel
theorem dX9_readPath_13 : decode cX9_readPath 13 = .ok (.bipush 12, 2) := by decide +kernel
theorem dX9_readPath_15 : decode cX9_readPath 15 = .ok (.if_icmp .lt 9, 3) := by decide +kernel
theorem dX9_readPath_18 : decode cX9_readPath 18 = .ok (.aload_n 0, 1) := by decide +kernel
theorem dX9_readPath_19 : decode cX9_readPath 19 = .ok (.iconst 3, 1) := by decide +kernel
theorem dX9_readPath_20 : decode cX9_readPath 20 = .ok (.invokevirtual 47, 3) := by decide +kernel
theorem dX9_readPath_23 : decode cX9_readPath 23 = .ok (.ireturn, 1) := by decide +kernel
theorem dX9_readPath_24 : decode cX9_readPath 24 = .ok (.aload_n 0, 1) := by decide +kernel
theorem dX9_readPath_25 : decode cX9_readPath 25 = .ok (.bipush 112, 2) := by decide +kernel
theorem dX9_readPath_27 : decode cX9_readPath 27 = .ok (.invokevirtual 55, 3) := by decide +kernel
theorem dX9_readPath_30 : decode cX9_readPath 30 = .ok (.ifCond .eq 13, 3) := by decide +kernel
theorem dX9_readPath_33 : decode cX9_readPath 33 = .ok (.aload_n 0, 1) := by decide +kernel
theorem dX9_readPath_34 : decode cX9_readPath 34 = .ok (.iconst 0, 1) := by decide +kernel
theorem dX9_readPath_35 : decode cX9_readPath 35 = .ok (.bipush 7, 2) := by decide +kernel
theorem dX9_readPath_37 : decode cX9_readPath 37 = .ok (.invokevirtual 58, 3) := by decide +kernel
theorem dX9_readPath_40 : decode cX9_readPath 40 = .ok (.ifCond .ne 5, 3) := by decide +kernel
theorem dX9_readPath_43 : decode cX9_readPath 43 = .ok (.iconst 0, 1) := by decide +kernel
theorem dX9_readPath_44 : decode cX9_readPath 44 = .ok (.ireturn, 1) := by decide +kernel
theorem dX9_readPath_45 : decode cX9_readPath 45 = .ok (.aload_n 0, 1) := by decide +kernel
theorem dX9_readPath_46 : decode cX9_readPath 46 = .ok (.getfield 62, 3) := by decide +kernel
theorem dX9_readPath_49 : decode cX9_readPath 49 = .ok (.istore_n 2, 1) := by decide +kernel
theorem dX9_readPath_50 : decode cX9_readPath 50 = .ok (.aload_n 0, 1) := by decide +kernel
theorem dX9_readPath_51 : decode cX9_readPath 51 = .ok (.invokevirtual 27, 3) := by decide +kernel
theorem dX9_readPath_54 : decode cX9_readPath 54 = .ok (.aload_n 0, 1) := by decide +kernel
theorem dX9_readPath_55 : decode cX9_readPath 55 = .ok (.bipush 44, 2) := by decide +kernel
theorem dX9_readPath_57 : decode cX9_readPath 57 = .ok (.invokevirtual 55, 3) := by decide +kernel
theorem dX9_readPath_60 : decode cX9_readPath 60 = .ok (.ifCond .eq 13, 3) := by decide +kernel
theorem dX9_readPath_63 : decode cX9_readPath 63 = .ok (.aload_n 0, 1) := by decide +kernel
theorem dX9_readPath_64 : decode cX9_readPath 64 = .ok (.iconst 0, 1) := by decide +kernel
theorem dX9_readPath_65 : decode cX9_readPath 65 = .ok (.bipush 7, 2) := by decide +kernel
theorem dX9_readPath_67 : decode cX9_readPath 67 = .ok (.invokevirtual 58, 3) := by decide +kernel
theorem dX9_readPath_70 : decode cX9_readPath 70 = .ok (.ifCond .ne 5, 3) := by decide +kernel
theorem dX9_readPath_73 : decode cX9_readPath 73 = .ok (.iconst 0, 1) := by decide +kernel
theorem dX9_readPath_74 : decode cX9_readPath 74 = .ok (.ireturn, 1) := by decide +kernel
theorem dX9_readPath_75 : decode cX9_readPath 75 = .ok (.aload_n 0, 1) := by decide +kernel
theorem dX9_readPath_76 : decode cX9_readPath 76 = .ok (.getfield 62, 3) := by decide +kernel
theorem dX9_readPath_79 : decode cX9_readPath 79 = .ok (.istore_n 3, 1) := by decide +kernel
theorem dX9_readPath_80 : decode cX9_readPath 80 = .ok (.iload_n 2, 1) := by decide +kernel
theorem dX9_readPath_81 : decode cX9_readPath 81 = .ok (.iload_n 3, 1) := by decide +kernel
theorem dX9_readPath_82 : decode cX9_readPath 82 = .ok (.if_icmp .eq 12, 3) := by decide +kernel
theorem dX9_readPath_85 : decode cX9_readPath 85 = .ok (.aload_n 1, 1) := by decide +kernel
theorem dX9_readPath_86 : decode cX9_readPath 86 = .ok (.iload_n 2, 1) := by decide +kernel
theorem dX9_readPath_87 : decode cX9_readPath 87 = .ok (.iload_n 3, 1) := by decide +kernel
theorem dX9_readPath_88 : decode cX9_readPath 88 = .ok (.invokevirtual 74, 3) := by decide +kernel
theorem dX9_readPath_91 : decode cX9_readPath 91 = .ok (.ifCond .eq 9, 3) := by decide +kernel
theorem dX9_readPath_94 : decode cX9_readPath 94 = .ok (.aload_n 0, 1) := by decide +kernel
theorem dX9_readPath_95 : decode cX9_readPath 95 = .ok (.iconst 2, 1) := by decide +kernel
theorem dX9_readPath_96 : decode cX9_readPath 96 = .ok (.invokevirtual 47, 3) := by decide +kernel
theorem dX9_readPath_99 : decode cX9_readPath 99 = .ok (.ireturn, 1) := by decide +kernel
theorem dX9_readPath_100 : decode cX9_readPath 100 = .ok (.aload_n 0, 1) := by decide +kernel
theorem dX9_readPath_101 : decode cX9_readPath 101 = .ok (.invokevirtual 27, 3) := by decide +kernel
theorem dX9_readPath_104 : decode cX9_readPath 104 = .ok (.aload_n 0, 1) := by decide +kernel
theorem dX9_readPath_105 : decode cX9_readPath 105 = .ok (.bipush 44, 2) := by decide +kernel
theorem dX9_readPath_107 : decode cX9_readPath 107 = .ok (.invokevirtual 55, 3) := by decide +kernel
theorem dX9_readPath_110 : decode cX9_readPath 110 = .ok (.ifCond .eq 13, 3) := by decide +kernel
theorem dX9_readPath_113 : decode cX9_readPath 113 = .ok (.aload_n 0, 1) := by decide +kernel
theorem dX9_readPath_114 : decode cX9_readPath 114 = .ok (.iconst 1, 1) := by decide +kernel
theorem dX9_readPath_115 : decode cX9_readPath 115 = .ok (.bipush 9, 2) := by decide +kernel
theorem dX9_readPath_117 : decode cX9_readPath 117 = .ok (.invokevirtual 58, 3) := by decide +kernel
theorem dX9_readPath_120 : decode cX9_readPath 120 = .ok (.ifCond .ne 5, 3) := by decide +kernel
theorem dX9_readPath_123 : decode cX9_readPath 123 = .ok (.iconst 0, 1) := by decide +kernel
theorem dX9_readPath_124 : decode cX9_readPath 124 = .ok (.ireturn, 1) := by decide +kernel
theorem dX9_readPath_125 : decode cX9_readPath 125 = .ok (.aload_n 1, 1) := by decide +kernel
theorem dX9_readPath_126 : decode cX9_readPath 126 = .ok (.iload_n 2, 1) := by decide +kernel
theorem dX9_readPath_127 : decode cX9_readPath 127 = .ok (.iload_n 3, 1) := by decide +kernel
theorem dX9_readPath_128 : decode cX9_readPath 128 = .ok (.aload_n 0, 1) := by decide +kernel
theorem dX9_readPath_129 : decode cX9_readPath 129 = .ok (.getfield 62, 3) := by decide +kernel
theorem dX9_readPath_132 : decode cX9_readPath 132 = .ok (.invokevirtual 77, 3) := by decide +kernel
theorem dX9_readPath_135 : decode cX9_readPath 135 = .ok (.aload_n 0, 1) := by decide +kernel
theorem dX9_readPath_136 : decode cX9_readPath 136 = .ok (.invokevirtual 27, 3) := by decide +kernel
theorem dX9_readPath_139 : decode cX9_readPath 139 = .ok (.aload_n 0, 1) := by decide +kernel
theorem dX9_readPath_140 : decode cX9_readPath 140 = .ok (.bipush 59, 2) := by decide +kernel
theorem dX9_readPath_142 : decode cX9_readPath 142 = .ok (.invokevirtual 55, 3) := by decide +kernel
theorem dX9_readPath_145 : decode cX9_readPath 145 = .ok (.ireturn, 1) := by decide +kernel
theorem dX9_readWitness_0 : decode cX9_readWitness 0 = .ok (.aload_n 1, 1) := by decide +kernel
theorem dX9_readWitness_1 : decode cX9_readWitness 1 = .ok (.getfield 81, 3) := by decide +kernel
theorem dX9_readWitness_4 : decode cX9_readWitness 4 = .ok (.bipush 6, 2) := by decide +kernel
theorem dX9_readWitness_6 : decode cX9_readWitness 6 = .ok (.if_icmp .lt 9, 3) := by decide +kernel
theorem dX9_readWitness_9 : decode cX9_readWitness 9 = .ok (.aload_n 0, 1) := by decide +kernel
theorem dX9_readWitness_10 : decode cX9_readWitness 10 = .ok (.iconst 3, 1) := by decide +kernel
theorem dX9_readWitness_11 : decode cX9_readWitness 11 = .ok (.invokevirtual 47, 3) := by decide +kernel
theorem dX9_readWitness_14 : decode cX9_readWitness 14 = .ok (.ireturn, 1) := by decide +kernel
theorem dX9_readWitness_15 : decode cX9_readWitness 15 = .ok (.aload_n 0, 1) := by decide +kernel
theorem dX9_readWitness_16 : decode cX9_readWitness 16 = .ok (.getfield 34, 3) := by decide +kernel
theorem dX9_readWitness_19 : decode cX9_readWitness 19 = .ok (.invokestatic 40, 3) := by decide +kernel
theorem dX9_readWitness_22 : decode cX9_readWitness 22 = .ok (.istore_n 2, 1) := by decide +kernel
theorem dX9_readWitness_23 : decode cX9_readWitness 23 = .ok (.aload_n 0, 1) := by decide +kernel
theorem dX9_readWitness_24 : decode cX9_readWitness 24 = .ok (.invokevirtual 27, 3) := by decide +kernel
theorem dX9_readWitness_27 : decode cX9_readWitness 27 = .ok (.aload_n 0, 1) := by decide +kernel
theorem dX9_readWitness_28 : decode cX9_readWitness 28 = .ok (.iconst 0, 1) := by decide +kernel
theorem dX9_readWitness_29 : decode cX9_readWitness 29 = .ok (.bipush 60, 2) := by decide +kernel
theorem dX9_readWitness_31 : decode cX9_readWitness 31 = .ok (.invokevirtual 58, 3) := by decide +kernel
theorem dX9_readWitness_34 : decode cX9_readWitness 34 = .ok (.ifCond .ne 5, 3) := by decide +kernel
theorem dX9_readWitness_37 : decode cX9_readWitness 37 = .ok (.iconst 0, 1) := by decide +kernel
theorem dX9_readWitness_38 : decode cX9_readWitness 38 = .ok (.ireturn, 1) := by decide +kernel
theorem dX9_readWitness_39 : decode cX9_readWitness 39 = .ok (.aload_n 0, 1) := by decide +kernel
theorem dX9_readWitness_40 : decode cX9_readWitness 40 = .ok (.getfield 62, 3) := by decide +kernel
theorem dX9_readWitness_43 : decode cX9_readWitness 43 = .ok (.istore_n 3, 1) := by decide +kernel
theorem dX9_readWitness_44 : decode cX9_readWitness 44 = .ok (.aload_n 0, 1) := by decide +kernel
theorem dX9_readWitness_45 : decode cX9_readWitness 45 = .ok (.invokevirtual 27, 3) := by decide +kernel
theorem dX9_readWitness_48 : decode cX9_readWitness 48 = .ok (.aload_n 0, 1) := by decide +kernel
theorem dX9_readWitness_49 : decode cX9_readWitness 49 = .ok (.bipush 44, 2) := by decide +kernel
theorem dX9_readWitness_51 : decode cX9_readWitness 51 = .ok (.invokevirtual 55, 3) := by decide +kernel
theorem dX9_readWitness_54 : decode cX9_readWitness 54 = .ok (.ifCond .eq 13, 3) := by decide +kernel
theorem dX9_readWitness_57 : decode cX9_readWitness 57 = .ok (.aload_n 0, 1) := by decide +kernel
theorem dX9_readWitness_58 : decode cX9_readWitness 58 = .ok (.iconst 0, 1) := by decide +kernel
theorem dX9_readWitness_59 : decode cX9_readWitness 59 = .ok (.bipush 7, 2) := by decide +kernel
theorem dX9_readWitness_61 : decode cX9_readWitness 61 = .ok (.invokevirtual 58, 3) := by decide +kernel
theorem dX9_readWitness_64 : decode cX9_readWitness 64 = .ok (.ifCond .ne 5, 3) := by decide +kernel
theorem dX9_readWitness_67 : decode cX9_readWitness 67 = .ok (.iconst 0, 1) := by decide +kernel
theorem dX9_readWitness_68 : decode cX9_readWitness 68 = .ok (.ireturn, 1) := by decide +kernel
theorem dX9_readWitness_69 : decode cX9_readWitness 69 = .ok (.aload_n 1, 1) := by decide +kernel
theorem dX9_readWitness_70 : decode cX9_readWitness 70 = .ok (.iload_n 2, 1) := by decide +kernel
theorem dX9_readWitness_71 : decode cX9_readWitness 71 = .ok (.iload_n 3, 1) := by decide +kernel
theorem dX9_readWitness_72 : decode cX9_readWitness 72 = .ok (.aload_n 0, 1) := by decide +kernel
theorem dX9_readWitness_73 : decode cX9_readWitness 73 = .ok (.getfield 62, 3) := by decide +kernel
theorem dX9_readWitness_76 : decode cX9_readWitness 76 = .ok (.invokevirtual 84, 3) := by decide +kernel
theorem dX9_readWitness_79 : decode cX9_readWitness 79 = .ok (.aload_n 0, 1) := by decide +kernel
theorem dX9_readWitness_80 : decode cX9_readWitness 80 = .ok (.invokevirtual 27, 3) := by decide +kernel
theorem dX9_readWitness_83 : decode cX9_readWitness 83 = .ok (.aload_n 0, 1) := by decide +kernel
theorem dX9_readWitness_84 : decode cX9_readWitness 84 = .ok (.bipush 59, 2) := by decide +kernel
theorem dX9_readWitness_86 : decode cX9_readWitness 86 = .ok (.invokevirtual 55, 3) := by decide +kernel
theorem dX9_readWitness_89 : decode cX9_readWitness 89 = .ok (.ireturn, 1) := by decide +kernel
theorem dX9_sortOf_0 : decode cX9_sortOf 0 = .ok (.iload_n 0, 1) := by decide +kernel
theorem dX9_sortOf_1 : decode cX9_sortOf 1 = .ok (.lookupswitch 61 #[(99, 53), (102, 55), (109, 59), (110, 51), (115, 57)], 51) := by decide +kernel
theorem dX9_sortOf_52 : decode cX9_sortOf 52 = .ok (.iconst 1, 1) := by decide +kernel
theorem dX9_sortOf_53 : decode cX9_sortOf 53 = .ok (.ireturn, 1) := by decide +kernel
theorem dX9_sortOf_54 : decode cX9_sortOf 54 = .ok (.iconst 2, 1) := by decide +kernel
theorem dX9_sortOf_55 : decode cX9_sortOf 55 = .ok (.ireturn, 1) := by decide +kernel
theorem dX9_sortOf_56 : decode cX9_sortOf 56 = .ok (.iconst 3, 1) := by decide +kernel
theorem dX9_sortOf_57 : decode cX9_sortOf 57 = .ok (.ireturn, 1) := by decide +kernel
theorem dX9_sortOf_58 : decode cX9_sortOf 58 = .ok (.iconst 4, 1) := by decide +kernel
theorem dX9_sortOf_59 : decode cX9_sortOf 59 = .ok (.ireturn, 1) := by decide +kernel
theorem dX9_sortOf_60 : decode cX9_sortOf 60 = .ok (.iconst 5, 1) := by decide +kernel
theorem dX9_sortOf_61 : decode cX9_sortOf 61 = .ok (.ireturn, 1) := by decide +kernel
theorem dX9_sortOf_62 : decode cX9_sortOf 62 = .ok (.iconst 0, 1) := by decide +kernel
theorem dX9_sortOf_63 : decode cX9_sortOf 63 = .ok (.ireturn, 1) := by decide +kernel
theorem dX9_fails_0 : decode cX9_fails 0 = .ok (.aload_n 0, 1) := by decide +kernel
theorem dX9_fails_1 : decode cX9_fails 1 = .ok (.iload_n 1, 1) := by decide +kernel
theorem dX9_fails_2 : decode cX9_fails 2 = .ok (.putfield 87, 3) := by decide +kernel
theorem dX9_fails_5 : decode cX9_fails 5 = .ok (.aload_n 0, 1) := by decide +kernel
theorem dX9_fails_6 : decode cX9_fails 6 = .ok (.aload_n 0, 1) := by decide +kernel
theorem dX9_fails_7 : decode cX9_fails 7 = .ok (.getfield 90, 3) := by decide +kernel
theorem dX9_fails_10 : decode cX9_fails 10 = .ok (.putfield 93, 3) := by decide +kernel
theorem dX9_fails_13 : decode cX9_fails 13 = .ok (.iconst 0, 1) := by decide +kernel
theorem dX9_fails_14 : decode cX9_fails 14 = .ok (.ireturn, 1) := by decide +kernel
theorem dX9_takes_0 : decode cX9_takes 0 = .ok (.aload_n 0, 1) := by decide +kernel
theorem dX9_takes_1 : decode cX9_takes 1 = .ok (.getfield 34, 3) := by decide +kernel
theorem dX9_takes_4 : decode cX9_takes 4 = .ok (.iload_n 1, 1) := by decide +kernel
theorem dX9_takes_5 : decode cX9_takes 5 = .ok (.if_icmp .eq 9, 3) := by decide +kernel
theorem dX9_takes_8 : decode cX9_takes 8 = .ok (.aload_n 0, 1) := by decide +kernel
theorem dX9_takes_9 : decode cX9_takes 9 = .ok (.iconst 1, 1) := by decide +kernel
theorem dX9_takes_10 : decode cX9_takes 10 = .ok (.invokevirtual 47, 3) := by decide +kernel
theorem dX9_takes_13 : decode cX9_takes 13 = .ok (.ireturn, 1) := by decide +kernel
theorem dX9_takes_14 : decode cX9_takes 14 = .ok (.aload_n 0, 1) := by decide +kernel
theorem dX9_takes_15 : decode cX9_takes 15 = .ok (.invokevirtual 27, 3) := by decide +kernel
theorem dX9_takes_18 : decode cX9_takes 18 = .ok (.iconst 1, 1) := by decide +kernel
theorem dX9_takes_19 : decode cX9_takes 19 = .ok (.ireturn, 1) := by decide +kernel
theorem dX9_isNumber_0 : decode cX9_isNumber 0 = .ok (.aload_n 0, 1) := by decide +kernel
theorem dX9_isNumber_1 : decode cX9_isNumber 1 = .ok (.getfield 34, 3) := by decide +kernel
theorem dX9_isNumber_4 : decode cX9_isNumber 4 = .ok (.iconst 1, 1) := by decide +kernel
theorem dX9_isNumber_5 : decode cX9_isNumber 5 = .ok (.if_icmp .eq 9, 3) := by decide +kernel
theorem dX9_isNumber_8 : decode cX9_isNumber 8 = .ok (.aload_n 0, 1) := by decide +kernel
theorem dX9_isNumber_9 : decode cX9_isNumber 9 = .ok (.iconst 1, 1) := by decide +kernel
theorem dX9_isNumber_10 : decode cX9_isNumber 10 = .ok (.invokevirtual 47, 3) := by decide +kernel
theorem dX9_isNumber_13 : decode cX9_isNumber 13 = .ok (.ireturn, 1) := by decide +kernel
theorem dX9_isNumber_14 : decode cX9_isNumber 14 = .ok (.aload_n 0, 1) := by decide +kernel
theorem dX9_isNumber_15 : decode cX9_isNumber 15 = .ok (.getfield 62, 3) := by decide +kernel
theorem dX9_isNumber_18 : decode cX9_isNumber 18 = .ok (.iload_n 1, 1) := by decide +kernel
theorem dX9_isNumber_19 : decode cX9_isNumber 19 = .ok (.if_icmp .lt 11, 3) := by decide +kernel
theorem dX9_isNumber_22 : decode cX9_isNumber 22 = .ok (.aload_n 0, 1) := by decide +kernel
theorem dX9_isNumber_23 : decode cX9_isNumber 23 = .ok (.getfield 62, 3) := by decide +kernel
theorem dX9_isNumber_26 : decode cX9_isNumber 26 = .ok (.iload_n 2, 1) := by decide +kernel
theorem dX9_isNumber_27 : decode cX9_isNumber 27 = .ok (.if_icmp .le 11, 3) := by decide +kernel
theorem dX9_isNumber_30 : decode cX9_isNumber 30 = .ok (.aload_n 0, 1) := by decide +kernel
theorem dX9_isNumber_31 : decode cX9_isNumber 31 = .ok (.iconst 2, 1) := by decide +kernel
theorem dX9_isNumber_32 : decode cX9_isNumber 32 = .ok (.invokevirtual 47, 3) := by decide +kernel
theorem dX9_isNumber_35 : decode cX9_isNumber 35 = .ok (.ifCond .eq 7, 3) := by decide +kernel
theorem dX9_isNumber_38 : decode cX9_isNumber 38 = .ok (.iconst 1, 1) := by decide +kernel
theorem dX9_isNumber_39 : decode cX9_isNumber 39 = .ok (.goto 4, 3) := by decide +kernel
theorem dX9_isNumber_42 : decode cX9_isNumber 42 = .ok (.iconst 0, 1) := by decide +kernel
theorem dX9_isNumber_43 : decode cX9_isNumber 43 = .ok (.ireturn, 1) := by decide +kernel
theorem dX9_take_0 : decode cX9_take 0 = .ok (.aload_n 0, 1) := by decide +kernel
theorem dX9_take_1 : decode cX9_take 1 = .ok (.aload_n 0, 1) := by decide +kernel
theorem dX9_take_2 : decode cX9_take 2 = .ok (.getfield 24, 3) := by decide +kernel
theorem dX9_take_5 : decode cX9_take 5 = .ok (.putfield 90, 3) := by decide +kernel
theorem dX9_take_8 : decode cX9_take 8 = .ok (.aload_n 0, 1) := by decide +kernel
theorem dX9_take_9 : decode cX9_take 9 = .ok (.getfield 90, 3) := by decide +kernel
theorem dX9_take_12 : decode cX9_take 12 = .ok (.aload_n 0, 1) := by decide +kernel
theorem dX9_take_13 : decode cX9_take 13 = .ok (.getfield 15, 3) := by decide +kernel
theorem dX9_take_16 : decode cX9_take 16 = .ok (.if_icmp .lt 9, 3) := by decide +kernel
theorem dX9_take_19 : decode cX9_take 19 = .ok (.aload_n 0, 1) := by decide +kernel
theorem dX9_take_20 : decode cX9_take 20 = .ok (.iconst 0, 1) := by decide +kernel
theorem dX9_take_21 : decode cX9_take 21 = .ok (.putfield 34, 3) := by decide +kernel
theorem dX9_take_24 : decode cX9_take 24 = .ok (.return_, 1) := by decide +kernel
theorem dX9_take_25 : decode cX9_take 25 = .ok (.aload_n 0, 1) := by decide +kernel
theorem dX9_take_26 : decode cX9_take 26 = .ok (.getfield 9, 3) := by decide +kernel
theorem dX9_take_29 : decode cX9_take 29 = .ok (.aload_n 0, 1) := by decide +kernel
theorem dX9_take_30 : decode cX9_take 30 = .ok (.getfield 90, 3) := by decide +kernel
theorem dX9_take_33 : decode cX9_take 33 = .ok (.iaload, 1) := by decide +kernel
theorem dX9_take_34 : decode cX9_take 34 = .ok (.istore_n 1, 1) := by decide +kernel
theorem dX9_take_35 : decode cX9_take 35 = .ok (.aload_n 0, 1) := by decide +kernel
theorem dX9_take_36 : decode cX9_take 36 = .ok (.aload_n 0, 1) := by decide +kernel
theorem dX9_take_37 : decode cX9_take 37 = .ok (.getfield 90, 3) := by decide +kernel
theorem dX9_take_40 : decode cX9_take 40 = .ok (.iconst 1, 1) := by decide +kernel
theorem dX9_take_41 : decode cX9_take 41 = .ok (.iadd, 1) := by decide +kernel
theorem dX9_take_42 : decode cX9_take 42 = .ok (.putfield 24, 3) := by decide +kernel
theorem dX9_take_45 : decode cX9_take 45 = .ok (.iload_n 1, 1) := by decide +kernel
theorem dX9_take_46 : decode cX9_take 46 = .ok (.invokestatic 96, 3) := by decide +kernel
theorem dX9_take_49 : decode cX9_take 49 = .ok (.ifCond .eq 10, 3) := by decide +kernel
theorem dX9_take_52 : decode cX9_take 52 = .ok (.aload_n 0, 1) := by decide +kernel
theorem dX9_take_53 : decode cX9_take 53 = .ok (.invokevirtual 99, 3) := by decide +kernel
theorem dX9_take_56 : decode cX9_take 56 = .ok (.goto 40, 3) := by decide +kernel
theorem dX9_take_59 : decode cX9_take 59 = .ok (.iload_n 1, 1) := by decide +kernel
theorem dX9_take_60 : decode cX9_take 60 = .ok (.bipush 97, 2) := by decide +kernel
theorem dX9_take_62 : decode cX9_take 62 = .ok (.if_icmp .lt 9, 3) := by decide +kernel
theorem dX9_take_65 : decode cX9_take 65 = .ok (.iload_n 1, 1) := by decide +kernel
theorem dX9_take_66 : decode cX9_take 66 = .ok (.bipush 122, 2) := by decide +kernel
theorem dX9_take_68 : decode cX9_take 68 = .ok (.if_icmp .le 15, 3) := by decide +kernel
theorem dX9_take_71 : decode cX9_take 71 = .ok (.iload_n 1, 1) := by decide +kernel
theorem dX9_take_72 : decode cX9_take 72 = .ok (.bipush 44, 2) := by decide +kernel
theorem dX9_take_74 : decode cX9_take 74 = .ok (.if_icmp .eq 9, 3) := by decide +kernel
theorem dX9_take_77 : decode cX9_take 77 = .ok (.iload_n 1, 1) := by decide +kernel
theorem dX9_take_78 : decode cX9_take 78 = .ok (.bipush 59, 2) := by decide +kernel
theorem dX9_take_80 : decode cX9_take 80 = .ok (.if_icmp .ne 11, 3) := by decide +kernel
theorem dX9_take_83 : decode cX9_take 83 = .ok (.aload_n 0, 1) := by decide +kernel
theorem dX9_take_84 : decode cX9_take 84 = .ok (.iload_n 1, 1) := by decide +kernel
theorem dX9_take_85 : decode cX9_take 85 = .ok (.putfield 34, 3) := by decide +kernel
theorem dX9_take_88 : decode cX9_take 88 = .ok (.goto 8, 3) := by decide +kernel
theorem dX9_take_91 : decode cX9_take 91 = .ok (.aload_n 0, 1) := by decide +kernel
theorem dX9_take_92 : decode cX9_take 92 = .ok (.iconst (-1), 1) := by decide +kernel
theorem dX9_take_93 : decode cX9_take 93 = .ok (.putfield 34, 3) := by decide +kernel
theorem dX9_take_96 : decode cX9_take 96 = .ok (.return_, 1) := by decide +kernel
theorem dX9_takeNumber_0 : decode cX9_takeNumber 0 = .ok (.aload_n 0, 1) := by decide +kernel
theorem dX9_takeNumber_1 : decode cX9_takeNumber 1 = .ok (.iconst 0, 1) := by decide +kernel
theorem dX9_takeNumber_2 : decode cX9_takeNumber 2 = .ok (.putfield 62, 3) := by decide +kernel
theorem dX9_takeNumber_5 : decode cX9_takeNumber 5 = .ok (.aload_n 0, 1) := by decide +kernel
theorem dX9_takeNumber_6 : decode cX9_takeNumber 6 = .ok (.aload_n 0, 1) := by decide +kernel
theorem dX9_takeNumber_7 : decode cX9_takeNumber 7 = .ok (.getfield 90, 3) := by decide +kernel
theorem dX9_takeNumber_10 : decode cX9_takeNumber 10 = .ok (.putfield 24, 3) := by decide +kernel
theorem dX9_takeNumber_13 : decode cX9_takeNumber 13 = .ok (.aload_n 0, 1) := by decide +kernel
theorem dX9_takeNumber_14 : decode cX9_takeNumber 14 = .ok (.getfield 24, 3) := by decide +kernel
theorem dX9_takeNumber_17 : decode cX9_takeNumber 17 = .ok (.aload_n 0, 1) := by decide +kernel
theorem dX9_takeNumber_18 : decode cX9_takeNumber 18 = .ok (.getfield 15, 3) := by decide +kernel
theorem dX9_takeNumber_21 : decode cX9_takeNumber 21 = .ok (.if_icmp .ge 75, 3) := by decide +kernel
theorem dX9_takeNumber_24 : decode cX9_takeNumber 24 = .ok (.aload_n 0, 1) := by decide +kernel
theorem dX9_takeNumber_25 : decode cX9_takeNumber 25 = .ok (.getfield 9, 3) := by decide +kernel
theorem dX9_takeNumber_28 : decode cX9_takeNumber 28 = .ok (.aload_n 0, 1) := by decide +kernel
theorem dX9_takeNumber_29 : decode cX9_takeNumber 29 = .ok (.getfield 24, 3) := by decide +kernel
theorem dX9_takeNumber_32 : decode cX9_takeNumber 32 = .ok (.iaload, 1) := by decide +kernel
theorem dX9_takeNumber_33 : decode cX9_takeNumber 33 = .ok (.invokestatic 96, 3) := by decide +kernel
theorem dX9_takeNumber_36 : decode cX9_takeNumber 36 = .ok (.ifCond .eq 60, 3) := by decide +kernel
theorem dX9_takeNumber_39 : decode cX9_takeNumber 39 = .ok (.aload_n 0, 1) := by decide +kernel
theorem dX9_takeNumber_40 : decode cX9_takeNumber 40 = .ok (.aload_n 0, 1) := by decide +kernel
theorem dX9_takeNumber_41 : decode cX9_takeNumber 41 = .ok (.getfield 24, 3) := by decide +kernel
theorem dX9_takeNumber_44 : decode cX9_takeNumber 44 = .ok (.aload_n 0, 1) := by decide +kernel
theorem dX9_takeNumber_45 : decode cX9_takeNumber 45 = .ok (.getfield 90, 3) := by decide +kernel
theorem dX9_takeNumber_48 : decode cX9_takeNumber 48 = .ok (.isub, 1) := by decide +kernel
theorem dX9_takeNumber_49 : decode cX9_takeNumber 49 = .ok (.iconst 2, 1) := by decide +kernel
theorem dX9_takeNumber_50 : decode cX9_takeNumber 50 = .ok (.if_icmp .ge 26, 3) := by decide +kernel
theorem dX9_takeNumber_53 : decode cX9_takeNumber 53 = .ok (.aload_n 0, 1) := by decide +kernel
theorem dX9_takeNumber_54 : decode cX9_takeNumber 54 = .ok (.getfield 62, 3) := by decide +kernel
theorem dX9_takeNumber_57 : decode cX9_takeNumber 57 = .ok (.bipush 10, 2) := by decide +kernel
theorem dX9_takeNumber_59 : decode cX9_takeNumber 59 = .ok (.imul, 1) := by decide +kernel
theorem dX9_takeNumber_60 : decode cX9_takeNumber 60 = .ok (.aload_n 0, 1) := by decide +kernel
theorem dX9_takeNumber_61 : decode cX9_takeNumber 61 = .ok (.getfield 9, 3) := by decide +kernel
theorem dX9_takeNumber_64 : decode cX9_takeNumber 64 = .ok (.aload_n 0, 1) := by decide +kernel
theorem dX9_takeNumber_65 : decode cX9_takeNumber 65 = .ok (.getfield 24, 3) := by decide +kernel
theorem dX9_takeNumber_68 : decode cX9_takeNumber 68 = .ok (.iaload, 1) := by decide +kernel
theorem dX9_takeNumber_69 : decode cX9_takeNumber 69 = .ok (.iadd, 1) := by decide +kernel
theorem dX9_takeNumber_70 : decode cX9_takeNumber 70 = .ok (.bipush 48, 2) := by decide +kernel
theorem dX9_takeNumber_72 : decode cX9_takeNumber 72 = .ok (.isub, 1) := by decide +kernel
theorem dX9_takeNumber_73 : decode cX9_takeNumber 73 = .ok (.goto 7, 3) := by decide +kernel
theorem dX9_takeNumber_76 : decode cX9_takeNumber 76 = .ok (.aload_n 0, 1) := by decide +kernel
theorem dX9_takeNumber_77 : decode cX9_takeNumber 77 = .ok (.getfield 62, 3) := by decide +kernel
theorem dX9_takeNumber_80 : decode cX9_takeNumber 80 = .ok (.putfield 62, 3) := by decide +kernel
theorem dX9_takeNumber_83 : decode cX9_takeNumber 83 = .ok (.aload_n 0, 1) := by decide +kernel
theorem dX9_takeNumber_84 : decode cX9_takeNumber 84 = .ok (.dup, 1) := by decide +kernel
theorem dX9_takeNumber_85 : decode cX9_takeNumber 85 = .ok (.getfield 24, 3) := by decide +kernel
theorem dX9_takeNumber_88 : decode cX9_takeNumber 88 = .ok (.iconst 1, 1) := by decide +kernel
theorem dX9_takeNumber_89 : decode cX9_takeNumber 89 = .ok (.iadd, 1) := by decide +kernel
theorem dX9_takeNumber_90 : decode cX9_takeNumber 90 = .ok (.putfield 24, 3) := by decide +kernel
theorem dX9_takeNumber_93 : decode cX9_takeNumber 93 = .ok (.goto (-80), 3) := by decide +kernel
theorem dX9_takeNumber_96 : decode cX9_takeNumber 96 = .ok (.aload_n 0, 1) := by decide +kernel
theorem dX9_takeNumber_97 : decode cX9_takeNumber 97 = .ok (.aload_n 0, 1) := by decide +kernel
theorem dX9_takeNumber_98 : decode cX9_takeNumber 98 = .ok (.getfield 24, 3) := by decide +kernel
theorem dX9_takeNumber_101 : decode cX9_takeNumber 101 = .ok (.aload_n 0, 1) := by decide +kernel
theorem dX9_takeNumber_102 : decode cX9_takeNumber 102 = .ok (.getfield 90, 3) := by decide +kernel
theorem dX9_takeNumber_105 : decode cX9_takeNumber 105 = .ok (.isub, 1) := by decide +kernel
theorem dX9_takeNumber_106 : decode cX9_takeNumber 106 = .ok (.iconst 2, 1) := by decide +kernel
theorem dX9_takeNumber_107 : decode cX9_takeNumber 107 = .ok (.if_icmp .le 7, 3) := by decide +kernel
theorem dX9_takeNumber_110 : decode cX9_takeNumber 110 = .ok (.iconst (-1), 1) := by decide +kernel
theorem dX9_takeNumber_111 : decode cX9_takeNumber 111 = .ok (.goto 4, 3) := by decide +kernel
theorem dX9_takeNumber_114 : decode cX9_takeNumber 114 = .ok (.iconst 1, 1) := by decide +kernel
theorem dX9_takeNumber_115 : decode cX9_takeNumber 115 = .ok (.putfield 34, 3) := by decide +kernel
theorem dX9_takeNumber_118 : decode cX9_takeNumber 118 = .ok (.return_, 1) := by decide +kernel
theorem dX9_isFigure_0 : decode cX9_isFigure 0 = .ok (.iload_n 0, 1) := by decide +kernel
theorem dX9_isFigure_1 : decode cX9_isFigure 1 = .ok (.bipush 48, 2) := by decide +kernel
theorem dX9_isFigure_3 : decode cX9_isFigure 3 = .ok (.if_icmp .lt 13, 3) := by decide +kernel
theorem dX9_isFigure_6 : decode cX9_isFigure 6 = .ok (.iload_n 0, 1) := by decide +kernel
theorem dX9_isFigure_7 : decode cX9_isFigure 7 = .ok (.bipush 57, 2) := by decide +kernel
theorem dX9_isFigure_9 : decode cX9_isFigure 9 = .ok (.if_icmp .gt 7, 3) := by decide +kernel
theorem dX9_isFigure_12 : decode cX9_isFigure 12 = .ok (.iconst 1, 1) := by decide +kernel
theorem dX9_isFigure_13 : decode cX9_isFigure 13 = .ok (.goto 4, 3) := by decide +kernel
theorem dX9_isFigure_16 : decode cX9_isFigure 16 = .ok (.iconst 0, 1) := by decide +kernel
theorem dX9_isFigure_17 : decode cX9_isFigure 17 = .ok (.ireturn, 1) := by decide +kernel
theorem dX10_init_0 : decode cX10_init 0 = .ok (.aload_n 0, 1) := by decide +kernel
theorem dX10_init_1 : decode cX10_init 1 = .ok (.invokespecial 1, 3) := by decide +kernel
theorem dX10_init_4 : decode cX10_init 4 = .ok (.return_, 1) := by decide +kernel
theorem dX10_span_0 : decode cX10_span 0 = .ok (.iload_n 1, 1) := by decide +kernel
theorem dX10_span_1 : decode cX10_span 1 = .ok (.ireturn, 1) := by decide +kernel
theorem dX10_sees_0 : decode cX10_sees 0 = .ok (.iconst 0, 1) := by decide +kernel
theorem dX10_sees_1 : decode cX10_sees 1 = .ok (.ireturn, 1) := by decide +kernel
theorem dX10_keeps_0 : decode cX10_keeps 0 = .ok (.iload_n 1, 1) := by decide +kernel
theorem dX10_keeps_1 : decode cX10_keeps 1 = .ok (.ireturn, 1) := by decide +kernel
theorem dX10_size_0 : decode cX10_size 0 = .ok (.aload_n 1, 1) := by decide +kernel
theorem dX10_size_1 : decode cX10_size 1 = .ok (.bipush 10, 2) := by decide +kernel
theorem dX10_size_3 : decode cX10_size 3 = .ok (.invokevirtual 7, 3) := by decide +kernel
theorem dX10_size_6 : decode cX10_size 6 = .ok (.aload_n 1, 1) := by decide +kernel
theorem dX10_size_7 : decode cX10_size 7 = .ok (.getfield 13, 3) := by decide +kernel
theorem dX10_size_10 : decode cX10_size 10 = .ok (.ireturn, 1) := by decide +kernel
theorem dX10_mark_0 : decode cX10_mark 0 = .ok (.aload_n 1, 1) := by decide +kernel
theorem dX10_mark_1 : decode cX10_mark 1 = .ok (.bipush 20, 2) := by decide +kernel
theorem dX10_mark_3 : decode cX10_mark 3 = .ok (.invokevirtual 7, 3) := by decide +kernel
theorem dX10_mark_6 : decode cX10_mark 6 = .ok (.aload_n 1, 1) := by decide +kernel
theorem dX10_mark_7 : decode cX10_mark 7 = .ok (.getfield 17, 3) := by decide +kernel
theorem dX10_mark_10 : decode cX10_mark 10 = .ok (.ireturn, 1) := by decide +kernel
theorem dX11_init_0 : decode cX11_init 0 = .ok (.aload_n 0, 1) := by decide +kernel
theorem dX11_init_1 : decode cX11_init 1 = .ok (.invokespecial 1, 3) := by decide +kernel
theorem dX11_init_4 : decode cX11_init 4 = .ok (.aload_n 0, 1) := by decide +kernel
theorem dX11_init_5 : decode cX11_init 5 = .ok (.new 7, 3) := by decide +kernel
theorem dX11_init_8 : decode cX11_init 8 = .ok (.dup, 1) := by decide +kernel
theorem dX11_init_9 : decode cX11_init 9 = .ok (.invokespecial 9, 3) := by decide +kernel
theorem dX11_init_12 : decode cX11_init 12 = .ok (.putfield 10, 3) := by decide +kernel
theorem dX11_init_15 : decode cX11_init 15 = .ok (.aload_n 0, 1) := by decide +kernel
theorem dX11_init_16 : decode cX11_init 16 = .ok (.new 16, 3) := by decide +kernel
theorem dX11_init_19 : decode cX11_init 19 = .ok (.dup, 1) := by decide +kernel
theorem dX11_init_20 : decode cX11_init 20 = .ok (.invokespecial 18, 3) := by decide +kernel
theorem dX11_init_23 : decode cX11_init 23 = .ok (.putfield 19, 3) := by decide +kernel
theorem dX11_init_26 : decode cX11_init 26 = .ok (.aload_n 0, 1) := by decide +kernel
theorem dX11_init_27 : decode cX11_init 27 = .ok (.bipush 6, 2) := by decide +kernel
theorem dX11_init_29 : decode cX11_init 29 = .ok (.anewarray 23, 3) := by decide +kernel
theorem dX11_init_32 : decode cX11_init 32 = .ok (.putfield 25, 3) := by decide +kernel
theorem dX11_init_35 : decode cX11_init 35 = .ok (.aload_n 0, 1) := by decide +kernel
theorem dX11_init_36 : decode cX11_init 36 = .ok (.getfield 25, 3) := by decide +kernel
theorem dX11_init_39 : decode cX11_init 39 = .ok (.iconst 0, 1) := by decide +kernel
theorem dX11_init_40 : decode cX11_init 40 = .ok (.new 23, 3) := by decide +kernel
theorem dX11_init_43 : decode cX11_init 43 = .ok (.dup, 1) := by decide +kernel
theorem dX11_init_44 : decode cX11_init 44 = .ok (.invokespecial 29, 3) := by decide +kernel
theorem dX11_init_47 : decode cX11_init 47 = .ok (.aastore, 1) := by decide +kernel
theorem dX11_init_48 : decode cX11_init 48 = .ok (.aload_n 0, 1) := by decide +kernel
theorem dX11_init_49 : decode cX11_init 49 = .ok (.getfield 25, 3) := by decide +kernel
theorem dX11_init_52 : decode cX11_init 52 = .ok (.iconst 1, 1) := by decide +kernel
theorem dX11_init_53 : decode cX11_init 53 = .ok (.new 30, 3) := by decide +kernel
theorem dX11_init_56 : decode cX11_init 56 = .ok (.dup, 1) := by decide +kernel
theorem dX11_init_57 : decode cX11_init 57 = .ok (.invokespecial 32, 3) := by decide +kernel
theorem dX11_init_60 : decode cX11_init 60 = .ok (.aastore, 1) := by decide +kernel
theorem dX11_init_61 : decode cX11_init 61 = .ok (.aload_n 0, 1) := by decide +kernel
theorem dX11_init_62 : decode cX11_init 62 = .ok (.getfield 25, 3) := by decide +kernel
theorem dX11_init_65 : decode cX11_init 65 = .ok (.iconst 2, 1) := by decide +kernel
theorem dX11_init_66 : decode cX11_init 66 = .ok (.new 33, 3) := by decide +kernel
theorem dX11_init_69 : decode cX11_init 69 = .ok (.dup, 1) := by decide +kernel
theorem dX11_init_70 : decode cX11_init 70 = .ok (.invokespecial 35, 3) := by decide +kernel
theorem dX11_init_73 : decode cX11_init 73 = .ok (.aastore, 1) := by decide +kernel
theorem dX11_init_74 : decode cX11_init 74 = .ok (.aload_n 0, 1) := by decide +kernel
theorem dX11_init_75 : decode cX11_init 75 = .ok (.getfield 25, 3) := by decide +kernel
theorem dX11_init_78 : decode cX11_init 78 = .ok (.iconst 3, 1) := by decide +kernel
theorem dX11_init_79 : decode cX11_init 79 = .ok (.new 36, 3) := by decide +kernel
theorem dX11_init_82 : decode cX11_init 82 = .ok (.dup, 1) := by decide +kernel
theorem dX11_init_83 : decode cX11_init 83 = .ok (.invokespecial 38, 3) := by decide +kernel
theorem dX11_init_86 : decode cX11_init 86 = .ok (.aastore, 1) := by decide +kernel
theorem dX11_init_87 : decode cX11_init 87 = .ok (.aload_n 0, 1) := by decide +kernel
theorem dX11_init_88 : decode cX11_init 88 = .ok (.getfield 25, 3) := by decide +kernel
theorem dX11_init_91 : decode cX11_init 91 = .ok (.iconst 4, 1) := by decide +kernel
theorem dX11_init_92 : decode cX11_init 92 = .ok (.new 39, 3) := by decide +kernel
theorem dX11_init_95 : decode cX11_init 95 = .ok (.dup, 1) := by decide +kernel
theorem dX11_init_96 : decode cX11_init 96 = .ok (.invokespecial 41, 3) := by decide +kernel
theorem dX11_init_99 : decode cX11_init 99 = .ok (.aastore, 1) := by decide +kernel
theorem dX11_init_100 : decode cX11_init 100 = .ok (.aload_n 0, 1) := by decide +kernel
theorem dX11_init_101 : decode cX11_init 101 = .ok (.getfield 25, 3) := by decide +kernel
theorem dX11_init_104 : decode cX11_init 104 = .ok (.iconst 5, 1) := by decide +kernel
theorem dX11_init_105 : decode cX11_init 105 = .ok (.new 42, 3) := by decide +kernel
theorem dX11_init_108 : decode cX11_init 108 = .ok (.dup, 1) := by decide +kernel
theorem dX11_init_109 : decode cX11_init 109 = .ok (.invokespecial 44, 3) := by decide +kernel
theorem dX11_init_112 : decode cX11_init 112 = .ok (.aastore, 1) := by decide +kernel
theorem dX11_init_113 : decode cX11_init 113 = .ok (.aload_n 0, 1) := by decide +kernel
theorem dX11_init_114 : decode cX11_init 114 = .ok (.new 45, 3) := by decide +kernel
theorem dX11_init_117 : decode cX11_init 117 = .ok (.dup, 1) := by decide +kernel
theorem dX11_init_118 : decode cX11_init 118 = .ok (.aload_n 0, 1) := by decide +kernel
theorem dX11_init_119 : decode cX11_init 119 = .ok (.getfield 25, 3) := by decide +kernel
theorem dX11_init_122 : decode cX11_init 122 = .ok (.invokespecial 47, 3) := by decide +kernel
theorem dX11_init_125 : decode cX11_init 125 = .ok (.putfield 50, 3) := by decide +kernel
theorem dX11_init_128 : decode cX11_init 128 = .ok (.aload_n 0, 1) := by decide +kernel
theorem dX11_init_129 : decode cX11_init 129 = .ok (.new 45, 3) := by decide +kernel
theorem dX11_init_132 : decode cX11_init 132 = .ok (.dup, 1) := by decide +kernel
theorem dX11_init_133 : decode cX11_init 133 = .ok (.aload_n 0, 1) := by decide +kernel
theorem dX11_init_134 : decode cX11_init 134 = .ok (.getfield 25, 3) := by decide +kernel
theorem dX11_init_137 : decode cX11_init 137 = .ok (.invokespecial 47, 3) := by decide +kernel
theorem dX11_init_140 : decode cX11_init 140 = .ok (.putfield 54, 3) := by decide +kernel
theorem dX11_init_143 : decode cX11_init 143 = .ok (.aload_n 0, 1) := by decide +kernel
theorem dX11_init_144 : decode cX11_init 144 = .ok (.iconst 2, 1) := by decide +kernel
theorem dX11_init_145 : decode cX11_init 145 = .ok (.anewarray 45, 3) := by decide +kernel
theorem dX11_init_148 : decode cX11_init 148 = .ok (.putfield 57, 3) := by decide +kernel
theorem dX11_init_151 : decode cX11_init 151 = .ok (.iconst 0, 1) := by decide +kernel
theorem dX11_init_152 : decode cX11_init 152 = .ok (.istore_n 1, 1) := by decide +kernel
theorem dX11_init_153 : decode cX11_init 153 = .ok (.iload_n 1, 1) := by decide +kernel
theorem dX11_init_154 : decode cX11_init 154 = .ok (.iconst 2, 1) := by decide +kernel
theorem dX11_init_155 : decode cX11_init 155 = .ok (.if_icmp .ge 26, 3) := by decide +kernel
theorem dX11_init_158 : decode cX11_init 158 = .ok (.aload_n 0, 1) := by decide +kernel
theorem dX11_init_159 : decode cX11_init 159 = .ok (.getfield 57, 3) := by decide +kernel
theorem dX11_init_162 : decode cX11_init 162 = .ok (.iload_n 1, 1) := by decide +kernel
theorem dX11_init_163 : decode cX11_init 163 = .ok (.new 45, 3) := by decide +kernel
theorem dX11_init_166 : decode cX11_init 166 = .ok (.dup, 1) := by decide +kernel
theorem dX11_init_167 : decode cX11_init 167 = .ok (.aload_n 0, 1) := by decide +kernel
theorem dX11_init_168 : decode cX11_init 168 = .ok (.getfield 25, 3) := by decide +kernel
theorem dX11_init_171 : decode cX11_init 171 = .ok (.invokespecial 47, 3) := by decide +kernel
theorem dX11_init_174 : decode cX11_init 174 = .ok (.aastore, 1) := by decide +kernel
theorem dX11_init_175 : decode cX11_init 175 = .ok (.iinc 1 1, 3) := by decide +kernel
theorem dX11_init_178 : decode cX11_init 178 = .ok (.goto (-25), 3) := by decide +kernel
theorem dX11_init_181 : decode cX11_init 181 = .ok (.aload_n 0, 1) := by decide +kernel
theorem dX11_init_182 : decode cX11_init 182 = .ok (.bipush 24, 2) := by decide +kernel
theorem dX11_init_184 : decode cX11_init 184 = .ok (.bipush 14, 2) := by decide +kernel
theorem dX11_init_186 : decode cX11_init 186 = .ok (.multianewarray 61 2, 4) := by decide +kernel
theorem dX11_init_190 : decode cX11_init 190 = .ok (.putfield 63, 3) := by decide +kernel
theorem dX11_init_193 : decode cX11_init 193 = .ok (.aload_n 0, 1) := by decide +kernel
theorem dX11_init_194 : decode cX11_init 194 = .ok (.new 66, 3) := by decide +kernel
theorem dX11_init_197 : decode cX11_init 197 = .ok (.dup, 1) := by decide +kernel
theorem dX11_init_198 : decode cX11_init 198 = .ok (.invokespecial 68, 3) := by decide +kernel
theorem dX11_init_201 : decode cX11_init 201 = .ok (.putfield 69, 3) := by decide +kernel
theorem dX11_init_204 : decode cX11_init 204 = .ok (.aload_n 0, 1) := by decide +kernel
theorem dX11_init_205 : decode cX11_init 205 = .ok (.new 73, 3) := by decide +kernel
theorem dX11_init_208 : decode cX11_init 208 = .ok (.dup, 1) := by decide +kernel
theorem dX11_init_209 : decode cX11_init 209 = .ok (.invokespecial 75, 3) := by decide +kernel
theorem dX11_init_212 : decode cX11_init 212 = .ok (.putfield 76, 3) := by decide +kernel
theorem dX11_init_215 : decode cX11_init 215 = .ok (.aload_n 0, 1) := by decide +kernel
theorem dX11_init_216 : decode cX11_init 216 = .ok (.bipush 6, 2) := by decide +kernel
theorem dX11_init_218 : decode cX11_init 218 = .ok (.newarray .int, 2) := by decide +kernel
theorem dX11_init_220 : decode cX11_init 220 = .ok (.putfield 80, 3) := by decide +kernel
theorem dX11_init_223 : decode cX11_init 223 = .ok (.return_, 1) := by decide +kernel
theorem dX11_row_0 : decode cX11_row 0 = .ok (.iload_n 1, 1) := by decide +kernel
theorem dX11_row_1 : decode cX11_row 1 = .ok (.invokestatic 84, 3) := by decide +kernel
theorem dX11_row_4 : decode cX11_row 4 = .ok (.ifCond .eq 18, 3) := by decide +kernel
theorem dX11_row_7 : decode cX11_row 7 = .ok (.iload_n 2, 1) := by decide +kernel
theorem dX11_row_8 : decode cX11_row 8 = .ok (.ifCond .lt 14, 3) := by decide +kernel
theorem dX11_row_11 : decode cX11_row 11 = .ok (.iload_n 2, 1) := by decide +kernel
theorem dX11_row_12 : decode cX11_row 12 = .ok (.iconst 2, 1) := by decide +kernel
theorem dX11_row_13 : decode cX11_row 13 = .ok (.if_icmp .gt 9, 3) := by decide +kernel
theorem dX11_row_16 : decode cX11_row 16 = .ok (.iload_n 3, 1) := by decide +kernel
theorem dX11_row_17 : decode cX11_row 17 = .ok (.bipush 40, 2) := by decide +kernel
theorem dX11_row_19 : decode cX11_row 19 = .ok (.if_icmp .le 6, 3) := by decide +kernel
theorem dX11_row_22 : decode cX11_row 22 = .ok (.ldc 88, 2) := by decide +kernel
theorem dX11_row_24 : decode cX11_row 24 = .ok (.ireturn, 1) := by decide +kernel
theorem dX11_row_25 : decode cX11_row 25 = .ok (.iload_n 3, 1) := by decide +kernel
theorem dX11_row_26 : decode cX11_row 26 = .ok (.ifCond .ge 9, 3) := by decide +kernel
theorem dX11_row_29 : decode cX11_row 29 = .ok (.aload_n 0, 1) := by decide +kernel
theorem dX11_row_30 : decode cX11_row 30 = .ok (.iconst 4, 1) := by decide +kernel
theorem dX11_row_31 : decode cX11_row 31 = .ok (.invokevirtual 89, 3) := by decide +kernel
theorem dX11_row_34 : decode cX11_row 34 = .ok (.ireturn, 1) := by decide +kernel
theorem dX11_row_35 : decode cX11_row 35 = .ok (.aload_n 0, 1) := by decide +kernel
theorem dX11_row_36 : decode cX11_row 36 = .ok (.getfield 10, 3) := by decide +kernel
theorem dX11_row_39 : decode cX11_row 39 = .ok (.iload_n 1, 1) := by decide +kernel
theorem dX11_row_40 : decode cX11_row 40 = .ok (.iload_n 2, 1) := by decide +kernel
theorem dX11_row_41 : decode cX11_row 41 = .ok (.iload_n 3, 1) := by decide +kernel
theorem dX11_row_42 : decode cX11_row 42 = .ok (.invokevirtual 93, 3) := by decide +kernel
theorem dX11_row_45 : decode cX11_row 45 = .ok (.aload_n 0, 1) := by decide +kernel
theorem dX11_row_46 : decode cX11_row 46 = .ok (.iload_n 3, 1) := by decide +kernel
theorem dX11_row_47 : decode cX11_row 47 = .ok (.invokevirtual 97, 3) := by decide +kernel
theorem dX11_row_50 : decode cX11_row 50 = .ok (.ireturn, 1) := by decide +kernel
theorem dX11_set_0 : decode cX11_set 0 = .ok (.iload_n 1, 1) := by decide +kernel
theorem dX11_set_1 : decode cX11_set 1 = .ok (.invokestatic 84, 3) := by decide +kernel
theorem dX11_set_4 : decode cX11_set 4 = .ok (.ifCond .ne 6, 3) := by decide +kernel
theorem dX11_set_7 : decode cX11_set 7 = .ok (.ldc 88, 2) := by decide +kernel
theorem dX11_set_9 : decode cX11_set 9 = .ok (.ireturn, 1) := by decide +kernel
theorem dX11_set_10 : decode cX11_set 10 = .ok (.aload_n 0, 1) := by decide +kernel
theorem dX11_set_11 : decode cX11_set 11 = .ok (.getfield 10, 3) := by decide +kernel
theorem dX11_set_14 : decode cX11_set 14 = .ok (.iload_n 1, 1) := by decide +kernel
theorem dX11_set_15 : decode cX11_set 15 = .ok (.iload_n 2, 1) := by decide +kernel
theorem dX11_set_16 : decode cX11_set 16 = .ok (.iconst 1, 1) := by decide +kernel
theorem dX11_set_17 : decode cX11_set 17 = .ok (.invokevirtual 100, 3) := by decide +kernel
theorem dX11_set_20 : decode cX11_set 20 = .ok (.istore 4, 2) := by decide +kernel
theorem dX11_set_22 : decode cX11_set 22 = .ok (.iload 4, 2) := by decide +kernel
theorem dX11_set_24 : decode cX11_set 24 = .ok (.ifCond .eq 10, 3) := by decide +kernel
theorem dX11_set_27 : decode cX11_set 27 = .ok (.aload_n 0, 1) := by decide +kernel
theorem dX11_set_28 : decode cX11_set 28 = .ok (.iload 4, 2) := by decide +kernel
theorem dX11_set_30 : decode cX11_set 30 = .ok (.invokevirtual 89, 3) := by decide +kernel
theorem dX11_set_33 : decode cX11_set 33 = .ok (.ireturn, 1) := by decide +kernel
theorem dX11_set_34 : decode cX11_set 34 = .ok (.aload_n 0, 1) := by decide +kernel
theorem dX11_set_35 : decode cX11_set 35 = .ok (.aload_n 0, 1) := by decide +kernel
theorem dX11_set_36 : decode cX11_set 36 = .ok (.getfield 10, 3) := by decide +kernel
theorem dX11_set_39 : decode cX11_set 39 = .ok (.iload_n 1, 1) := by decide +kernel
theorem dX11_set_40 : decode cX11_set 40 = .ok (.iload_n 2, 1) := by decide +kernel
theorem dX11_set_41 : decode cX11_set 41 = .ok (.iload_n 3, 1) := by decide +kernel
theorem dX11_set_42 : decode cX11_set 42 = .ok (.invokevirtual 104, 3) := by decide +kernel
theorem dX11_set_45 : decode cX11_set 45 = .ok (.invokevirtual 97, 3) := by decide +kernel
theorem dX11_set_48 : decode cX11_set 48 = .ok (.ireturn, 1) := by decide +kernel
theorem dX11_copy_0 : decode cX11_copy 0 = .ok (.iload_n 1, 1) := by decide +kernel
theorem dX11_copy_1 : decode cX11_copy 1 = .ok (.invokestatic 84, 3) := by decide +kernel
theorem dX11_copy_4 : decode cX11_copy 4 = .ok (.ifCond .eq 10, 3) := by decide +kernel
theorem dX11_copy_7 : decode cX11_copy 7 = .ok (.iload_n 3, 1) := by decide +kernel
theorem dX11_copy_8 : decode cX11_copy 8 = .ok (.invokestatic 84, 3) := by decide +kernel
theorem dX11_copy_11 : decode cX11_copy 11 = .ok (.ifCond .ne 6, 3) := by decide +kernel
theorem dX11_copy_14 : decode cX11_copy 14 = .ok (.ldc 88, 2) := by decide +kernel
theorem dX11_copy_16 : decode cX11_copy 16 = .ok (.ireturn, 1) := by decide +kernel
theorem dX11_copy_17 : decode cX11_copy 17 = .ok (.aload_n 0, 1) := by decide +kernel
theorem dX11_copy_18 : decode cX11_copy 18 = .ok (.getfield 10, 3) := by decide +kernel
theorem dX11_copy_21 : decode cX11_copy 21 = .ok (.iload_n 1, 1) := by decide +kernel
theorem dX11_copy_22 : decode cX11_copy 22 = .ok (.invokevirtual 107, 3) := by decide +kernel
theorem dX11_copy_25 : decode cX11_copy 25 = .ok (.ifCond .ne 14, 3) := by decide +kernel
theorem dX11_copy_28 : decode cX11_copy 28 = .ok (.aload_n 0, 1) := by decide +kernel
theorem dX11_copy_29 : decode cX11_copy 29 = .ok (.getfield 10, 3) := by decide +kernel
theorem dX11_copy_32 : decode cX11_copy 32 = .ok (.iload_n 3, 1) := by decide +kernel
theorem dX11_copy_33 : decode cX11_copy 33 = .ok (.invokevirtual 107, 3) := by decide +kernel
theorem dX11_copy_36 : decode cX11_copy 36 = .ok (.ifCond .eq 9, 3) := by decide +kernel
theorem dX11_copy_39 : decode cX11_copy 39 = .ok (.aload_n 0, 1) := by decide +kernel
theorem dX11_copy_40 : decode cX11_copy 40 = .ok (.iconst 1, 1) := by decide +kernel
theorem dX11_copy_41 : decode cX11_copy 41 = .ok (.invokevirtual 89, 3) := by decide +kernel
theorem dX11_copy_44 : decode cX11_copy 44 = .ok (.ireturn, 1) := by decide +kernel
theorem dX11_copy_45 : decode cX11_copy 45 = .ok (.aload_n 0, 1) := by decide +kernel
theorem dX11_copy_46 : decode cX11_copy 46 = .ok (.getfield 10, 3) := by decide +kernel
theorem dX11_copy_49 : decode cX11_copy 49 = .ok (.getfield 110, 3) := by decide +kernel
theorem dX11_copy_52 : decode cX11_copy 52 = .ok (.iload_n 1, 1) := by decide +kernel
theorem dX11_copy_53 : decode cX11_copy 53 = .ok (.iaload, 1) := by decide +kernel
theorem dX11_copy_54 : decode cX11_copy 54 = .ok (.aload_n 0, 1) := by decide +kernel
theorem dX11_copy_55 : decode cX11_copy 55 = .ok (.getfield 10, 3) := by decide +kernel
