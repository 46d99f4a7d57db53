theorem dX12_isLetter_20 : decode cX12_isLetter 20 = .ok (.if_icmp .ne 7, 3) := by decide +kernel
theorem dX12_isLetter_23 : decode cX12_isLetter 23 = .ok (.iconst 1, 1) := by decide +kernel
theorem dX12_isLetter_24 : decode cX12_isLetter 24 = .ok (.goto 4, 3) := by decide +kernel
theorem dX12_isLetter_27 : decode cX12_isLetter 27 = .ok (.iconst 0, 1) := by decide +kernel
theorem dX12_isLetter_28 : decode cX12_isLetter 28 = .ok (.ireturn, 1) := by decide +kernel
theorem dX12_number_0 : decode cX12_number 0 = .ok (.aload_n 0, 1) := by decide +kernel
theorem dX12_number_1 : decode cX12_number 1 = .ok (.getfield 78, 3) := by decide +kernel
theorem dX12_number_4 : decode cX12_number 4 = .ok (.ifCond .ne 16, 3) := by decide +kernel
theorem dX12_number_7 : decode cX12_number 7 = .ok (.aload_n 0, 1) := by decide +kernel
theorem dX12_number_8 : decode cX12_number 8 = .ok (.getfield 102, 3) := by decide +kernel
theorem dX12_number_11 : decode cX12_number 11 = .ok (.iconst 3, 1) := by decide +kernel
theorem dX12_number_12 : decode cX12_number 12 = .ok (.if_icmp .eq 8, 3) := by decide +kernel
theorem dX12_number_15 : decode cX12_number 15 = .ok (.aload_n 0, 1) := by decide +kernel
theorem dX12_number_16 : decode cX12_number 16 = .ok (.iconst 1, 1) := by decide +kernel
theorem dX12_number_17 : decode cX12_number 17 = .ok (.invokevirtual 105, 3) := by decide +kernel
theorem dX12_number_20 : decode cX12_number 20 = .ok (.aload_n 0, 1) := by decide +kernel
theorem dX12_number_21 : decode cX12_number 21 = .ok (.getfield 78, 3) := by decide +kernel
theorem dX12_number_24 : decode cX12_number 24 = .ok (.ifCond .ne 23, 3) := by decide +kernel
theorem dX12_number_27 : decode cX12_number 27 = .ok (.aload_n 0, 1) := by decide +kernel
theorem dX12_number_28 : decode cX12_number 28 = .ok (.getfield 91, 3) := by decide +kernel
theorem dX12_number_31 : decode cX12_number 31 = .ok (.i2l, 1) := by decide +kernel
theorem dX12_number_32 : decode cX12_number 32 = .ok (.iload_n 1, 1) := by decide +kernel
theorem dX12_number_33 : decode cX12_number 33 = .ok (.i2l, 1) := by decide +kernel
theorem dX12_number_34 : decode cX12_number 34 = .ok (.iload_n 2, 1) := by decide +kernel
theorem dX12_number_35 : decode cX12_number 35 = .ok (.i2l, 1) := by decide +kernel
theorem dX12_number_36 : decode cX12_number 36 = .ok (.invokestatic 57, 3) := by decide +kernel
theorem dX12_number_39 : decode cX12_number 39 = .ok (.ifCond .ne 8, 3) := by decide +kernel
theorem dX12_number_42 : decode cX12_number 42 = .ok (.aload_n 0, 1) := by decide +kernel
theorem dX12_number_43 : decode cX12_number 43 = .ok (.iconst 2, 1) := by decide +kernel
theorem dX12_number_44 : decode cX12_number 44 = .ok (.invokevirtual 105, 3) := by decide +kernel
theorem dX12_number_47 : decode cX12_number 47 = .ok (.aload_n 0, 1) := by decide +kernel
theorem dX12_number_48 : decode cX12_number 48 = .ok (.getfield 78, 3) := by decide +kernel
theorem dX12_number_51 : decode cX12_number 51 = .ok (.ifCond .ne 10, 3) := by decide +kernel
theorem dX12_number_54 : decode cX12_number 54 = .ok (.aload_n 0, 1) := by decide +kernel
theorem dX12_number_55 : decode cX12_number 55 = .ok (.getfield 91, 3) := by decide +kernel
theorem dX12_number_58 : decode cX12_number 58 = .ok (.goto 4, 3) := by decide +kernel
theorem dX12_number_61 : decode cX12_number 61 = .ok (.iload_n 1, 1) := by decide +kernel
theorem dX12_number_62 : decode cX12_number 62 = .ok (.istore_n 3, 1) := by decide +kernel
theorem dX12_number_63 : decode cX12_number 63 = .ok (.aload_n 0, 1) := by decide +kernel
theorem dX12_number_64 : decode cX12_number 64 = .ok (.iconst 1, 1) := by decide +kernel
theorem dX12_number_65 : decode cX12_number 65 = .ok (.invokevirtual 112, 3) := by decide +kernel
theorem dX12_number_68 : decode cX12_number 68 = .ok (.iload_n 3, 1) := by decide +kernel
theorem dX12_number_69 : decode cX12_number 69 = .ok (.ireturn, 1) := by decide +kernel
theorem dX12_mustSign_0 : decode cX12_mustSign 0 = .ok (.aload_n 0, 1) := by decide +kernel
theorem dX12_mustSign_1 : decode cX12_mustSign 1 = .ok (.aload_n 0, 1) := by decide +kernel
theorem dX12_mustSign_2 : decode cX12_mustSign 2 = .ok (.getfield 102, 3) := by decide +kernel
theorem dX12_mustSign_5 : decode cX12_mustSign 5 = .ok (.iconst 4, 1) := by decide +kernel
theorem dX12_mustSign_6 : decode cX12_mustSign 6 = .ok (.if_icmp .ne 15, 3) := by decide +kernel
theorem dX12_mustSign_9 : decode cX12_mustSign 9 = .ok (.aload_n 0, 1) := by decide +kernel
theorem dX12_mustSign_10 : decode cX12_mustSign 10 = .ok (.getfield 91, 3) := by decide +kernel
theorem dX12_mustSign_13 : decode cX12_mustSign 13 = .ok (.iload_n 1, 1) := by decide +kernel
theorem dX12_mustSign_14 : decode cX12_mustSign 14 = .ok (.if_icmp .ne 7, 3) := by decide +kernel
theorem dX12_mustSign_17 : decode cX12_mustSign 17 = .ok (.iconst 1, 1) := by decide +kernel
theorem dX12_mustSign_18 : decode cX12_mustSign 18 = .ok (.goto 4, 3) := by decide +kernel
theorem dX12_mustSign_21 : decode cX12_mustSign 21 = .ok (.iconst 0, 1) := by decide +kernel
theorem dX12_mustSign_22 : decode cX12_mustSign 22 = .ok (.invokevirtual 112, 3) := by decide +kernel
theorem dX12_mustSign_25 : decode cX12_mustSign 25 = .ok (.return_, 1) := by decide +kernel
theorem dX12_begin_0 : decode cX12_begin 0 = .ok (.aload_n 0, 1) := by decide +kernel
theorem dX12_begin_1 : decode cX12_begin 1 = .ok (.iconst 0, 1) := by decide +kernel
theorem dX12_begin_2 : decode cX12_begin 2 = .ok (.putfield 87, 3) := by decide +kernel
theorem dX12_begin_5 : decode cX12_begin 5 = .ok (.aload_n 0, 1) := by decide +kernel
theorem dX12_begin_6 : decode cX12_begin 6 = .ok (.iconst 0, 1) := by decide +kernel
theorem dX12_begin_7 : decode cX12_begin 7 = .ok (.putfield 78, 3) := by decide +kernel
theorem dX12_begin_10 : decode cX12_begin 10 = .ok (.aload_n 0, 1) := by decide +kernel
theorem dX12_begin_11 : decode cX12_begin 11 = .ok (.invokevirtual 109, 3) := by decide +kernel
theorem dX12_begin_14 : decode cX12_begin 14 = .ok (.return_, 1) := by decide +kernel
theorem dX12_failed_0 : decode cX12_failed 0 = .ok (.aload_n 0, 1) := by decide +kernel
theorem dX12_failed_1 : decode cX12_failed 1 = .ok (.getfield 78, 3) := by decide +kernel
theorem dX12_failed_4 : decode cX12_failed 4 = .ok (.ifCond .ne 16, 3) := by decide +kernel
theorem dX12_failed_7 : decode cX12_failed 7 = .ok (.aload_n 0, 1) := by decide +kernel
theorem dX12_failed_8 : decode cX12_failed 8 = .ok (.getfield 102, 3) := by decide +kernel
theorem dX12_failed_11 : decode cX12_failed 11 = .ok (.iconst 1, 1) := by decide +kernel
theorem dX12_failed_12 : decode cX12_failed 12 = .ok (.if_icmp .eq 8, 3) := by decide +kernel
theorem dX12_failed_15 : decode cX12_failed 15 = .ok (.aload_n 0, 1) := by decide +kernel
theorem dX12_failed_16 : decode cX12_failed 16 = .ok (.iconst 1, 1) := by decide +kernel
theorem dX12_failed_17 : decode cX12_failed 17 = .ok (.invokevirtual 105, 3) := by decide +kernel
theorem dX12_failed_20 : decode cX12_failed 20 = .ok (.aload_n 0, 1) := by decide +kernel
theorem dX12_failed_21 : decode cX12_failed 21 = .ok (.iconst 0, 1) := by decide +kernel
theorem dX12_failed_22 : decode cX12_failed 22 = .ok (.putfield 74, 3) := by decide +kernel
theorem dX12_failed_25 : decode cX12_failed 25 = .ok (.aload_n 0, 1) := by decide +kernel
theorem dX12_failed_26 : decode cX12_failed 26 = .ok (.aload_n 0, 1) := by decide +kernel
theorem dX12_failed_27 : decode cX12_failed 27 = .ok (.getfield 78, 3) := by decide +kernel
theorem dX12_failed_30 : decode cX12_failed 30 = .ok (.ifCond .le 10, 3) := by decide +kernel
theorem dX12_failed_33 : decode cX12_failed 33 = .ok (.aload_n 0, 1) := by decide +kernel
theorem dX12_failed_34 : decode cX12_failed 34 = .ok (.getfield 78, 3) := by decide +kernel
theorem dX12_failed_37 : decode cX12_failed 37 = .ok (.goto 7, 3) := by decide +kernel
theorem dX12_failed_40 : decode cX12_failed 40 = .ok (.aload_n 0, 1) := by decide +kernel
theorem dX12_failed_41 : decode cX12_failed 41 = .ok (.getfield 116, 3) := by decide +kernel
theorem dX12_failed_44 : decode cX12_failed 44 = .ok (.putfield 116, 3) := by decide +kernel
theorem dX12_failed_47 : decode cX12_failed 47 = .ok (.aload_n 0, 1) := by decide +kernel
theorem dX12_failed_48 : decode cX12_failed 48 = .ok (.getfield 78, 3) := by decide +kernel
theorem dX12_failed_51 : decode cX12_failed 51 = .ok (.ifCond .le 7, 3) := by decide +kernel
theorem dX12_failed_54 : decode cX12_failed 54 = .ok (.iconst 1, 1) := by decide +kernel
theorem dX12_failed_55 : decode cX12_failed 55 = .ok (.goto 4, 3) := by decide +kernel
theorem dX12_failed_58 : decode cX12_failed 58 = .ok (.iconst 0, 1) := by decide +kernel
theorem dX12_failed_59 : decode cX12_failed 59 = .ok (.ireturn, 1) := by decide +kernel
theorem dX12_fault_0 : decode cX12_fault 0 = .ok (.aload_n 0, 1) := by decide +kernel
theorem dX12_fault_1 : decode cX12_fault 1 = .ok (.iconst 0, 1) := by decide +kernel
theorem dX12_fault_2 : decode cX12_fault 2 = .ok (.putfield 47, 3) := by decide +kernel
theorem dX12_fault_5 : decode cX12_fault 5 = .ok (.aload_n 0, 1) := by decide +kernel
theorem dX12_fault_6 : decode cX12_fault 6 = .ok (.getfield 116, 3) := by decide +kernel
theorem dX12_fault_9 : decode cX12_fault 9 = .ok (.ireturn, 1) := by decide +kernel
theorem dX12_kindBy_0 : decode cX12_kindBy 0 = .ok (.iload_n 0, 1) := by decide +kernel
theorem dX12_kindBy_1 : decode cX12_kindBy 1 = .ok (.bipush 110, 2) := by decide +kernel
theorem dX12_kindBy_3 : decode cX12_kindBy 3 = .ok (.if_icmp .ne 7, 3) := by decide +kernel
theorem dX12_kindBy_6 : decode cX12_kindBy 6 = .ok (.iconst 1, 1) := by decide +kernel
theorem dX12_kindBy_7 : decode cX12_kindBy 7 = .ok (.goto 45, 3) := by decide +kernel
theorem dX12_kindBy_10 : decode cX12_kindBy 10 = .ok (.iload_n 0, 1) := by decide +kernel
theorem dX12_kindBy_11 : decode cX12_kindBy 11 = .ok (.bipush 99, 2) := by decide +kernel
theorem dX12_kindBy_13 : decode cX12_kindBy 13 = .ok (.if_icmp .ne 7, 3) := by decide +kernel
theorem dX12_kindBy_16 : decode cX12_kindBy 16 = .ok (.iconst 2, 1) := by decide +kernel
theorem dX12_kindBy_17 : decode cX12_kindBy 17 = .ok (.goto 35, 3) := by decide +kernel
theorem dX12_kindBy_20 : decode cX12_kindBy 20 = .ok (.iload_n 0, 1) := by decide +kernel
theorem dX12_kindBy_21 : decode cX12_kindBy 21 = .ok (.bipush 102, 2) := by decide +kernel
theorem dX12_kindBy_23 : decode cX12_kindBy 23 = .ok (.if_icmp .ne 7, 3) := by decide +kernel
theorem dX12_kindBy_26 : decode cX12_kindBy 26 = .ok (.iconst 3, 1) := by decide +kernel
theorem dX12_kindBy_27 : decode cX12_kindBy 27 = .ok (.goto 25, 3) := by decide +kernel
theorem dX12_kindBy_30 : decode cX12_kindBy 30 = .ok (.iload_n 0, 1) := by decide +kernel
theorem dX12_kindBy_31 : decode cX12_kindBy 31 = .ok (.bipush 115, 2) := by decide +kernel
theorem dX12_kindBy_33 : decode cX12_kindBy 33 = .ok (.if_icmp .ne 7, 3) := by decide +kernel
theorem dX12_kindBy_36 : decode cX12_kindBy 36 = .ok (.iconst 4, 1) := by decide +kernel
theorem dX12_kindBy_37 : decode cX12_kindBy 37 = .ok (.goto 15, 3) := by decide +kernel
theorem dX12_kindBy_40 : decode cX12_kindBy 40 = .ok (.iload_n 0, 1) := by decide +kernel
theorem dX12_kindBy_41 : decode cX12_kindBy 41 = .ok (.bipush 109, 2) := by decide +kernel
theorem dX12_kindBy_43 : decode cX12_kindBy 43 = .ok (.if_icmp .ne 7, 3) := by decide +kernel
theorem dX12_kindBy_46 : decode cX12_kindBy 46 = .ok (.iconst 5, 1) := by decide +kernel
theorem dX12_kindBy_47 : decode cX12_kindBy 47 = .ok (.goto 5, 3) := by decide +kernel
theorem dX12_kindBy_50 : decode cX12_kindBy 50 = .ok (.ldc 90, 2) := by decide +kernel
theorem dX12_kindBy_52 : decode cX12_kindBy 52 = .ok (.ireturn, 1) := by decide +kernel
theorem dX12_isTold_0 : decode cX12_isTold 0 = .ok (.iconst 0, 1) := by decide +kernel
theorem dX12_isTold_1 : decode cX12_isTold 1 = .ok (.istore 4, 2) := by decide +kernel
theorem dX12_isTold_3 : decode cX12_isTold 3 = .ok (.iconst 0, 1) := by decide +kernel
theorem dX12_isTold_4 : decode cX12_isTold 4 = .ok (.istore 5, 2) := by decide +kernel
theorem dX12_isTold_6 : decode cX12_isTold 6 = .ok (.iload 5, 2) := by decide +kernel
theorem dX12_isTold_8 : decode cX12_isTold 8 = .ok (.aload_n 0, 1) := by decide +kernel
theorem dX12_isTold_9 : decode cX12_isTold 9 = .ok (.getfield 22, 3) := by decide +kernel
theorem dX12_isTold_12 : decode cX12_isTold 12 = .ok (.iconst 3, 1) := by decide +kernel
theorem dX12_isTold_13 : decode cX12_isTold 13 = .ok (.iaload, 1) := by decide +kernel
theorem dX12_isTold_14 : decode cX12_isTold 14 = .ok (.if_icmp .ge 82, 3) := by decide +kernel
theorem dX12_isTold_17 : decode cX12_isTold 17 = .ok (.bipush 7, 2) := by decide +kernel
theorem dX12_isTold_19 : decode cX12_isTold 19 = .ok (.iconst 3, 1) := by decide +kernel
theorem dX12_isTold_20 : decode cX12_isTold 20 = .ok (.iload 5, 2) := by decide +kernel
theorem dX12_isTold_22 : decode cX12_isTold 22 = .ok (.imul, 1) := by decide +kernel
theorem dX12_isTold_23 : decode cX12_isTold 23 = .ok (.iadd, 1) := by decide +kernel
theorem dX12_isTold_24 : decode cX12_isTold 24 = .ok (.istore 6, 2) := by decide +kernel
theorem dX12_isTold_26 : decode cX12_isTold 26 = .ok (.iload 4, 2) := by decide +kernel
theorem dX12_isTold_28 : decode cX12_isTold 28 = .ok (.ifCond .ne 55, 3) := by decide +kernel
theorem dX12_isTold_31 : decode cX12_isTold 31 = .ok (.aload_n 0, 1) := by decide +kernel
theorem dX12_isTold_32 : decode cX12_isTold 32 = .ok (.getfield 22, 3) := by decide +kernel
theorem dX12_isTold_35 : decode cX12_isTold 35 = .ok (.iload 6, 2) := by decide +kernel
theorem dX12_isTold_37 : decode cX12_isTold 37 = .ok (.iaload, 1) := by decide +kernel
theorem dX12_isTold_38 : decode cX12_isTold 38 = .ok (.iload_n 1, 1) := by decide +kernel
theorem dX12_isTold_39 : decode cX12_isTold 39 = .ok (.if_icmp .ne 18, 3) := by decide +kernel
theorem dX12_isTold_42 : decode cX12_isTold 42 = .ok (.aload_n 0, 1) := by decide +kernel
theorem dX12_isTold_43 : decode cX12_isTold 43 = .ok (.getfield 22, 3) := by decide +kernel
theorem dX12_isTold_46 : decode cX12_isTold 46 = .ok (.iload 6, 2) := by decide +kernel
theorem dX12_isTold_48 : decode cX12_isTold 48 = .ok (.iconst 1, 1) := by decide +kernel
theorem dX12_isTold_49 : decode cX12_isTold 49 = .ok (.iadd, 1) := by decide +kernel
theorem dX12_isTold_50 : decode cX12_isTold 50 = .ok (.iaload, 1) := by decide +kernel
theorem dX12_isTold_51 : decode cX12_isTold 51 = .ok (.i2l, 1) := by decide +kernel
theorem dX12_isTold_52 : decode cX12_isTold 52 = .ok (.lload_n 2, 1) := by decide +kernel
theorem dX12_isTold_53 : decode cX12_isTold 53 = .ok (.lcmp, 1) := by decide +kernel
theorem dX12_isTold_54 : decode cX12_isTold 54 = .ok (.ifCond .eq 29, 3) := by decide +kernel
theorem dX12_isTold_57 : decode cX12_isTold 57 = .ok (.aload_n 0, 1) := by decide +kernel
theorem dX12_isTold_58 : decode cX12_isTold 58 = .ok (.getfield 22, 3) := by decide +kernel
theorem dX12_isTold_61 : decode cX12_isTold 61 = .ok (.iload 6, 2) := by decide +kernel
theorem dX12_isTold_63 : decode cX12_isTold 63 = .ok (.iaload, 1) := by decide +kernel
theorem dX12_isTold_64 : decode cX12_isTold 64 = .ok (.i2l, 1) := by decide +kernel
theorem dX12_isTold_65 : decode cX12_isTold 65 = .ok (.lload_n 2, 1) := by decide +kernel
theorem dX12_isTold_66 : decode cX12_isTold 66 = .ok (.lcmp, 1) := by decide +kernel
theorem dX12_isTold_67 : decode cX12_isTold 67 = .ok (.ifCond .ne 20, 3) := by decide +kernel
theorem dX12_isTold_70 : decode cX12_isTold 70 = .ok (.aload_n 0, 1) := by decide +kernel
theorem dX12_isTold_71 : decode cX12_isTold 71 = .ok (.getfield 22, 3) := by decide +kernel
theorem dX12_isTold_74 : decode cX12_isTold 74 = .ok (.iload 6, 2) := by decide +kernel
theorem dX12_isTold_76 : decode cX12_isTold 76 = .ok (.iconst 1, 1) := by decide +kernel
theorem dX12_isTold_77 : decode cX12_isTold 77 = .ok (.iadd, 1) := by decide +kernel
theorem dX12_isTold_78 : decode cX12_isTold 78 = .ok (.iaload, 1) := by decide +kernel
theorem dX12_isTold_79 : decode cX12_isTold 79 = .ok (.iload_n 1, 1) := by decide +kernel
theorem dX12_isTold_80 : decode cX12_isTold 80 = .ok (.if_icmp .ne 7, 3) := by decide +kernel
theorem dX12_isTold_83 : decode cX12_isTold 83 = .ok (.iconst 1, 1) := by decide +kernel
theorem dX12_isTold_84 : decode cX12_isTold 84 = .ok (.goto 4, 3) := by decide +kernel
theorem dX12_isTold_87 : decode cX12_isTold 87 = .ok (.iconst 0, 1) := by decide +kernel
theorem dX12_isTold_88 : decode cX12_isTold 88 = .ok (.istore 4, 2) := by decide +kernel
theorem dX12_isTold_90 : decode cX12_isTold 90 = .ok (.iinc 5 1, 3) := by decide +kernel
theorem dX12_isTold_93 : decode cX12_isTold 93 = .ok (.goto (-87), 3) := by decide +kernel
theorem dX12_isTold_96 : decode cX12_isTold 96 = .ok (.iload 4, 2) := by decide +kernel
theorem dX12_isTold_98 : decode cX12_isTold 98 = .ok (.ireturn, 1) := by decide +kernel
theorem dX12_readPath_0 : decode cX12_readPath 0 = .ok (.aload_n 0, 1) := by decide +kernel
theorem dX12_readPath_1 : decode cX12_readPath 1 = .ok (.getfield 22, 3) := by decide +kernel
theorem dX12_readPath_4 : decode cX12_readPath 4 = .ok (.iconst 3, 1) := by decide +kernel
theorem dX12_readPath_5 : decode cX12_readPath 5 = .ok (.iaload, 1) := by decide +kernel
theorem dX12_readPath_6 : decode cX12_readPath 6 = .ok (.bipush 12, 2) := by decide +kernel
theorem dX12_readPath_8 : decode cX12_readPath 8 = .ok (.if_icmp .ne 8, 3) := by decide +kernel
theorem dX12_readPath_11 : decode cX12_readPath 11 = .ok (.aload_n 0, 1) := by decide +kernel
theorem dX12_readPath_12 : decode cX12_readPath 12 = .ok (.iconst 3, 1) := by decide +kernel
theorem dX12_readPath_13 : decode cX12_readPath 13 = .ok (.invokevirtual 105, 3) := by decide +kernel
theorem dX12_readPath_16 : decode cX12_readPath 16 = .ok (.aload_n 0, 1) := by decide +kernel
theorem dX12_readPath_17 : decode cX12_readPath 17 = .ok (.aload_n 0, 1) := by decide +kernel
theorem dX12_readPath_18 : decode cX12_readPath 18 = .ok (.bipush 112, 2) := by decide +kernel
theorem dX12_readPath_20 : decode cX12_readPath 20 = .ok (.invokevirtual 119, 3) := by decide +kernel
theorem dX12_readPath_23 : decode cX12_readPath 23 = .ok (.invokevirtual 112, 3) := by decide +kernel
theorem dX12_readPath_26 : decode cX12_readPath 26 = .ok (.aload_n 0, 1) := by decide +kernel
theorem dX12_readPath_27 : decode cX12_readPath 27 = .ok (.iconst 0, 1) := by decide +kernel
theorem dX12_readPath_28 : decode cX12_readPath 28 = .ok (.bipush 7, 2) := by decide +kernel
theorem dX12_readPath_30 : decode cX12_readPath 30 = .ok (.invokevirtual 122, 3) := by decide +kernel
theorem dX12_readPath_33 : decode cX12_readPath 33 = .ok (.istore_n 1, 1) := by decide +kernel
theorem dX12_readPath_34 : decode cX12_readPath 34 = .ok (.aload_n 0, 1) := by decide +kernel
theorem dX12_readPath_35 : decode cX12_readPath 35 = .ok (.bipush 44, 2) := by decide +kernel
theorem dX12_readPath_37 : decode cX12_readPath 37 = .ok (.invokevirtual 126, 3) := by decide +kernel
theorem dX12_readPath_40 : decode cX12_readPath 40 = .ok (.aload_n 0, 1) := by decide +kernel
theorem dX12_readPath_41 : decode cX12_readPath 41 = .ok (.getfield 78, 3) := by decide +kernel
theorem dX12_readPath_44 : decode cX12_readPath 44 = .ok (.ifCond .ne 37, 3) := by decide +kernel
theorem dX12_readPath_47 : decode cX12_readPath 47 = .ok (.aload_n 0, 1) := by decide +kernel
theorem dX12_readPath_48 : decode cX12_readPath 48 = .ok (.getfield 102, 3) := by decide +kernel
theorem dX12_readPath_51 : decode cX12_readPath 51 = .ok (.iconst 3, 1) := by decide +kernel
theorem dX12_readPath_52 : decode cX12_readPath 52 = .ok (.if_icmp .ne 29, 3) := by decide +kernel
theorem dX12_readPath_55 : decode cX12_readPath 55 = .ok (.aload_n 0, 1) := by decide +kernel
theorem dX12_readPath_56 : decode cX12_readPath 56 = .ok (.getfield 91, 3) := by decide +kernel
theorem dX12_readPath_59 : decode cX12_readPath 59 = .ok (.iload_n 1, 1) := by decide +kernel
theorem dX12_readPath_60 : decode cX12_readPath 60 = .ok (.if_icmp .eq 16, 3) := by decide +kernel
theorem dX12_readPath_63 : decode cX12_readPath 63 = .ok (.aload_n 0, 1) := by decide +kernel
theorem dX12_readPath_64 : decode cX12_readPath 64 = .ok (.iload_n 1, 1) := by decide +kernel
theorem dX12_readPath_65 : decode cX12_readPath 65 = .ok (.aload_n 0, 1) := by decide +kernel
theorem dX12_readPath_66 : decode cX12_readPath 66 = .ok (.getfield 91, 3) := by decide +kernel
theorem dX12_readPath_69 : decode cX12_readPath 69 = .ok (.i2l, 1) := by decide +kernel
theorem dX12_readPath_70 : decode cX12_readPath 70 = .ok (.invokevirtual 129, 3) := by decide +kernel
theorem dX12_readPath_73 : decode cX12_readPath 73 = .ok (.ifCond .eq 8, 3) := by decide +kernel
theorem dX12_readPath_76 : decode cX12_readPath 76 = .ok (.aload_n 0, 1) := by decide +kernel
theorem dX12_readPath_77 : decode cX12_readPath 77 = .ok (.iconst 2, 1) := by decide +kernel
theorem dX12_readPath_78 : decode cX12_readPath 78 = .ok (.invokevirtual 105, 3) := by decide +kernel
theorem dX12_readPath_81 : decode cX12_readPath 81 = .ok (.aload_n 0, 1) := by decide +kernel
theorem dX12_readPath_82 : decode cX12_readPath 82 = .ok (.iconst 0, 1) := by decide +kernel
theorem dX12_readPath_83 : decode cX12_readPath 83 = .ok (.bipush 7, 2) := by decide +kernel
theorem dX12_readPath_85 : decode cX12_readPath 85 = .ok (.invokevirtual 122, 3) := by decide +kernel
theorem dX12_readPath_88 : decode cX12_readPath 88 = .ok (.istore_n 2, 1) := by decide +kernel
theorem dX12_readPath_89 : decode cX12_readPath 89 = .ok (.aload_n 0, 1) := by decide +kernel
theorem dX12_readPath_90 : decode cX12_readPath 90 = .ok (.bipush 44, 2) := by decide +kernel
theorem dX12_readPath_92 : decode cX12_readPath 92 = .ok (.invokevirtual 126, 3) := by decide +kernel
theorem dX12_readPath_95 : decode cX12_readPath 95 = .ok (.aload_n 0, 1) := by decide +kernel
theorem dX12_readPath_96 : decode cX12_readPath 96 = .ok (.iconst 1, 1) := by decide +kernel
theorem dX12_readPath_97 : decode cX12_readPath 97 = .ok (.bipush 9, 2) := by decide +kernel
theorem dX12_readPath_99 : decode cX12_readPath 99 = .ok (.invokevirtual 122, 3) := by decide +kernel
theorem dX12_readPath_102 : decode cX12_readPath 102 = .ok (.istore_n 3, 1) := by decide +kernel
theorem dX12_readPath_103 : decode cX12_readPath 103 = .ok (.aload_n 0, 1) := by decide +kernel
theorem dX12_readPath_104 : decode cX12_readPath 104 = .ok (.bipush 59, 2) := by decide +kernel
theorem dX12_readPath_106 : decode cX12_readPath 106 = .ok (.invokevirtual 126, 3) := by decide +kernel
theorem dX12_readPath_109 : decode cX12_readPath 109 = .ok (.aload_n 0, 1) := by decide +kernel
theorem dX12_readPath_110 : decode cX12_readPath 110 = .ok (.getfield 78, 3) := by decide +kernel
theorem dX12_readPath_113 : decode cX12_readPath 113 = .ok (.ifCond .ne 54, 3) := by decide +kernel
theorem dX12_readPath_116 : decode cX12_readPath 116 = .ok (.bipush 7, 2) := by decide +kernel
theorem dX12_readPath_118 : decode cX12_readPath 118 = .ok (.iconst 3, 1) := by decide +kernel
theorem dX12_readPath_119 : decode cX12_readPath 119 = .ok (.aload_n 0, 1) := by decide +kernel
theorem dX12_readPath_120 : decode cX12_readPath 120 = .ok (.getfield 22, 3) := by decide +kernel
theorem dX12_readPath_123 : decode cX12_readPath 123 = .ok (.iconst 3, 1) := by decide +kernel
theorem dX12_readPath_124 : decode cX12_readPath 124 = .ok (.iaload, 1) := by decide +kernel
theorem dX12_readPath_125 : decode cX12_readPath 125 = .ok (.imul, 1) := by decide +kernel
theorem dX12_readPath_126 : decode cX12_readPath 126 = .ok (.iadd, 1) := by decide +kernel
theorem dX12_readPath_127 : decode cX12_readPath 127 = .ok (.istore 4, 2) := by decide +kernel
theorem dX12_readPath_129 : decode cX12_readPath 129 = .ok (.aload_n 0, 1) := by decide +kernel
theorem dX12_readPath_130 : decode cX12_readPath 130 = .ok (.getfield 22, 3) := by decide +kernel
theorem dX12_readPath_133 : decode cX12_readPath 133 = .ok (.iload 4, 2) := by decide +kernel
theorem dX12_readPath_135 : decode cX12_readPath 135 = .ok (.iload_n 1, 1) := by decide +kernel
theorem dX12_readPath_136 : decode cX12_readPath 136 = .ok (.iastore, 1) := by decide +kernel
theorem dX12_readPath_137 : decode cX12_readPath 137 = .ok (.aload_n 0, 1) := by decide +kernel
theorem dX12_readPath_138 : decode cX12_readPath 138 = .ok (.getfield 22, 3) := by decide +kernel
theorem dX12_readPath_141 : decode cX12_readPath 141 = .ok (.iload 4, 2) := by decide +kernel
theorem dX12_readPath_143 : decode cX12_readPath 143 = .ok (.iconst 1, 1) := by decide +kernel
theorem dX12_readPath_144 : decode cX12_readPath 144 = .ok (.iadd, 1) := by decide +kernel
theorem dX12_readPath_145 : decode cX12_readPath 145 = .ok (.iload_n 2, 1) := by decide +kernel
theorem dX12_readPath_146 : decode cX12_readPath 146 = .ok (.iastore, 1) := by decide +kernel
theorem dX12_readPath_147 : decode cX12_readPath 147 = .ok (.aload_n 0, 1) := by decide +kernel
theorem dX12_readPath_148 : decode cX12_readPath 148 = .ok (.getfield 22, 3) := by decide +kernel
theorem dX12_readPath_151 : decode cX12_readPath 151 = .ok (.iload 4, 2) := by decide +kernel
theorem dX12_readPath_153 : decode cX12_readPath 153 = .ok (.iconst 2, 1) := by decide +kernel
theorem dX12_readPath_154 : decode cX12_readPath 154 = .ok (.iadd, 1) := by decide +kernel
theorem dX12_readPath_155 : decode cX12_readPath 155 = .ok (.iload_n 3, 1) := by decide +kernel
theorem dX12_readPath_156 : decode cX12_readPath 156 = .ok (.iastore, 1) := by decide +kernel
theorem dX12_readPath_157 : decode cX12_readPath 157 = .ok (.aload_n 0, 1) := by decide +kernel
theorem dX12_readPath_158 : decode cX12_readPath 158 = .ok (.getfield 22, 3) := by decide +kernel
theorem dX12_readPath_161 : decode cX12_readPath 161 = .ok (.iconst 3, 1) := by decide +kernel
theorem dX12_readPath_162 : decode cX12_readPath 162 = .ok (.dup2, 1) := by decide +kernel
theorem dX12_readPath_163 : decode cX12_readPath 163 = .ok (.iaload, 1) := by decide +kernel
theorem dX12_readPath_164 : decode cX12_readPath 164 = .ok (.iconst 1, 1) := by decide +kernel
theorem dX12_readPath_165 : decode cX12_readPath 165 = .ok (.iadd, 1) := by decide +kernel
theorem dX12_readPath_166 : decode cX12_readPath 166 = .ok (.iastore, 1) := by decide +kernel
theorem dX12_readPath_167 : decode cX12_readPath 167 = .ok (.return_, 1) := by decide +kernel
theorem dX12_readWitness_0 : decode cX12_readWitness 0 = .ok (.aload_n 0, 1) := by decide +kernel
theorem dX12_readWitness_1 : decode cX12_readWitness 1 = .ok (.getfield 91, 3) := by decide +kernel
theorem dX12_readWitness_4 : decode cX12_readWitness 4 = .ok (.invokestatic 133, 3) := by decide +kernel
theorem dX12_readWitness_7 : decode cX12_readWitness 7 = .ok (.istore_n 1, 1) := by decide +kernel
theorem dX12_readWitness_8 : decode cX12_readWitness 8 = .ok (.aload_n 0, 1) := by decide +kernel
theorem dX12_readWitness_9 : decode cX12_readWitness 9 = .ok (.getfield 22, 3) := by decide +kernel
theorem dX12_readWitness_12 : decode cX12_readWitness 12 = .ok (.iconst 4, 1) := by decide +kernel
theorem dX12_readWitness_13 : decode cX12_readWitness 13 = .ok (.iaload, 1) := by decide +kernel
theorem dX12_readWitness_14 : decode cX12_readWitness 14 = .ok (.bipush 6, 2) := by decide +kernel
theorem dX12_readWitness_16 : decode cX12_readWitness 16 = .ok (.if_icmp .ne 8, 3) := by decide +kernel
theorem dX12_readWitness_19 : decode cX12_readWitness 19 = .ok (.aload_n 0, 1) := by decide +kernel
theorem dX12_readWitness_20 : decode cX12_readWitness 20 = .ok (.iconst 3, 1) := by decide +kernel
theorem dX12_readWitness_21 : decode cX12_readWitness 21 = .ok (.invokevirtual 105, 3) := by decide +kernel
theorem dX12_readWitness_24 : decode cX12_readWitness 24 = .ok (.aload_n 0, 1) := by decide +kernel
theorem dX12_readWitness_25 : decode cX12_readWitness 25 = .ok (.iconst 1, 1) := by decide +kernel
theorem dX12_readWitness_26 : decode cX12_readWitness 26 = .ok (.invokevirtual 112, 3) := by decide +kernel
theorem dX12_readWitness_29 : decode cX12_readWitness 29 = .ok (.aload_n 0, 1) := by decide +kernel
theorem dX12_readWitness_30 : decode cX12_readWitness 30 = .ok (.iconst 0, 1) := by decide +kernel
theorem dX12_readWitness_31 : decode cX12_readWitness 31 = .ok (.bipush 60, 2) := by decide +kernel
theorem dX12_readWitness_33 : decode cX12_readWitness 33 = .ok (.invokevirtual 122, 3) := by decide +kernel
theorem dX12_readWitness_36 : decode cX12_readWitness 36 = .ok (.istore_n 2, 1) := by decide +kernel
theorem dX12_readWitness_37 : decode cX12_readWitness 37 = .ok (.aload_n 0, 1) := by decide +kernel
theorem dX12_readWitness_38 : decode cX12_readWitness 38 = .ok (.bipush 44, 2) := by decide +kernel
theorem dX12_readWitness_40 : decode cX12_readWitness 40 = .ok (.invokevirtual 126, 3) := by decide +kernel
theorem dX12_readWitness_43 : decode cX12_readWitness 43 = .ok (.aload_n 0, 1) := by decide +kernel
theorem dX12_readWitness_44 : decode cX12_readWitness 44 = .ok (.iconst 0, 1) := by decide +kernel
theorem dX12_readWitness_45 : decode cX12_readWitness 45 = .ok (.bipush 7, 2) := by decide +kernel
theorem dX12_readWitness_47 : decode cX12_readWitness 47 = .ok (.invokevirtual 122, 3) := by decide +kernel
theorem dX12_readWitness_50 : decode cX12_readWitness 50 = .ok (.istore_n 3, 1) := by decide +kernel
theorem dX12_readWitness_51 : decode cX12_readWitness 51 = .ok (.aload_n 0, 1) := by decide +kernel
theorem dX12_readWitness_52 : decode cX12_readWitness 52 = .ok (.bipush 59, 2) := by decide +kernel
theorem dX12_readWitness_54 : decode cX12_readWitness 54 = .ok (.invokevirtual 126, 3) := by decide +kernel
theorem dX12_readWitness_57 : decode cX12_readWitness 57 = .ok (.aload_n 0, 1) := by decide +kernel
theorem dX12_readWitness_58 : decode cX12_readWitness 58 = .ok (.getfield 78, 3) := by decide +kernel
theorem dX12_readWitness_61 : decode cX12_readWitness 61 = .ok (.ifCond .ne 54, 3) := by decide +kernel
theorem dX12_readWitness_64 : decode cX12_readWitness 64 = .ok (.bipush 43, 2) := by decide +kernel
theorem dX12_readWitness_66 : decode cX12_readWitness 66 = .ok (.iconst 4, 1) := by decide +kernel
theorem dX12_readWitness_67 : decode cX12_readWitness 67 = .ok (.aload_n 0, 1) := by decide +kernel
theorem dX12_readWitness_68 : decode cX12_readWitness 68 = .ok (.getfield 22, 3) := by decide +kernel
theorem dX12_readWitness_71 : decode cX12_readWitness 71 = .ok (.iconst 4, 1) := by decide +kernel
theorem dX12_readWitness_72 : decode cX12_readWitness 72 = .ok (.iaload, 1) := by decide +kernel
theorem dX12_readWitness_73 : decode cX12_readWitness 73 = .ok (.imul, 1) := by decide +kernel
theorem dX12_readWitness_74 : decode cX12_readWitness 74 = .ok (.iadd, 1) := by decide +kernel
theorem dX12_readWitness_75 : decode cX12_readWitness 75 = .ok (.istore 4, 2) := by decide +kernel
theorem dX12_readWitness_77 : decode cX12_readWitness 77 = .ok (.aload_n 0, 1) := by decide +kernel
theorem dX12_readWitness_78 : decode cX12_readWitness 78 = .ok (.getfield 22, 3) := by decide +kernel
theorem dX12_readWitness_81 : decode cX12_readWitness 81 = .ok (.iload 4, 2) := by decide +kernel
theorem dX12_readWitness_83 : decode cX12_readWitness 83 = .ok (.iload_n 1, 1) := by decide +kernel
theorem dX12_readWitness_84 : decode cX12_readWitness 84 = .ok (.iastore, 1) := by decide +kernel
theorem dX12_readWitness_85 : decode cX12_readWitness 85 = .ok (.aload_n 0, 1) := by decide +kernel
theorem dX12_readWitness_86 : decode cX12_readWitness 86 = .ok (.getfield 22, 3) := by decide +kernel
theorem dX12_readWitness_89 : decode cX12_readWitness 89 = .ok (.iload 4, 2) := by decide +kernel
theorem dX12_readWitness_91 : decode cX12_readWitness 91 = .ok (.iconst 1, 1) := by decide +kernel
theorem dX12_readWitness_92 : decode cX12_readWitness 92 = .ok (.iadd, 1) := by decide +kernel
theorem dX12_readWitness_93 : decode cX12_readWitness 93 = .ok (.iload_n 2, 1) := by decide +kernel
theorem dX12_readWitness_94 : decode cX12_readWitness 94 = .ok (.iastore, 1) := by decide +kernel
theorem dX12_readWitness_95 : decode cX12_readWitness 95 = .ok (.aload_n 0, 1) := by decide +kernel
theorem dX12_readWitness_96 : decode cX12_readWitness 96 = .ok (.getfield 22, 3) := by decide +kernel
theorem dX12_readWitness_99 : decode cX12_readWitness 99 = .ok (.iload 4, 2) := by decide +kernel
theorem dX12_readWitness_101 : decode cX12_readWitness 101 = .ok (.iconst 2, 1) := by decide +kernel
theorem dX12_readWitness_102 : decode cX12_readWitness 102 = .ok (.iadd, 1) := by decide +kernel
theorem dX12_readWitness_103 : decode cX12_readWitness 103 = .ok (.iload_n 3, 1) := by decide +kernel
theorem dX12_readWitness_104 : decode cX12_readWitness 104 = .ok (.iastore, 1) := by decide +kernel
theorem dX12_readWitness_105 : decode cX12_readWitness 105 = .ok (.aload_n 0, 1) := by decide +kernel
theorem dX12_readWitness_106 : decode cX12_readWitness 106 = .ok (.getfield 22, 3) := by decide +kernel
theorem dX12_readWitness_109 : decode cX12_readWitness 109 = .ok (.iconst 4, 1) := by decide +kernel
theorem dX12_readWitness_110 : decode cX12_readWitness 110 = .ok (.dup2, 1) := by decide +kernel
theorem dX12_readWitness_111 : decode cX12_readWitness 111 = .ok (.iaload, 1) := by decide +kernel
theorem dX12_readWitness_112 : decode cX12_readWitness 112 = .ok (.iconst 1, 1) := by decide +kernel
theorem dX12_readWitness_113 : decode cX12_readWitness 113 = .ok (.iadd, 1) := by decide +kernel
theorem dX12_readWitness_114 : decode cX12_readWitness 114 = .ok (.iastore, 1) := by decide +kernel
theorem dX12_readWitness_115 : decode cX12_readWitness 115 = .ok (.return_, 1) := by decide +kernel
theorem dX12_parish_0 : decode cX12_parish 0 = .ok (.aload_n 0, 1) := by decide +kernel
theorem dX12_parish_1 : decode cX12_parish 1 = .ok (.iconst 0, 1) := by decide +kernel
theorem dX12_parish_2 : decode cX12_parish 2 = .ok (.putfield 47, 3) := by decide +kernel
theorem dX12_parish_5 : decode cX12_parish 5 = .ok (.aload_n 0, 1) := by decide +kernel
theorem dX12_parish_6 : decode cX12_parish 6 = .ok (.invokevirtual 136, 3) := by decide +kernel
theorem dX12_parish_9 : decode cX12_parish 9 = .ok (.iconst 0, 1) := by decide +kernel
theorem dX12_parish_10 : decode cX12_parish 10 = .ok (.istore_n 1, 1) := by decide +kernel
theorem dX12_parish_11 : decode cX12_parish 11 = .ok (.iload_n 1, 1) := by decide +kernel
theorem dX12_parish_12 : decode cX12_parish 12 = .ok (.bipush 67, 2) := by decide +kernel
theorem dX12_parish_14 : decode cX12_parish 14 = .ok (.if_icmp .ge 16, 3) := by decide +kernel
theorem dX12_parish_17 : decode cX12_parish 17 = .ok (.aload_n 0, 1) := by decide +kernel
theorem dX12_parish_18 : decode cX12_parish 18 = .ok (.getfield 22, 3) := by decide +kernel
theorem dX12_parish_21 : decode cX12_parish 21 = .ok (.iload_n 1, 1) := by decide +kernel
theorem dX12_parish_22 : decode cX12_parish 22 = .ok (.iconst 0, 1) := by decide +kernel
theorem dX12_parish_23 : decode cX12_parish 23 = .ok (.iastore, 1) := by decide +kernel
theorem dX12_parish_24 : decode cX12_parish 24 = .ok (.iinc 1 1, 3) := by decide +kernel
theorem dX12_parish_27 : decode cX12_parish 27 = .ok (.goto (-16), 3) := by decide +kernel
theorem dX12_parish_30 : decode cX12_parish 30 = .ok (.aload_n 0, 1) := by decide +kernel
theorem dX12_parish_31 : decode cX12_parish 31 = .ok (.getfield 22, 3) := by decide +kernel
theorem dX12_parish_34 : decode cX12_parish 34 = .ok (.iconst 0, 1) := by decide +kernel
theorem dX12_parish_35 : decode cX12_parish 35 = .ok (.iconst 1, 1) := by decide +kernel
theorem dX12_parish_36 : decode cX12_parish 36 = .ok (.iastore, 1) := by decide +kernel
theorem dX12_parish_37 : decode cX12_parish 37 = .ok (.aload_n 0, 1) := by decide +kernel
theorem dX12_parish_38 : decode cX12_parish 38 = .ok (.aload_n 0, 1) := by decide +kernel
theorem dX12_parish_39 : decode cX12_parish 39 = .ok (.bipush 99, 2) := by decide +kernel
theorem dX12_parish_41 : decode cX12_parish 41 = .ok (.invokevirtual 119, 3) := by decide +kernel
theorem dX12_parish_44 : decode cX12_parish 44 = .ok (.invokevirtual 112, 3) := by decide +kernel
theorem dX12_parish_47 : decode cX12_parish 47 = .ok (.aload_n 0, 1) := by decide +kernel
theorem dX12_parish_48 : decode cX12_parish 48 = .ok (.getfield 22, 3) := by decide +kernel
theorem dX12_parish_51 : decode cX12_parish 51 = .ok (.iconst 1, 1) := by decide +kernel
theorem dX12_parish_52 : decode cX12_parish 52 = .ok (.aload_n 0, 1) := by decide +kernel
theorem dX12_parish_53 : decode cX12_parish 53 = .ok (.iconst 0, 1) := by decide +kernel
theorem dX12_parish_54 : decode cX12_parish 54 = .ok (.bipush 7, 2) := by decide +kernel
theorem dX12_parish_56 : decode cX12_parish 56 = .ok (.invokevirtual 122, 3) := by decide +kernel
theorem dX12_parish_59 : decode cX12_parish 59 = .ok (.iastore, 1) := by decide +kernel
theorem dX12_parish_60 : decode cX12_parish 60 = .ok (.aload_n 0, 1) := by decide +kernel
theorem dX12_parish_61 : decode cX12_parish 61 = .ok (.bipush 44, 2) := by decide +kernel
theorem dX12_parish_63 : decode cX12_parish 63 = .ok (.invokevirtual 126, 3) := by decide +kernel
theorem dX12_parish_66 : decode cX12_parish 66 = .ok (.aload_n 0, 1) := by decide +kernel
theorem dX12_parish_67 : decode cX12_parish 67 = .ok (.getfield 22, 3) := by decide +kernel
theorem dX12_parish_70 : decode cX12_parish 70 = .ok (.iconst 2, 1) := by decide +kernel
theorem dX12_parish_71 : decode cX12_parish 71 = .ok (.aload_n 0, 1) := by decide +kernel
theorem dX12_parish_72 : decode cX12_parish 72 = .ok (.bipush 20, 2) := by decide +kernel
theorem dX12_parish_74 : decode cX12_parish 74 = .ok (.bipush 90, 2) := by decide +kernel
theorem dX12_parish_76 : decode cX12_parish 76 = .ok (.invokevirtual 122, 3) := by decide +kernel
theorem dX12_parish_79 : decode cX12_parish 79 = .ok (.iastore, 1) := by decide +kernel
theorem dX12_parish_80 : decode cX12_parish 80 = .ok (.aload_n 0, 1) := by decide +kernel
theorem dX12_parish_81 : decode cX12_parish 81 = .ok (.bipush 59, 2) := by decide +kernel
theorem dX12_parish_83 : decode cX12_parish 83 = .ok (.invokevirtual 126, 3) := by decide +kernel
theorem dX12_parish_86 : decode cX12_parish 86 = .ok (.aload_n 0, 1) := by decide +kernel
theorem dX12_parish_87 : decode cX12_parish 87 = .ok (.bipush 112, 2) := by decide +kernel
theorem dX12_parish_89 : decode cX12_parish 89 = .ok (.invokevirtual 119, 3) := by decide +kernel
theorem dX12_parish_92 : decode cX12_parish 92 = .ok (.ifCond .ne 8, 3) := by decide +kernel
theorem dX12_parish_95 : decode cX12_parish 95 = .ok (.aload_n 0, 1) := by decide +kernel
theorem dX12_parish_96 : decode cX12_parish 96 = .ok (.iconst 1, 1) := by decide +kernel
theorem dX12_parish_97 : decode cX12_parish 97 = .ok (.invokevirtual 105, 3) := by decide +kernel
theorem dX12_parish_100 : decode cX12_parish 100 = .ok (.aload_n 0, 1) := by decide +kernel
theorem dX12_parish_101 : decode cX12_parish 101 = .ok (.bipush 112, 2) := by decide +kernel
theorem dX12_parish_103 : decode cX12_parish 103 = .ok (.invokevirtual 119, 3) := by decide +kernel
theorem dX12_parish_106 : decode cX12_parish 106 = .ok (.ifCond .eq 10, 3) := by decide +kernel
theorem dX12_parish_109 : decode cX12_parish 109 = .ok (.aload_n 0, 1) := by decide +kernel
theorem dX12_parish_110 : decode cX12_parish 110 = .ok (.invokevirtual 139, 3) := by decide +kernel
theorem dX12_parish_113 : decode cX12_parish 113 = .ok (.goto (-13), 3) := by decide +kernel
theorem dX12_parish_116 : decode cX12_parish 116 = .ok (.aload_n 0, 1) := by decide +kernel
theorem dX12_parish_117 : decode cX12_parish 117 = .ok (.getfield 78, 3) := by decide +kernel
theorem dX12_parish_120 : decode cX12_parish 120 = .ok (.ifCond .ne 30, 3) := by decide +kernel
theorem dX12_parish_123 : decode cX12_parish 123 = .ok (.aload_n 0, 1) := by decide +kernel
theorem dX12_parish_124 : decode cX12_parish 124 = .ok (.getfield 102, 3) := by decide +kernel
theorem dX12_parish_127 : decode cX12_parish 127 = .ok (.iconst 2, 1) := by decide +kernel
theorem dX12_parish_128 : decode cX12_parish 128 = .ok (.if_icmp .ne 22, 3) := by decide +kernel
theorem dX12_parish_131 : decode cX12_parish 131 = .ok (.aload_n 0, 1) := by decide +kernel
theorem dX12_parish_132 : decode cX12_parish 132 = .ok (.getfield 91, 3) := by decide +kernel
theorem dX12_parish_135 : decode cX12_parish 135 = .ok (.invokestatic 133, 3) := by decide +kernel
theorem dX12_parish_138 : decode cX12_parish 138 = .ok (.ldc 90, 2) := by decide +kernel
theorem dX12_parish_140 : decode cX12_parish 140 = .ok (.if_icmp .eq 10, 3) := by decide +kernel
theorem dX12_parish_143 : decode cX12_parish 143 = .ok (.aload_n 0, 1) := by decide +kernel
theorem dX12_parish_144 : decode cX12_parish 144 = .ok (.invokevirtual 142, 3) := by decide +kernel
theorem dX12_parish_147 : decode cX12_parish 147 = .ok (.goto (-31), 3) := by decide +kernel
theorem dX12_parish_150 : decode cX12_parish 150 = .ok (.aload_n 0, 1) := by decide +kernel
theorem dX12_parish_151 : decode cX12_parish 151 = .ok (.invokevirtual 145, 3) := by decide +kernel
theorem dX12_parish_154 : decode cX12_parish 154 = .ok (.ifCond .eq 11, 3) := by decide +kernel
theorem dX12_parish_157 : decode cX12_parish 157 = .ok (.ldc 149, 2) := by decide +kernel
theorem dX12_parish_159 : decode cX12_parish 159 = .ok (.aload_n 0, 1) := by decide +kernel
theorem dX12_parish_160 : decode cX12_parish 160 = .ok (.getfield 84, 3) := by decide +kernel
theorem dX12_parish_163 : decode cX12_parish 163 = .ok (.isub, 1) := by decide +kernel
theorem dX12_parish_164 : decode cX12_parish 164 = .ok (.ireturn, 1) := by decide +kernel
theorem dX12_parish_165 : decode cX12_parish 165 = .ok (.aload_n 0, 1) := by decide +kernel
theorem dX12_parish_166 : decode cX12_parish 166 = .ok (.iconst 0, 1) := by decide +kernel
theorem dX12_parish_167 : decode cX12_parish 167 = .ok (.putfield 150, 3) := by decide +kernel
theorem dX12_parish_170 : decode cX12_parish 170 = .ok (.iconst 0, 1) := by decide +kernel
theorem dX12_parish_171 : decode cX12_parish 171 = .ok (.istore_n 1, 1) := by decide +kernel
theorem dX12_parish_172 : decode cX12_parish 172 = .ok (.iload_n 1, 1) := by decide +kernel
theorem dX12_parish_173 : decode cX12_parish 173 = .ok (.bipush 67, 2) := by decide +kernel
theorem dX12_parish_175 : decode cX12_parish 175 = .ok (.if_icmp .ge 21, 3) := by decide +kernel
theorem dX12_parish_178 : decode cX12_parish 178 = .ok (.aload_n 0, 1) := by decide +kernel
theorem dX12_parish_179 : decode cX12_parish 179 = .ok (.getfield 19, 3) := by decide +kernel
theorem dX12_parish_182 : decode cX12_parish 182 = .ok (.iload_n 1, 1) := by decide +kernel
theorem dX12_parish_183 : decode cX12_parish 183 = .ok (.aload_n 0, 1) := by decide +kernel
theorem dX12_parish_184 : decode cX12_parish 184 = .ok (.getfield 22, 3) := by decide +kernel
theorem dX12_parish_187 : decode cX12_parish 187 = .ok (.iload_n 1, 1) := by decide +kernel
theorem dX12_parish_188 : decode cX12_parish 188 = .ok (.iaload, 1) := by decide +kernel
theorem dX12_parish_189 : decode cX12_parish 189 = .ok (.iastore, 1) := by decide +kernel
theorem dX12_parish_190 : decode cX12_parish 190 = .ok (.iinc 1 1, 3) := by decide +kernel
theorem dX12_parish_193 : decode cX12_parish 193 = .ok (.goto (-21), 3) := by decide +kernel
theorem dX12_parish_196 : decode cX12_parish 196 = .ok (.aload_n 0, 1) := by decide +kernel
theorem dX12_parish_197 : decode cX12_parish 197 = .ok (.getfield 19, 3) := by decide +kernel
theorem dX12_parish_200 : decode cX12_parish 200 = .ok (.iconst 3, 1) := by decide +kernel
theorem dX12_parish_201 : decode cX12_parish 201 = .ok (.iaload, 1) := by decide +kernel
theorem dX12_parish_202 : decode cX12_parish 202 = .ok (.ireturn, 1) := by decide +kernel
theorem dX12_isThere_0 : decode cX12_isThere 0 = .ok (.aload_n 0, 1) := by decide +kernel
theorem dX12_isThere_1 : decode cX12_isThere 1 = .ok (.getfield 19, 3) := by decide +kernel
theorem dX12_isThere_4 : decode cX12_isThere 4 = .ok (.iconst 0, 1) := by decide +kernel
theorem dX12_isThere_5 : decode cX12_isThere 5 = .ok (.iaload, 1) := by decide +kernel
theorem dX12_isThere_6 : decode cX12_isThere 6 = .ok (.iconst 1, 1) := by decide +kernel
theorem dX12_isThere_7 : decode cX12_isThere 7 = .ok (.if_icmp .ne 7, 3) := by decide +kernel
theorem dX12_isThere_10 : decode cX12_isThere 10 = .ok (.iconst 1, 1) := by decide +kernel
theorem dX12_isThere_11 : decode cX12_isThere 11 = .ok (.goto 4, 3) := by decide +kernel
theorem dX12_isThere_14 : decode cX12_isThere 14 = .ok (.iconst 0, 1) := by decide +kernel
theorem dX12_isThere_15 : decode cX12_isThere 15 = .ok (.ireturn, 1) := by decide +kernel
theorem dX12_isField_0 : decode cX12_isField 0 = .ok (.lload_n 0, 1) := by decide +kernel
theorem dX12_isField_1 : decode cX12_isField 1 = .ok (.lconst 0, 1) := by decide +kernel
theorem dX12_isField_2 : decode cX12_isField 2 = .ok (.ldc2_w 55, 3) := by decide +kernel
theorem dX12_isField_5 : decode cX12_isField 5 = .ok (.invokestatic 57, 3) := by decide +kernel
theorem dX12_isField_8 : decode cX12_isField 8 = .ok (.ireturn, 1) := by decide +kernel
theorem dX12_isPath_0 : decode cX12_isPath 0 = .ok (.iload_n 1, 1) := by decide +kernel
theorem dX12_isPath_1 : decode cX12_isPath 1 = .ok (.i2l, 1) := by decide +kernel
theorem dX12_isPath_2 : decode cX12_isPath 2 = .ok (.lconst 0, 1) := by decide +kernel
theorem dX12_isPath_3 : decode cX12_isPath 3 = .ok (.aload_n 0, 1) := by decide +kernel
theorem dX12_isPath_4 : decode cX12_isPath 4 = .ok (.getfield 19, 3) := by decide +kernel
theorem dX12_isPath_7 : decode cX12_isPath 7 = .ok (.iconst 3, 1) := by decide +kernel
theorem dX12_isPath_8 : decode cX12_isPath 8 = .ok (.iaload, 1) := by decide +kernel
theorem dX12_isPath_9 : decode cX12_isPath 9 = .ok (.iconst 1, 1) := by decide +kernel
theorem dX12_isPath_10 : decode cX12_isPath 10 = .ok (.isub, 1) := by decide +kernel
theorem dX12_isPath_11 : decode cX12_isPath 11 = .ok (.i2l, 1) := by decide +kernel
theorem dX12_isPath_12 : decode cX12_isPath 12 = .ok (.invokestatic 57, 3) := by decide +kernel
theorem dX12_isPath_15 : decode cX12_isPath 15 = .ok (.ireturn, 1) := by decide +kernel
theorem dX12_isWitness_0 : decode cX12_isWitness 0 = .ok (.iload_n 1, 1) := by decide +kernel
theorem dX12_isWitness_1 : decode cX12_isWitness 1 = .ok (.i2l, 1) := by decide +kernel
theorem dX12_isWitness_2 : decode cX12_isWitness 2 = .ok (.lconst 0, 1) := by decide +kernel
theorem dX12_isWitness_3 : decode cX12_isWitness 3 = .ok (.aload_n 0, 1) := by decide +kernel
theorem dX12_isWitness_4 : decode cX12_isWitness 4 = .ok (.getfield 19, 3) := by decide +kernel
theorem dX12_isWitness_7 : decode cX12_isWitness 7 = .ok (.iconst 4, 1) := by decide +kernel
theorem dX12_isWitness_8 : decode cX12_isWitness 8 = .ok (.iaload, 1) := by decide +kernel
theorem dX12_isWitness_9 : decode cX12_isWitness 9 = .ok (.iconst 1, 1) := by decide +kernel
theorem dX12_isWitness_10 : decode cX12_isWitness 10 = .ok (.isub, 1) := by decide +kernel
theorem dX12_isWitness_11 : decode cX12_isWitness 11 = .ok (.i2l, 1) := by decide +kernel
theorem dX12_isWitness_12 : decode cX12_isWitness 12 = .ok (.invokestatic 57, 3) := by decide +kernel
theorem dX12_isWitness_15 : decode cX12_isWitness 15 = .ok (.ireturn, 1) := by decide +kernel
theorem dX12_has_0 : decode cX12_has 0 = .ok (.iload_n 0, 1) := by decide +kernel
theorem dX12_has_1 : decode cX12_has 1 = .ok (.iload_n 1, 1) := by decide +kernel
theorem dX12_has_2 : decode cX12_has 2 = .ok (.ishr, 1) := by decide +kernel
theorem dX12_has_3 : decode cX12_has 3 = .ok (.iconst 1, 1) := by decide +kernel
theorem dX12_has_4 : decode cX12_has 4 = .ok (.iand, 1) := by decide +kernel
theorem dX12_has_5 : decode cX12_has 5 = .ok (.iconst 1, 1) := by decide +kernel
theorem dX12_has_6 : decode cX12_has 6 = .ok (.if_icmp .ne 7, 3) := by decide +kernel
theorem dX12_has_9 : decode cX12_has 9 = .ok (.iconst 1, 1) := by decide +kernel
theorem dX12_has_10 : decode cX12_has 10 = .ok (.goto 4, 3) := by decide +kernel
theorem dX12_has_13 : decode cX12_has 13 = .ok (.iconst 0, 1) := by decide +kernel
theorem dX12_has_14 : decode cX12_has 14 = .ok (.ireturn, 1) := by decide +kernel
theorem dX12_bits_0 : decode cX12_bits 0 = .ok (.iconst 0, 1) := by decide +kernel
theorem dX12_bits_1 : decode cX12_bits 1 = .ok (.istore_n 1, 1) := by decide +kernel
theorem dX12_bits_2 : decode cX12_bits 2 = .ok (.iconst 0, 1) := by decide +kernel
theorem dX12_bits_3 : decode cX12_bits 3 = .ok (.istore_n 2, 1) := by decide +kernel
theorem dX12_bits_4 : decode cX12_bits 4 = .ok (.iload_n 2, 1) := by decide +kernel
theorem dX12_bits_5 : decode cX12_bits 5 = .ok (.bipush 12, 2) := by decide +kernel
theorem dX12_bits_7 : decode cX12_bits 7 = .ok (.if_icmp .ge 17, 3) := by decide +kernel
theorem dX12_bits_10 : decode cX12_bits 10 = .ok (.iload_n 1, 1) := by decide +kernel
theorem dX12_bits_11 : decode cX12_bits 11 = .ok (.iload_n 0, 1) := by decide +kernel
theorem dX12_bits_12 : decode cX12_bits 12 = .ok (.iload_n 2, 1) := by decide +kernel
theorem dX12_bits_13 : decode cX12_bits 13 = .ok (.ishr, 1) := by decide +kernel
theorem dX12_bits_14 : decode cX12_bits 14 = .ok (.iconst 1, 1) := by decide +kernel
theorem dX12_bits_15 : decode cX12_bits 15 = .ok (.iand, 1) := by decide +kernel
theorem dX12_bits_16 : decode cX12_bits 16 = .ok (.iadd, 1) := by decide +kernel
theorem dX12_bits_17 : decode cX12_bits 17 = .ok (.istore_n 1, 1) := by decide +kernel
theorem dX12_bits_18 : decode cX12_bits 18 = .ok (.iinc 2 1, 3) := by decide +kernel
theorem dX12_bits_21 : decode cX12_bits 21 = .ok (.goto (-17), 3) := by decide +kernel
theorem dX12_bits_24 : decode cX12_bits 24 = .ok (.iload_n 1, 1) := by decide +kernel
theorem dX12_bits_25 : decode cX12_bits 25 = .ok (.ireturn, 1) := by decide +kernel
theorem dX12_allPaths_0 : decode cX12_allPaths 0 = .ok (.iconst 1, 1) := by decide +kernel
theorem dX12_allPaths_1 : decode cX12_allPaths 1 = .ok (.aload_n 0, 1) := by decide +kernel
theorem dX12_allPaths_2 : decode cX12_allPaths 2 = .ok (.getfield 19, 3) := by decide +kernel
theorem dX12_allPaths_5 : decode cX12_allPaths 5 = .ok (.iconst 3, 1) := by decide +kernel
theorem dX12_allPaths_6 : decode cX12_allPaths 6 = .ok (.iaload, 1) := by decide +kernel
theorem dX12_allPaths_7 : decode cX12_allPaths 7 = .ok (.ishl, 1) := by decide +kernel
theorem dX12_allPaths_8 : decode cX12_allPaths 8 = .ok (.iconst 1, 1) := by decide +kernel
theorem dX12_allPaths_9 : decode cX12_allPaths 9 = .ok (.isub, 1) := by decide +kernel
theorem dX12_allPaths_10 : decode cX12_allPaths 10 = .ok (.ireturn, 1) := by decide +kernel
theorem dX12_other_0 : decode cX12_other 0 = .ok (.bipush 7, 2) := by decide +kernel
theorem dX12_other_2 : decode cX12_other 2 = .ok (.iconst 3, 1) := by decide +kernel
theorem dX12_other_3 : decode cX12_other 3 = .ok (.iload_n 1, 1) := by decide +kernel
theorem dX12_other_4 : decode cX12_other 4 = .ok (.imul, 1) := by decide +kernel
theorem dX12_other_5 : decode cX12_other 5 = .ok (.iadd, 1) := by decide +kernel
theorem dX12_other_6 : decode cX12_other 6 = .ok (.istore_n 3, 1) := by decide +kernel
theorem dX12_other_7 : decode cX12_other 7 = .ok (.aload_n 0, 1) := by decide +kernel
theorem dX12_other_8 : decode cX12_other 8 = .ok (.getfield 19, 3) := by decide +kernel
theorem dX12_other_11 : decode cX12_other 11 = .ok (.iload_n 3, 1) := by decide +kernel
theorem dX12_other_12 : decode cX12_other 12 = .ok (.iaload, 1) := by decide +kernel
theorem dX12_other_13 : decode cX12_other 13 = .ok (.iload_n 2, 1) := by decide +kernel
theorem dX12_other_14 : decode cX12_other 14 = .ok (.if_icmp .ne 14, 3) := by decide +kernel
theorem dX12_other_17 : decode cX12_other 17 = .ok (.aload_n 0, 1) := by decide +kernel
theorem dX12_other_18 : decode cX12_other 18 = .ok (.getfield 19, 3) := by decide +kernel
theorem dX12_other_21 : decode cX12_other 21 = .ok (.iload_n 3, 1) := by decide +kernel
theorem dX12_other_22 : decode cX12_other 22 = .ok (.iconst 1, 1) := by decide +kernel
theorem dX12_other_23 : decode cX12_other 23 = .ok (.iadd, 1) := by decide +kernel
theorem dX12_other_24 : decode cX12_other 24 = .ok (.iaload, 1) := by decide +kernel
theorem dX12_other_25 : decode cX12_other 25 = .ok (.goto 26, 3) := by decide +kernel
theorem dX12_other_28 : decode cX12_other 28 = .ok (.aload_n 0, 1) := by decide +kernel
theorem dX12_other_29 : decode cX12_other 29 = .ok (.getfield 19, 3) := by decide +kernel
theorem dX12_other_32 : decode cX12_other 32 = .ok (.iload_n 3, 1) := by decide +kernel
theorem dX12_other_33 : decode cX12_other 33 = .ok (.iconst 1, 1) := by decide +kernel
theorem dX12_other_34 : decode cX12_other 34 = .ok (.iadd, 1) := by decide +kernel
theorem dX12_other_35 : decode cX12_other 35 = .ok (.iaload, 1) := by decide +kernel
theorem dX12_other_36 : decode cX12_other 36 = .ok (.iload_n 2, 1) := by decide +kernel
theorem dX12_other_37 : decode cX12_other 37 = .ok (.if_icmp .ne 12, 3) := by decide +kernel
theorem dX12_other_40 : decode cX12_other 40 = .ok (.aload_n 0, 1) := by decide +kernel
theorem dX12_other_41 : decode cX12_other 41 = .ok (.getfield 19, 3) := by decide +kernel
theorem dX12_other_44 : decode cX12_other 44 = .ok (.iload_n 3, 1) := by decide +kernel
theorem dX12_other_45 : decode cX12_other 45 = .ok (.iaload, 1) := by decide +kernel
theorem dX12_other_46 : decode cX12_other 46 = .ok (.goto 5, 3) := by decide +kernel
theorem dX12_other_49 : decode cX12_other 49 = .ok (.ldc 90, 2) := by decide +kernel
theorem dX12_other_51 : decode cX12_other 51 = .ok (.ireturn, 1) := by decide +kernel
theorem dX12_layFars_0 : decode cX12_layFars 0 = .ok (.iconst 0, 1) := by decide +kernel
theorem dX12_layFars_1 : decode cX12_layFars 1 = .ok (.istore_n 2, 1) := by decide +kernel
theorem dX12_layFars_2 : decode cX12_layFars 2 = .ok (.iload_n 2, 1) := by decide +kernel
theorem dX12_layFars_3 : decode cX12_layFars 3 = .ok (.bipush 8, 2) := by decide +kernel
theorem dX12_layFars_5 : decode cX12_layFars 5 = .ok (.if_icmp .ge 31, 3) := by decide +kernel
theorem dX12_layFars_8 : decode cX12_layFars 8 = .ok (.aload_n 0, 1) := by decide +kernel
theorem dX12_layFars_9 : decode cX12_layFars 9 = .ok (.getfield 34, 3) := by decide +kernel
theorem dX12_layFars_12 : decode cX12_layFars 12 = .ok (.iload_n 2, 1) := by decide +kernel
theorem dX12_layFars_13 : decode cX12_layFars 13 = .ok (.iload_n 2, 1) := by decide +kernel
theorem dX12_layFars_14 : decode cX12_layFars 14 = .ok (.aload_n 0, 1) := by decide +kernel
theorem dX12_layFars_15 : decode cX12_layFars 15 = .ok (.getfield 19, 3) := by decide +kernel
theorem dX12_layFars_18 : decode cX12_layFars 18 = .ok (.iconst 1, 1) := by decide +kernel
theorem dX12_layFars_19 : decode cX12_layFars 19 = .ok (.iaload, 1) := by decide +kernel
theorem dX12_layFars_20 : decode cX12_layFars 20 = .ok (.if_icmp .ne 7, 3) := by decide +kernel
theorem dX12_layFars_23 : decode cX12_layFars 23 = .ok (.iconst 0, 1) := by decide +kernel
theorem dX12_layFars_24 : decode cX12_layFars 24 = .ok (.goto 5, 3) := by decide +kernel
theorem dX12_layFars_27 : decode cX12_layFars 27 = .ok (.ldc 90, 2) := by decide +kernel
theorem dX12_layFars_29 : decode cX12_layFars 29 = .ok (.iastore, 1) := by decide +kernel
theorem dX12_layFars_30 : decode cX12_layFars 30 = .ok (.iinc 2 1, 3) := by decide +kernel
theorem dX12_layFars_33 : decode cX12_layFars 33 = .ok (.goto (-31), 3) := by decide +kernel
theorem dX12_layFars_36 : decode cX12_layFars 36 = .ok (.iconst 0, 1) := by decide +kernel
theorem dX12_layFars_37 : decode cX12_layFars 37 = .ok (.istore_n 2, 1) := by decide +kernel
theorem dX12_layFars_38 : decode cX12_layFars 38 = .ok (.iload_n 2, 1) := by decide +kernel
theorem dX12_layFars_39 : decode cX12_layFars 39 = .ok (.bipush 8, 2) := by decide +kernel
theorem dX12_layFars_41 : decode cX12_layFars 41 = .ok (.if_icmp .ge 216, 3) := by decide +kernel
theorem dX12_layFars_44 : decode cX12_layFars 44 = .ok (.iconst 0, 1) := by decide +kernel
theorem dX12_layFars_45 : decode cX12_layFars 45 = .ok (.istore_n 3, 1) := by decide +kernel
theorem dX12_layFars_46 : decode cX12_layFars 46 = .ok (.iload_n 3, 1) := by decide +kernel
theorem dX12_layFars_47 : decode cX12_layFars 47 = .ok (.aload_n 0, 1) := by decide +kernel
theorem dX12_layFars_48 : decode cX12_layFars 48 = .ok (.getfield 19, 3) := by decide +kernel
theorem dX12_layFars_51 : decode cX12_layFars 51 = .ok (.iconst 3, 1) := by decide +kernel
theorem dX12_layFars_52 : decode cX12_layFars 52 = .ok (.iaload, 1) := by decide +kernel
theorem dX12_layFars_53 : decode cX12_layFars 53 = .ok (.if_icmp .ge 198, 3) := by decide +kernel
theorem dX12_layFars_56 : decode cX12_layFars 56 = .ok (.bipush 7, 2) := by decide +kernel
theorem dX12_layFars_58 : decode cX12_layFars 58 = .ok (.iconst 3, 1) := by decide +kernel
theorem dX12_layFars_59 : decode cX12_layFars 59 = .ok (.iload_n 3, 1) := by decide +kernel
theorem dX12_layFars_60 : decode cX12_layFars 60 = .ok (.imul, 1) := by decide +kernel
theorem dX12_layFars_61 : decode cX12_layFars 61 = .ok (.iadd, 1) := by decide +kernel
theorem dX12_layFars_62 : decode cX12_layFars 62 = .ok (.istore 4, 2) := by decide +kernel
theorem dX12_layFars_64 : decode cX12_layFars 64 = .ok (.aload_n 0, 1) := by decide +kernel
theorem dX12_layFars_65 : decode cX12_layFars 65 = .ok (.getfield 19, 3) := by decide +kernel
theorem dX12_layFars_68 : decode cX12_layFars 68 = .ok (.iload 4, 2) := by decide +kernel
theorem dX12_layFars_70 : decode cX12_layFars 70 = .ok (.iaload, 1) := by decide +kernel
theorem dX12_layFars_71 : decode cX12_layFars 71 = .ok (.istore 5, 2) := by decide +kernel
theorem dX12_layFars_73 : decode cX12_layFars 73 = .ok (.aload_n 0, 1) := by decide +kernel
theorem dX12_layFars_74 : decode cX12_layFars 74 = .ok (.getfield 19, 3) := by decide +kernel
theorem dX12_layFars_77 : decode cX12_layFars 77 = .ok (.iload 4, 2) := by decide +kernel
theorem dX12_layFars_79 : decode cX12_layFars 79 = .ok (.iconst 1, 1) := by decide +kernel
theorem dX12_layFars_80 : decode cX12_layFars 80 = .ok (.iadd, 1) := by decide +kernel
theorem dX12_layFars_81 : decode cX12_layFars 81 = .ok (.iaload, 1) := by decide +kernel
theorem dX12_layFars_82 : decode cX12_layFars 82 = .ok (.istore 6, 2) := by decide +kernel
theorem dX12_layFars_84 : decode cX12_layFars 84 = .ok (.aload_n 0, 1) := by decide +kernel
theorem dX12_layFars_85 : decode cX12_layFars 85 = .ok (.getfield 19, 3) := by decide +kernel
theorem dX12_layFars_88 : decode cX12_layFars 88 = .ok (.iload 4, 2) := by decide +kernel
theorem dX12_layFars_90 : decode cX12_layFars 90 = .ok (.iconst 2, 1) := by decide +kernel
theorem dX12_layFars_91 : decode cX12_layFars 91 = .ok (.iadd, 1) := by decide +kernel
theorem dX12_layFars_92 : decode cX12_layFars 92 = .ok (.iaload, 1) := by decide +kernel
theorem dX12_layFars_93 : decode cX12_layFars 93 = .ok (.istore 7, 2) := by decide +kernel
theorem dX12_layFars_95 : decode cX12_layFars 95 = .ok (.iload_n 1, 1) := by decide +kernel
theorem dX12_layFars_96 : decode cX12_layFars 96 = .ok (.iload_n 3, 1) := by decide +kernel
theorem dX12_layFars_97 : decode cX12_layFars 97 = .ok (.invokestatic 153, 3) := by decide +kernel
theorem dX12_layFars_100 : decode cX12_layFars 100 = .ok (.ifCond .eq 145, 3) := by decide +kernel
theorem dX12_layFars_103 : decode cX12_layFars 103 = .ok (.aload_n 0, 1) := by decide +kernel
theorem dX12_layFars_104 : decode cX12_layFars 104 = .ok (.getfield 34, 3) := by decide +kernel
theorem dX12_layFars_107 : decode cX12_layFars 107 = .ok (.iload 5, 2) := by decide +kernel
theorem dX12_layFars_109 : decode cX12_layFars 109 = .ok (.aload_n 0, 1) := by decide +kernel
theorem dX12_layFars_110 : decode cX12_layFars 110 = .ok (.getfield 34, 3) := by decide +kernel
theorem dX12_layFars_113 : decode cX12_layFars 113 = .ok (.iload 6, 2) := by decide +kernel
theorem dX12_layFars_115 : decode cX12_layFars 115 = .ok (.iaload, 1) := by decide +kernel
theorem dX12_layFars_116 : decode cX12_layFars 116 = .ok (.ldc 90, 2) := by decide +kernel
theorem dX12_layFars_118 : decode cX12_layFars 118 = .ok (.if_icmp .eq 48, 3) := by decide +kernel
theorem dX12_layFars_121 : decode cX12_layFars 121 = .ok (.aload_n 0, 1) := by decide +kernel
theorem dX12_layFars_122 : decode cX12_layFars 122 = .ok (.getfield 34, 3) := by decide +kernel
theorem dX12_layFars_125 : decode cX12_layFars 125 = .ok (.iload 5, 2) := by decide +kernel
theorem dX12_layFars_127 : decode cX12_layFars 127 = .ok (.iaload, 1) := by decide +kernel
theorem dX12_layFars_128 : decode cX12_layFars 128 = .ok (.ldc 90, 2) := by decide +kernel
theorem dX12_layFars_130 : decode cX12_layFars 130 = .ok (.if_icmp .eq 23, 3) := by decide +kernel
theorem dX12_layFars_133 : decode cX12_layFars 133 = .ok (.aload_n 0, 1) := by decide +kernel
theorem dX12_layFars_134 : decode cX12_layFars 134 = .ok (.getfield 34, 3) := by decide +kernel
theorem dX12_layFars_137 : decode cX12_layFars 137 = .ok (.iload 6, 2) := by decide +kernel
theorem dX12_layFars_139 : decode cX12_layFars 139 = .ok (.iaload, 1) := by decide +kernel
theorem dX12_layFars_140 : decode cX12_layFars 140 = .ok (.iload 7, 2) := by decide +kernel
theorem dX12_layFars_142 : decode cX12_layFars 142 = .ok (.iadd, 1) := by decide +kernel
theorem dX12_layFars_143 : decode cX12_layFars 143 = .ok (.aload_n 0, 1) := by decide +kernel
theorem dX12_layFars_144 : decode cX12_layFars 144 = .ok (.getfield 34, 3) := by decide +kernel
theorem dX12_layFars_147 : decode cX12_layFars 147 = .ok (.iload 5, 2) := by decide +kernel
theorem dX12_layFars_149 : decode cX12_layFars 149 = .ok (.iaload, 1) := by decide +kernel
theorem dX12_layFars_150 : decode cX12_layFars 150 = .ok (.if_icmp .ge 16, 3) := by decide +kernel
theorem dX12_layFars_153 : decode cX12_layFars 153 = .ok (.aload_n 0, 1) := by decide +kernel
theorem dX12_layFars_154 : decode cX12_layFars 154 = .ok (.getfield 34, 3) := by decide +kernel
theorem dX12_layFars_157 : decode cX12_layFars 157 = .ok (.iload 6, 2) := by decide +kernel
theorem dX12_layFars_159 : decode cX12_layFars 159 = .ok (.iaload, 1) := by decide +kernel
theorem dX12_layFars_160 : decode cX12_layFars 160 = .ok (.iload 7, 2) := by decide +kernel
theorem dX12_layFars_162 : decode cX12_layFars 162 = .ok (.iadd, 1) := by decide +kernel
theorem dX12_layFars_163 : decode cX12_layFars 163 = .ok (.goto 10, 3) := by decide +kernel
theorem dX12_layFars_166 : decode cX12_layFars 166 = .ok (.aload_n 0, 1) := by decide +kernel
theorem dX12_layFars_167 : decode cX12_layFars 167 = .ok (.getfield 34, 3) := by decide +kernel
theorem dX12_layFars_170 : decode cX12_layFars 170 = .ok (.iload 5, 2) := by decide +kernel
theorem dX12_layFars_172 : decode cX12_layFars 172 = .ok (.iaload, 1) := by decide +kernel
theorem dX12_layFars_173 : decode cX12_layFars 173 = .ok (.iastore, 1) := by decide +kernel
theorem dX12_layFars_174 : decode cX12_layFars 174 = .ok (.aload_n 0, 1) := by decide +kernel
theorem dX12_layFars_175 : decode cX12_layFars 175 = .ok (.getfield 34, 3) := by decide +kernel
theorem dX12_layFars_178 : decode cX12_layFars 178 = .ok (.iload 6, 2) := by decide +kernel
theorem dX12_layFars_180 : decode cX12_layFars 180 = .ok (.aload_n 0, 1) := by decide +kernel
theorem dX12_layFars_181 : decode cX12_layFars 181 = .ok (.getfield 34, 3) := by decide +kernel
theorem dX12_layFars_184 : decode cX12_layFars 184 = .ok (.iload 5, 2) := by decide +kernel
theorem dX12_layFars_186 : decode cX12_layFars 186 = .ok (.iaload, 1) := by decide +kernel
theorem dX12_layFars_187 : decode cX12_layFars 187 = .ok (.ldc 90, 2) := by decide +kernel
theorem dX12_layFars_189 : decode cX12_layFars 189 = .ok (.if_icmp .eq 48, 3) := by decide +kernel
theorem dX12_layFars_192 : decode cX12_layFars 192 = .ok (.aload_n 0, 1) := by decide +kernel
theorem dX12_layFars_193 : decode cX12_layFars 193 = .ok (.getfield 34, 3) := by decide +kernel
theorem dX12_layFars_196 : decode cX12_layFars 196 = .ok (.iload 6, 2) := by decide +kernel
theorem dX12_layFars_198 : decode cX12_layFars 198 = .ok (.iaload, 1) := by decide +kernel
theorem dX12_layFars_199 : decode cX12_layFars 199 = .ok (.ldc 90, 2) := by decide +kernel
theorem dX12_layFars_201 : decode cX12_layFars 201 = .ok (.if_icmp .eq 23, 3) := by decide +kernel
theorem dX12_layFars_204 : decode cX12_layFars 204 = .ok (.aload_n 0, 1) := by decide +kernel
theorem dX12_layFars_205 : decode cX12_layFars 205 = .ok (.getfield 34, 3) := by decide +kernel
theorem dX12_layFars_208 : decode cX12_layFars 208 = .ok (.iload 5, 2) := by decide +kernel
theorem dX12_layFars_210 : decode cX12_layFars 210 = .ok (.iaload, 1) := by decide +kernel
theorem dX12_layFars_211 : decode cX12_layFars 211 = .ok (.iload 7, 2) := by decide +kernel
theorem dX12_layFars_213 : decode cX12_layFars 213 = .ok (.iadd, 1) := by decide +kernel
theorem dX12_layFars_214 : decode cX12_layFars 214 = .ok (.aload_n 0, 1) := by decide +kernel
theorem dX12_layFars_215 : decode cX12_layFars 215 = .ok (.getfield 34, 3) := by decide +kernel
theorem dX12_layFars_218 : decode cX12_layFars 218 = .ok (.iload 6, 2) := by decide +kernel
theorem dX12_layFars_220 : decode cX12_layFars 220 = .ok (.iaload, 1) := by decide +kernel
theorem dX12_layFars_221 : decode cX12_layFars 221 = .ok (.if_icmp .ge 16, 3) := by decide +kernel
theorem dX12_layFars_224 : decode cX12_layFars 224 = .ok (.aload_n 0, 1) := by decide +kernel
theorem dX12_layFars_225 : decode cX12_layFars 225 = .ok (.getfield 34, 3) := by decide +kernel
theorem dX12_layFars_228 : decode cX12_layFars 228 = .ok (.iload 5, 2) := by decide +kernel
theorem dX12_layFars_230 : decode cX12_layFars 230 = .ok (.iaload, 1) := by decide +kernel
theorem dX12_layFars_231 : decode cX12_layFars 231 = .ok (.iload 7, 2) := by decide +kernel
theorem dX12_layFars_233 : decode cX12_layFars 233 = .ok (.iadd, 1) := by decide +kernel
theorem dX12_layFars_234 : decode cX12_layFars 234 = .ok (.goto 10, 3) := by decide +kernel
theorem dX12_layFars_237 : decode cX12_layFars 237 = .ok (.aload_n 0, 1) := by decide +kernel
theorem dX12_layFars_238 : decode cX12_layFars 238 = .ok (.getfield 34, 3) := by decide +kernel
theorem dX12_layFars_241 : decode cX12_layFars 241 = .ok (.iload 6, 2) := by decide +kernel
theorem dX12_layFars_243 : decode cX12_layFars 243 = .ok (.iaload, 1) := by decide +kernel
theorem dX12_layFars_244 : decode cX12_layFars 244 = .ok (.iastore, 1) := by decide +kernel
theorem dX12_layFars_245 : decode cX12_layFars 245 = .ok (.iinc 3 1, 3) := by decide +kernel
theorem dX12_layFars_248 : decode cX12_layFars 248 = .ok (.goto (-202), 3) := by decide +kernel
theorem dX12_layFars_251 : decode cX12_layFars 251 = .ok (.iinc 2 1, 3) := by decide +kernel
theorem dX12_layFars_254 : decode cX12_layFars 254 = .ok (.goto (-216), 3) := by decide +kernel
theorem dX12_layFars_257 : decode cX12_layFars 257 = .ok (.return_, 1) := by decide +kernel
theorem dX12_layWay_0 : decode cX12_layWay 0 = .ok (.aload_n 0, 1) := by decide +kernel
theorem dX12_layWay_1 : decode cX12_layWay 1 = .ok (.invokevirtual 157, 3) := by decide +kernel
theorem dX12_layWay_4 : decode cX12_layWay 4 = .ok (.iload_n 1, 1) := by decide +kernel
theorem dX12_layWay_5 : decode cX12_layWay 5 = .ok (.iconst (-1), 1) := by decide +kernel
theorem dX12_layWay_6 : decode cX12_layWay 6 = .ok (.ixor, 1) := by decide +kernel
theorem dX12_layWay_7 : decode cX12_layWay 7 = .ok (.iand, 1) := by decide +kernel
theorem dX12_layWay_8 : decode cX12_layWay 8 = .ok (.istore_n 3, 1) := by decide +kernel
theorem dX12_layWay_9 : decode cX12_layWay 9 = .ok (.aload_n 0, 1) := by decide +kernel
theorem dX12_layWay_10 : decode cX12_layWay 10 = .ok (.iload_n 3, 1) := by decide +kernel
theorem dX12_layWay_11 : decode cX12_layWay 11 = .ok (.invokevirtual 161, 3) := by decide +kernel
theorem dX12_layWay_14 : decode cX12_layWay 14 = .ok (.aload_n 0, 1) := by decide +kernel
theorem dX12_layWay_15 : decode cX12_layWay 15 = .ok (.iconst 0, 1) := by decide +kernel
theorem dX12_layWay_16 : decode cX12_layWay 16 = .ok (.putfield 164, 3) := by decide +kernel
theorem dX12_layWay_19 : decode cX12_layWay 19 = .ok (.aload_n 0, 1) := by decide +kernel
theorem dX12_layWay_20 : decode cX12_layWay 20 = .ok (.ldc 90, 2) := by decide +kernel
theorem dX12_layWay_22 : decode cX12_layWay 22 = .ok (.putfield 167, 3) := by decide +kernel
theorem dX12_layWay_25 : decode cX12_layWay 25 = .ok (.aload_n 0, 1) := by decide +kernel
theorem dX12_layWay_26 : decode cX12_layWay 26 = .ok (.aload_n 0, 1) := by decide +kernel
theorem dX12_layWay_27 : decode cX12_layWay 27 = .ok (.getfield 34, 3) := by decide +kernel
theorem dX12_layWay_30 : decode cX12_layWay 30 = .ok (.iload_n 2, 1) := by decide +kernel
theorem dX12_layWay_31 : decode cX12_layWay 31 = .ok (.iaload, 1) := by decide +kernel
theorem dX12_layWay_32 : decode cX12_layWay 32 = .ok (.putfield 170, 3) := by decide +kernel
theorem dX12_layWay_35 : decode cX12_layWay 35 = .ok (.iload_n 2, 1) := by decide +kernel
theorem dX12_layWay_36 : decode cX12_layWay 36 = .ok (.istore 4, 2) := by decide +kernel
theorem dX12_layWay_38 : decode cX12_layWay 38 = .ok (.aload_n 0, 1) := by decide +kernel
theorem dX12_layWay_39 : decode cX12_layWay 39 = .ok (.getfield 170, 3) := by decide +kernel
theorem dX12_layWay_42 : decode cX12_layWay 42 = .ok (.ldc 90, 2) := by decide +kernel
theorem dX12_layWay_44 : decode cX12_layWay 44 = .ok (.if_icmp .eq 193, 3) := by decide +kernel
theorem dX12_layWay_47 : decode cX12_layWay 47 = .ok (.iload 4, 2) := by decide +kernel
theorem dX12_layWay_49 : decode cX12_layWay 49 = .ok (.aload_n 0, 1) := by decide +kernel
theorem dX12_layWay_50 : decode cX12_layWay 50 = .ok (.getfield 19, 3) := by decide +kernel
theorem dX12_layWay_53 : decode cX12_layWay 53 = .ok (.iconst 1, 1) := by decide +kernel
theorem dX12_layWay_54 : decode cX12_layWay 54 = .ok (.iaload, 1) := by decide +kernel
theorem dX12_layWay_55 : decode cX12_layWay 55 = .ok (.if_icmp .eq 182, 3) := by decide +kernel
theorem dX12_layWay_58 : decode cX12_layWay 58 = .ok (.ldc 90, 2) := by decide +kernel
theorem dX12_layWay_60 : decode cX12_layWay 60 = .ok (.istore 5, 2) := by decide +kernel
theorem dX12_layWay_62 : decode cX12_layWay 62 = .ok (.ldc 90, 2) := by decide +kernel
theorem dX12_layWay_64 : decode cX12_layWay 64 = .ok (.istore 6, 2) := by decide +kernel
theorem dX12_layWay_66 : decode cX12_layWay 66 = .ok (.iconst 0, 1) := by decide +kernel
theorem dX12_layWay_67 : decode cX12_layWay 67 = .ok (.istore 7, 2) := by decide +kernel
theorem dX12_layWay_69 : decode cX12_layWay 69 = .ok (.iload 7, 2) := by decide +kernel
theorem dX12_layWay_71 : decode cX12_layWay 71 = .ok (.aload_n 0, 1) := by decide +kernel
theorem dX12_layWay_72 : decode cX12_layWay 72 = .ok (.getfield 19, 3) := by decide +kernel
theorem dX12_layWay_75 : decode cX12_layWay 75 = .ok (.iconst 3, 1) := by decide +kernel
theorem dX12_layWay_76 : decode cX12_layWay 76 = .ok (.iaload, 1) := by decide +kernel
theorem dX12_layWay_77 : decode cX12_layWay 77 = .ok (.if_icmp .ge 118, 3) := by decide +kernel
theorem dX12_layWay_80 : decode cX12_layWay 80 = .ok (.iload_n 3, 1) := by decide +kernel
theorem dX12_layWay_81 : decode cX12_layWay 81 = .ok (.iload 7, 2) := by decide +kernel
theorem dX12_layWay_83 : decode cX12_layWay 83 = .ok (.invokestatic 153, 3) := by decide +kernel
theorem dX12_layWay_86 : decode cX12_layWay 86 = .ok (.ifCond .eq 14, 3) := by decide +kernel
theorem dX12_layWay_89 : decode cX12_layWay 89 = .ok (.aload_n 0, 1) := by decide +kernel
theorem dX12_layWay_90 : decode cX12_layWay 90 = .ok (.iload 7, 2) := by decide +kernel
theorem dX12_layWay_92 : decode cX12_layWay 92 = .ok (.iload 4, 2) := by decide +kernel
theorem dX12_layWay_94 : decode cX12_layWay 94 = .ok (.invokevirtual 173, 3) := by decide +kernel
theorem dX12_layWay_97 : decode cX12_layWay 97 = .ok (.goto 5, 3) := by decide +kernel
theorem dX12_layWay_100 : decode cX12_layWay 100 = .ok (.ldc 90, 2) := by decide +kernel
theorem dX12_layWay_102 : decode cX12_layWay 102 = .ok (.istore 8, 2) := by decide +kernel
theorem dX12_layWay_104 : decode cX12_layWay 104 = .ok (.iload 8, 2) := by decide +kernel
theorem dX12_layWay_106 : decode cX12_layWay 106 = .ok (.ldc 90, 2) := by decide +kernel
theorem dX12_layWay_108 : decode cX12_layWay 108 = .ok (.if_icmp .eq 51, 3) := by decide +kernel
theorem dX12_layWay_111 : decode cX12_layWay 111 = .ok (.aload_n 0, 1) := by decide +kernel
theorem dX12_layWay_112 : decode cX12_layWay 112 = .ok (.getfield 34, 3) := by decide +kernel
theorem dX12_layWay_115 : decode cX12_layWay 115 = .ok (.iload 8, 2) := by decide +kernel
theorem dX12_layWay_117 : decode cX12_layWay 117 = .ok (.iaload, 1) := by decide +kernel
theorem dX12_layWay_118 : decode cX12_layWay 118 = .ok (.ldc 90, 2) := by decide +kernel
theorem dX12_layWay_120 : decode cX12_layWay 120 = .ok (.if_icmp .eq 39, 3) := by decide +kernel
theorem dX12_layWay_123 : decode cX12_layWay 123 = .ok (.aload_n 0, 1) := by decide +kernel
theorem dX12_layWay_124 : decode cX12_layWay 124 = .ok (.getfield 34, 3) := by decide +kernel
theorem dX12_layWay_127 : decode cX12_layWay 127 = .ok (.iload 8, 2) := by decide +kernel
theorem dX12_layWay_129 : decode cX12_layWay 129 = .ok (.iaload, 1) := by decide +kernel
theorem dX12_layWay_130 : decode cX12_layWay 130 = .ok (.aload_n 0, 1) := by decide +kernel
theorem dX12_layWay_131 : decode cX12_layWay 131 = .ok (.getfield 19, 3) := by decide +kernel
theorem dX12_layWay_134 : decode cX12_layWay 134 = .ok (.bipush 7, 2) := by decide +kernel
theorem dX12_layWay_136 : decode cX12_layWay 136 = .ok (.iconst 3, 1) := by decide +kernel
theorem dX12_layWay_137 : decode cX12_layWay 137 = .ok (.iload 7, 2) := by decide +kernel
theorem dX12_layWay_139 : decode cX12_layWay 139 = .ok (.imul, 1) := by decide +kernel
theorem dX12_layWay_140 : decode cX12_layWay 140 = .ok (.iadd, 1) := by decide +kernel
theorem dX12_layWay_141 : decode cX12_layWay 141 = .ok (.iconst 2, 1) := by decide +kernel
theorem dX12_layWay_142 : decode cX12_layWay 142 = .ok (.iadd, 1) := by decide +kernel
theorem dX12_layWay_143 : decode cX12_layWay 143 = .ok (.iaload, 1) := by decide +kernel
theorem dX12_layWay_144 : decode cX12_layWay 144 = .ok (.iadd, 1) := by decide +kernel
theorem dX12_layWay_145 : decode cX12_layWay 145 = .ok (.aload_n 0, 1) := by decide +kernel
theorem dX12_layWay_146 : decode cX12_layWay 146 = .ok (.getfield 34, 3) := by decide +kernel
theorem dX12_layWay_149 : decode cX12_layWay 149 = .ok (.iload 4, 2) := by decide +kernel
theorem dX12_layWay_151 : decode cX12_layWay 151 = .ok (.iaload, 1) := by decide +kernel
theorem dX12_layWay_152 : decode cX12_layWay 152 = .ok (.if_icmp .ne 7, 3) := by decide +kernel
theorem dX12_layWay_155 : decode cX12_layWay 155 = .ok (.iconst 1, 1) := by decide +kernel
theorem dX12_layWay_156 : decode cX12_layWay 156 = .ok (.goto 4, 3) := by decide +kernel
theorem dX12_layWay_159 : decode cX12_layWay 159 = .ok (.iconst 0, 1) := by decide +kernel
theorem dX12_layWay_160 : decode cX12_layWay 160 = .ok (.istore 9, 2) := by decide +kernel
theorem dX12_layWay_162 : decode cX12_layWay 162 = .ok (.iload 9, 2) := by decide +kernel
theorem dX12_layWay_164 : decode cX12_layWay 164 = .ok (.ifCond .eq 25, 3) := by decide +kernel
theorem dX12_layWay_167 : decode cX12_layWay 167 = .ok (.iload 6, 2) := by decide +kernel
theorem dX12_layWay_169 : decode cX12_layWay 169 = .ok (.ldc 90, 2) := by decide +kernel
theorem dX12_layWay_171 : decode cX12_layWay 171 = .ok (.if_icmp .eq 10, 3) := by decide +kernel
theorem dX12_layWay_174 : decode cX12_layWay 174 = .ok (.iload 8, 2) := by decide +kernel
theorem dX12_layWay_176 : decode cX12_layWay 176 = .ok (.iload 6, 2) := by decide +kernel
theorem dX12_layWay_178 : decode cX12_layWay 178 = .ok (.if_icmp .ge 11, 3) := by decide +kernel
theorem dX12_layWay_181 : decode cX12_layWay 181 = .ok (.iload 8, 2) := by decide +kernel
theorem dX12_layWay_183 : decode cX12_layWay 183 = .ok (.istore 6, 2) := by decide +kernel
theorem dX12_layWay_185 : decode cX12_layWay 185 = .ok (.iload 7, 2) := by decide +kernel
theorem dX12_layWay_187 : decode cX12_layWay 187 = .ok (.istore 5, 2) := by decide +kernel
theorem dX12_layWay_189 : decode cX12_layWay 189 = .ok (.iinc 7 1, 3) := by decide +kernel
theorem dX12_layWay_192 : decode cX12_layWay 192 = .ok (.goto (-123), 3) := by decide +kernel
theorem dX12_layWay_195 : decode cX12_layWay 195 = .ok (.aload_n 0, 1) := by decide +kernel
theorem dX12_layWay_196 : decode cX12_layWay 196 = .ok (.dup, 1) := by decide +kernel
theorem dX12_layWay_197 : decode cX12_layWay 197 = .ok (.getfield 164, 3) := by decide +kernel
theorem dX12_layWay_200 : decode cX12_layWay 200 = .ok (.iconst 1, 1) := by decide +kernel
theorem dX12_layWay_201 : decode cX12_layWay 201 = .ok (.iload 5, 2) := by decide +kernel
theorem dX12_layWay_203 : decode cX12_layWay 203 = .ok (.ishl, 1) := by decide +kernel
theorem dX12_layWay_204 : decode cX12_layWay 204 = .ok (.ior, 1) := by decide +kernel
theorem dX12_layWay_205 : decode cX12_layWay 205 = .ok (.putfield 164, 3) := by decide +kernel
theorem dX12_layWay_208 : decode cX12_layWay 208 = .ok (.aload_n 0, 1) := by decide +kernel
theorem dX12_layWay_209 : decode cX12_layWay 209 = .ok (.aload_n 0, 1) := by decide +kernel
theorem dX12_layWay_210 : decode cX12_layWay 210 = .ok (.getfield 167, 3) := by decide +kernel
theorem dX12_layWay_213 : decode cX12_layWay 213 = .ok (.ldc 90, 2) := by decide +kernel
theorem dX12_layWay_215 : decode cX12_layWay 215 = .ok (.if_icmp .ne 8, 3) := by decide +kernel
theorem dX12_layWay_218 : decode cX12_layWay 218 = .ok (.iload 5, 2) := by decide +kernel
theorem dX12_layWay_220 : decode cX12_layWay 220 = .ok (.goto 7, 3) := by decide +kernel
theorem dX12_layWay_223 : decode cX12_layWay 223 = .ok (.aload_n 0, 1) := by decide +kernel
theorem dX12_layWay_224 : decode cX12_layWay 224 = .ok (.getfield 167, 3) := by decide +kernel
theorem dX12_layWay_227 : decode cX12_layWay 227 = .ok (.putfield 167, 3) := by decide +kernel
theorem dX12_layWay_230 : decode cX12_layWay 230 = .ok (.iload 6, 2) := by decide +kernel
theorem dX12_layWay_232 : decode cX12_layWay 232 = .ok (.istore 4, 2) := by decide +kernel
theorem dX12_layWay_234 : decode cX12_layWay 234 = .ok (.goto (-196), 3) := by decide +kernel
theorem dX12_layWay_237 : decode cX12_layWay 237 = .ok (.return_, 1) := by decide +kernel
theorem dX12_isBurial_0 : decode cX12_isBurial 0 = .ok (.aload_n 0, 1) := by decide +kernel
theorem dX12_isBurial_1 : decode cX12_isBurial 1 = .ok (.iload_n 1, 1) := by decide +kernel
theorem dX12_isBurial_2 : decode cX12_isBurial 2 = .ok (.iload_n 2, 1) := by decide +kernel
theorem dX12_isBurial_3 : decode cX12_isBurial 3 = .ok (.invokevirtual 176, 3) := by decide +kernel
theorem dX12_isBurial_6 : decode cX12_isBurial 6 = .ok (.iload_n 2, 1) := by decide +kernel
theorem dX12_isBurial_7 : decode cX12_isBurial 7 = .ok (.aload_n 0, 1) := by decide +kernel
theorem dX12_isBurial_8 : decode cX12_isBurial 8 = .ok (.getfield 19, 3) := by decide +kernel
theorem dX12_isBurial_11 : decode cX12_isBurial 11 = .ok (.iconst 1, 1) := by decide +kernel
theorem dX12_isBurial_12 : decode cX12_isBurial 12 = .ok (.iaload, 1) := by decide +kernel
theorem dX12_isBurial_13 : decode cX12_isBurial 13 = .ok (.if_icmp .eq 16, 3) := by decide +kernel
theorem dX12_isBurial_16 : decode cX12_isBurial 16 = .ok (.aload_n 0, 1) := by decide +kernel
theorem dX12_isBurial_17 : decode cX12_isBurial 17 = .ok (.getfield 170, 3) := by decide +kernel
theorem dX12_isBurial_20 : decode cX12_isBurial 20 = .ok (.ldc 90, 2) := by decide +kernel
theorem dX12_isBurial_22 : decode cX12_isBurial 22 = .ok (.if_icmp .eq 7, 3) := by decide +kernel
theorem dX12_isBurial_25 : decode cX12_isBurial 25 = .ok (.iconst 1, 1) := by decide +kernel
theorem dX12_isBurial_26 : decode cX12_isBurial 26 = .ok (.goto 4, 3) := by decide +kernel
theorem dX12_isBurial_29 : decode cX12_isBurial 29 = .ok (.iconst 0, 1) := by decide +kernel
theorem dX12_isBurial_30 : decode cX12_isBurial 30 = .ok (.ireturn, 1) := by decide +kernel
theorem dX12_pathsAt_0 : decode cX12_pathsAt 0 = .ok (.iconst 0, 1) := by decide +kernel
theorem dX12_pathsAt_1 : decode cX12_pathsAt 1 = .ok (.istore_n 2, 1) := by decide +kernel
theorem dX12_pathsAt_2 : decode cX12_pathsAt 2 = .ok (.iconst 0, 1) := by decide +kernel
theorem dX12_pathsAt_3 : decode cX12_pathsAt 3 = .ok (.istore_n 3, 1) := by decide +kernel
theorem dX12_pathsAt_4 : decode cX12_pathsAt 4 = .ok (.iload_n 3, 1) := by decide +kernel
theorem dX12_pathsAt_5 : decode cX12_pathsAt 5 = .ok (.aload_n 0, 1) := by decide +kernel
theorem dX12_pathsAt_6 : decode cX12_pathsAt 6 = .ok (.getfield 19, 3) := by decide +kernel
theorem dX12_pathsAt_9 : decode cX12_pathsAt 9 = .ok (.iconst 3, 1) := by decide +kernel
theorem dX12_pathsAt_10 : decode cX12_pathsAt 10 = .ok (.iaload, 1) := by decide +kernel
theorem dX12_pathsAt_11 : decode cX12_pathsAt 11 = .ok (.if_icmp .ge 30, 3) := by decide +kernel
theorem dX12_pathsAt_14 : decode cX12_pathsAt 14 = .ok (.iload_n 2, 1) := by decide +kernel
theorem dX12_pathsAt_15 : decode cX12_pathsAt 15 = .ok (.aload_n 0, 1) := by decide +kernel
theorem dX12_pathsAt_16 : decode cX12_pathsAt 16 = .ok (.iload_n 3, 1) := by decide +kernel
theorem dX12_pathsAt_17 : decode cX12_pathsAt 17 = .ok (.iload_n 1, 1) := by decide +kernel
theorem dX12_pathsAt_18 : decode cX12_pathsAt 18 = .ok (.invokevirtual 173, 3) := by decide +kernel
theorem dX12_pathsAt_21 : decode cX12_pathsAt 21 = .ok (.ldc 90, 2) := by decide +kernel
theorem dX12_pathsAt_23 : decode cX12_pathsAt 23 = .ok (.if_icmp .eq 9, 3) := by decide +kernel
theorem dX12_pathsAt_26 : decode cX12_pathsAt 26 = .ok (.iconst 1, 1) := by decide +kernel
theorem dX12_pathsAt_27 : decode cX12_pathsAt 27 = .ok (.iload_n 3, 1) := by decide +kernel
theorem dX12_pathsAt_28 : decode cX12_pathsAt 28 = .ok (.ishl, 1) := by decide +kernel
theorem dX12_pathsAt_29 : decode cX12_pathsAt 29 = .ok (.goto 4, 3) := by decide +kernel
theorem dX12_pathsAt_32 : decode cX12_pathsAt 32 = .ok (.iconst 0, 1) := by decide +kernel
theorem dX12_pathsAt_33 : decode cX12_pathsAt 33 = .ok (.ior, 1) := by decide +kernel
theorem dX12_pathsAt_34 : decode cX12_pathsAt 34 = .ok (.istore_n 2, 1) := by decide +kernel
theorem dX12_pathsAt_35 : decode cX12_pathsAt 35 = .ok (.iinc 3 1, 3) := by decide +kernel
theorem dX12_pathsAt_38 : decode cX12_pathsAt 38 = .ok (.goto (-34), 3) := by decide +kernel
theorem dX12_pathsAt_41 : decode cX12_pathsAt 41 = .ok (.iload_n 2, 1) := by decide +kernel
theorem dX12_pathsAt_42 : decode cX12_pathsAt 42 = .ok (.ireturn, 1) := by decide +kernel
theorem dX12_sees_0 : decode cX12_sees 0 = .ok (.aload_n 0, 1) := by decide +kernel
theorem dX12_sees_1 : decode cX12_sees 1 = .ok (.getfield 164, 3) := by decide +kernel
theorem dX12_sees_4 : decode cX12_sees 4 = .ok (.aload_n 0, 1) := by decide +kernel
theorem dX12_sees_5 : decode cX12_sees 5 = .ok (.iload_n 2, 1) := by decide +kernel
theorem dX12_sees_6 : decode cX12_sees 6 = .ok (.invokevirtual 180, 3) := by decide +kernel
theorem dX12_sees_9 : decode cX12_sees 9 = .ok (.iand, 1) := by decide +kernel
theorem dX12_sees_10 : decode cX12_sees 10 = .ok (.istore 4, 2) := by decide +kernel
theorem dX12_sees_12 : decode cX12_sees 12 = .ok (.iload_n 1, 1) := by decide +kernel
theorem dX12_sees_13 : decode cX12_sees 13 = .ok (.tableswitch 80 1 4 #[31, 34, 58, 75], 31) := by decide +kernel
theorem dX12_sees_44 : decode cX12_sees 44 = .ok (.iload 4, 2) := by decide +kernel
theorem dX12_sees_46 : decode cX12_sees 46 = .ok (.ireturn, 1) := by decide +kernel
theorem dX12_sees_47 : decode cX12_sees 47 = .ok (.iload 4, 2) := by decide +kernel
theorem dX12_sees_49 : decode cX12_sees 49 = .ok (.ifCond .ne 13, 3) := by decide +kernel
theorem dX12_sees_52 : decode cX12_sees 52 = .ok (.iload_n 2, 1) := by decide +kernel
theorem dX12_sees_53 : decode cX12_sees 53 = .ok (.aload_n 0, 1) := by decide +kernel
theorem dX12_sees_54 : decode cX12_sees 54 = .ok (.getfield 19, 3) := by decide +kernel
theorem dX12_sees_57 : decode cX12_sees 57 = .ok (.iconst 1, 1) := by decide +kernel
theorem dX12_sees_58 : decode cX12_sees 58 = .ok (.iaload, 1) := by decide +kernel
theorem dX12_sees_59 : decode cX12_sees 59 = .ok (.if_icmp .ne 10, 3) := by decide +kernel
theorem dX12_sees_62 : decode cX12_sees 62 = .ok (.aload_n 0, 1) := by decide +kernel
theorem dX12_sees_63 : decode cX12_sees 63 = .ok (.getfield 164, 3) := by decide +kernel
theorem dX12_sees_66 : decode cX12_sees 66 = .ok (.goto 4, 3) := by decide +kernel
theorem dX12_sees_69 : decode cX12_sees 69 = .ok (.iconst 0, 1) := by decide +kernel
theorem dX12_sees_70 : decode cX12_sees 70 = .ok (.ireturn, 1) := by decide +kernel
theorem dX12_sees_71 : decode cX12_sees 71 = .ok (.aload_n 0, 1) := by decide +kernel
theorem dX12_sees_72 : decode cX12_sees 72 = .ok (.iload_n 2, 1) := by decide +kernel
theorem dX12_sees_73 : decode cX12_sees 73 = .ok (.invokevirtual 180, 3) := by decide +kernel
theorem dX12_sees_76 : decode cX12_sees 76 = .ok (.iload_n 3, 1) := by decide +kernel
theorem dX12_sees_77 : decode cX12_sees 77 = .ok (.iand, 1) := by decide +kernel
theorem dX12_sees_78 : decode cX12_sees 78 = .ok (.ifCond .ne 8, 3) := by decide +kernel
theorem dX12_sees_81 : decode cX12_sees 81 = .ok (.iload 4, 2) := by decide +kernel
theorem dX12_sees_83 : decode cX12_sees 83 = .ok (.goto 4, 3) := by decide +kernel
theorem dX12_sees_86 : decode cX12_sees 86 = .ok (.iconst 0, 1) := by decide +kernel
theorem dX12_sees_87 : decode cX12_sees 87 = .ok (.ireturn, 1) := by decide +kernel
theorem dX12_sees_88 : decode cX12_sees 88 = .ok (.aload_n 0, 1) := by decide +kernel
theorem dX12_sees_89 : decode cX12_sees 89 = .ok (.getfield 164, 3) := by decide +kernel
theorem dX12_sees_92 : decode cX12_sees 92 = .ok (.ireturn, 1) := by decide +kernel
theorem dX12_sees_93 : decode cX12_sees 93 = .ok (.iconst 1, 1) := by decide +kernel
theorem dX12_sees_94 : decode cX12_sees 94 = .ok (.aload_n 0, 1) := by decide +kernel
theorem dX12_sees_95 : decode cX12_sees 95 = .ok (.getfield 167, 3) := by decide +kernel
theorem dX12_sees_98 : decode cX12_sees 98 = .ok (.ishl, 1) := by decide +kernel
theorem dX12_sees_99 : decode cX12_sees 99 = .ok (.ireturn, 1) := by decide +kernel
theorem dX12_of_0 : decode cX12_of 0 = .ok (.aload_n 0, 1) := by decide +kernel
theorem dX12_of_1 : decode cX12_of 1 = .ok (.bipush 43, 2) := by decide +kernel
theorem dX12_of_3 : decode cX12_of 3 = .ok (.iconst 4, 1) := by decide +kernel
theorem dX12_of_4 : decode cX12_of 4 = .ok (.iload_n 1, 1) := by decide +kernel
theorem dX12_of_5 : decode cX12_of 5 = .ok (.imul, 1) := by decide +kernel
theorem dX12_of_6 : decode cX12_of 6 = .ok (.iadd, 1) := by decide +kernel
theorem dX12_of_7 : decode cX12_of 7 = .ok (.iload_n 2, 1) := by decide +kernel
theorem dX12_of_8 : decode cX12_of 8 = .ok (.iadd, 1) := by decide +kernel
theorem dX12_of_9 : decode cX12_of 9 = .ok (.iaload, 1) := by decide +kernel
theorem dX12_of_10 : decode cX12_of 10 = .ok (.ireturn, 1) := by decide +kernel
theorem dX12_livesBy_0 : decode cX12_livesBy 0 = .ok (.iload_n 2, 1) := by decide +kernel
theorem dX12_livesBy_1 : decode cX12_livesBy 1 = .ok (.aload_n 0, 1) := by decide +kernel
theorem dX12_livesBy_2 : decode cX12_livesBy 2 = .ok (.iconst 2, 1) := by decide +kernel
theorem dX12_livesBy_3 : decode cX12_livesBy 3 = .ok (.iaload, 1) := by decide +kernel
theorem dX12_livesBy_4 : decode cX12_livesBy 4 = .ok (.iload_n 1, 1) := by decide +kernel
theorem dX12_livesBy_5 : decode cX12_livesBy 5 = .ok (.iconst 2, 1) := by decide +kernel
theorem dX12_livesBy_6 : decode cX12_livesBy 6 = .ok (.if_icmp .ne 8, 3) := by decide +kernel
theorem dX12_livesBy_9 : decode cX12_livesBy 9 = .ok (.bipush 9, 2) := by decide +kernel
theorem dX12_livesBy_11 : decode cX12_livesBy 11 = .ok (.goto 4, 3) := by decide +kernel
theorem dX12_livesBy_14 : decode cX12_livesBy 14 = .ok (.iconst 0, 1) := by decide +kernel
theorem dX12_livesBy_15 : decode cX12_livesBy 15 = .ok (.iadd, 1) := by decide +kernel
theorem dX12_livesBy_16 : decode cX12_livesBy 16 = .ok (.if_icmp .gt 7, 3) := by decide +kernel
theorem dX12_livesBy_19 : decode cX12_livesBy 19 = .ok (.iconst 1, 1) := by decide +kernel
theorem dX12_livesBy_20 : decode cX12_livesBy 20 = .ok (.goto 4, 3) := by decide +kernel
theorem dX12_livesBy_23 : decode cX12_livesBy 23 = .ok (.iconst 0, 1) := by decide +kernel
theorem dX12_livesBy_24 : decode cX12_livesBy 24 = .ok (.ireturn, 1) := by decide +kernel
theorem dX12_lives_0 : decode cX12_lives 0 = .ok (.aload_n 0, 1) := by decide +kernel
theorem dX12_lives_1 : decode cX12_lives 1 = .ok (.aload_n 0, 1) := by decide +kernel
theorem dX12_lives_2 : decode cX12_lives 2 = .ok (.iload_n 1, 1) := by decide +kernel
theorem dX12_lives_3 : decode cX12_lives 3 = .ok (.iconst 0, 1) := by decide +kernel
theorem dX12_lives_4 : decode cX12_lives 4 = .ok (.invokestatic 183, 3) := by decide +kernel
theorem dX12_lives_7 : decode cX12_lives 7 = .ok (.aload_n 0, 1) := by decide +kernel
theorem dX12_lives_8 : decode cX12_lives 8 = .ok (.iload_n 1, 1) := by decide +kernel
theorem dX12_lives_9 : decode cX12_lives 9 = .ok (.iconst 1, 1) := by decide +kernel
theorem dX12_lives_10 : decode cX12_lives 10 = .ok (.invokestatic 183, 3) := by decide +kernel
theorem dX12_lives_13 : decode cX12_lives 13 = .ok (.invokestatic 187, 3) := by decide +kernel
theorem dX12_lives_16 : decode cX12_lives 16 = .ok (.ireturn, 1) := by decide +kernel
theorem dX12_swears_0 : decode cX12_swears 0 = .ok (.aload_n 0, 1) := by decide +kernel
theorem dX12_swears_1 : decode cX12_swears 1 = .ok (.iload_n 1, 1) := by decide +kernel
theorem dX12_swears_2 : decode cX12_swears 2 = .ok (.invokestatic 191, 3) := by decide +kernel
theorem dX12_swears_5 : decode cX12_swears 5 = .ok (.ifCond .eq 12, 3) := by decide +kernel
theorem dX12_swears_8 : decode cX12_swears 8 = .ok (.aload_n 0, 1) := by decide +kernel
theorem dX12_swears_9 : decode cX12_swears 9 = .ok (.iload_n 1, 1) := by decide +kernel
theorem dX12_swears_10 : decode cX12_swears 10 = .ok (.iconst 3, 1) := by decide +kernel
theorem dX12_swears_11 : decode cX12_swears 11 = .ok (.invokestatic 183, 3) := by decide +kernel
theorem dX12_swears_14 : decode cX12_swears 14 = .ok (.goto 4, 3) := by decide +kernel
theorem dX12_swears_17 : decode cX12_swears 17 = .ok (.iconst 0, 1) := by decide +kernel
theorem dX12_swears_18 : decode cX12_swears 18 = .ok (.ireturn, 1) := by decide +kernel
theorem dX12_waysOf_0 : decode cX12_waysOf 0 = .ok (.iconst 0, 1) := by decide +kernel
theorem dX12_waysOf_1 : decode cX12_waysOf 1 = .ok (.istore_n 1, 1) := by decide +kernel
theorem dX12_waysOf_2 : decode cX12_waysOf 2 = .ok (.iconst 0, 1) := by decide +kernel
theorem dX12_waysOf_3 : decode cX12_waysOf 3 = .ok (.istore_n 2, 1) := by decide +kernel
theorem dX12_waysOf_4 : decode cX12_waysOf 4 = .ok (.iload_n 2, 1) := by decide +kernel
theorem dX12_waysOf_5 : decode cX12_waysOf 5 = .ok (.aload_n 0, 1) := by decide +kernel
theorem dX12_waysOf_6 : decode cX12_waysOf 6 = .ok (.iconst 4, 1) := by decide +kernel
theorem dX12_waysOf_7 : decode cX12_waysOf 7 = .ok (.iaload, 1) := by decide +kernel
theorem dX12_waysOf_8 : decode cX12_waysOf 8 = .ok (.if_icmp .ge 17, 3) := by decide +kernel
theorem dX12_waysOf_11 : decode cX12_waysOf 11 = .ok (.iload_n 1, 1) := by decide +kernel
theorem dX12_waysOf_12 : decode cX12_waysOf 12 = .ok (.aload_n 0, 1) := by decide +kernel
theorem dX12_waysOf_13 : decode cX12_waysOf 13 = .ok (.iload_n 2, 1) := by decide +kernel
theorem dX12_waysOf_14 : decode cX12_waysOf 14 = .ok (.invokestatic 195, 3) := by decide +kernel
theorem dX12_waysOf_17 : decode cX12_waysOf 17 = .ok (.ior, 1) := by decide +kernel
theorem dX12_waysOf_18 : decode cX12_waysOf 18 = .ok (.istore_n 1, 1) := by decide +kernel
theorem dX12_waysOf_19 : decode cX12_waysOf 19 = .ok (.iinc 2 1, 3) := by decide +kernel
theorem dX12_waysOf_22 : decode cX12_waysOf 22 = .ok (.goto (-18), 3) := by decide +kernel
theorem dX12_waysOf_25 : decode cX12_waysOf 25 = .ok (.iload_n 1, 1) := by decide +kernel
theorem dX12_waysOf_26 : decode cX12_waysOf 26 = .ok (.ireturn, 1) := by decide +kernel
theorem dX12_living_0 : decode cX12_living 0 = .ok (.iconst 0, 1) := by decide +kernel
theorem dX12_living_1 : decode cX12_living 1 = .ok (.istore_n 1, 1) := by decide +kernel
theorem dX12_living_2 : decode cX12_living 2 = .ok (.iconst 0, 1) := by decide +kernel
theorem dX12_living_3 : decode cX12_living 3 = .ok (.istore_n 2, 1) := by decide +kernel
theorem dX12_living_4 : decode cX12_living 4 = .ok (.iload_n 2, 1) := by decide +kernel
theorem dX12_living_5 : decode cX12_living 5 = .ok (.aload_n 0, 1) := by decide +kernel
theorem dX12_living_6 : decode cX12_living 6 = .ok (.iconst 4, 1) := by decide +kernel
theorem dX12_living_7 : decode cX12_living 7 = .ok (.iaload, 1) := by decide +kernel
theorem dX12_living_8 : decode cX12_living 8 = .ok (.if_icmp .ge 27, 3) := by decide +kernel
theorem dX12_living_11 : decode cX12_living 11 = .ok (.iload_n 1, 1) := by decide +kernel
theorem dX12_living_12 : decode cX12_living 12 = .ok (.aload_n 0, 1) := by decide +kernel
theorem dX12_living_13 : decode cX12_living 13 = .ok (.iload_n 2, 1) := by decide +kernel
theorem dX12_living_14 : decode cX12_living 14 = .ok (.invokestatic 191, 3) := by decide +kernel
theorem dX12_living_17 : decode cX12_living 17 = .ok (.ifCond .eq 9, 3) := by decide +kernel
theorem dX12_living_20 : decode cX12_living 20 = .ok (.iconst 1, 1) := by decide +kernel
theorem dX12_living_21 : decode cX12_living 21 = .ok (.iload_n 2, 1) := by decide +kernel
theorem dX12_living_22 : decode cX12_living 22 = .ok (.ishl, 1) := by decide +kernel
theorem dX12_living_23 : decode cX12_living 23 = .ok (.goto 4, 3) := by decide +kernel
theorem dX12_living_26 : decode cX12_living 26 = .ok (.iconst 0, 1) := by decide +kernel
theorem dX12_living_27 : decode cX12_living 27 = .ok (.ior, 1) := by decide +kernel
theorem dX12_living_28 : decode cX12_living 28 = .ok (.istore_n 1, 1) := by decide +kernel
theorem dX12_living_29 : decode cX12_living 29 = .ok (.iinc 2 1, 3) := by decide +kernel
theorem dX12_living_32 : decode cX12_living 32 = .ok (.goto (-28), 3) := by decide +kernel
theorem dX12_living_35 : decode cX12_living 35 = .ok (.iload_n 1, 1) := by decide +kernel
theorem dX12_living_36 : decode cX12_living 36 = .ok (.ireturn, 1) := by decide +kernel
theorem dX12_see_0 : decode cX12_see 0 = .ok (.iconst 0, 1) := by decide +kernel
theorem dX12_see_1 : decode cX12_see 1 = .ok (.istore_n 2, 1) := by decide +kernel
theorem dX12_see_2 : decode cX12_see 2 = .ok (.iload_n 2, 1) := by decide +kernel
theorem dX12_see_3 : decode cX12_see 3 = .ok (.aload_n 1, 1) := by decide +kernel
theorem dX12_see_4 : decode cX12_see 4 = .ok (.iconst 4, 1) := by decide +kernel
theorem dX12_see_5 : decode cX12_see 5 = .ok (.iaload, 1) := by decide +kernel
theorem dX12_see_6 : decode cX12_see 6 = .ok (.if_icmp .ge 54, 3) := by decide +kernel
theorem dX12_see_9 : decode cX12_see 9 = .ok (.aload_n 1, 1) := by decide +kernel
theorem dX12_see_10 : decode cX12_see 10 = .ok (.bipush 43, 2) := by decide +kernel
theorem dX12_see_12 : decode cX12_see 12 = .ok (.iconst 4, 1) := by decide +kernel
theorem dX12_see_13 : decode cX12_see 13 = .ok (.iload_n 2, 1) := by decide +kernel
theorem dX12_see_14 : decode cX12_see 14 = .ok (.imul, 1) := by decide +kernel
theorem dX12_see_15 : decode cX12_see 15 = .ok (.iadd, 1) := by decide +kernel
theorem dX12_see_16 : decode cX12_see 16 = .ok (.iconst 3, 1) := by decide +kernel
theorem dX12_see_17 : decode cX12_see 17 = .ok (.iadd, 1) := by decide +kernel
theorem dX12_see_18 : decode cX12_see 18 = .ok (.dup2, 1) := by decide +kernel
theorem dX12_see_19 : decode cX12_see 19 = .ok (.iaload, 1) := by decide +kernel
theorem dX12_see_20 : decode cX12_see 20 = .ok (.aload_n 1, 1) := by decide +kernel
theorem dX12_see_21 : decode cX12_see 21 = .ok (.iload_n 2, 1) := by decide +kernel
theorem dX12_see_22 : decode cX12_see 22 = .ok (.invokestatic 191, 3) := by decide +kernel
theorem dX12_see_25 : decode cX12_see 25 = .ok (.ifCond .eq 26, 3) := by decide +kernel
theorem dX12_see_28 : decode cX12_see 28 = .ok (.aload_n 0, 1) := by decide +kernel
theorem dX12_see_29 : decode cX12_see 29 = .ok (.aload_n 1, 1) := by decide +kernel
theorem dX12_see_30 : decode cX12_see 30 = .ok (.iload_n 2, 1) := by decide +kernel
theorem dX12_see_31 : decode cX12_see 31 = .ok (.iconst 0, 1) := by decide +kernel
theorem dX12_see_32 : decode cX12_see 32 = .ok (.invokestatic 183, 3) := by decide +kernel
theorem dX12_see_35 : decode cX12_see 35 = .ok (.aload_n 1, 1) := by decide +kernel
theorem dX12_see_36 : decode cX12_see 36 = .ok (.iload_n 2, 1) := by decide +kernel
theorem dX12_see_37 : decode cX12_see 37 = .ok (.iconst 2, 1) := by decide +kernel
theorem dX12_see_38 : decode cX12_see 38 = .ok (.invokestatic 183, 3) := by decide +kernel
theorem dX12_see_41 : decode cX12_see 41 = .ok (.aload_n 1, 1) := by decide +kernel
theorem dX12_see_42 : decode cX12_see 42 = .ok (.bipush 6, 2) := by decide +kernel
theorem dX12_see_44 : decode cX12_see 44 = .ok (.iaload, 1) := by decide +kernel
theorem dX12_see_45 : decode cX12_see 45 = .ok (.invokevirtual 199, 3) := by decide +kernel
theorem dX12_see_48 : decode cX12_see 48 = .ok (.goto 4, 3) := by decide +kernel
theorem dX12_see_51 : decode cX12_see 51 = .ok (.iconst 0, 1) := by decide +kernel
theorem dX12_see_52 : decode cX12_see 52 = .ok (.ior, 1) := by decide +kernel
theorem dX12_see_53 : decode cX12_see 53 = .ok (.iastore, 1) := by decide +kernel
theorem dX12_see_54 : decode cX12_see 54 = .ok (.iinc 2 1, 3) := by decide +kernel
theorem dX12_see_57 : decode cX12_see 57 = .ok (.goto (-55), 3) := by decide +kernel
theorem dX12_see_60 : decode cX12_see 60 = .ok (.return_, 1) := by decide +kernel
theorem dX12_year_0 : decode cX12_year 0 = .ok (.iconst 0, 1) := by decide +kernel
theorem dX12_year_1 : decode cX12_year 1 = .ok (.istore_n 1, 1) := by decide +kernel
theorem dX12_year_2 : decode cX12_year 2 = .ok (.iload_n 1, 1) := by decide +kernel
theorem dX12_year_3 : decode cX12_year 3 = .ok (.aload_n 0, 1) := by decide +kernel
theorem dX12_year_4 : decode cX12_year 4 = .ok (.iconst 4, 1) := by decide +kernel
theorem dX12_year_5 : decode cX12_year 5 = .ok (.iaload, 1) := by decide +kernel
theorem dX12_year_6 : decode cX12_year 6 = .ok (.if_icmp .ge 86, 3) := by decide +kernel
theorem dX12_year_9 : decode cX12_year 9 = .ok (.bipush 43, 2) := by decide +kernel
theorem dX12_year_11 : decode cX12_year 11 = .ok (.iconst 4, 1) := by decide +kernel
theorem dX12_year_12 : decode cX12_year 12 = .ok (.iload_n 1, 1) := by decide +kernel
theorem dX12_year_13 : decode cX12_year 13 = .ok (.imul, 1) := by decide +kernel
theorem dX12_year_14 : decode cX12_year 14 = .ok (.iadd, 1) := by decide +kernel
theorem dX12_year_15 : decode cX12_year 15 = .ok (.istore_n 2, 1) := by decide +kernel
theorem dX12_year_16 : decode cX12_year 16 = .ok (.aload_n 0, 1) := by decide +kernel
theorem dX12_year_17 : decode cX12_year 17 = .ok (.iload_n 2, 1) := by decide +kernel
theorem dX12_year_18 : decode cX12_year 18 = .ok (.iconst 1, 1) := by decide +kernel
theorem dX12_year_19 : decode cX12_year 19 = .ok (.iadd, 1) := by decide +kernel
theorem dX12_year_20 : decode cX12_year 20 = .ok (.dup2, 1) := by decide +kernel
theorem dX12_year_21 : decode cX12_year 21 = .ok (.iaload, 1) := by decide +kernel
theorem dX12_year_22 : decode cX12_year 22 = .ok (.aload_n 0, 1) := by decide +kernel
theorem dX12_year_23 : decode cX12_year 23 = .ok (.iload_n 1, 1) := by decide +kernel
theorem dX12_year_24 : decode cX12_year 24 = .ok (.invokestatic 191, 3) := by decide +kernel
theorem dX12_year_27 : decode cX12_year 27 = .ok (.ifCond .eq 7, 3) := by decide +kernel
theorem dX12_year_30 : decode cX12_year 30 = .ok (.iconst 1, 1) := by decide +kernel
theorem dX12_year_31 : decode cX12_year 31 = .ok (.goto 4, 3) := by decide +kernel
theorem dX12_year_34 : decode cX12_year 34 = .ok (.iconst 0, 1) := by decide +kernel
theorem dX12_year_35 : decode cX12_year 35 = .ok (.iadd, 1) := by decide +kernel
theorem dX12_year_36 : decode cX12_year 36 = .ok (.iastore, 1) := by decide +kernel
theorem dX12_year_37 : decode cX12_year 37 = .ok (.aload_n 0, 1) := by decide +kernel
theorem dX12_year_38 : decode cX12_year 38 = .ok (.iload_n 2, 1) := by decide +kernel
theorem dX12_year_39 : decode cX12_year 39 = .ok (.iconst 3, 1) := by decide +kernel
theorem dX12_year_40 : decode cX12_year 40 = .ok (.iadd, 1) := by decide +kernel
theorem dX12_year_41 : decode cX12_year 41 = .ok (.iaload, 1) := by decide +kernel
theorem dX12_year_42 : decode cX12_year 42 = .ok (.istore_n 3, 1) := by decide +kernel
theorem dX12_year_43 : decode cX12_year 43 = .ok (.aload_n 0, 1) := by decide +kernel
theorem dX12_year_44 : decode cX12_year 44 = .ok (.iload_n 2, 1) := by decide +kernel
theorem dX12_year_45 : decode cX12_year 45 = .ok (.iaload, 1) := by decide +kernel
theorem dX12_year_46 : decode cX12_year 46 = .ok (.iconst 4, 1) := by decide +kernel
theorem dX12_year_47 : decode cX12_year 47 = .ok (.if_icmp .ne 16, 3) := by decide +kernel
theorem dX12_year_50 : decode cX12_year 50 = .ok (.aload_n 0, 1) := by decide +kernel
theorem dX12_year_51 : decode cX12_year 51 = .ok (.iconst 5, 1) := by decide +kernel
theorem dX12_year_52 : decode cX12_year 52 = .ok (.iaload, 1) := by decide +kernel
theorem dX12_year_53 : decode cX12_year 53 = .ok (.iconst 3, 1) := by decide +kernel
theorem dX12_year_54 : decode cX12_year 54 = .ok (.irem, 1) := by decide +kernel
theorem dX12_year_55 : decode cX12_year 55 = .ok (.iconst 2, 1) := by decide +kernel
theorem dX12_year_56 : decode cX12_year 56 = .ok (.if_icmp .ne 7, 3) := by decide +kernel
theorem dX12_year_59 : decode cX12_year 59 = .ok (.iconst 0, 1) := by decide +kernel
theorem dX12_year_60 : decode cX12_year 60 = .ok (.goto 19, 3) := by decide +kernel
theorem dX12_year_63 : decode cX12_year 63 = .ok (.aload_n 0, 1) := by decide +kernel
theorem dX12_year_64 : decode cX12_year 64 = .ok (.iload_n 2, 1) := by decide +kernel
theorem dX12_year_65 : decode cX12_year 65 = .ok (.iaload, 1) := by decide +kernel
theorem dX12_year_66 : decode cX12_year 66 = .ok (.iconst 5, 1) := by decide +kernel
theorem dX12_year_67 : decode cX12_year 67 = .ok (.if_icmp .ne 11, 3) := by decide +kernel
theorem dX12_year_70 : decode cX12_year 70 = .ok (.iload_n 3, 1) := by decide +kernel
theorem dX12_year_71 : decode cX12_year 71 = .ok (.iload_n 3, 1) := by decide +kernel
theorem dX12_year_72 : decode cX12_year 72 = .ok (.iconst 1, 1) := by decide +kernel
theorem dX12_year_73 : decode cX12_year 73 = .ok (.isub, 1) := by decide +kernel
theorem dX12_year_74 : decode cX12_year 74 = .ok (.iand, 1) := by decide +kernel
theorem dX12_year_75 : decode cX12_year 75 = .ok (.goto 4, 3) := by decide +kernel
theorem dX12_year_78 : decode cX12_year 78 = .ok (.iload_n 3, 1) := by decide +kernel
theorem dX12_year_79 : decode cX12_year 79 = .ok (.istore_n 3, 1) := by decide +kernel
theorem dX12_year_80 : decode cX12_year 80 = .ok (.aload_n 0, 1) := by decide +kernel
theorem dX12_year_81 : decode cX12_year 81 = .ok (.iload_n 2, 1) := by decide +kernel
theorem dX12_year_82 : decode cX12_year 82 = .ok (.iconst 3, 1) := by decide +kernel
theorem dX12_year_83 : decode cX12_year 83 = .ok (.iadd, 1) := by decide +kernel
theorem dX12_year_84 : decode cX12_year 84 = .ok (.iload_n 3, 1) := by decide +kernel
theorem dX12_year_85 : decode cX12_year 85 = .ok (.iastore, 1) := by decide +kernel
theorem dX12_year_86 : decode cX12_year 86 = .ok (.iinc 1 1, 3) := by decide +kernel
theorem dX12_year_89 : decode cX12_year 89 = .ok (.goto (-87), 3) := by decide +kernel
theorem dX12_year_92 : decode cX12_year 92 = .ok (.aload_n 0, 1) := by decide +kernel
theorem dX12_year_93 : decode cX12_year 93 = .ok (.iconst 5, 1) := by decide +kernel
theorem dX12_year_94 : decode cX12_year 94 = .ok (.dup2, 1) := by decide +kernel
theorem dX12_year_95 : decode cX12_year 95 = .ok (.iaload, 1) := by decide +kernel
theorem dX12_year_96 : decode cX12_year 96 = .ok (.iconst 1, 1) := by decide +kernel
theorem dX12_year_97 : decode cX12_year 97 = .ok (.iadd, 1) := by decide +kernel
theorem dX12_year_98 : decode cX12_year 98 = .ok (.iastore, 1) := by decide +kernel
theorem dX12_year_99 : decode cX12_year 99 = .ok (.return_, 1) := by decide +kernel
theorem dX12_layThen_0 : decode cX12_layThen 0 = .ok (.iconst 0, 1) := by decide +kernel
theorem dX12_layThen_1 : decode cX12_layThen 1 = .ok (.istore_n 1, 1) := by decide +kernel
theorem dX12_layThen_2 : decode cX12_layThen 2 = .ok (.iload_n 1, 1) := by decide +kernel
theorem dX12_layThen_3 : decode cX12_layThen 3 = .ok (.bipush 67, 2) := by decide +kernel
theorem dX12_layThen_5 : decode cX12_layThen 5 = .ok (.if_icmp .ge 21, 3) := by decide +kernel
theorem dX12_layThen_8 : decode cX12_layThen 8 = .ok (.aload_n 0, 1) := by decide +kernel
theorem dX12_layThen_9 : decode cX12_layThen 9 = .ok (.getfield 25, 3) := by decide +kernel
theorem dX12_layThen_12 : decode cX12_layThen 12 = .ok (.iload_n 1, 1) := by decide +kernel
theorem dX12_layThen_13 : decode cX12_layThen 13 = .ok (.aload_n 0, 1) := by decide +kernel
theorem dX12_layThen_14 : decode cX12_layThen 14 = .ok (.getfield 19, 3) := by decide +kernel
theorem dX12_layThen_17 : decode cX12_layThen 17 = .ok (.iload_n 1, 1) := by decide +kernel
theorem dX12_layThen_18 : decode cX12_layThen 18 = .ok (.iaload, 1) := by decide +kernel
theorem dX12_layThen_19 : decode cX12_layThen 19 = .ok (.iastore, 1) := by decide +kernel
theorem dX12_layThen_20 : decode cX12_layThen 20 = .ok (.iinc 1 1, 3) := by decide +kernel
theorem dX12_layThen_23 : decode cX12_layThen 23 = .ok (.goto (-21), 3) := by decide +kernel
theorem dX12_layThen_26 : decode cX12_layThen 26 = .ok (.return_, 1) := by decide +kernel
theorem dX12_keep_0 : decode cX12_keep 0 = .ok (.aload_n 0, 1) := by decide +kernel
theorem dX12_keep_1 : decode cX12_keep 1 = .ok (.getfield 150, 3) := by decide +kernel
theorem dX12_keep_4 : decode cX12_keep 4 = .ok (.bipush 24, 2) := by decide +kernel
theorem dX12_keep_6 : decode cX12_keep 6 = .ok (.if_icmp .ne 43, 3) := by decide +kernel
theorem dX12_keep_9 : decode cX12_keep 9 = .ok (.iconst 0, 1) := by decide +kernel
theorem dX12_keep_10 : decode cX12_keep 10 = .ok (.istore_n 1, 1) := by decide +kernel
theorem dX12_keep_11 : decode cX12_keep 11 = .ok (.iload_n 1, 1) := by decide +kernel
theorem dX12_keep_12 : decode cX12_keep 12 = .ok (.sipush 1541, 3) := by decide +kernel
theorem dX12_keep_15 : decode cX12_keep 15 = .ok (.if_icmp .ge 24, 3) := by decide +kernel
theorem dX12_keep_18 : decode cX12_keep 18 = .ok (.aload_n 0, 1) := by decide +kernel
theorem dX12_keep_19 : decode cX12_keep 19 = .ok (.getfield 28, 3) := by decide +kernel
theorem dX12_keep_22 : decode cX12_keep 22 = .ok (.iload_n 1, 1) := by decide +kernel
theorem dX12_keep_23 : decode cX12_keep 23 = .ok (.aload_n 0, 1) := by decide +kernel
theorem dX12_keep_24 : decode cX12_keep 24 = .ok (.getfield 28, 3) := by decide +kernel
theorem dX12_keep_27 : decode cX12_keep 27 = .ok (.iload_n 1, 1) := by decide +kernel
theorem dX12_keep_28 : decode cX12_keep 28 = .ok (.bipush 67, 2) := by decide +kernel
theorem dX12_keep_30 : decode cX12_keep 30 = .ok (.iadd, 1) := by decide +kernel
theorem dX12_keep_31 : decode cX12_keep 31 = .ok (.iaload, 1) := by decide +kernel
theorem dX12_keep_32 : decode cX12_keep 32 = .ok (.iastore, 1) := by decide +kernel
theorem dX12_keep_33 : decode cX12_keep 33 = .ok (.iinc 1 1, 3) := by decide +kernel
theorem dX12_keep_36 : decode cX12_keep 36 = .ok (.goto (-25), 3) := by decide +kernel
theorem dX12_keep_39 : decode cX12_keep 39 = .ok (.aload_n 0, 1) := by decide +kernel
theorem dX12_keep_40 : decode cX12_keep 40 = .ok (.dup, 1) := by decide +kernel
theorem dX12_keep_41 : decode cX12_keep 41 = .ok (.getfield 150, 3) := by decide +kernel
theorem dX12_keep_44 : decode cX12_keep 44 = .ok (.iconst 1, 1) := by decide +kernel
theorem dX12_keep_45 : decode cX12_keep 45 = .ok (.isub, 1) := by decide +kernel
theorem dX12_keep_46 : decode cX12_keep 46 = .ok (.putfield 150, 3) := by decide +kernel
theorem dX12_keep_49 : decode cX12_keep 49 = .ok (.iconst 0, 1) := by decide +kernel
theorem dX12_keep_50 : decode cX12_keep 50 = .ok (.istore_n 1, 1) := by decide +kernel
theorem dX12_keep_51 : decode cX12_keep 51 = .ok (.iload_n 1, 1) := by decide +kernel
theorem dX12_keep_52 : decode cX12_keep 52 = .ok (.bipush 67, 2) := by decide +kernel
theorem dX12_keep_54 : decode cX12_keep 54 = .ok (.if_icmp .ge 29, 3) := by decide +kernel
theorem dX12_keep_57 : decode cX12_keep 57 = .ok (.aload_n 0, 1) := by decide +kernel
theorem dX12_keep_58 : decode cX12_keep 58 = .ok (.getfield 28, 3) := by decide +kernel
theorem dX12_keep_61 : decode cX12_keep 61 = .ok (.bipush 67, 2) := by decide +kernel
theorem dX12_keep_63 : decode cX12_keep 63 = .ok (.aload_n 0, 1) := by decide +kernel
theorem dX12_keep_64 : decode cX12_keep 64 = .ok (.getfield 150, 3) := by decide +kernel
theorem dX12_keep_67 : decode cX12_keep 67 = .ok (.imul, 1) := by decide +kernel
theorem dX12_keep_68 : decode cX12_keep 68 = .ok (.iload_n 1, 1) := by decide +kernel
theorem dX12_keep_69 : decode cX12_keep 69 = .ok (.iadd, 1) := by decide +kernel
theorem dX12_keep_70 : decode cX12_keep 70 = .ok (.aload_n 0, 1) := by decide +kernel
theorem dX12_keep_71 : decode cX12_keep 71 = .ok (.getfield 19, 3) := by decide +kernel
theorem dX12_keep_74 : decode cX12_keep 74 = .ok (.iload_n 1, 1) := by decide +kernel
theorem dX12_keep_75 : decode cX12_keep 75 = .ok (.iaload, 1) := by decide +kernel
theorem dX12_keep_76 : decode cX12_keep 76 = .ok (.iastore, 1) := by decide +kernel
theorem dX12_keep_77 : decode cX12_keep 77 = .ok (.iinc 1 1, 3) := by decide +kernel
theorem dX12_keep_80 : decode cX12_keep 80 = .ok (.goto (-29), 3) := by decide +kernel
theorem dX12_keep_83 : decode cX12_keep 83 = .ok (.aload_n 0, 1) := by decide +kernel
theorem dX12_keep_84 : decode cX12_keep 84 = .ok (.dup, 1) := by decide +kernel
theorem dX12_keep_85 : decode cX12_keep 85 = .ok (.getfield 150, 3) := by decide +kernel
theorem dX12_keep_88 : decode cX12_keep 88 = .ok (.iconst 1, 1) := by decide +kernel
theorem dX12_keep_89 : decode cX12_keep 89 = .ok (.iadd, 1) := by decide +kernel
theorem dX12_keep_90 : decode cX12_keep 90 = .ok (.putfield 150, 3) := by decide +kernel
theorem dX12_keep_93 : decode cX12_keep 93 = .ok (.return_, 1) := by decide +kernel
theorem dX12_bury_0 : decode cX12_bury 0 = .ok (.aload_n 0, 1) := by decide +kernel
theorem dX12_bury_1 : decode cX12_bury 1 = .ok (.iconst 0, 1) := by decide +kernel
theorem dX12_bury_2 : decode cX12_bury 2 = .ok (.putfield 47, 3) := by decide +kernel
theorem dX12_bury_5 : decode cX12_bury 5 = .ok (.aload_n 0, 1) := by decide +kernel
theorem dX12_bury_6 : decode cX12_bury 6 = .ok (.invokevirtual 203, 3) := by decide +kernel
theorem dX12_bury_9 : decode cX12_bury 9 = .ok (.ifCond .ne 6, 3) := by decide +kernel
theorem dX12_bury_12 : decode cX12_bury 12 = .ok (.ldc 206, 2) := by decide +kernel
theorem dX12_bury_14 : decode cX12_bury 14 = .ok (.ireturn, 1) := by decide +kernel
theorem dX12_bury_15 : decode cX12_bury 15 = .ok (.iload_n 1, 1) := by decide +kernel
theorem dX12_bury_16 : decode cX12_bury 16 = .ok (.i2l, 1) := by decide +kernel
theorem dX12_bury_17 : decode cX12_bury 17 = .ok (.invokestatic 207, 3) := by decide +kernel
theorem dX12_bury_20 : decode cX12_bury 20 = .ok (.ifCond .ne 6, 3) := by decide +kernel
theorem dX12_bury_23 : decode cX12_bury 23 = .ok (.ldc 67, 2) := by decide +kernel
theorem dX12_bury_25 : decode cX12_bury 25 = .ok (.ireturn, 1) := by decide +kernel
theorem dX12_bury_26 : decode cX12_bury 26 = .ok (.aload_n 0, 1) := by decide +kernel
theorem dX12_bury_27 : decode cX12_bury 27 = .ok (.aload_n 0, 1) := by decide +kernel
theorem dX12_bury_28 : decode cX12_bury 28 = .ok (.getfield 19, 3) := by decide +kernel
theorem dX12_bury_31 : decode cX12_bury 31 = .ok (.bipush 6, 2) := by decide +kernel
theorem dX12_bury_33 : decode cX12_bury 33 = .ok (.iaload, 1) := by decide +kernel
theorem dX12_bury_34 : decode cX12_bury 34 = .ok (.iload_n 1, 1) := by decide +kernel
theorem dX12_bury_35 : decode cX12_bury 35 = .ok (.invokevirtual 211, 3) := by decide +kernel
theorem dX12_bury_38 : decode cX12_bury 38 = .ok (.ifCond .ne 6, 3) := by decide +kernel
theorem dX12_bury_41 : decode cX12_bury 41 = .ok (.ldc 206, 2) := by decide +kernel
theorem dX12_bury_43 : decode cX12_bury 43 = .ok (.ireturn, 1) := by decide +kernel
theorem dX12_bury_44 : decode cX12_bury 44 = .ok (.aload_n 0, 1) := by decide +kernel
theorem dX12_bury_45 : decode cX12_bury 45 = .ok (.invokevirtual 214, 3) := by decide +kernel
theorem dX12_bury_48 : decode cX12_bury 48 = .ok (.aload_n 0, 1) := by decide +kernel
theorem dX12_bury_49 : decode cX12_bury 49 = .ok (.aload_n 0, 1) := by decide +kernel
theorem dX12_bury_50 : decode cX12_bury 50 = .ok (.getfield 19, 3) := by decide +kernel
theorem dX12_bury_53 : decode cX12_bury 53 = .ok (.invokevirtual 217, 3) := by decide +kernel
theorem dX12_bury_56 : decode cX12_bury 56 = .ok (.aload_n 0, 1) := by decide +kernel
theorem dX12_bury_57 : decode cX12_bury 57 = .ok (.getfield 19, 3) := by decide +kernel
theorem dX12_bury_60 : decode cX12_bury 60 = .ok (.invokestatic 221, 3) := by decide +kernel
theorem dX12_bury_63 : decode cX12_bury 63 = .ok (.ireturn, 1) := by decide +kernel
theorem dX12_years_0 : decode cX12_years 0 = .ok (.aload_n 0, 1) := by decide +kernel
theorem dX12_years_1 : decode cX12_years 1 = .ok (.iconst 0, 1) := by decide +kernel
theorem dX12_years_2 : decode cX12_years 2 = .ok (.putfield 47, 3) := by decide +kernel
theorem dX12_years_5 : decode cX12_years 5 = .ok (.aload_n 0, 1) := by decide +kernel
theorem dX12_years_6 : decode cX12_years 6 = .ok (.invokevirtual 203, 3) := by decide +kernel
theorem dX12_years_9 : decode cX12_years 9 = .ok (.ifCond .ne 6, 3) := by decide +kernel
theorem dX12_years_12 : decode cX12_years 12 = .ok (.ldc 206, 2) := by decide +kernel
theorem dX12_years_14 : decode cX12_years 14 = .ok (.ireturn, 1) := by decide +kernel
theorem dX12_years_15 : decode cX12_years 15 = .ok (.iload_n 1, 1) := by decide +kernel
theorem dX12_years_16 : decode cX12_years 16 = .ok (.i2l, 1) := by decide +kernel
theorem dX12_years_17 : decode cX12_years 17 = .ok (.lconst 1, 1) := by decide +kernel
theorem dX12_years_18 : decode cX12_years 18 = .ok (.ldc2_w 225, 3) := by decide +kernel
theorem dX12_years_21 : decode cX12_years 21 = .ok (.invokestatic 57, 3) := by decide +kernel
theorem dX12_years_24 : decode cX12_years 24 = .ok (.ifCond .ne 6, 3) := by decide +kernel
theorem dX12_years_27 : decode cX12_years 27 = .ok (.ldc 67, 2) := by decide +kernel
theorem dX12_years_29 : decode cX12_years 29 = .ok (.ireturn, 1) := by decide +kernel
theorem dX12_years_30 : decode cX12_years 30 = .ok (.aload_n 0, 1) := by decide +kernel
theorem dX12_years_31 : decode cX12_years 31 = .ok (.getfield 19, 3) := by decide +kernel
theorem dX12_years_34 : decode cX12_years 34 = .ok (.iconst 5, 1) := by decide +kernel
theorem dX12_years_35 : decode cX12_years 35 = .ok (.iaload, 1) := by decide +kernel
theorem dX12_years_36 : decode cX12_years 36 = .ok (.iload_n 1, 1) := by decide +kernel
theorem dX12_years_37 : decode cX12_years 37 = .ok (.iadd, 1) := by decide +kernel
theorem dX12_years_38 : decode cX12_years 38 = .ok (.sipush 999, 3) := by decide +kernel
theorem dX12_years_41 : decode cX12_years 41 = .ok (.if_icmp .le 6, 3) := by decide +kernel
theorem dX12_years_44 : decode cX12_years 44 = .ok (.ldc 77, 2) := by decide +kernel
theorem dX12_years_46 : decode cX12_years 46 = .ok (.ireturn, 1) := by decide +kernel
theorem dX12_years_47 : decode cX12_years 47 = .ok (.iconst 0, 1) := by decide +kernel
theorem dX12_years_48 : decode cX12_years 48 = .ok (.istore_n 2, 1) := by decide +kernel
theorem dX12_years_49 : decode cX12_years 49 = .ok (.iload_n 2, 1) := by decide +kernel
theorem dX12_years_50 : decode cX12_years 50 = .ok (.iload_n 1, 1) := by decide +kernel
theorem dX12_years_51 : decode cX12_years 51 = .ok (.if_icmp .ge 20, 3) := by decide +kernel
theorem dX12_years_54 : decode cX12_years 54 = .ok (.aload_n 0, 1) := by decide +kernel
theorem dX12_years_55 : decode cX12_years 55 = .ok (.invokevirtual 214, 3) := by decide +kernel
theorem dX12_years_58 : decode cX12_years 58 = .ok (.aload_n 0, 1) := by decide +kernel
theorem dX12_years_59 : decode cX12_years 59 = .ok (.getfield 19, 3) := by decide +kernel
theorem dX12_years_62 : decode cX12_years 62 = .ok (.invokestatic 227, 3) := by decide +kernel
theorem dX12_years_65 : decode cX12_years 65 = .ok (.iinc 2 1, 3) := by decide +kernel
theorem dX12_years_68 : decode cX12_years 68 = .ok (.goto (-19), 3) := by decide +kernel
theorem dX12_years_71 : decode cX12_years 71 = .ok (.aload_n 0, 1) := by decide +kernel
theorem dX12_years_72 : decode cX12_years 72 = .ok (.getfield 19, 3) := by decide +kernel
theorem dX12_years_75 : decode cX12_years 75 = .ok (.invokestatic 230, 3) := by decide +kernel
theorem dX12_years_78 : decode cX12_years 78 = .ok (.ireturn, 1) := by decide +kernel
theorem dX12_lock_0 : decode cX12_lock 0 = .ok (.aload_n 0, 1) := by decide +kernel
theorem dX12_lock_1 : decode cX12_lock 1 = .ok (.iconst 0, 1) := by decide +kernel
theorem dX12_lock_2 : decode cX12_lock 2 = .ok (.putfield 47, 3) := by decide +kernel
theorem dX12_lock_5 : decode cX12_lock 5 = .ok (.aload_n 0, 1) := by decide +kernel
theorem dX12_lock_6 : decode cX12_lock 6 = .ok (.iload_n 1, 1) := by decide +kernel
theorem dX12_lock_7 : decode cX12_lock 7 = .ok (.invokevirtual 233, 3) := by decide +kernel
theorem dX12_lock_10 : decode cX12_lock 10 = .ok (.ifCond .eq 13, 3) := by decide +kernel
theorem dX12_lock_13 : decode cX12_lock 13 = .ok (.iload_n 2, 1) := by decide +kernel
theorem dX12_lock_14 : decode cX12_lock 14 = .ok (.i2l, 1) := by decide +kernel
theorem dX12_lock_15 : decode cX12_lock 15 = .ok (.lconst 0, 1) := by decide +kernel
theorem dX12_lock_16 : decode cX12_lock 16 = .ok (.lconst 1, 1) := by decide +kernel
theorem dX12_lock_17 : decode cX12_lock 17 = .ok (.invokestatic 57, 3) := by decide +kernel
theorem dX12_lock_20 : decode cX12_lock 20 = .ok (.ifCond .ne 6, 3) := by decide +kernel
theorem dX12_lock_23 : decode cX12_lock 23 = .ok (.ldc 67, 2) := by decide +kernel
theorem dX12_lock_25 : decode cX12_lock 25 = .ok (.ireturn, 1) := by decide +kernel
theorem dX12_lock_26 : decode cX12_lock 26 = .ok (.aload_n 0, 1) := by decide +kernel
theorem dX12_lock_27 : decode cX12_lock 27 = .ok (.getfield 19, 3) := by decide +kernel
theorem dX12_lock_30 : decode cX12_lock 30 = .ok (.bipush 6, 2) := by decide +kernel
theorem dX12_lock_32 : decode cX12_lock 32 = .ok (.iaload, 1) := by decide +kernel
theorem dX12_lock_33 : decode cX12_lock 33 = .ok (.iload_n 1, 1) := by decide +kernel
theorem dX12_lock_34 : decode cX12_lock 34 = .ok (.ishr, 1) := by decide +kernel
theorem dX12_lock_35 : decode cX12_lock 35 = .ok (.iconst 1, 1) := by decide +kernel
theorem dX12_lock_36 : decode cX12_lock 36 = .ok (.iand, 1) := by decide +kernel
theorem dX12_lock_37 : decode cX12_lock 37 = .ok (.iload_n 2, 1) := by decide +kernel
theorem dX12_lock_38 : decode cX12_lock 38 = .ok (.if_icmp .ne 6, 3) := by decide +kernel
theorem dX12_lock_41 : decode cX12_lock 41 = .ok (.ldc 206, 2) := by decide +kernel
theorem dX12_lock_43 : decode cX12_lock 43 = .ok (.ireturn, 1) := by decide +kernel
theorem dX12_lock_44 : decode cX12_lock 44 = .ok (.aload_n 0, 1) := by decide +kernel
theorem dX12_lock_45 : decode cX12_lock 45 = .ok (.invokevirtual 214, 3) := by decide +kernel
theorem dX12_lock_48 : decode cX12_lock 48 = .ok (.aload_n 0, 1) := by decide +kernel
theorem dX12_lock_49 : decode cX12_lock 49 = .ok (.getfield 19, 3) := by decide +kernel
theorem dX12_lock_52 : decode cX12_lock 52 = .ok (.bipush 6, 2) := by decide +kernel
theorem dX12_lock_54 : decode cX12_lock 54 = .ok (.dup2, 1) := by decide +kernel
theorem dX12_lock_55 : decode cX12_lock 55 = .ok (.iaload, 1) := by decide +kernel
theorem dX12_lock_56 : decode cX12_lock 56 = .ok (.iconst 1, 1) := by decide +kernel
theorem dX12_lock_57 : decode cX12_lock 57 = .ok (.iload_n 1, 1) := by decide +kernel
theorem dX12_lock_58 : decode cX12_lock 58 = .ok (.ishl, 1) := by decide +kernel
theorem dX12_lock_59 : decode cX12_lock 59 = .ok (.ixor, 1) := by decide +kernel
theorem dX12_lock_60 : decode cX12_lock 60 = .ok (.iastore, 1) := by decide +kernel
theorem dX12_lock_61 : decode cX12_lock 61 = .ok (.aload_n 0, 1) := by decide +kernel
theorem dX12_lock_62 : decode cX12_lock 62 = .ok (.getfield 19, 3) := by decide +kernel
theorem dX12_lock_65 : decode cX12_lock 65 = .ok (.bipush 6, 2) := by decide +kernel
theorem dX12_lock_67 : decode cX12_lock 67 = .ok (.iaload, 1) := by decide +kernel
theorem dX12_lock_68 : decode cX12_lock 68 = .ok (.ireturn, 1) := by decide +kernel
theorem dX12_follow_0 : decode cX12_follow 0 = .ok (.aload_n 0, 1) := by decide +kernel
theorem dX12_follow_1 : decode cX12_follow 1 = .ok (.iconst 0, 1) := by decide +kernel
theorem dX12_follow_2 : decode cX12_follow 2 = .ok (.putfield 47, 3) := by decide +kernel
theorem dX12_follow_5 : decode cX12_follow 5 = .ok (.aload_n 0, 1) := by decide +kernel
theorem dX12_follow_6 : decode cX12_follow 6 = .ok (.iload_n 1, 1) := by decide +kernel
theorem dX12_follow_7 : decode cX12_follow 7 = .ok (.invokevirtual 236, 3) := by decide +kernel
theorem dX12_follow_10 : decode cX12_follow 10 = .ok (.ifCond .ne 6, 3) := by decide +kernel
theorem dX12_follow_13 : decode cX12_follow 13 = .ok (.ldc 67, 2) := by decide +kernel
theorem dX12_follow_15 : decode cX12_follow 15 = .ok (.ireturn, 1) := by decide +kernel
theorem dX12_follow_16 : decode cX12_follow 16 = .ok (.aload_n 0, 1) := by decide +kernel
theorem dX12_follow_17 : decode cX12_follow 17 = .ok (.getfield 19, 3) := by decide +kernel
theorem dX12_follow_20 : decode cX12_follow 20 = .ok (.iload_n 1, 1) := by decide +kernel
theorem dX12_follow_21 : decode cX12_follow 21 = .ok (.invokestatic 191, 3) := by decide +kernel
theorem dX12_follow_24 : decode cX12_follow 24 = .ok (.ifCond .eq 6, 3) := by decide +kernel
theorem dX12_follow_27 : decode cX12_follow 27 = .ok (.ldc 206, 2) := by decide +kernel
theorem dX12_follow_29 : decode cX12_follow 29 = .ok (.ireturn, 1) := by decide +kernel
theorem dX12_follow_30 : decode cX12_follow 30 = .ok (.aload_n 0, 1) := by decide +kernel
theorem dX12_follow_31 : decode cX12_follow 31 = .ok (.invokevirtual 214, 3) := by decide +kernel
theorem dX12_follow_34 : decode cX12_follow 34 = .ok (.aload_n 0, 1) := by decide +kernel
theorem dX12_follow_35 : decode cX12_follow 35 = .ok (.getfield 19, 3) := by decide +kernel
theorem dX12_follow_38 : decode cX12_follow 38 = .ok (.bipush 43, 2) := by decide +kernel
theorem dX12_follow_40 : decode cX12_follow 40 = .ok (.iconst 4, 1) := by decide +kernel
theorem dX12_follow_41 : decode cX12_follow 41 = .ok (.iload_n 1, 1) := by decide +kernel
theorem dX12_follow_42 : decode cX12_follow 42 = .ok (.imul, 1) := by decide +kernel
theorem dX12_follow_43 : decode cX12_follow 43 = .ok (.iadd, 1) := by decide +kernel
theorem dX12_follow_44 : decode cX12_follow 44 = .ok (.iconst 1, 1) := by decide +kernel
theorem dX12_follow_45 : decode cX12_follow 45 = .ok (.iadd, 1) := by decide +kernel
theorem dX12_follow_46 : decode cX12_follow 46 = .ok (.iconst 0, 1) := by decide +kernel
theorem dX12_follow_47 : decode cX12_follow 47 = .ok (.iastore, 1) := by decide +kernel
theorem dX12_follow_48 : decode cX12_follow 48 = .ok (.aload_n 0, 1) := by decide +kernel
theorem dX12_follow_49 : decode cX12_follow 49 = .ok (.getfield 19, 3) := by decide +kernel
theorem dX12_follow_52 : decode cX12_follow 52 = .ok (.bipush 43, 2) := by decide +kernel
theorem dX12_follow_54 : decode cX12_follow 54 = .ok (.iconst 4, 1) := by decide +kernel
theorem dX12_follow_55 : decode cX12_follow 55 = .ok (.iload_n 1, 1) := by decide +kernel
theorem dX12_follow_56 : decode cX12_follow 56 = .ok (.imul, 1) := by decide +kernel
theorem dX12_follow_57 : decode cX12_follow 57 = .ok (.iadd, 1) := by decide +kernel
theorem dX12_follow_58 : decode cX12_follow 58 = .ok (.iconst 3, 1) := by decide +kernel
theorem dX12_follow_59 : decode cX12_follow 59 = .ok (.iadd, 1) := by decide +kernel
theorem dX12_follow_60 : decode cX12_follow 60 = .ok (.iconst 0, 1) := by decide +kernel
theorem dX12_follow_61 : decode cX12_follow 61 = .ok (.iastore, 1) := by decide +kernel
theorem dX12_follow_62 : decode cX12_follow 62 = .ok (.aload_n 0, 1) := by decide +kernel
theorem dX12_follow_63 : decode cX12_follow 63 = .ok (.getfield 19, 3) := by decide +kernel
theorem dX12_follow_66 : decode cX12_follow 66 = .ok (.invokestatic 230, 3) := by decide +kernel
theorem dX12_follow_69 : decode cX12_follow 69 = .ok (.ireturn, 1) := by decide +kernel
theorem dX12_undo_0 : decode cX12_undo 0 = .ok (.aload_n 0, 1) := by decide +kernel
theorem dX12_undo_1 : decode cX12_undo 1 = .ok (.iconst 0, 1) := by decide +kernel
theorem dX12_undo_2 : decode cX12_undo 2 = .ok (.putfield 47, 3) := by decide +kernel
theorem dX12_undo_5 : decode cX12_undo 5 = .ok (.aload_n 0, 1) := by decide +kernel
theorem dX12_undo_6 : decode cX12_undo 6 = .ok (.getfield 150, 3) := by decide +kernel
theorem dX12_undo_9 : decode cX12_undo 9 = .ok (.ifCond .ne 6, 3) := by decide +kernel
theorem dX12_undo_12 : decode cX12_undo 12 = .ok (.ldc 206, 2) := by decide +kernel
theorem dX12_undo_14 : decode cX12_undo 14 = .ok (.ireturn, 1) := by decide +kernel
theorem dX12_undo_15 : decode cX12_undo 15 = .ok (.aload_n 0, 1) := by decide +kernel
theorem dX12_undo_16 : decode cX12_undo 16 = .ok (.dup, 1) := by decide +kernel
theorem dX12_undo_17 : decode cX12_undo 17 = .ok (.getfield 150, 3) := by decide +kernel
theorem dX12_undo_20 : decode cX12_undo 20 = .ok (.iconst 1, 1) := by decide +kernel
theorem dX12_undo_21 : decode cX12_undo 21 = .ok (.isub, 1) := by decide +kernel
theorem dX12_undo_22 : decode cX12_undo 22 = .ok (.putfield 150, 3) := by decide +kernel
theorem dX12_undo_25 : decode cX12_undo 25 = .ok (.iconst 0, 1) := by decide +kernel
theorem dX12_undo_26 : decode cX12_undo 26 = .ok (.istore_n 1, 1) := by decide +kernel
theorem dX12_undo_27 : decode cX12_undo 27 = .ok (.iload_n 1, 1) := by decide +kernel
theorem dX12_undo_28 : decode cX12_undo 28 = .ok (.bipush 67, 2) := by decide +kernel
theorem dX12_undo_30 : decode cX12_undo 30 = .ok (.if_icmp .ge 29, 3) := by decide +kernel
theorem dX12_undo_33 : decode cX12_undo 33 = .ok (.aload_n 0, 1) := by decide +kernel
theorem dX12_undo_34 : decode cX12_undo 34 = .ok (.getfield 19, 3) := by decide +kernel
theorem dX12_undo_37 : decode cX12_undo 37 = .ok (.iload_n 1, 1) := by decide +kernel
theorem dX12_undo_38 : decode cX12_undo 38 = .ok (.aload_n 0, 1) := by decide +kernel
theorem dX12_undo_39 : decode cX12_undo 39 = .ok (.getfield 28, 3) := by decide +kernel
theorem dX12_undo_42 : decode cX12_undo 42 = .ok (.bipush 67, 2) := by decide +kernel
theorem dX12_undo_44 : decode cX12_undo 44 = .ok (.aload_n 0, 1) := by decide +kernel
theorem dX12_undo_45 : decode cX12_undo 45 = .ok (.getfield 150, 3) := by decide +kernel
theorem dX12_undo_48 : decode cX12_undo 48 = .ok (.imul, 1) := by decide +kernel
theorem dX12_undo_49 : decode cX12_undo 49 = .ok (.iload_n 1, 1) := by decide +kernel
theorem dX12_undo_50 : decode cX12_undo 50 = .ok (.iadd, 1) := by decide +kernel
theorem dX12_undo_51 : decode cX12_undo 51 = .ok (.iaload, 1) := by decide +kernel
theorem dX12_undo_52 : decode cX12_undo 52 = .ok (.iastore, 1) := by decide +kernel
theorem dX12_undo_53 : decode cX12_undo 53 = .ok (.iinc 1 1, 3) := by decide +kernel
theorem dX12_undo_56 : decode cX12_undo 56 = .ok (.goto (-29), 3) := by decide +kernel
theorem dX12_undo_59 : decode cX12_undo 59 = .ok (.aload_n 0, 1) := by decide +kernel
theorem dX12_undo_60 : decode cX12_undo 60 = .ok (.getfield 150, 3) := by decide +kernel
theorem dX12_undo_63 : decode cX12_undo 63 = .ok (.ireturn, 1) := by decide +kernel
theorem dX12_witness_0 : decode cX12_witness 0 = .ok (.aload_n 0, 1) := by decide +kernel
theorem dX12_witness_1 : decode cX12_witness 1 = .ok (.iconst 0, 1) := by decide +kernel
theorem dX12_witness_2 : decode cX12_witness 2 = .ok (.putfield 47, 3) := by decide +kernel
theorem dX12_witness_5 : decode cX12_witness 5 = .ok (.aload_n 0, 1) := by decide +kernel
theorem dX12_witness_6 : decode cX12_witness 6 = .ok (.iload_n 1, 1) := by decide +kernel
theorem dX12_witness_7 : decode cX12_witness 7 = .ok (.invokevirtual 236, 3) := by decide +kernel
theorem dX12_witness_10 : decode cX12_witness 10 = .ok (.ifCond .ne 6, 3) := by decide +kernel
theorem dX12_witness_13 : decode cX12_witness 13 = .ok (.ldc 67, 2) := by decide +kernel
theorem dX12_witness_15 : decode cX12_witness 15 = .ok (.ireturn, 1) := by decide +kernel
theorem dX12_witness_16 : decode cX12_witness 16 = .ok (.iload_n 2, 1) := by decide +kernel
theorem dX12_witness_17 : decode cX12_witness 17 = .ok (.tableswitch 77 0 3 #[31, 41, 51, 68], 31) := by decide +kernel
theorem dX12_witness_48 : decode cX12_witness 48 = .ok (.aload_n 0, 1) := by decide +kernel
theorem dX12_witness_49 : decode cX12_witness 49 = .ok (.getfield 19, 3) := by decide +kernel
theorem dX12_witness_52 : decode cX12_witness 52 = .ok (.iload_n 1, 1) := by decide +kernel
theorem dX12_witness_53 : decode cX12_witness 53 = .ok (.iconst 1, 1) := by decide +kernel
theorem dX12_witness_54 : decode cX12_witness 54 = .ok (.invokestatic 183, 3) := by decide +kernel
theorem dX12_witness_57 : decode cX12_witness 57 = .ok (.ireturn, 1) := by decide +kernel
theorem dX12_witness_58 : decode cX12_witness 58 = .ok (.aload_n 0, 1) := by decide +kernel
theorem dX12_witness_59 : decode cX12_witness 59 = .ok (.getfield 19, 3) := by decide +kernel
theorem dX12_witness_62 : decode cX12_witness 62 = .ok (.iload_n 1, 1) := by decide +kernel
theorem dX12_witness_63 : decode cX12_witness 63 = .ok (.iconst 2, 1) := by decide +kernel
theorem dX12_witness_64 : decode cX12_witness 64 = .ok (.invokestatic 183, 3) := by decide +kernel
theorem dX12_witness_67 : decode cX12_witness 67 = .ok (.ireturn, 1) := by decide +kernel
theorem dX12_witness_68 : decode cX12_witness 68 = .ok (.aload_n 0, 1) := by decide +kernel
theorem dX12_witness_69 : decode cX12_witness 69 = .ok (.getfield 19, 3) := by decide +kernel
theorem dX12_witness_72 : decode cX12_witness 72 = .ok (.iload_n 1, 1) := by decide +kernel
theorem dX12_witness_73 : decode cX12_witness 73 = .ok (.invokestatic 191, 3) := by decide +kernel
theorem dX12_witness_76 : decode cX12_witness 76 = .ok (.ifCond .eq 7, 3) := by decide +kernel
theorem dX12_witness_79 : decode cX12_witness 79 = .ok (.iconst 1, 1) := by decide +kernel
theorem dX12_witness_80 : decode cX12_witness 80 = .ok (.goto 4, 3) := by decide +kernel
theorem dX12_witness_83 : decode cX12_witness 83 = .ok (.iconst 0, 1) := by decide +kernel
theorem dX12_witness_84 : decode cX12_witness 84 = .ok (.ireturn, 1) := by decide +kernel
theorem dX12_witness_85 : decode cX12_witness 85 = .ok (.aload_n 0, 1) := by decide +kernel
theorem dX12_witness_86 : decode cX12_witness 86 = .ok (.getfield 19, 3) := by decide +kernel
theorem dX12_witness_89 : decode cX12_witness 89 = .ok (.iload_n 1, 1) := by decide +kernel
theorem dX12_witness_90 : decode cX12_witness 90 = .ok (.invokestatic 195, 3) := by decide +kernel
theorem dX12_witness_93 : decode cX12_witness 93 = .ok (.ireturn, 1) := by decide +kernel
theorem dX12_witness_94 : decode cX12_witness 94 = .ok (.ldc 67, 2) := by decide +kernel
theorem dX12_witness_96 : decode cX12_witness 96 = .ok (.ireturn, 1) := by decide +kernel
theorem dX12_path_0 : decode cX12_path 0 = .ok (.aload_n 0, 1) := by decide +kernel
theorem dX12_path_1 : decode cX12_path 1 = .ok (.iconst 0, 1) := by decide +kernel
theorem dX12_path_2 : decode cX12_path 2 = .ok (.putfield 47, 3) := by decide +kernel
theorem dX12_path_5 : decode cX12_path 5 = .ok (.aload_n 0, 1) := by decide +kernel
theorem dX12_path_6 : decode cX12_path 6 = .ok (.iload_n 1, 1) := by decide +kernel
theorem dX12_path_7 : decode cX12_path 7 = .ok (.invokevirtual 233, 3) := by decide +kernel
theorem dX12_path_10 : decode cX12_path 10 = .ok (.ifCond .eq 15, 3) := by decide +kernel
theorem dX12_path_13 : decode cX12_path 13 = .ok (.iload_n 2, 1) := by decide +kernel
theorem dX12_path_14 : decode cX12_path 14 = .ok (.i2l, 1) := by decide +kernel
theorem dX12_path_15 : decode cX12_path 15 = .ok (.lconst 0, 1) := by decide +kernel
theorem dX12_path_16 : decode cX12_path 16 = .ok (.ldc2_w 239, 3) := by decide +kernel
theorem dX12_path_19 : decode cX12_path 19 = .ok (.invokestatic 57, 3) := by decide +kernel
theorem dX12_path_22 : decode cX12_path 22 = .ok (.ifCond .ne 6, 3) := by decide +kernel
theorem dX12_path_25 : decode cX12_path 25 = .ok (.ldc 67, 2) := by decide +kernel
theorem dX12_path_27 : decode cX12_path 27 = .ok (.ireturn, 1) := by decide +kernel
theorem dX12_path_28 : decode cX12_path 28 = .ok (.iload_n 2, 1) := by decide +kernel
theorem dX12_path_29 : decode cX12_path 29 = .ok (.iconst 3, 1) := by decide +kernel
theorem dX12_path_30 : decode cX12_path 30 = .ok (.if_icmp .ge 17, 3) := by decide +kernel
theorem dX12_path_33 : decode cX12_path 33 = .ok (.aload_n 0, 1) := by decide +kernel
theorem dX12_path_34 : decode cX12_path 34 = .ok (.getfield 19, 3) := by decide +kernel
theorem dX12_path_37 : decode cX12_path 37 = .ok (.bipush 7, 2) := by decide +kernel
theorem dX12_path_39 : decode cX12_path 39 = .ok (.iconst 3, 1) := by decide +kernel
theorem dX12_path_40 : decode cX12_path 40 = .ok (.iload_n 1, 1) := by decide +kernel
theorem dX12_path_41 : decode cX12_path 41 = .ok (.imul, 1) := by decide +kernel
theorem dX12_path_42 : decode cX12_path 42 = .ok (.iadd, 1) := by decide +kernel
theorem dX12_path_43 : decode cX12_path 43 = .ok (.iload_n 2, 1) := by decide +kernel
theorem dX12_path_44 : decode cX12_path 44 = .ok (.iadd, 1) := by decide +kernel
theorem dX12_path_45 : decode cX12_path 45 = .ok (.iaload, 1) := by decide +kernel
theorem dX12_path_46 : decode cX12_path 46 = .ok (.ireturn, 1) := by decide +kernel
theorem dX12_path_47 : decode cX12_path 47 = .ok (.iconst 0, 1) := by decide +kernel
theorem dX12_path_48 : decode cX12_path 48 = .ok (.istore_n 3, 1) := by decide +kernel
theorem dX12_path_49 : decode cX12_path 49 = .ok (.iconst 0, 1) := by decide +kernel
theorem dX12_path_50 : decode cX12_path 50 = .ok (.istore 4, 2) := by decide +kernel
theorem dX12_path_52 : decode cX12_path 52 = .ok (.iload 4, 2) := by decide +kernel
theorem dX12_path_54 : decode cX12_path 54 = .ok (.aload_n 0, 1) := by decide +kernel
theorem dX12_path_55 : decode cX12_path 55 = .ok (.getfield 19, 3) := by decide +kernel
theorem dX12_path_58 : decode cX12_path 58 = .ok (.iconst 4, 1) := by decide +kernel
theorem dX12_path_59 : decode cX12_path 59 = .ok (.iaload, 1) := by decide +kernel
theorem dX12_path_60 : decode cX12_path 60 = .ok (.if_icmp .ge 36, 3) := by decide +kernel
theorem dX12_path_63 : decode cX12_path 63 = .ok (.iload_n 3, 1) := by decide +kernel
theorem dX12_path_64 : decode cX12_path 64 = .ok (.aload_n 0, 1) := by decide +kernel
theorem dX12_path_65 : decode cX12_path 65 = .ok (.getfield 19, 3) := by decide +kernel
theorem dX12_path_68 : decode cX12_path 68 = .ok (.iload 4, 2) := by decide +kernel
theorem dX12_path_70 : decode cX12_path 70 = .ok (.invokestatic 195, 3) := by decide +kernel
theorem dX12_path_73 : decode cX12_path 73 = .ok (.iload_n 1, 1) := by decide +kernel
theorem dX12_path_74 : decode cX12_path 74 = .ok (.invokestatic 153, 3) := by decide +kernel
theorem dX12_path_77 : decode cX12_path 77 = .ok (.ifCond .eq 10, 3) := by decide +kernel
theorem dX12_path_80 : decode cX12_path 80 = .ok (.iconst 1, 1) := by decide +kernel
theorem dX12_path_81 : decode cX12_path 81 = .ok (.iload 4, 2) := by decide +kernel
theorem dX12_path_83 : decode cX12_path 83 = .ok (.ishl, 1) := by decide +kernel
theorem dX12_path_84 : decode cX12_path 84 = .ok (.goto 4, 3) := by decide +kernel
theorem dX12_path_87 : decode cX12_path 87 = .ok (.iconst 0, 1) := by decide +kernel
theorem dX12_path_88 : decode cX12_path 88 = .ok (.ior, 1) := by decide +kernel
theorem dX12_path_89 : decode cX12_path 89 = .ok (.istore_n 3, 1) := by decide +kernel
theorem dX12_path_90 : decode cX12_path 90 = .ok (.iinc 4 1, 3) := by decide +kernel
theorem dX12_path_93 : decode cX12_path 93 = .ok (.goto (-41), 3) := by decide +kernel
theorem dX12_path_96 : decode cX12_path 96 = .ok (.iload_n 2, 1) := by decide +kernel
theorem dX12_path_97 : decode cX12_path 97 = .ok (.iconst 3, 1) := by decide +kernel
theorem dX12_path_98 : decode cX12_path 98 = .ok (.if_icmp .ne 17, 3) := by decide +kernel
theorem dX12_path_101 : decode cX12_path 101 = .ok (.aload_n 0, 1) := by decide +kernel
theorem dX12_path_102 : decode cX12_path 102 = .ok (.getfield 19, 3) := by decide +kernel
theorem dX12_path_105 : decode cX12_path 105 = .ok (.bipush 6, 2) := by decide +kernel
theorem dX12_path_107 : decode cX12_path 107 = .ok (.iaload, 1) := by decide +kernel
theorem dX12_path_108 : decode cX12_path 108 = .ok (.iload_n 1, 1) := by decide +kernel
theorem dX12_path_109 : decode cX12_path 109 = .ok (.ishr, 1) := by decide +kernel
theorem dX12_path_110 : decode cX12_path 110 = .ok (.iconst 1, 1) := by decide +kernel
theorem dX12_path_111 : decode cX12_path 111 = .ok (.iand, 1) := by decide +kernel
theorem dX12_path_112 : decode cX12_path 112 = .ok (.goto 4, 3) := by decide +kernel
theorem dX12_path_115 : decode cX12_path 115 = .ok (.iload_n 3, 1) := by decide +kernel
theorem dX12_path_116 : decode cX12_path 116 = .ok (.ireturn, 1) := by decide +kernel
theorem dX12_stand_0 : decode cX12_stand 0 = .ok (.aload_n 0, 1) := by decide +kernel
theorem dX12_stand_1 : decode cX12_stand 1 = .ok (.iconst 0, 1) := by decide +kernel
theorem dX12_stand_2 : decode cX12_stand 2 = .ok (.putfield 47, 3) := by decide +kernel
theorem dX12_stand_5 : decode cX12_stand 5 = .ok (.aload_n 0, 1) := by decide +kernel
theorem dX12_stand_6 : decode cX12_stand 6 = .ok (.invokevirtual 203, 3) := by decide +kernel
theorem dX12_stand_9 : decode cX12_stand 9 = .ok (.ifCond .ne 6, 3) := by decide +kernel
theorem dX12_stand_12 : decode cX12_stand 12 = .ok (.ldc 206, 2) := by decide +kernel
theorem dX12_stand_14 : decode cX12_stand 14 = .ok (.ireturn, 1) := by decide +kernel
theorem dX12_stand_15 : decode cX12_stand 15 = .ok (.iload_n 1, 1) := by decide +kernel
theorem dX12_stand_16 : decode cX12_stand 16 = .ok (.tableswitch 63 0 3 #[32, 40, 48, 56], 32) := by decide +kernel
theorem dX12_stand_48 : decode cX12_stand 48 = .ok (.aload_n 0, 1) := by decide +kernel
theorem dX12_stand_49 : decode cX12_stand 49 = .ok (.getfield 19, 3) := by decide +kernel
theorem dX12_stand_52 : decode cX12_stand 52 = .ok (.invokestatic 221, 3) := by decide +kernel
theorem dX12_stand_55 : decode cX12_stand 55 = .ok (.ireturn, 1) := by decide +kernel
theorem dX12_stand_56 : decode cX12_stand 56 = .ok (.aload_n 0, 1) := by decide +kernel
theorem dX12_stand_57 : decode cX12_stand 57 = .ok (.getfield 19, 3) := by decide +kernel
theorem dX12_stand_60 : decode cX12_stand 60 = .ok (.bipush 6, 2) := by decide +kernel
theorem dX12_stand_62 : decode cX12_stand 62 = .ok (.iaload, 1) := by decide +kernel
theorem dX12_stand_63 : decode cX12_stand 63 = .ok (.ireturn, 1) := by decide +kernel
theorem dX12_stand_64 : decode cX12_stand 64 = .ok (.aload_n 0, 1) := by decide +kernel
theorem dX12_stand_65 : decode cX12_stand 65 = .ok (.getfield 19, 3) := by decide +kernel
theorem dX12_stand_68 : decode cX12_stand 68 = .ok (.invokestatic 230, 3) := by decide +kernel
theorem dX12_stand_71 : decode cX12_stand 71 = .ok (.ireturn, 1) := by decide +kernel
theorem dX12_stand_72 : decode cX12_stand 72 = .ok (.aload_n 0, 1) := by decide +kernel
theorem dX12_stand_73 : decode cX12_stand 73 = .ok (.getfield 19, 3) := by decide +kernel
theorem dX12_stand_76 : decode cX12_stand 76 = .ok (.iconst 1, 1) := by decide +kernel
theorem dX12_stand_77 : decode cX12_stand 77 = .ok (.iaload, 1) := by decide +kernel
theorem dX12_stand_78 : decode cX12_stand 78 = .ok (.ireturn, 1) := by decide +kernel
theorem dX12_stand_79 : decode cX12_stand 79 = .ok (.ldc 67, 2) := by decide +kernel
theorem dX12_stand_81 : decode cX12_stand 81 = .ok (.ireturn, 1) := by decide +kernel
theorem dX12_ahead_0 : decode cX12_ahead 0 = .ok (.aload_n 0, 1) := by decide +kernel
theorem dX12_ahead_1 : decode cX12_ahead 1 = .ok (.iconst 0, 1) := by decide +kernel
theorem dX12_ahead_2 : decode cX12_ahead 2 = .ok (.putfield 47, 3) := by decide +kernel
theorem dX12_ahead_5 : decode cX12_ahead 5 = .ok (.aload_n 0, 1) := by decide +kernel
theorem dX12_ahead_6 : decode cX12_ahead 6 = .ok (.invokevirtual 203, 3) := by decide +kernel
theorem dX12_ahead_9 : decode cX12_ahead 9 = .ok (.ifCond .ne 6, 3) := by decide +kernel
theorem dX12_ahead_12 : decode cX12_ahead 12 = .ok (.ldc 206, 2) := by decide +kernel
theorem dX12_ahead_14 : decode cX12_ahead 14 = .ok (.ireturn, 1) := by decide +kernel
theorem dX12_ahead_15 : decode cX12_ahead 15 = .ok (.iload_n 1, 1) := by decide +kernel
theorem dX12_ahead_16 : decode cX12_ahead 16 = .ok (.i2l, 1) := by decide +kernel
theorem dX12_ahead_17 : decode cX12_ahead 17 = .ok (.lconst 0, 1) := by decide +kernel
theorem dX12_ahead_18 : decode cX12_ahead 18 = .ok (.ldc2_w 241, 3) := by decide +kernel
theorem dX12_ahead_21 : decode cX12_ahead 21 = .ok (.invokestatic 57, 3) := by decide +kernel
theorem dX12_ahead_24 : decode cX12_ahead 24 = .ok (.ifCond .ne 6, 3) := by decide +kernel
theorem dX12_ahead_27 : decode cX12_ahead 27 = .ok (.ldc 67, 2) := by decide +kernel
theorem dX12_ahead_29 : decode cX12_ahead 29 = .ok (.ireturn, 1) := by decide +kernel
theorem dX12_ahead_30 : decode cX12_ahead 30 = .ok (.aload_n 0, 1) := by decide +kernel
theorem dX12_ahead_31 : decode cX12_ahead 31 = .ok (.invokevirtual 243, 3) := by decide +kernel
theorem dX12_ahead_34 : decode cX12_ahead 34 = .ok (.iconst 0, 1) := by decide +kernel
theorem dX12_ahead_35 : decode cX12_ahead 35 = .ok (.istore_n 2, 1) := by decide +kernel
theorem dX12_ahead_36 : decode cX12_ahead 36 = .ok (.iload_n 2, 1) := by decide +kernel
theorem dX12_ahead_37 : decode cX12_ahead 37 = .ok (.iload_n 1, 1) := by decide +kernel
theorem dX12_ahead_38 : decode cX12_ahead 38 = .ok (.if_icmp .ge 16, 3) := by decide +kernel
theorem dX12_ahead_41 : decode cX12_ahead 41 = .ok (.aload_n 0, 1) := by decide +kernel
theorem dX12_ahead_42 : decode cX12_ahead 42 = .ok (.getfield 25, 3) := by decide +kernel
theorem dX12_ahead_45 : decode cX12_ahead 45 = .ok (.invokestatic 227, 3) := by decide +kernel
theorem dX12_ahead_48 : decode cX12_ahead 48 = .ok (.iinc 2 1, 3) := by decide +kernel
theorem dX12_ahead_51 : decode cX12_ahead 51 = .ok (.goto (-15), 3) := by decide +kernel
theorem dX12_ahead_54 : decode cX12_ahead 54 = .ok (.aload_n 0, 1) := by decide +kernel
theorem dX12_ahead_55 : decode cX12_ahead 55 = .ok (.getfield 25, 3) := by decide +kernel
theorem dX12_ahead_58 : decode cX12_ahead 58 = .ok (.invokestatic 221, 3) := by decide +kernel
theorem dX12_ahead_61 : decode cX12_ahead 61 = .ok (.ireturn, 1) := by decide +kernel
theorem dX12_lost_0 : decode cX12_lost 0 = .ok (.aload_n 0, 1) := by decide +kernel
theorem dX12_lost_1 : decode cX12_lost 1 = .ok (.iconst 0, 1) := by decide +kernel
theorem dX12_lost_2 : decode cX12_lost 2 = .ok (.putfield 47, 3) := by decide +kernel
theorem dX12_lost_5 : decode cX12_lost 5 = .ok (.aload_n 0, 1) := by decide +kernel
theorem dX12_lost_6 : decode cX12_lost 6 = .ok (.iload_n 1, 1) := by decide +kernel
theorem dX12_lost_7 : decode cX12_lost 7 = .ok (.invokevirtual 233, 3) := by decide +kernel
theorem dX12_lost_10 : decode cX12_lost 10 = .ok (.ifCond .ne 6, 3) := by decide +kernel
theorem dX12_lost_13 : decode cX12_lost 13 = .ok (.ldc 67, 2) := by decide +kernel
theorem dX12_lost_15 : decode cX12_lost 15 = .ok (.ireturn, 1) := by decide +kernel
theorem dX12_lost_16 : decode cX12_lost 16 = .ok (.aload_n 0, 1) := by decide +kernel
theorem dX12_lost_17 : decode cX12_lost 17 = .ok (.invokevirtual 243, 3) := by decide +kernel
theorem dX12_lost_20 : decode cX12_lost 20 = .ok (.iconst 0, 1) := by decide +kernel
theorem dX12_lost_21 : decode cX12_lost 21 = .ok (.istore_n 2, 1) := by decide +kernel
theorem dX12_lost_22 : decode cX12_lost 22 = .ok (.iload_n 2, 1) := by decide +kernel
theorem dX12_lost_23 : decode cX12_lost 23 = .ok (.bipush 61, 2) := by decide +kernel
theorem dX12_lost_25 : decode cX12_lost 25 = .ok (.if_icmp .ge 32, 3) := by decide +kernel
theorem dX12_lost_28 : decode cX12_lost 28 = .ok (.aload_n 0, 1) := by decide +kernel
theorem dX12_lost_29 : decode cX12_lost 29 = .ok (.getfield 25, 3) := by decide +kernel
theorem dX12_lost_32 : decode cX12_lost 32 = .ok (.invokestatic 221, 3) := by decide +kernel
theorem dX12_lost_35 : decode cX12_lost 35 = .ok (.iload_n 1, 1) := by decide +kernel
theorem dX12_lost_36 : decode cX12_lost 36 = .ok (.invokestatic 153, 3) := by decide +kernel
theorem dX12_lost_39 : decode cX12_lost 39 = .ok (.ifCond .ne 5, 3) := by decide +kernel
theorem dX12_lost_42 : decode cX12_lost 42 = .ok (.iload_n 2, 1) := by decide +kernel
theorem dX12_lost_43 : decode cX12_lost 43 = .ok (.ireturn, 1) := by decide +kernel
theorem dX12_lost_44 : decode cX12_lost 44 = .ok (.aload_n 0, 1) := by decide +kernel
theorem dX12_lost_45 : decode cX12_lost 45 = .ok (.getfield 25, 3) := by decide +kernel
theorem dX12_lost_48 : decode cX12_lost 48 = .ok (.invokestatic 227, 3) := by decide +kernel
theorem dX12_lost_51 : decode cX12_lost 51 = .ok (.iinc 2 1, 3) := by decide +kernel
theorem dX12_lost_54 : decode cX12_lost 54 = .ok (.goto (-32), 3) := by decide +kernel
theorem dX12_lost_57 : decode cX12_lost 57 = .ok (.ldc 90, 2) := by decide +kernel
theorem dX12_lost_59 : decode cX12_lost 59 = .ok (.ireturn, 1) := by decide +kernel
theorem dX12_goes_0 : decode cX12_goes 0 = .ok (.aload_n 0, 1) := by decide +kernel
theorem dX12_goes_1 : decode cX12_goes 1 = .ok (.iconst 0, 1) := by decide +kernel
theorem dX12_goes_2 : decode cX12_goes 2 = .ok (.putfield 47, 3) := by decide +kernel
theorem dX12_goes_5 : decode cX12_goes 5 = .ok (.aload_n 0, 1) := by decide +kernel
theorem dX12_goes_6 : decode cX12_goes 6 = .ok (.invokevirtual 203, 3) := by decide +kernel
theorem dX12_goes_9 : decode cX12_goes 9 = .ok (.ifCond .ne 6, 3) := by decide +kernel
theorem dX12_goes_12 : decode cX12_goes 12 = .ok (.ldc 206, 2) := by decide +kernel
theorem dX12_goes_14 : decode cX12_goes 14 = .ok (.ireturn, 1) := by decide +kernel
theorem dX12_goes_15 : decode cX12_goes 15 = .ok (.iload_n 1, 1) := by decide +kernel
theorem dX12_goes_16 : decode cX12_goes 16 = .ok (.i2l, 1) := by decide +kernel
theorem dX12_goes_17 : decode cX12_goes 17 = .ok (.invokestatic 207, 3) := by decide +kernel
theorem dX12_goes_20 : decode cX12_goes 20 = .ok (.ifCond .eq 13, 3) := by decide +kernel
theorem dX12_goes_23 : decode cX12_goes 23 = .ok (.iload_n 2, 1) := by decide +kernel
theorem dX12_goes_24 : decode cX12_goes 24 = .ok (.i2l, 1) := by decide +kernel
theorem dX12_goes_25 : decode cX12_goes 25 = .ok (.lconst 0, 1) := by decide +kernel
theorem dX12_goes_26 : decode cX12_goes 26 = .ok (.lconst 1, 1) := by decide +kernel
theorem dX12_goes_27 : decode cX12_goes 27 = .ok (.invokestatic 57, 3) := by decide +kernel
theorem dX12_goes_30 : decode cX12_goes 30 = .ok (.ifCond .ne 6, 3) := by decide +kernel
theorem dX12_goes_33 : decode cX12_goes 33 = .ok (.ldc 67, 2) := by decide +kernel
theorem dX12_goes_35 : decode cX12_goes 35 = .ok (.ireturn, 1) := by decide +kernel
theorem dX12_goes_36 : decode cX12_goes 36 = .ok (.aload_n 0, 1) := by decide +kernel
theorem dX12_goes_37 : decode cX12_goes 37 = .ok (.aload_n 0, 1) := by decide +kernel
theorem dX12_goes_38 : decode cX12_goes 38 = .ok (.getfield 19, 3) := by decide +kernel
theorem dX12_goes_41 : decode cX12_goes 41 = .ok (.bipush 6, 2) := by decide +kernel
theorem dX12_goes_43 : decode cX12_goes 43 = .ok (.iaload, 1) := by decide +kernel
theorem dX12_goes_44 : decode cX12_goes 44 = .ok (.iload_n 1, 1) := by decide +kernel
theorem dX12_goes_45 : decode cX12_goes 45 = .ok (.invokevirtual 176, 3) := by decide +kernel
theorem dX12_goes_48 : decode cX12_goes 48 = .ok (.aload_n 0, 1) := by decide +kernel
theorem dX12_goes_49 : decode cX12_goes 49 = .ok (.getfield 170, 3) := by decide +kernel
theorem dX12_goes_52 : decode cX12_goes 52 = .ok (.ldc 90, 2) := by decide +kernel
theorem dX12_goes_54 : decode cX12_goes 54 = .ok (.if_icmp .eq 7, 3) := by decide +kernel
theorem dX12_goes_57 : decode cX12_goes 57 = .ok (.iload_n 2, 1) := by decide +kernel
theorem dX12_goes_58 : decode cX12_goes 58 = .ok (.ifCond .ne 10, 3) := by decide +kernel
theorem dX12_goes_61 : decode cX12_goes 61 = .ok (.aload_n 0, 1) := by decide +kernel
theorem dX12_goes_62 : decode cX12_goes 62 = .ok (.getfield 170, 3) := by decide +kernel
theorem dX12_goes_65 : decode cX12_goes 65 = .ok (.goto 7, 3) := by decide +kernel
theorem dX12_goes_68 : decode cX12_goes 68 = .ok (.aload_n 0, 1) := by decide +kernel
theorem dX12_goes_69 : decode cX12_goes 69 = .ok (.getfield 164, 3) := by decide +kernel
theorem dX12_goes_72 : decode cX12_goes 72 = .ok (.ireturn, 1) := by decide +kernel
theorem dX12_comesThrough_0 : decode cX12_comesThrough 0 = .ok (.aload_n 0, 1) := by decide +kernel
theorem dX12_comesThrough_1 : decode cX12_comesThrough 1 = .ok (.aload_n 0, 1) := by decide +kernel
theorem dX12_comesThrough_2 : decode cX12_comesThrough 2 = .ok (.invokevirtual 157, 3) := by decide +kernel
theorem dX12_comesThrough_5 : decode cX12_comesThrough 5 = .ok (.iload_n 1, 1) := by decide +kernel
theorem dX12_comesThrough_6 : decode cX12_comesThrough 6 = .ok (.iconst (-1), 1) := by decide +kernel
theorem dX12_comesThrough_7 : decode cX12_comesThrough 7 = .ok (.ixor, 1) := by decide +kernel
theorem dX12_comesThrough_8 : decode cX12_comesThrough 8 = .ok (.iand, 1) := by decide +kernel
theorem dX12_comesThrough_9 : decode cX12_comesThrough 9 = .ok (.invokevirtual 161, 3) := by decide +kernel
theorem dX12_comesThrough_12 : decode cX12_comesThrough 12 = .ok (.aload_n 0, 1) := by decide +kernel
theorem dX12_comesThrough_13 : decode cX12_comesThrough 13 = .ok (.getfield 34, 3) := by decide +kernel
theorem dX12_comesThrough_16 : decode cX12_comesThrough 16 = .ok (.iload_n 2, 1) := by decide +kernel
theorem dX12_comesThrough_17 : decode cX12_comesThrough 17 = .ok (.iaload, 1) := by decide +kernel
theorem dX12_comesThrough_18 : decode cX12_comesThrough 18 = .ok (.ldc 90, 2) := by decide +kernel
theorem dX12_comesThrough_20 : decode cX12_comesThrough 20 = .ok (.if_icmp .eq 7, 3) := by decide +kernel
theorem dX12_comesThrough_23 : decode cX12_comesThrough 23 = .ok (.iconst 1, 1) := by decide +kernel
theorem dX12_comesThrough_24 : decode cX12_comesThrough 24 = .ok (.goto 4, 3) := by decide +kernel
theorem dX12_comesThrough_27 : decode cX12_comesThrough 27 = .ok (.iconst 0, 1) := by decide +kernel
theorem dX12_comesThrough_28 : decode cX12_comesThrough 28 = .ok (.ireturn, 1) := by decide +kernel
theorem dX12_stop_0 : decode cX12_stop 0 = .ok (.aload_n 0, 1) := by decide +kernel
theorem dX12_stop_1 : decode cX12_stop 1 = .ok (.iconst 0, 1) := by decide +kernel
theorem dX12_stop_2 : decode cX12_stop 2 = .ok (.putfield 47, 3) := by decide +kernel
theorem dX12_stop_5 : decode cX12_stop 5 = .ok (.aload_n 0, 1) := by decide +kernel
theorem dX12_stop_6 : decode cX12_stop 6 = .ok (.invokevirtual 203, 3) := by decide +kernel
theorem dX12_stop_9 : decode cX12_stop 9 = .ok (.ifCond .ne 6, 3) := by decide +kernel
theorem dX12_stop_12 : decode cX12_stop 12 = .ok (.ldc 206, 2) := by decide +kernel
theorem dX12_stop_14 : decode cX12_stop 14 = .ok (.ireturn, 1) := by decide +kernel
theorem dX12_stop_15 : decode cX12_stop 15 = .ok (.iload_n 1, 1) := by decide +kernel
theorem dX12_stop_16 : decode cX12_stop 16 = .ok (.i2l, 1) := by decide +kernel
theorem dX12_stop_17 : decode cX12_stop 17 = .ok (.invokestatic 207, 3) := by decide +kernel
theorem dX12_stop_20 : decode cX12_stop 20 = .ok (.ifCond .eq 13, 3) := by decide +kernel
theorem dX12_stop_23 : decode cX12_stop 23 = .ok (.iload_n 2, 1) := by decide +kernel
theorem dX12_stop_24 : decode cX12_stop 24 = .ok (.i2l, 1) := by decide +kernel
theorem dX12_stop_25 : decode cX12_stop 25 = .ok (.lconst 0, 1) := by decide +kernel
theorem dX12_stop_26 : decode cX12_stop 26 = .ok (.lconst 1, 1) := by decide +kernel
theorem dX12_stop_27 : decode cX12_stop 27 = .ok (.invokestatic 57, 3) := by decide +kernel
theorem dX12_stop_30 : decode cX12_stop 30 = .ok (.ifCond .ne 6, 3) := by decide +kernel
theorem dX12_stop_33 : decode cX12_stop 33 = .ok (.ldc 67, 2) := by decide +kernel
theorem dX12_stop_35 : decode cX12_stop 35 = .ok (.ireturn, 1) := by decide +kernel
theorem dX12_stop_36 : decode cX12_stop 36 = .ok (.iload_n 1, 1) := by decide +kernel
theorem dX12_stop_37 : decode cX12_stop 37 = .ok (.aload_n 0, 1) := by decide +kernel
theorem dX12_stop_38 : decode cX12_stop 38 = .ok (.getfield 19, 3) := by decide +kernel
theorem dX12_stop_41 : decode cX12_stop 41 = .ok (.iconst 1, 1) := by decide +kernel
theorem dX12_stop_42 : decode cX12_stop 42 = .ok (.iaload, 1) := by decide +kernel
theorem dX12_stop_43 : decode cX12_stop 43 = .ok (.if_icmp .ne 6, 3) := by decide +kernel
theorem dX12_stop_46 : decode cX12_stop 46 = .ok (.ldc 90, 2) := by decide +kernel
theorem dX12_stop_48 : decode cX12_stop 48 = .ok (.ireturn, 1) := by decide +kernel
theorem dX12_stop_49 : decode cX12_stop 49 = .ok (.ldc 90, 2) := by decide +kernel
theorem dX12_stop_51 : decode cX12_stop 51 = .ok (.istore_n 3, 1) := by decide +kernel
theorem dX12_stop_52 : decode cX12_stop 52 = .ok (.iconst 0, 1) := by decide +kernel
theorem dX12_stop_53 : decode cX12_stop 53 = .ok (.istore 4, 2) := by decide +kernel
theorem dX12_stop_55 : decode cX12_stop 55 = .ok (.iload 4, 2) := by decide +kernel
theorem dX12_stop_57 : decode cX12_stop 57 = .ok (.aload_n 0, 1) := by decide +kernel
theorem dX12_stop_58 : decode cX12_stop 58 = .ok (.invokevirtual 157, 3) := by decide +kernel
theorem dX12_stop_61 : decode cX12_stop 61 = .ok (.if_icmp .gt 77, 3) := by decide +kernel
theorem dX12_stop_64 : decode cX12_stop 64 = .ok (.iload 4, 2) := by decide +kernel
theorem dX12_stop_66 : decode cX12_stop 66 = .ok (.aload_n 0, 1) := by decide +kernel
theorem dX12_stop_67 : decode cX12_stop 67 = .ok (.getfield 19, 3) := by decide +kernel
theorem dX12_stop_70 : decode cX12_stop 70 = .ok (.bipush 6, 2) := by decide +kernel
theorem dX12_stop_72 : decode cX12_stop 72 = .ok (.iaload, 1) := by decide +kernel
theorem dX12_stop_73 : decode cX12_stop 73 = .ok (.iand, 1) := by decide +kernel
theorem dX12_stop_74 : decode cX12_stop 74 = .ok (.ifCond .ne 25, 3) := by decide +kernel
theorem dX12_stop_77 : decode cX12_stop 77 = .ok (.iload_n 3, 1) := by decide +kernel
theorem dX12_stop_78 : decode cX12_stop 78 = .ok (.ldc 90, 2) := by decide +kernel
theorem dX12_stop_80 : decode cX12_stop 80 = .ok (.if_icmp .eq 15, 3) := by decide +kernel
theorem dX12_stop_83 : decode cX12_stop 83 = .ok (.iload 4, 2) := by decide +kernel
theorem dX12_stop_85 : decode cX12_stop 85 = .ok (.invokestatic 246, 3) := by decide +kernel
theorem dX12_stop_88 : decode cX12_stop 88 = .ok (.iload_n 3, 1) := by decide +kernel
theorem dX12_stop_89 : decode cX12_stop 89 = .ok (.invokestatic 246, 3) := by decide +kernel
theorem dX12_stop_92 : decode cX12_stop 92 = .ok (.if_icmp .ge 7, 3) := by decide +kernel
theorem dX12_stop_95 : decode cX12_stop 95 = .ok (.iconst 1, 1) := by decide +kernel
theorem dX12_stop_96 : decode cX12_stop 96 = .ok (.goto 4, 3) := by decide +kernel
theorem dX12_stop_99 : decode cX12_stop 99 = .ok (.iconst 0, 1) := by decide +kernel
theorem dX12_stop_100 : decode cX12_stop 100 = .ok (.istore 5, 2) := by decide +kernel
theorem dX12_stop_102 : decode cX12_stop 102 = .ok (.iload 5, 2) := by decide +kernel
theorem dX12_stop_104 : decode cX12_stop 104 = .ok (.ifCond .eq 26, 3) := by decide +kernel
theorem dX12_stop_107 : decode cX12_stop 107 = .ok (.aload_n 0, 1) := by decide +kernel
theorem dX12_stop_108 : decode cX12_stop 108 = .ok (.aload_n 0, 1) := by decide +kernel
theorem dX12_stop_109 : decode cX12_stop 109 = .ok (.getfield 19, 3) := by decide +kernel
theorem dX12_stop_112 : decode cX12_stop 112 = .ok (.bipush 6, 2) := by decide +kernel
theorem dX12_stop_114 : decode cX12_stop 114 = .ok (.iaload, 1) := by decide +kernel
theorem dX12_stop_115 : decode cX12_stop 115 = .ok (.iload 4, 2) := by decide +kernel
theorem dX12_stop_117 : decode cX12_stop 117 = .ok (.ior, 1) := by decide +kernel
theorem dX12_stop_118 : decode cX12_stop 118 = .ok (.iload_n 1, 1) := by decide +kernel
theorem dX12_stop_119 : decode cX12_stop 119 = .ok (.invokevirtual 249, 3) := by decide +kernel
theorem dX12_stop_122 : decode cX12_stop 122 = .ok (.ifCond .ne 8, 3) := by decide +kernel
theorem dX12_stop_125 : decode cX12_stop 125 = .ok (.iload 4, 2) := by decide +kernel
theorem dX12_stop_127 : decode cX12_stop 127 = .ok (.goto 4, 3) := by decide +kernel
theorem dX12_stop_130 : decode cX12_stop 130 = .ok (.iload_n 3, 1) := by decide +kernel
theorem dX12_stop_131 : decode cX12_stop 131 = .ok (.istore_n 3, 1) := by decide +kernel
theorem dX12_stop_132 : decode cX12_stop 132 = .ok (.iinc 4 1, 3) := by decide +kernel
theorem dX12_stop_135 : decode cX12_stop 135 = .ok (.goto (-80), 3) := by decide +kernel
theorem dX12_stop_138 : decode cX12_stop 138 = .ok (.iload_n 2, 1) := by decide +kernel
theorem dX12_stop_139 : decode cX12_stop 139 = .ok (.ifCond .ne 10, 3) := by decide +kernel
theorem dX12_stop_142 : decode cX12_stop 142 = .ok (.iload_n 3, 1) := by decide +kernel
theorem dX12_stop_143 : decode cX12_stop 143 = .ok (.invokestatic 246, 3) := by decide +kernel
theorem dX12_stop_146 : decode cX12_stop 146 = .ok (.goto 4, 3) := by decide +kernel
theorem dX12_stop_149 : decode cX12_stop 149 = .ok (.iload_n 3, 1) := by decide +kernel
theorem dX12_stop_150 : decode cX12_stop 150 = .ok (.ireturn, 1) := by decide +kernel
theorem dX12_must__0 : decode cX12_must_ 0 = .ok (.aload_n 0, 1) := by decide +kernel
theorem dX12_must__1 : decode cX12_must_ 1 = .ok (.iconst 0, 1) := by decide +kernel
theorem dX12_must__2 : decode cX12_must_ 2 = .ok (.putfield 47, 3) := by decide +kernel
theorem dX12_must__5 : decode cX12_must_ 5 = .ok (.aload_n 0, 1) := by decide +kernel
theorem dX12_must__6 : decode cX12_must_ 6 = .ok (.invokevirtual 203, 3) := by decide +kernel
theorem dX12_must__9 : decode cX12_must_ 9 = .ok (.ifCond .ne 6, 3) := by decide +kernel
theorem dX12_must__12 : decode cX12_must_ 12 = .ok (.ldc 206, 2) := by decide +kernel
theorem dX12_must__14 : decode cX12_must_ 14 = .ok (.ireturn, 1) := by decide +kernel
theorem dX12_must__15 : decode cX12_must_ 15 = .ok (.iload_n 1, 1) := by decide +kernel
theorem dX12_must__16 : decode cX12_must_ 16 = .ok (.i2l, 1) := by decide +kernel
theorem dX12_must__17 : decode cX12_must_ 17 = .ok (.invokestatic 207, 3) := by decide +kernel
theorem dX12_must__20 : decode cX12_must_ 20 = .ok (.ifCond .ne 6, 3) := by decide +kernel
theorem dX12_must__23 : decode cX12_must_ 23 = .ok (.ldc 67, 2) := by decide +kernel
theorem dX12_must__25 : decode cX12_must_ 25 = .ok (.ireturn, 1) := by decide +kernel
theorem dX12_must__26 : decode cX12_must_ 26 = .ok (.iconst 0, 1) := by decide +kernel
theorem dX12_must__27 : decode cX12_must_ 27 = .ok (.istore_n 2, 1) := by decide +kernel
theorem dX12_must__28 : decode cX12_must_ 28 = .ok (.aload_n 0, 1) := by decide +kernel
theorem dX12_must__29 : decode cX12_must_ 29 = .ok (.aload_n 0, 1) := by decide +kernel
theorem dX12_must__30 : decode cX12_must_ 30 = .ok (.getfield 19, 3) := by decide +kernel
theorem dX12_must__33 : decode cX12_must_ 33 = .ok (.bipush 6, 2) := by decide +kernel
theorem dX12_must__35 : decode cX12_must_ 35 = .ok (.iaload, 1) := by decide +kernel
theorem dX12_must__36 : decode cX12_must_ 36 = .ok (.iload_n 1, 1) := by decide +kernel
theorem dX12_must__37 : decode cX12_must_ 37 = .ok (.invokevirtual 211, 3) := by decide +kernel
theorem dX12_must__40 : decode cX12_must_ 40 = .ok (.istore_n 3, 1) := by decide +kernel
theorem dX12_must__41 : decode cX12_must_ 41 = .ok (.iconst 0, 1) := by decide +kernel
theorem dX12_must__42 : decode cX12_must_ 42 = .ok (.istore 4, 2) := by decide +kernel
theorem dX12_must__44 : decode cX12_must_ 44 = .ok (.iload 4, 2) := by decide +kernel
theorem dX12_must__46 : decode cX12_must_ 46 = .ok (.aload_n 0, 1) := by decide +kernel
theorem dX12_must__47 : decode cX12_must_ 47 = .ok (.getfield 19, 3) := by decide +kernel
theorem dX12_must__50 : decode cX12_must_ 50 = .ok (.iconst 3, 1) := by decide +kernel
theorem dX12_must__51 : decode cX12_must_ 51 = .ok (.iaload, 1) := by decide +kernel
theorem dX12_must__52 : decode cX12_must_ 52 = .ok (.if_icmp .ge 59, 3) := by decide +kernel
theorem dX12_must__55 : decode cX12_must_ 55 = .ok (.iload_n 3, 1) := by decide +kernel
theorem dX12_must__56 : decode cX12_must_ 56 = .ok (.ifCond .eq 55, 3) := by decide +kernel
theorem dX12_must__59 : decode cX12_must_ 59 = .ok (.iload_n 2, 1) := by decide +kernel
theorem dX12_must__60 : decode cX12_must_ 60 = .ok (.aload_n 0, 1) := by decide +kernel
theorem dX12_must__61 : decode cX12_must_ 61 = .ok (.getfield 19, 3) := by decide +kernel
theorem dX12_must__64 : decode cX12_must_ 64 = .ok (.bipush 6, 2) := by decide +kernel
theorem dX12_must__66 : decode cX12_must_ 66 = .ok (.iaload, 1) := by decide +kernel
theorem dX12_must__67 : decode cX12_must_ 67 = .ok (.iload 4, 2) := by decide +kernel
theorem dX12_must__69 : decode cX12_must_ 69 = .ok (.invokestatic 153, 3) := by decide +kernel
theorem dX12_must__72 : decode cX12_must_ 72 = .ok (.ifCond .ne 30, 3) := by decide +kernel
theorem dX12_must__75 : decode cX12_must_ 75 = .ok (.aload_n 0, 1) := by decide +kernel
theorem dX12_must__76 : decode cX12_must_ 76 = .ok (.aload_n 0, 1) := by decide +kernel
theorem dX12_must__77 : decode cX12_must_ 77 = .ok (.getfield 19, 3) := by decide +kernel
theorem dX12_must__80 : decode cX12_must_ 80 = .ok (.bipush 6, 2) := by decide +kernel
theorem dX12_must__82 : decode cX12_must_ 82 = .ok (.iaload, 1) := by decide +kernel
theorem dX12_must__83 : decode cX12_must_ 83 = .ok (.iconst 1, 1) := by decide +kernel
theorem dX12_must__84 : decode cX12_must_ 84 = .ok (.iload 4, 2) := by decide +kernel
theorem dX12_must__86 : decode cX12_must_ 86 = .ok (.ishl, 1) := by decide +kernel
theorem dX12_must__87 : decode cX12_must_ 87 = .ok (.ior, 1) := by decide +kernel
theorem dX12_must__88 : decode cX12_must_ 88 = .ok (.iload_n 1, 1) := by decide +kernel
theorem dX12_must__89 : decode cX12_must_ 89 = .ok (.invokevirtual 249, 3) := by decide +kernel
theorem dX12_must__92 : decode cX12_must_ 92 = .ok (.ifCond .ne 10, 3) := by decide +kernel
theorem dX12_must__95 : decode cX12_must_ 95 = .ok (.iconst 1, 1) := by decide +kernel
theorem dX12_must__96 : decode cX12_must_ 96 = .ok (.iload 4, 2) := by decide +kernel
theorem dX12_must__98 : decode cX12_must_ 98 = .ok (.ishl, 1) := by decide +kernel
theorem dX12_must__99 : decode cX12_must_ 99 = .ok (.goto 4, 3) := by decide +kernel
theorem dX12_must__102 : decode cX12_must_ 102 = .ok (.iconst 0, 1) := by decide +kernel
theorem dX12_must__103 : decode cX12_must_ 103 = .ok (.ior, 1) := by decide +kernel
theorem dX12_must__104 : decode cX12_must_ 104 = .ok (.istore_n 2, 1) := by decide +kernel
theorem dX12_must__105 : decode cX12_must_ 105 = .ok (.iinc 4 1, 3) := by decide +kernel
theorem dX12_must__108 : decode cX12_must_ 108 = .ok (.goto (-64), 3) := by decide +kernel
theorem dX12_must__111 : decode cX12_must_ 111 = .ok (.iload_n 2, 1) := by decide +kernel
theorem dX12_must__112 : decode cX12_must_ 112 = .ok (.ireturn, 1) := by decide +kernel
theorem dX12_live_0 : decode cX12_live 0 = .ok (.aload_n 0, 1) := by decide +kernel
theorem dX12_live_1 : decode cX12_live 1 = .ok (.iconst 0, 1) := by decide +kernel
theorem dX12_live_2 : decode cX12_live 2 = .ok (.putfield 47, 3) := by decide +kernel
theorem dX12_live_5 : decode cX12_live 5 = .ok (.aload_n 0, 1) := by decide +kernel
theorem dX12_live_6 : decode cX12_live 6 = .ok (.invokevirtual 203, 3) := by decide +kernel
theorem dX12_live_9 : decode cX12_live 9 = .ok (.ifCond .ne 6, 3) := by decide +kernel
theorem dX12_live_12 : decode cX12_live 12 = .ok (.ldc 206, 2) := by decide +kernel
theorem dX12_live_14 : decode cX12_live 14 = .ok (.ireturn, 1) := by decide +kernel
theorem dX12_live_15 : decode cX12_live 15 = .ok (.iload_n 1, 1) := by decide +kernel
theorem dX12_live_16 : decode cX12_live 16 = .ok (.i2l, 1) := by decide +kernel
theorem dX12_live_17 : decode cX12_live 17 = .ok (.lconst 0, 1) := by decide +kernel
theorem dX12_live_18 : decode cX12_live 18 = .ok (.aload_n 0, 1) := by decide +kernel
theorem dX12_live_19 : decode cX12_live 19 = .ok (.invokevirtual 157, 3) := by decide +kernel
theorem dX12_live_22 : decode cX12_live 22 = .ok (.i2l, 1) := by decide +kernel
theorem dX12_live_23 : decode cX12_live 23 = .ok (.invokestatic 57, 3) := by decide +kernel
theorem dX12_live_26 : decode cX12_live 26 = .ok (.ifCond .eq 13, 3) := by decide +kernel
theorem dX12_live_29 : decode cX12_live 29 = .ok (.iload_n 2, 1) := by decide +kernel
theorem dX12_live_30 : decode cX12_live 30 = .ok (.i2l, 1) := by decide +kernel
theorem dX12_live_31 : decode cX12_live 31 = .ok (.lconst 0, 1) := by decide +kernel
theorem dX12_live_32 : decode cX12_live 32 = .ok (.lconst 1, 1) := by decide +kernel
theorem dX12_live_33 : decode cX12_live 33 = .ok (.invokestatic 57, 3) := by decide +kernel
theorem dX12_live_36 : decode cX12_live 36 = .ok (.ifCond .ne 6, 3) := by decide +kernel
theorem dX12_live_39 : decode cX12_live 39 = .ok (.ldc 67, 2) := by decide +kernel
theorem dX12_live_41 : decode cX12_live 41 = .ok (.ireturn, 1) := by decide +kernel
theorem dX12_live_42 : decode cX12_live 42 = .ok (.ldc 90, 2) := by decide +kernel
theorem dX12_live_44 : decode cX12_live 44 = .ok (.istore_n 3, 1) := by decide +kernel
theorem dX12_live_45 : decode cX12_live 45 = .ok (.iconst 0, 1) := by decide +kernel
theorem dX12_live_46 : decode cX12_live 46 = .ok (.istore 4, 2) := by decide +kernel
theorem dX12_live_48 : decode cX12_live 48 = .ok (.iload 4, 2) := by decide +kernel
theorem dX12_live_50 : decode cX12_live 50 = .ok (.iconst 1, 1) := by decide +kernel
theorem dX12_live_51 : decode cX12_live 51 = .ok (.aload_n 0, 1) := by decide +kernel
theorem dX12_live_52 : decode cX12_live 52 = .ok (.getfield 19, 3) := by decide +kernel
theorem dX12_live_55 : decode cX12_live 55 = .ok (.iconst 4, 1) := by decide +kernel
theorem dX12_live_56 : decode cX12_live 56 = .ok (.iaload, 1) := by decide +kernel
theorem dX12_live_57 : decode cX12_live 57 = .ok (.ishl, 1) := by decide +kernel
theorem dX12_live_58 : decode cX12_live 58 = .ok (.if_icmp .ge 148, 3) := by decide +kernel
theorem dX12_live_61 : decode cX12_live 61 = .ok (.iconst 0, 1) := by decide +kernel
theorem dX12_live_62 : decode cX12_live 62 = .ok (.istore 5, 2) := by decide +kernel
theorem dX12_live_64 : decode cX12_live 64 = .ok (.iconst 1, 1) := by decide +kernel
theorem dX12_live_65 : decode cX12_live 65 = .ok (.istore 6, 2) := by decide +kernel
theorem dX12_live_67 : decode cX12_live 67 = .ok (.iconst 0, 1) := by decide +kernel
theorem dX12_live_68 : decode cX12_live 68 = .ok (.istore 7, 2) := by decide +kernel
theorem dX12_live_70 : decode cX12_live 70 = .ok (.iload 7, 2) := by decide +kernel
theorem dX12_live_72 : decode cX12_live 72 = .ok (.aload_n 0, 1) := by decide +kernel
theorem dX12_live_73 : decode cX12_live 73 = .ok (.getfield 19, 3) := by decide +kernel
theorem dX12_live_76 : decode cX12_live 76 = .ok (.iconst 4, 1) := by decide +kernel
theorem dX12_live_77 : decode cX12_live 77 = .ok (.iaload, 1) := by decide +kernel
theorem dX12_live_78 : decode cX12_live 78 = .ok (.if_icmp .ge 71, 3) := by decide +kernel
theorem dX12_live_81 : decode cX12_live 81 = .ok (.iload 5, 2) := by decide +kernel
theorem dX12_live_83 : decode cX12_live 83 = .ok (.iload 4, 2) := by decide +kernel
theorem dX12_live_85 : decode cX12_live 85 = .ok (.iload 7, 2) := by decide +kernel
theorem dX12_live_87 : decode cX12_live 87 = .ok (.invokestatic 153, 3) := by decide +kernel
theorem dX12_live_90 : decode cX12_live 90 = .ok (.ifCond .eq 15, 3) := by decide +kernel
theorem dX12_live_93 : decode cX12_live 93 = .ok (.aload_n 0, 1) := by decide +kernel
theorem dX12_live_94 : decode cX12_live 94 = .ok (.getfield 19, 3) := by decide +kernel
theorem dX12_live_97 : decode cX12_live 97 = .ok (.iload 7, 2) := by decide +kernel
theorem dX12_live_99 : decode cX12_live 99 = .ok (.invokestatic 195, 3) := by decide +kernel
theorem dX12_live_102 : decode cX12_live 102 = .ok (.goto 4, 3) := by decide +kernel
theorem dX12_live_105 : decode cX12_live 105 = .ok (.iconst 0, 1) := by decide +kernel
theorem dX12_live_106 : decode cX12_live 106 = .ok (.ior, 1) := by decide +kernel
theorem dX12_live_107 : decode cX12_live 107 = .ok (.istore 5, 2) := by decide +kernel
theorem dX12_live_109 : decode cX12_live 109 = .ok (.iload 6, 2) := by decide +kernel
theorem dX12_live_111 : decode cX12_live 111 = .ok (.ifCond .eq 29, 3) := by decide +kernel
theorem dX12_live_114 : decode cX12_live 114 = .ok (.iload 4, 2) := by decide +kernel
theorem dX12_live_116 : decode cX12_live 116 = .ok (.iload 7, 2) := by decide +kernel
theorem dX12_live_118 : decode cX12_live 118 = .ok (.invokestatic 153, 3) := by decide +kernel
theorem dX12_live_121 : decode cX12_live 121 = .ok (.ifCond .eq 15, 3) := by decide +kernel
theorem dX12_live_124 : decode cX12_live 124 = .ok (.aload_n 0, 1) := by decide +kernel
theorem dX12_live_125 : decode cX12_live 125 = .ok (.getfield 19, 3) := by decide +kernel
theorem dX12_live_128 : decode cX12_live 128 = .ok (.iload 7, 2) := by decide +kernel
theorem dX12_live_130 : decode cX12_live 130 = .ok (.invokestatic 191, 3) := by decide +kernel
theorem dX12_live_133 : decode cX12_live 133 = .ok (.ifCond .eq 7, 3) := by decide +kernel
theorem dX12_live_136 : decode cX12_live 136 = .ok (.iconst 1, 1) := by decide +kernel
theorem dX12_live_137 : decode cX12_live 137 = .ok (.goto 4, 3) := by decide +kernel
theorem dX12_live_140 : decode cX12_live 140 = .ok (.iconst 0, 1) := by decide +kernel
theorem dX12_live_141 : decode cX12_live 141 = .ok (.istore 6, 2) := by decide +kernel
theorem dX12_live_143 : decode cX12_live 143 = .ok (.iinc 7 1, 3) := by decide +kernel
theorem dX12_live_146 : decode cX12_live 146 = .ok (.goto (-76), 3) := by decide +kernel
theorem dX12_live_149 : decode cX12_live 149 = .ok (.iload_n 3, 1) := by decide +kernel
theorem dX12_live_150 : decode cX12_live 150 = .ok (.ldc 90, 2) := by decide +kernel
theorem dX12_live_152 : decode cX12_live 152 = .ok (.if_icmp .eq 15, 3) := by decide +kernel
theorem dX12_live_155 : decode cX12_live 155 = .ok (.iload 4, 2) := by decide +kernel
theorem dX12_live_157 : decode cX12_live 157 = .ok (.invokestatic 246, 3) := by decide +kernel
theorem dX12_live_160 : decode cX12_live 160 = .ok (.iload_n 3, 1) := by decide +kernel
theorem dX12_live_161 : decode cX12_live 161 = .ok (.invokestatic 246, 3) := by decide +kernel
theorem dX12_live_164 : decode cX12_live 164 = .ok (.if_icmp .ge 7, 3) := by decide +kernel
theorem dX12_live_167 : decode cX12_live 167 = .ok (.iconst 1, 1) := by decide +kernel
theorem dX12_live_168 : decode cX12_live 168 = .ok (.goto 4, 3) := by decide +kernel
theorem dX12_live_171 : decode cX12_live 171 = .ok (.iconst 0, 1) := by decide +kernel
theorem dX12_live_172 : decode cX12_live 172 = .ok (.istore 7, 2) := by decide +kernel
theorem dX12_live_174 : decode cX12_live 174 = .ok (.iload 7, 2) := by decide +kernel
theorem dX12_live_176 : decode cX12_live 176 = .ok (.ifCond .eq 22, 3) := by decide +kernel
theorem dX12_live_179 : decode cX12_live 179 = .ok (.iload 6, 2) := by decide +kernel
theorem dX12_live_181 : decode cX12_live 181 = .ok (.ifCond .eq 17, 3) := by decide +kernel
theorem dX12_live_184 : decode cX12_live 184 = .ok (.iload_n 1, 1) := by decide +kernel
theorem dX12_live_185 : decode cX12_live 185 = .ok (.iload 5, 2) := by decide +kernel
theorem dX12_live_187 : decode cX12_live 187 = .ok (.iconst (-1), 1) := by decide +kernel
theorem dX12_live_188 : decode cX12_live 188 = .ok (.ixor, 1) := by decide +kernel
theorem dX12_live_189 : decode cX12_live 189 = .ok (.iand, 1) := by decide +kernel
theorem dX12_live_190 : decode cX12_live 190 = .ok (.ifCond .ne 8, 3) := by decide +kernel
theorem dX12_live_193 : decode cX12_live 193 = .ok (.iload 4, 2) := by decide +kernel
theorem dX12_live_195 : decode cX12_live 195 = .ok (.goto 4, 3) := by decide +kernel
theorem dX12_live_198 : decode cX12_live 198 = .ok (.iload_n 3, 1) := by decide +kernel
theorem dX12_live_199 : decode cX12_live 199 = .ok (.istore_n 3, 1) := by decide +kernel
theorem dX12_live_200 : decode cX12_live 200 = .ok (.iinc 4 1, 3) := by decide +kernel
theorem dX12_live_203 : decode cX12_live 203 = .ok (.goto (-155), 3) := by decide +kernel
theorem dX12_live_206 : decode cX12_live 206 = .ok (.iload_n 3, 1) := by decide +kernel
theorem dX12_live_207 : decode cX12_live 207 = .ok (.ldc 90, 2) := by decide +kernel
theorem dX12_live_209 : decode cX12_live 209 = .ok (.if_icmp .eq 8, 3) := by decide +kernel
theorem dX12_live_212 : decode cX12_live 212 = .ok (.iload_n 2, 1) := by decide +kernel
theorem dX12_live_213 : decode cX12_live 213 = .ok (.iconst 1, 1) := by decide +kernel
theorem dX12_live_214 : decode cX12_live 214 = .ok (.if_icmp .ne 7, 3) := by decide +kernel
theorem dX12_live_217 : decode cX12_live 217 = .ok (.iload_n 3, 1) := by decide +kernel
theorem dX12_live_218 : decode cX12_live 218 = .ok (.goto 7, 3) := by decide +kernel
theorem dX12_live_221 : decode cX12_live 221 = .ok (.iload_n 3, 1) := by decide +kernel
theorem dX12_live_222 : decode cX12_live 222 = .ok (.invokestatic 246, 3) := by decide +kernel
theorem dX12_live_225 : decode cX12_live 225 = .ok (.ireturn, 1) := by decide +kernel
theorem dX12_waysBehind_0 : decode cX12_waysBehind 0 = .ok (.aload_n 0, 1) := by decide +kernel
theorem dX12_waysBehind_1 : decode cX12_waysBehind 1 = .ok (.aload_n 0, 1) := by decide +kernel
theorem dX12_waysBehind_2 : decode cX12_waysBehind 2 = .ok (.getfield 19, 3) := by decide +kernel
theorem dX12_waysBehind_5 : decode cX12_waysBehind 5 = .ok (.bipush 6, 2) := by decide +kernel
theorem dX12_waysBehind_7 : decode cX12_waysBehind 7 = .ok (.iaload, 1) := by decide +kernel
theorem dX12_waysBehind_8 : decode cX12_waysBehind 8 = .ok (.iload_n 1, 1) := by decide +kernel
theorem dX12_waysBehind_9 : decode cX12_waysBehind 9 = .ok (.invokevirtual 211, 3) := by decide +kernel
theorem dX12_waysBehind_12 : decode cX12_waysBehind 12 = .ok (.ifCond .ne 6, 3) := by decide +kernel
theorem dX12_waysBehind_15 : decode cX12_waysBehind 15 = .ok (.ldc 90, 2) := by decide +kernel
theorem dX12_waysBehind_17 : decode cX12_waysBehind 17 = .ok (.ireturn, 1) := by decide +kernel
theorem dX12_waysBehind_18 : decode cX12_waysBehind 18 = .ok (.aload_n 0, 1) := by decide +kernel
theorem dX12_waysBehind_19 : decode cX12_waysBehind 19 = .ok (.invokevirtual 243, 3) := by decide +kernel
theorem dX12_waysBehind_22 : decode cX12_waysBehind 22 = .ok (.aload_n 0, 1) := by decide +kernel
theorem dX12_waysBehind_23 : decode cX12_waysBehind 23 = .ok (.aload_n 0, 1) := by decide +kernel
theorem dX12_waysBehind_24 : decode cX12_waysBehind 24 = .ok (.getfield 25, 3) := by decide +kernel
theorem dX12_waysBehind_27 : decode cX12_waysBehind 27 = .ok (.invokevirtual 217, 3) := by decide +kernel
theorem dX12_waysBehind_30 : decode cX12_waysBehind 30 = .ok (.aload_n 0, 1) := by decide +kernel
theorem dX12_waysBehind_31 : decode cX12_waysBehind 31 = .ok (.getfield 25, 3) := by decide +kernel
theorem dX12_waysBehind_34 : decode cX12_waysBehind 34 = .ok (.invokestatic 221, 3) := by decide +kernel
theorem dX12_waysBehind_37 : decode cX12_waysBehind 37 = .ok (.ireturn, 1) := by decide +kernel
theorem dX12_makesBy_0 : decode cX12_makesBy 0 = .ok (.aload_n 0, 1) := by decide +kernel
theorem dX12_makesBy_1 : decode cX12_makesBy 1 = .ok (.iload_n 1, 1) := by decide +kernel
theorem dX12_makesBy_2 : decode cX12_makesBy 2 = .ok (.invokevirtual 252, 3) := by decide +kernel
theorem dX12_makesBy_5 : decode cX12_makesBy 5 = .ok (.istore_n 2, 1) := by decide +kernel
theorem dX12_makesBy_6 : decode cX12_makesBy 6 = .ok (.iload_n 2, 1) := by decide +kernel
theorem dX12_makesBy_7 : decode cX12_makesBy 7 = .ok (.ldc 90, 2) := by decide +kernel
theorem dX12_makesBy_9 : decode cX12_makesBy 9 = .ok (.if_icmp .ne 8, 3) := by decide +kernel
theorem dX12_makesBy_12 : decode cX12_makesBy 12 = .ok (.ldc 90, 2) := by decide +kernel
theorem dX12_makesBy_14 : decode cX12_makesBy 14 = .ok (.goto 17, 3) := by decide +kernel
theorem dX12_makesBy_17 : decode cX12_makesBy 17 = .ok (.iload_n 2, 1) := by decide +kernel
theorem dX12_makesBy_18 : decode cX12_makesBy 18 = .ok (.aload_n 0, 1) := by decide +kernel
theorem dX12_makesBy_19 : decode cX12_makesBy 19 = .ok (.getfield 19, 3) := by decide +kernel
theorem dX12_makesBy_22 : decode cX12_makesBy 22 = .ok (.invokestatic 221, 3) := by decide +kernel
theorem dX12_makesBy_25 : decode cX12_makesBy 25 = .ok (.iconst (-1), 1) := by decide +kernel
theorem dX12_makesBy_26 : decode cX12_makesBy 26 = .ok (.ixor, 1) := by decide +kernel
theorem dX12_makesBy_27 : decode cX12_makesBy 27 = .ok (.iand, 1) := by decide +kernel
theorem dX12_makesBy_28 : decode cX12_makesBy 28 = .ok (.invokestatic 246, 3) := by decide +kernel
theorem dX12_makesBy_31 : decode cX12_makesBy 31 = .ok (.ireturn, 1) := by decide +kernel
theorem dX12_makes_0 : decode cX12_makes 0 = .ok (.aload_n 0, 1) := by decide +kernel
theorem dX12_makes_1 : decode cX12_makes 1 = .ok (.iconst 0, 1) := by decide +kernel
theorem dX12_makes_2 : decode cX12_makes 2 = .ok (.putfield 47, 3) := by decide +kernel
theorem dX12_makes_5 : decode cX12_makes 5 = .ok (.aload_n 0, 1) := by decide +kernel
theorem dX12_makes_6 : decode cX12_makes 6 = .ok (.invokevirtual 203, 3) := by decide +kernel
theorem dX12_makes_9 : decode cX12_makes 9 = .ok (.ifCond .ne 6, 3) := by decide +kernel
theorem dX12_makes_12 : decode cX12_makes 12 = .ok (.ldc 206, 2) := by decide +kernel
theorem dX12_makes_14 : decode cX12_makes 14 = .ok (.ireturn, 1) := by decide +kernel
theorem dX12_makes_15 : decode cX12_makes 15 = .ok (.iload_n 1, 1) := by decide +kernel
theorem dX12_makes_16 : decode cX12_makes 16 = .ok (.i2l, 1) := by decide +kernel
theorem dX12_makes_17 : decode cX12_makes 17 = .ok (.invokestatic 207, 3) := by decide +kernel
theorem dX12_makes_20 : decode cX12_makes 20 = .ok (.ifCond .eq 11, 3) := by decide +kernel
theorem dX12_makes_23 : decode cX12_makes 23 = .ok (.aload_n 0, 1) := by decide +kernel
theorem dX12_makes_24 : decode cX12_makes 24 = .ok (.iload_n 1, 1) := by decide +kernel
theorem dX12_makes_25 : decode cX12_makes 25 = .ok (.invokevirtual 255, 3) := by decide +kernel
theorem dX12_makes_28 : decode cX12_makes 28 = .ok (.goto 5, 3) := by decide +kernel
theorem dX12_makes_31 : decode cX12_makes 31 = .ok (.ldc 67, 2) := by decide +kernel
theorem dX12_makes_33 : decode cX12_makes 33 = .ok (.ireturn, 1) := by decide +kernel
theorem dX12_best_0 : decode cX12_best 0 = .ok (.aload_n 0, 1) := by decide +kernel
theorem dX12_best_1 : decode cX12_best 1 = .ok (.iconst 0, 1) := by decide +kernel
theorem dX12_best_2 : decode cX12_best 2 = .ok (.putfield 47, 3) := by decide +kernel
theorem dX12_best_5 : decode cX12_best 5 = .ok (.aload_n 0, 1) := by decide +kernel
theorem dX12_best_6 : decode cX12_best 6 = .ok (.invokevirtual 203, 3) := by decide +kernel
theorem dX12_best_9 : decode cX12_best 9 = .ok (.ifCond .ne 6, 3) := by decide +kernel
theorem dX12_best_12 : decode cX12_best 12 = .ok (.ldc 206, 2) := by decide +kernel
theorem dX12_best_14 : decode cX12_best 14 = .ok (.ireturn, 1) := by decide +kernel
theorem dX12_best_15 : decode cX12_best 15 = .ok (.iload_n 1, 1) := by decide +kernel
theorem dX12_best_16 : decode cX12_best 16 = .ok (.i2l, 1) := by decide +kernel
theorem dX12_best_17 : decode cX12_best 17 = .ok (.lconst 0, 1) := by decide +kernel
theorem dX12_best_18 : decode cX12_best 18 = .ok (.lconst 1, 1) := by decide +kernel
theorem dX12_best_19 : decode cX12_best 19 = .ok (.invokestatic 57, 3) := by decide +kernel
theorem dX12_best_22 : decode cX12_best 22 = .ok (.ifCond .ne 6, 3) := by decide +kernel
theorem dX12_best_25 : decode cX12_best 25 = .ok (.ldc 67, 2) := by decide +kernel
theorem dX12_best_27 : decode cX12_best 27 = .ok (.ireturn, 1) := by decide +kernel
theorem dX12_best_28 : decode cX12_best 28 = .ok (.ldc 90, 2) := by decide +kernel
theorem dX12_best_30 : decode cX12_best 30 = .ok (.istore_n 2, 1) := by decide +kernel
theorem dX12_best_31 : decode cX12_best 31 = .ok (.ldc 90, 2) := by decide +kernel
theorem dX12_best_33 : decode cX12_best 33 = .ok (.istore_n 3, 1) := by decide +kernel
theorem dX12_best_34 : decode cX12_best 34 = .ok (.iconst 0, 1) := by decide +kernel
theorem dX12_best_35 : decode cX12_best 35 = .ok (.istore 4, 2) := by decide +kernel
theorem dX12_best_37 : decode cX12_best 37 = .ok (.iload 4, 2) := by decide +kernel
theorem dX12_best_39 : decode cX12_best 39 = .ok (.bipush 8, 2) := by decide +kernel
theorem dX12_best_41 : decode cX12_best 41 = .ok (.if_icmp .ge 43, 3) := by decide +kernel
theorem dX12_best_44 : decode cX12_best 44 = .ok (.aload_n 0, 1) := by decide +kernel
theorem dX12_best_45 : decode cX12_best 45 = .ok (.iload 4, 2) := by decide +kernel
theorem dX12_best_47 : decode cX12_best 47 = .ok (.invokevirtual 255, 3) := by decide +kernel
theorem dX12_best_50 : decode cX12_best 50 = .ok (.istore 5, 2) := by decide +kernel
theorem dX12_best_52 : decode cX12_best 52 = .ok (.iload 5, 2) := by decide +kernel
theorem dX12_best_54 : decode cX12_best 54 = .ok (.iload_n 3, 1) := by decide +kernel
theorem dX12_best_55 : decode cX12_best 55 = .ok (.if_icmp .le 8, 3) := by decide +kernel
theorem dX12_best_58 : decode cX12_best 58 = .ok (.iload 4, 2) := by decide +kernel
theorem dX12_best_60 : decode cX12_best 60 = .ok (.goto 4, 3) := by decide +kernel
theorem dX12_best_63 : decode cX12_best 63 = .ok (.iload_n 2, 1) := by decide +kernel
theorem dX12_best_64 : decode cX12_best 64 = .ok (.istore_n 2, 1) := by decide +kernel
theorem dX12_best_65 : decode cX12_best 65 = .ok (.iload 5, 2) := by decide +kernel
theorem dX12_best_67 : decode cX12_best 67 = .ok (.iload_n 3, 1) := by decide +kernel
theorem dX12_best_68 : decode cX12_best 68 = .ok (.if_icmp .le 8, 3) := by decide +kernel
theorem dX12_best_71 : decode cX12_best 71 = .ok (.iload 5, 2) := by decide +kernel
theorem dX12_best_73 : decode cX12_best 73 = .ok (.goto 4, 3) := by decide +kernel
theorem dX12_best_76 : decode cX12_best 76 = .ok (.iload_n 3, 1) := by decide +kernel
theorem dX12_best_77 : decode cX12_best 77 = .ok (.istore_n 3, 1) := by decide +kernel
theorem dX12_best_78 : decode cX12_best 78 = .ok (.iinc 4 1, 3) := by decide +kernel
theorem dX12_best_81 : decode cX12_best 81 = .ok (.goto (-44), 3) := by decide +kernel
theorem dX12_best_84 : decode cX12_best 84 = .ok (.iload_n 1, 1) := by decide +kernel
theorem dX12_best_85 : decode cX12_best 85 = .ok (.ifCond .ne 7, 3) := by decide +kernel
theorem dX12_best_88 : decode cX12_best 88 = .ok (.iload_n 2, 1) := by decide +kernel
theorem dX12_best_89 : decode cX12_best 89 = .ok (.goto 4, 3) := by decide +kernel
theorem dX12_best_92 : decode cX12_best 92 = .ok (.iload_n 3, 1) := by decide +kernel
theorem dX12_best_93 : decode cX12_best 93 = .ok (.ireturn, 1) := by decide +kernel
theorem dX12_from_0 : decode cX12_from 0 = .ok (.aload_n 0, 1) := by decide +kernel
theorem dX12_from_1 : decode cX12_from 1 = .ok (.iconst 0, 1) := by decide +kernel
theorem dX12_from_2 : decode cX12_from 2 = .ok (.putfield 47, 3) := by decide +kernel
theorem dX12_from_5 : decode cX12_from 5 = .ok (.aload_n 0, 1) := by decide +kernel
theorem dX12_from_6 : decode cX12_from 6 = .ok (.invokevirtual 203, 3) := by decide +kernel
theorem dX12_from_9 : decode cX12_from 9 = .ok (.ifCond .ne 6, 3) := by decide +kernel
theorem dX12_from_12 : decode cX12_from 12 = .ok (.ldc 206, 2) := by decide +kernel
theorem dX12_from_14 : decode cX12_from 14 = .ok (.ireturn, 1) := by decide +kernel
theorem dX12_from_15 : decode cX12_from 15 = .ok (.iload_n 1, 1) := by decide +kernel
theorem dX12_from_16 : decode cX12_from 16 = .ok (.invokestatic 61, 3) := by decide +kernel
theorem dX12_from_19 : decode cX12_from 19 = .ok (.ifCond .ne 6, 3) := by decide +kernel
theorem dX12_from_22 : decode cX12_from 22 = .ok (.ldc 67, 2) := by decide +kernel
theorem dX12_from_24 : decode cX12_from 24 = .ok (.ireturn, 1) := by decide +kernel
theorem dX12_from_25 : decode cX12_from 25 = .ok (.aload_n 0, 1) := by decide +kernel
theorem dX12_from_26 : decode cX12_from 26 = .ok (.getfield 7, 3) := by decide +kernel
theorem dX12_from_29 : decode cX12_from 29 = .ok (.iload_n 1, 1) := by decide +kernel
theorem dX12_from_30 : decode cX12_from 30 = .ok (.iaload, 1) := by decide +kernel
theorem dX12_from_31 : decode cX12_from 31 = .ok (.ifCond .ge 9, 3) := by decide +kernel
theorem dX12_from_34 : decode cX12_from 34 = .ok (.aload_n 0, 1) := by decide +kernel
theorem dX12_from_35 : decode cX12_from 35 = .ok (.iconst 1, 1) := by decide +kernel
theorem dX12_from_36 : decode cX12_from 36 = .ok (.invokevirtual 68, 3) := by decide +kernel
theorem dX12_from_39 : decode cX12_from 39 = .ok (.ireturn, 1) := by decide +kernel
theorem dX12_from_40 : decode cX12_from 40 = .ok (.iload_n 2, 1) := by decide +kernel
theorem dX12_from_41 : decode cX12_from 41 = .ok (.i2l, 1) := by decide +kernel
theorem dX12_from_42 : decode cX12_from 42 = .ok (.lconst 0, 1) := by decide +kernel
theorem dX12_from_43 : decode cX12_from 43 = .ok (.aload_n 0, 1) := by decide +kernel
theorem dX12_from_44 : decode cX12_from 44 = .ok (.getfield 13, 3) := by decide +kernel
theorem dX12_from_47 : decode cX12_from 47 = .ok (.iload_n 1, 1) := by decide +kernel
theorem dX12_from_48 : decode cX12_from 48 = .ok (.iaload, 1) := by decide +kernel
theorem dX12_from_49 : decode cX12_from 49 = .ok (.iconst 1, 1) := by decide +kernel
theorem dX12_from_50 : decode cX12_from 50 = .ok (.isub, 1) := by decide +kernel
theorem dX12_from_51 : decode cX12_from 51 = .ok (.i2l, 1) := by decide +kernel
theorem dX12_from_52 : decode cX12_from 52 = .ok (.invokestatic 57, 3) := by decide +kernel
theorem dX12_from_55 : decode cX12_from 55 = .ok (.ifCond .ne 9, 3) := by decide +kernel
theorem dX12_from_58 : decode cX12_from 58 = .ok (.aload_n 0, 1) := by decide +kernel
theorem dX12_from_59 : decode cX12_from 59 = .ok (.iconst 2, 1) := by decide +kernel
theorem dX12_from_60 : decode cX12_from 60 = .ok (.invokevirtual 68, 3) := by decide +kernel
theorem dX12_from_63 : decode cX12_from 63 = .ok (.ireturn, 1) := by decide +kernel
theorem dX12_from_64 : decode cX12_from 64 = .ok (.aload_n 0, 1) := by decide +kernel
theorem dX12_from_65 : decode cX12_from 65 = .ok (.iconst 0, 1) := by decide +kernel
theorem dX12_from_66 : decode cX12_from 66 = .ok (.putfield 51, 3) := by decide +kernel
theorem dX12_from_69 : decode cX12_from 69 = .ok (.iconst 0, 1) := by decide +kernel
theorem dX12_from_70 : decode cX12_from 70 = .ok (.istore_n 3, 1) := by decide +kernel
theorem dX12_from_71 : decode cX12_from 71 = .ok (.iconst 0, 1) := by decide +kernel
theorem dX12_from_72 : decode cX12_from 72 = .ok (.istore 4, 2) := by decide +kernel
theorem dX12_from_74 : decode cX12_from 74 = .ok (.iload 4, 2) := by decide +kernel
theorem dX12_from_76 : decode cX12_from 76 = .ok (.bipush 8, 2) := by decide +kernel
theorem dX12_from_78 : decode cX12_from 78 = .ok (.if_icmp .ge 51, 3) := by decide +kernel
theorem dX12_from_81 : decode cX12_from 81 = .ok (.aload_n 0, 1) := by decide +kernel
theorem dX12_from_82 : decode cX12_from 82 = .ok (.iload 4, 2) := by decide +kernel
theorem dX12_from_84 : decode cX12_from 84 = .ok (.invokevirtual 252, 3) := by decide +kernel
theorem dX12_from_87 : decode cX12_from 87 = .ok (.istore 5, 2) := by decide +kernel
theorem dX12_from_89 : decode cX12_from 89 = .ok (.iload_n 3, 1) := by decide +kernel
theorem dX12_from_90 : decode cX12_from 90 = .ok (.iload 5, 2) := by decide +kernel
theorem dX12_from_92 : decode cX12_from 92 = .ok (.ldc 90, 2) := by decide +kernel
