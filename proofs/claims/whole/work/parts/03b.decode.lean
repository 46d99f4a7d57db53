theorem dX11_copy_58 : decode cX11_copy 58 = .ok (.getfield 110, 3) := by decide +kernel
theorem dX11_copy_61 : decode cX11_copy 61 = .ok (.iload_n 3, 1) := by decide +kernel
theorem dX11_copy_62 : decode cX11_copy 62 = .ok (.iaload, 1) := by decide +kernel
theorem dX11_copy_63 : decode cX11_copy 63 = .ok (.if_icmp .eq 9, 3) := by decide +kernel
theorem dX11_copy_66 : decode cX11_copy 66 = .ok (.aload_n 0, 1) := by decide +kernel
theorem dX11_copy_67 : decode cX11_copy 67 = .ok (.iconst 5, 1) := by decide +kernel
theorem dX11_copy_68 : decode cX11_copy 68 = .ok (.invokevirtual 89, 3) := by decide +kernel
theorem dX11_copy_71 : decode cX11_copy 71 = .ok (.ireturn, 1) := by decide +kernel
theorem dX11_copy_72 : decode cX11_copy 72 = .ok (.aload_n 0, 1) := by decide +kernel
theorem dX11_copy_73 : decode cX11_copy 73 = .ok (.getfield 10, 3) := by decide +kernel
theorem dX11_copy_76 : decode cX11_copy 76 = .ok (.iload_n 1, 1) := by decide +kernel
theorem dX11_copy_77 : decode cX11_copy 77 = .ok (.iload_n 2, 1) := by decide +kernel
theorem dX11_copy_78 : decode cX11_copy 78 = .ok (.iload 5, 2) := by decide +kernel
theorem dX11_copy_80 : decode cX11_copy 80 = .ok (.invokevirtual 113, 3) := by decide +kernel
theorem dX11_copy_83 : decode cX11_copy 83 = .ok (.ifCond .eq 18, 3) := by decide +kernel
theorem dX11_copy_86 : decode cX11_copy 86 = .ok (.aload_n 0, 1) := by decide +kernel
theorem dX11_copy_87 : decode cX11_copy 87 = .ok (.getfield 10, 3) := by decide +kernel
theorem dX11_copy_90 : decode cX11_copy 90 = .ok (.iload_n 3, 1) := by decide +kernel
theorem dX11_copy_91 : decode cX11_copy 91 = .ok (.iload 4, 2) := by decide +kernel
theorem dX11_copy_93 : decode cX11_copy 93 = .ok (.iload 5, 2) := by decide +kernel
theorem dX11_copy_95 : decode cX11_copy 95 = .ok (.invokevirtual 113, 3) := by decide +kernel
theorem dX11_copy_98 : decode cX11_copy 98 = .ok (.ifCond .ne 9, 3) := by decide +kernel
theorem dX11_copy_101 : decode cX11_copy 101 = .ok (.aload_n 0, 1) := by decide +kernel
theorem dX11_copy_102 : decode cX11_copy 102 = .ok (.iconst 2, 1) := by decide +kernel
theorem dX11_copy_103 : decode cX11_copy 103 = .ok (.invokevirtual 89, 3) := by decide +kernel
theorem dX11_copy_106 : decode cX11_copy 106 = .ok (.ireturn, 1) := by decide +kernel
theorem dX11_copy_107 : decode cX11_copy 107 = .ok (.aload_n 0, 1) := by decide +kernel
theorem dX11_copy_108 : decode cX11_copy 108 = .ok (.getfield 10, 3) := by decide +kernel
theorem dX11_copy_111 : decode cX11_copy 111 = .ok (.getfield 117, 3) := by decide +kernel
theorem dX11_copy_114 : decode cX11_copy 114 = .ok (.iload_n 1, 1) := by decide +kernel
theorem dX11_copy_115 : decode cX11_copy 115 = .ok (.aaload, 1) := by decide +kernel
theorem dX11_copy_116 : decode cX11_copy 116 = .ok (.iload_n 2, 1) := by decide +kernel
theorem dX11_copy_117 : decode cX11_copy 117 = .ok (.aload_n 0, 1) := by decide +kernel
theorem dX11_copy_118 : decode cX11_copy 118 = .ok (.getfield 10, 3) := by decide +kernel
theorem dX11_copy_121 : decode cX11_copy 121 = .ok (.getfield 117, 3) := by decide +kernel
theorem dX11_copy_124 : decode cX11_copy 124 = .ok (.iload_n 3, 1) := by decide +kernel
theorem dX11_copy_125 : decode cX11_copy 125 = .ok (.aaload, 1) := by decide +kernel
theorem dX11_copy_126 : decode cX11_copy 126 = .ok (.iload 4, 2) := by decide +kernel
theorem dX11_copy_128 : decode cX11_copy 128 = .ok (.iload 5, 2) := by decide +kernel
theorem dX11_copy_130 : decode cX11_copy 130 = .ok (.invokestatic 120, 3) := by decide +kernel
theorem dX11_copy_133 : decode cX11_copy 133 = .ok (.aload_n 0, 1) := by decide +kernel
theorem dX11_copy_134 : decode cX11_copy 134 = .ok (.iload 5, 2) := by decide +kernel
theorem dX11_copy_136 : decode cX11_copy 136 = .ok (.invokevirtual 97, 3) := by decide +kernel
theorem dX11_copy_139 : decode cX11_copy 139 = .ok (.ireturn, 1) := by decide +kernel
theorem dX11_drop_0 : decode cX11_drop 0 = .ok (.iload_n 1, 1) := by decide +kernel
theorem dX11_drop_1 : decode cX11_drop 1 = .ok (.invokestatic 84, 3) := by decide +kernel
theorem dX11_drop_4 : decode cX11_drop 4 = .ok (.ifCond .ne 6, 3) := by decide +kernel
theorem dX11_drop_7 : decode cX11_drop 7 = .ok (.ldc 88, 2) := by decide +kernel
theorem dX11_drop_9 : decode cX11_drop 9 = .ok (.ireturn, 1) := by decide +kernel
theorem dX11_drop_10 : decode cX11_drop 10 = .ok (.aload_n 0, 1) := by decide +kernel
theorem dX11_drop_11 : decode cX11_drop 11 = .ok (.getfield 10, 3) := by decide +kernel
theorem dX11_drop_14 : decode cX11_drop 14 = .ok (.iload_n 1, 1) := by decide +kernel
theorem dX11_drop_15 : decode cX11_drop 15 = .ok (.invokevirtual 107, 3) := by decide +kernel
theorem dX11_drop_18 : decode cX11_drop 18 = .ok (.ifCond .eq 9, 3) := by decide +kernel
theorem dX11_drop_21 : decode cX11_drop 21 = .ok (.aload_n 0, 1) := by decide +kernel
theorem dX11_drop_22 : decode cX11_drop 22 = .ok (.iconst 1, 1) := by decide +kernel
theorem dX11_drop_23 : decode cX11_drop 23 = .ok (.invokevirtual 89, 3) := by decide +kernel
theorem dX11_drop_26 : decode cX11_drop 26 = .ok (.ireturn, 1) := by decide +kernel
theorem dX11_drop_27 : decode cX11_drop 27 = .ok (.aload_n 0, 1) := by decide +kernel
theorem dX11_drop_28 : decode cX11_drop 28 = .ok (.getfield 10, 3) := by decide +kernel
theorem dX11_drop_31 : decode cX11_drop 31 = .ok (.getfield 126, 3) := by decide +kernel
theorem dX11_drop_34 : decode cX11_drop 34 = .ok (.iload_n 1, 1) := by decide +kernel
theorem dX11_drop_35 : decode cX11_drop 35 = .ok (.iaload, 1) := by decide +kernel
theorem dX11_drop_36 : decode cX11_drop 36 = .ok (.istore_n 2, 1) := by decide +kernel
theorem dX11_drop_37 : decode cX11_drop 37 = .ok (.aload_n 0, 1) := by decide +kernel
theorem dX11_drop_38 : decode cX11_drop 38 = .ok (.getfield 10, 3) := by decide +kernel
theorem dX11_drop_41 : decode cX11_drop 41 = .ok (.getfield 126, 3) := by decide +kernel
theorem dX11_drop_44 : decode cX11_drop 44 = .ok (.iload_n 1, 1) := by decide +kernel
theorem dX11_drop_45 : decode cX11_drop 45 = .ok (.iconst (-1), 1) := by decide +kernel
theorem dX11_drop_46 : decode cX11_drop 46 = .ok (.iastore, 1) := by decide +kernel
theorem dX11_drop_47 : decode cX11_drop 47 = .ok (.aload_n 0, 1) := by decide +kernel
theorem dX11_drop_48 : decode cX11_drop 48 = .ok (.iload_n 2, 1) := by decide +kernel
theorem dX11_drop_49 : decode cX11_drop 49 = .ok (.invokevirtual 97, 3) := by decide +kernel
theorem dX11_drop_52 : decode cX11_drop 52 = .ok (.ireturn, 1) := by decide +kernel
theorem dX11_feed_0 : decode cX11_feed 0 = .ok (.iload_n 1, 1) := by decide +kernel
theorem dX11_feed_1 : decode cX11_feed 1 = .ok (.ifCond .lt 10, 3) := by decide +kernel
theorem dX11_feed_4 : decode cX11_feed 4 = .ok (.iload_n 1, 1) := by decide +kernel
theorem dX11_feed_5 : decode cX11_feed 5 = .ok (.sipush 255, 3) := by decide +kernel
theorem dX11_feed_8 : decode cX11_feed 8 = .ok (.if_icmp .le 6, 3) := by decide +kernel
theorem dX11_feed_11 : decode cX11_feed 11 = .ok (.ldc 88, 2) := by decide +kernel
theorem dX11_feed_13 : decode cX11_feed 13 = .ok (.ireturn, 1) := by decide +kernel
theorem dX11_feed_14 : decode cX11_feed 14 = .ok (.aload_n 0, 1) := by decide +kernel
theorem dX11_feed_15 : decode cX11_feed 15 = .ok (.getfield 19, 3) := by decide +kernel
theorem dX11_feed_18 : decode cX11_feed 18 = .ok (.getfield 129, 3) := by decide +kernel
theorem dX11_feed_21 : decode cX11_feed 21 = .ok (.sipush 140, 3) := by decide +kernel
theorem dX11_feed_24 : decode cX11_feed 24 = .ok (.if_icmp .lt 6, 3) := by decide +kernel
theorem dX11_feed_27 : decode cX11_feed 27 = .ok (.ldc 133, 2) := by decide +kernel
theorem dX11_feed_29 : decode cX11_feed 29 = .ok (.ireturn, 1) := by decide +kernel
theorem dX11_feed_30 : decode cX11_feed 30 = .ok (.aload_n 0, 1) := by decide +kernel
theorem dX11_feed_31 : decode cX11_feed 31 = .ok (.getfield 19, 3) := by decide +kernel
theorem dX11_feed_34 : decode cX11_feed 34 = .ok (.iload_n 1, 1) := by decide +kernel
theorem dX11_feed_35 : decode cX11_feed 35 = .ok (.invokevirtual 134, 3) := by decide +kernel
theorem dX11_feed_38 : decode cX11_feed 38 = .ok (.aload_n 0, 1) := by decide +kernel
theorem dX11_feed_39 : decode cX11_feed 39 = .ok (.getfield 19, 3) := by decide +kernel
theorem dX11_feed_42 : decode cX11_feed 42 = .ok (.getfield 129, 3) := by decide +kernel
theorem dX11_feed_45 : decode cX11_feed 45 = .ok (.ireturn, 1) := by decide +kernel
theorem dX11_parish_0 : decode cX11_parish 0 = .ok (.aload_n 0, 1) := by decide +kernel
theorem dX11_parish_1 : decode cX11_parish 1 = .ok (.getfield 19, 3) := by decide +kernel
theorem dX11_parish_4 : decode cX11_parish 4 = .ok (.aload_n 0, 1) := by decide +kernel
theorem dX11_parish_5 : decode cX11_parish 5 = .ok (.getfield 54, 3) := by decide +kernel
theorem dX11_parish_8 : decode cX11_parish 8 = .ok (.invokevirtual 138, 3) := by decide +kernel
theorem dX11_parish_11 : decode cX11_parish 11 = .ok (.istore_n 1, 1) := by decide +kernel
theorem dX11_parish_12 : decode cX11_parish 12 = .ok (.aload_n 0, 1) := by decide +kernel
theorem dX11_parish_13 : decode cX11_parish 13 = .ok (.getfield 19, 3) := by decide +kernel
theorem dX11_parish_16 : decode cX11_parish 16 = .ok (.iconst 0, 1) := by decide +kernel
theorem dX11_parish_17 : decode cX11_parish 17 = .ok (.putfield 129, 3) := by decide +kernel
theorem dX11_parish_20 : decode cX11_parish 20 = .ok (.iload_n 1, 1) := by decide +kernel
theorem dX11_parish_21 : decode cX11_parish 21 = .ok (.ifCond .ne 14, 3) := by decide +kernel
theorem dX11_parish_24 : decode cX11_parish 24 = .ok (.ldc 142, 2) := by decide +kernel
theorem dX11_parish_26 : decode cX11_parish 26 = .ok (.aload_n 0, 1) := by decide +kernel
theorem dX11_parish_27 : decode cX11_parish 27 = .ok (.getfield 19, 3) := by decide +kernel
theorem dX11_parish_30 : decode cX11_parish 30 = .ok (.getfield 143, 3) := by decide +kernel
theorem dX11_parish_33 : decode cX11_parish 33 = .ok (.isub, 1) := by decide +kernel
theorem dX11_parish_34 : decode cX11_parish 34 = .ok (.ireturn, 1) := by decide +kernel
theorem dX11_parish_35 : decode cX11_parish 35 = .ok (.aload_n 0, 1) := by decide +kernel
theorem dX11_parish_36 : decode cX11_parish 36 = .ok (.getfield 50, 3) := by decide +kernel
theorem dX11_parish_39 : decode cX11_parish 39 = .ok (.aload_n 0, 1) := by decide +kernel
theorem dX11_parish_40 : decode cX11_parish 40 = .ok (.getfield 54, 3) := by decide +kernel
theorem dX11_parish_43 : decode cX11_parish 43 = .ok (.invokevirtual 146, 3) := by decide +kernel
theorem dX11_parish_46 : decode cX11_parish 46 = .ok (.aload_n 0, 1) := by decide +kernel
theorem dX11_parish_47 : decode cX11_parish 47 = .ok (.invokevirtual 150, 3) := by decide +kernel
theorem dX11_parish_50 : decode cX11_parish 50 = .ok (.aload_n 0, 1) := by decide +kernel
theorem dX11_parish_51 : decode cX11_parish 51 = .ok (.getfield 50, 3) := by decide +kernel
theorem dX11_parish_54 : decode cX11_parish 54 = .ok (.getfield 153, 3) := by decide +kernel
theorem dX11_parish_57 : decode cX11_parish 57 = .ok (.ireturn, 1) := by decide +kernel
theorem dX11_fault_0 : decode cX11_fault 0 = .ok (.aload_n 0, 1) := by decide +kernel
theorem dX11_fault_1 : decode cX11_fault 1 = .ok (.getfield 19, 3) := by decide +kernel
theorem dX11_fault_4 : decode cX11_fault 4 = .ok (.getfield 156, 3) := by decide +kernel
theorem dX11_fault_7 : decode cX11_fault 7 = .ok (.ireturn, 1) := by decide +kernel
theorem dX11_undo_0 : decode cX11_undo 0 = .ok (.aload_n 0, 1) := by decide +kernel
theorem dX11_undo_1 : decode cX11_undo 1 = .ok (.getfield 159, 3) := by decide +kernel
theorem dX11_undo_4 : decode cX11_undo 4 = .ok (.ifCond .ne 6, 3) := by decide +kernel
theorem dX11_undo_7 : decode cX11_undo 7 = .ok (.ldc 162, 2) := by decide +kernel
theorem dX11_undo_9 : decode cX11_undo 9 = .ok (.ireturn, 1) := by decide +kernel
theorem dX11_undo_10 : decode cX11_undo 10 = .ok (.aload_n 0, 1) := by decide +kernel
theorem dX11_undo_11 : decode cX11_undo 11 = .ok (.aload_n 0, 1) := by decide +kernel
theorem dX11_undo_12 : decode cX11_undo 12 = .ok (.getfield 163, 3) := by decide +kernel
theorem dX11_undo_15 : decode cX11_undo 15 = .ok (.bipush 24, 2) := by decide +kernel
theorem dX11_undo_17 : decode cX11_undo 17 = .ok (.iadd, 1) := by decide +kernel
theorem dX11_undo_18 : decode cX11_undo 18 = .ok (.iconst 1, 1) := by decide +kernel
theorem dX11_undo_19 : decode cX11_undo 19 = .ok (.isub, 1) := by decide +kernel
theorem dX11_undo_20 : decode cX11_undo 20 = .ok (.bipush 24, 2) := by decide +kernel
theorem dX11_undo_22 : decode cX11_undo 22 = .ok (.irem, 1) := by decide +kernel
theorem dX11_undo_23 : decode cX11_undo 23 = .ok (.putfield 163, 3) := by decide +kernel
theorem dX11_undo_26 : decode cX11_undo 26 = .ok (.aload_n 0, 1) := by decide +kernel
theorem dX11_undo_27 : decode cX11_undo 27 = .ok (.dup, 1) := by decide +kernel
theorem dX11_undo_28 : decode cX11_undo 28 = .ok (.getfield 159, 3) := by decide +kernel
theorem dX11_undo_31 : decode cX11_undo 31 = .ok (.iconst 1, 1) := by decide +kernel
theorem dX11_undo_32 : decode cX11_undo 32 = .ok (.isub, 1) := by decide +kernel
theorem dX11_undo_33 : decode cX11_undo 33 = .ok (.putfield 159, 3) := by decide +kernel
theorem dX11_undo_36 : decode cX11_undo 36 = .ok (.aload_n 0, 1) := by decide +kernel
theorem dX11_undo_37 : decode cX11_undo 37 = .ok (.getfield 50, 3) := by decide +kernel
theorem dX11_undo_40 : decode cX11_undo 40 = .ok (.aload_n 0, 1) := by decide +kernel
theorem dX11_undo_41 : decode cX11_undo 41 = .ok (.getfield 63, 3) := by decide +kernel
theorem dX11_undo_44 : decode cX11_undo 44 = .ok (.aload_n 0, 1) := by decide +kernel
theorem dX11_undo_45 : decode cX11_undo 45 = .ok (.getfield 163, 3) := by decide +kernel
theorem dX11_undo_48 : decode cX11_undo 48 = .ok (.aaload, 1) := by decide +kernel
theorem dX11_undo_49 : decode cX11_undo 49 = .ok (.invokevirtual 166, 3) := by decide +kernel
theorem dX11_undo_52 : decode cX11_undo 52 = .ok (.aload_n 0, 1) := by decide +kernel
theorem dX11_undo_53 : decode cX11_undo 53 = .ok (.getfield 159, 3) := by decide +kernel
theorem dX11_undo_56 : decode cX11_undo 56 = .ok (.ireturn, 1) := by decide +kernel
theorem dX11_bury_0 : decode cX11_bury 0 = .ok (.aload_n 0, 1) := by decide +kernel
theorem dX11_bury_1 : decode cX11_bury 1 = .ok (.getfield 50, 3) := by decide +kernel
theorem dX11_bury_4 : decode cX11_bury 4 = .ok (.getfield 170, 3) := by decide +kernel
theorem dX11_bury_7 : decode cX11_bury 7 = .ok (.ifCond .ne 6, 3) := by decide +kernel
theorem dX11_bury_10 : decode cX11_bury 10 = .ok (.ldc 162, 2) := by decide +kernel
theorem dX11_bury_12 : decode cX11_bury 12 = .ok (.ireturn, 1) := by decide +kernel
theorem dX11_bury_13 : decode cX11_bury 13 = .ok (.iload_n 1, 1) := by decide +kernel
theorem dX11_bury_14 : decode cX11_bury 14 = .ok (.invokestatic 174, 3) := by decide +kernel
theorem dX11_bury_17 : decode cX11_bury 17 = .ok (.ifCond .ne 6, 3) := by decide +kernel
theorem dX11_bury_20 : decode cX11_bury 20 = .ok (.ldc 88, 2) := by decide +kernel
theorem dX11_bury_22 : decode cX11_bury 22 = .ok (.ireturn, 1) := by decide +kernel
theorem dX11_bury_23 : decode cX11_bury 23 = .ok (.aload_n 0, 1) := by decide +kernel
theorem dX11_bury_24 : decode cX11_bury 24 = .ok (.getfield 69, 3) := by decide +kernel
theorem dX11_bury_27 : decode cX11_bury 27 = .ok (.aload_n 0, 1) := by decide +kernel
theorem dX11_bury_28 : decode cX11_bury 28 = .ok (.getfield 50, 3) := by decide +kernel
theorem dX11_bury_31 : decode cX11_bury 31 = .ok (.iload_n 1, 1) := by decide +kernel
theorem dX11_bury_32 : decode cX11_bury 32 = .ok (.invokevirtual 177, 3) := by decide +kernel
theorem dX11_bury_35 : decode cX11_bury 35 = .ok (.ifCond .ne 6, 3) := by decide +kernel
theorem dX11_bury_38 : decode cX11_bury 38 = .ok (.ldc 162, 2) := by decide +kernel
theorem dX11_bury_40 : decode cX11_bury 40 = .ok (.ireturn, 1) := by decide +kernel
theorem dX11_bury_41 : decode cX11_bury 41 = .ok (.aload_n 0, 1) := by decide +kernel
theorem dX11_bury_42 : decode cX11_bury 42 = .ok (.invokevirtual 181, 3) := by decide +kernel
theorem dX11_bury_45 : decode cX11_bury 45 = .ok (.aload_n 0, 1) := by decide +kernel
theorem dX11_bury_46 : decode cX11_bury 46 = .ok (.getfield 50, 3) := by decide +kernel
theorem dX11_bury_49 : decode cX11_bury 49 = .ok (.aload_n 0, 1) := by decide +kernel
theorem dX11_bury_50 : decode cX11_bury 50 = .ok (.getfield 69, 3) := by decide +kernel
theorem dX11_bury_53 : decode cX11_bury 53 = .ok (.invokevirtual 184, 3) := by decide +kernel
theorem dX11_bury_56 : decode cX11_bury 56 = .ok (.aload_n 0, 1) := by decide +kernel
theorem dX11_bury_57 : decode cX11_bury 57 = .ok (.getfield 50, 3) := by decide +kernel
theorem dX11_bury_60 : decode cX11_bury 60 = .ok (.invokevirtual 188, 3) := by decide +kernel
theorem dX11_bury_63 : decode cX11_bury 63 = .ok (.ireturn, 1) := by decide +kernel
theorem dX11_years_0 : decode cX11_years 0 = .ok (.aload_n 0, 1) := by decide +kernel
theorem dX11_years_1 : decode cX11_years 1 = .ok (.getfield 50, 3) := by decide +kernel
theorem dX11_years_4 : decode cX11_years 4 = .ok (.getfield 170, 3) := by decide +kernel
theorem dX11_years_7 : decode cX11_years 7 = .ok (.ifCond .ne 6, 3) := by decide +kernel
theorem dX11_years_10 : decode cX11_years 10 = .ok (.ldc 162, 2) := by decide +kernel
theorem dX11_years_12 : decode cX11_years 12 = .ok (.ireturn, 1) := by decide +kernel
theorem dX11_years_13 : decode cX11_years 13 = .ok (.iload_n 1, 1) := by decide +kernel
theorem dX11_years_14 : decode cX11_years 14 = .ok (.iconst 1, 1) := by decide +kernel
theorem dX11_years_15 : decode cX11_years 15 = .ok (.if_icmp .lt 9, 3) := by decide +kernel
theorem dX11_years_18 : decode cX11_years 18 = .ok (.iload_n 1, 1) := by decide +kernel
theorem dX11_years_19 : decode cX11_years 19 = .ok (.bipush 24, 2) := by decide +kernel
theorem dX11_years_21 : decode cX11_years 21 = .ok (.if_icmp .le 6, 3) := by decide +kernel
theorem dX11_years_24 : decode cX11_years 24 = .ok (.ldc 88, 2) := by decide +kernel
theorem dX11_years_26 : decode cX11_years 26 = .ok (.ireturn, 1) := by decide +kernel
theorem dX11_years_27 : decode cX11_years 27 = .ok (.aload_n 0, 1) := by decide +kernel
theorem dX11_years_28 : decode cX11_years 28 = .ok (.getfield 50, 3) := by decide +kernel
theorem dX11_years_31 : decode cX11_years 31 = .ok (.getfield 192, 3) := by decide +kernel
theorem dX11_years_34 : decode cX11_years 34 = .ok (.iload_n 1, 1) := by decide +kernel
theorem dX11_years_35 : decode cX11_years 35 = .ok (.iadd, 1) := by decide +kernel
theorem dX11_years_36 : decode cX11_years 36 = .ok (.sipush 999, 3) := by decide +kernel
theorem dX11_years_39 : decode cX11_years 39 = .ok (.if_icmp .le 6, 3) := by decide +kernel
theorem dX11_years_42 : decode cX11_years 42 = .ok (.ldc 133, 2) := by decide +kernel
theorem dX11_years_44 : decode cX11_years 44 = .ok (.ireturn, 1) := by decide +kernel
theorem dX11_years_45 : decode cX11_years 45 = .ok (.iconst 0, 1) := by decide +kernel
theorem dX11_years_46 : decode cX11_years 46 = .ok (.istore_n 2, 1) := by decide +kernel
theorem dX11_years_47 : decode cX11_years 47 = .ok (.iload_n 2, 1) := by decide +kernel
theorem dX11_years_48 : decode cX11_years 48 = .ok (.iload_n 1, 1) := by decide +kernel
theorem dX11_years_49 : decode cX11_years 49 = .ok (.if_icmp .ge 20, 3) := by decide +kernel
theorem dX11_years_52 : decode cX11_years 52 = .ok (.aload_n 0, 1) := by decide +kernel
theorem dX11_years_53 : decode cX11_years 53 = .ok (.invokevirtual 181, 3) := by decide +kernel
theorem dX11_years_56 : decode cX11_years 56 = .ok (.aload_n 0, 1) := by decide +kernel
theorem dX11_years_57 : decode cX11_years 57 = .ok (.getfield 50, 3) := by decide +kernel
theorem dX11_years_60 : decode cX11_years 60 = .ok (.invokevirtual 195, 3) := by decide +kernel
theorem dX11_years_63 : decode cX11_years 63 = .ok (.iinc 2 1, 3) := by decide +kernel
theorem dX11_years_66 : decode cX11_years 66 = .ok (.goto (-19), 3) := by decide +kernel
theorem dX11_years_69 : decode cX11_years 69 = .ok (.aload_n 0, 1) := by decide +kernel
theorem dX11_years_70 : decode cX11_years 70 = .ok (.getfield 50, 3) := by decide +kernel
theorem dX11_years_73 : decode cX11_years 73 = .ok (.invokevirtual 198, 3) := by decide +kernel
theorem dX11_years_76 : decode cX11_years 76 = .ok (.ireturn, 1) := by decide +kernel
theorem dX11_lock_0 : decode cX11_lock 0 = .ok (.aload_n 0, 1) := by decide +kernel
theorem dX11_lock_1 : decode cX11_lock 1 = .ok (.getfield 50, 3) := by decide +kernel
theorem dX11_lock_4 : decode cX11_lock 4 = .ok (.iload_n 1, 1) := by decide +kernel
theorem dX11_lock_5 : decode cX11_lock 5 = .ok (.invokevirtual 201, 3) := by decide +kernel
theorem dX11_lock_8 : decode cX11_lock 8 = .ok (.ifCond .eq 10, 3) := by decide +kernel
theorem dX11_lock_11 : decode cX11_lock 11 = .ok (.iload_n 2, 1) := by decide +kernel
theorem dX11_lock_12 : decode cX11_lock 12 = .ok (.invokestatic 204, 3) := by decide +kernel
theorem dX11_lock_15 : decode cX11_lock 15 = .ok (.ifCond .ne 6, 3) := by decide +kernel
theorem dX11_lock_18 : decode cX11_lock 18 = .ok (.ldc 88, 2) := by decide +kernel
theorem dX11_lock_20 : decode cX11_lock 20 = .ok (.ireturn, 1) := by decide +kernel
theorem dX11_lock_21 : decode cX11_lock 21 = .ok (.aload_n 0, 1) := by decide +kernel
theorem dX11_lock_22 : decode cX11_lock 22 = .ok (.getfield 50, 3) := by decide +kernel
theorem dX11_lock_25 : decode cX11_lock 25 = .ok (.getfield 207, 3) := by decide +kernel
theorem dX11_lock_28 : decode cX11_lock 28 = .ok (.iload_n 1, 1) := by decide +kernel
theorem dX11_lock_29 : decode cX11_lock 29 = .ok (.invokestatic 210, 3) := by decide +kernel
theorem dX11_lock_32 : decode cX11_lock 32 = .ok (.iload_n 2, 1) := by decide +kernel
theorem dX11_lock_33 : decode cX11_lock 33 = .ok (.if_icmp .ne 6, 3) := by decide +kernel
theorem dX11_lock_36 : decode cX11_lock 36 = .ok (.ldc 162, 2) := by decide +kernel
theorem dX11_lock_38 : decode cX11_lock 38 = .ok (.ireturn, 1) := by decide +kernel
theorem dX11_lock_39 : decode cX11_lock 39 = .ok (.aload_n 0, 1) := by decide +kernel
theorem dX11_lock_40 : decode cX11_lock 40 = .ok (.invokevirtual 181, 3) := by decide +kernel
theorem dX11_lock_43 : decode cX11_lock 43 = .ok (.aload_n 0, 1) := by decide +kernel
theorem dX11_lock_44 : decode cX11_lock 44 = .ok (.getfield 50, 3) := by decide +kernel
theorem dX11_lock_47 : decode cX11_lock 47 = .ok (.dup, 1) := by decide +kernel
theorem dX11_lock_48 : decode cX11_lock 48 = .ok (.getfield 207, 3) := by decide +kernel
theorem dX11_lock_51 : decode cX11_lock 51 = .ok (.iconst 1, 1) := by decide +kernel
theorem dX11_lock_52 : decode cX11_lock 52 = .ok (.iload_n 1, 1) := by decide +kernel
theorem dX11_lock_53 : decode cX11_lock 53 = .ok (.ishl, 1) := by decide +kernel
theorem dX11_lock_54 : decode cX11_lock 54 = .ok (.ixor, 1) := by decide +kernel
theorem dX11_lock_55 : decode cX11_lock 55 = .ok (.putfield 207, 3) := by decide +kernel
theorem dX11_lock_58 : decode cX11_lock 58 = .ok (.aload_n 0, 1) := by decide +kernel
theorem dX11_lock_59 : decode cX11_lock 59 = .ok (.getfield 50, 3) := by decide +kernel
theorem dX11_lock_62 : decode cX11_lock 62 = .ok (.getfield 207, 3) := by decide +kernel
theorem dX11_lock_65 : decode cX11_lock 65 = .ok (.ireturn, 1) := by decide +kernel
theorem dX11_follow_0 : decode cX11_follow 0 = .ok (.aload_n 0, 1) := by decide +kernel
theorem dX11_follow_1 : decode cX11_follow 1 = .ok (.getfield 50, 3) := by decide +kernel
theorem dX11_follow_4 : decode cX11_follow 4 = .ok (.iload_n 1, 1) := by decide +kernel
theorem dX11_follow_5 : decode cX11_follow 5 = .ok (.invokevirtual 214, 3) := by decide +kernel
theorem dX11_follow_8 : decode cX11_follow 8 = .ok (.ifCond .ne 6, 3) := by decide +kernel
theorem dX11_follow_11 : decode cX11_follow 11 = .ok (.ldc 88, 2) := by decide +kernel
theorem dX11_follow_13 : decode cX11_follow 13 = .ok (.ireturn, 1) := by decide +kernel
theorem dX11_follow_14 : decode cX11_follow 14 = .ok (.aload_n 0, 1) := by decide +kernel
theorem dX11_follow_15 : decode cX11_follow 15 = .ok (.getfield 50, 3) := by decide +kernel
theorem dX11_follow_18 : decode cX11_follow 18 = .ok (.iload_n 1, 1) := by decide +kernel
theorem dX11_follow_19 : decode cX11_follow 19 = .ok (.invokevirtual 217, 3) := by decide +kernel
theorem dX11_follow_22 : decode cX11_follow 22 = .ok (.ifCond .eq 6, 3) := by decide +kernel
theorem dX11_follow_25 : decode cX11_follow 25 = .ok (.ldc 162, 2) := by decide +kernel
theorem dX11_follow_27 : decode cX11_follow 27 = .ok (.ireturn, 1) := by decide +kernel
theorem dX11_follow_28 : decode cX11_follow 28 = .ok (.aload_n 0, 1) := by decide +kernel
theorem dX11_follow_29 : decode cX11_follow 29 = .ok (.invokevirtual 181, 3) := by decide +kernel
theorem dX11_follow_32 : decode cX11_follow 32 = .ok (.aload_n 0, 1) := by decide +kernel
theorem dX11_follow_33 : decode cX11_follow 33 = .ok (.getfield 50, 3) := by decide +kernel
theorem dX11_follow_36 : decode cX11_follow 36 = .ok (.getfield 220, 3) := by decide +kernel
theorem dX11_follow_39 : decode cX11_follow 39 = .ok (.iload_n 1, 1) := by decide +kernel
theorem dX11_follow_40 : decode cX11_follow 40 = .ok (.iconst 0, 1) := by decide +kernel
theorem dX11_follow_41 : decode cX11_follow 41 = .ok (.iastore, 1) := by decide +kernel
theorem dX11_follow_42 : decode cX11_follow 42 = .ok (.aload_n 0, 1) := by decide +kernel
theorem dX11_follow_43 : decode cX11_follow 43 = .ok (.getfield 50, 3) := by decide +kernel
theorem dX11_follow_46 : decode cX11_follow 46 = .ok (.getfield 223, 3) := by decide +kernel
theorem dX11_follow_49 : decode cX11_follow 49 = .ok (.iload_n 1, 1) := by decide +kernel
theorem dX11_follow_50 : decode cX11_follow 50 = .ok (.iconst 0, 1) := by decide +kernel
theorem dX11_follow_51 : decode cX11_follow 51 = .ok (.iastore, 1) := by decide +kernel
theorem dX11_follow_52 : decode cX11_follow 52 = .ok (.aload_n 0, 1) := by decide +kernel
theorem dX11_follow_53 : decode cX11_follow 53 = .ok (.getfield 50, 3) := by decide +kernel
theorem dX11_follow_56 : decode cX11_follow 56 = .ok (.invokevirtual 198, 3) := by decide +kernel
theorem dX11_follow_59 : decode cX11_follow 59 = .ok (.ireturn, 1) := by decide +kernel
theorem dX11_witness_0 : decode cX11_witness 0 = .ok (.aload_n 0, 1) := by decide +kernel
theorem dX11_witness_1 : decode cX11_witness 1 = .ok (.getfield 50, 3) := by decide +kernel
theorem dX11_witness_4 : decode cX11_witness 4 = .ok (.iload_n 1, 1) := by decide +kernel
theorem dX11_witness_5 : decode cX11_witness 5 = .ok (.invokevirtual 214, 3) := by decide +kernel
theorem dX11_witness_8 : decode cX11_witness 8 = .ok (.ifCond .ne 6, 3) := by decide +kernel
theorem dX11_witness_11 : decode cX11_witness 11 = .ok (.ldc 88, 2) := by decide +kernel
theorem dX11_witness_13 : decode cX11_witness 13 = .ok (.ireturn, 1) := by decide +kernel
theorem dX11_witness_14 : decode cX11_witness 14 = .ok (.iload_n 2, 1) := by decide +kernel
theorem dX11_witness_15 : decode cX11_witness 15 = .ok (.tableswitch 75 0 3 #[29, 39, 49, 66], 29) := by decide +kernel
theorem dX11_witness_44 : decode cX11_witness 44 = .ok (.aload_n 0, 1) := by decide +kernel
theorem dX11_witness_45 : decode cX11_witness 45 = .ok (.getfield 50, 3) := by decide +kernel
theorem dX11_witness_48 : decode cX11_witness 48 = .ok (.getfield 220, 3) := by decide +kernel
theorem dX11_witness_51 : decode cX11_witness 51 = .ok (.iload_n 1, 1) := by decide +kernel
theorem dX11_witness_52 : decode cX11_witness 52 = .ok (.iaload, 1) := by decide +kernel
theorem dX11_witness_53 : decode cX11_witness 53 = .ok (.ireturn, 1) := by decide +kernel
theorem dX11_witness_54 : decode cX11_witness 54 = .ok (.aload_n 0, 1) := by decide +kernel
theorem dX11_witness_55 : decode cX11_witness 55 = .ok (.getfield 50, 3) := by decide +kernel
theorem dX11_witness_58 : decode cX11_witness 58 = .ok (.getfield 226, 3) := by decide +kernel
theorem dX11_witness_61 : decode cX11_witness 61 = .ok (.iload_n 1, 1) := by decide +kernel
theorem dX11_witness_62 : decode cX11_witness 62 = .ok (.iaload, 1) := by decide +kernel
theorem dX11_witness_63 : decode cX11_witness 63 = .ok (.ireturn, 1) := by decide +kernel
theorem dX11_witness_64 : decode cX11_witness 64 = .ok (.aload_n 0, 1) := by decide +kernel
theorem dX11_witness_65 : decode cX11_witness 65 = .ok (.getfield 50, 3) := by decide +kernel
theorem dX11_witness_68 : decode cX11_witness 68 = .ok (.iload_n 1, 1) := by decide +kernel
theorem dX11_witness_69 : decode cX11_witness 69 = .ok (.invokevirtual 217, 3) := by decide +kernel
theorem dX11_witness_72 : decode cX11_witness 72 = .ok (.ifCond .eq 7, 3) := by decide +kernel
theorem dX11_witness_75 : decode cX11_witness 75 = .ok (.iconst 1, 1) := by decide +kernel
theorem dX11_witness_76 : decode cX11_witness 76 = .ok (.goto 4, 3) := by decide +kernel
theorem dX11_witness_79 : decode cX11_witness 79 = .ok (.iconst 0, 1) := by decide +kernel
theorem dX11_witness_80 : decode cX11_witness 80 = .ok (.ireturn, 1) := by decide +kernel
theorem dX11_witness_81 : decode cX11_witness 81 = .ok (.aload_n 0, 1) := by decide +kernel
theorem dX11_witness_82 : decode cX11_witness 82 = .ok (.getfield 50, 3) := by decide +kernel
theorem dX11_witness_85 : decode cX11_witness 85 = .ok (.iload_n 1, 1) := by decide +kernel
theorem dX11_witness_86 : decode cX11_witness 86 = .ok (.invokevirtual 229, 3) := by decide +kernel
theorem dX11_witness_89 : decode cX11_witness 89 = .ok (.ireturn, 1) := by decide +kernel
theorem dX11_witness_90 : decode cX11_witness 90 = .ok (.ldc 88, 2) := by decide +kernel
theorem dX11_witness_92 : decode cX11_witness 92 = .ok (.ireturn, 1) := by decide +kernel
theorem dX11_path_0 : decode cX11_path 0 = .ok (.aload_n 0, 1) := by decide +kernel
theorem dX11_path_1 : decode cX11_path 1 = .ok (.getfield 50, 3) := by decide +kernel
theorem dX11_path_4 : decode cX11_path 4 = .ok (.iload_n 1, 1) := by decide +kernel
theorem dX11_path_5 : decode cX11_path 5 = .ok (.invokevirtual 201, 3) := by decide +kernel
theorem dX11_path_8 : decode cX11_path 8 = .ok (.ifCond .ne 6, 3) := by decide +kernel
theorem dX11_path_11 : decode cX11_path 11 = .ok (.ldc 88, 2) := by decide +kernel
theorem dX11_path_13 : decode cX11_path 13 = .ok (.ireturn, 1) := by decide +kernel
theorem dX11_path_14 : decode cX11_path 14 = .ok (.iload_n 2, 1) := by decide +kernel
theorem dX11_path_15 : decode cX11_path 15 = .ok (.tableswitch 84 0 4 #[33, 43, 53, 63, 75], 33) := by decide +kernel
theorem dX11_path_48 : decode cX11_path 48 = .ok (.aload_n 0, 1) := by decide +kernel
theorem dX11_path_49 : decode cX11_path 49 = .ok (.getfield 50, 3) := by decide +kernel
theorem dX11_path_52 : decode cX11_path 52 = .ok (.getfield 232, 3) := by decide +kernel
theorem dX11_path_55 : decode cX11_path 55 = .ok (.iload_n 1, 1) := by decide +kernel
theorem dX11_path_56 : decode cX11_path 56 = .ok (.iaload, 1) := by decide +kernel
theorem dX11_path_57 : decode cX11_path 57 = .ok (.ireturn, 1) := by decide +kernel
theorem dX11_path_58 : decode cX11_path 58 = .ok (.aload_n 0, 1) := by decide +kernel
theorem dX11_path_59 : decode cX11_path 59 = .ok (.getfield 50, 3) := by decide +kernel
theorem dX11_path_62 : decode cX11_path 62 = .ok (.getfield 235, 3) := by decide +kernel
theorem dX11_path_65 : decode cX11_path 65 = .ok (.iload_n 1, 1) := by decide +kernel
theorem dX11_path_66 : decode cX11_path 66 = .ok (.iaload, 1) := by decide +kernel
theorem dX11_path_67 : decode cX11_path 67 = .ok (.ireturn, 1) := by decide +kernel
theorem dX11_path_68 : decode cX11_path 68 = .ok (.aload_n 0, 1) := by decide +kernel
theorem dX11_path_69 : decode cX11_path 69 = .ok (.getfield 50, 3) := by decide +kernel
theorem dX11_path_72 : decode cX11_path 72 = .ok (.getfield 238, 3) := by decide +kernel
theorem dX11_path_75 : decode cX11_path 75 = .ok (.iload_n 1, 1) := by decide +kernel
theorem dX11_path_76 : decode cX11_path 76 = .ok (.iaload, 1) := by decide +kernel
theorem dX11_path_77 : decode cX11_path 77 = .ok (.ireturn, 1) := by decide +kernel
theorem dX11_path_78 : decode cX11_path 78 = .ok (.aload_n 0, 1) := by decide +kernel
theorem dX11_path_79 : decode cX11_path 79 = .ok (.getfield 50, 3) := by decide +kernel
theorem dX11_path_82 : decode cX11_path 82 = .ok (.getfield 207, 3) := by decide +kernel
theorem dX11_path_85 : decode cX11_path 85 = .ok (.iload_n 1, 1) := by decide +kernel
theorem dX11_path_86 : decode cX11_path 86 = .ok (.invokestatic 210, 3) := by decide +kernel
theorem dX11_path_89 : decode cX11_path 89 = .ok (.ireturn, 1) := by decide +kernel
theorem dX11_path_90 : decode cX11_path 90 = .ok (.aload_n 0, 1) := by decide +kernel
theorem dX11_path_91 : decode cX11_path 91 = .ok (.getfield 50, 3) := by decide +kernel
theorem dX11_path_94 : decode cX11_path 94 = .ok (.iload_n 1, 1) := by decide +kernel
theorem dX11_path_95 : decode cX11_path 95 = .ok (.invokevirtual 241, 3) := by decide +kernel
theorem dX11_path_98 : decode cX11_path 98 = .ok (.ireturn, 1) := by decide +kernel
theorem dX11_path_99 : decode cX11_path 99 = .ok (.ldc 88, 2) := by decide +kernel
theorem dX11_path_101 : decode cX11_path 101 = .ok (.ireturn, 1) := by decide +kernel
theorem dX11_stand_0 : decode cX11_stand 0 = .ok (.aload_n 0, 1) := by decide +kernel
theorem dX11_stand_1 : decode cX11_stand 1 = .ok (.getfield 50, 3) := by decide +kernel
theorem dX11_stand_4 : decode cX11_stand 4 = .ok (.getfield 170, 3) := by decide +kernel
theorem dX11_stand_7 : decode cX11_stand 7 = .ok (.ifCond .ne 6, 3) := by decide +kernel
theorem dX11_stand_10 : decode cX11_stand 10 = .ok (.ldc 162, 2) := by decide +kernel
theorem dX11_stand_12 : decode cX11_stand 12 = .ok (.ireturn, 1) := by decide +kernel
theorem dX11_stand_13 : decode cX11_stand 13 = .ok (.iload_n 1, 1) := by decide +kernel
theorem dX11_stand_14 : decode cX11_stand 14 = .ok (.tableswitch 62 0 3 #[30, 38, 46, 54], 30) := by decide +kernel
theorem dX11_stand_44 : decode cX11_stand 44 = .ok (.aload_n 0, 1) := by decide +kernel
theorem dX11_stand_45 : decode cX11_stand 45 = .ok (.getfield 50, 3) := by decide +kernel
theorem dX11_stand_48 : decode cX11_stand 48 = .ok (.invokevirtual 188, 3) := by decide +kernel
theorem dX11_stand_51 : decode cX11_stand 51 = .ok (.ireturn, 1) := by decide +kernel
theorem dX11_stand_52 : decode cX11_stand 52 = .ok (.aload_n 0, 1) := by decide +kernel
theorem dX11_stand_53 : decode cX11_stand 53 = .ok (.getfield 50, 3) := by decide +kernel
theorem dX11_stand_56 : decode cX11_stand 56 = .ok (.getfield 207, 3) := by decide +kernel
theorem dX11_stand_59 : decode cX11_stand 59 = .ok (.ireturn, 1) := by decide +kernel
theorem dX11_stand_60 : decode cX11_stand 60 = .ok (.aload_n 0, 1) := by decide +kernel
theorem dX11_stand_61 : decode cX11_stand 61 = .ok (.getfield 50, 3) := by decide +kernel
theorem dX11_stand_64 : decode cX11_stand 64 = .ok (.invokevirtual 198, 3) := by decide +kernel
theorem dX11_stand_67 : decode cX11_stand 67 = .ok (.ireturn, 1) := by decide +kernel
theorem dX11_stand_68 : decode cX11_stand 68 = .ok (.aload_n 0, 1) := by decide +kernel
theorem dX11_stand_69 : decode cX11_stand 69 = .ok (.getfield 50, 3) := by decide +kernel
theorem dX11_stand_72 : decode cX11_stand 72 = .ok (.getfield 244, 3) := by decide +kernel
theorem dX11_stand_75 : decode cX11_stand 75 = .ok (.ireturn, 1) := by decide +kernel
theorem dX11_stand_76 : decode cX11_stand 76 = .ok (.ldc 88, 2) := by decide +kernel
theorem dX11_stand_78 : decode cX11_stand 78 = .ok (.ireturn, 1) := by decide +kernel
theorem dX11_ahead_0 : decode cX11_ahead 0 = .ok (.aload_n 0, 1) := by decide +kernel
theorem dX11_ahead_1 : decode cX11_ahead 1 = .ok (.getfield 50, 3) := by decide +kernel
theorem dX11_ahead_4 : decode cX11_ahead 4 = .ok (.getfield 170, 3) := by decide +kernel
theorem dX11_ahead_7 : decode cX11_ahead 7 = .ok (.ifCond .ne 6, 3) := by decide +kernel
theorem dX11_ahead_10 : decode cX11_ahead 10 = .ok (.ldc 162, 2) := by decide +kernel
theorem dX11_ahead_12 : decode cX11_ahead 12 = .ok (.ireturn, 1) := by decide +kernel
theorem dX11_ahead_13 : decode cX11_ahead 13 = .ok (.iload_n 1, 1) := by decide +kernel
theorem dX11_ahead_14 : decode cX11_ahead 14 = .ok (.ifCond .lt 9, 3) := by decide +kernel
theorem dX11_ahead_17 : decode cX11_ahead 17 = .ok (.iload_n 1, 1) := by decide +kernel
theorem dX11_ahead_18 : decode cX11_ahead 18 = .ok (.bipush 60, 2) := by decide +kernel
theorem dX11_ahead_20 : decode cX11_ahead 20 = .ok (.if_icmp .le 6, 3) := by decide +kernel
theorem dX11_ahead_23 : decode cX11_ahead 23 = .ok (.ldc 88, 2) := by decide +kernel
theorem dX11_ahead_25 : decode cX11_ahead 25 = .ok (.ireturn, 1) := by decide +kernel
theorem dX11_ahead_26 : decode cX11_ahead 26 = .ok (.aload_n 0, 1) := by decide +kernel
theorem dX11_ahead_27 : decode cX11_ahead 27 = .ok (.getfield 54, 3) := by decide +kernel
theorem dX11_ahead_30 : decode cX11_ahead 30 = .ok (.aload_n 0, 1) := by decide +kernel
theorem dX11_ahead_31 : decode cX11_ahead 31 = .ok (.getfield 50, 3) := by decide +kernel
theorem dX11_ahead_34 : decode cX11_ahead 34 = .ok (.invokevirtual 146, 3) := by decide +kernel
theorem dX11_ahead_37 : decode cX11_ahead 37 = .ok (.iconst 0, 1) := by decide +kernel
theorem dX11_ahead_38 : decode cX11_ahead 38 = .ok (.istore_n 2, 1) := by decide +kernel
theorem dX11_ahead_39 : decode cX11_ahead 39 = .ok (.iload_n 2, 1) := by decide +kernel
theorem dX11_ahead_40 : decode cX11_ahead 40 = .ok (.iload_n 1, 1) := by decide +kernel
theorem dX11_ahead_41 : decode cX11_ahead 41 = .ok (.if_icmp .ge 16, 3) := by decide +kernel
theorem dX11_ahead_44 : decode cX11_ahead 44 = .ok (.aload_n 0, 1) := by decide +kernel
theorem dX11_ahead_45 : decode cX11_ahead 45 = .ok (.getfield 54, 3) := by decide +kernel
theorem dX11_ahead_48 : decode cX11_ahead 48 = .ok (.invokevirtual 195, 3) := by decide +kernel
theorem dX11_ahead_51 : decode cX11_ahead 51 = .ok (.iinc 2 1, 3) := by decide +kernel
theorem dX11_ahead_54 : decode cX11_ahead 54 = .ok (.goto (-15), 3) := by decide +kernel
theorem dX11_ahead_57 : decode cX11_ahead 57 = .ok (.aload_n 0, 1) := by decide +kernel
theorem dX11_ahead_58 : decode cX11_ahead 58 = .ok (.getfield 54, 3) := by decide +kernel
theorem dX11_ahead_61 : decode cX11_ahead 61 = .ok (.invokevirtual 188, 3) := by decide +kernel
theorem dX11_ahead_64 : decode cX11_ahead 64 = .ok (.ireturn, 1) := by decide +kernel
theorem dX11_lost_0 : decode cX11_lost 0 = .ok (.aload_n 0, 1) := by decide +kernel
theorem dX11_lost_1 : decode cX11_lost 1 = .ok (.getfield 50, 3) := by decide +kernel
theorem dX11_lost_4 : decode cX11_lost 4 = .ok (.iload_n 1, 1) := by decide +kernel
theorem dX11_lost_5 : decode cX11_lost 5 = .ok (.invokevirtual 201, 3) := by decide +kernel
theorem dX11_lost_8 : decode cX11_lost 8 = .ok (.ifCond .ne 6, 3) := by decide +kernel
theorem dX11_lost_11 : decode cX11_lost 11 = .ok (.ldc 88, 2) := by decide +kernel
theorem dX11_lost_13 : decode cX11_lost 13 = .ok (.ireturn, 1) := by decide +kernel
theorem dX11_lost_14 : decode cX11_lost 14 = .ok (.aload_n 0, 1) := by decide +kernel
theorem dX11_lost_15 : decode cX11_lost 15 = .ok (.getfield 54, 3) := by decide +kernel
theorem dX11_lost_18 : decode cX11_lost 18 = .ok (.aload_n 0, 1) := by decide +kernel
theorem dX11_lost_19 : decode cX11_lost 19 = .ok (.getfield 50, 3) := by decide +kernel
theorem dX11_lost_22 : decode cX11_lost 22 = .ok (.invokevirtual 146, 3) := by decide +kernel
theorem dX11_lost_25 : decode cX11_lost 25 = .ok (.iconst 0, 1) := by decide +kernel
theorem dX11_lost_26 : decode cX11_lost 26 = .ok (.istore_n 2, 1) := by decide +kernel
theorem dX11_lost_27 : decode cX11_lost 27 = .ok (.iload_n 2, 1) := by decide +kernel
theorem dX11_lost_28 : decode cX11_lost 28 = .ok (.bipush 60, 2) := by decide +kernel
theorem dX11_lost_30 : decode cX11_lost 30 = .ok (.if_icmp .gt 32, 3) := by decide +kernel
theorem dX11_lost_33 : decode cX11_lost 33 = .ok (.aload_n 0, 1) := by decide +kernel
theorem dX11_lost_34 : decode cX11_lost 34 = .ok (.getfield 54, 3) := by decide +kernel
theorem dX11_lost_37 : decode cX11_lost 37 = .ok (.invokevirtual 188, 3) := by decide +kernel
theorem dX11_lost_40 : decode cX11_lost 40 = .ok (.iload_n 1, 1) := by decide +kernel
theorem dX11_lost_41 : decode cX11_lost 41 = .ok (.invokestatic 210, 3) := by decide +kernel
theorem dX11_lost_44 : decode cX11_lost 44 = .ok (.ifCond .ne 5, 3) := by decide +kernel
theorem dX11_lost_47 : decode cX11_lost 47 = .ok (.iload_n 2, 1) := by decide +kernel
theorem dX11_lost_48 : decode cX11_lost 48 = .ok (.ireturn, 1) := by decide +kernel
theorem dX11_lost_49 : decode cX11_lost 49 = .ok (.aload_n 0, 1) := by decide +kernel
theorem dX11_lost_50 : decode cX11_lost 50 = .ok (.getfield 54, 3) := by decide +kernel
theorem dX11_lost_53 : decode cX11_lost 53 = .ok (.invokevirtual 195, 3) := by decide +kernel
theorem dX11_lost_56 : decode cX11_lost 56 = .ok (.iinc 2 1, 3) := by decide +kernel
theorem dX11_lost_59 : decode cX11_lost 59 = .ok (.goto (-32), 3) := by decide +kernel
theorem dX11_lost_62 : decode cX11_lost 62 = .ok (.ldc 247, 2) := by decide +kernel
theorem dX11_lost_64 : decode cX11_lost 64 = .ok (.ireturn, 1) := by decide +kernel
theorem dX11_goes_0 : decode cX11_goes 0 = .ok (.aload_n 0, 1) := by decide +kernel
theorem dX11_goes_1 : decode cX11_goes 1 = .ok (.getfield 50, 3) := by decide +kernel
theorem dX11_goes_4 : decode cX11_goes 4 = .ok (.getfield 170, 3) := by decide +kernel
theorem dX11_goes_7 : decode cX11_goes 7 = .ok (.ifCond .ne 6, 3) := by decide +kernel
theorem dX11_goes_10 : decode cX11_goes 10 = .ok (.ldc 162, 2) := by decide +kernel
theorem dX11_goes_12 : decode cX11_goes 12 = .ok (.ireturn, 1) := by decide +kernel
theorem dX11_goes_13 : decode cX11_goes 13 = .ok (.iload_n 1, 1) := by decide +kernel
theorem dX11_goes_14 : decode cX11_goes 14 = .ok (.invokestatic 174, 3) := by decide +kernel
theorem dX11_goes_17 : decode cX11_goes 17 = .ok (.ifCond .eq 10, 3) := by decide +kernel
theorem dX11_goes_20 : decode cX11_goes 20 = .ok (.iload_n 2, 1) := by decide +kernel
theorem dX11_goes_21 : decode cX11_goes 21 = .ok (.invokestatic 204, 3) := by decide +kernel
theorem dX11_goes_24 : decode cX11_goes 24 = .ok (.ifCond .ne 6, 3) := by decide +kernel
theorem dX11_goes_27 : decode cX11_goes 27 = .ok (.ldc 88, 2) := by decide +kernel
theorem dX11_goes_29 : decode cX11_goes 29 = .ok (.ireturn, 1) := by decide +kernel
theorem dX11_goes_30 : decode cX11_goes 30 = .ok (.aload_n 0, 1) := by decide +kernel
theorem dX11_goes_31 : decode cX11_goes 31 = .ok (.getfield 69, 3) := by decide +kernel
theorem dX11_goes_34 : decode cX11_goes 34 = .ok (.aload_n 0, 1) := by decide +kernel
theorem dX11_goes_35 : decode cX11_goes 35 = .ok (.getfield 50, 3) := by decide +kernel
theorem dX11_goes_38 : decode cX11_goes 38 = .ok (.aload_n 0, 1) := by decide +kernel
theorem dX11_goes_39 : decode cX11_goes 39 = .ok (.getfield 50, 3) := by decide +kernel
theorem dX11_goes_42 : decode cX11_goes 42 = .ok (.invokevirtual 248, 3) := by decide +kernel
theorem dX11_goes_45 : decode cX11_goes 45 = .ok (.iload_n 1, 1) := by decide +kernel
theorem dX11_goes_46 : decode cX11_goes 46 = .ok (.invokevirtual 251, 3) := by decide +kernel
theorem dX11_goes_49 : decode cX11_goes 49 = .ok (.ifCond .ne 6, 3) := by decide +kernel
theorem dX11_goes_52 : decode cX11_goes 52 = .ok (.ldc 247, 2) := by decide +kernel
theorem dX11_goes_54 : decode cX11_goes 54 = .ok (.ireturn, 1) := by decide +kernel
theorem dX11_goes_55 : decode cX11_goes 55 = .ok (.iload_n 2, 1) := by decide +kernel
theorem dX11_goes_56 : decode cX11_goes 56 = .ok (.ifCond .ne 13, 3) := by decide +kernel
theorem dX11_goes_59 : decode cX11_goes 59 = .ok (.aload_n 0, 1) := by decide +kernel
theorem dX11_goes_60 : decode cX11_goes 60 = .ok (.getfield 69, 3) := by decide +kernel
theorem dX11_goes_63 : decode cX11_goes 63 = .ok (.getfield 255, 3) := by decide +kernel
theorem dX11_goes_66 : decode cX11_goes 66 = .ok (.goto 10, 3) := by decide +kernel
theorem dX11_goes_69 : decode cX11_goes 69 = .ok (.aload_n 0, 1) := by decide +kernel
theorem dX11_goes_70 : decode cX11_goes 70 = .ok (.getfield 69, 3) := by decide +kernel
theorem dX11_goes_73 : decode cX11_goes 73 = .ok (.getfield 258, 3) := by decide +kernel
theorem dX11_goes_76 : decode cX11_goes 76 = .ok (.ireturn, 1) := by decide +kernel
theorem dX11_stop_0 : decode cX11_stop 0 = .ok (.aload_n 0, 1) := by decide +kernel
theorem dX11_stop_1 : decode cX11_stop 1 = .ok (.getfield 50, 3) := by decide +kernel
theorem dX11_stop_4 : decode cX11_stop 4 = .ok (.getfield 170, 3) := by decide +kernel
theorem dX11_stop_7 : decode cX11_stop 7 = .ok (.ifCond .ne 6, 3) := by decide +kernel
theorem dX11_stop_10 : decode cX11_stop 10 = .ok (.ldc 162, 2) := by decide +kernel
theorem dX11_stop_12 : decode cX11_stop 12 = .ok (.ireturn, 1) := by decide +kernel
theorem dX11_stop_13 : decode cX11_stop 13 = .ok (.iload_n 1, 1) := by decide +kernel
theorem dX11_stop_14 : decode cX11_stop 14 = .ok (.invokestatic 174, 3) := by decide +kernel
theorem dX11_stop_17 : decode cX11_stop 17 = .ok (.ifCond .eq 10, 3) := by decide +kernel
theorem dX11_stop_20 : decode cX11_stop 20 = .ok (.iload_n 2, 1) := by decide +kernel
theorem dX11_stop_21 : decode cX11_stop 21 = .ok (.invokestatic 204, 3) := by decide +kernel
theorem dX11_stop_24 : decode cX11_stop 24 = .ok (.ifCond .ne 6, 3) := by decide +kernel
theorem dX11_stop_27 : decode cX11_stop 27 = .ok (.ldc 88, 2) := by decide +kernel
theorem dX11_stop_29 : decode cX11_stop 29 = .ok (.ireturn, 1) := by decide +kernel
theorem dX11_stop_30 : decode cX11_stop 30 = .ok (.iload_n 1, 1) := by decide +kernel
theorem dX11_stop_31 : decode cX11_stop 31 = .ok (.aload_n 0, 1) := by decide +kernel
theorem dX11_stop_32 : decode cX11_stop 32 = .ok (.getfield 50, 3) := by decide +kernel
theorem dX11_stop_35 : decode cX11_stop 35 = .ok (.getfield 244, 3) := by decide +kernel
theorem dX11_stop_38 : decode cX11_stop 38 = .ok (.if_icmp .ne 6, 3) := by decide +kernel
theorem dX11_stop_41 : decode cX11_stop 41 = .ok (.ldc 247, 2) := by decide +kernel
theorem dX11_stop_43 : decode cX11_stop 43 = .ok (.ireturn, 1) := by decide +kernel
theorem dX11_stop_44 : decode cX11_stop 44 = .ok (.aload_n 0, 1) := by decide +kernel
theorem dX11_stop_45 : decode cX11_stop 45 = .ok (.getfield 69, 3) := by decide +kernel
theorem dX11_stop_48 : decode cX11_stop 48 = .ok (.aload_n 0, 1) := by decide +kernel
theorem dX11_stop_49 : decode cX11_stop 49 = .ok (.getfield 50, 3) := by decide +kernel
theorem dX11_stop_52 : decode cX11_stop 52 = .ok (.aload_n 0, 1) := by decide +kernel
theorem dX11_stop_53 : decode cX11_stop 53 = .ok (.getfield 50, 3) := by decide +kernel
theorem dX11_stop_56 : decode cX11_stop 56 = .ok (.invokevirtual 248, 3) := by decide +kernel
theorem dX11_stop_59 : decode cX11_stop 59 = .ok (.iload_n 1, 1) := by decide +kernel
theorem dX11_stop_60 : decode cX11_stop 60 = .ok (.invokevirtual 261, 3) := by decide +kernel
theorem dX11_stop_63 : decode cX11_stop 63 = .ok (.istore_n 3, 1) := by decide +kernel
theorem dX11_stop_64 : decode cX11_stop 64 = .ok (.iload_n 2, 1) := by decide +kernel
theorem dX11_stop_65 : decode cX11_stop 65 = .ok (.ifCond .ne 10, 3) := by decide +kernel
theorem dX11_stop_68 : decode cX11_stop 68 = .ok (.iload_n 3, 1) := by decide +kernel
theorem dX11_stop_69 : decode cX11_stop 69 = .ok (.invokestatic 265, 3) := by decide +kernel
theorem dX11_stop_72 : decode cX11_stop 72 = .ok (.goto 4, 3) := by decide +kernel
theorem dX11_stop_75 : decode cX11_stop 75 = .ok (.iload_n 3, 1) := by decide +kernel
theorem dX11_stop_76 : decode cX11_stop 76 = .ok (.ireturn, 1) := by decide +kernel
theorem dX11_must_0 : decode cX11_must 0 = .ok (.aload_n 0, 1) := by decide +kernel
theorem dX11_must_1 : decode cX11_must 1 = .ok (.getfield 50, 3) := by decide +kernel
theorem dX11_must_4 : decode cX11_must 4 = .ok (.getfield 170, 3) := by decide +kernel
theorem dX11_must_7 : decode cX11_must 7 = .ok (.ifCond .ne 6, 3) := by decide +kernel
theorem dX11_must_10 : decode cX11_must 10 = .ok (.ldc 162, 2) := by decide +kernel
theorem dX11_must_12 : decode cX11_must 12 = .ok (.ireturn, 1) := by decide +kernel
theorem dX11_must_13 : decode cX11_must 13 = .ok (.iload_n 1, 1) := by decide +kernel
theorem dX11_must_14 : decode cX11_must 14 = .ok (.invokestatic 174, 3) := by decide +kernel
theorem dX11_must_17 : decode cX11_must 17 = .ok (.ifCond .ne 6, 3) := by decide +kernel
theorem dX11_must_20 : decode cX11_must 20 = .ok (.ldc 88, 2) := by decide +kernel
theorem dX11_must_22 : decode cX11_must 22 = .ok (.ireturn, 1) := by decide +kernel
theorem dX11_must_23 : decode cX11_must 23 = .ok (.aload_n 0, 1) := by decide +kernel
theorem dX11_must_24 : decode cX11_must 24 = .ok (.getfield 50, 3) := by decide +kernel
theorem dX11_must_27 : decode cX11_must 27 = .ok (.invokevirtual 248, 3) := by decide +kernel
theorem dX11_must_30 : decode cX11_must 30 = .ok (.istore_n 2, 1) := by decide +kernel
theorem dX11_must_31 : decode cX11_must 31 = .ok (.aload_n 0, 1) := by decide +kernel
theorem dX11_must_32 : decode cX11_must 32 = .ok (.getfield 69, 3) := by decide +kernel
theorem dX11_must_35 : decode cX11_must 35 = .ok (.aload_n 0, 1) := by decide +kernel
theorem dX11_must_36 : decode cX11_must 36 = .ok (.getfield 50, 3) := by decide +kernel
theorem dX11_must_39 : decode cX11_must 39 = .ok (.iload_n 2, 1) := by decide +kernel
theorem dX11_must_40 : decode cX11_must 40 = .ok (.iload_n 1, 1) := by decide +kernel
theorem dX11_must_41 : decode cX11_must 41 = .ok (.invokevirtual 251, 3) := by decide +kernel
theorem dX11_must_44 : decode cX11_must 44 = .ok (.ifCond .ne 5, 3) := by decide +kernel
theorem dX11_must_47 : decode cX11_must 47 = .ok (.iconst 0, 1) := by decide +kernel
theorem dX11_must_48 : decode cX11_must 48 = .ok (.ireturn, 1) := by decide +kernel
theorem dX11_must_49 : decode cX11_must 49 = .ok (.aload_n 0, 1) := by decide +kernel
theorem dX11_must_50 : decode cX11_must 50 = .ok (.getfield 69, 3) := by decide +kernel
theorem dX11_must_53 : decode cX11_must 53 = .ok (.getfield 258, 3) := by decide +kernel
theorem dX11_must_56 : decode cX11_must 56 = .ok (.istore_n 3, 1) := by decide +kernel
theorem dX11_must_57 : decode cX11_must 57 = .ok (.iconst 0, 1) := by decide +kernel
theorem dX11_must_58 : decode cX11_must 58 = .ok (.istore 4, 2) := by decide +kernel
theorem dX11_must_60 : decode cX11_must 60 = .ok (.iconst 0, 1) := by decide +kernel
theorem dX11_must_61 : decode cX11_must 61 = .ok (.istore 5, 2) := by decide +kernel
theorem dX11_must_63 : decode cX11_must 63 = .ok (.iload 5, 2) := by decide +kernel
theorem dX11_must_65 : decode cX11_must 65 = .ok (.aload_n 0, 1) := by decide +kernel
theorem dX11_must_66 : decode cX11_must 66 = .ok (.getfield 50, 3) := by decide +kernel
theorem dX11_must_69 : decode cX11_must 69 = .ok (.getfield 153, 3) := by decide +kernel
theorem dX11_must_72 : decode cX11_must 72 = .ok (.if_icmp .ge 51, 3) := by decide +kernel
theorem dX11_must_75 : decode cX11_must 75 = .ok (.iload_n 3, 1) := by decide +kernel
theorem dX11_must_76 : decode cX11_must 76 = .ok (.iload 5, 2) := by decide +kernel
theorem dX11_must_78 : decode cX11_must 78 = .ok (.invokestatic 210, 3) := by decide +kernel
theorem dX11_must_81 : decode cX11_must 81 = .ok (.iconst 1, 1) := by decide +kernel
theorem dX11_must_82 : decode cX11_must 82 = .ok (.if_icmp .ne 35, 3) := by decide +kernel
theorem dX11_must_85 : decode cX11_must 85 = .ok (.aload_n 0, 1) := by decide +kernel
theorem dX11_must_86 : decode cX11_must 86 = .ok (.getfield 69, 3) := by decide +kernel
theorem dX11_must_89 : decode cX11_must 89 = .ok (.aload_n 0, 1) := by decide +kernel
theorem dX11_must_90 : decode cX11_must 90 = .ok (.getfield 50, 3) := by decide +kernel
theorem dX11_must_93 : decode cX11_must 93 = .ok (.iload_n 2, 1) := by decide +kernel
theorem dX11_must_94 : decode cX11_must 94 = .ok (.iconst 1, 1) := by decide +kernel
theorem dX11_must_95 : decode cX11_must 95 = .ok (.iload 5, 2) := by decide +kernel
theorem dX11_must_97 : decode cX11_must 97 = .ok (.ishl, 1) := by decide +kernel
theorem dX11_must_98 : decode cX11_must 98 = .ok (.iconst (-1), 1) := by decide +kernel
theorem dX11_must_99 : decode cX11_must 99 = .ok (.ixor, 1) := by decide +kernel
theorem dX11_must_100 : decode cX11_must 100 = .ok (.iand, 1) := by decide +kernel
theorem dX11_must_101 : decode cX11_must 101 = .ok (.iload_n 1, 1) := by decide +kernel
theorem dX11_must_102 : decode cX11_must 102 = .ok (.invokevirtual 251, 3) := by decide +kernel
theorem dX11_must_105 : decode cX11_must 105 = .ok (.ifCond .ne 12, 3) := by decide +kernel
theorem dX11_must_108 : decode cX11_must 108 = .ok (.iload 4, 2) := by decide +kernel
theorem dX11_must_110 : decode cX11_must 110 = .ok (.iconst 1, 1) := by decide +kernel
theorem dX11_must_111 : decode cX11_must 111 = .ok (.iload 5, 2) := by decide +kernel
theorem dX11_must_113 : decode cX11_must 113 = .ok (.ishl, 1) := by decide +kernel
theorem dX11_must_114 : decode cX11_must 114 = .ok (.ior, 1) := by decide +kernel
theorem dX11_must_115 : decode cX11_must 115 = .ok (.istore 4, 2) := by decide +kernel
theorem dX11_must_117 : decode cX11_must 117 = .ok (.iinc 5 1, 3) := by decide +kernel
theorem dX11_must_120 : decode cX11_must 120 = .ok (.goto (-57), 3) := by decide +kernel
theorem dX11_must_123 : decode cX11_must 123 = .ok (.iload 4, 2) := by decide +kernel
theorem dX11_must_125 : decode cX11_must 125 = .ok (.ireturn, 1) := by decide +kernel
theorem dX11_live_0 : decode cX11_live 0 = .ok (.aload_n 0, 1) := by decide +kernel
theorem dX11_live_1 : decode cX11_live 1 = .ok (.getfield 50, 3) := by decide +kernel
theorem dX11_live_4 : decode cX11_live 4 = .ok (.getfield 170, 3) := by decide +kernel
theorem dX11_live_7 : decode cX11_live 7 = .ok (.ifCond .ne 6, 3) := by decide +kernel
theorem dX11_live_10 : decode cX11_live 10 = .ok (.ldc 162, 2) := by decide +kernel
theorem dX11_live_12 : decode cX11_live 12 = .ok (.ireturn, 1) := by decide +kernel
theorem dX11_live_13 : decode cX11_live 13 = .ok (.iload_n 1, 1) := by decide +kernel
theorem dX11_live_14 : decode cX11_live 14 = .ok (.aload_n 0, 1) := by decide +kernel
theorem dX11_live_15 : decode cX11_live 15 = .ok (.getfield 50, 3) := by decide +kernel
theorem dX11_live_18 : decode cX11_live 18 = .ok (.invokevirtual 270, 3) := by decide +kernel
theorem dX11_live_21 : decode cX11_live 21 = .ok (.iconst (-1), 1) := by decide +kernel
theorem dX11_live_22 : decode cX11_live 22 = .ok (.ixor, 1) := by decide +kernel
theorem dX11_live_23 : decode cX11_live 23 = .ok (.iand, 1) := by decide +kernel
theorem dX11_live_24 : decode cX11_live 24 = .ok (.ifCond .ne 10, 3) := by decide +kernel
theorem dX11_live_27 : decode cX11_live 27 = .ok (.iload_n 2, 1) := by decide +kernel
theorem dX11_live_28 : decode cX11_live 28 = .ok (.invokestatic 204, 3) := by decide +kernel
theorem dX11_live_31 : decode cX11_live 31 = .ok (.ifCond .ne 6, 3) := by decide +kernel
theorem dX11_live_34 : decode cX11_live 34 = .ok (.ldc 88, 2) := by decide +kernel
theorem dX11_live_36 : decode cX11_live 36 = .ok (.ireturn, 1) := by decide +kernel
theorem dX11_live_37 : decode cX11_live 37 = .ok (.ldc 247, 2) := by decide +kernel
theorem dX11_live_39 : decode cX11_live 39 = .ok (.istore_n 3, 1) := by decide +kernel
theorem dX11_live_40 : decode cX11_live 40 = .ok (.iconst 0, 1) := by decide +kernel
theorem dX11_live_41 : decode cX11_live 41 = .ok (.istore 4, 2) := by decide +kernel
theorem dX11_live_43 : decode cX11_live 43 = .ok (.iload 4, 2) := by decide +kernel
theorem dX11_live_45 : decode cX11_live 45 = .ok (.iconst 1, 1) := by decide +kernel
theorem dX11_live_46 : decode cX11_live 46 = .ok (.aload_n 0, 1) := by decide +kernel
theorem dX11_live_47 : decode cX11_live 47 = .ok (.getfield 50, 3) := by decide +kernel
theorem dX11_live_50 : decode cX11_live 50 = .ok (.getfield 273, 3) := by decide +kernel
theorem dX11_live_53 : decode cX11_live 53 = .ok (.ishl, 1) := by decide +kernel
theorem dX11_live_54 : decode cX11_live 54 = .ok (.if_icmp .ge 58, 3) := by decide +kernel
theorem dX11_live_57 : decode cX11_live 57 = .ok (.iload_n 1, 1) := by decide +kernel
theorem dX11_live_58 : decode cX11_live 58 = .ok (.aload_n 0, 1) := by decide +kernel
theorem dX11_live_59 : decode cX11_live 59 = .ok (.getfield 50, 3) := by decide +kernel
theorem dX11_live_62 : decode cX11_live 62 = .ok (.iload 4, 2) := by decide +kernel
theorem dX11_live_64 : decode cX11_live 64 = .ok (.invokevirtual 276, 3) := by decide +kernel
theorem dX11_live_67 : decode cX11_live 67 = .ok (.iconst (-1), 1) := by decide +kernel
theorem dX11_live_68 : decode cX11_live 68 = .ok (.ixor, 1) := by decide +kernel
theorem dX11_live_69 : decode cX11_live 69 = .ok (.iand, 1) := by decide +kernel
theorem dX11_live_70 : decode cX11_live 70 = .ok (.ifCond .ne 7, 3) := by decide +kernel
theorem dX11_live_73 : decode cX11_live 73 = .ok (.iconst 1, 1) := by decide +kernel
theorem dX11_live_74 : decode cX11_live 74 = .ok (.goto 4, 3) := by decide +kernel
theorem dX11_live_77 : decode cX11_live 77 = .ok (.iconst 0, 1) := by decide +kernel
theorem dX11_live_78 : decode cX11_live 78 = .ok (.istore 5, 2) := by decide +kernel
theorem dX11_live_80 : decode cX11_live 80 = .ok (.iload 5, 2) := by decide +kernel
theorem dX11_live_82 : decode cX11_live 82 = .ok (.ifCond .eq 24, 3) := by decide +kernel
theorem dX11_live_85 : decode cX11_live 85 = .ok (.iload_n 3, 1) := by decide +kernel
theorem dX11_live_86 : decode cX11_live 86 = .ok (.ldc 247, 2) := by decide +kernel
theorem dX11_live_88 : decode cX11_live 88 = .ok (.if_icmp .eq 15, 3) := by decide +kernel
theorem dX11_live_91 : decode cX11_live 91 = .ok (.iload 4, 2) := by decide +kernel
theorem dX11_live_93 : decode cX11_live 93 = .ok (.invokestatic 265, 3) := by decide +kernel
theorem dX11_live_96 : decode cX11_live 96 = .ok (.iload_n 3, 1) := by decide +kernel
theorem dX11_live_97 : decode cX11_live 97 = .ok (.invokestatic 265, 3) := by decide +kernel
theorem dX11_live_100 : decode cX11_live 100 = .ok (.if_icmp .ge 6, 3) := by decide +kernel
theorem dX11_live_103 : decode cX11_live 103 = .ok (.iload 4, 2) := by decide +kernel
theorem dX11_live_105 : decode cX11_live 105 = .ok (.istore_n 3, 1) := by decide +kernel
theorem dX11_live_106 : decode cX11_live 106 = .ok (.iinc 4 1, 3) := by decide +kernel
theorem dX11_live_109 : decode cX11_live 109 = .ok (.goto (-66), 3) := by decide +kernel
theorem dX11_live_112 : decode cX11_live 112 = .ok (.iload_n 3, 1) := by decide +kernel
theorem dX11_live_113 : decode cX11_live 113 = .ok (.ldc 247, 2) := by decide +kernel
theorem dX11_live_115 : decode cX11_live 115 = .ok (.if_icmp .eq 8, 3) := by decide +kernel
theorem dX11_live_118 : decode cX11_live 118 = .ok (.iload_n 2, 1) := by decide +kernel
theorem dX11_live_119 : decode cX11_live 119 = .ok (.iconst 1, 1) := by decide +kernel
theorem dX11_live_120 : decode cX11_live 120 = .ok (.if_icmp .ne 7, 3) := by decide +kernel
theorem dX11_live_123 : decode cX11_live 123 = .ok (.iload_n 3, 1) := by decide +kernel
theorem dX11_live_124 : decode cX11_live 124 = .ok (.goto 7, 3) := by decide +kernel
theorem dX11_live_127 : decode cX11_live 127 = .ok (.iload_n 3, 1) := by decide +kernel
theorem dX11_live_128 : decode cX11_live 128 = .ok (.invokestatic 265, 3) := by decide +kernel
theorem dX11_live_131 : decode cX11_live 131 = .ok (.ireturn, 1) := by decide +kernel
theorem dX11_makes_0 : decode cX11_makes 0 = .ok (.aload_n 0, 1) := by decide +kernel
theorem dX11_makes_1 : decode cX11_makes 1 = .ok (.getfield 50, 3) := by decide +kernel
theorem dX11_makes_4 : decode cX11_makes 4 = .ok (.getfield 170, 3) := by decide +kernel
theorem dX11_makes_7 : decode cX11_makes 7 = .ok (.ifCond .ne 6, 3) := by decide +kernel
theorem dX11_makes_10 : decode cX11_makes 10 = .ok (.ldc 162, 2) := by decide +kernel
theorem dX11_makes_12 : decode cX11_makes 12 = .ok (.ireturn, 1) := by decide +kernel
theorem dX11_makes_13 : decode cX11_makes 13 = .ok (.iload_n 1, 1) := by decide +kernel
theorem dX11_makes_14 : decode cX11_makes 14 = .ok (.invokestatic 174, 3) := by decide +kernel
theorem dX11_makes_17 : decode cX11_makes 17 = .ok (.ifCond .eq 11, 3) := by decide +kernel
theorem dX11_makes_20 : decode cX11_makes 20 = .ok (.aload_n 0, 1) := by decide +kernel
theorem dX11_makes_21 : decode cX11_makes 21 = .ok (.iload_n 1, 1) := by decide +kernel
theorem dX11_makes_22 : decode cX11_makes 22 = .ok (.invokevirtual 279, 3) := by decide +kernel
theorem dX11_makes_25 : decode cX11_makes 25 = .ok (.goto 5, 3) := by decide +kernel
theorem dX11_makes_28 : decode cX11_makes 28 = .ok (.ldc 88, 2) := by decide +kernel
theorem dX11_makes_30 : decode cX11_makes 30 = .ok (.ireturn, 1) := by decide +kernel
theorem dX11_best_0 : decode cX11_best 0 = .ok (.aload_n 0, 1) := by decide +kernel
theorem dX11_best_1 : decode cX11_best 1 = .ok (.getfield 50, 3) := by decide +kernel
theorem dX11_best_4 : decode cX11_best 4 = .ok (.getfield 170, 3) := by decide +kernel
theorem dX11_best_7 : decode cX11_best 7 = .ok (.ifCond .ne 6, 3) := by decide +kernel
theorem dX11_best_10 : decode cX11_best 10 = .ok (.ldc 162, 2) := by decide +kernel
theorem dX11_best_12 : decode cX11_best 12 = .ok (.ireturn, 1) := by decide +kernel
theorem dX11_best_13 : decode cX11_best 13 = .ok (.iload_n 1, 1) := by decide +kernel
theorem dX11_best_14 : decode cX11_best 14 = .ok (.invokestatic 204, 3) := by decide +kernel
theorem dX11_best_17 : decode cX11_best 17 = .ok (.ifCond .ne 6, 3) := by decide +kernel
theorem dX11_best_20 : decode cX11_best 20 = .ok (.ldc 88, 2) := by decide +kernel
theorem dX11_best_22 : decode cX11_best 22 = .ok (.ireturn, 1) := by decide +kernel
theorem dX11_best_23 : decode cX11_best 23 = .ok (.ldc 247, 2) := by decide +kernel
theorem dX11_best_25 : decode cX11_best 25 = .ok (.istore_n 2, 1) := by decide +kernel
theorem dX11_best_26 : decode cX11_best 26 = .ok (.ldc 247, 2) := by decide +kernel
theorem dX11_best_28 : decode cX11_best 28 = .ok (.istore_n 3, 1) := by decide +kernel
theorem dX11_best_29 : decode cX11_best 29 = .ok (.iconst 0, 1) := by decide +kernel
theorem dX11_best_30 : decode cX11_best 30 = .ok (.istore 4, 2) := by decide +kernel
theorem dX11_best_32 : decode cX11_best 32 = .ok (.iload 4, 2) := by decide +kernel
theorem dX11_best_34 : decode cX11_best 34 = .ok (.bipush 8, 2) := by decide +kernel
theorem dX11_best_36 : decode cX11_best 36 = .ok (.if_icmp .ge 29, 3) := by decide +kernel
theorem dX11_best_39 : decode cX11_best 39 = .ok (.aload_n 0, 1) := by decide +kernel
theorem dX11_best_40 : decode cX11_best 40 = .ok (.iload 4, 2) := by decide +kernel
theorem dX11_best_42 : decode cX11_best 42 = .ok (.invokevirtual 279, 3) := by decide +kernel
theorem dX11_best_45 : decode cX11_best 45 = .ok (.istore 5, 2) := by decide +kernel
theorem dX11_best_47 : decode cX11_best 47 = .ok (.iload 5, 2) := by decide +kernel
theorem dX11_best_49 : decode cX11_best 49 = .ok (.iload_n 3, 1) := by decide +kernel
theorem dX11_best_50 : decode cX11_best 50 = .ok (.if_icmp .le 9, 3) := by decide +kernel
theorem dX11_best_53 : decode cX11_best 53 = .ok (.iload 4, 2) := by decide +kernel
theorem dX11_best_55 : decode cX11_best 55 = .ok (.istore_n 2, 1) := by decide +kernel
theorem dX11_best_56 : decode cX11_best 56 = .ok (.iload 5, 2) := by decide +kernel
theorem dX11_best_58 : decode cX11_best 58 = .ok (.istore_n 3, 1) := by decide +kernel
theorem dX11_best_59 : decode cX11_best 59 = .ok (.iinc 4 1, 3) := by decide +kernel
theorem dX11_best_62 : decode cX11_best 62 = .ok (.goto (-30), 3) := by decide +kernel
theorem dX11_best_65 : decode cX11_best 65 = .ok (.iload_n 1, 1) := by decide +kernel
theorem dX11_best_66 : decode cX11_best 66 = .ok (.ifCond .ne 7, 3) := by decide +kernel
theorem dX11_best_69 : decode cX11_best 69 = .ok (.iload_n 2, 1) := by decide +kernel
theorem dX11_best_70 : decode cX11_best 70 = .ok (.goto 4, 3) := by decide +kernel
theorem dX11_best_73 : decode cX11_best 73 = .ok (.iload_n 3, 1) := by decide +kernel
theorem dX11_best_74 : decode cX11_best 74 = .ok (.ireturn, 1) := by decide +kernel
theorem dX11_from_0 : decode cX11_from 0 = .ok (.aload_n 0, 1) := by decide +kernel
theorem dX11_from_1 : decode cX11_from 1 = .ok (.getfield 50, 3) := by decide +kernel
theorem dX11_from_4 : decode cX11_from 4 = .ok (.getfield 170, 3) := by decide +kernel
theorem dX11_from_7 : decode cX11_from 7 = .ok (.ifCond .ne 6, 3) := by decide +kernel
theorem dX11_from_10 : decode cX11_from 10 = .ok (.ldc 162, 2) := by decide +kernel
theorem dX11_from_12 : decode cX11_from 12 = .ok (.ireturn, 1) := by decide +kernel
theorem dX11_from_13 : decode cX11_from 13 = .ok (.iload_n 1, 1) := by decide +kernel
theorem dX11_from_14 : decode cX11_from 14 = .ok (.invokestatic 84, 3) := by decide +kernel
theorem dX11_from_17 : decode cX11_from 17 = .ok (.ifCond .ne 6, 3) := by decide +kernel
theorem dX11_from_20 : decode cX11_from 20 = .ok (.ldc 88, 2) := by decide +kernel
theorem dX11_from_22 : decode cX11_from 22 = .ok (.ireturn, 1) := by decide +kernel
theorem dX11_from_23 : decode cX11_from 23 = .ok (.aload_n 0, 1) := by decide +kernel
theorem dX11_from_24 : decode cX11_from 24 = .ok (.getfield 10, 3) := by decide +kernel
theorem dX11_from_27 : decode cX11_from 27 = .ok (.iload_n 1, 1) := by decide +kernel
theorem dX11_from_28 : decode cX11_from 28 = .ok (.iload_n 2, 1) := by decide +kernel
theorem dX11_from_29 : decode cX11_from 29 = .ok (.iconst 1, 1) := by decide +kernel
theorem dX11_from_30 : decode cX11_from 30 = .ok (.invokevirtual 100, 3) := by decide +kernel
theorem dX11_from_33 : decode cX11_from 33 = .ok (.istore_n 3, 1) := by decide +kernel
theorem dX11_from_34 : decode cX11_from 34 = .ok (.iload_n 3, 1) := by decide +kernel
theorem dX11_from_35 : decode cX11_from 35 = .ok (.ifCond .eq 9, 3) := by decide +kernel
theorem dX11_from_38 : decode cX11_from 38 = .ok (.aload_n 0, 1) := by decide +kernel
theorem dX11_from_39 : decode cX11_from 39 = .ok (.iload_n 3, 1) := by decide +kernel
theorem dX11_from_40 : decode cX11_from 40 = .ok (.invokevirtual 89, 3) := by decide +kernel
theorem dX11_from_43 : decode cX11_from 43 = .ok (.ireturn, 1) := by decide +kernel
theorem dX11_from_44 : decode cX11_from 44 = .ok (.aload_n 0, 1) := by decide +kernel
theorem dX11_from_45 : decode cX11_from 45 = .ok (.getfield 10, 3) := by decide +kernel
theorem dX11_from_48 : decode cX11_from 48 = .ok (.getfield 117, 3) := by decide +kernel
theorem dX11_from_51 : decode cX11_from 51 = .ok (.iload_n 1, 1) := by decide +kernel
theorem dX11_from_52 : decode cX11_from 52 = .ok (.aaload, 1) := by decide +kernel
theorem dX11_from_53 : decode cX11_from 53 = .ok (.iload_n 2, 1) := by decide +kernel
theorem dX11_from_54 : decode cX11_from 54 = .ok (.iaload, 1) := by decide +kernel
theorem dX11_from_55 : decode cX11_from 55 = .ok (.istore 4, 2) := by decide +kernel
theorem dX11_from_57 : decode cX11_from 57 = .ok (.iconst 0, 1) := by decide +kernel
theorem dX11_from_58 : decode cX11_from 58 = .ok (.istore 5, 2) := by decide +kernel
theorem dX11_from_60 : decode cX11_from 60 = .ok (.iconst 0, 1) := by decide +kernel
theorem dX11_from_61 : decode cX11_from 61 = .ok (.istore 6, 2) := by decide +kernel
theorem dX11_from_63 : decode cX11_from 63 = .ok (.iload 6, 2) := by decide +kernel
theorem dX11_from_65 : decode cX11_from 65 = .ok (.bipush 8, 2) := by decide +kernel
theorem dX11_from_67 : decode cX11_from 67 = .ok (.if_icmp .ge 50, 3) := by decide +kernel
theorem dX11_from_70 : decode cX11_from 70 = .ok (.aload_n 0, 1) := by decide +kernel
theorem dX11_from_71 : decode cX11_from 71 = .ok (.getfield 69, 3) := by decide +kernel
theorem dX11_from_74 : decode cX11_from 74 = .ok (.aload_n 0, 1) := by decide +kernel
theorem dX11_from_75 : decode cX11_from 75 = .ok (.getfield 50, 3) := by decide +kernel
theorem dX11_from_78 : decode cX11_from 78 = .ok (.iload 6, 2) := by decide +kernel
theorem dX11_from_80 : decode cX11_from 80 = .ok (.invokevirtual 177, 3) := by decide +kernel
theorem dX11_from_83 : decode cX11_from 83 = .ok (.ifCond .eq 28, 3) := by decide +kernel
theorem dX11_from_86 : decode cX11_from 86 = .ok (.aload_n 0, 1) := by decide +kernel
theorem dX11_from_87 : decode cX11_from 87 = .ok (.getfield 50, 3) := by decide +kernel
theorem dX11_from_90 : decode cX11_from 90 = .ok (.aload_n 0, 1) := by decide +kernel
theorem dX11_from_91 : decode cX11_from 91 = .ok (.getfield 69, 3) := by decide +kernel
theorem dX11_from_94 : decode cX11_from 94 = .ok (.invokevirtual 282, 3) := by decide +kernel
theorem dX11_from_97 : decode cX11_from 97 = .ok (.iload 4, 2) := by decide +kernel
theorem dX11_from_99 : decode cX11_from 99 = .ok (.if_icmp .ne 12, 3) := by decide +kernel
theorem dX11_from_102 : decode cX11_from 102 = .ok (.iload 5, 2) := by decide +kernel
theorem dX11_from_104 : decode cX11_from 104 = .ok (.iconst 1, 1) := by decide +kernel
theorem dX11_from_105 : decode cX11_from 105 = .ok (.iload 6, 2) := by decide +kernel
theorem dX11_from_107 : decode cX11_from 107 = .ok (.ishl, 1) := by decide +kernel
theorem dX11_from_108 : decode cX11_from 108 = .ok (.ior, 1) := by decide +kernel
theorem dX11_from_109 : decode cX11_from 109 = .ok (.istore 5, 2) := by decide +kernel
theorem dX11_from_111 : decode cX11_from 111 = .ok (.iinc 6 1, 3) := by decide +kernel
theorem dX11_from_114 : decode cX11_from 114 = .ok (.goto (-51), 3) := by decide +kernel
theorem dX11_from_117 : decode cX11_from 117 = .ok (.aload_n 0, 1) := by decide +kernel
theorem dX11_from_118 : decode cX11_from 118 = .ok (.iload 5, 2) := by decide +kernel
theorem dX11_from_120 : decode cX11_from 120 = .ok (.invokevirtual 97, 3) := by decide +kernel
theorem dX11_from_123 : decode cX11_from 123 = .ok (.ireturn, 1) := by decide +kernel
theorem dX11_who_0 : decode cX11_who 0 = .ok (.aload_n 0, 1) := by decide +kernel
theorem dX11_who_1 : decode cX11_who 1 = .ok (.getfield 50, 3) := by decide +kernel
theorem dX11_who_4 : decode cX11_who 4 = .ok (.iload_n 1, 1) := by decide +kernel
theorem dX11_who_5 : decode cX11_who 5 = .ok (.invokevirtual 214, 3) := by decide +kernel
theorem dX11_who_8 : decode cX11_who 8 = .ok (.ifCond .eq 22, 3) := by decide +kernel
theorem dX11_who_11 : decode cX11_who 11 = .ok (.iload_n 2, 1) := by decide +kernel
theorem dX11_who_12 : decode cX11_who 12 = .ok (.invokestatic 84, 3) := by decide +kernel
theorem dX11_who_15 : decode cX11_who 15 = .ok (.ifCond .eq 15, 3) := by decide +kernel
theorem dX11_who_18 : decode cX11_who 18 = .ok (.iload 4, 2) := by decide +kernel
theorem dX11_who_20 : decode cX11_who 20 = .ok (.iconst 1, 1) := by decide +kernel
theorem dX11_who_21 : decode cX11_who 21 = .ok (.if_icmp .lt 9, 3) := by decide +kernel
theorem dX11_who_24 : decode cX11_who 24 = .ok (.iload 4, 2) := by decide +kernel
theorem dX11_who_26 : decode cX11_who 26 = .ok (.iconst 4, 1) := by decide +kernel
theorem dX11_who_27 : decode cX11_who 27 = .ok (.if_icmp .le 6, 3) := by decide +kernel
theorem dX11_who_30 : decode cX11_who 30 = .ok (.ldc 88, 2) := by decide +kernel
theorem dX11_who_32 : decode cX11_who 32 = .ok (.ireturn, 1) := by decide +kernel
theorem dX11_who_33 : decode cX11_who 33 = .ok (.aload_n 0, 1) := by decide +kernel
theorem dX11_who_34 : decode cX11_who 34 = .ok (.getfield 10, 3) := by decide +kernel
theorem dX11_who_37 : decode cX11_who 37 = .ok (.iload_n 2, 1) := by decide +kernel
theorem dX11_who_38 : decode cX11_who 38 = .ok (.iload_n 3, 1) := by decide +kernel
theorem dX11_who_39 : decode cX11_who 39 = .ok (.iconst 2, 1) := by decide +kernel
theorem dX11_who_40 : decode cX11_who 40 = .ok (.iload 4, 2) := by decide +kernel
theorem dX11_who_42 : decode cX11_who 42 = .ok (.imul, 1) := by decide +kernel
theorem dX11_who_43 : decode cX11_who 43 = .ok (.invokevirtual 100, 3) := by decide +kernel
theorem dX11_who_46 : decode cX11_who 46 = .ok (.istore 5, 2) := by decide +kernel
theorem dX11_who_48 : decode cX11_who 48 = .ok (.iload 5, 2) := by decide +kernel
theorem dX11_who_50 : decode cX11_who 50 = .ok (.ifCond .eq 10, 3) := by decide +kernel
theorem dX11_who_53 : decode cX11_who 53 = .ok (.aload_n 0, 1) := by decide +kernel
theorem dX11_who_54 : decode cX11_who 54 = .ok (.iload 5, 2) := by decide +kernel
theorem dX11_who_56 : decode cX11_who 56 = .ok (.invokevirtual 89, 3) := by decide +kernel
theorem dX11_who_59 : decode cX11_who 59 = .ok (.ireturn, 1) := by decide +kernel
theorem dX11_who_60 : decode cX11_who 60 = .ok (.iconst 0, 1) := by decide +kernel
theorem dX11_who_61 : decode cX11_who 61 = .ok (.istore 6, 2) := by decide +kernel
theorem dX11_who_63 : decode cX11_who 63 = .ok (.iload 6, 2) := by decide +kernel
theorem dX11_who_65 : decode cX11_who 65 = .ok (.iload 4, 2) := by decide +kernel
theorem dX11_who_67 : decode cX11_who 67 = .ok (.if_icmp .ge 34, 3) := by decide +kernel
theorem dX11_who_70 : decode cX11_who 70 = .ok (.aload_n 0, 1) := by decide +kernel
theorem dX11_who_71 : decode cX11_who 71 = .ok (.getfield 10, 3) := by decide +kernel
theorem dX11_who_74 : decode cX11_who 74 = .ok (.getfield 117, 3) := by decide +kernel
theorem dX11_who_77 : decode cX11_who 77 = .ok (.iload_n 2, 1) := by decide +kernel
theorem dX11_who_78 : decode cX11_who 78 = .ok (.aaload, 1) := by decide +kernel
theorem dX11_who_79 : decode cX11_who 79 = .ok (.iload_n 3, 1) := by decide +kernel
theorem dX11_who_80 : decode cX11_who 80 = .ok (.iconst 2, 1) := by decide +kernel
theorem dX11_who_81 : decode cX11_who 81 = .ok (.iload 6, 2) := by decide +kernel
theorem dX11_who_83 : decode cX11_who 83 = .ok (.imul, 1) := by decide +kernel
theorem dX11_who_84 : decode cX11_who 84 = .ok (.iadd, 1) := by decide +kernel
theorem dX11_who_85 : decode cX11_who 85 = .ok (.iaload, 1) := by decide +kernel
theorem dX11_who_86 : decode cX11_who 86 = .ok (.invokestatic 174, 3) := by decide +kernel
theorem dX11_who_89 : decode cX11_who 89 = .ok (.ifCond .ne 6, 3) := by decide +kernel
theorem dX11_who_92 : decode cX11_who 92 = .ok (.ldc 88, 2) := by decide +kernel
theorem dX11_who_94 : decode cX11_who 94 = .ok (.ireturn, 1) := by decide +kernel
theorem dX11_who_95 : decode cX11_who 95 = .ok (.iinc 6 1, 3) := by decide +kernel
theorem dX11_who_98 : decode cX11_who 98 = .ok (.goto (-35), 3) := by decide +kernel
theorem dX11_who_101 : decode cX11_who 101 = .ok (.aload_n 0, 1) := by decide +kernel
theorem dX11_who_102 : decode cX11_who 102 = .ok (.aload_n 0, 1) := by decide +kernel
theorem dX11_who_103 : decode cX11_who 103 = .ok (.iload_n 1, 1) := by decide +kernel
theorem dX11_who_104 : decode cX11_who 104 = .ok (.aload_n 0, 1) := by decide +kernel
theorem dX11_who_105 : decode cX11_who 105 = .ok (.getfield 10, 3) := by decide +kernel
theorem dX11_who_108 : decode cX11_who 108 = .ok (.getfield 117, 3) := by decide +kernel
theorem dX11_who_111 : decode cX11_who 111 = .ok (.iload_n 2, 1) := by decide +kernel
theorem dX11_who_112 : decode cX11_who 112 = .ok (.aaload, 1) := by decide +kernel
theorem dX11_who_113 : decode cX11_who 113 = .ok (.iload_n 3, 1) := by decide +kernel
theorem dX11_who_114 : decode cX11_who 114 = .ok (.iload 4, 2) := by decide +kernel
theorem dX11_who_116 : decode cX11_who 116 = .ok (.invokevirtual 286, 3) := by decide +kernel
theorem dX11_who_119 : decode cX11_who 119 = .ok (.invokevirtual 97, 3) := by decide +kernel
theorem dX11_who_122 : decode cX11_who 122 = .ok (.ireturn, 1) := by decide +kernel
theorem dX11_far_0 : decode cX11_far 0 = .ok (.aload_n 0, 1) := by decide +kernel
theorem dX11_far_1 : decode cX11_far 1 = .ok (.getfield 50, 3) := by decide +kernel
theorem dX11_far_4 : decode cX11_far 4 = .ok (.getfield 170, 3) := by decide +kernel
theorem dX11_far_7 : decode cX11_far 7 = .ok (.ifCond .ne 6, 3) := by decide +kernel
theorem dX11_far_10 : decode cX11_far 10 = .ok (.ldc 162, 2) := by decide +kernel
theorem dX11_far_12 : decode cX11_far 12 = .ok (.ireturn, 1) := by decide +kernel
theorem dX11_far_13 : decode cX11_far 13 = .ok (.iload_n 1, 1) := by decide +kernel
theorem dX11_far_14 : decode cX11_far 14 = .ok (.invokestatic 174, 3) := by decide +kernel
theorem dX11_far_17 : decode cX11_far 17 = .ok (.ifCond .ne 6, 3) := by decide +kernel
theorem dX11_far_20 : decode cX11_far 20 = .ok (.ldc 88, 2) := by decide +kernel
theorem dX11_far_22 : decode cX11_far 22 = .ok (.ireturn, 1) := by decide +kernel
theorem dX11_far_23 : decode cX11_far 23 = .ok (.aload_n 0, 1) := by decide +kernel
theorem dX11_far_24 : decode cX11_far 24 = .ok (.getfield 69, 3) := by decide +kernel
theorem dX11_far_27 : decode cX11_far 27 = .ok (.aload_n 0, 1) := by decide +kernel
theorem dX11_far_28 : decode cX11_far 28 = .ok (.getfield 50, 3) := by decide +kernel
theorem dX11_far_31 : decode cX11_far 31 = .ok (.aload_n 0, 1) := by decide +kernel
theorem dX11_far_32 : decode cX11_far 32 = .ok (.getfield 50, 3) := by decide +kernel
theorem dX11_far_35 : decode cX11_far 35 = .ok (.invokevirtual 270, 3) := by decide +kernel
theorem dX11_far_38 : decode cX11_far 38 = .ok (.iload_n 1, 1) := by decide +kernel
theorem dX11_far_39 : decode cX11_far 39 = .ok (.invokevirtual 251, 3) := by decide +kernel
theorem dX11_far_42 : decode cX11_far 42 = .ok (.ifCond .eq 13, 3) := by decide +kernel
theorem dX11_far_45 : decode cX11_far 45 = .ok (.aload_n 0, 1) := by decide +kernel
theorem dX11_far_46 : decode cX11_far 46 = .ok (.getfield 69, 3) := by decide +kernel
theorem dX11_far_49 : decode cX11_far 49 = .ok (.getfield 255, 3) := by decide +kernel
theorem dX11_far_52 : decode cX11_far 52 = .ok (.goto 5, 3) := by decide +kernel
theorem dX11_far_55 : decode cX11_far 55 = .ok (.ldc 247, 2) := by decide +kernel
theorem dX11_far_57 : decode cX11_far 57 = .ok (.ireturn, 1) := by decide +kernel
theorem dX11_pairs_0 : decode cX11_pairs 0 = .ok (.aload_n 0, 1) := by decide +kernel
theorem dX11_pairs_1 : decode cX11_pairs 1 = .ok (.getfield 50, 3) := by decide +kernel
theorem dX11_pairs_4 : decode cX11_pairs 4 = .ok (.getfield 170, 3) := by decide +kernel
theorem dX11_pairs_7 : decode cX11_pairs 7 = .ok (.ifCond .ne 6, 3) := by decide +kernel
theorem dX11_pairs_10 : decode cX11_pairs 10 = .ok (.ldc 162, 2) := by decide +kernel
theorem dX11_pairs_12 : decode cX11_pairs 12 = .ok (.ireturn, 1) := by decide +kernel
theorem dX11_pairs_13 : decode cX11_pairs 13 = .ok (.iconst 0, 1) := by decide +kernel
theorem dX11_pairs_14 : decode cX11_pairs 14 = .ok (.istore_n 1, 1) := by decide +kernel
theorem dX11_pairs_15 : decode cX11_pairs 15 = .ok (.iconst 0, 1) := by decide +kernel
theorem dX11_pairs_16 : decode cX11_pairs 16 = .ok (.istore_n 2, 1) := by decide +kernel
theorem dX11_pairs_17 : decode cX11_pairs 17 = .ok (.iload_n 2, 1) := by decide +kernel
theorem dX11_pairs_18 : decode cX11_pairs 18 = .ok (.aload_n 0, 1) := by decide +kernel
theorem dX11_pairs_19 : decode cX11_pairs 19 = .ok (.getfield 50, 3) := by decide +kernel
theorem dX11_pairs_22 : decode cX11_pairs 22 = .ok (.getfield 273, 3) := by decide +kernel
theorem dX11_pairs_25 : decode cX11_pairs 25 = .ok (.if_icmp .ge 61, 3) := by decide +kernel
theorem dX11_pairs_28 : decode cX11_pairs 28 = .ok (.aload_n 0, 1) := by decide +kernel
theorem dX11_pairs_29 : decode cX11_pairs 29 = .ok (.getfield 50, 3) := by decide +kernel
theorem dX11_pairs_32 : decode cX11_pairs 32 = .ok (.iload_n 2, 1) := by decide +kernel
theorem dX11_pairs_33 : decode cX11_pairs 33 = .ok (.invokevirtual 229, 3) := by decide +kernel
theorem dX11_pairs_36 : decode cX11_pairs 36 = .ok (.istore_n 3, 1) := by decide +kernel
theorem dX11_pairs_37 : decode cX11_pairs 37 = .ok (.iload_n 2, 1) := by decide +kernel
theorem dX11_pairs_38 : decode cX11_pairs 38 = .ok (.iconst 1, 1) := by decide +kernel
theorem dX11_pairs_39 : decode cX11_pairs 39 = .ok (.iadd, 1) := by decide +kernel
theorem dX11_pairs_40 : decode cX11_pairs 40 = .ok (.istore 4, 2) := by decide +kernel
theorem dX11_pairs_42 : decode cX11_pairs 42 = .ok (.iload 4, 2) := by decide +kernel
theorem dX11_pairs_44 : decode cX11_pairs 44 = .ok (.aload_n 0, 1) := by decide +kernel
theorem dX11_pairs_45 : decode cX11_pairs 45 = .ok (.getfield 50, 3) := by decide +kernel
theorem dX11_pairs_48 : decode cX11_pairs 48 = .ok (.getfield 273, 3) := by decide +kernel
theorem dX11_pairs_51 : decode cX11_pairs 51 = .ok (.if_icmp .ge 29, 3) := by decide +kernel
theorem dX11_pairs_54 : decode cX11_pairs 54 = .ok (.iload_n 3, 1) := by decide +kernel
theorem dX11_pairs_55 : decode cX11_pairs 55 = .ok (.ifCond .eq 25, 3) := by decide +kernel
theorem dX11_pairs_58 : decode cX11_pairs 58 = .ok (.aload_n 0, 1) := by decide +kernel
theorem dX11_pairs_59 : decode cX11_pairs 59 = .ok (.getfield 50, 3) := by decide +kernel
theorem dX11_pairs_62 : decode cX11_pairs 62 = .ok (.iload 4, 2) := by decide +kernel
theorem dX11_pairs_64 : decode cX11_pairs 64 = .ok (.invokevirtual 229, 3) := by decide +kernel
theorem dX11_pairs_67 : decode cX11_pairs 67 = .ok (.iload_n 3, 1) := by decide +kernel
theorem dX11_pairs_68 : decode cX11_pairs 68 = .ok (.if_icmp .ne 6, 3) := by decide +kernel
theorem dX11_pairs_71 : decode cX11_pairs 71 = .ok (.iinc 1 1, 3) := by decide +kernel
theorem dX11_pairs_74 : decode cX11_pairs 74 = .ok (.iinc 4 1, 3) := by decide +kernel
theorem dX11_pairs_77 : decode cX11_pairs 77 = .ok (.goto (-35), 3) := by decide +kernel
theorem dX11_pairs_80 : decode cX11_pairs 80 = .ok (.iinc 2 1, 3) := by decide +kernel
theorem dX11_pairs_83 : decode cX11_pairs 83 = .ok (.goto (-66), 3) := by decide +kernel
theorem dX11_pairs_86 : decode cX11_pairs 86 = .ok (.iload_n 1, 1) := by decide +kernel
theorem dX11_pairs_87 : decode cX11_pairs 87 = .ok (.ireturn, 1) := by decide +kernel
theorem dX11_locked_0 : decode cX11_locked 0 = .ok (.aload_n 0, 1) := by decide +kernel
theorem dX11_locked_1 : decode cX11_locked 1 = .ok (.getfield 50, 3) := by decide +kernel
theorem dX11_locked_4 : decode cX11_locked 4 = .ok (.getfield 170, 3) := by decide +kernel
theorem dX11_locked_7 : decode cX11_locked 7 = .ok (.ifCond .ne 7, 3) := by decide +kernel
theorem dX11_locked_10 : decode cX11_locked 10 = .ok (.ldc2_w 290, 3) := by decide +kernel
theorem dX11_locked_13 : decode cX11_locked 13 = .ok (.lreturn, 1) := by decide +kernel
theorem dX11_locked_14 : decode cX11_locked 14 = .ok (.iload_n 1, 1) := by decide +kernel
theorem dX11_locked_15 : decode cX11_locked 15 = .ok (.invokestatic 174, 3) := by decide +kernel
theorem dX11_locked_18 : decode cX11_locked 18 = .ok (.ifCond .eq 20, 3) := by decide +kernel
theorem dX11_locked_21 : decode cX11_locked 21 = .ok (.iload_n 2, 1) := by decide +kernel
theorem dX11_locked_22 : decode cX11_locked 22 = .ok (.ifCond .lt 16, 3) := by decide +kernel
theorem dX11_locked_25 : decode cX11_locked 25 = .ok (.iload_n 2, 1) := by decide +kernel
theorem dX11_locked_26 : decode cX11_locked 26 = .ok (.bipush 10, 2) := by decide +kernel
theorem dX11_locked_28 : decode cX11_locked 28 = .ok (.if_icmp .gt 10, 3) := by decide +kernel
theorem dX11_locked_31 : decode cX11_locked 31 = .ok (.iload_n 3, 1) := by decide +kernel
theorem dX11_locked_32 : decode cX11_locked 32 = .ok (.invokestatic 204, 3) := by decide +kernel
theorem dX11_locked_35 : decode cX11_locked 35 = .ok (.ifCond .ne 7, 3) := by decide +kernel
theorem dX11_locked_38 : decode cX11_locked 38 = .ok (.ldc2_w 292, 3) := by decide +kernel
theorem dX11_locked_41 : decode cX11_locked 41 = .ok (.lreturn, 1) := by decide +kernel
theorem dX11_locked_42 : decode cX11_locked 42 = .ok (.aload_n 0, 1) := by decide +kernel
theorem dX11_locked_43 : decode cX11_locked 43 = .ok (.getfield 69, 3) := by decide +kernel
theorem dX11_locked_46 : decode cX11_locked 46 = .ok (.aload_n 0, 1) := by decide +kernel
theorem dX11_locked_47 : decode cX11_locked 47 = .ok (.getfield 50, 3) := by decide +kernel
theorem dX11_locked_50 : decode cX11_locked 50 = .ok (.iload_n 1, 1) := by decide +kernel
theorem dX11_locked_51 : decode cX11_locked 51 = .ok (.iload_n 2, 1) := by decide +kernel
theorem dX11_locked_52 : decode cX11_locked 52 = .ok (.invokevirtual 294, 3) := by decide +kernel
theorem dX11_locked_55 : decode cX11_locked 55 = .ok (.lstore 4, 2) := by decide +kernel
theorem dX11_locked_57 : decode cX11_locked 57 = .ok (.aload_n 0, 1) := by decide +kernel
theorem dX11_locked_58 : decode cX11_locked 58 = .ok (.getfield 69, 3) := by decide +kernel
theorem dX11_locked_61 : decode cX11_locked 61 = .ok (.getfield 298, 3) := by decide +kernel
theorem dX11_locked_64 : decode cX11_locked 64 = .ok (.aload_n 0, 1) := by decide +kernel
theorem dX11_locked_65 : decode cX11_locked 65 = .ok (.getfield 50, 3) := by decide +kernel
theorem dX11_locked_68 : decode cX11_locked 68 = .ok (.invokevirtual 248, 3) := by decide +kernel
theorem dX11_locked_71 : decode cX11_locked 71 = .ok (.invokestatic 265, 3) := by decide +kernel
theorem dX11_locked_74 : decode cX11_locked 74 = .ok (.laload, 1) := by decide +kernel
theorem dX11_locked_75 : decode cX11_locked 75 = .ok (.lstore 6, 2) := by decide +kernel
theorem dX11_locked_77 : decode cX11_locked 77 = .ok (.lload 6, 2) := by decide +kernel
theorem dX11_locked_79 : decode cX11_locked 79 = .ok (.lload 4, 2) := by decide +kernel
theorem dX11_locked_81 : decode cX11_locked 81 = .ok (.invokestatic 302, 3) := by decide +kernel
theorem dX11_locked_84 : decode cX11_locked 84 = .ok (.lstore 8, 2) := by decide +kernel
theorem dX11_locked_86 : decode cX11_locked 86 = .ok (.iload_n 3, 1) := by decide +kernel
theorem dX11_locked_87 : decode cX11_locked 87 = .ok (.ifCond .ne 8, 3) := by decide +kernel
theorem dX11_locked_90 : decode cX11_locked 90 = .ok (.lload 4, 2) := by decide +kernel
theorem dX11_locked_92 : decode cX11_locked 92 = .ok (.goto 5, 3) := by decide +kernel
theorem dX11_locked_95 : decode cX11_locked 95 = .ok (.lload 6, 2) := by decide +kernel
theorem dX11_locked_97 : decode cX11_locked 97 = .ok (.lload 8, 2) := by decide +kernel
theorem dX11_locked_99 : decode cX11_locked 99 = .ok (.ldiv, 1) := by decide +kernel
theorem dX11_locked_100 : decode cX11_locked 100 = .ok (.lreturn, 1) := by decide +kernel
theorem dX11_drawn_0 : decode cX11_drawn 0 = .ok (.aload_n 0, 1) := by decide +kernel
theorem dX11_drawn_1 : decode cX11_drawn 1 = .ok (.getfield 50, 3) := by decide +kernel
theorem dX11_drawn_4 : decode cX11_drawn 4 = .ok (.getfield 170, 3) := by decide +kernel
theorem dX11_drawn_7 : decode cX11_drawn 7 = .ok (.ifCond .ne 6, 3) := by decide +kernel
theorem dX11_drawn_10 : decode cX11_drawn 10 = .ok (.ldc 162, 2) := by decide +kernel
theorem dX11_drawn_12 : decode cX11_drawn 12 = .ok (.ireturn, 1) := by decide +kernel
theorem dX11_drawn_13 : decode cX11_drawn 13 = .ok (.iload_n 1, 1) := by decide +kernel
theorem dX11_drawn_14 : decode cX11_drawn 14 = .ok (.ifCond .lt 28, 3) := by decide +kernel
theorem dX11_drawn_17 : decode cX11_drawn 17 = .ok (.iload_n 1, 1) := by decide +kernel
theorem dX11_drawn_18 : decode cX11_drawn 18 = .ok (.bipush 60, 2) := by decide +kernel
theorem dX11_drawn_20 : decode cX11_drawn 20 = .ok (.if_icmp .gt 22, 3) := by decide +kernel
theorem dX11_drawn_23 : decode cX11_drawn 23 = .ok (.iload_n 2, 1) := by decide +kernel
theorem dX11_drawn_24 : decode cX11_drawn 24 = .ok (.iconst 1, 1) := by decide +kernel
theorem dX11_drawn_25 : decode cX11_drawn 25 = .ok (.if_icmp .lt 17, 3) := by decide +kernel
theorem dX11_drawn_28 : decode cX11_drawn 28 = .ok (.iload_n 2, 1) := by decide +kernel
theorem dX11_drawn_29 : decode cX11_drawn 29 = .ok (.ldc_w 306, 3) := by decide +kernel
theorem dX11_drawn_32 : decode cX11_drawn 32 = .ok (.if_icmp .gt 10, 3) := by decide +kernel
theorem dX11_drawn_35 : decode cX11_drawn 35 = .ok (.iload_n 3, 1) := by decide +kernel
theorem dX11_drawn_36 : decode cX11_drawn 36 = .ok (.invokestatic 204, 3) := by decide +kernel
theorem dX11_drawn_39 : decode cX11_drawn 39 = .ok (.ifCond .ne 6, 3) := by decide +kernel
theorem dX11_drawn_42 : decode cX11_drawn 42 = .ok (.ldc 88, 2) := by decide +kernel
theorem dX11_drawn_44 : decode cX11_drawn 44 = .ok (.ireturn, 1) := by decide +kernel
theorem dX11_drawn_45 : decode cX11_drawn 45 = .ok (.aload_n 0, 1) := by decide +kernel
theorem dX11_drawn_46 : decode cX11_drawn 46 = .ok (.getfield 54, 3) := by decide +kernel
theorem dX11_drawn_49 : decode cX11_drawn 49 = .ok (.aload_n 0, 1) := by decide +kernel
theorem dX11_drawn_50 : decode cX11_drawn 50 = .ok (.getfield 50, 3) := by decide +kernel
theorem dX11_drawn_53 : decode cX11_drawn 53 = .ok (.invokevirtual 146, 3) := by decide +kernel
theorem dX11_drawn_56 : decode cX11_drawn 56 = .ok (.iconst 0, 1) := by decide +kernel
theorem dX11_drawn_57 : decode cX11_drawn 57 = .ok (.istore 4, 2) := by decide +kernel
theorem dX11_drawn_59 : decode cX11_drawn 59 = .ok (.iload_n 2, 1) := by decide +kernel
theorem dX11_drawn_60 : decode cX11_drawn 60 = .ok (.i2l, 1) := by decide +kernel
theorem dX11_drawn_61 : decode cX11_drawn 61 = .ok (.lstore 5, 2) := by decide +kernel
theorem dX11_drawn_63 : decode cX11_drawn 63 = .ok (.iconst 0, 1) := by decide +kernel
theorem dX11_drawn_64 : decode cX11_drawn 64 = .ok (.istore 7, 2) := by decide +kernel
theorem dX11_drawn_66 : decode cX11_drawn 66 = .ok (.iload 7, 2) := by decide +kernel
theorem dX11_drawn_68 : decode cX11_drawn 68 = .ok (.iload_n 1, 1) := by decide +kernel
theorem dX11_drawn_69 : decode cX11_drawn 69 = .ok (.if_icmp .ge 63, 3) := by decide +kernel
theorem dX11_drawn_72 : decode cX11_drawn 72 = .ok (.lload 5, 2) := by decide +kernel
theorem dX11_drawn_74 : decode cX11_drawn 74 = .ok (.ldc2_w 307, 3) := by decide +kernel
theorem dX11_drawn_77 : decode cX11_drawn 77 = .ok (.lmul, 1) := by decide +kernel
theorem dX11_drawn_78 : decode cX11_drawn 78 = .ok (.ldc2_w 309, 3) := by decide +kernel
theorem dX11_drawn_81 : decode cX11_drawn 81 = .ok (.lrem, 1) := by decide +kernel
theorem dX11_drawn_82 : decode cX11_drawn 82 = .ok (.lstore 5, 2) := by decide +kernel
theorem dX11_drawn_84 : decode cX11_drawn 84 = .ok (.aload_n 0, 1) := by decide +kernel
theorem dX11_drawn_85 : decode cX11_drawn 85 = .ok (.getfield 69, 3) := by decide +kernel
theorem dX11_drawn_88 : decode cX11_drawn 88 = .ok (.aload_n 0, 1) := by decide +kernel
theorem dX11_drawn_89 : decode cX11_drawn 89 = .ok (.getfield 54, 3) := by decide +kernel
theorem dX11_drawn_92 : decode cX11_drawn 92 = .ok (.lload 5, 2) := by decide +kernel
theorem dX11_drawn_94 : decode cX11_drawn 94 = .ok (.ldc2_w 311, 3) := by decide +kernel
theorem dX11_drawn_97 : decode cX11_drawn 97 = .ok (.lrem, 1) := by decide +kernel
theorem dX11_drawn_98 : decode cX11_drawn 98 = .ok (.l2i, 1) := by decide +kernel
theorem dX11_drawn_99 : decode cX11_drawn 99 = .ok (.invokevirtual 177, 3) := by decide +kernel
theorem dX11_drawn_102 : decode cX11_drawn 102 = .ok (.ifCond .eq 17, 3) := by decide +kernel
theorem dX11_drawn_105 : decode cX11_drawn 105 = .ok (.aload_n 0, 1) := by decide +kernel
theorem dX11_drawn_106 : decode cX11_drawn 106 = .ok (.getfield 54, 3) := by decide +kernel
theorem dX11_drawn_109 : decode cX11_drawn 109 = .ok (.aload_n 0, 1) := by decide +kernel
theorem dX11_drawn_110 : decode cX11_drawn 110 = .ok (.getfield 69, 3) := by decide +kernel
theorem dX11_drawn_113 : decode cX11_drawn 113 = .ok (.invokevirtual 184, 3) := by decide +kernel
theorem dX11_drawn_116 : decode cX11_drawn 116 = .ok (.iinc 4 1, 3) := by decide +kernel
theorem dX11_drawn_119 : decode cX11_drawn 119 = .ok (.aload_n 0, 1) := by decide +kernel
theorem dX11_drawn_120 : decode cX11_drawn 120 = .ok (.getfield 54, 3) := by decide +kernel
theorem dX11_drawn_123 : decode cX11_drawn 123 = .ok (.invokevirtual 195, 3) := by decide +kernel
theorem dX11_drawn_126 : decode cX11_drawn 126 = .ok (.iinc 7 1, 3) := by decide +kernel
theorem dX11_drawn_129 : decode cX11_drawn 129 = .ok (.goto (-63), 3) := by decide +kernel
theorem dX11_drawn_132 : decode cX11_drawn 132 = .ok (.iload_n 3, 1) := by decide +kernel
theorem dX11_drawn_133 : decode cX11_drawn 133 = .ok (.ifCond .ne 13, 3) := by decide +kernel
theorem dX11_drawn_136 : decode cX11_drawn 136 = .ok (.aload_n 0, 1) := by decide +kernel
theorem dX11_drawn_137 : decode cX11_drawn 137 = .ok (.getfield 54, 3) := by decide +kernel
theorem dX11_drawn_140 : decode cX11_drawn 140 = .ok (.invokevirtual 188, 3) := by decide +kernel
theorem dX11_drawn_143 : decode cX11_drawn 143 = .ok (.goto 5, 3) := by decide +kernel
theorem dX11_drawn_146 : decode cX11_drawn 146 = .ok (.iload 4, 2) := by decide +kernel
theorem dX11_drawn_148 : decode cX11_drawn 148 = .ok (.ireturn, 1) := by decide +kernel
theorem dX11_image_0 : decode cX11_image 0 = .ok (.iload_n 1, 1) := by decide +kernel
theorem dX11_image_1 : decode cX11_image 1 = .ok (.ifCond .lt 8, 3) := by decide +kernel
theorem dX11_image_4 : decode cX11_image 4 = .ok (.iload_n 1, 1) := by decide +kernel
theorem dX11_image_5 : decode cX11_image 5 = .ok (.iconst 2, 1) := by decide +kernel
theorem dX11_image_6 : decode cX11_image 6 = .ok (.if_icmp .lt 6, 3) := by decide +kernel
theorem dX11_image_9 : decode cX11_image 9 = .ok (.ldc 88, 2) := by decide +kernel
theorem dX11_image_11 : decode cX11_image 11 = .ok (.ireturn, 1) := by decide +kernel
theorem dX11_image_12 : decode cX11_image 12 = .ok (.aload_n 0, 1) := by decide +kernel
theorem dX11_image_13 : decode cX11_image 13 = .ok (.getfield 50, 3) := by decide +kernel
theorem dX11_image_16 : decode cX11_image 16 = .ok (.getfield 170, 3) := by decide +kernel
theorem dX11_image_19 : decode cX11_image 19 = .ok (.ifCond .ne 6, 3) := by decide +kernel
theorem dX11_image_22 : decode cX11_image 22 = .ok (.ldc 162, 2) := by decide +kernel
theorem dX11_image_24 : decode cX11_image 24 = .ok (.ireturn, 1) := by decide +kernel
theorem dX11_image_25 : decode cX11_image 25 = .ok (.aload_n 0, 1) := by decide +kernel
theorem dX11_image_26 : decode cX11_image 26 = .ok (.getfield 57, 3) := by decide +kernel
theorem dX11_image_29 : decode cX11_image 29 = .ok (.iload_n 1, 1) := by decide +kernel
theorem dX11_image_30 : decode cX11_image 30 = .ok (.aaload, 1) := by decide +kernel
theorem dX11_image_31 : decode cX11_image 31 = .ok (.aload_n 0, 1) := by decide +kernel
theorem dX11_image_32 : decode cX11_image 32 = .ok (.getfield 50, 3) := by decide +kernel
theorem dX11_image_35 : decode cX11_image 35 = .ok (.invokevirtual 146, 3) := by decide +kernel
theorem dX11_image_38 : decode cX11_image 38 = .ok (.iconst 1, 1) := by decide +kernel
theorem dX11_image_39 : decode cX11_image 39 = .ok (.ireturn, 1) := by decide +kernel
theorem dX11_restore_0 : decode cX11_restore 0 = .ok (.iload_n 1, 1) := by decide +kernel
theorem dX11_restore_1 : decode cX11_restore 1 = .ok (.ifCond .lt 8, 3) := by decide +kernel
theorem dX11_restore_4 : decode cX11_restore 4 = .ok (.iload_n 1, 1) := by decide +kernel
theorem dX11_restore_5 : decode cX11_restore 5 = .ok (.iconst 2, 1) := by decide +kernel
theorem dX11_restore_6 : decode cX11_restore 6 = .ok (.if_icmp .lt 6, 3) := by decide +kernel
theorem dX11_restore_9 : decode cX11_restore 9 = .ok (.ldc 88, 2) := by decide +kernel
theorem dX11_restore_11 : decode cX11_restore 11 = .ok (.ireturn, 1) := by decide +kernel
theorem dX11_restore_12 : decode cX11_restore 12 = .ok (.aload_n 0, 1) := by decide +kernel
theorem dX11_restore_13 : decode cX11_restore 13 = .ok (.getfield 57, 3) := by decide +kernel
theorem dX11_restore_16 : decode cX11_restore 16 = .ok (.iload_n 1, 1) := by decide +kernel
theorem dX11_restore_17 : decode cX11_restore 17 = .ok (.aaload, 1) := by decide +kernel
theorem dX11_restore_18 : decode cX11_restore 18 = .ok (.getfield 170, 3) := by decide +kernel
theorem dX11_restore_21 : decode cX11_restore 21 = .ok (.ifCond .ne 6, 3) := by decide +kernel
theorem dX11_restore_24 : decode cX11_restore 24 = .ok (.ldc 162, 2) := by decide +kernel
theorem dX11_restore_26 : decode cX11_restore 26 = .ok (.ireturn, 1) := by decide +kernel
theorem dX11_restore_27 : decode cX11_restore 27 = .ok (.aload_n 0, 1) := by decide +kernel
theorem dX11_restore_28 : decode cX11_restore 28 = .ok (.getfield 50, 3) := by decide +kernel
theorem dX11_restore_31 : decode cX11_restore 31 = .ok (.aload_n 0, 1) := by decide +kernel
theorem dX11_restore_32 : decode cX11_restore 32 = .ok (.getfield 57, 3) := by decide +kernel
theorem dX11_restore_35 : decode cX11_restore 35 = .ok (.iload_n 1, 1) := by decide +kernel
theorem dX11_restore_36 : decode cX11_restore 36 = .ok (.aaload, 1) := by decide +kernel
theorem dX11_restore_37 : decode cX11_restore 37 = .ok (.invokevirtual 146, 3) := by decide +kernel
theorem dX11_restore_40 : decode cX11_restore 40 = .ok (.aload_n 0, 1) := by decide +kernel
theorem dX11_restore_41 : decode cX11_restore 41 = .ok (.invokevirtual 150, 3) := by decide +kernel
theorem dX11_restore_44 : decode cX11_restore 44 = .ok (.iconst 1, 1) := by decide +kernel
theorem dX11_restore_45 : decode cX11_restore 45 = .ok (.ireturn, 1) := by decide +kernel
theorem dX11_kind_0 : decode cX11_kind 0 = .ok (.aload_n 0, 1) := by decide +kernel
theorem dX11_kind_1 : decode cX11_kind 1 = .ok (.getfield 50, 3) := by decide +kernel
theorem dX11_kind_4 : decode cX11_kind 4 = .ok (.iload_n 1, 1) := by decide +kernel
theorem dX11_kind_5 : decode cX11_kind 5 = .ok (.invokevirtual 214, 3) := by decide +kernel
theorem dX11_kind_8 : decode cX11_kind 8 = .ok (.ifCond .eq 15, 3) := by decide +kernel
theorem dX11_kind_11 : decode cX11_kind 11 = .ok (.aload_n 0, 1) := by decide +kernel
theorem dX11_kind_12 : decode cX11_kind 12 = .ok (.getfield 50, 3) := by decide +kernel
theorem dX11_kind_15 : decode cX11_kind 15 = .ok (.getfield 313, 3) := by decide +kernel
theorem dX11_kind_18 : decode cX11_kind 18 = .ok (.iload_n 1, 1) := by decide +kernel
theorem dX11_kind_19 : decode cX11_kind 19 = .ok (.iaload, 1) := by decide +kernel
theorem dX11_kind_20 : decode cX11_kind 20 = .ok (.goto 5, 3) := by decide +kernel
theorem dX11_kind_23 : decode cX11_kind 23 = .ok (.ldc 88, 2) := by decide +kernel
theorem dX11_kind_25 : decode cX11_kind 25 = .ok (.ireturn, 1) := by decide +kernel
theorem dX11_as_0 : decode cX11_as 0 = .ok (.aload_n 0, 1) := by decide +kernel
theorem dX11_as_1 : decode cX11_as 1 = .ok (.getfield 50, 3) := by decide +kernel
theorem dX11_as_4 : decode cX11_as 4 = .ok (.iload_n 1, 1) := by decide +kernel
theorem dX11_as_5 : decode cX11_as 5 = .ok (.invokevirtual 214, 3) := by decide +kernel
theorem dX11_as_8 : decode cX11_as 8 = .ok (.ifCond .eq 13, 3) := by decide +kernel
theorem dX11_as_11 : decode cX11_as 11 = .ok (.iload_n 2, 1) := by decide +kernel
theorem dX11_as_12 : decode cX11_as 12 = .ok (.ifCond .lt 9, 3) := by decide +kernel
theorem dX11_as_15 : decode cX11_as 15 = .ok (.iload_n 2, 1) := by decide +kernel
theorem dX11_as_16 : decode cX11_as 16 = .ok (.bipush 6, 2) := by decide +kernel
theorem dX11_as_18 : decode cX11_as 18 = .ok (.if_icmp .lt 6, 3) := by decide +kernel
theorem dX11_as_21 : decode cX11_as 21 = .ok (.ldc 88, 2) := by decide +kernel
theorem dX11_as_23 : decode cX11_as 23 = .ok (.ireturn, 1) := by decide +kernel
theorem dX11_as_24 : decode cX11_as 24 = .ok (.aload_n 0, 1) := by decide +kernel
theorem dX11_as_25 : decode cX11_as 25 = .ok (.getfield 25, 3) := by decide +kernel
theorem dX11_as_28 : decode cX11_as 28 = .ok (.aload_n 0, 1) := by decide +kernel
theorem dX11_as_29 : decode cX11_as 29 = .ok (.getfield 50, 3) := by decide +kernel
theorem dX11_as_32 : decode cX11_as 32 = .ok (.getfield 313, 3) := by decide +kernel
theorem dX11_as_35 : decode cX11_as 35 = .ok (.iload_n 1, 1) := by decide +kernel
theorem dX11_as_36 : decode cX11_as 36 = .ok (.iaload, 1) := by decide +kernel
theorem dX11_as_37 : decode cX11_as 37 = .ok (.aaload, 1) := by decide +kernel
theorem dX11_as_38 : decode cX11_as 38 = .ok (.iload_n 2, 1) := by decide +kernel
theorem dX11_as_39 : decode cX11_as 39 = .ok (.invokestatic 316, 3) := by decide +kernel
theorem dX11_as_42 : decode cX11_as 42 = .ok (.ifCond .eq 11, 3) := by decide +kernel
theorem dX11_as_45 : decode cX11_as 45 = .ok (.aload_n 0, 1) := by decide +kernel
theorem dX11_as_46 : decode cX11_as 46 = .ok (.iload_n 1, 1) := by decide +kernel
theorem dX11_as_47 : decode cX11_as 47 = .ok (.invokevirtual 97, 3) := by decide +kernel
theorem dX11_as_50 : decode cX11_as 50 = .ok (.goto 8, 3) := by decide +kernel
theorem dX11_as_53 : decode cX11_as 53 = .ok (.aload_n 0, 1) := by decide +kernel
theorem dX11_as_54 : decode cX11_as 54 = .ok (.iconst 3, 1) := by decide +kernel
theorem dX11_as_55 : decode cX11_as 55 = .ok (.invokevirtual 89, 3) := by decide +kernel
theorem dX11_as_58 : decode cX11_as 58 = .ok (.ireturn, 1) := by decide +kernel
theorem dX11_ask_0 : decode cX11_ask 0 = .ok (.aload_n 0, 1) := by decide +kernel
theorem dX11_ask_1 : decode cX11_ask 1 = .ok (.getfield 50, 3) := by decide +kernel
theorem dX11_ask_4 : decode cX11_ask 4 = .ok (.iload_n 1, 1) := by decide +kernel
theorem dX11_ask_5 : decode cX11_ask 5 = .ok (.invokevirtual 214, 3) := by decide +kernel
theorem dX11_ask_8 : decode cX11_ask 8 = .ok (.ifCond .eq 10, 3) := by decide +kernel
theorem dX11_ask_11 : decode cX11_ask 11 = .ok (.iload_n 2, 1) := by decide +kernel
theorem dX11_ask_12 : decode cX11_ask 12 = .ok (.invokestatic 204, 3) := by decide +kernel
theorem dX11_ask_15 : decode cX11_ask 15 = .ok (.ifCond .ne 6, 3) := by decide +kernel
theorem dX11_ask_18 : decode cX11_ask 18 = .ok (.ldc 88, 2) := by decide +kernel
theorem dX11_ask_20 : decode cX11_ask 20 = .ok (.ireturn, 1) := by decide +kernel
theorem dX11_ask_21 : decode cX11_ask 21 = .ok (.aload_n 0, 1) := by decide +kernel
theorem dX11_ask_22 : decode cX11_ask 22 = .ok (.getfield 76, 3) := by decide +kernel
theorem dX11_ask_25 : decode cX11_ask 25 = .ok (.iload_n 1, 1) := by decide +kernel
theorem dX11_ask_26 : decode cX11_ask 26 = .ok (.putfield 320, 3) := by decide +kernel
theorem dX11_ask_29 : decode cX11_ask 29 = .ok (.aload_n 0, 1) := by decide +kernel
theorem dX11_ask_30 : decode cX11_ask 30 = .ok (.getfield 76, 3) := by decide +kernel
theorem dX11_ask_33 : decode cX11_ask 33 = .ok (.aload_n 0, 1) := by decide +kernel
theorem dX11_ask_34 : decode cX11_ask 34 = .ok (.getfield 50, 3) := by decide +kernel
theorem dX11_ask_37 : decode cX11_ask 37 = .ok (.getfield 220, 3) := by decide +kernel
theorem dX11_ask_40 : decode cX11_ask 40 = .ok (.iload_n 1, 1) := by decide +kernel
theorem dX11_ask_41 : decode cX11_ask 41 = .ok (.iaload, 1) := by decide +kernel
theorem dX11_ask_42 : decode cX11_ask 42 = .ok (.putfield 323, 3) := by decide +kernel
theorem dX11_ask_45 : decode cX11_ask 45 = .ok (.aload_n 0, 1) := by decide +kernel
theorem dX11_ask_46 : decode cX11_ask 46 = .ok (.getfield 76, 3) := by decide +kernel
theorem dX11_ask_49 : decode cX11_ask 49 = .ok (.aload_n 0, 1) := by decide +kernel
theorem dX11_ask_50 : decode cX11_ask 50 = .ok (.getfield 50, 3) := by decide +kernel
theorem dX11_ask_53 : decode cX11_ask 53 = .ok (.iload_n 1, 1) := by decide +kernel
theorem dX11_ask_54 : decode cX11_ask 54 = .ok (.invokevirtual 229, 3) := by decide +kernel
theorem dX11_ask_57 : decode cX11_ask 57 = .ok (.invokestatic 265, 3) := by decide +kernel
theorem dX11_ask_60 : decode cX11_ask 60 = .ok (.putfield 326, 3) := by decide +kernel
theorem dX11_ask_63 : decode cX11_ask 63 = .ok (.aload_n 0, 1) := by decide +kernel
theorem dX11_ask_64 : decode cX11_ask 64 = .ok (.getfield 76, 3) := by decide +kernel
theorem dX11_ask_67 : decode cX11_ask 67 = .ok (.iconst 0, 1) := by decide +kernel
theorem dX11_ask_68 : decode cX11_ask 68 = .ok (.putfield 328, 3) := by decide +kernel
theorem dX11_ask_71 : decode cX11_ask 71 = .ok (.aload_n 0, 1) := by decide +kernel
theorem dX11_ask_72 : decode cX11_ask 72 = .ok (.getfield 25, 3) := by decide +kernel
theorem dX11_ask_75 : decode cX11_ask 75 = .ok (.aload_n 0, 1) := by decide +kernel
theorem dX11_ask_76 : decode cX11_ask 76 = .ok (.getfield 50, 3) := by decide +kernel
theorem dX11_ask_79 : decode cX11_ask 79 = .ok (.getfield 313, 3) := by decide +kernel
theorem dX11_ask_82 : decode cX11_ask 82 = .ok (.iload_n 1, 1) := by decide +kernel
theorem dX11_ask_83 : decode cX11_ask 83 = .ok (.iaload, 1) := by decide +kernel
theorem dX11_ask_84 : decode cX11_ask 84 = .ok (.aaload, 1) := by decide +kernel
theorem dX11_ask_85 : decode cX11_ask 85 = .ok (.astore_n 3, 1) := by decide +kernel
theorem dX11_ask_86 : decode cX11_ask 86 = .ok (.iload_n 2, 1) := by decide +kernel
theorem dX11_ask_87 : decode cX11_ask 87 = .ok (.ifCond .ne 14, 3) := by decide +kernel
theorem dX11_ask_90 : decode cX11_ask 90 = .ok (.aload_n 3, 1) := by decide +kernel
theorem dX11_ask_91 : decode cX11_ask 91 = .ok (.aload_n 0, 1) := by decide +kernel
theorem dX11_ask_92 : decode cX11_ask 92 = .ok (.getfield 76, 3) := by decide +kernel
theorem dX11_ask_95 : decode cX11_ask 95 = .ok (.invokevirtual 331, 3) := by decide +kernel
theorem dX11_ask_98 : decode cX11_ask 98 = .ok (.goto 11, 3) := by decide +kernel
theorem dX11_ask_101 : decode cX11_ask 101 = .ok (.aload_n 3, 1) := by decide +kernel
theorem dX11_ask_102 : decode cX11_ask 102 = .ok (.aload_n 0, 1) := by decide +kernel
theorem dX11_ask_103 : decode cX11_ask 103 = .ok (.getfield 76, 3) := by decide +kernel
theorem dX11_ask_106 : decode cX11_ask 106 = .ok (.invokevirtual 334, 3) := by decide +kernel
theorem dX11_ask_109 : decode cX11_ask 109 = .ok (.ireturn, 1) := by decide +kernel
theorem dX11_trace_0 : decode cX11_trace 0 = .ok (.iload_n 1, 1) := by decide +kernel
theorem dX11_trace_1 : decode cX11_trace 1 = .ok (.ifCond .lt 26, 3) := by decide +kernel
theorem dX11_trace_4 : decode cX11_trace 4 = .ok (.iload_n 1, 1) := by decide +kernel
theorem dX11_trace_5 : decode cX11_trace 5 = .ok (.aload_n 0, 1) := by decide +kernel
theorem dX11_trace_6 : decode cX11_trace 6 = .ok (.getfield 76, 3) := by decide +kernel
theorem dX11_trace_9 : decode cX11_trace 9 = .ok (.getfield 328, 3) := by decide +kernel
theorem dX11_trace_12 : decode cX11_trace 12 = .ok (.if_icmp .ge 15, 3) := by decide +kernel
theorem dX11_trace_15 : decode cX11_trace 15 = .ok (.aload_n 0, 1) := by decide +kernel
theorem dX11_trace_16 : decode cX11_trace 16 = .ok (.getfield 76, 3) := by decide +kernel
theorem dX11_trace_19 : decode cX11_trace 19 = .ok (.getfield 337, 3) := by decide +kernel
theorem dX11_trace_22 : decode cX11_trace 22 = .ok (.iload_n 1, 1) := by decide +kernel
theorem dX11_trace_23 : decode cX11_trace 23 = .ok (.iaload, 1) := by decide +kernel
theorem dX11_trace_24 : decode cX11_trace 24 = .ok (.goto 5, 3) := by decide +kernel
theorem dX11_trace_27 : decode cX11_trace 27 = .ok (.ldc 247, 2) := by decide +kernel
theorem dX11_trace_29 : decode cX11_trace 29 = .ok (.ireturn, 1) := by decide +kernel
theorem dX11_count_0 : decode cX11_count 0 = .ok (.iload_n 1, 1) := by decide +kernel
theorem dX11_count_1 : decode cX11_count 1 = .ok (.tableswitch 111 0 7 #[47, 55, 63, 71, 79, 90, 98, 103], 47) := by decide +kernel
theorem dX11_count_48 : decode cX11_count 48 = .ok (.aload_n 0, 1) := by decide +kernel
theorem dX11_count_49 : decode cX11_count 49 = .ok (.getfield 10, 3) := by decide +kernel
theorem dX11_count_52 : decode cX11_count 52 = .ok (.invokevirtual 340, 3) := by decide +kernel
theorem dX11_count_55 : decode cX11_count 55 = .ok (.ireturn, 1) := by decide +kernel
theorem dX11_count_56 : decode cX11_count 56 = .ok (.aload_n 0, 1) := by decide +kernel
theorem dX11_count_57 : decode cX11_count 57 = .ok (.getfield 50, 3) := by decide +kernel
theorem dX11_count_60 : decode cX11_count 60 = .ok (.getfield 153, 3) := by decide +kernel
theorem dX11_count_63 : decode cX11_count 63 = .ok (.ireturn, 1) := by decide +kernel
theorem dX11_count_64 : decode cX11_count 64 = .ok (.aload_n 0, 1) := by decide +kernel
theorem dX11_count_65 : decode cX11_count 65 = .ok (.getfield 50, 3) := by decide +kernel
theorem dX11_count_68 : decode cX11_count 68 = .ok (.getfield 273, 3) := by decide +kernel
theorem dX11_count_71 : decode cX11_count 71 = .ok (.ireturn, 1) := by decide +kernel
theorem dX11_count_72 : decode cX11_count 72 = .ok (.aload_n 0, 1) := by decide +kernel
theorem dX11_count_73 : decode cX11_count 73 = .ok (.getfield 50, 3) := by decide +kernel
theorem dX11_count_76 : decode cX11_count 76 = .ok (.getfield 192, 3) := by decide +kernel
theorem dX11_count_79 : decode cX11_count 79 = .ok (.ireturn, 1) := by decide +kernel
theorem dX11_count_80 : decode cX11_count 80 = .ok (.aload_n 0, 1) := by decide +kernel
theorem dX11_count_81 : decode cX11_count 81 = .ok (.getfield 50, 3) := by decide +kernel
theorem dX11_count_84 : decode cX11_count 84 = .ok (.invokevirtual 188, 3) := by decide +kernel
theorem dX11_count_87 : decode cX11_count 87 = .ok (.invokestatic 265, 3) := by decide +kernel
theorem dX11_count_90 : decode cX11_count 90 = .ok (.ireturn, 1) := by decide +kernel
theorem dX11_count_91 : decode cX11_count 91 = .ok (.aload_n 0, 1) := by decide +kernel
theorem dX11_count_92 : decode cX11_count 92 = .ok (.getfield 50, 3) := by decide +kernel
theorem dX11_count_95 : decode cX11_count 95 = .ok (.getfield 343, 3) := by decide +kernel
theorem dX11_count_98 : decode cX11_count 98 = .ok (.ireturn, 1) := by decide +kernel
theorem dX11_count_99 : decode cX11_count 99 = .ok (.aload_n 0, 1) := by decide +kernel
theorem dX11_count_100 : decode cX11_count 100 = .ok (.getfield 159, 3) := by decide +kernel
theorem dX11_count_103 : decode cX11_count 103 = .ok (.ireturn, 1) := by decide +kernel
theorem dX11_count_104 : decode cX11_count 104 = .ok (.aload_n 0, 1) := by decide +kernel
theorem dX11_count_105 : decode cX11_count 105 = .ok (.getfield 19, 3) := by decide +kernel
theorem dX11_count_108 : decode cX11_count 108 = .ok (.getfield 129, 3) := by decide +kernel
theorem dX11_count_111 : decode cX11_count 111 = .ok (.ireturn, 1) := by decide +kernel
theorem dX11_count_112 : decode cX11_count 112 = .ok (.ldc 88, 2) := by decide +kernel
theorem dX11_count_114 : decode cX11_count 114 = .ok (.ireturn, 1) := by decide +kernel
theorem dX11_status_0 : decode cX11_status 0 = .ok (.aload_n 0, 1) := by decide +kernel
theorem dX11_status_1 : decode cX11_status 1 = .ok (.getfield 346, 3) := by decide +kernel
theorem dX11_status_4 : decode cX11_status 4 = .ok (.ireturn, 1) := by decide +kernel
theorem dX11_found_0 : decode cX11_found 0 = .ok (.aload_n 0, 1) := by decide +kernel
theorem dX11_found_1 : decode cX11_found 1 = .ok (.iload_n 1, 1) := by decide +kernel
theorem dX11_found_2 : decode cX11_found 2 = .ok (.putfield 346, 3) := by decide +kernel
theorem dX11_found_5 : decode cX11_found 5 = .ok (.ldc_w 349, 3) := by decide +kernel
theorem dX11_found_8 : decode cX11_found 8 = .ok (.iload_n 1, 1) := by decide +kernel
theorem dX11_found_9 : decode cX11_found 9 = .ok (.isub, 1) := by decide +kernel
theorem dX11_found_10 : decode cX11_found 10 = .ok (.ireturn, 1) := by decide +kernel
theorem dX11_unfound_0 : decode cX11_unfound 0 = .ok (.aload_n 0, 1) := by decide +kernel
theorem dX11_unfound_1 : decode cX11_unfound 1 = .ok (.iconst 0, 1) := by decide +kernel
theorem dX11_unfound_2 : decode cX11_unfound 2 = .ok (.putfield 346, 3) := by decide +kernel
theorem dX11_unfound_5 : decode cX11_unfound 5 = .ok (.iload_n 1, 1) := by decide +kernel
theorem dX11_unfound_6 : decode cX11_unfound 6 = .ok (.ireturn, 1) := by decide +kernel
theorem dX11_keepAct_0 : decode cX11_keepAct 0 = .ok (.aload_n 0, 1) := by decide +kernel
theorem dX11_keepAct_1 : decode cX11_keepAct 1 = .ok (.getfield 50, 3) := by decide +kernel
theorem dX11_keepAct_4 : decode cX11_keepAct 4 = .ok (.aload_n 0, 1) := by decide +kernel
theorem dX11_keepAct_5 : decode cX11_keepAct 5 = .ok (.getfield 63, 3) := by decide +kernel
theorem dX11_keepAct_8 : decode cX11_keepAct 8 = .ok (.aload_n 0, 1) := by decide +kernel
theorem dX11_keepAct_9 : decode cX11_keepAct 9 = .ok (.getfield 163, 3) := by decide +kernel
theorem dX11_keepAct_12 : decode cX11_keepAct 12 = .ok (.aaload, 1) := by decide +kernel
theorem dX11_keepAct_13 : decode cX11_keepAct 13 = .ok (.invokevirtual 350, 3) := by decide +kernel
theorem dX11_keepAct_16 : decode cX11_keepAct 16 = .ok (.aload_n 0, 1) := by decide +kernel
theorem dX11_keepAct_17 : decode cX11_keepAct 17 = .ok (.aload_n 0, 1) := by decide +kernel
theorem dX11_keepAct_18 : decode cX11_keepAct 18 = .ok (.getfield 163, 3) := by decide +kernel
theorem dX11_keepAct_21 : decode cX11_keepAct 21 = .ok (.iconst 1, 1) := by decide +kernel
theorem dX11_keepAct_22 : decode cX11_keepAct 22 = .ok (.iadd, 1) := by decide +kernel
theorem dX11_keepAct_23 : decode cX11_keepAct 23 = .ok (.bipush 24, 2) := by decide +kernel
theorem dX11_keepAct_25 : decode cX11_keepAct 25 = .ok (.irem, 1) := by decide +kernel
theorem dX11_keepAct_26 : decode cX11_keepAct 26 = .ok (.putfield 163, 3) := by decide +kernel
theorem dX11_keepAct_29 : decode cX11_keepAct 29 = .ok (.aload_n 0, 1) := by decide +kernel
theorem dX11_keepAct_30 : decode cX11_keepAct 30 = .ok (.aload_n 0, 1) := by decide +kernel
theorem dX11_keepAct_31 : decode cX11_keepAct 31 = .ok (.getfield 159, 3) := by decide +kernel
theorem dX11_keepAct_34 : decode cX11_keepAct 34 = .ok (.iconst 1, 1) := by decide +kernel
theorem dX11_keepAct_35 : decode cX11_keepAct 35 = .ok (.iadd, 1) := by decide +kernel
theorem dX11_keepAct_36 : decode cX11_keepAct 36 = .ok (.bipush 24, 2) := by decide +kernel
theorem dX11_keepAct_38 : decode cX11_keepAct 38 = .ok (.invokestatic 353, 3) := by decide +kernel
theorem dX11_keepAct_41 : decode cX11_keepAct 41 = .ok (.putfield 159, 3) := by decide +kernel
theorem dX11_keepAct_44 : decode cX11_keepAct 44 = .ok (.return_, 1) := by decide +kernel
theorem dX11_forgetActs_0 : decode cX11_forgetActs 0 = .ok (.aload_n 0, 1) := by decide +kernel
theorem dX11_forgetActs_1 : decode cX11_forgetActs 1 = .ok (.iconst 0, 1) := by decide +kernel
theorem dX11_forgetActs_2 : decode cX11_forgetActs 2 = .ok (.putfield 159, 3) := by decide +kernel
theorem dX11_forgetActs_5 : decode cX11_forgetActs 5 = .ok (.return_, 1) := by decide +kernel
theorem dX11_newWays_0 : decode cX11_newWays 0 = .ok (.aload_n 0, 1) := by decide +kernel
theorem dX11_newWays_1 : decode cX11_newWays 1 = .ok (.getfield 69, 3) := by decide +kernel
theorem dX11_newWays_4 : decode cX11_newWays 4 = .ok (.aload_n 0, 1) := by decide +kernel
theorem dX11_newWays_5 : decode cX11_newWays 5 = .ok (.getfield 50, 3) := by decide +kernel
theorem dX11_newWays_8 : decode cX11_newWays 8 = .ok (.iload_n 1, 1) := by decide +kernel
theorem dX11_newWays_9 : decode cX11_newWays 9 = .ok (.invokevirtual 177, 3) := by decide +kernel
theorem dX11_newWays_12 : decode cX11_newWays 12 = .ok (.ifCond .ne 6, 3) := by decide +kernel
theorem dX11_newWays_15 : decode cX11_newWays 15 = .ok (.ldc 247, 2) := by decide +kernel
theorem dX11_newWays_17 : decode cX11_newWays 17 = .ok (.ireturn, 1) := by decide +kernel
theorem dX11_newWays_18 : decode cX11_newWays 18 = .ok (.aload_n 0, 1) := by decide +kernel
theorem dX11_newWays_19 : decode cX11_newWays 19 = .ok (.getfield 50, 3) := by decide +kernel
theorem dX11_newWays_22 : decode cX11_newWays 22 = .ok (.aload_n 0, 1) := by decide +kernel
theorem dX11_newWays_23 : decode cX11_newWays 23 = .ok (.getfield 69, 3) := by decide +kernel
theorem dX11_newWays_26 : decode cX11_newWays 26 = .ok (.invokevirtual 282, 3) := by decide +kernel
theorem dX11_newWays_29 : decode cX11_newWays 29 = .ok (.aload_n 0, 1) := by decide +kernel
theorem dX11_newWays_30 : decode cX11_newWays 30 = .ok (.getfield 50, 3) := by decide +kernel
theorem dX11_newWays_33 : decode cX11_newWays 33 = .ok (.invokevirtual 188, 3) := by decide +kernel
theorem dX11_newWays_36 : decode cX11_newWays 36 = .ok (.iconst (-1), 1) := by decide +kernel
theorem dX11_newWays_37 : decode cX11_newWays 37 = .ok (.ixor, 1) := by decide +kernel
theorem dX11_newWays_38 : decode cX11_newWays 38 = .ok (.iand, 1) := by decide +kernel
theorem dX11_newWays_39 : decode cX11_newWays 39 = .ok (.invokestatic 265, 3) := by decide +kernel
theorem dX11_newWays_42 : decode cX11_newWays 42 = .ok (.ireturn, 1) := by decide +kernel
theorem dX11_fittingKinds_0 : decode cX11_fittingKinds 0 = .ok (.iconst 0, 1) := by decide +kernel
theorem dX11_fittingKinds_1 : decode cX11_fittingKinds 1 = .ok (.istore 5, 2) := by decide +kernel
theorem dX11_fittingKinds_3 : decode cX11_fittingKinds 3 = .ok (.iconst 1, 1) := by decide +kernel
theorem dX11_fittingKinds_4 : decode cX11_fittingKinds 4 = .ok (.istore 6, 2) := by decide +kernel
theorem dX11_fittingKinds_6 : decode cX11_fittingKinds 6 = .ok (.iload 6, 2) := by decide +kernel
theorem dX11_fittingKinds_8 : decode cX11_fittingKinds 8 = .ok (.bipush 6, 2) := by decide +kernel
theorem dX11_fittingKinds_10 : decode cX11_fittingKinds 10 = .ok (.if_icmp .ge 34, 3) := by decide +kernel
theorem dX11_fittingKinds_13 : decode cX11_fittingKinds 13 = .ok (.aload_n 0, 1) := by decide +kernel
theorem dX11_fittingKinds_14 : decode cX11_fittingKinds 14 = .ok (.getfield 80, 3) := by decide +kernel
theorem dX11_fittingKinds_17 : decode cX11_fittingKinds 17 = .ok (.iload 6, 2) := by decide +kernel
theorem dX11_fittingKinds_19 : decode cX11_fittingKinds 19 = .ok (.aload_n 0, 1) := by decide +kernel
theorem dX11_fittingKinds_20 : decode cX11_fittingKinds 20 = .ok (.getfield 50, 3) := by decide +kernel
theorem dX11_fittingKinds_23 : decode cX11_fittingKinds 23 = .ok (.getfield 223, 3) := by decide +kernel
theorem dX11_fittingKinds_26 : decode cX11_fittingKinds 26 = .ok (.iload_n 1, 1) := by decide +kernel
theorem dX11_fittingKinds_27 : decode cX11_fittingKinds 27 = .ok (.iaload, 1) := by decide +kernel
theorem dX11_fittingKinds_28 : decode cX11_fittingKinds 28 = .ok (.iastore, 1) := by decide +kernel
theorem dX11_fittingKinds_29 : decode cX11_fittingKinds 29 = .ok (.iload 5, 2) := by decide +kernel
theorem dX11_fittingKinds_31 : decode cX11_fittingKinds 31 = .ok (.iconst 1, 1) := by decide +kernel
theorem dX11_fittingKinds_32 : decode cX11_fittingKinds 32 = .ok (.iload 6, 2) := by decide +kernel
theorem dX11_fittingKinds_34 : decode cX11_fittingKinds 34 = .ok (.ishl, 1) := by decide +kernel
theorem dX11_fittingKinds_35 : decode cX11_fittingKinds 35 = .ok (.ior, 1) := by decide +kernel
theorem dX11_fittingKinds_36 : decode cX11_fittingKinds 36 = .ok (.istore 5, 2) := by decide +kernel
theorem dX11_fittingKinds_38 : decode cX11_fittingKinds 38 = .ok (.iinc 6 1, 3) := by decide +kernel
theorem dX11_fittingKinds_41 : decode cX11_fittingKinds 41 = .ok (.goto (-35), 3) := by decide +kernel
theorem dX11_fittingKinds_44 : decode cX11_fittingKinds 44 = .ok (.iconst 0, 1) := by decide +kernel
theorem dX11_fittingKinds_45 : decode cX11_fittingKinds 45 = .ok (.istore 6, 2) := by decide +kernel
theorem dX11_fittingKinds_47 : decode cX11_fittingKinds 47 = .ok (.iload 6, 2) := by decide +kernel
theorem dX11_fittingKinds_49 : decode cX11_fittingKinds 49 = .ok (.iload 4, 2) := by decide +kernel
theorem dX11_fittingKinds_51 : decode cX11_fittingKinds 51 = .ok (.if_icmp .ge 156, 3) := by decide +kernel
theorem dX11_fittingKinds_54 : decode cX11_fittingKinds 54 = .ok (.aload_n 0, 1) := by decide +kernel
theorem dX11_fittingKinds_55 : decode cX11_fittingKinds 55 = .ok (.getfield 69, 3) := by decide +kernel
theorem dX11_fittingKinds_58 : decode cX11_fittingKinds 58 = .ok (.aload_n 0, 1) := by decide +kernel
theorem dX11_fittingKinds_59 : decode cX11_fittingKinds 59 = .ok (.getfield 50, 3) := by decide +kernel
theorem dX11_fittingKinds_62 : decode cX11_fittingKinds 62 = .ok (.aload_n 2, 1) := by decide +kernel
theorem dX11_fittingKinds_63 : decode cX11_fittingKinds 63 = .ok (.iload_n 3, 1) := by decide +kernel
theorem dX11_fittingKinds_64 : decode cX11_fittingKinds 64 = .ok (.iconst 2, 1) := by decide +kernel
theorem dX11_fittingKinds_65 : decode cX11_fittingKinds 65 = .ok (.iload 6, 2) := by decide +kernel
theorem dX11_fittingKinds_67 : decode cX11_fittingKinds 67 = .ok (.imul, 1) := by decide +kernel
theorem dX11_fittingKinds_68 : decode cX11_fittingKinds 68 = .ok (.iadd, 1) := by decide +kernel
theorem dX11_fittingKinds_69 : decode cX11_fittingKinds 69 = .ok (.iaload, 1) := by decide +kernel
theorem dX11_fittingKinds_70 : decode cX11_fittingKinds 70 = .ok (.invokevirtual 177, 3) := by decide +kernel
theorem dX11_fittingKinds_73 : decode cX11_fittingKinds 73 = .ok (.istore 7, 2) := by decide +kernel
theorem dX11_fittingKinds_75 : decode cX11_fittingKinds 75 = .ok (.iconst 1, 1) := by decide +kernel
theorem dX11_fittingKinds_76 : decode cX11_fittingKinds 76 = .ok (.istore 8, 2) := by decide +kernel
theorem dX11_fittingKinds_78 : decode cX11_fittingKinds 78 = .ok (.iload 8, 2) := by decide +kernel
theorem dX11_fittingKinds_80 : decode cX11_fittingKinds 80 = .ok (.bipush 6, 2) := by decide +kernel
theorem dX11_fittingKinds_82 : decode cX11_fittingKinds 82 = .ok (.if_icmp .ge 119, 3) := by decide +kernel
theorem dX11_fittingKinds_85 : decode cX11_fittingKinds 85 = .ok (.iload 7, 2) := by decide +kernel
theorem dX11_fittingKinds_87 : decode cX11_fittingKinds 87 = .ok (.ifCond .eq 40, 3) := by decide +kernel
theorem dX11_fittingKinds_90 : decode cX11_fittingKinds 90 = .ok (.aload_n 0, 1) := by decide +kernel
theorem dX11_fittingKinds_91 : decode cX11_fittingKinds 91 = .ok (.getfield 80, 3) := by decide +kernel
theorem dX11_fittingKinds_94 : decode cX11_fittingKinds 94 = .ok (.iload 8, 2) := by decide +kernel
theorem dX11_fittingKinds_96 : decode cX11_fittingKinds 96 = .ok (.dup2, 1) := by decide +kernel
theorem dX11_fittingKinds_97 : decode cX11_fittingKinds 97 = .ok (.iaload, 1) := by decide +kernel
theorem dX11_fittingKinds_98 : decode cX11_fittingKinds 98 = .ok (.aload_n 0, 1) := by decide +kernel
theorem dX11_fittingKinds_99 : decode cX11_fittingKinds 99 = .ok (.getfield 25, 3) := by decide +kernel
theorem dX11_fittingKinds_102 : decode cX11_fittingKinds 102 = .ok (.iload 8, 2) := by decide +kernel
theorem dX11_fittingKinds_104 : decode cX11_fittingKinds 104 = .ok (.aaload, 1) := by decide +kernel
theorem dX11_fittingKinds_105 : decode cX11_fittingKinds 105 = .ok (.aload_n 0, 1) := by decide +kernel
theorem dX11_fittingKinds_106 : decode cX11_fittingKinds 106 = .ok (.getfield 50, 3) := by decide +kernel
theorem dX11_fittingKinds_109 : decode cX11_fittingKinds 109 = .ok (.aload_n 0, 1) := by decide +kernel
theorem dX11_fittingKinds_110 : decode cX11_fittingKinds 110 = .ok (.getfield 50, 3) := by decide +kernel
theorem dX11_fittingKinds_113 : decode cX11_fittingKinds 113 = .ok (.getfield 226, 3) := by decide +kernel
theorem dX11_fittingKinds_116 : decode cX11_fittingKinds 116 = .ok (.iload_n 1, 1) := by decide +kernel
theorem dX11_fittingKinds_117 : decode cX11_fittingKinds 117 = .ok (.iaload, 1) := by decide +kernel
theorem dX11_fittingKinds_118 : decode cX11_fittingKinds 118 = .ok (.aload_n 0, 1) := by decide +kernel
theorem dX11_fittingKinds_119 : decode cX11_fittingKinds 119 = .ok (.getfield 69, 3) := by decide +kernel
theorem dX11_fittingKinds_122 : decode cX11_fittingKinds 122 = .ok (.invokevirtual 358, 3) := by decide +kernel
theorem dX11_fittingKinds_125 : decode cX11_fittingKinds 125 = .ok (.ior, 1) := by decide +kernel
theorem dX11_fittingKinds_126 : decode cX11_fittingKinds 126 = .ok (.iastore, 1) := by decide +kernel
theorem dX11_fittingKinds_127 : decode cX11_fittingKinds 127 = .ok (.aload_n 0, 1) := by decide +kernel
theorem dX11_fittingKinds_128 : decode cX11_fittingKinds 128 = .ok (.getfield 50, 3) := by decide +kernel
theorem dX11_fittingKinds_131 : decode cX11_fittingKinds 131 = .ok (.getfield 220, 3) := by decide +kernel
theorem dX11_fittingKinds_134 : decode cX11_fittingKinds 134 = .ok (.iload_n 1, 1) := by decide +kernel
theorem dX11_fittingKinds_135 : decode cX11_fittingKinds 135 = .ok (.iaload, 1) := by decide +kernel
theorem dX11_fittingKinds_136 : decode cX11_fittingKinds 136 = .ok (.aload_n 0, 1) := by decide +kernel
theorem dX11_fittingKinds_137 : decode cX11_fittingKinds 137 = .ok (.getfield 25, 3) := by decide +kernel
theorem dX11_fittingKinds_140 : decode cX11_fittingKinds 140 = .ok (.iload 8, 2) := by decide +kernel
theorem dX11_fittingKinds_142 : decode cX11_fittingKinds 142 = .ok (.aaload, 1) := by decide +kernel
theorem dX11_fittingKinds_143 : decode cX11_fittingKinds 143 = .ok (.aload_n 0, 1) := by decide +kernel
theorem dX11_fittingKinds_144 : decode cX11_fittingKinds 144 = .ok (.getfield 50, 3) := by decide +kernel
theorem dX11_fittingKinds_147 : decode cX11_fittingKinds 147 = .ok (.getfield 343, 3) := by decide +kernel
theorem dX11_fittingKinds_150 : decode cX11_fittingKinds 150 = .ok (.invokevirtual 362, 3) := by decide +kernel
theorem dX11_fittingKinds_153 : decode cX11_fittingKinds 153 = .ok (.if_icmp .le 7, 3) := by decide +kernel
theorem dX11_fittingKinds_156 : decode cX11_fittingKinds 156 = .ok (.iconst 0, 1) := by decide +kernel
theorem dX11_fittingKinds_157 : decode cX11_fittingKinds 157 = .ok (.goto 10, 3) := by decide +kernel
theorem dX11_fittingKinds_160 : decode cX11_fittingKinds 160 = .ok (.aload_n 0, 1) := by decide +kernel
theorem dX11_fittingKinds_161 : decode cX11_fittingKinds 161 = .ok (.getfield 80, 3) := by decide +kernel
theorem dX11_fittingKinds_164 : decode cX11_fittingKinds 164 = .ok (.iload 8, 2) := by decide +kernel
theorem dX11_fittingKinds_166 : decode cX11_fittingKinds 166 = .ok (.iaload, 1) := by decide +kernel
theorem dX11_fittingKinds_167 : decode cX11_fittingKinds 167 = .ok (.istore 9, 2) := by decide +kernel
theorem dX11_fittingKinds_169 : decode cX11_fittingKinds 169 = .ok (.iload 9, 2) := by decide +kernel
theorem dX11_fittingKinds_171 : decode cX11_fittingKinds 171 = .ok (.aload_n 2, 1) := by decide +kernel
theorem dX11_fittingKinds_172 : decode cX11_fittingKinds 172 = .ok (.iload_n 3, 1) := by decide +kernel
theorem dX11_fittingKinds_173 : decode cX11_fittingKinds 173 = .ok (.iconst 2, 1) := by decide +kernel
theorem dX11_fittingKinds_174 : decode cX11_fittingKinds 174 = .ok (.iload 6, 2) := by decide +kernel
theorem dX11_fittingKinds_176 : decode cX11_fittingKinds 176 = .ok (.imul, 1) := by decide +kernel
theorem dX11_fittingKinds_177 : decode cX11_fittingKinds 177 = .ok (.iadd, 1) := by decide +kernel
theorem dX11_fittingKinds_178 : decode cX11_fittingKinds 178 = .ok (.iconst 1, 1) := by decide +kernel
theorem dX11_fittingKinds_179 : decode cX11_fittingKinds 179 = .ok (.iadd, 1) := by decide +kernel
theorem dX11_fittingKinds_180 : decode cX11_fittingKinds 180 = .ok (.iaload, 1) := by decide +kernel
theorem dX11_fittingKinds_181 : decode cX11_fittingKinds 181 = .ok (.if_icmp .eq 14, 3) := by decide +kernel
theorem dX11_fittingKinds_184 : decode cX11_fittingKinds 184 = .ok (.iload 5, 2) := by decide +kernel
theorem dX11_fittingKinds_186 : decode cX11_fittingKinds 186 = .ok (.iconst 1, 1) := by decide +kernel
theorem dX11_fittingKinds_187 : decode cX11_fittingKinds 187 = .ok (.iload 8, 2) := by decide +kernel
theorem dX11_fittingKinds_189 : decode cX11_fittingKinds 189 = .ok (.ishl, 1) := by decide +kernel
theorem dX11_fittingKinds_190 : decode cX11_fittingKinds 190 = .ok (.iconst (-1), 1) := by decide +kernel
theorem dX11_fittingKinds_191 : decode cX11_fittingKinds 191 = .ok (.ixor, 1) := by decide +kernel
theorem dX11_fittingKinds_192 : decode cX11_fittingKinds 192 = .ok (.iand, 1) := by decide +kernel
theorem dX11_fittingKinds_193 : decode cX11_fittingKinds 193 = .ok (.istore 5, 2) := by decide +kernel
theorem dX11_fittingKinds_195 : decode cX11_fittingKinds 195 = .ok (.iinc 8 1, 3) := by decide +kernel
theorem dX11_fittingKinds_198 : decode cX11_fittingKinds 198 = .ok (.goto (-120), 3) := by decide +kernel
theorem dX11_fittingKinds_201 : decode cX11_fittingKinds 201 = .ok (.iinc 6 1, 3) := by decide +kernel
theorem dX11_fittingKinds_204 : decode cX11_fittingKinds 204 = .ok (.goto (-157), 3) := by decide +kernel
theorem dX11_fittingKinds_207 : decode cX11_fittingKinds 207 = .ok (.iload 5, 2) := by decide +kernel
theorem dX11_fittingKinds_209 : decode cX11_fittingKinds 209 = .ok (.ireturn, 1) := by decide +kernel
theorem dX11_isRow_0 : decode cX11_isRow 0 = .ok (.iload_n 0, 1) := by decide +kernel
theorem dX11_isRow_1 : decode cX11_isRow 1 = .ok (.ifCond .lt 13, 3) := by decide +kernel
theorem dX11_isRow_4 : decode cX11_isRow 4 = .ok (.iload_n 0, 1) := by decide +kernel
theorem dX11_isRow_5 : decode cX11_isRow 5 = .ok (.bipush 8, 2) := by decide +kernel
theorem dX11_isRow_7 : decode cX11_isRow 7 = .ok (.if_icmp .ge 7, 3) := by decide +kernel
theorem dX11_isRow_10 : decode cX11_isRow 10 = .ok (.iconst 1, 1) := by decide +kernel
theorem dX11_isRow_11 : decode cX11_isRow 11 = .ok (.goto 4, 3) := by decide +kernel
theorem dX11_isRow_14 : decode cX11_isRow 14 = .ok (.iconst 0, 1) := by decide +kernel
theorem dX11_isRow_15 : decode cX11_isRow 15 = .ok (.ireturn, 1) := by decide +kernel
theorem dX11_isField_0 : decode cX11_isField 0 = .ok (.iload_n 0, 1) := by decide +kernel
theorem dX11_isField_1 : decode cX11_isField 1 = .ok (.ifCond .lt 13, 3) := by decide +kernel
theorem dX11_isField_4 : decode cX11_isField 4 = .ok (.iload_n 0, 1) := by decide +kernel
theorem dX11_isField_5 : decode cX11_isField 5 = .ok (.bipush 8, 2) := by decide +kernel
theorem dX11_isField_7 : decode cX11_isField 7 = .ok (.if_icmp .ge 7, 3) := by decide +kernel
theorem dX11_isField_10 : decode cX11_isField 10 = .ok (.iconst 1, 1) := by decide +kernel
theorem dX11_isField_11 : decode cX11_isField 11 = .ok (.goto 4, 3) := by decide +kernel
theorem dX11_isField_14 : decode cX11_isField 14 = .ok (.iconst 0, 1) := by decide +kernel
theorem dX11_isField_15 : decode cX11_isField 15 = .ok (.ireturn, 1) := by decide +kernel
theorem dX11_isOneOfTwo_0 : decode cX11_isOneOfTwo 0 = .ok (.iload_n 0, 1) := by decide +kernel
theorem dX11_isOneOfTwo_1 : decode cX11_isOneOfTwo 1 = .ok (.ifCond .eq 8, 3) := by decide +kernel
theorem dX11_isOneOfTwo_4 : decode cX11_isOneOfTwo 4 = .ok (.iload_n 0, 1) := by decide +kernel
theorem dX11_isOneOfTwo_5 : decode cX11_isOneOfTwo 5 = .ok (.iconst 1, 1) := by decide +kernel
theorem dX11_isOneOfTwo_6 : decode cX11_isOneOfTwo 6 = .ok (.if_icmp .ne 7, 3) := by decide +kernel
theorem dX11_isOneOfTwo_9 : decode cX11_isOneOfTwo 9 = .ok (.iconst 1, 1) := by decide +kernel
theorem dX11_isOneOfTwo_10 : decode cX11_isOneOfTwo 10 = .ok (.goto 4, 3) := by decide +kernel
theorem dX11_isOneOfTwo_13 : decode cX11_isOneOfTwo 13 = .ok (.iconst 0, 1) := by decide +kernel
theorem dX11_isOneOfTwo_14 : decode cX11_isOneOfTwo 14 = .ok (.ireturn, 1) := by decide +kernel
theorem dX11_isOfKind_0 : decode cX11_isOfKind 0 = .ok (.iload_n 1, 1) := by decide +kernel
theorem dX11_isOfKind_1 : decode cX11_isOfKind 1 = .ok (.tableswitch 66 0 5 #[39, 41, 46, 51, 56, 61], 39) := by decide +kernel
theorem dX11_isOfKind_40 : decode cX11_isOfKind 40 = .ok (.iconst 1, 1) := by decide +kernel
theorem dX11_isOfKind_41 : decode cX11_isOfKind 41 = .ok (.ireturn, 1) := by decide +kernel
theorem dX11_isOfKind_42 : decode cX11_isOfKind 42 = .ok (.aload_n 0, 1) := by decide +kernel
theorem dX11_isOfKind_43 : decode cX11_isOfKind 43 = .ok (.instanceof 30, 3) := by decide +kernel
theorem dX11_isOfKind_46 : decode cX11_isOfKind 46 = .ok (.ireturn, 1) := by decide +kernel
theorem dX11_isOfKind_47 : decode cX11_isOfKind 47 = .ok (.aload_n 0, 1) := by decide +kernel
theorem dX11_isOfKind_48 : decode cX11_isOfKind 48 = .ok (.instanceof 33, 3) := by decide +kernel
theorem dX11_isOfKind_51 : decode cX11_isOfKind 51 = .ok (.ireturn, 1) := by decide +kernel
theorem dX11_isOfKind_52 : decode cX11_isOfKind 52 = .ok (.aload_n 0, 1) := by decide +kernel
theorem dX11_isOfKind_53 : decode cX11_isOfKind 53 = .ok (.instanceof 36, 3) := by decide +kernel
theorem dX11_isOfKind_56 : decode cX11_isOfKind 56 = .ok (.ireturn, 1) := by decide +kernel
theorem dX11_isOfKind_57 : decode cX11_isOfKind 57 = .ok (.aload_n 0, 1) := by decide +kernel
theorem dX11_isOfKind_58 : decode cX11_isOfKind 58 = .ok (.instanceof 39, 3) := by decide +kernel
theorem dX11_isOfKind_61 : decode cX11_isOfKind 61 = .ok (.ireturn, 1) := by decide +kernel
theorem dX11_isOfKind_62 : decode cX11_isOfKind 62 = .ok (.aload_n 0, 1) := by decide +kernel
theorem dX11_isOfKind_63 : decode cX11_isOfKind 63 = .ok (.instanceof 42, 3) := by decide +kernel
theorem dX11_isOfKind_66 : decode cX11_isOfKind 66 = .ok (.ireturn, 1) := by decide +kernel
theorem dX11_isOfKind_67 : decode cX11_isOfKind 67 = .ok (.iconst 0, 1) := by decide +kernel
theorem dX11_isOfKind_68 : decode cX11_isOfKind 68 = .ok (.ireturn, 1) := by decide +kernel
theorem dX11_bitOf_0 : decode cX11_bitOf 0 = .ok (.iload_n 0, 1) := by decide +kernel
theorem dX11_bitOf_1 : decode cX11_bitOf 1 = .ok (.iload_n 1, 1) := by decide +kernel
theorem dX11_bitOf_2 : decode cX11_bitOf 2 = .ok (.ishr, 1) := by decide +kernel
theorem dX11_bitOf_3 : decode cX11_bitOf 3 = .ok (.iconst 1, 1) := by decide +kernel
theorem dX11_bitOf_4 : decode cX11_bitOf 4 = .ok (.iand, 1) := by decide +kernel
theorem dX11_bitOf_5 : decode cX11_bitOf 5 = .ok (.ireturn, 1) := by decide +kernel
theorem dX11_commonDivisor_0 : decode cX11_commonDivisor 0 = .ok (.lload_n 0, 1) := by decide +kernel
theorem dX11_commonDivisor_1 : decode cX11_commonDivisor 1 = .ok (.lstore 4, 2) := by decide +kernel
theorem dX11_commonDivisor_3 : decode cX11_commonDivisor 3 = .ok (.lload_n 2, 1) := by decide +kernel
theorem dX11_commonDivisor_4 : decode cX11_commonDivisor 4 = .ok (.lstore 6, 2) := by decide +kernel
theorem dX11_commonDivisor_6 : decode cX11_commonDivisor 6 = .ok (.iconst 0, 1) := by decide +kernel
theorem dX11_commonDivisor_7 : decode cX11_commonDivisor 7 = .ok (.istore 8, 2) := by decide +kernel
theorem dX11_commonDivisor_9 : decode cX11_commonDivisor 9 = .ok (.iload 8, 2) := by decide +kernel
theorem dX11_commonDivisor_11 : decode cX11_commonDivisor 11 = .ok (.sipush 200, 3) := by decide +kernel
theorem dX11_commonDivisor_14 : decode cX11_commonDivisor 14 = .ok (.if_icmp .ge 31, 3) := by decide +kernel
theorem dX11_commonDivisor_17 : decode cX11_commonDivisor 17 = .ok (.lload 6, 2) := by decide +kernel
theorem dX11_commonDivisor_19 : decode cX11_commonDivisor 19 = .ok (.lconst 0, 1) := by decide +kernel
theorem dX11_commonDivisor_20 : decode cX11_commonDivisor 20 = .ok (.lcmp, 1) := by decide +kernel
theorem dX11_commonDivisor_21 : decode cX11_commonDivisor 21 = .ok (.ifCond .eq 24, 3) := by decide +kernel
theorem dX11_commonDivisor_24 : decode cX11_commonDivisor 24 = .ok (.lload 4, 2) := by decide +kernel
theorem dX11_commonDivisor_26 : decode cX11_commonDivisor 26 = .ok (.lload 6, 2) := by decide +kernel
theorem dX11_commonDivisor_28 : decode cX11_commonDivisor 28 = .ok (.lrem, 1) := by decide +kernel
theorem dX11_commonDivisor_29 : decode cX11_commonDivisor 29 = .ok (.lstore 9, 2) := by decide +kernel
theorem dX11_commonDivisor_31 : decode cX11_commonDivisor 31 = .ok (.lload 6, 2) := by decide +kernel
theorem dX11_commonDivisor_33 : decode cX11_commonDivisor 33 = .ok (.lstore 4, 2) := by decide +kernel
theorem dX11_commonDivisor_35 : decode cX11_commonDivisor 35 = .ok (.lload 9, 2) := by decide +kernel
theorem dX11_commonDivisor_37 : decode cX11_commonDivisor 37 = .ok (.lstore 6, 2) := by decide +kernel
theorem dX11_commonDivisor_39 : decode cX11_commonDivisor 39 = .ok (.iinc 8 1, 3) := by decide +kernel
theorem dX11_commonDivisor_42 : decode cX11_commonDivisor 42 = .ok (.goto (-33), 3) := by decide +kernel
theorem dX11_commonDivisor_45 : decode cX11_commonDivisor 45 = .ok (.lload 4, 2) := by decide +kernel
theorem dX11_commonDivisor_47 : decode cX11_commonDivisor 47 = .ok (.lconst 0, 1) := by decide +kernel
theorem dX11_commonDivisor_48 : decode cX11_commonDivisor 48 = .ok (.lcmp, 1) := by decide +kernel
theorem dX11_commonDivisor_49 : decode cX11_commonDivisor 49 = .ok (.ifCond .le 8, 3) := by decide +kernel
theorem dX11_commonDivisor_52 : decode cX11_commonDivisor 52 = .ok (.lload 4, 2) := by decide +kernel
theorem dX11_commonDivisor_54 : decode cX11_commonDivisor 54 = .ok (.goto 4, 3) := by decide +kernel
theorem dX11_commonDivisor_57 : decode cX11_commonDivisor 57 = .ok (.lconst 1, 1) := by decide +kernel
theorem dX11_commonDivisor_58 : decode cX11_commonDivisor 58 = .ok (.lreturn, 1) := by decide +kernel
theorem dX12_init_0 : decode cX12_init 0 = .ok (.aload_n 0, 1) := by decide +kernel
theorem dX12_init_1 : decode cX12_init 1 = .ok (.invokespecial 1, 3) := by decide +kernel
theorem dX12_init_4 : decode cX12_init 4 = .ok (.aload_n 0, 1) := by decide +kernel
theorem dX12_init_5 : decode cX12_init 5 = .ok (.bipush 8, 2) := by decide +kernel
theorem dX12_init_7 : decode cX12_init 7 = .ok (.newarray .int, 2) := by decide +kernel
theorem dX12_init_9 : decode cX12_init 9 = .ok (.dup, 1) := by decide +kernel
theorem dX12_init_10 : decode cX12_init 10 = .ok (.iconst 0, 1) := by decide +kernel
theorem dX12_init_11 : decode cX12_init 11 = .ok (.iconst (-1), 1) := by decide +kernel
theorem dX12_init_12 : decode cX12_init 12 = .ok (.iastore, 1) := by decide +kernel
theorem dX12_init_13 : decode cX12_init 13 = .ok (.dup, 1) := by decide +kernel
theorem dX12_init_14 : decode cX12_init 14 = .ok (.iconst 1, 1) := by decide +kernel
theorem dX12_init_15 : decode cX12_init 15 = .ok (.iconst (-1), 1) := by decide +kernel
theorem dX12_init_16 : decode cX12_init 16 = .ok (.iastore, 1) := by decide +kernel
theorem dX12_init_17 : decode cX12_init 17 = .ok (.dup, 1) := by decide +kernel
theorem dX12_init_18 : decode cX12_init 18 = .ok (.iconst 2, 1) := by decide +kernel
theorem dX12_init_19 : decode cX12_init 19 = .ok (.iconst (-1), 1) := by decide +kernel
theorem dX12_init_20 : decode cX12_init 20 = .ok (.iastore, 1) := by decide +kernel
theorem dX12_init_21 : decode cX12_init 21 = .ok (.dup, 1) := by decide +kernel
theorem dX12_init_22 : decode cX12_init 22 = .ok (.iconst 3, 1) := by decide +kernel
theorem dX12_init_23 : decode cX12_init 23 = .ok (.iconst (-1), 1) := by decide +kernel
theorem dX12_init_24 : decode cX12_init 24 = .ok (.iastore, 1) := by decide +kernel
theorem dX12_init_25 : decode cX12_init 25 = .ok (.dup, 1) := by decide +kernel
theorem dX12_init_26 : decode cX12_init 26 = .ok (.iconst 4, 1) := by decide +kernel
theorem dX12_init_27 : decode cX12_init 27 = .ok (.iconst (-1), 1) := by decide +kernel
theorem dX12_init_28 : decode cX12_init 28 = .ok (.iastore, 1) := by decide +kernel
theorem dX12_init_29 : decode cX12_init 29 = .ok (.dup, 1) := by decide +kernel
theorem dX12_init_30 : decode cX12_init 30 = .ok (.iconst 5, 1) := by decide +kernel
theorem dX12_init_31 : decode cX12_init 31 = .ok (.iconst (-1), 1) := by decide +kernel
theorem dX12_init_32 : decode cX12_init 32 = .ok (.iastore, 1) := by decide +kernel
theorem dX12_init_33 : decode cX12_init 33 = .ok (.dup, 1) := by decide +kernel
theorem dX12_init_34 : decode cX12_init 34 = .ok (.bipush 6, 2) := by decide +kernel
theorem dX12_init_36 : decode cX12_init 36 = .ok (.iconst (-1), 1) := by decide +kernel
theorem dX12_init_37 : decode cX12_init 37 = .ok (.iastore, 1) := by decide +kernel
theorem dX12_init_38 : decode cX12_init 38 = .ok (.dup, 1) := by decide +kernel
theorem dX12_init_39 : decode cX12_init 39 = .ok (.bipush 7, 2) := by decide +kernel
theorem dX12_init_41 : decode cX12_init 41 = .ok (.iconst (-1), 1) := by decide +kernel
theorem dX12_init_42 : decode cX12_init 42 = .ok (.iastore, 1) := by decide +kernel
theorem dX12_init_43 : decode cX12_init 43 = .ok (.putfield 7, 3) := by decide +kernel
theorem dX12_init_46 : decode cX12_init 46 = .ok (.aload_n 0, 1) := by decide +kernel
theorem dX12_init_47 : decode cX12_init 47 = .ok (.bipush 8, 2) := by decide +kernel
theorem dX12_init_49 : decode cX12_init 49 = .ok (.newarray .int, 2) := by decide +kernel
theorem dX12_init_51 : decode cX12_init 51 = .ok (.putfield 13, 3) := by decide +kernel
theorem dX12_init_54 : decode cX12_init 54 = .ok (.aload_n 0, 1) := by decide +kernel
theorem dX12_init_55 : decode cX12_init 55 = .ok (.sipush 320, 3) := by decide +kernel
theorem dX12_init_58 : decode cX12_init 58 = .ok (.newarray .int, 2) := by decide +kernel
theorem dX12_init_60 : decode cX12_init 60 = .ok (.putfield 16, 3) := by decide +kernel
theorem dX12_init_63 : decode cX12_init 63 = .ok (.aload_n 0, 1) := by decide +kernel
theorem dX12_init_64 : decode cX12_init 64 = .ok (.bipush 67, 2) := by decide +kernel
theorem dX12_init_66 : decode cX12_init 66 = .ok (.newarray .int, 2) := by decide +kernel
theorem dX12_init_68 : decode cX12_init 68 = .ok (.putfield 19, 3) := by decide +kernel
theorem dX12_init_71 : decode cX12_init 71 = .ok (.aload_n 0, 1) := by decide +kernel
theorem dX12_init_72 : decode cX12_init 72 = .ok (.bipush 67, 2) := by decide +kernel
theorem dX12_init_74 : decode cX12_init 74 = .ok (.newarray .int, 2) := by decide +kernel
theorem dX12_init_76 : decode cX12_init 76 = .ok (.putfield 22, 3) := by decide +kernel
theorem dX12_init_79 : decode cX12_init 79 = .ok (.aload_n 0, 1) := by decide +kernel
theorem dX12_init_80 : decode cX12_init 80 = .ok (.bipush 67, 2) := by decide +kernel
theorem dX12_init_82 : decode cX12_init 82 = .ok (.newarray .int, 2) := by decide +kernel
theorem dX12_init_84 : decode cX12_init 84 = .ok (.putfield 25, 3) := by decide +kernel
theorem dX12_init_87 : decode cX12_init 87 = .ok (.aload_n 0, 1) := by decide +kernel
theorem dX12_init_88 : decode cX12_init 88 = .ok (.sipush 1608, 3) := by decide +kernel
theorem dX12_init_91 : decode cX12_init 91 = .ok (.newarray .int, 2) := by decide +kernel
theorem dX12_init_93 : decode cX12_init 93 = .ok (.putfield 28, 3) := by decide +kernel
theorem dX12_init_96 : decode cX12_init 96 = .ok (.aload_n 0, 1) := by decide +kernel
theorem dX12_init_97 : decode cX12_init 97 = .ok (.sipush 140, 3) := by decide +kernel
theorem dX12_init_100 : decode cX12_init 100 = .ok (.newarray .int, 2) := by decide +kernel
theorem dX12_init_102 : decode cX12_init 102 = .ok (.putfield 31, 3) := by decide +kernel
theorem dX12_init_105 : decode cX12_init 105 = .ok (.aload_n 0, 1) := by decide +kernel
theorem dX12_init_106 : decode cX12_init 106 = .ok (.bipush 8, 2) := by decide +kernel
theorem dX12_init_108 : decode cX12_init 108 = .ok (.newarray .int, 2) := by decide +kernel
theorem dX12_init_110 : decode cX12_init 110 = .ok (.putfield 34, 3) := by decide +kernel
theorem dX12_init_113 : decode cX12_init 113 = .ok (.aload_n 0, 1) := by decide +kernel
theorem dX12_init_114 : decode cX12_init 114 = .ok (.iconst 2, 1) := by decide +kernel
theorem dX12_init_115 : decode cX12_init 115 = .ok (.newarray .boolean, 2) := by decide +kernel
theorem dX12_init_117 : decode cX12_init 117 = .ok (.putfield 37, 3) := by decide +kernel
theorem dX12_init_120 : decode cX12_init 120 = .ok (.aload_n 0, 1) := by decide +kernel
theorem dX12_init_121 : decode cX12_init 121 = .ok (.sipush 134, 3) := by decide +kernel
theorem dX12_init_124 : decode cX12_init 124 = .ok (.newarray .int, 2) := by decide +kernel
theorem dX12_init_126 : decode cX12_init 126 = .ok (.putfield 41, 3) := by decide +kernel
theorem dX12_init_129 : decode cX12_init 129 = .ok (.aload_n 0, 1) := by decide +kernel
theorem dX12_init_130 : decode cX12_init 130 = .ok (.bipush 16, 2) := by decide +kernel
theorem dX12_init_132 : decode cX12_init 132 = .ok (.newarray .int, 2) := by decide +kernel
theorem dX12_init_134 : decode cX12_init 134 = .ok (.putfield 44, 3) := by decide +kernel
theorem dX12_init_137 : decode cX12_init 137 = .ok (.return_, 1) := by decide +kernel
theorem dX12_in_0 : decode cX12_in 0 = .ok (.lload_n 0, 1) := by decide +kernel
theorem dX12_in_1 : decode cX12_in 1 = .ok (.lload_n 2, 1) := by decide +kernel
theorem dX12_in_2 : decode cX12_in 2 = .ok (.lcmp, 1) := by decide +kernel
theorem dX12_in_3 : decode cX12_in 3 = .ok (.ifCond .lt 14, 3) := by decide +kernel
theorem dX12_in_6 : decode cX12_in 6 = .ok (.lload_n 0, 1) := by decide +kernel
theorem dX12_in_7 : decode cX12_in 7 = .ok (.lload 4, 2) := by decide +kernel
theorem dX12_in_9 : decode cX12_in 9 = .ok (.lcmp, 1) := by decide +kernel
theorem dX12_in_10 : decode cX12_in 10 = .ok (.ifCond .gt 7, 3) := by decide +kernel
theorem dX12_in_13 : decode cX12_in 13 = .ok (.iconst 1, 1) := by decide +kernel
theorem dX12_in_14 : decode cX12_in 14 = .ok (.goto 4, 3) := by decide +kernel
theorem dX12_in_17 : decode cX12_in 17 = .ok (.iconst 0, 1) := by decide +kernel
theorem dX12_in_18 : decode cX12_in 18 = .ok (.ireturn, 1) := by decide +kernel
theorem dX12_finding_0 : decode cX12_finding 0 = .ok (.aload_n 0, 1) := by decide +kernel
theorem dX12_finding_1 : decode cX12_finding 1 = .ok (.iload_n 1, 1) := by decide +kernel
theorem dX12_finding_2 : decode cX12_finding 2 = .ok (.putfield 51, 3) := by decide +kernel
theorem dX12_finding_5 : decode cX12_finding 5 = .ok (.ldc 54, 2) := by decide +kernel
theorem dX12_finding_7 : decode cX12_finding 7 = .ok (.iload_n 1, 1) := by decide +kernel
theorem dX12_finding_8 : decode cX12_finding 8 = .ok (.isub, 1) := by decide +kernel
theorem dX12_finding_9 : decode cX12_finding 9 = .ok (.ireturn, 1) := by decide +kernel
theorem dX12_isRow_0 : decode cX12_isRow 0 = .ok (.iload_n 0, 1) := by decide +kernel
theorem dX12_isRow_1 : decode cX12_isRow 1 = .ok (.i2l, 1) := by decide +kernel
theorem dX12_isRow_2 : decode cX12_isRow 2 = .ok (.lconst 0, 1) := by decide +kernel
theorem dX12_isRow_3 : decode cX12_isRow 3 = .ok (.ldc2_w 55, 3) := by decide +kernel
theorem dX12_isRow_6 : decode cX12_isRow 6 = .ok (.invokestatic 57, 3) := by decide +kernel
theorem dX12_isRow_9 : decode cX12_isRow 9 = .ok (.ireturn, 1) := by decide +kernel
theorem dX12_row_0 : decode cX12_row 0 = .ok (.aload_n 0, 1) := by decide +kernel
theorem dX12_row_1 : decode cX12_row 1 = .ok (.iconst 0, 1) := by decide +kernel
theorem dX12_row_2 : decode cX12_row 2 = .ok (.putfield 47, 3) := by decide +kernel
theorem dX12_row_5 : decode cX12_row 5 = .ok (.iload_n 1, 1) := by decide +kernel
theorem dX12_row_6 : decode cX12_row 6 = .ok (.invokestatic 61, 3) := by decide +kernel
theorem dX12_row_9 : decode cX12_row 9 = .ok (.ifCond .eq 21, 3) := by decide +kernel
theorem dX12_row_12 : decode cX12_row 12 = .ok (.iload_n 2, 1) := by decide +kernel
theorem dX12_row_13 : decode cX12_row 13 = .ok (.i2l, 1) := by decide +kernel
theorem dX12_row_14 : decode cX12_row 14 = .ok (.lconst 0, 1) := by decide +kernel
theorem dX12_row_15 : decode cX12_row 15 = .ok (.ldc2_w 65, 3) := by decide +kernel
theorem dX12_row_18 : decode cX12_row 18 = .ok (.invokestatic 57, 3) := by decide +kernel
theorem dX12_row_21 : decode cX12_row 21 = .ok (.ifCond .eq 9, 3) := by decide +kernel
theorem dX12_row_24 : decode cX12_row 24 = .ok (.iload_n 3, 1) := by decide +kernel
theorem dX12_row_25 : decode cX12_row 25 = .ok (.bipush 40, 2) := by decide +kernel
theorem dX12_row_27 : decode cX12_row 27 = .ok (.if_icmp .le 6, 3) := by decide +kernel
theorem dX12_row_30 : decode cX12_row 30 = .ok (.ldc 67, 2) := by decide +kernel
theorem dX12_row_32 : decode cX12_row 32 = .ok (.ireturn, 1) := by decide +kernel
theorem dX12_row_33 : decode cX12_row 33 = .ok (.aload_n 0, 1) := by decide +kernel
theorem dX12_row_34 : decode cX12_row 34 = .ok (.iconst 0, 1) := by decide +kernel
theorem dX12_row_35 : decode cX12_row 35 = .ok (.putfield 51, 3) := by decide +kernel
theorem dX12_row_38 : decode cX12_row 38 = .ok (.iload_n 3, 1) := by decide +kernel
theorem dX12_row_39 : decode cX12_row 39 = .ok (.ifCond .ge 9, 3) := by decide +kernel
theorem dX12_row_42 : decode cX12_row 42 = .ok (.aload_n 0, 1) := by decide +kernel
theorem dX12_row_43 : decode cX12_row 43 = .ok (.iconst 4, 1) := by decide +kernel
theorem dX12_row_44 : decode cX12_row 44 = .ok (.invokevirtual 68, 3) := by decide +kernel
theorem dX12_row_47 : decode cX12_row 47 = .ok (.ireturn, 1) := by decide +kernel
theorem dX12_row_48 : decode cX12_row 48 = .ok (.aload_n 0, 1) := by decide +kernel
theorem dX12_row_49 : decode cX12_row 49 = .ok (.getfield 7, 3) := by decide +kernel
theorem dX12_row_52 : decode cX12_row 52 = .ok (.iload_n 1, 1) := by decide +kernel
theorem dX12_row_53 : decode cX12_row 53 = .ok (.iload_n 2, 1) := by decide +kernel
theorem dX12_row_54 : decode cX12_row 54 = .ok (.iastore, 1) := by decide +kernel
theorem dX12_row_55 : decode cX12_row 55 = .ok (.aload_n 0, 1) := by decide +kernel
theorem dX12_row_56 : decode cX12_row 56 = .ok (.getfield 13, 3) := by decide +kernel
theorem dX12_row_59 : decode cX12_row 59 = .ok (.iload_n 1, 1) := by decide +kernel
theorem dX12_row_60 : decode cX12_row 60 = .ok (.iload_n 3, 1) := by decide +kernel
theorem dX12_row_61 : decode cX12_row 61 = .ok (.iastore, 1) := by decide +kernel
theorem dX12_row_62 : decode cX12_row 62 = .ok (.iconst 0, 1) := by decide +kernel
theorem dX12_row_63 : decode cX12_row 63 = .ok (.istore 4, 2) := by decide +kernel
theorem dX12_row_65 : decode cX12_row 65 = .ok (.iload 4, 2) := by decide +kernel
theorem dX12_row_67 : decode cX12_row 67 = .ok (.bipush 40, 2) := by decide +kernel
theorem dX12_row_69 : decode cX12_row 69 = .ok (.if_icmp .ge 22, 3) := by decide +kernel
theorem dX12_row_72 : decode cX12_row 72 = .ok (.aload_n 0, 1) := by decide +kernel
theorem dX12_row_73 : decode cX12_row 73 = .ok (.getfield 16, 3) := by decide +kernel
theorem dX12_row_76 : decode cX12_row 76 = .ok (.bipush 40, 2) := by decide +kernel
theorem dX12_row_78 : decode cX12_row 78 = .ok (.iload_n 1, 1) := by decide +kernel
theorem dX12_row_79 : decode cX12_row 79 = .ok (.imul, 1) := by decide +kernel
theorem dX12_row_80 : decode cX12_row 80 = .ok (.iload 4, 2) := by decide +kernel
theorem dX12_row_82 : decode cX12_row 82 = .ok (.iadd, 1) := by decide +kernel
theorem dX12_row_83 : decode cX12_row 83 = .ok (.iconst 0, 1) := by decide +kernel
theorem dX12_row_84 : decode cX12_row 84 = .ok (.iastore, 1) := by decide +kernel
theorem dX12_row_85 : decode cX12_row 85 = .ok (.iinc 4 1, 3) := by decide +kernel
theorem dX12_row_88 : decode cX12_row 88 = .ok (.goto (-23), 3) := by decide +kernel
theorem dX12_row_91 : decode cX12_row 91 = .ok (.iload_n 3, 1) := by decide +kernel
theorem dX12_row_92 : decode cX12_row 92 = .ok (.ireturn, 1) := by decide +kernel
theorem dX12_set_0 : decode cX12_set 0 = .ok (.aload_n 0, 1) := by decide +kernel
theorem dX12_set_1 : decode cX12_set 1 = .ok (.iconst 0, 1) := by decide +kernel
theorem dX12_set_2 : decode cX12_set 2 = .ok (.putfield 47, 3) := by decide +kernel
theorem dX12_set_5 : decode cX12_set 5 = .ok (.iload_n 1, 1) := by decide +kernel
theorem dX12_set_6 : decode cX12_set 6 = .ok (.invokestatic 61, 3) := by decide +kernel
theorem dX12_set_9 : decode cX12_set 9 = .ok (.ifCond .ne 6, 3) := by decide +kernel
theorem dX12_set_12 : decode cX12_set 12 = .ok (.ldc 67, 2) := by decide +kernel
theorem dX12_set_14 : decode cX12_set 14 = .ok (.ireturn, 1) := by decide +kernel
theorem dX12_set_15 : decode cX12_set 15 = .ok (.aload_n 0, 1) := by decide +kernel
theorem dX12_set_16 : decode cX12_set 16 = .ok (.iconst 0, 1) := by decide +kernel
theorem dX12_set_17 : decode cX12_set 17 = .ok (.putfield 51, 3) := by decide +kernel
theorem dX12_set_20 : decode cX12_set 20 = .ok (.aload_n 0, 1) := by decide +kernel
theorem dX12_set_21 : decode cX12_set 21 = .ok (.getfield 7, 3) := by decide +kernel
theorem dX12_set_24 : decode cX12_set 24 = .ok (.iload_n 1, 1) := by decide +kernel
theorem dX12_set_25 : decode cX12_set 25 = .ok (.iaload, 1) := by decide +kernel
theorem dX12_set_26 : decode cX12_set 26 = .ok (.ifCond .ge 9, 3) := by decide +kernel
theorem dX12_set_29 : decode cX12_set 29 = .ok (.aload_n 0, 1) := by decide +kernel
theorem dX12_set_30 : decode cX12_set 30 = .ok (.iconst 1, 1) := by decide +kernel
theorem dX12_set_31 : decode cX12_set 31 = .ok (.invokevirtual 68, 3) := by decide +kernel
theorem dX12_set_34 : decode cX12_set 34 = .ok (.ireturn, 1) := by decide +kernel
theorem dX12_set_35 : decode cX12_set 35 = .ok (.iload_n 2, 1) := by decide +kernel
theorem dX12_set_36 : decode cX12_set 36 = .ok (.i2l, 1) := by decide +kernel
theorem dX12_set_37 : decode cX12_set 37 = .ok (.lconst 0, 1) := by decide +kernel
theorem dX12_set_38 : decode cX12_set 38 = .ok (.aload_n 0, 1) := by decide +kernel
theorem dX12_set_39 : decode cX12_set 39 = .ok (.getfield 13, 3) := by decide +kernel
theorem dX12_set_42 : decode cX12_set 42 = .ok (.iload_n 1, 1) := by decide +kernel
theorem dX12_set_43 : decode cX12_set 43 = .ok (.iaload, 1) := by decide +kernel
theorem dX12_set_44 : decode cX12_set 44 = .ok (.iconst 1, 1) := by decide +kernel
theorem dX12_set_45 : decode cX12_set 45 = .ok (.isub, 1) := by decide +kernel
theorem dX12_set_46 : decode cX12_set 46 = .ok (.i2l, 1) := by decide +kernel
theorem dX12_set_47 : decode cX12_set 47 = .ok (.invokestatic 57, 3) := by decide +kernel
theorem dX12_set_50 : decode cX12_set 50 = .ok (.ifCond .ne 9, 3) := by decide +kernel
theorem dX12_set_53 : decode cX12_set 53 = .ok (.aload_n 0, 1) := by decide +kernel
theorem dX12_set_54 : decode cX12_set 54 = .ok (.iconst 2, 1) := by decide +kernel
theorem dX12_set_55 : decode cX12_set 55 = .ok (.invokevirtual 68, 3) := by decide +kernel
theorem dX12_set_58 : decode cX12_set 58 = .ok (.ireturn, 1) := by decide +kernel
theorem dX12_set_59 : decode cX12_set 59 = .ok (.aload_n 0, 1) := by decide +kernel
theorem dX12_set_60 : decode cX12_set 60 = .ok (.getfield 16, 3) := by decide +kernel
theorem dX12_set_63 : decode cX12_set 63 = .ok (.bipush 40, 2) := by decide +kernel
theorem dX12_set_65 : decode cX12_set 65 = .ok (.iload_n 1, 1) := by decide +kernel
theorem dX12_set_66 : decode cX12_set 66 = .ok (.imul, 1) := by decide +kernel
theorem dX12_set_67 : decode cX12_set 67 = .ok (.iload_n 2, 1) := by decide +kernel
theorem dX12_set_68 : decode cX12_set 68 = .ok (.iadd, 1) := by decide +kernel
theorem dX12_set_69 : decode cX12_set 69 = .ok (.aload_n 0, 1) := by decide +kernel
theorem dX12_set_70 : decode cX12_set 70 = .ok (.getfield 7, 3) := by decide +kernel
theorem dX12_set_73 : decode cX12_set 73 = .ok (.iload_n 1, 1) := by decide +kernel
theorem dX12_set_74 : decode cX12_set 74 = .ok (.iaload, 1) := by decide +kernel
theorem dX12_set_75 : decode cX12_set 75 = .ok (.ifCond .ne 8, 3) := by decide +kernel
theorem dX12_set_78 : decode cX12_set 78 = .ok (.iload_n 3, 1) := by decide +kernel
theorem dX12_set_79 : decode cX12_set 79 = .ok (.i2b, 1) := by decide +kernel
theorem dX12_set_80 : decode cX12_set 80 = .ok (.goto 19, 3) := by decide +kernel
theorem dX12_set_83 : decode cX12_set 83 = .ok (.aload_n 0, 1) := by decide +kernel
theorem dX12_set_84 : decode cX12_set 84 = .ok (.getfield 7, 3) := by decide +kernel
theorem dX12_set_87 : decode cX12_set 87 = .ok (.iload_n 1, 1) := by decide +kernel
theorem dX12_set_88 : decode cX12_set 88 = .ok (.iaload, 1) := by decide +kernel
theorem dX12_set_89 : decode cX12_set 89 = .ok (.iconst 1, 1) := by decide +kernel
theorem dX12_set_90 : decode cX12_set 90 = .ok (.if_icmp .ne 8, 3) := by decide +kernel
theorem dX12_set_93 : decode cX12_set 93 = .ok (.iload_n 3, 1) := by decide +kernel
theorem dX12_set_94 : decode cX12_set 94 = .ok (.i2s, 1) := by decide +kernel
theorem dX12_set_95 : decode cX12_set 95 = .ok (.goto 4, 3) := by decide +kernel
theorem dX12_set_98 : decode cX12_set 98 = .ok (.iload_n 3, 1) := by decide +kernel
theorem dX12_set_99 : decode cX12_set 99 = .ok (.iastore, 1) := by decide +kernel
theorem dX12_set_100 : decode cX12_set 100 = .ok (.aload_n 0, 1) := by decide +kernel
theorem dX12_set_101 : decode cX12_set 101 = .ok (.getfield 16, 3) := by decide +kernel
theorem dX12_set_104 : decode cX12_set 104 = .ok (.bipush 40, 2) := by decide +kernel
theorem dX12_set_106 : decode cX12_set 106 = .ok (.iload_n 1, 1) := by decide +kernel
theorem dX12_set_107 : decode cX12_set 107 = .ok (.imul, 1) := by decide +kernel
theorem dX12_set_108 : decode cX12_set 108 = .ok (.iload_n 2, 1) := by decide +kernel
theorem dX12_set_109 : decode cX12_set 109 = .ok (.iadd, 1) := by decide +kernel
theorem dX12_set_110 : decode cX12_set 110 = .ok (.iaload, 1) := by decide +kernel
theorem dX12_set_111 : decode cX12_set 111 = .ok (.ireturn, 1) := by decide +kernel
theorem dX12_copy_0 : decode cX12_copy 0 = .ok (.aload_n 0, 1) := by decide +kernel
theorem dX12_copy_1 : decode cX12_copy 1 = .ok (.iconst 0, 1) := by decide +kernel
theorem dX12_copy_2 : decode cX12_copy 2 = .ok (.putfield 47, 3) := by decide +kernel
theorem dX12_copy_5 : decode cX12_copy 5 = .ok (.iload_n 1, 1) := by decide +kernel
theorem dX12_copy_6 : decode cX12_copy 6 = .ok (.invokestatic 61, 3) := by decide +kernel
theorem dX12_copy_9 : decode cX12_copy 9 = .ok (.ifCond .eq 10, 3) := by decide +kernel
theorem dX12_copy_12 : decode cX12_copy 12 = .ok (.iload_n 3, 1) := by decide +kernel
theorem dX12_copy_13 : decode cX12_copy 13 = .ok (.invokestatic 61, 3) := by decide +kernel
theorem dX12_copy_16 : decode cX12_copy 16 = .ok (.ifCond .ne 6, 3) := by decide +kernel
theorem dX12_copy_19 : decode cX12_copy 19 = .ok (.ldc 67, 2) := by decide +kernel
theorem dX12_copy_21 : decode cX12_copy 21 = .ok (.ireturn, 1) := by decide +kernel
theorem dX12_copy_22 : decode cX12_copy 22 = .ok (.aload_n 0, 1) := by decide +kernel
theorem dX12_copy_23 : decode cX12_copy 23 = .ok (.iconst 0, 1) := by decide +kernel
theorem dX12_copy_24 : decode cX12_copy 24 = .ok (.putfield 51, 3) := by decide +kernel
theorem dX12_copy_27 : decode cX12_copy 27 = .ok (.aload_n 0, 1) := by decide +kernel
theorem dX12_copy_28 : decode cX12_copy 28 = .ok (.getfield 7, 3) := by decide +kernel
theorem dX12_copy_31 : decode cX12_copy 31 = .ok (.iload_n 1, 1) := by decide +kernel
theorem dX12_copy_32 : decode cX12_copy 32 = .ok (.iaload, 1) := by decide +kernel
theorem dX12_copy_33 : decode cX12_copy 33 = .ok (.ifCond .lt 12, 3) := by decide +kernel
theorem dX12_copy_36 : decode cX12_copy 36 = .ok (.aload_n 0, 1) := by decide +kernel
theorem dX12_copy_37 : decode cX12_copy 37 = .ok (.getfield 7, 3) := by decide +kernel
theorem dX12_copy_40 : decode cX12_copy 40 = .ok (.iload_n 3, 1) := by decide +kernel
theorem dX12_copy_41 : decode cX12_copy 41 = .ok (.iaload, 1) := by decide +kernel
theorem dX12_copy_42 : decode cX12_copy 42 = .ok (.ifCond .ge 9, 3) := by decide +kernel
theorem dX12_copy_45 : decode cX12_copy 45 = .ok (.aload_n 0, 1) := by decide +kernel
theorem dX12_copy_46 : decode cX12_copy 46 = .ok (.iconst 1, 1) := by decide +kernel
theorem dX12_copy_47 : decode cX12_copy 47 = .ok (.invokevirtual 68, 3) := by decide +kernel
theorem dX12_copy_50 : decode cX12_copy 50 = .ok (.ireturn, 1) := by decide +kernel
theorem dX12_copy_51 : decode cX12_copy 51 = .ok (.aload_n 0, 1) := by decide +kernel
theorem dX12_copy_52 : decode cX12_copy 52 = .ok (.getfield 7, 3) := by decide +kernel
theorem dX12_copy_55 : decode cX12_copy 55 = .ok (.iload_n 1, 1) := by decide +kernel
theorem dX12_copy_56 : decode cX12_copy 56 = .ok (.iaload, 1) := by decide +kernel
theorem dX12_copy_57 : decode cX12_copy 57 = .ok (.aload_n 0, 1) := by decide +kernel
theorem dX12_copy_58 : decode cX12_copy 58 = .ok (.getfield 7, 3) := by decide +kernel
theorem dX12_copy_61 : decode cX12_copy 61 = .ok (.iload_n 3, 1) := by decide +kernel
theorem dX12_copy_62 : decode cX12_copy 62 = .ok (.iaload, 1) := by decide +kernel
theorem dX12_copy_63 : decode cX12_copy 63 = .ok (.if_icmp .eq 9, 3) := by decide +kernel
theorem dX12_copy_66 : decode cX12_copy 66 = .ok (.aload_n 0, 1) := by decide +kernel
theorem dX12_copy_67 : decode cX12_copy 67 = .ok (.iconst 5, 1) := by decide +kernel
theorem dX12_copy_68 : decode cX12_copy 68 = .ok (.invokevirtual 68, 3) := by decide +kernel
theorem dX12_copy_71 : decode cX12_copy 71 = .ok (.ireturn, 1) := by decide +kernel
theorem dX12_copy_72 : decode cX12_copy 72 = .ok (.iload_n 2, 1) := by decide +kernel
theorem dX12_copy_73 : decode cX12_copy 73 = .ok (.ifCond .lt 48, 3) := by decide +kernel
theorem dX12_copy_76 : decode cX12_copy 76 = .ok (.iload 4, 2) := by decide +kernel
theorem dX12_copy_78 : decode cX12_copy 78 = .ok (.ifCond .lt 43, 3) := by decide +kernel
theorem dX12_copy_81 : decode cX12_copy 81 = .ok (.iload 5, 2) := by decide +kernel
theorem dX12_copy_83 : decode cX12_copy 83 = .ok (.ifCond .lt 38, 3) := by decide +kernel
theorem dX12_copy_86 : decode cX12_copy 86 = .ok (.iload_n 2, 1) := by decide +kernel
theorem dX12_copy_87 : decode cX12_copy 87 = .ok (.i2l, 1) := by decide +kernel
theorem dX12_copy_88 : decode cX12_copy 88 = .ok (.iload 5, 2) := by decide +kernel
theorem dX12_copy_90 : decode cX12_copy 90 = .ok (.i2l, 1) := by decide +kernel
theorem dX12_copy_91 : decode cX12_copy 91 = .ok (.ladd, 1) := by decide +kernel
theorem dX12_copy_92 : decode cX12_copy 92 = .ok (.aload_n 0, 1) := by decide +kernel
theorem dX12_copy_93 : decode cX12_copy 93 = .ok (.getfield 13, 3) := by decide +kernel
theorem dX12_copy_96 : decode cX12_copy 96 = .ok (.iload_n 1, 1) := by decide +kernel
theorem dX12_copy_97 : decode cX12_copy 97 = .ok (.iaload, 1) := by decide +kernel
theorem dX12_copy_98 : decode cX12_copy 98 = .ok (.i2l, 1) := by decide +kernel
theorem dX12_copy_99 : decode cX12_copy 99 = .ok (.lcmp, 1) := by decide +kernel
theorem dX12_copy_100 : decode cX12_copy 100 = .ok (.ifCond .gt 21, 3) := by decide +kernel
theorem dX12_copy_103 : decode cX12_copy 103 = .ok (.iload 4, 2) := by decide +kernel
theorem dX12_copy_105 : decode cX12_copy 105 = .ok (.i2l, 1) := by decide +kernel
theorem dX12_copy_106 : decode cX12_copy 106 = .ok (.iload 5, 2) := by decide +kernel
theorem dX12_copy_108 : decode cX12_copy 108 = .ok (.i2l, 1) := by decide +kernel
theorem dX12_copy_109 : decode cX12_copy 109 = .ok (.ladd, 1) := by decide +kernel
theorem dX12_copy_110 : decode cX12_copy 110 = .ok (.aload_n 0, 1) := by decide +kernel
theorem dX12_copy_111 : decode cX12_copy 111 = .ok (.getfield 13, 3) := by decide +kernel
theorem dX12_copy_114 : decode cX12_copy 114 = .ok (.iload_n 3, 1) := by decide +kernel
theorem dX12_copy_115 : decode cX12_copy 115 = .ok (.iaload, 1) := by decide +kernel
theorem dX12_copy_116 : decode cX12_copy 116 = .ok (.i2l, 1) := by decide +kernel
theorem dX12_copy_117 : decode cX12_copy 117 = .ok (.lcmp, 1) := by decide +kernel
theorem dX12_copy_118 : decode cX12_copy 118 = .ok (.ifCond .le 9, 3) := by decide +kernel
theorem dX12_copy_121 : decode cX12_copy 121 = .ok (.aload_n 0, 1) := by decide +kernel
theorem dX12_copy_122 : decode cX12_copy 122 = .ok (.iconst 2, 1) := by decide +kernel
theorem dX12_copy_123 : decode cX12_copy 123 = .ok (.invokevirtual 68, 3) := by decide +kernel
theorem dX12_copy_126 : decode cX12_copy 126 = .ok (.ireturn, 1) := by decide +kernel
theorem dX12_copy_127 : decode cX12_copy 127 = .ok (.iload_n 2, 1) := by decide +kernel
theorem dX12_copy_128 : decode cX12_copy 128 = .ok (.iload 4, 2) := by decide +kernel
theorem dX12_copy_130 : decode cX12_copy 130 = .ok (.if_icmp .lt 7, 3) := by decide +kernel
theorem dX12_copy_133 : decode cX12_copy 133 = .ok (.iconst 1, 1) := by decide +kernel
theorem dX12_copy_134 : decode cX12_copy 134 = .ok (.goto 4, 3) := by decide +kernel
theorem dX12_copy_137 : decode cX12_copy 137 = .ok (.iconst 0, 1) := by decide +kernel
theorem dX12_copy_138 : decode cX12_copy 138 = .ok (.istore 6, 2) := by decide +kernel
theorem dX12_copy_140 : decode cX12_copy 140 = .ok (.iconst 0, 1) := by decide +kernel
theorem dX12_copy_141 : decode cX12_copy 141 = .ok (.istore 7, 2) := by decide +kernel
theorem dX12_copy_143 : decode cX12_copy 143 = .ok (.iload 7, 2) := by decide +kernel
theorem dX12_copy_145 : decode cX12_copy 145 = .ok (.iload 5, 2) := by decide +kernel
theorem dX12_copy_147 : decode cX12_copy 147 = .ok (.if_icmp .ge 57, 3) := by decide +kernel
theorem dX12_copy_150 : decode cX12_copy 150 = .ok (.iload 6, 2) := by decide +kernel
theorem dX12_copy_152 : decode cX12_copy 152 = .ok (.ifCond .eq 8, 3) := by decide +kernel
theorem dX12_copy_155 : decode cX12_copy 155 = .ok (.iload 7, 2) := by decide +kernel
theorem dX12_copy_157 : decode cX12_copy 157 = .ok (.goto 10, 3) := by decide +kernel
theorem dX12_copy_160 : decode cX12_copy 160 = .ok (.iload 5, 2) := by decide +kernel
theorem dX12_copy_162 : decode cX12_copy 162 = .ok (.iconst 1, 1) := by decide +kernel
theorem dX12_copy_163 : decode cX12_copy 163 = .ok (.isub, 1) := by decide +kernel
theorem dX12_copy_164 : decode cX12_copy 164 = .ok (.iload 7, 2) := by decide +kernel
theorem dX12_copy_166 : decode cX12_copy 166 = .ok (.isub, 1) := by decide +kernel
theorem dX12_copy_167 : decode cX12_copy 167 = .ok (.istore 8, 2) := by decide +kernel
theorem dX12_copy_169 : decode cX12_copy 169 = .ok (.aload_n 0, 1) := by decide +kernel
theorem dX12_copy_170 : decode cX12_copy 170 = .ok (.getfield 16, 3) := by decide +kernel
theorem dX12_copy_173 : decode cX12_copy 173 = .ok (.bipush 40, 2) := by decide +kernel
theorem dX12_copy_175 : decode cX12_copy 175 = .ok (.iload_n 3, 1) := by decide +kernel
theorem dX12_copy_176 : decode cX12_copy 176 = .ok (.imul, 1) := by decide +kernel
theorem dX12_copy_177 : decode cX12_copy 177 = .ok (.iload 4, 2) := by decide +kernel
theorem dX12_copy_179 : decode cX12_copy 179 = .ok (.iadd, 1) := by decide +kernel
theorem dX12_copy_180 : decode cX12_copy 180 = .ok (.iload 8, 2) := by decide +kernel
theorem dX12_copy_182 : decode cX12_copy 182 = .ok (.iadd, 1) := by decide +kernel
theorem dX12_copy_183 : decode cX12_copy 183 = .ok (.aload_n 0, 1) := by decide +kernel
theorem dX12_copy_184 : decode cX12_copy 184 = .ok (.getfield 16, 3) := by decide +kernel
theorem dX12_copy_187 : decode cX12_copy 187 = .ok (.bipush 40, 2) := by decide +kernel
theorem dX12_copy_189 : decode cX12_copy 189 = .ok (.iload_n 1, 1) := by decide +kernel
theorem dX12_copy_190 : decode cX12_copy 190 = .ok (.imul, 1) := by decide +kernel
theorem dX12_copy_191 : decode cX12_copy 191 = .ok (.iload_n 2, 1) := by decide +kernel
theorem dX12_copy_192 : decode cX12_copy 192 = .ok (.iadd, 1) := by decide +kernel
theorem dX12_copy_193 : decode cX12_copy 193 = .ok (.iload 8, 2) := by decide +kernel
theorem dX12_copy_195 : decode cX12_copy 195 = .ok (.iadd, 1) := by decide +kernel
theorem dX12_copy_196 : decode cX12_copy 196 = .ok (.iaload, 1) := by decide +kernel
theorem dX12_copy_197 : decode cX12_copy 197 = .ok (.iastore, 1) := by decide +kernel
theorem dX12_copy_198 : decode cX12_copy 198 = .ok (.iinc 7 1, 3) := by decide +kernel
theorem dX12_copy_201 : decode cX12_copy 201 = .ok (.goto (-58), 3) := by decide +kernel
theorem dX12_copy_204 : decode cX12_copy 204 = .ok (.iload 5, 2) := by decide +kernel
theorem dX12_copy_206 : decode cX12_copy 206 = .ok (.ireturn, 1) := by decide +kernel
theorem dX12_drop_0 : decode cX12_drop 0 = .ok (.aload_n 0, 1) := by decide +kernel
theorem dX12_drop_1 : decode cX12_drop 1 = .ok (.iconst 0, 1) := by decide +kernel
theorem dX12_drop_2 : decode cX12_drop 2 = .ok (.putfield 47, 3) := by decide +kernel
theorem dX12_drop_5 : decode cX12_drop 5 = .ok (.iload_n 1, 1) := by decide +kernel
theorem dX12_drop_6 : decode cX12_drop 6 = .ok (.invokestatic 61, 3) := by decide +kernel
theorem dX12_drop_9 : decode cX12_drop 9 = .ok (.ifCond .ne 6, 3) := by decide +kernel
theorem dX12_drop_12 : decode cX12_drop 12 = .ok (.ldc 67, 2) := by decide +kernel
theorem dX12_drop_14 : decode cX12_drop 14 = .ok (.ireturn, 1) := by decide +kernel
theorem dX12_drop_15 : decode cX12_drop 15 = .ok (.aload_n 0, 1) := by decide +kernel
theorem dX12_drop_16 : decode cX12_drop 16 = .ok (.iconst 0, 1) := by decide +kernel
theorem dX12_drop_17 : decode cX12_drop 17 = .ok (.putfield 51, 3) := by decide +kernel
theorem dX12_drop_20 : decode cX12_drop 20 = .ok (.aload_n 0, 1) := by decide +kernel
theorem dX12_drop_21 : decode cX12_drop 21 = .ok (.getfield 7, 3) := by decide +kernel
theorem dX12_drop_24 : decode cX12_drop 24 = .ok (.iload_n 1, 1) := by decide +kernel
theorem dX12_drop_25 : decode cX12_drop 25 = .ok (.iaload, 1) := by decide +kernel
theorem dX12_drop_26 : decode cX12_drop 26 = .ok (.ifCond .ge 9, 3) := by decide +kernel
theorem dX12_drop_29 : decode cX12_drop 29 = .ok (.aload_n 0, 1) := by decide +kernel
theorem dX12_drop_30 : decode cX12_drop 30 = .ok (.iconst 1, 1) := by decide +kernel
theorem dX12_drop_31 : decode cX12_drop 31 = .ok (.invokevirtual 68, 3) := by decide +kernel
theorem dX12_drop_34 : decode cX12_drop 34 = .ok (.ireturn, 1) := by decide +kernel
theorem dX12_drop_35 : decode cX12_drop 35 = .ok (.aload_n 0, 1) := by decide +kernel
theorem dX12_drop_36 : decode cX12_drop 36 = .ok (.getfield 7, 3) := by decide +kernel
theorem dX12_drop_39 : decode cX12_drop 39 = .ok (.iload_n 1, 1) := by decide +kernel
theorem dX12_drop_40 : decode cX12_drop 40 = .ok (.iconst (-1), 1) := by decide +kernel
theorem dX12_drop_41 : decode cX12_drop 41 = .ok (.iastore, 1) := by decide +kernel
theorem dX12_drop_42 : decode cX12_drop 42 = .ok (.aload_n 0, 1) := by decide +kernel
theorem dX12_drop_43 : decode cX12_drop 43 = .ok (.getfield 13, 3) := by decide +kernel
theorem dX12_drop_46 : decode cX12_drop 46 = .ok (.iload_n 1, 1) := by decide +kernel
theorem dX12_drop_47 : decode cX12_drop 47 = .ok (.iaload, 1) := by decide +kernel
theorem dX12_drop_48 : decode cX12_drop 48 = .ok (.ireturn, 1) := by decide +kernel
theorem dX12_feed_0 : decode cX12_feed 0 = .ok (.aload_n 0, 1) := by decide +kernel
theorem dX12_feed_1 : decode cX12_feed 1 = .ok (.iconst 0, 1) := by decide +kernel
theorem dX12_feed_2 : decode cX12_feed 2 = .ok (.putfield 47, 3) := by decide +kernel
theorem dX12_feed_5 : decode cX12_feed 5 = .ok (.iload_n 1, 1) := by decide +kernel
theorem dX12_feed_6 : decode cX12_feed 6 = .ok (.i2l, 1) := by decide +kernel
theorem dX12_feed_7 : decode cX12_feed 7 = .ok (.lconst 0, 1) := by decide +kernel
theorem dX12_feed_8 : decode cX12_feed 8 = .ok (.ldc2_w 72, 3) := by decide +kernel
theorem dX12_feed_11 : decode cX12_feed 11 = .ok (.invokestatic 57, 3) := by decide +kernel
theorem dX12_feed_14 : decode cX12_feed 14 = .ok (.ifCond .ne 6, 3) := by decide +kernel
theorem dX12_feed_17 : decode cX12_feed 17 = .ok (.ldc 67, 2) := by decide +kernel
theorem dX12_feed_19 : decode cX12_feed 19 = .ok (.ireturn, 1) := by decide +kernel
theorem dX12_feed_20 : decode cX12_feed 20 = .ok (.aload_n 0, 1) := by decide +kernel
theorem dX12_feed_21 : decode cX12_feed 21 = .ok (.getfield 74, 3) := by decide +kernel
theorem dX12_feed_24 : decode cX12_feed 24 = .ok (.sipush 140, 3) := by decide +kernel
theorem dX12_feed_27 : decode cX12_feed 27 = .ok (.if_icmp .ne 6, 3) := by decide +kernel
theorem dX12_feed_30 : decode cX12_feed 30 = .ok (.ldc 77, 2) := by decide +kernel
theorem dX12_feed_32 : decode cX12_feed 32 = .ok (.ireturn, 1) := by decide +kernel
theorem dX12_feed_33 : decode cX12_feed 33 = .ok (.aload_n 0, 1) := by decide +kernel
theorem dX12_feed_34 : decode cX12_feed 34 = .ok (.getfield 31, 3) := by decide +kernel
theorem dX12_feed_37 : decode cX12_feed 37 = .ok (.aload_n 0, 1) := by decide +kernel
theorem dX12_feed_38 : decode cX12_feed 38 = .ok (.getfield 74, 3) := by decide +kernel
theorem dX12_feed_41 : decode cX12_feed 41 = .ok (.iload_n 1, 1) := by decide +kernel
theorem dX12_feed_42 : decode cX12_feed 42 = .ok (.iastore, 1) := by decide +kernel
theorem dX12_feed_43 : decode cX12_feed 43 = .ok (.aload_n 0, 1) := by decide +kernel
theorem dX12_feed_44 : decode cX12_feed 44 = .ok (.dup, 1) := by decide +kernel
theorem dX12_feed_45 : decode cX12_feed 45 = .ok (.getfield 74, 3) := by decide +kernel
theorem dX12_feed_48 : decode cX12_feed 48 = .ok (.iconst 1, 1) := by decide +kernel
theorem dX12_feed_49 : decode cX12_feed 49 = .ok (.iadd, 1) := by decide +kernel
theorem dX12_feed_50 : decode cX12_feed 50 = .ok (.putfield 74, 3) := by decide +kernel
theorem dX12_feed_53 : decode cX12_feed 53 = .ok (.aload_n 0, 1) := by decide +kernel
theorem dX12_feed_54 : decode cX12_feed 54 = .ok (.getfield 74, 3) := by decide +kernel
theorem dX12_feed_57 : decode cX12_feed 57 = .ok (.ireturn, 1) := by decide +kernel
theorem dX12_bad_0 : decode cX12_bad 0 = .ok (.aload_n 0, 1) := by decide +kernel
theorem dX12_bad_1 : decode cX12_bad 1 = .ok (.getfield 78, 3) := by decide +kernel
theorem dX12_bad_4 : decode cX12_bad 4 = .ok (.ifCond .ne 16, 3) := by decide +kernel
theorem dX12_bad_7 : decode cX12_bad 7 = .ok (.aload_n 0, 1) := by decide +kernel
theorem dX12_bad_8 : decode cX12_bad 8 = .ok (.iload_n 1, 1) := by decide +kernel
theorem dX12_bad_9 : decode cX12_bad 9 = .ok (.putfield 78, 3) := by decide +kernel
theorem dX12_bad_12 : decode cX12_bad 12 = .ok (.aload_n 0, 1) := by decide +kernel
theorem dX12_bad_13 : decode cX12_bad 13 = .ok (.aload_n 0, 1) := by decide +kernel
theorem dX12_bad_14 : decode cX12_bad 14 = .ok (.getfield 81, 3) := by decide +kernel
theorem dX12_bad_17 : decode cX12_bad 17 = .ok (.putfield 84, 3) := by decide +kernel
theorem dX12_bad_20 : decode cX12_bad 20 = .ok (.return_, 1) := by decide +kernel
theorem dX12_nextToken_0 : decode cX12_nextToken 0 = .ok (.aload_n 0, 1) := by decide +kernel
theorem dX12_nextToken_1 : decode cX12_nextToken 1 = .ok (.aload_n 0, 1) := by decide +kernel
theorem dX12_nextToken_2 : decode cX12_nextToken 2 = .ok (.getfield 87, 3) := by decide +kernel
theorem dX12_nextToken_5 : decode cX12_nextToken 5 = .ok (.putfield 81, 3) := by decide +kernel
theorem dX12_nextToken_8 : decode cX12_nextToken 8 = .ok (.aload_n 0, 1) := by decide +kernel
theorem dX12_nextToken_9 : decode cX12_nextToken 9 = .ok (.aload_n 0, 1) := by decide +kernel
theorem dX12_nextToken_10 : decode cX12_nextToken 10 = .ok (.getfield 87, 3) := by decide +kernel
theorem dX12_nextToken_13 : decode cX12_nextToken 13 = .ok (.aload_n 0, 1) := by decide +kernel
theorem dX12_nextToken_14 : decode cX12_nextToken 14 = .ok (.getfield 74, 3) := by decide +kernel
theorem dX12_nextToken_17 : decode cX12_nextToken 17 = .ok (.if_icmp .ge 15, 3) := by decide +kernel
theorem dX12_nextToken_20 : decode cX12_nextToken 20 = .ok (.aload_n 0, 1) := by decide +kernel
theorem dX12_nextToken_21 : decode cX12_nextToken 21 = .ok (.getfield 31, 3) := by decide +kernel
theorem dX12_nextToken_24 : decode cX12_nextToken 24 = .ok (.aload_n 0, 1) := by decide +kernel
theorem dX12_nextToken_25 : decode cX12_nextToken 25 = .ok (.getfield 87, 3) := by decide +kernel
theorem dX12_nextToken_28 : decode cX12_nextToken 28 = .ok (.iaload, 1) := by decide +kernel
theorem dX12_nextToken_29 : decode cX12_nextToken 29 = .ok (.goto 5, 3) := by decide +kernel
theorem dX12_nextToken_32 : decode cX12_nextToken 32 = .ok (.ldc 90, 2) := by decide +kernel
theorem dX12_nextToken_34 : decode cX12_nextToken 34 = .ok (.putfield 91, 3) := by decide +kernel
theorem dX12_nextToken_37 : decode cX12_nextToken 37 = .ok (.aload_n 0, 1) := by decide +kernel
theorem dX12_nextToken_38 : decode cX12_nextToken 38 = .ok (.aload_n 0, 1) := by decide +kernel
theorem dX12_nextToken_39 : decode cX12_nextToken 39 = .ok (.getfield 87, 3) := by decide +kernel
theorem dX12_nextToken_42 : decode cX12_nextToken 42 = .ok (.aload_n 0, 1) := by decide +kernel
theorem dX12_nextToken_43 : decode cX12_nextToken 43 = .ok (.getfield 74, 3) := by decide +kernel
theorem dX12_nextToken_46 : decode cX12_nextToken 46 = .ok (.if_icmp .ne 7, 3) := by decide +kernel
theorem dX12_nextToken_49 : decode cX12_nextToken 49 = .ok (.iconst 1, 1) := by decide +kernel
theorem dX12_nextToken_50 : decode cX12_nextToken 50 = .ok (.goto 68, 3) := by decide +kernel
theorem dX12_nextToken_53 : decode cX12_nextToken 53 = .ok (.aload_n 0, 1) := by decide +kernel
theorem dX12_nextToken_54 : decode cX12_nextToken 54 = .ok (.getfield 91, 3) := by decide +kernel
theorem dX12_nextToken_57 : decode cX12_nextToken 57 = .ok (.i2l, 1) := by decide +kernel
theorem dX12_nextToken_58 : decode cX12_nextToken 58 = .ok (.ldc2_w 94, 3) := by decide +kernel
theorem dX12_nextToken_61 : decode cX12_nextToken 61 = .ok (.ldc2_w 96, 3) := by decide +kernel
theorem dX12_nextToken_64 : decode cX12_nextToken 64 = .ok (.invokestatic 57, 3) := by decide +kernel
theorem dX12_nextToken_67 : decode cX12_nextToken 67 = .ok (.ifCond .eq 7, 3) := by decide +kernel
theorem dX12_nextToken_70 : decode cX12_nextToken 70 = .ok (.iconst 2, 1) := by decide +kernel
theorem dX12_nextToken_71 : decode cX12_nextToken 71 = .ok (.goto 47, 3) := by decide +kernel
theorem dX12_nextToken_74 : decode cX12_nextToken 74 = .ok (.aload_n 0, 1) := by decide +kernel
theorem dX12_nextToken_75 : decode cX12_nextToken 75 = .ok (.getfield 91, 3) := by decide +kernel
theorem dX12_nextToken_78 : decode cX12_nextToken 78 = .ok (.i2l, 1) := by decide +kernel
theorem dX12_nextToken_79 : decode cX12_nextToken 79 = .ok (.ldc2_w 98, 3) := by decide +kernel
theorem dX12_nextToken_82 : decode cX12_nextToken 82 = .ok (.ldc2_w 100, 3) := by decide +kernel
theorem dX12_nextToken_85 : decode cX12_nextToken 85 = .ok (.invokestatic 57, 3) := by decide +kernel
theorem dX12_nextToken_88 : decode cX12_nextToken 88 = .ok (.ifCond .eq 7, 3) := by decide +kernel
theorem dX12_nextToken_91 : decode cX12_nextToken 91 = .ok (.iconst 3, 1) := by decide +kernel
theorem dX12_nextToken_92 : decode cX12_nextToken 92 = .ok (.goto 26, 3) := by decide +kernel
theorem dX12_nextToken_95 : decode cX12_nextToken 95 = .ok (.aload_n 0, 1) := by decide +kernel
theorem dX12_nextToken_96 : decode cX12_nextToken 96 = .ok (.getfield 91, 3) := by decide +kernel
theorem dX12_nextToken_99 : decode cX12_nextToken 99 = .ok (.bipush 44, 2) := by decide +kernel
theorem dX12_nextToken_101 : decode cX12_nextToken 101 = .ok (.if_icmp .eq 12, 3) := by decide +kernel
theorem dX12_nextToken_104 : decode cX12_nextToken 104 = .ok (.aload_n 0, 1) := by decide +kernel
theorem dX12_nextToken_105 : decode cX12_nextToken 105 = .ok (.getfield 91, 3) := by decide +kernel
theorem dX12_nextToken_108 : decode cX12_nextToken 108 = .ok (.bipush 59, 2) := by decide +kernel
theorem dX12_nextToken_110 : decode cX12_nextToken 110 = .ok (.if_icmp .ne 7, 3) := by decide +kernel
theorem dX12_nextToken_113 : decode cX12_nextToken 113 = .ok (.iconst 4, 1) := by decide +kernel
theorem dX12_nextToken_114 : decode cX12_nextToken 114 = .ok (.goto 4, 3) := by decide +kernel
theorem dX12_nextToken_117 : decode cX12_nextToken 117 = .ok (.iconst 0, 1) := by decide +kernel
theorem dX12_nextToken_118 : decode cX12_nextToken 118 = .ok (.putfield 102, 3) := by decide +kernel
theorem dX12_nextToken_121 : decode cX12_nextToken 121 = .ok (.aload_n 0, 1) := by decide +kernel
theorem dX12_nextToken_122 : decode cX12_nextToken 122 = .ok (.dup, 1) := by decide +kernel
theorem dX12_nextToken_123 : decode cX12_nextToken 123 = .ok (.getfield 87, 3) := by decide +kernel
theorem dX12_nextToken_126 : decode cX12_nextToken 126 = .ok (.aload_n 0, 1) := by decide +kernel
theorem dX12_nextToken_127 : decode cX12_nextToken 127 = .ok (.getfield 87, 3) := by decide +kernel
theorem dX12_nextToken_130 : decode cX12_nextToken 130 = .ok (.aload_n 0, 1) := by decide +kernel
theorem dX12_nextToken_131 : decode cX12_nextToken 131 = .ok (.getfield 74, 3) := by decide +kernel
theorem dX12_nextToken_134 : decode cX12_nextToken 134 = .ok (.if_icmp .ge 7, 3) := by decide +kernel
theorem dX12_nextToken_137 : decode cX12_nextToken 137 = .ok (.iconst 1, 1) := by decide +kernel
theorem dX12_nextToken_138 : decode cX12_nextToken 138 = .ok (.goto 4, 3) := by decide +kernel
theorem dX12_nextToken_141 : decode cX12_nextToken 141 = .ok (.iconst 0, 1) := by decide +kernel
theorem dX12_nextToken_142 : decode cX12_nextToken 142 = .ok (.iadd, 1) := by decide +kernel
theorem dX12_nextToken_143 : decode cX12_nextToken 143 = .ok (.putfield 87, 3) := by decide +kernel
theorem dX12_nextToken_146 : decode cX12_nextToken 146 = .ok (.aload_n 0, 1) := by decide +kernel
theorem dX12_nextToken_147 : decode cX12_nextToken 147 = .ok (.getfield 102, 3) := by decide +kernel
theorem dX12_nextToken_150 : decode cX12_nextToken 150 = .ok (.iconst 3, 1) := by decide +kernel
theorem dX12_nextToken_151 : decode cX12_nextToken 151 = .ok (.if_icmp .ne 126, 3) := by decide +kernel
theorem dX12_nextToken_154 : decode cX12_nextToken 154 = .ok (.aload_n 0, 1) := by decide +kernel
theorem dX12_nextToken_155 : decode cX12_nextToken 155 = .ok (.dup, 1) := by decide +kernel
theorem dX12_nextToken_156 : decode cX12_nextToken 156 = .ok (.getfield 91, 3) := by decide +kernel
theorem dX12_nextToken_159 : decode cX12_nextToken 159 = .ok (.bipush 48, 2) := by decide +kernel
theorem dX12_nextToken_161 : decode cX12_nextToken 161 = .ok (.isub, 1) := by decide +kernel
theorem dX12_nextToken_162 : decode cX12_nextToken 162 = .ok (.putfield 91, 3) := by decide +kernel
theorem dX12_nextToken_165 : decode cX12_nextToken 165 = .ok (.aload_n 0, 1) := by decide +kernel
theorem dX12_nextToken_166 : decode cX12_nextToken 166 = .ok (.getfield 87, 3) := by decide +kernel
theorem dX12_nextToken_169 : decode cX12_nextToken 169 = .ok (.aload_n 0, 1) := by decide +kernel
theorem dX12_nextToken_170 : decode cX12_nextToken 170 = .ok (.getfield 74, 3) := by decide +kernel
theorem dX12_nextToken_173 : decode cX12_nextToken 173 = .ok (.if_icmp .ge 82, 3) := by decide +kernel
theorem dX12_nextToken_176 : decode cX12_nextToken 176 = .ok (.aload_n 0, 1) := by decide +kernel
theorem dX12_nextToken_177 : decode cX12_nextToken 177 = .ok (.getfield 31, 3) := by decide +kernel
theorem dX12_nextToken_180 : decode cX12_nextToken 180 = .ok (.aload_n 0, 1) := by decide +kernel
theorem dX12_nextToken_181 : decode cX12_nextToken 181 = .ok (.getfield 87, 3) := by decide +kernel
theorem dX12_nextToken_184 : decode cX12_nextToken 184 = .ok (.iaload, 1) := by decide +kernel
theorem dX12_nextToken_185 : decode cX12_nextToken 185 = .ok (.i2l, 1) := by decide +kernel
theorem dX12_nextToken_186 : decode cX12_nextToken 186 = .ok (.ldc2_w 98, 3) := by decide +kernel
theorem dX12_nextToken_189 : decode cX12_nextToken 189 = .ok (.ldc2_w 100, 3) := by decide +kernel
theorem dX12_nextToken_192 : decode cX12_nextToken 192 = .ok (.invokestatic 57, 3) := by decide +kernel
theorem dX12_nextToken_195 : decode cX12_nextToken 195 = .ok (.ifCond .eq 60, 3) := by decide +kernel
theorem dX12_nextToken_198 : decode cX12_nextToken 198 = .ok (.aload_n 0, 1) := by decide +kernel
theorem dX12_nextToken_199 : decode cX12_nextToken 199 = .ok (.aload_n 0, 1) := by decide +kernel
theorem dX12_nextToken_200 : decode cX12_nextToken 200 = .ok (.getfield 87, 3) := by decide +kernel
theorem dX12_nextToken_203 : decode cX12_nextToken 203 = .ok (.aload_n 0, 1) := by decide +kernel
theorem dX12_nextToken_204 : decode cX12_nextToken 204 = .ok (.getfield 81, 3) := by decide +kernel
theorem dX12_nextToken_207 : decode cX12_nextToken 207 = .ok (.isub, 1) := by decide +kernel
theorem dX12_nextToken_208 : decode cX12_nextToken 208 = .ok (.iconst 2, 1) := by decide +kernel
theorem dX12_nextToken_209 : decode cX12_nextToken 209 = .ok (.if_icmp .ge 26, 3) := by decide +kernel
theorem dX12_nextToken_212 : decode cX12_nextToken 212 = .ok (.bipush 10, 2) := by decide +kernel
theorem dX12_nextToken_214 : decode cX12_nextToken 214 = .ok (.aload_n 0, 1) := by decide +kernel
theorem dX12_nextToken_215 : decode cX12_nextToken 215 = .ok (.getfield 91, 3) := by decide +kernel
theorem dX12_nextToken_218 : decode cX12_nextToken 218 = .ok (.imul, 1) := by decide +kernel
theorem dX12_nextToken_219 : decode cX12_nextToken 219 = .ok (.aload_n 0, 1) := by decide +kernel
theorem dX12_nextToken_220 : decode cX12_nextToken 220 = .ok (.getfield 31, 3) := by decide +kernel
theorem dX12_nextToken_223 : decode cX12_nextToken 223 = .ok (.aload_n 0, 1) := by decide +kernel
theorem dX12_nextToken_224 : decode cX12_nextToken 224 = .ok (.getfield 87, 3) := by decide +kernel
theorem dX12_nextToken_227 : decode cX12_nextToken 227 = .ok (.iaload, 1) := by decide +kernel
theorem dX12_nextToken_228 : decode cX12_nextToken 228 = .ok (.iadd, 1) := by decide +kernel
theorem dX12_nextToken_229 : decode cX12_nextToken 229 = .ok (.bipush 48, 2) := by decide +kernel
theorem dX12_nextToken_231 : decode cX12_nextToken 231 = .ok (.isub, 1) := by decide +kernel
theorem dX12_nextToken_232 : decode cX12_nextToken 232 = .ok (.goto 7, 3) := by decide +kernel
theorem dX12_nextToken_235 : decode cX12_nextToken 235 = .ok (.aload_n 0, 1) := by decide +kernel
theorem dX12_nextToken_236 : decode cX12_nextToken 236 = .ok (.getfield 91, 3) := by decide +kernel
theorem dX12_nextToken_239 : decode cX12_nextToken 239 = .ok (.putfield 91, 3) := by decide +kernel
theorem dX12_nextToken_242 : decode cX12_nextToken 242 = .ok (.aload_n 0, 1) := by decide +kernel
theorem dX12_nextToken_243 : decode cX12_nextToken 243 = .ok (.dup, 1) := by decide +kernel
theorem dX12_nextToken_244 : decode cX12_nextToken 244 = .ok (.getfield 87, 3) := by decide +kernel
theorem dX12_nextToken_247 : decode cX12_nextToken 247 = .ok (.iconst 1, 1) := by decide +kernel
theorem dX12_nextToken_248 : decode cX12_nextToken 248 = .ok (.iadd, 1) := by decide +kernel
theorem dX12_nextToken_249 : decode cX12_nextToken 249 = .ok (.putfield 87, 3) := by decide +kernel
theorem dX12_nextToken_252 : decode cX12_nextToken 252 = .ok (.goto (-87), 3) := by decide +kernel
theorem dX12_nextToken_255 : decode cX12_nextToken 255 = .ok (.aload_n 0, 1) := by decide +kernel
theorem dX12_nextToken_256 : decode cX12_nextToken 256 = .ok (.aload_n 0, 1) := by decide +kernel
theorem dX12_nextToken_257 : decode cX12_nextToken 257 = .ok (.getfield 87, 3) := by decide +kernel
theorem dX12_nextToken_260 : decode cX12_nextToken 260 = .ok (.aload_n 0, 1) := by decide +kernel
theorem dX12_nextToken_261 : decode cX12_nextToken 261 = .ok (.getfield 81, 3) := by decide +kernel
theorem dX12_nextToken_264 : decode cX12_nextToken 264 = .ok (.isub, 1) := by decide +kernel
theorem dX12_nextToken_265 : decode cX12_nextToken 265 = .ok (.iconst 2, 1) := by decide +kernel
theorem dX12_nextToken_266 : decode cX12_nextToken 266 = .ok (.if_icmp .le 7, 3) := by decide +kernel
theorem dX12_nextToken_269 : decode cX12_nextToken 269 = .ok (.iconst 0, 1) := by decide +kernel
theorem dX12_nextToken_270 : decode cX12_nextToken 270 = .ok (.goto 4, 3) := by decide +kernel
theorem dX12_nextToken_273 : decode cX12_nextToken 273 = .ok (.iconst 3, 1) := by decide +kernel
theorem dX12_nextToken_274 : decode cX12_nextToken 274 = .ok (.putfield 102, 3) := by decide +kernel
theorem dX12_nextToken_277 : decode cX12_nextToken 277 = .ok (.return_, 1) := by decide +kernel
theorem dX12_must_0 : decode cX12_must 0 = .ok (.iload_n 1, 1) := by decide +kernel
theorem dX12_must_1 : decode cX12_must 1 = .ok (.ifCond .ne 8, 3) := by decide +kernel
theorem dX12_must_4 : decode cX12_must 4 = .ok (.aload_n 0, 1) := by decide +kernel
theorem dX12_must_5 : decode cX12_must 5 = .ok (.iconst 1, 1) := by decide +kernel
theorem dX12_must_6 : decode cX12_must 6 = .ok (.invokevirtual 105, 3) := by decide +kernel
theorem dX12_must_9 : decode cX12_must 9 = .ok (.aload_n 0, 1) := by decide +kernel
theorem dX12_must_10 : decode cX12_must 10 = .ok (.getfield 78, 3) := by decide +kernel
theorem dX12_must_13 : decode cX12_must 13 = .ok (.ifCond .ne 7, 3) := by decide +kernel
theorem dX12_must_16 : decode cX12_must 16 = .ok (.aload_n 0, 1) := by decide +kernel
theorem dX12_must_17 : decode cX12_must 17 = .ok (.invokevirtual 109, 3) := by decide +kernel
theorem dX12_must_20 : decode cX12_must 20 = .ok (.return_, 1) := by decide +kernel
theorem dX12_isLetter_0 : decode cX12_isLetter 0 = .ok (.aload_n 0, 1) := by decide +kernel
theorem dX12_isLetter_1 : decode cX12_isLetter 1 = .ok (.getfield 78, 3) := by decide +kernel
theorem dX12_isLetter_4 : decode cX12_isLetter 4 = .ok (.ifCond .ne 23, 3) := by decide +kernel
theorem dX12_isLetter_7 : decode cX12_isLetter 7 = .ok (.aload_n 0, 1) := by decide +kernel
theorem dX12_isLetter_8 : decode cX12_isLetter 8 = .ok (.getfield 102, 3) := by decide +kernel
theorem dX12_isLetter_11 : decode cX12_isLetter 11 = .ok (.iconst 2, 1) := by decide +kernel
theorem dX12_isLetter_12 : decode cX12_isLetter 12 = .ok (.if_icmp .ne 15, 3) := by decide +kernel
theorem dX12_isLetter_15 : decode cX12_isLetter 15 = .ok (.aload_n 0, 1) := by decide +kernel
theorem dX12_isLetter_16 : decode cX12_isLetter 16 = .ok (.getfield 91, 3) := by decide +kernel
theorem dX12_isLetter_19 : decode cX12_isLetter 19 = .ok (.iload_n 1, 1) := by decide +kernel
