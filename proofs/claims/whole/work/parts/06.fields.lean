theorem inT_0 : ∀ w ∈ u_ws RX0 TX0 5, w ∈ TT := fun w h => by
  obtain ⟨k, hk, rfl⟩ := List.mem_map.mp h
  have hk := List.mem_range.mp hk
  rcases (show k = 0 ∨ k = 1 ∨ k = 2 ∨ k = 3 ∨ k = 4 by omega) with rfl | rfl | rfl | rfl | rfl
  · exact tw_260
  · exact tw_262
  · exact tw_264
  · exact tw_266
  · exact tw_268
theorem inT_1 : ∀ w ∈ u_ws RX1 TX1 0, w ∈ TT := fun w h => by cases h
theorem inT_2 : ∀ w ∈ u_ws RX2 TX2 8, w ∈ TT := fun w h => by
  obtain ⟨k, hk, rfl⟩ := List.mem_map.mp h
  have hk := List.mem_range.mp hk
  rcases (show k = 0 ∨ k = 1 ∨ k = 2 ∨ k = 3 ∨ k = 4 ∨ k = 5 ∨ k = 6 ∨ k = 7 by omega) with rfl | rfl | rfl | rfl | rfl | rfl | rfl | rfl
  · exact tw_226
  · exact tw_228
  · exact tw_230
  · exact tw_232
  · exact tw_234
  · exact tw_236
  · exact tw_238
  · exact tw_240
theorem inT_3 : ∀ w ∈ u_ws RX3 TX3 0, w ∈ TT := fun w h => by cases h
theorem inT_4 : ∀ w ∈ u_ws RX4 TX4 0, w ∈ TT := fun w h => by cases h
theorem inT_5 : ∀ w ∈ u_ws RX5 TX5 15, w ∈ TT := fun w h => by
  obtain ⟨k, hk, rfl⟩ := List.mem_map.mp h
  have hk := List.mem_range.mp hk
  rcases (show k = 0 ∨ k = 1 ∨ k = 2 ∨ k = 3 ∨ k = 4 ∨ k = 5 ∨ k = 6 ∨ k = 7 ∨ k = 8 ∨ k = 9 ∨ k = 10 ∨ k = 11 ∨ k = 12 ∨ k = 13 ∨ k = 14 by omega) with rfl | rfl | rfl | rfl | rfl | rfl | rfl | rfl | rfl | rfl | rfl | rfl | rfl | rfl | rfl
  · exact tw_171
  · exact tw_173
  · exact tw_175
  · exact tw_177
  · exact tw_179
  · exact tw_181
  · exact tw_183
  · exact tw_185
  · exact tw_187
  · exact tw_189
  · exact tw_191
  · exact tw_193
  · exact tw_195
  · exact tw_197
  · exact tw_199
theorem inT_6 : ∀ w ∈ u_ws RX6 TX6 3, w ∈ TT := fun w h => by
  obtain ⟨k, hk, rfl⟩ := List.mem_map.mp h
  have hk := List.mem_range.mp hk
  rcases (show k = 0 ∨ k = 1 ∨ k = 2 by omega) with rfl | rfl | rfl
  · exact tw_39
  · exact tw_41
  · exact tw_43
theorem inT_7 : ∀ w ∈ u_ws RX7 TX7 0, w ∈ TT := fun w h => by cases h
theorem inT_8 : ∀ w ∈ u_ws RX8 TX8 0, w ∈ TT := fun w h => by cases h
theorem inT_9 : ∀ w ∈ u_ws RX9 TX9 8, w ∈ TT := fun w h => by
  obtain ⟨k, hk, rfl⟩ := List.mem_map.mp h
  have hk := List.mem_range.mp hk
  rcases (show k = 0 ∨ k = 1 ∨ k = 2 ∨ k = 3 ∨ k = 4 ∨ k = 5 ∨ k = 6 ∨ k = 7 by omega) with rfl | rfl | rfl | rfl | rfl | rfl | rfl | rfl
  · exact tw_64
  · exact tw_66
  · exact tw_68
  · exact tw_70
  · exact tw_72
  · exact tw_74
  · exact tw_76
  · exact tw_78
theorem inT_10 : ∀ w ∈ u_ws RX10 TX10 0, w ∈ TT := fun w h => by cases h
theorem inT_11 : ∀ w ∈ u_ws RX11 TX11 13, w ∈ TT := fun w h => by
  obtain ⟨k, hk, rfl⟩ := List.mem_map.mp h
  have hk := List.mem_range.mp hk
  rcases (show k = 0 ∨ k = 1 ∨ k = 2 ∨ k = 3 ∨ k = 4 ∨ k = 5 ∨ k = 6 ∨ k = 7 ∨ k = 8 ∨ k = 9 ∨ k = 10 ∨ k = 11 ∨ k = 12 by omega) with rfl | rfl | rfl | rfl | rfl | rfl | rfl | rfl | rfl | rfl | rfl | rfl | rfl
  · exact tw_284
  · exact tw_286
  · exact tw_288
  · exact tw_290
  · exact tw_292
  · exact tw_294
  · exact tw_296
  · exact tw_298
  · exact tw_300
  · exact tw_302
  · exact tw_304
  · exact tw_306
  · exact tw_308
theorem inT_12 : ∀ w ∈ u_ws RX12 TX12 27, w ∈ TT := fun w h => by
  obtain ⟨k, hk, rfl⟩ := List.mem_map.mp h
  have hk := List.mem_range.mp hk
  rcases (show k = 0 ∨ k = 1 ∨ k = 2 ∨ k = 3 ∨ k = 4 ∨ k = 5 ∨ k = 6 ∨ k = 7 ∨ k = 8 ∨ k = 9 ∨ k = 10 ∨ k = 11 ∨ k = 12 ∨ k = 13 ∨ k = 14 ∨ k = 15 ∨ k = 16 ∨ k = 17 ∨ k = 18 ∨ k = 19 ∨ k = 20 ∨ k = 21 ∨ k = 22 ∨ k = 23 ∨ k = 24 ∨ k = 25 ∨ k = 26 by omega) with rfl | rfl | rfl | rfl | rfl | rfl | rfl | rfl | rfl | rfl | rfl | rfl | rfl | rfl | rfl | rfl | rfl | rfl | rfl | rfl | rfl | rfl | rfl | rfl | rfl | rfl | rfl
  · exact tw_880
  · exact tw_882
  · exact tw_884
  · exact tw_886
  · exact tw_888
  · exact tw_890
  · exact tw_892
  · exact tw_894
  · exact tw_896
  · exact tw_898
  · exact tw_900
  · exact tw_902
  · exact tw_904
  · exact tw_906
  · exact tw_908
  · exact tw_910
  · exact tw_912
  · exact tw_914
  · exact tw_916
  · exact tw_918
  · exact tw_920
  · exact tw_922
  · exact tw_924
  · exact tw_926
  · exact tw_928
  · exact tw_930
  · exact tw_932
theorem fg_RX6_11 : jFG RX6 11 6 0 := ⟨RX6, TX6, 3, rfl, inT_6, by decide, rfl, tw_33⟩
theorem fg_RX11_117 : jFG RX11 117 6 0 := ⟨RX6, TX6, 3, rfl, inT_6, by decide, rfl, tw_34⟩
theorem fg_RX6_16 : jFG RX6 16 6 1 := ⟨RX6, TX6, 3, rfl, inT_6, by decide, rfl, tw_35⟩
theorem fg_RX11_110 : jFG RX11 110 6 1 := ⟨RX6, TX6, 3, rfl, inT_6, by decide, rfl, tw_36⟩
theorem fg_RX6_20 : jFG RX6 20 6 2 := ⟨RX6, TX6, 3, rfl, inT_6, by decide, rfl, tw_37⟩
theorem fg_RX11_126 : jFG RX11 126 6 2 := ⟨RX6, TX6, 3, rfl, inT_6, by decide, rfl, tw_38⟩
theorem fg_RX9_9 : jFG RX9 9 9 0 := ⟨RX9, TX9, 8, rfl, inT_9, by decide, rfl, tw_53⟩
theorem fg_RX9_15 : jFG RX9 15 9 1 := ⟨RX9, TX9, 8, rfl, inT_9, by decide, rfl, tw_54⟩
theorem fp_RX9_15 : jFP RX9 15 9 1 .int := ⟨RX9, TX9, 8, tyX9, rfl, inT_9, by decide, rfl, tw_54, tyX9_ok, nmX9, rfl, by decide +kernel⟩
theorem fg_RX11_129 : jFG RX11 129 9 1 := ⟨RX9, TX9, 8, rfl, inT_9, by decide, rfl, tw_55⟩
theorem fp_RX11_129 : jFP RX11 129 9 1 .int := ⟨RX9, TX9, 8, tyX9, rfl, inT_9, by decide, rfl, tw_55, tyX9_ok, nmX9, rfl, by decide +kernel⟩
theorem fg_RX9_87 : jFG RX9 87 9 2 := ⟨RX9, TX9, 8, rfl, inT_9, by decide, rfl, tw_56⟩
theorem fp_RX9_87 : jFP RX9 87 9 2 .int := ⟨RX9, TX9, 8, tyX9, rfl, inT_9, by decide, rfl, tw_56, tyX9_ok, nmX9, rfl, by decide +kernel⟩
theorem fg_RX11_156 : jFG RX11 156 9 2 := ⟨RX9, TX9, 8, rfl, inT_9, by decide, rfl, tw_57⟩
theorem fp_RX11_156 : jFP RX11 156 9 2 .int := ⟨RX9, TX9, 8, tyX9, rfl, inT_9, by decide, rfl, tw_57, tyX9_ok, nmX9, rfl, by decide +kernel⟩
theorem fg_RX11_143 : jFG RX11 143 9 3 := ⟨RX9, TX9, 8, rfl, inT_9, by decide, rfl, tw_58⟩
theorem fp_RX11_143 : jFP RX11 143 9 3 .int := ⟨RX9, TX9, 8, tyX9, rfl, inT_9, by decide, rfl, tw_58, tyX9_ok, nmX9, rfl, by decide +kernel⟩
theorem fg_RX9_93 : jFG RX9 93 9 3 := ⟨RX9, TX9, 8, rfl, inT_9, by decide, rfl, tw_59⟩
theorem fp_RX9_93 : jFP RX9 93 9 3 .int := ⟨RX9, TX9, 8, tyX9, rfl, inT_9, by decide, rfl, tw_59, tyX9_ok, nmX9, rfl, by decide +kernel⟩
theorem fg_RX9_90 : jFG RX9 90 9 4 := ⟨RX9, TX9, 8, rfl, inT_9, by decide, rfl, tw_60⟩
theorem fp_RX9_90 : jFP RX9 90 9 4 .int := ⟨RX9, TX9, 8, tyX9, rfl, inT_9, by decide, rfl, tw_60, tyX9_ok, nmX9, rfl, by decide +kernel⟩
theorem fg_RX9_34 : jFG RX9 34 9 5 := ⟨RX9, TX9, 8, rfl, inT_9, by decide, rfl, tw_61⟩
theorem fp_RX9_34 : jFP RX9 34 9 5 .int := ⟨RX9, TX9, 8, tyX9, rfl, inT_9, by decide, rfl, tw_61, tyX9_ok, nmX9, rfl, by decide +kernel⟩
theorem fg_RX9_62 : jFG RX9 62 9 6 := ⟨RX9, TX9, 8, rfl, inT_9, by decide, rfl, tw_62⟩
theorem fp_RX9_62 : jFP RX9 62 9 6 .int := ⟨RX9, TX9, 8, tyX9, rfl, inT_9, by decide, rfl, tw_62, tyX9_ok, nmX9, rfl, by decide +kernel⟩
theorem fg_RX9_24 : jFG RX9 24 9 7 := ⟨RX9, TX9, 8, rfl, inT_9, by decide, rfl, tw_63⟩
theorem fp_RX9_24 : jFP RX9 24 9 7 .int := ⟨RX9, TX9, 8, tyX9, rfl, inT_9, by decide, rfl, tw_63, tyX9_ok, nmX9, rfl, by decide +kernel⟩
theorem fg_RX5_9 : jFG RX5 9 5 0 := ⟨RX5, TX5, 15, rfl, inT_5, by decide, rfl, tw_130⟩
theorem fg_RX5_50 : jFG RX5 50 5 1 := ⟨RX5, TX5, 15, rfl, inT_5, by decide, rfl, tw_131⟩
theorem fp_RX5_50 : jFP RX5 50 5 1 .boolean := ⟨RX5, TX5, 15, tyX5, rfl, inT_5, by decide, rfl, tw_131, tyX5_ok, nmX5, rfl, by decide +kernel⟩
theorem fg_RX9_51 : jFG RX9 51 5 1 := ⟨RX5, TX5, 15, rfl, inT_5, by decide, rfl, tw_132⟩
theorem fp_RX9_51 : jFP RX9 51 5 1 .boolean := ⟨RX5, TX5, 15, tyX5, rfl, inT_5, by decide, rfl, tw_132, tyX5_ok, nmX5, rfl, by decide +kernel⟩
theorem fg_RX11_170 : jFG RX11 170 5 1 := ⟨RX5, TX5, 15, rfl, inT_5, by decide, rfl, tw_133⟩
theorem fp_RX11_170 : jFP RX11 170 5 1 .boolean := ⟨RX5, TX5, 15, tyX5, rfl, inT_5, by decide, rfl, tw_133, tyX5_ok, nmX5, rfl, by decide +kernel⟩
theorem fg_RX2_30 : jFG RX2 30 5 2 := ⟨RX5, TX5, 15, rfl, inT_5, by decide, rfl, tw_134⟩
theorem fp_RX2_30 : jFP RX2 30 5 2 .int := ⟨RX5, TX5, 15, tyX5, rfl, inT_5, by decide, rfl, tw_134, tyX5_ok, nmX5, rfl, by decide +kernel⟩
theorem fg_RX5_54 : jFG RX5 54 5 2 := ⟨RX5, TX5, 15, rfl, inT_5, by decide, rfl, tw_135⟩
theorem fp_RX5_54 : jFP RX5 54 5 2 .int := ⟨RX5, TX5, 15, tyX5, rfl, inT_5, by decide, rfl, tw_135, tyX5_ok, nmX5, rfl, by decide +kernel⟩
theorem fg_RX1_11 : jFG RX1 11 5 2 := ⟨RX5, TX5, 15, rfl, inT_5, by decide, rfl, tw_136⟩
theorem fp_RX1_11 : jFP RX1 11 5 2 .int := ⟨RX5, TX5, 15, tyX5, rfl, inT_5, by decide, rfl, tw_136, tyX5_ok, nmX5, rfl, by decide +kernel⟩
theorem fg_RX9_65 : jFG RX9 65 5 2 := ⟨RX5, TX5, 15, rfl, inT_5, by decide, rfl, tw_137⟩
theorem fp_RX9_65 : jFP RX9 65 5 2 .int := ⟨RX5, TX5, 15, tyX5, rfl, inT_5, by decide, rfl, tw_137, tyX5_ok, nmX5, rfl, by decide +kernel⟩
theorem fg_RX11_244 : jFG RX11 244 5 2 := ⟨RX5, TX5, 15, rfl, inT_5, by decide, rfl, tw_138⟩
theorem fp_RX11_244 : jFP RX11 244 5 2 .int := ⟨RX5, TX5, 15, tyX5, rfl, inT_5, by decide, rfl, tw_138, tyX5_ok, nmX5, rfl, by decide +kernel⟩
theorem fg_RX5_57 : jFG RX5 57 5 3 := ⟨RX5, TX5, 15, rfl, inT_5, by decide, rfl, tw_139⟩
theorem fp_RX5_57 : jFP RX5 57 5 3 .int := ⟨RX5, TX5, 15, tyX5, rfl, inT_5, by decide, rfl, tw_139, tyX5_ok, nmX5, rfl, by decide +kernel⟩
theorem fg_RX9_68 : jFG RX9 68 5 3 := ⟨RX5, TX5, 15, rfl, inT_5, by decide, rfl, tw_140⟩
theorem fp_RX9_68 : jFP RX9 68 5 3 .int := ⟨RX5, TX5, 15, tyX5, rfl, inT_5, by decide, rfl, tw_140, tyX5_ok, nmX5, rfl, by decide +kernel⟩
theorem fg_RX11_343 : jFG RX11 343 5 3 := ⟨RX5, TX5, 15, rfl, inT_5, by decide, rfl, tw_141⟩
theorem fp_RX11_343 : jFP RX11 343 5 3 .int := ⟨RX5, TX5, 15, tyX5, rfl, inT_5, by decide, rfl, tw_141, tyX5_ok, nmX5, rfl, by decide +kernel⟩
theorem fg_RX5_37 : jFG RX5 37 5 4 := ⟨RX5, TX5, 15, rfl, inT_5, by decide, rfl, tw_142⟩
theorem fp_RX5_37 : jFP RX5 37 5 4 .int := ⟨RX5, TX5, 15, tyX5, rfl, inT_5, by decide, rfl, tw_142, tyX5_ok, nmX5, rfl, by decide +kernel⟩
theorem fg_RX11_192 : jFG RX11 192 5 4 := ⟨RX5, TX5, 15, rfl, inT_5, by decide, rfl, tw_143⟩
theorem fp_RX11_192 : jFP RX11 192 5 4 .int := ⟨RX5, TX5, 15, tyX5, rfl, inT_5, by decide, rfl, tw_143, tyX5_ok, nmX5, rfl, by decide +kernel⟩
theorem fg_RX5_41 : jFG RX5 41 5 5 := ⟨RX5, TX5, 15, rfl, inT_5, by decide, rfl, tw_144⟩
theorem fp_RX5_41 : jFP RX5 41 5 5 .int := ⟨RX5, TX5, 15, tyX5, rfl, inT_5, by decide, rfl, tw_144, tyX5_ok, nmX5, rfl, by decide +kernel⟩
theorem fg_RX2_65 : jFG RX2 65 5 5 := ⟨RX5, TX5, 15, rfl, inT_5, by decide, rfl, tw_145⟩
theorem fp_RX2_65 : jFP RX2 65 5 5 .int := ⟨RX5, TX5, 15, tyX5, rfl, inT_5, by decide, rfl, tw_145, tyX5_ok, nmX5, rfl, by decide +kernel⟩
theorem fg_RX9_71 : jFG RX9 71 5 5 := ⟨RX5, TX5, 15, rfl, inT_5, by decide, rfl, tw_146⟩
theorem fp_RX9_71 : jFP RX9 71 5 5 .int := ⟨RX5, TX5, 15, tyX5, rfl, inT_5, by decide, rfl, tw_146, tyX5_ok, nmX5, rfl, by decide +kernel⟩
theorem fg_RX11_153 : jFG RX11 153 5 5 := ⟨RX5, TX5, 15, rfl, inT_5, by decide, rfl, tw_147⟩
theorem fp_RX11_153 : jFP RX11 153 5 5 .int := ⟨RX5, TX5, 15, tyX5, rfl, inT_5, by decide, rfl, tw_147, tyX5_ok, nmX5, rfl, by decide +kernel⟩
theorem fg_RX5_44 : jFG RX5 44 5 6 := ⟨RX5, TX5, 15, rfl, inT_5, by decide, rfl, tw_148⟩
theorem fp_RX5_44 : jFP RX5 44 5 6 .int := ⟨RX5, TX5, 15, tyX5, rfl, inT_5, by decide, rfl, tw_148, tyX5_ok, nmX5, rfl, by decide +kernel⟩
theorem fg_RX9_81 : jFG RX9 81 5 6 := ⟨RX5, TX5, 15, rfl, inT_5, by decide, rfl, tw_149⟩
theorem fp_RX9_81 : jFP RX9 81 5 6 .int := ⟨RX5, TX5, 15, tyX5, rfl, inT_5, by decide, rfl, tw_149, tyX5_ok, nmX5, rfl, by decide +kernel⟩
theorem fg_RX11_273 : jFG RX11 273 5 6 := ⟨RX5, TX5, 15, rfl, inT_5, by decide, rfl, tw_150⟩
theorem fp_RX11_273 : jFP RX11 273 5 6 .int := ⟨RX5, TX5, 15, tyX5, rfl, inT_5, by decide, rfl, tw_150, tyX5_ok, nmX5, rfl, by decide +kernel⟩
theorem fg_RX3_13 : jFG RX3 13 5 7 := ⟨RX5, TX5, 15, rfl, inT_5, by decide, rfl, tw_151⟩
theorem fp_RX3_13 : jFP RX3 13 5 7 .int := ⟨RX5, TX5, 15, tyX5, rfl, inT_5, by decide, rfl, tw_151, tyX5_ok, nmX5, rfl, by decide +kernel⟩
theorem fg_RX5_47 : jFG RX5 47 5 7 := ⟨RX5, TX5, 15, rfl, inT_5, by decide, rfl, tw_152⟩
theorem fp_RX5_47 : jFP RX5 47 5 7 .int := ⟨RX5, TX5, 15, tyX5, rfl, inT_5, by decide, rfl, tw_152, tyX5_ok, nmX5, rfl, by decide +kernel⟩
theorem fg_RX11_207 : jFG RX11 207 5 7 := ⟨RX5, TX5, 15, rfl, inT_5, by decide, rfl, tw_153⟩
theorem fp_RX11_207 : jFP RX11 207 5 7 .int := ⟨RX5, TX5, 15, tyX5, rfl, inT_5, by decide, rfl, tw_153, tyX5_ok, nmX5, rfl, by decide +kernel⟩
theorem fg_RX5_15 : jFG RX5 15 5 8 := ⟨RX5, TX5, 15, rfl, inT_5, by decide, rfl, tw_154⟩
theorem fg_RX2_72 : jFG RX2 72 5 8 := ⟨RX5, TX5, 15, rfl, inT_5, by decide, rfl, tw_155⟩
theorem fg_RX11_232 : jFG RX11 232 5 8 := ⟨RX5, TX5, 15, rfl, inT_5, by decide, rfl, tw_156⟩
theorem fg_RX5_19 : jFG RX5 19 5 9 := ⟨RX5, TX5, 15, rfl, inT_5, by decide, rfl, tw_157⟩
theorem fg_RX2_75 : jFG RX2 75 5 9 := ⟨RX5, TX5, 15, rfl, inT_5, by decide, rfl, tw_158⟩
theorem fg_RX11_235 : jFG RX11 235 5 9 := ⟨RX5, TX5, 15, rfl, inT_5, by decide, rfl, tw_159⟩
theorem fg_RX5_22 : jFG RX5 22 5 10 := ⟨RX5, TX5, 15, rfl, inT_5, by decide, rfl, tw_160⟩
theorem fg_RX2_78 : jFG RX2 78 5 10 := ⟨RX5, TX5, 15, rfl, inT_5, by decide, rfl, tw_161⟩
theorem fg_RX11_238 : jFG RX11 238 5 10 := ⟨RX5, TX5, 15, rfl, inT_5, by decide, rfl, tw_162⟩
theorem fg_RX5_25 : jFG RX5 25 5 11 := ⟨RX5, TX5, 15, rfl, inT_5, by decide, rfl, tw_163⟩
theorem fg_RX11_313 : jFG RX11 313 5 11 := ⟨RX5, TX5, 15, rfl, inT_5, by decide, rfl, tw_164⟩
theorem fg_RX5_28 : jFG RX5 28 5 12 := ⟨RX5, TX5, 15, rfl, inT_5, by decide, rfl, tw_165⟩
theorem fg_RX11_226 : jFG RX11 226 5 12 := ⟨RX5, TX5, 15, rfl, inT_5, by decide, rfl, tw_166⟩
theorem fg_RX5_31 : jFG RX5 31 5 13 := ⟨RX5, TX5, 15, rfl, inT_5, by decide, rfl, tw_167⟩
theorem fg_RX11_220 : jFG RX11 220 5 13 := ⟨RX5, TX5, 15, rfl, inT_5, by decide, rfl, tw_168⟩
theorem fg_RX5_34 : jFG RX5 34 5 14 := ⟨RX5, TX5, 15, rfl, inT_5, by decide, rfl, tw_169⟩
theorem fg_RX11_223 : jFG RX11 223 5 14 := ⟨RX5, TX5, 15, rfl, inT_5, by decide, rfl, tw_170⟩
theorem fg_RX2_48 : jFG RX2 48 2 0 := ⟨RX2, TX2, 8, rfl, inT_2, by decide, rfl, tw_211⟩
theorem fp_RX2_48 : jFP RX2 48 2 0 .int := ⟨RX2, TX2, 8, tyX2, rfl, inT_2, by decide, rfl, tw_211, tyX2_ok, nmX2, rfl, by decide +kernel⟩
theorem fg_RX11_255 : jFG RX11 255 2 0 := ⟨RX2, TX2, 8, rfl, inT_2, by decide, rfl, tw_212⟩
theorem fp_RX11_255 : jFP RX11 255 2 0 .int := ⟨RX2, TX2, 8, tyX2, rfl, inT_2, by decide, rfl, tw_212, tyX2_ok, nmX2, rfl, by decide +kernel⟩
theorem fg_RX4_7 : jFG RX4 7 2 1 := ⟨RX2, TX2, 8, rfl, inT_2, by decide, rfl, tw_213⟩
theorem fp_RX4_7 : jFP RX4 7 2 1 .int := ⟨RX2, TX2, 8, tyX2, rfl, inT_2, by decide, rfl, tw_213, tyX2_ok, nmX2, rfl, by decide +kernel⟩
theorem fg_RX8_7 : jFG RX8 7 2 1 := ⟨RX2, TX2, 8, rfl, inT_2, by decide, rfl, tw_214⟩
theorem fp_RX8_7 : jFP RX8 7 2 1 .int := ⟨RX2, TX2, 8, tyX2, rfl, inT_2, by decide, rfl, tw_214, tyX2_ok, nmX2, rfl, by decide +kernel⟩
theorem fg_RX2_51 : jFG RX2 51 2 1 := ⟨RX2, TX2, 8, rfl, inT_2, by decide, rfl, tw_215⟩
theorem fp_RX2_51 : jFP RX2 51 2 1 .int := ⟨RX2, TX2, 8, tyX2, rfl, inT_2, by decide, rfl, tw_215, tyX2_ok, nmX2, rfl, by decide +kernel⟩
theorem fg_RX1_17 : jFG RX1 17 2 1 := ⟨RX2, TX2, 8, rfl, inT_2, by decide, rfl, tw_216⟩
theorem fp_RX1_17 : jFP RX1 17 2 1 .int := ⟨RX2, TX2, 8, tyX2, rfl, inT_2, by decide, rfl, tw_216, tyX2_ok, nmX2, rfl, by decide +kernel⟩
theorem fg_RX11_258 : jFG RX11 258 2 1 := ⟨RX2, TX2, 8, rfl, inT_2, by decide, rfl, tw_217⟩
theorem fp_RX11_258 : jFP RX11 258 2 1 .int := ⟨RX2, TX2, 8, tyX2, rfl, inT_2, by decide, rfl, tw_217, tyX2_ok, nmX2, rfl, by decide +kernel⟩
theorem fg_RX7_7 : jFG RX7 7 2 2 := ⟨RX2, TX2, 8, rfl, inT_2, by decide, rfl, tw_218⟩
theorem fp_RX7_7 : jFP RX7 7 2 2 .int := ⟨RX2, TX2, 8, tyX2, rfl, inT_2, by decide, rfl, tw_218, tyX2_ok, nmX2, rfl, by decide +kernel⟩
theorem fg_RX2_54 : jFG RX2 54 2 2 := ⟨RX2, TX2, 8, rfl, inT_2, by decide, rfl, tw_219⟩
theorem fp_RX2_54 : jFP RX2 54 2 2 .int := ⟨RX2, TX2, 8, tyX2, rfl, inT_2, by decide, rfl, tw_219, tyX2_ok, nmX2, rfl, by decide +kernel⟩
theorem fg_RX2_9 : jFG RX2 9 2 3 := ⟨RX2, TX2, 8, rfl, inT_2, by decide, rfl, tw_220⟩
theorem fg_RX2_15 : jFG RX2 15 2 4 := ⟨RX2, TX2, 8, rfl, inT_2, by decide, rfl, tw_221⟩
theorem fg_RX2_18 : jFG RX2 18 2 5 := ⟨RX2, TX2, 8, rfl, inT_2, by decide, rfl, tw_222⟩
theorem fg_RX2_22 : jFG RX2 22 2 6 := ⟨RX2, TX2, 8, rfl, inT_2, by decide, rfl, tw_223⟩
theorem fg_RX11_298 : jFG RX11 298 2 6 := ⟨RX2, TX2, 8, rfl, inT_2, by decide, rfl, tw_224⟩
theorem fg_RX2_25 : jFG RX2 25 2 7 := ⟨RX2, TX2, 8, rfl, inT_2, by decide, rfl, tw_225⟩
theorem fg_RX10_17 : jFG RX10 17 0 0 := ⟨RX0, TX0, 5, rfl, inT_0, by decide, rfl, tw_250⟩
theorem fp_RX10_17 : jFP RX10 17 0 0 .int := ⟨RX0, TX0, 5, tyX0, rfl, inT_0, by decide, rfl, tw_250, tyX0_ok, nmX0, rfl, by decide +kernel⟩
theorem fg_RX11_320 : jFG RX11 320 0 0 := ⟨RX0, TX0, 5, rfl, inT_0, by decide, rfl, tw_251⟩
theorem fp_RX11_320 : jFP RX11 320 0 0 .int := ⟨RX0, TX0, 5, tyX0, rfl, inT_0, by decide, rfl, tw_251, tyX0_ok, nmX0, rfl, by decide +kernel⟩
theorem fg_RX4_35 : jFG RX4 35 0 1 := ⟨RX0, TX0, 5, rfl, inT_0, by decide, rfl, tw_252⟩
theorem fp_RX4_35 : jFP RX4 35 0 1 .int := ⟨RX0, TX0, 5, tyX0, rfl, inT_0, by decide, rfl, tw_252, tyX0_ok, nmX0, rfl, by decide +kernel⟩
theorem fg_RX11_323 : jFG RX11 323 0 1 := ⟨RX0, TX0, 5, rfl, inT_0, by decide, rfl, tw_253⟩
theorem fp_RX11_323 : jFP RX11 323 0 1 .int := ⟨RX0, TX0, 5, tyX0, rfl, inT_0, by decide, rfl, tw_253, tyX0_ok, nmX0, rfl, by decide +kernel⟩
theorem fg_RX10_13 : jFG RX10 13 0 2 := ⟨RX0, TX0, 5, rfl, inT_0, by decide, rfl, tw_254⟩
theorem fp_RX10_13 : jFP RX10 13 0 2 .int := ⟨RX0, TX0, 5, tyX0, rfl, inT_0, by decide, rfl, tw_254, tyX0_ok, nmX0, rfl, by decide +kernel⟩
theorem fg_RX11_326 : jFG RX11 326 0 2 := ⟨RX0, TX0, 5, rfl, inT_0, by decide, rfl, tw_255⟩
theorem fp_RX11_326 : jFP RX11 326 0 2 .int := ⟨RX0, TX0, 5, tyX0, rfl, inT_0, by decide, rfl, tw_255, tyX0_ok, nmX0, rfl, by decide +kernel⟩
theorem fg_RX0_15 : jFG RX0 15 0 3 := ⟨RX0, TX0, 5, rfl, inT_0, by decide, rfl, tw_256⟩
theorem fp_RX0_15 : jFP RX0 15 0 3 .int := ⟨RX0, TX0, 5, tyX0, rfl, inT_0, by decide, rfl, tw_256, tyX0_ok, nmX0, rfl, by decide +kernel⟩
theorem fg_RX11_328 : jFG RX11 328 0 3 := ⟨RX0, TX0, 5, rfl, inT_0, by decide, rfl, tw_257⟩
theorem fp_RX11_328 : jFP RX11 328 0 3 .int := ⟨RX0, TX0, 5, tyX0, rfl, inT_0, by decide, rfl, tw_257, tyX0_ok, nmX0, rfl, by decide +kernel⟩
theorem fg_RX0_9 : jFG RX0 9 0 4 := ⟨RX0, TX0, 5, rfl, inT_0, by decide, rfl, tw_258⟩
theorem fg_RX11_337 : jFG RX11 337 0 4 := ⟨RX0, TX0, 5, rfl, inT_0, by decide, rfl, tw_259⟩
theorem fg_RX11_10 : jFG RX11 10 11 0 := ⟨RX11, TX11, 13, rfl, inT_11, by decide, rfl, tw_271⟩
theorem fg_RX11_19 : jFG RX11 19 11 1 := ⟨RX11, TX11, 13, rfl, inT_11, by decide, rfl, tw_272⟩
theorem fg_RX11_25 : jFG RX11 25 11 2 := ⟨RX11, TX11, 13, rfl, inT_11, by decide, rfl, tw_273⟩
theorem fg_RX11_50 : jFG RX11 50 11 3 := ⟨RX11, TX11, 13, rfl, inT_11, by decide, rfl, tw_274⟩
theorem fg_RX11_54 : jFG RX11 54 11 4 := ⟨RX11, TX11, 13, rfl, inT_11, by decide, rfl, tw_275⟩
theorem fg_RX11_57 : jFG RX11 57 11 5 := ⟨RX11, TX11, 13, rfl, inT_11, by decide, rfl, tw_276⟩
theorem fg_RX11_63 : jFG RX11 63 11 6 := ⟨RX11, TX11, 13, rfl, inT_11, by decide, rfl, tw_277⟩
theorem fg_RX11_159 : jFG RX11 159 11 7 := ⟨RX11, TX11, 13, rfl, inT_11, by decide, rfl, tw_278⟩
theorem fp_RX11_159 : jFP RX11 159 11 7 .int := ⟨RX11, TX11, 13, tyX11, rfl, inT_11, by decide, rfl, tw_278, tyX11_ok, nmX11, rfl, by decide +kernel⟩
theorem fg_RX11_163 : jFG RX11 163 11 8 := ⟨RX11, TX11, 13, rfl, inT_11, by decide, rfl, tw_279⟩
theorem fp_RX11_163 : jFP RX11 163 11 8 .int := ⟨RX11, TX11, 13, tyX11, rfl, inT_11, by decide, rfl, tw_279, tyX11_ok, nmX11, rfl, by decide +kernel⟩
theorem fg_RX11_69 : jFG RX11 69 11 9 := ⟨RX11, TX11, 13, rfl, inT_11, by decide, rfl, tw_280⟩
theorem fg_RX11_76 : jFG RX11 76 11 10 := ⟨RX11, TX11, 13, rfl, inT_11, by decide, rfl, tw_281⟩
theorem fg_RX11_80 : jFG RX11 80 11 11 := ⟨RX11, TX11, 13, rfl, inT_11, by decide, rfl, tw_282⟩
theorem fg_RX11_346 : jFG RX11 346 11 12 := ⟨RX11, TX11, 13, rfl, inT_11, by decide, rfl, tw_283⟩
theorem fp_RX11_346 : jFP RX11 346 11 12 .int := ⟨RX11, TX11, 13, tyX11, rfl, inT_11, by decide, rfl, tw_283, tyX11_ok, nmX11, rfl, by decide +kernel⟩
theorem fg_RX12_47 : jFG RX12 47 12 0 := ⟨RX12, TX12, 27, rfl, inT_12, by decide, rfl, tw_853⟩
theorem fp_RX12_47 : jFP RX12 47 12 0 .int := ⟨RX12, TX12, 27, tyX12, rfl, inT_12, by decide, rfl, tw_853, tyX12_ok, nmX12, rfl, by decide +kernel⟩
theorem fg_RX12_51 : jFG RX12 51 12 1 := ⟨RX12, TX12, 27, rfl, inT_12, by decide, rfl, tw_854⟩
theorem fp_RX12_51 : jFP RX12 51 12 1 .int := ⟨RX12, TX12, 27, tyX12, rfl, inT_12, by decide, rfl, tw_854, tyX12_ok, nmX12, rfl, by decide +kernel⟩
theorem fg_RX12_7 : jFG RX12 7 12 2 := ⟨RX12, TX12, 27, rfl, inT_12, by decide, rfl, tw_855⟩
theorem fg_RX12_13 : jFG RX12 13 12 3 := ⟨RX12, TX12, 27, rfl, inT_12, by decide, rfl, tw_856⟩
theorem fg_RX12_16 : jFG RX12 16 12 4 := ⟨RX12, TX12, 27, rfl, inT_12, by decide, rfl, tw_857⟩
theorem fg_RX12_19 : jFG RX12 19 12 5 := ⟨RX12, TX12, 27, rfl, inT_12, by decide, rfl, tw_858⟩
theorem fg_RX12_22 : jFG RX12 22 12 6 := ⟨RX12, TX12, 27, rfl, inT_12, by decide, rfl, tw_859⟩
theorem fg_RX12_25 : jFG RX12 25 12 7 := ⟨RX12, TX12, 27, rfl, inT_12, by decide, rfl, tw_860⟩
theorem fg_RX12_28 : jFG RX12 28 12 8 := ⟨RX12, TX12, 27, rfl, inT_12, by decide, rfl, tw_861⟩
theorem fg_RX12_150 : jFG RX12 150 12 9 := ⟨RX12, TX12, 27, rfl, inT_12, by decide, rfl, tw_862⟩
theorem fp_RX12_150 : jFP RX12 150 12 9 .int := ⟨RX12, TX12, 27, tyX12, rfl, inT_12, by decide, rfl, tw_862, tyX12_ok, nmX12, rfl, by decide +kernel⟩
theorem fg_RX12_31 : jFG RX12 31 12 10 := ⟨RX12, TX12, 27, rfl, inT_12, by decide, rfl, tw_863⟩
theorem fg_RX12_74 : jFG RX12 74 12 11 := ⟨RX12, TX12, 27, rfl, inT_12, by decide, rfl, tw_864⟩
theorem fp_RX12_74 : jFP RX12 74 12 11 .int := ⟨RX12, TX12, 27, tyX12, rfl, inT_12, by decide, rfl, tw_864, tyX12_ok, nmX12, rfl, by decide +kernel⟩
theorem fg_RX12_87 : jFG RX12 87 12 12 := ⟨RX12, TX12, 27, rfl, inT_12, by decide, rfl, tw_865⟩
theorem fp_RX12_87 : jFP RX12 87 12 12 .int := ⟨RX12, TX12, 27, tyX12, rfl, inT_12, by decide, rfl, tw_865, tyX12_ok, nmX12, rfl, by decide +kernel⟩
theorem fg_RX12_81 : jFG RX12 81 12 13 := ⟨RX12, TX12, 27, rfl, inT_12, by decide, rfl, tw_866⟩
theorem fp_RX12_81 : jFP RX12 81 12 13 .int := ⟨RX12, TX12, 27, tyX12, rfl, inT_12, by decide, rfl, tw_866, tyX12_ok, nmX12, rfl, by decide +kernel⟩
theorem fg_RX12_102 : jFG RX12 102 12 14 := ⟨RX12, TX12, 27, rfl, inT_12, by decide, rfl, tw_867⟩
theorem fp_RX12_102 : jFP RX12 102 12 14 .int := ⟨RX12, TX12, 27, tyX12, rfl, inT_12, by decide, rfl, tw_867, tyX12_ok, nmX12, rfl, by decide +kernel⟩
theorem fg_RX12_91 : jFG RX12 91 12 15 := ⟨RX12, TX12, 27, rfl, inT_12, by decide, rfl, tw_868⟩
theorem fp_RX12_91 : jFP RX12 91 12 15 .int := ⟨RX12, TX12, 27, tyX12, rfl, inT_12, by decide, rfl, tw_868, tyX12_ok, nmX12, rfl, by decide +kernel⟩
theorem fg_RX12_78 : jFG RX12 78 12 16 := ⟨RX12, TX12, 27, rfl, inT_12, by decide, rfl, tw_869⟩
theorem fp_RX12_78 : jFP RX12 78 12 16 .int := ⟨RX12, TX12, 27, tyX12, rfl, inT_12, by decide, rfl, tw_869, tyX12_ok, nmX12, rfl, by decide +kernel⟩
theorem fg_RX12_84 : jFG RX12 84 12 17 := ⟨RX12, TX12, 27, rfl, inT_12, by decide, rfl, tw_870⟩
theorem fp_RX12_84 : jFP RX12 84 12 17 .int := ⟨RX12, TX12, 27, tyX12, rfl, inT_12, by decide, rfl, tw_870, tyX12_ok, nmX12, rfl, by decide +kernel⟩
theorem fg_RX12_116 : jFG RX12 116 12 18 := ⟨RX12, TX12, 27, rfl, inT_12, by decide, rfl, tw_871⟩
theorem fp_RX12_116 : jFP RX12 116 12 18 .int := ⟨RX12, TX12, 27, tyX12, rfl, inT_12, by decide, rfl, tw_871, tyX12_ok, nmX12, rfl, by decide +kernel⟩
theorem fg_RX12_34 : jFG RX12 34 12 19 := ⟨RX12, TX12, 27, rfl, inT_12, by decide, rfl, tw_872⟩
theorem fg_RX12_164 : jFG RX12 164 12 20 := ⟨RX12, TX12, 27, rfl, inT_12, by decide, rfl, tw_873⟩
theorem fp_RX12_164 : jFP RX12 164 12 20 .int := ⟨RX12, TX12, 27, tyX12, rfl, inT_12, by decide, rfl, tw_873, tyX12_ok, nmX12, rfl, by decide +kernel⟩
theorem fg_RX12_167 : jFG RX12 167 12 21 := ⟨RX12, TX12, 27, rfl, inT_12, by decide, rfl, tw_874⟩
theorem fp_RX12_167 : jFP RX12 167 12 21 .int := ⟨RX12, TX12, 27, tyX12, rfl, inT_12, by decide, rfl, tw_874, tyX12_ok, nmX12, rfl, by decide +kernel⟩
theorem fg_RX12_170 : jFG RX12 170 12 22 := ⟨RX12, TX12, 27, rfl, inT_12, by decide, rfl, tw_875⟩
theorem fp_RX12_170 : jFP RX12 170 12 22 .int := ⟨RX12, TX12, 27, tyX12, rfl, inT_12, by decide, rfl, tw_875, tyX12_ok, nmX12, rfl, by decide +kernel⟩
theorem fg_RX12_37 : jFG RX12 37 12 23 := ⟨RX12, TX12, 27, rfl, inT_12, by decide, rfl, tw_876⟩
theorem fg_RX12_41 : jFG RX12 41 12 24 := ⟨RX12, TX12, 27, rfl, inT_12, by decide, rfl, tw_877⟩
theorem fg_RX12_44 : jFG RX12 44 12 25 := ⟨RX12, TX12, 27, rfl, inT_12, by decide, rfl, tw_878⟩
theorem fg_RX12_277 : jFG RX12 277 12 26 := ⟨RX12, TX12, 27, rfl, inT_12, by decide, rfl, tw_879⟩
theorem fp_RX12_277 : jFP RX12 277 12 26 .int := ⟨RX12, TX12, 27, tyX12, rfl, inT_12, by decide, rfl, tw_879, tyX12_ok, nmX12, rfl, by decide +kernel⟩
