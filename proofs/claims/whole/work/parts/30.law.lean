/-! ===== the law ===== -/
def LX (K : jK) (b L : Nat) (xs : Nat → Int32) : Prop := va_X b L xs (ks K) (kH K) ∧ b < (kH K).size ∧ ¬ kA K b ∧ ka K 102 = b
section JLaw
variable {K : jK} {cc : ByteArray} {nL : Nat} {own : String} {fr lo pc b L : Nat} {xs : Nat → Int32} {ls ls' : List (Option Value)} {st : List Value} {σ : jMem}
theorem j_sld (X : JX K cc nL own fr lo) (Y : LX K b L xs) {i v : Int32} (hin : vp_in i L) (hv : xs i.toNatClampNeg = v) (hd : decode cc pc = .ok (.iaload, 1)) (k : J K (pc + 1) ls (.int v :: st) σ) : J K pc ls (.int i :: .ref 102 :: st) σ := fun H locs sl hP hS hL => by
  have hb : jcv (ka K) (.ref 102) = .ref b := by show Value.ref (ka K 102) = _; rw [Y.2.2.2]
  have k2 := k H locs sl hP hS hL
  show jW K H locs (F0 (km K) pc sl (.int i :: jcv (ka K) (.ref 102) :: st.map (jcv (ka K))))
  rw [hb]
  exact va_sld X.1 X.2.1 Y.1 Y.2.1 Y.2.2.1 hS hin hd (by rw [hv]; exact k2)
theorem j_slen (X : JX K cc nL own fr lo) (Y : LX K b L xs) (hd : decode cc pc = .ok (.arraylength, 1)) (k : J K (pc + 1) ls (.int (Int32.ofNat L) :: st) σ) : J K pc ls (.ref 102 :: st) σ := fun H locs sl hP hS hL => by
  have hb : jcv (ka K) (.ref 102) = .ref b := by show Value.ref (ka K 102) = _; rw [Y.2.2.2]
  have k2 := k H locs sl hP hS hL
  show jW K H locs (F0 (km K) pc sl (jcv (ka K) (.ref 102) :: st.map (jcv (ka K))))
  rw [hb]
  exact va_slen X.1 X.2.1 Y.1 Y.2.1 Y.2.2.1 hS hd k2
theorem jl_icmp_eq (X : JX K cc nL own fr lo) {x y : Int32} {off : Int} {tgt : Nat} (hd : decode cc pc = .ok (.if_icmp .eq off, 3)) (ht : (pc : Int) + off = (tgt : Int)) (h : x = y) (k : J K tgt ls st σ) : J K pc ls (.int y :: .int x :: st) σ := fun H locs sl hP hS hL => lv_icmp_eq X.1 X.2.1 hd ht (fun _ => k H locs sl hP hS hL) (fun q => absurd h q)
theorem jl_if_eq (X : JX K cc nL own fr lo) {x : Int32} {off : Int} {tgt : Nat} (hd : decode cc pc = .ok (.ifCond .eq off, 3)) (ht : (pc : Int) + off = (tgt : Int)) (h : x = 0) (k : J K tgt ls st σ) : J K pc ls (.int x :: st) σ := fun H locs sl hP hS hL => lv_if_eq X.1 X.2.1 hd ht (fun _ => k H locs sl hP hS hL) (fun q => absurd h q)
theorem jl_icmp_gt (X : JX K cc nL own fr lo) {x y : Int32} {off : Int} {tgt : Nat} (hd : decode cc pc = .ok (.if_icmp .gt off, 3)) (ht : (pc : Int) + off = (tgt : Int)) (kt : y < x → J K tgt ls st σ) (kf : ¬ y < x → J K (pc + 3) ls st σ) : J K pc ls (.int y :: .int x :: st) σ := fun H locs sl hP hS hL => lv_icmp_gt X.1 X.2.1 hd ht (fun q => kt q H locs sl hP hS hL) (fun q => kf q H locs sl hP hS hL)
end JLaw
theorem sv_RL_13 : jSiV RL 13 yX11_row cX11_row 4 (some .int) 3 := ⟨tw_311, tw_312, tw_313, tw_1, tw_314, by decide, by decide, by decide +kernel⟩
theorem sv_RL_17 : jSiV RL 17 yX12_row cX12_row 5 (some .int) 3 := ⟨tw_936, tw_937, tw_938, tw_13, tw_939, by decide, by decide, by decide +kernel⟩
theorem sv_RL_18 : jSiV RL 18 yX11_set cX11_set 5 (some .int) 3 := ⟨tw_332, tw_333, tw_334, tw_1, tw_335, by decide, by decide, by decide +kernel⟩
theorem sv_RL_21 : jSiV RL 21 yX12_set cX12_set 4 (some .int) 3 := ⟨tw_954, tw_955, tw_956, tw_13, tw_957, by decide, by decide, by decide +kernel⟩
theorem sv_RL_22 : jSiV RL 22 yX11_copy cX11_copy 6 (some .int) 5 := ⟨tw_352, tw_353, tw_354, tw_1, tw_355, by decide, by decide, by decide +kernel⟩
theorem sv_RL_26 : jSiV RL 26 yX12_copy cX12_copy 9 (some .int) 5 := ⟨tw_958, tw_959, tw_960, tw_13, tw_961, by decide, by decide, by decide +kernel⟩
theorem sv_RL_27 : jSiV RL 27 yX11_drop cX11_drop 3 (some .int) 1 := ⟨tw_361, tw_362, tw_363, tw_1, tw_364, by decide, by decide, by decide +kernel⟩
theorem sv_RL_31 : jSiV RL 31 yX12_drop cX12_drop 2 (some .int) 1 := ⟨tw_962, tw_963, tw_964, tw_13, tw_965, by decide, by decide, by decide +kernel⟩
theorem sv_RL_32 : jSiV RL 32 yX11_feed cX11_feed 2 (some .int) 1 := ⟨tw_365, tw_366, tw_367, tw_1, tw_368, by decide, by decide, by decide +kernel⟩
theorem sv_RL_35 : jSiV RL 35 yX12_feed cX12_feed 2 (some .int) 1 := ⟨tw_966, tw_967, tw_968, tw_13, tw_969, by decide, by decide, by decide +kernel⟩
theorem sv_RL_36 : jSiV RL 36 yX11_parish cX11_parish 2 (some .int) 0 := ⟨tw_374, tw_375, tw_376, tw_1, tw_377, by decide, by decide, by decide +kernel⟩
theorem sv_RL_40 : jSiV RL 40 yX12_parish cX12_parish 2 (some .int) 0 := ⟨tw_976, tw_977, tw_978, tw_13, tw_979, by decide, by decide, by decide +kernel⟩
theorem sv_RL_41 : jSiV RL 41 yX11_fault cX11_fault 1 (some .int) 0 := ⟨tw_450, tw_451, tw_452, tw_1, tw_453, by decide, by decide, by decide +kernel⟩
theorem sv_RL_44 : jSiV RL 44 yX12_fault cX12_fault 1 (some .int) 0 := ⟨tw_972, tw_973, tw_974, tw_13, tw_975, by decide, by decide, by decide +kernel⟩
theorem sv_RL_45 : jSiV RL 45 yX11_undo cX11_undo 1 (some .int) 0 := ⟨tw_454, tw_455, tw_456, tw_1, tw_457, by decide, by decide, by decide +kernel⟩
theorem sv_RL_48 : jSiV RL 48 yX12_undo cX12_undo 2 (some .int) 0 := ⟨tw_1126, tw_1127, tw_1128, tw_13, tw_1129, by decide, by decide, by decide +kernel⟩
theorem sv_RL_49 : jSiV RL 49 yX11_bury cX11_bury 2 (some .int) 1 := ⟨tw_463, tw_464, tw_465, tw_1, tw_466, by decide, by decide, by decide +kernel⟩
theorem sv_RL_52 : jSiV RL 52 yX12_bury cX12_bury 2 (some .int) 1 := ⟨tw_1033, tw_1034, tw_1035, tw_13, tw_1036, by decide, by decide, by decide +kernel⟩
theorem sv_RL_53 : jSiV RL 53 yX11_years cX11_years 3 (some .int) 1 := ⟨tw_574, tw_575, tw_576, tw_1, tw_577, by decide, by decide, by decide +kernel⟩
theorem sv_RL_56 : jSiV RL 56 yX12_years cX12_years 3 (some .int) 1 := ⟨tw_1099, tw_1100, tw_1101, tw_13, tw_1102, by decide, by decide, by decide +kernel⟩
theorem sv_RL_57 : jSiV RL 57 yX11_lock cX11_lock 3 (some .int) 2 := ⟨tw_600, tw_601, tw_602, tw_1, tw_603, by decide, by decide, by decide +kernel⟩
theorem sv_RL_61 : jSiV RL 61 yX12_lock cX12_lock 3 (some .int) 2 := ⟨tw_1110, tw_1111, tw_1112, tw_13, tw_1113, by decide, by decide, by decide +kernel⟩
theorem sv_RL_62 : jSiV RL 62 yX11_follow cX11_follow 2 (some .int) 1 := ⟨tw_612, tw_613, tw_614, tw_1, tw_615, by decide, by decide, by decide +kernel⟩
theorem sv_RL_65 : jSiV RL 65 yX12_follow cX12_follow 2 (some .int) 1 := ⟨tw_1118, tw_1119, tw_1120, tw_13, tw_1121, by decide, by decide, by decide +kernel⟩
theorem sv_RL_66 : jSiV RL 66 yX11_witness cX11_witness 3 (some .int) 2 := ⟨tw_621, tw_622, tw_623, tw_1, tw_624, by decide, by decide, by decide +kernel⟩
theorem sv_RL_69 : jSiV RL 69 yX12_witness cX12_witness 3 (some .int) 2 := ⟨tw_1130, tw_1131, tw_1132, tw_13, tw_1133, by decide, by decide, by decide +kernel⟩
theorem sv_RL_70 : jSiV RL 70 yX11_path cX11_path 3 (some .int) 2 := ⟨tw_626, tw_627, tw_628, tw_1, tw_629, by decide, by decide, by decide +kernel⟩
theorem sv_RL_73 : jSiV RL 73 yX12_path cX12_path 5 (some .int) 2 := ⟨tw_1134, tw_1135, tw_1136, tw_13, tw_1137, by decide, by decide, by decide +kernel⟩
theorem sv_RL_74 : jSiV RL 74 yX11_stand cX11_stand 2 (some .int) 1 := ⟨tw_634, tw_635, tw_636, tw_1, tw_637, by decide, by decide, by decide +kernel⟩
theorem sv_RL_77 : jSiV RL 77 yX12_stand cX12_stand 2 (some .int) 1 := ⟨tw_1139, tw_1140, tw_1141, tw_13, tw_1142, by decide, by decide, by decide +kernel⟩
theorem sv_RL_78 : jSiV RL 78 yX11_ahead cX11_ahead 3 (some .int) 1 := ⟨tw_638, tw_639, tw_640, tw_1, tw_641, by decide, by decide, by decide +kernel⟩
theorem sv_RL_81 : jSiV RL 81 yX12_ahead cX12_ahead 3 (some .int) 1 := ⟨tw_1143, tw_1144, tw_1145, tw_13, tw_1146, by decide, by decide, by decide +kernel⟩
theorem sv_RL_82 : jSiV RL 82 yX11_lost cX11_lost 3 (some .int) 1 := ⟨tw_642, tw_643, tw_644, tw_1, tw_645, by decide, by decide, by decide +kernel⟩
theorem sv_RL_85 : jSiV RL 85 yX12_lost cX12_lost 3 (some .int) 1 := ⟨tw_1152, tw_1153, tw_1154, tw_13, tw_1155, by decide, by decide, by decide +kernel⟩
theorem sv_RL_86 : jSiV RL 86 yX11_goes cX11_goes 3 (some .int) 2 := ⟨tw_647, tw_648, tw_649, tw_1, tw_650, by decide, by decide, by decide +kernel⟩
theorem sv_RL_89 : jSiV RL 89 yX12_goes cX12_goes 3 (some .int) 2 := ⟨tw_1156, tw_1157, tw_1158, tw_13, tw_1159, by decide, by decide, by decide +kernel⟩
theorem sv_RL_90 : jSiV RL 90 yX11_stop cX11_stop 4 (some .int) 2 := ⟨tw_653, tw_654, tw_655, tw_1, tw_656, by decide, by decide, by decide +kernel⟩
theorem sv_RL_93 : jSiV RL 93 yX12_stop cX12_stop 6 (some .int) 2 := ⟨tw_1160, tw_1161, tw_1162, tw_13, tw_1163, by decide, by decide, by decide +kernel⟩
theorem sv_RL_94 : jSiV RL 94 yX11_must cX11_must 6 (some .int) 1 := ⟨tw_671, tw_672, tw_673, tw_1, tw_674, by decide, by decide, by decide +kernel⟩
theorem sv_RL_97 : jSiV RL 97 yX12_must_ cX12_must_ 5 (some .int) 1 := ⟨tw_1171, tw_1172, tw_1173, tw_13, tw_1174, by decide, by decide, by decide +kernel⟩
theorem sv_RL_98 : jSiV RL 98 yX11_live cX11_live 6 (some .int) 2 := ⟨tw_675, tw_676, tw_677, tw_1, tw_678, by decide, by decide, by decide +kernel⟩
theorem sv_RL_101 : jSiV RL 101 yX12_live cX12_live 8 (some .int) 2 := ⟨tw_1175, tw_1176, tw_1177, tw_13, tw_1178, by decide, by decide, by decide +kernel⟩
theorem sv_RL_102 : jSiV RL 102 yX11_makes cX11_makes 2 (some .int) 1 := ⟨tw_681, tw_682, tw_683, tw_1, tw_684, by decide, by decide, by decide +kernel⟩
theorem sv_RL_105 : jSiV RL 105 yX12_makes cX12_makes 2 (some .int) 1 := ⟨tw_1179, tw_1180, tw_1181, tw_13, tw_1182, by decide, by decide, by decide +kernel⟩
theorem sv_RL_106 : jSiV RL 106 yX11_best cX11_best 6 (some .int) 1 := ⟨tw_693, tw_694, tw_695, tw_1, tw_696, by decide, by decide, by decide +kernel⟩
theorem sv_RL_109 : jSiV RL 109 yX12_best cX12_best 6 (some .int) 1 := ⟨tw_1191, tw_1192, tw_1193, tw_13, tw_1194, by decide, by decide, by decide +kernel⟩
theorem sv_RL_110 : jSiV RL 110 yX11_from cX11_from 7 (some .int) 2 := ⟨tw_697, tw_698, tw_699, tw_1, tw_700, by decide, by decide, by decide +kernel⟩
theorem sv_RL_113 : jSiV RL 113 yX12_from cX12_from 6 (some .int) 2 := ⟨tw_1195, tw_1196, tw_1197, tw_13, tw_1198, by decide, by decide, by decide +kernel⟩
theorem sv_RL_114 : jSiV RL 114 yX11_who cX11_who 7 (some .int) 4 := ⟨tw_701, tw_702, tw_703, tw_1, tw_704, by decide, by decide, by decide +kernel⟩
theorem sv_RL_118 : jSiV RL 118 yX12_who cX12_who 13 (some .int) 4 := ⟨tw_1199, tw_1200, tw_1201, tw_13, tw_1202, by decide, by decide, by decide +kernel⟩
theorem sv_RL_119 : jSiV RL 119 yX11_far cX11_far 2 (some .int) 1 := ⟨tw_711, tw_712, tw_713, tw_1, tw_714, by decide, by decide, by decide +kernel⟩
theorem sv_RL_122 : jSiV RL 122 yX12_far cX12_far 2 (some .int) 1 := ⟨tw_1203, tw_1204, tw_1205, tw_13, tw_1206, by decide, by decide, by decide +kernel⟩
theorem sv_RL_123 : jSiV RL 123 yX11_pairs cX11_pairs 5 (some .int) 0 := ⟨tw_715, tw_716, tw_717, tw_1, tw_718, by decide, by decide, by decide +kernel⟩
theorem sv_RL_126 : jSiV RL 126 yX12_pairs cX12_pairs 4 (some .int) 0 := ⟨tw_1207, tw_1208, tw_1209, tw_13, tw_1210, by decide, by decide, by decide +kernel⟩
theorem sv_RL_127 : jSiV RL 127 yX11_locked cX11_locked 10 (some .long) 3 := ⟨tw_719, tw_720, tw_721, tw_1, tw_722, by decide, by decide, by decide +kernel⟩
theorem sv_RL_131 : jSiV RL 131 yX12_locked cX12_locked 15 (some .long) 3 := ⟨tw_1211, tw_1212, tw_1213, tw_13, tw_1214, by decide, by decide, by decide +kernel⟩
theorem sv_RL_132 : jSiV RL 132 yX11_drawn cX11_drawn 8 (some .int) 3 := ⟨tw_748, tw_749, tw_750, tw_1, tw_751, by decide, by decide, by decide +kernel⟩
theorem sv_RL_135 : jSiV RL 135 yX12_drawn cX12_drawn 8 (some .int) 3 := ⟨tw_1218, tw_1219, tw_1220, tw_13, tw_1221, by decide, by decide, by decide +kernel⟩
theorem sv_RL_136 : jSiV RL 136 yX11_image cX11_image 2 (some .int) 1 := ⟨tw_756, tw_757, tw_758, tw_1, tw_759, by decide, by decide, by decide +kernel⟩
theorem sv_RL_139 : jSiV RL 139 yX12_image cX12_image 3 (some .int) 1 := ⟨tw_1226, tw_1227, tw_1228, tw_13, tw_1229, by decide, by decide, by decide +kernel⟩
theorem sv_RL_140 : jSiV RL 140 yX11_restore cX11_restore 2 (some .int) 1 := ⟨tw_760, tw_761, tw_762, tw_1, tw_763, by decide, by decide, by decide +kernel⟩
theorem sv_RL_143 : jSiV RL 143 yX12_restore cX12_restore 3 (some .int) 1 := ⟨tw_1230, tw_1231, tw_1232, tw_13, tw_1233, by decide, by decide, by decide +kernel⟩
theorem sv_RL_144 : jSiV RL 144 yX11_kind cX11_kind 2 (some .int) 1 := ⟨tw_764, tw_765, tw_766, tw_1, tw_767, by decide, by decide, by decide +kernel⟩
theorem sv_RL_147 : jSiV RL 147 yX12_kind cX12_kind 2 (some .int) 1 := ⟨tw_1234, tw_1235, tw_1236, tw_13, tw_1237, by decide, by decide, by decide +kernel⟩
theorem sv_RL_148 : jSiV RL 148 yX11_as cX11_as 3 (some .int) 2 := ⟨tw_768, tw_769, tw_770, tw_1, tw_771, by decide, by decide, by decide +kernel⟩
theorem sv_RL_151 : jSiV RL 151 yX12_as cX12_as 3 (some .int) 2 := ⟨tw_1238, tw_1239, tw_1240, tw_13, tw_1241, by decide, by decide, by decide +kernel⟩
theorem sv_RL_152 : jSiV RL 152 yX11_ask cX11_ask 4 (some .int) 2 := ⟨tw_775, tw_776, tw_777, tw_1, tw_778, by decide, by decide, by decide +kernel⟩
theorem sv_RL_155 : jSiV RL 155 yX12_ask cX12_ask 3 (some .int) 2 := ⟨tw_1246, tw_1247, tw_1248, tw_13, tw_1249, by decide, by decide, by decide +kernel⟩
theorem sv_RL_156 : jSiV RL 156 yX11_trace cX11_trace 2 (some .int) 1 := ⟨tw_831, tw_832, tw_833, tw_1, tw_834, by decide, by decide, by decide +kernel⟩
theorem sv_RL_159 : jSiV RL 159 yX12_trace cX12_trace 2 (some .int) 1 := ⟨tw_1270, tw_1271, tw_1272, tw_13, tw_1273, by decide, by decide, by decide +kernel⟩
theorem sv_RL_160 : jSiV RL 160 yX11_count cX11_count 2 (some .int) 1 := ⟨tw_835, tw_836, tw_837, tw_1, tw_838, by decide, by decide, by decide +kernel⟩
theorem sv_RL_163 : jSiV RL 163 yX12_count cX12_count 4 (some .int) 1 := ⟨tw_1274, tw_1275, tw_1276, tw_13, tw_1277, by decide, by decide, by decide +kernel⟩
theorem sv_RL_164 : jSiV RL 164 yX11_status cX11_status 1 (some .int) 0 := ⟨tw_843, tw_844, tw_845, tw_1, tw_846, by decide, by decide, by decide +kernel⟩
theorem sv_RL_167 : jSiV RL 167 yX12_status cX12_status 1 (some .int) 0 := ⟨tw_1278, tw_1279, tw_1280, tw_13, tw_1281, by decide, by decide, by decide +kernel⟩
set_option maxRecDepth 100000 in
set_option maxHeartbeats 4000000 in
theorem lawc_0 {K : jK} {b L : Nat} {xs : Nat → Int32} (X : JX K cL_law 4 RL 10 354) (Y : LX K b L xs) {x3 : Int32} {a1 a2 a3 : Int32} (n1 : vp_in (x3 + 1) L) (e1 : xs (x3 + 1).toNatClampNeg = a1) (n2 : vp_in (x3 + 2) L) (e2 : xs (x3 + 2).toNatClampNeg = a2) (n3 : vp_in (x3 + 3) L) (e3 : xs (x3 + 3).toNatClampNeg = a3) {σ σ1 σ2 : jMem} {r : Int32} (h1 : f_X11_row a1 a2 a3 σ = some (r, σ1)) (h2 : f_X12_row a1 a2 a3 σ1 = some (r, σ2)) (k : J K 1238 [some (.ref 102), some (.ref 0), some (.ref 89), some (.int x3)] [] σ2) : J K 196 [some (.ref 102), some (.ref 0), some (.ref 89), some (.int x3)] [] σ := by
  refine j_aload_n X 1 dL_law_196 rfl rfl ?_
  refine j_aload_n X 0 dL_law_197 rfl rfl ?_
  refine j_iload_n X 3 dL_law_198 rfl rfl ?_
  refine j_iconst (v := 1) X dL_law_199 (by decide) ?_
  refine j_iadd X dL_law_200 ?_
  refine j_sld X Y n1 e1 dL_law_201 ?_
  refine j_aload_n X 0 dL_law_202 rfl rfl ?_
  refine j_iload_n X 3 dL_law_203 rfl rfl ?_
  refine j_iconst (v := 2) X dL_law_204 (by decide) ?_
  refine j_iadd X dL_law_205 ?_
  refine j_sld X Y n2 e2 dL_law_206 ?_
  refine j_aload_n X 0 dL_law_207 rfl rfl ?_
  refine j_iload_n X 3 dL_law_208 rfl rfl ?_
  refine j_iconst (v := 3) X dL_law_209 (by decide) ?_
  refine j_iadd X dL_law_210 ?_
  refine j_sld X Y n3 e3 dL_law_211 ?_
  refine j_callV (as := [.int a1, .int a2, .int a3]) (st := []) (st1 := [.int r]) X ln_0 ly_0 rfl rfl sv_RL_13 ⟨by decide, by decide⟩ rfl rfl (Nat.le_of_ble_eq_true rfl) rfl dL_law_212 jrv_i (c_X11_row h1) rfl ?_
  refine j_aload_n X 2 dL_law_215 rfl rfl ?_
  refine j_aload_n X 0 dL_law_216 rfl rfl ?_
  refine j_iload_n X 3 dL_law_217 rfl rfl ?_
  refine j_iconst (v := 1) X dL_law_218 (by decide) ?_
  refine j_iadd X dL_law_219 ?_
  refine j_sld X Y n1 e1 dL_law_220 ?_
  refine j_aload_n X 0 dL_law_221 rfl rfl ?_
  refine j_iload_n X 3 dL_law_222 rfl rfl ?_
  refine j_iconst (v := 2) X dL_law_223 (by decide) ?_
  refine j_iadd X dL_law_224 ?_
  refine j_sld X Y n2 e2 dL_law_225 ?_
  refine j_aload_n X 0 dL_law_226 rfl rfl ?_
  refine j_iload_n X 3 dL_law_227 rfl rfl ?_
  refine j_iconst (v := 3) X dL_law_228 (by decide) ?_
  refine j_iadd X dL_law_229 ?_
  refine j_sld X Y n3 e3 dL_law_230 ?_
  refine j_callV (as := [.int a1, .int a2, .int a3]) (st := [.int r]) (st1 := [.int r, .int r]) X ln_89 ly_89 rfl rfl sv_RL_17 ⟨by decide, by decide⟩ rfl rfl (Nat.le_of_ble_eq_true rfl) rfl dL_law_231 jrv_i (c_X12_row h2) rfl ?_
  exact jl_icmp_eq (tgt := 1238) X dL_law_234 (by decide) rfl k
set_option maxRecDepth 100000 in
set_option maxHeartbeats 4000000 in
theorem lawc_1 {K : jK} {b L : Nat} {xs : Nat → Int32} (X : JX K cL_law 4 RL 10 354) (Y : LX K b L xs) {x3 : Int32} {a1 a2 a3 : Int32} (n1 : vp_in (x3 + 1) L) (e1 : xs (x3 + 1).toNatClampNeg = a1) (n2 : vp_in (x3 + 2) L) (e2 : xs (x3 + 2).toNatClampNeg = a2) (n3 : vp_in (x3 + 3) L) (e3 : xs (x3 + 3).toNatClampNeg = a3) {σ σ1 σ2 : jMem} {r : Int32} (h1 : f_X11_set a1 a2 a3 σ = some (r, σ1)) (h2 : f_X12_set a1 a2 a3 σ1 = some (r, σ2)) (k : J K 1238 [some (.ref 102), some (.ref 0), some (.ref 89), some (.int x3)] [] σ2) : J K 239 [some (.ref 102), some (.ref 0), some (.ref 89), some (.int x3)] [] σ := by
  refine j_aload_n X 1 dL_law_239 rfl rfl ?_
  refine j_aload_n X 0 dL_law_240 rfl rfl ?_
  refine j_iload_n X 3 dL_law_241 rfl rfl ?_
  refine j_iconst (v := 1) X dL_law_242 (by decide) ?_
  refine j_iadd X dL_law_243 ?_
  refine j_sld X Y n1 e1 dL_law_244 ?_
  refine j_aload_n X 0 dL_law_245 rfl rfl ?_
  refine j_iload_n X 3 dL_law_246 rfl rfl ?_
  refine j_iconst (v := 2) X dL_law_247 (by decide) ?_
  refine j_iadd X dL_law_248 ?_
  refine j_sld X Y n2 e2 dL_law_249 ?_
  refine j_aload_n X 0 dL_law_250 rfl rfl ?_
  refine j_iload_n X 3 dL_law_251 rfl rfl ?_
  refine j_iconst (v := 3) X dL_law_252 (by decide) ?_
  refine j_iadd X dL_law_253 ?_
  refine j_sld X Y n3 e3 dL_law_254 ?_
  refine j_callV (as := [.int a1, .int a2, .int a3]) (st := []) (st1 := [.int r]) X ln_0 ly_0 rfl rfl sv_RL_18 ⟨by decide, by decide⟩ rfl rfl (Nat.le_of_ble_eq_true rfl) rfl dL_law_255 jrv_i (c_X11_set h1) rfl ?_
  refine j_aload_n X 2 dL_law_258 rfl rfl ?_
  refine j_aload_n X 0 dL_law_259 rfl rfl ?_
  refine j_iload_n X 3 dL_law_260 rfl rfl ?_
  refine j_iconst (v := 1) X dL_law_261 (by decide) ?_
  refine j_iadd X dL_law_262 ?_
  refine j_sld X Y n1 e1 dL_law_263 ?_
  refine j_aload_n X 0 dL_law_264 rfl rfl ?_
  refine j_iload_n X 3 dL_law_265 rfl rfl ?_
  refine j_iconst (v := 2) X dL_law_266 (by decide) ?_
  refine j_iadd X dL_law_267 ?_
  refine j_sld X Y n2 e2 dL_law_268 ?_
  refine j_aload_n X 0 dL_law_269 rfl rfl ?_
  refine j_iload_n X 3 dL_law_270 rfl rfl ?_
  refine j_iconst (v := 3) X dL_law_271 (by decide) ?_
  refine j_iadd X dL_law_272 ?_
  refine j_sld X Y n3 e3 dL_law_273 ?_
  refine j_callV (as := [.int a1, .int a2, .int a3]) (st := [.int r]) (st1 := [.int r, .int r]) X ln_89 ly_89 rfl rfl sv_RL_21 ⟨by decide, by decide⟩ rfl rfl (Nat.le_of_ble_eq_true rfl) rfl dL_law_274 jrv_i (c_X12_set h2) rfl ?_
  exact jl_icmp_eq (tgt := 1238) X dL_law_277 (by decide) rfl k
set_option maxRecDepth 100000 in
set_option maxHeartbeats 4000000 in
theorem lawc_2 {K : jK} {b L : Nat} {xs : Nat → Int32} (X : JX K cL_law 4 RL 10 354) (Y : LX K b L xs) {x3 : Int32} {a1 a2 a3 a4 a5 : Int32} (n1 : vp_in (x3 + 1) L) (e1 : xs (x3 + 1).toNatClampNeg = a1) (n2 : vp_in (x3 + 2) L) (e2 : xs (x3 + 2).toNatClampNeg = a2) (n3 : vp_in (x3 + 3) L) (e3 : xs (x3 + 3).toNatClampNeg = a3) (n4 : vp_in (x3 + 4) L) (e4 : xs (x3 + 4).toNatClampNeg = a4) (n5 : vp_in (x3 + 5) L) (e5 : xs (x3 + 5).toNatClampNeg = a5) {σ σ1 σ2 : jMem} {r : Int32} (h1 : f_X11_copy a1 a2 a3 a4 a5 σ = some (r, σ1)) (h2 : f_X12_copy a1 a2 a3 a4 a5 σ1 = some (r, σ2)) (k : J K 1238 [some (.ref 102), some (.ref 0), some (.ref 89), some (.int x3)] [] σ2) : J K 282 [some (.ref 102), some (.ref 0), some (.ref 89), some (.int x3)] [] σ := by
  refine j_aload_n X 1 dL_law_282 rfl rfl ?_
  refine j_aload_n X 0 dL_law_283 rfl rfl ?_
  refine j_iload_n X 3 dL_law_284 rfl rfl ?_
  refine j_iconst (v := 1) X dL_law_285 (by decide) ?_
  refine j_iadd X dL_law_286 ?_
  refine j_sld X Y n1 e1 dL_law_287 ?_
  refine j_aload_n X 0 dL_law_288 rfl rfl ?_
  refine j_iload_n X 3 dL_law_289 rfl rfl ?_
  refine j_iconst (v := 2) X dL_law_290 (by decide) ?_
  refine j_iadd X dL_law_291 ?_
  refine j_sld X Y n2 e2 dL_law_292 ?_
  refine j_aload_n X 0 dL_law_293 rfl rfl ?_
  refine j_iload_n X 3 dL_law_294 rfl rfl ?_
  refine j_iconst (v := 3) X dL_law_295 (by decide) ?_
  refine j_iadd X dL_law_296 ?_
  refine j_sld X Y n3 e3 dL_law_297 ?_
  refine j_aload_n X 0 dL_law_298 rfl rfl ?_
  refine j_iload_n X 3 dL_law_299 rfl rfl ?_
  refine j_iconst (v := 4) X dL_law_300 (by decide) ?_
  refine j_iadd X dL_law_301 ?_
  refine j_sld X Y n4 e4 dL_law_302 ?_
  refine j_aload_n X 0 dL_law_303 rfl rfl ?_
  refine j_iload_n X 3 dL_law_304 rfl rfl ?_
  refine j_iconst (v := 5) X dL_law_305 (by decide) ?_
  refine j_iadd X dL_law_306 ?_
  refine j_sld X Y n5 e5 dL_law_307 ?_
  refine j_callV (as := [.int a1, .int a2, .int a3, .int a4, .int a5]) (st := []) (st1 := [.int r]) X ln_0 ly_0 rfl rfl sv_RL_22 ⟨by decide, by decide⟩ rfl rfl (Nat.le_of_ble_eq_true rfl) rfl dL_law_308 jrv_i (c_X11_copy h1) rfl ?_
  refine j_aload_n X 2 dL_law_311 rfl rfl ?_
  refine j_aload_n X 0 dL_law_312 rfl rfl ?_
  refine j_iload_n X 3 dL_law_313 rfl rfl ?_
  refine j_iconst (v := 1) X dL_law_314 (by decide) ?_
  refine j_iadd X dL_law_315 ?_
  refine j_sld X Y n1 e1 dL_law_316 ?_
  refine j_aload_n X 0 dL_law_317 rfl rfl ?_
  refine j_iload_n X 3 dL_law_318 rfl rfl ?_
  refine j_iconst (v := 2) X dL_law_319 (by decide) ?_
  refine j_iadd X dL_law_320 ?_
  refine j_sld X Y n2 e2 dL_law_321 ?_
  refine j_aload_n X 0 dL_law_322 rfl rfl ?_
  refine j_iload_n X 3 dL_law_323 rfl rfl ?_
  refine j_iconst (v := 3) X dL_law_324 (by decide) ?_
  refine j_iadd X dL_law_325 ?_
  refine j_sld X Y n3 e3 dL_law_326 ?_
  refine j_aload_n X 0 dL_law_327 rfl rfl ?_
  refine j_iload_n X 3 dL_law_328 rfl rfl ?_
  refine j_iconst (v := 4) X dL_law_329 (by decide) ?_
  refine j_iadd X dL_law_330 ?_
  refine j_sld X Y n4 e4 dL_law_331 ?_
  refine j_aload_n X 0 dL_law_332 rfl rfl ?_
  refine j_iload_n X 3 dL_law_333 rfl rfl ?_
  refine j_iconst (v := 5) X dL_law_334 (by decide) ?_
  refine j_iadd X dL_law_335 ?_
  refine j_sld X Y n5 e5 dL_law_336 ?_
  refine j_callV (as := [.int a1, .int a2, .int a3, .int a4, .int a5]) (st := [.int r]) (st1 := [.int r, .int r]) X ln_89 ly_89 rfl rfl sv_RL_26 ⟨by decide, by decide⟩ rfl rfl (Nat.le_of_ble_eq_true rfl) rfl dL_law_337 jrv_i (c_X12_copy h2) rfl ?_
  exact jl_icmp_eq (tgt := 1238) X dL_law_340 (by decide) rfl k
set_option maxRecDepth 100000 in
set_option maxHeartbeats 4000000 in
theorem lawc_3 {K : jK} {b L : Nat} {xs : Nat → Int32} (X : JX K cL_law 4 RL 10 354) (Y : LX K b L xs) {x3 : Int32} {a1 : Int32} (n1 : vp_in (x3 + 1) L) (e1 : xs (x3 + 1).toNatClampNeg = a1) {σ σ1 σ2 : jMem} {r : Int32} (h1 : f_X11_drop a1 σ = some (r, σ1)) (h2 : f_X12_drop a1 σ1 = some (r, σ2)) (k : J K 1238 [some (.ref 102), some (.ref 0), some (.ref 89), some (.int x3)] [] σ2) : J K 345 [some (.ref 102), some (.ref 0), some (.ref 89), some (.int x3)] [] σ := by
  refine j_aload_n X 1 dL_law_345 rfl rfl ?_
  refine j_aload_n X 0 dL_law_346 rfl rfl ?_
  refine j_iload_n X 3 dL_law_347 rfl rfl ?_
  refine j_iconst (v := 1) X dL_law_348 (by decide) ?_
  refine j_iadd X dL_law_349 ?_
  refine j_sld X Y n1 e1 dL_law_350 ?_
  refine j_callV (as := [.int a1]) (st := []) (st1 := [.int r]) X ln_0 ly_0 rfl rfl sv_RL_27 ⟨by decide, by decide⟩ rfl rfl (Nat.le_of_ble_eq_true rfl) rfl dL_law_351 jrv_i (c_X11_drop h1) rfl ?_
  refine j_aload_n X 2 dL_law_354 rfl rfl ?_
  refine j_aload_n X 0 dL_law_355 rfl rfl ?_
  refine j_iload_n X 3 dL_law_356 rfl rfl ?_
  refine j_iconst (v := 1) X dL_law_357 (by decide) ?_
  refine j_iadd X dL_law_358 ?_
  refine j_sld X Y n1 e1 dL_law_359 ?_
  refine j_callV (as := [.int a1]) (st := [.int r]) (st1 := [.int r, .int r]) X ln_89 ly_89 rfl rfl sv_RL_31 ⟨by decide, by decide⟩ rfl rfl (Nat.le_of_ble_eq_true rfl) rfl dL_law_360 jrv_i (c_X12_drop h2) rfl ?_
  exact jl_icmp_eq (tgt := 1238) X dL_law_363 (by decide) rfl k
set_option maxRecDepth 100000 in
set_option maxHeartbeats 4000000 in
theorem lawc_4 {K : jK} {b L : Nat} {xs : Nat → Int32} (X : JX K cL_law 4 RL 10 354) (Y : LX K b L xs) {x3 : Int32} {a1 : Int32} (n1 : vp_in (x3 + 1) L) (e1 : xs (x3 + 1).toNatClampNeg = a1) {σ σ1 σ2 : jMem} {r : Int32} (h1 : f_X11_feed a1 σ = some (r, σ1)) (h2 : f_X12_feed a1 σ1 = some (r, σ2)) (k : J K 1238 [some (.ref 102), some (.ref 0), some (.ref 89), some (.int x3)] [] σ2) : J K 368 [some (.ref 102), some (.ref 0), some (.ref 89), some (.int x3)] [] σ := by
  refine j_aload_n X 1 dL_law_368 rfl rfl ?_
  refine j_aload_n X 0 dL_law_369 rfl rfl ?_
  refine j_iload_n X 3 dL_law_370 rfl rfl ?_
  refine j_iconst (v := 1) X dL_law_371 (by decide) ?_
  refine j_iadd X dL_law_372 ?_
  refine j_sld X Y n1 e1 dL_law_373 ?_
  refine j_callV (as := [.int a1]) (st := []) (st1 := [.int r]) X ln_0 ly_0 rfl rfl sv_RL_32 ⟨by decide, by decide⟩ rfl rfl (Nat.le_of_ble_eq_true rfl) rfl dL_law_374 jrv_i (c_X11_feed h1) rfl ?_
  refine j_aload_n X 2 dL_law_377 rfl rfl ?_
  refine j_aload_n X 0 dL_law_378 rfl rfl ?_
  refine j_iload_n X 3 dL_law_379 rfl rfl ?_
  refine j_iconst (v := 1) X dL_law_380 (by decide) ?_
  refine j_iadd X dL_law_381 ?_
  refine j_sld X Y n1 e1 dL_law_382 ?_
  refine j_callV (as := [.int a1]) (st := [.int r]) (st1 := [.int r, .int r]) X ln_89 ly_89 rfl rfl sv_RL_35 ⟨by decide, by decide⟩ rfl rfl (Nat.le_of_ble_eq_true rfl) rfl dL_law_383 jrv_i (c_X12_feed h2) rfl ?_
  exact jl_icmp_eq (tgt := 1238) X dL_law_386 (by decide) rfl k
set_option maxRecDepth 100000 in
set_option maxHeartbeats 4000000 in
theorem lawc_5 {K : jK} {b L : Nat} {xs : Nat → Int32} (X : JX K cL_law 4 RL 10 354) (Y : LX K b L xs) {x3 : Int32}   {σ σ1 σ2 : jMem} {r : Int32} (h1 : f_X11_parish  σ = some (r, σ1)) (h2 : f_X12_parish  σ1 = some (r, σ2)) (k : J K 1238 [some (.ref 102), some (.ref 0), some (.ref 89), some (.int x3)] [] σ2) : J K 391 [some (.ref 102), some (.ref 0), some (.ref 89), some (.int x3)] [] σ := by
  refine j_aload_n X 1 dL_law_391 rfl rfl ?_
  refine j_callV (as := []) (st := []) (st1 := [.int r]) X ln_0 ly_0 rfl rfl sv_RL_36 ⟨by decide, by decide⟩ rfl rfl (Nat.le_of_ble_eq_true rfl) rfl dL_law_392 jrv_i (c_X11_parish h1) rfl ?_
  refine j_aload_n X 2 dL_law_395 rfl rfl ?_
  refine j_callV (as := []) (st := [.int r]) (st1 := [.int r, .int r]) X ln_89 ly_89 rfl rfl sv_RL_40 ⟨by decide, by decide⟩ rfl rfl (Nat.le_of_ble_eq_true rfl) rfl dL_law_396 jrv_i (c_X12_parish h2) rfl ?_
  exact jl_icmp_eq (tgt := 1238) X dL_law_399 (by decide) rfl k
set_option maxRecDepth 100000 in
set_option maxHeartbeats 4000000 in
theorem lawc_6 {K : jK} {b L : Nat} {xs : Nat → Int32} (X : JX K cL_law 4 RL 10 354) (Y : LX K b L xs) {x3 : Int32}   {σ σ1 σ2 : jMem} {r : Int32} (h1 : f_X11_fault  σ = some (r, σ1)) (h2 : f_X12_fault  σ1 = some (r, σ2)) (k : J K 1238 [some (.ref 102), some (.ref 0), some (.ref 89), some (.int x3)] [] σ2) : J K 404 [some (.ref 102), some (.ref 0), some (.ref 89), some (.int x3)] [] σ := by
  refine j_aload_n X 1 dL_law_404 rfl rfl ?_
  refine j_callV (as := []) (st := []) (st1 := [.int r]) X ln_0 ly_0 rfl rfl sv_RL_41 ⟨by decide, by decide⟩ rfl rfl (Nat.le_of_ble_eq_true rfl) rfl dL_law_405 jrv_i (c_X11_fault h1) rfl ?_
  refine j_aload_n X 2 dL_law_408 rfl rfl ?_
  refine j_callV (as := []) (st := [.int r]) (st1 := [.int r, .int r]) X ln_89 ly_89 rfl rfl sv_RL_44 ⟨by decide, by decide⟩ rfl rfl (Nat.le_of_ble_eq_true rfl) rfl dL_law_409 jrv_i (c_X12_fault h2) rfl ?_
  exact jl_icmp_eq (tgt := 1238) X dL_law_412 (by decide) rfl k
set_option maxRecDepth 100000 in
set_option maxHeartbeats 4000000 in
theorem lawc_7 {K : jK} {b L : Nat} {xs : Nat → Int32} (X : JX K cL_law 4 RL 10 354) (Y : LX K b L xs) {x3 : Int32}   {σ σ1 σ2 : jMem} {r : Int32} (h1 : f_X11_undo  σ = some (r, σ1)) (h2 : f_X12_undo  σ1 = some (r, σ2)) (k : J K 1238 [some (.ref 102), some (.ref 0), some (.ref 89), some (.int x3)] [] σ2) : J K 417 [some (.ref 102), some (.ref 0), some (.ref 89), some (.int x3)] [] σ := by
  refine j_aload_n X 1 dL_law_417 rfl rfl ?_
  refine j_callV (as := []) (st := []) (st1 := [.int r]) X ln_0 ly_0 rfl rfl sv_RL_45 ⟨by decide, by decide⟩ rfl rfl (Nat.le_of_ble_eq_true rfl) rfl dL_law_418 jrv_i (c_X11_undo h1) rfl ?_
  refine j_aload_n X 2 dL_law_421 rfl rfl ?_
  refine j_callV (as := []) (st := [.int r]) (st1 := [.int r, .int r]) X ln_89 ly_89 rfl rfl sv_RL_48 ⟨by decide, by decide⟩ rfl rfl (Nat.le_of_ble_eq_true rfl) rfl dL_law_422 jrv_i (c_X12_undo h2) rfl ?_
  exact jl_icmp_eq (tgt := 1238) X dL_law_425 (by decide) rfl k
set_option maxRecDepth 100000 in
set_option maxHeartbeats 4000000 in
theorem lawc_8 {K : jK} {b L : Nat} {xs : Nat → Int32} (X : JX K cL_law 4 RL 10 354) (Y : LX K b L xs) {x3 : Int32} {a1 : Int32} (n1 : vp_in (x3 + 1) L) (e1 : xs (x3 + 1).toNatClampNeg = a1) {σ σ1 σ2 : jMem} {r : Int32} (h1 : f_X11_bury a1 σ = some (r, σ1)) (h2 : f_X12_bury a1 σ1 = some (r, σ2)) (k : J K 1238 [some (.ref 102), some (.ref 0), some (.ref 89), some (.int x3)] [] σ2) : J K 430 [some (.ref 102), some (.ref 0), some (.ref 89), some (.int x3)] [] σ := by
  refine j_aload_n X 1 dL_law_430 rfl rfl ?_
  refine j_aload_n X 0 dL_law_431 rfl rfl ?_
  refine j_iload_n X 3 dL_law_432 rfl rfl ?_
  refine j_iconst (v := 1) X dL_law_433 (by decide) ?_
  refine j_iadd X dL_law_434 ?_
  refine j_sld X Y n1 e1 dL_law_435 ?_
  refine j_callV (as := [.int a1]) (st := []) (st1 := [.int r]) X ln_0 ly_0 rfl rfl sv_RL_49 ⟨by decide, by decide⟩ rfl rfl (Nat.le_of_ble_eq_true rfl) rfl dL_law_436 jrv_i (c_X11_bury h1) rfl ?_
  refine j_aload_n X 2 dL_law_439 rfl rfl ?_
  refine j_aload_n X 0 dL_law_440 rfl rfl ?_
  refine j_iload_n X 3 dL_law_441 rfl rfl ?_
  refine j_iconst (v := 1) X dL_law_442 (by decide) ?_
  refine j_iadd X dL_law_443 ?_
  refine j_sld X Y n1 e1 dL_law_444 ?_
  refine j_callV (as := [.int a1]) (st := [.int r]) (st1 := [.int r, .int r]) X ln_89 ly_89 rfl rfl sv_RL_52 ⟨by decide, by decide⟩ rfl rfl (Nat.le_of_ble_eq_true rfl) rfl dL_law_445 jrv_i (c_X12_bury h2) rfl ?_
  exact jl_icmp_eq (tgt := 1238) X dL_law_448 (by decide) rfl k
set_option maxRecDepth 100000 in
set_option maxHeartbeats 4000000 in
theorem lawc_9 {K : jK} {b L : Nat} {xs : Nat → Int32} (X : JX K cL_law 4 RL 10 354) (Y : LX K b L xs) {x3 : Int32} {a1 : Int32} (n1 : vp_in (x3 + 1) L) (e1 : xs (x3 + 1).toNatClampNeg = a1) {σ σ1 σ2 : jMem} {r : Int32} (h1 : f_X11_years a1 σ = some (r, σ1)) (h2 : f_X12_years a1 σ1 = some (r, σ2)) (k : J K 1238 [some (.ref 102), some (.ref 0), some (.ref 89), some (.int x3)] [] σ2) : J K 453 [some (.ref 102), some (.ref 0), some (.ref 89), some (.int x3)] [] σ := by
  refine j_aload_n X 1 dL_law_453 rfl rfl ?_
  refine j_aload_n X 0 dL_law_454 rfl rfl ?_
  refine j_iload_n X 3 dL_law_455 rfl rfl ?_
  refine j_iconst (v := 1) X dL_law_456 (by decide) ?_
  refine j_iadd X dL_law_457 ?_
  refine j_sld X Y n1 e1 dL_law_458 ?_
  refine j_callV (as := [.int a1]) (st := []) (st1 := [.int r]) X ln_0 ly_0 rfl rfl sv_RL_53 ⟨by decide, by decide⟩ rfl rfl (Nat.le_of_ble_eq_true rfl) rfl dL_law_459 jrv_i (c_X11_years h1) rfl ?_
  refine j_aload_n X 2 dL_law_462 rfl rfl ?_
  refine j_aload_n X 0 dL_law_463 rfl rfl ?_
  refine j_iload_n X 3 dL_law_464 rfl rfl ?_
  refine j_iconst (v := 1) X dL_law_465 (by decide) ?_
  refine j_iadd X dL_law_466 ?_
  refine j_sld X Y n1 e1 dL_law_467 ?_
  refine j_callV (as := [.int a1]) (st := [.int r]) (st1 := [.int r, .int r]) X ln_89 ly_89 rfl rfl sv_RL_56 ⟨by decide, by decide⟩ rfl rfl (Nat.le_of_ble_eq_true rfl) rfl dL_law_468 jrv_i (c_X12_years h2) rfl ?_
  exact jl_icmp_eq (tgt := 1238) X dL_law_471 (by decide) rfl k
set_option maxRecDepth 100000 in
set_option maxHeartbeats 4000000 in
theorem lawc_10 {K : jK} {b L : Nat} {xs : Nat → Int32} (X : JX K cL_law 4 RL 10 354) (Y : LX K b L xs) {x3 : Int32} {a1 a2 : Int32} (n1 : vp_in (x3 + 1) L) (e1 : xs (x3 + 1).toNatClampNeg = a1) (n2 : vp_in (x3 + 2) L) (e2 : xs (x3 + 2).toNatClampNeg = a2) {σ σ1 σ2 : jMem} {r : Int32} (h1 : f_X11_lock a1 a2 σ = some (r, σ1)) (h2 : f_X12_lock a1 a2 σ1 = some (r, σ2)) (k : J K 1238 [some (.ref 102), some (.ref 0), some (.ref 89), some (.int x3)] [] σ2) : J K 476 [some (.ref 102), some (.ref 0), some (.ref 89), some (.int x3)] [] σ := by
  refine j_aload_n X 1 dL_law_476 rfl rfl ?_
  refine j_aload_n X 0 dL_law_477 rfl rfl ?_
  refine j_iload_n X 3 dL_law_478 rfl rfl ?_
  refine j_iconst (v := 1) X dL_law_479 (by decide) ?_
  refine j_iadd X dL_law_480 ?_
  refine j_sld X Y n1 e1 dL_law_481 ?_
  refine j_aload_n X 0 dL_law_482 rfl rfl ?_
  refine j_iload_n X 3 dL_law_483 rfl rfl ?_
  refine j_iconst (v := 2) X dL_law_484 (by decide) ?_
  refine j_iadd X dL_law_485 ?_
  refine j_sld X Y n2 e2 dL_law_486 ?_
  refine j_callV (as := [.int a1, .int a2]) (st := []) (st1 := [.int r]) X ln_0 ly_0 rfl rfl sv_RL_57 ⟨by decide, by decide⟩ rfl rfl (Nat.le_of_ble_eq_true rfl) rfl dL_law_487 jrv_i (c_X11_lock h1) rfl ?_
  refine j_aload_n X 2 dL_law_490 rfl rfl ?_
  refine j_aload_n X 0 dL_law_491 rfl rfl ?_
  refine j_iload_n X 3 dL_law_492 rfl rfl ?_
  refine j_iconst (v := 1) X dL_law_493 (by decide) ?_
  refine j_iadd X dL_law_494 ?_
  refine j_sld X Y n1 e1 dL_law_495 ?_
  refine j_aload_n X 0 dL_law_496 rfl rfl ?_
  refine j_iload_n X 3 dL_law_497 rfl rfl ?_
  refine j_iconst (v := 2) X dL_law_498 (by decide) ?_
  refine j_iadd X dL_law_499 ?_
  refine j_sld X Y n2 e2 dL_law_500 ?_
  refine j_callV (as := [.int a1, .int a2]) (st := [.int r]) (st1 := [.int r, .int r]) X ln_89 ly_89 rfl rfl sv_RL_61 ⟨by decide, by decide⟩ rfl rfl (Nat.le_of_ble_eq_true rfl) rfl dL_law_501 jrv_i (c_X12_lock h2) rfl ?_
  exact jl_icmp_eq (tgt := 1238) X dL_law_504 (by decide) rfl k
set_option maxRecDepth 100000 in
set_option maxHeartbeats 4000000 in
theorem lawc_11 {K : jK} {b L : Nat} {xs : Nat → Int32} (X : JX K cL_law 4 RL 10 354) (Y : LX K b L xs) {x3 : Int32} {a1 : Int32} (n1 : vp_in (x3 + 1) L) (e1 : xs (x3 + 1).toNatClampNeg = a1) {σ σ1 σ2 : jMem} {r : Int32} (h1 : f_X11_follow a1 σ = some (r, σ1)) (h2 : f_X12_follow a1 σ1 = some (r, σ2)) (k : J K 1238 [some (.ref 102), some (.ref 0), some (.ref 89), some (.int x3)] [] σ2) : J K 509 [some (.ref 102), some (.ref 0), some (.ref 89), some (.int x3)] [] σ := by
  refine j_aload_n X 1 dL_law_509 rfl rfl ?_
  refine j_aload_n X 0 dL_law_510 rfl rfl ?_
  refine j_iload_n X 3 dL_law_511 rfl rfl ?_
  refine j_iconst (v := 1) X dL_law_512 (by decide) ?_
  refine j_iadd X dL_law_513 ?_
  refine j_sld X Y n1 e1 dL_law_514 ?_
  refine j_callV (as := [.int a1]) (st := []) (st1 := [.int r]) X ln_0 ly_0 rfl rfl sv_RL_62 ⟨by decide, by decide⟩ rfl rfl (Nat.le_of_ble_eq_true rfl) rfl dL_law_515 jrv_i (c_X11_follow h1) rfl ?_
  refine j_aload_n X 2 dL_law_518 rfl rfl ?_
  refine j_aload_n X 0 dL_law_519 rfl rfl ?_
  refine j_iload_n X 3 dL_law_520 rfl rfl ?_
  refine j_iconst (v := 1) X dL_law_521 (by decide) ?_
  refine j_iadd X dL_law_522 ?_
  refine j_sld X Y n1 e1 dL_law_523 ?_
  refine j_callV (as := [.int a1]) (st := [.int r]) (st1 := [.int r, .int r]) X ln_89 ly_89 rfl rfl sv_RL_65 ⟨by decide, by decide⟩ rfl rfl (Nat.le_of_ble_eq_true rfl) rfl dL_law_524 jrv_i (c_X12_follow h2) rfl ?_
  exact jl_icmp_eq (tgt := 1238) X dL_law_527 (by decide) rfl k
set_option maxRecDepth 100000 in
set_option maxHeartbeats 4000000 in
theorem lawc_12 {K : jK} {b L : Nat} {xs : Nat → Int32} (X : JX K cL_law 4 RL 10 354) (Y : LX K b L xs) {x3 : Int32} {a1 a2 : Int32} (n1 : vp_in (x3 + 1) L) (e1 : xs (x3 + 1).toNatClampNeg = a1) (n2 : vp_in (x3 + 2) L) (e2 : xs (x3 + 2).toNatClampNeg = a2) {σ σ1 σ2 : jMem} {r : Int32} (h1 : f_X11_witness a1 a2 σ = some (r, σ1)) (h2 : f_X12_witness a1 a2 σ1 = some (r, σ2)) (k : J K 1238 [some (.ref 102), some (.ref 0), some (.ref 89), some (.int x3)] [] σ2) : J K 532 [some (.ref 102), some (.ref 0), some (.ref 89), some (.int x3)] [] σ := by
  refine j_aload_n X 1 dL_law_532 rfl rfl ?_
  refine j_aload_n X 0 dL_law_533 rfl rfl ?_
  refine j_iload_n X 3 dL_law_534 rfl rfl ?_
  refine j_iconst (v := 1) X dL_law_535 (by decide) ?_
  refine j_iadd X dL_law_536 ?_
  refine j_sld X Y n1 e1 dL_law_537 ?_
  refine j_aload_n X 0 dL_law_538 rfl rfl ?_
  refine j_iload_n X 3 dL_law_539 rfl rfl ?_
  refine j_iconst (v := 2) X dL_law_540 (by decide) ?_
  refine j_iadd X dL_law_541 ?_
  refine j_sld X Y n2 e2 dL_law_542 ?_
  refine j_callV (as := [.int a1, .int a2]) (st := []) (st1 := [.int r]) X ln_0 ly_0 rfl rfl sv_RL_66 ⟨by decide, by decide⟩ rfl rfl (Nat.le_of_ble_eq_true rfl) rfl dL_law_543 jrv_i (c_X11_witness h1) rfl ?_
  refine j_aload_n X 2 dL_law_546 rfl rfl ?_
  refine j_aload_n X 0 dL_law_547 rfl rfl ?_
  refine j_iload_n X 3 dL_law_548 rfl rfl ?_
  refine j_iconst (v := 1) X dL_law_549 (by decide) ?_
  refine j_iadd X dL_law_550 ?_
  refine j_sld X Y n1 e1 dL_law_551 ?_
  refine j_aload_n X 0 dL_law_552 rfl rfl ?_
  refine j_iload_n X 3 dL_law_553 rfl rfl ?_
  refine j_iconst (v := 2) X dL_law_554 (by decide) ?_
  refine j_iadd X dL_law_555 ?_
  refine j_sld X Y n2 e2 dL_law_556 ?_
  refine j_callV (as := [.int a1, .int a2]) (st := [.int r]) (st1 := [.int r, .int r]) X ln_89 ly_89 rfl rfl sv_RL_69 ⟨by decide, by decide⟩ rfl rfl (Nat.le_of_ble_eq_true rfl) rfl dL_law_557 jrv_i (c_X12_witness h2) rfl ?_
  exact jl_icmp_eq (tgt := 1238) X dL_law_560 (by decide) rfl k
set_option maxRecDepth 100000 in
set_option maxHeartbeats 4000000 in
theorem lawc_13 {K : jK} {b L : Nat} {xs : Nat → Int32} (X : JX K cL_law 4 RL 10 354) (Y : LX K b L xs) {x3 : Int32} {a1 a2 : Int32} (n1 : vp_in (x3 + 1) L) (e1 : xs (x3 + 1).toNatClampNeg = a1) (n2 : vp_in (x3 + 2) L) (e2 : xs (x3 + 2).toNatClampNeg = a2) {σ σ1 σ2 : jMem} {r : Int32} (h1 : f_X11_path a1 a2 σ = some (r, σ1)) (h2 : f_X12_path a1 a2 σ1 = some (r, σ2)) (k : J K 1238 [some (.ref 102), some (.ref 0), some (.ref 89), some (.int x3)] [] σ2) : J K 565 [some (.ref 102), some (.ref 0), some (.ref 89), some (.int x3)] [] σ := by
  refine j_aload_n X 1 dL_law_565 rfl rfl ?_
  refine j_aload_n X 0 dL_law_566 rfl rfl ?_
  refine j_iload_n X 3 dL_law_567 rfl rfl ?_
  refine j_iconst (v := 1) X dL_law_568 (by decide) ?_
  refine j_iadd X dL_law_569 ?_
  refine j_sld X Y n1 e1 dL_law_570 ?_
  refine j_aload_n X 0 dL_law_571 rfl rfl ?_
  refine j_iload_n X 3 dL_law_572 rfl rfl ?_
  refine j_iconst (v := 2) X dL_law_573 (by decide) ?_
  refine j_iadd X dL_law_574 ?_
  refine j_sld X Y n2 e2 dL_law_575 ?_
  refine j_callV (as := [.int a1, .int a2]) (st := []) (st1 := [.int r]) X ln_0 ly_0 rfl rfl sv_RL_70 ⟨by decide, by decide⟩ rfl rfl (Nat.le_of_ble_eq_true rfl) rfl dL_law_576 jrv_i (c_X11_path h1) rfl ?_
  refine j_aload_n X 2 dL_law_579 rfl rfl ?_
  refine j_aload_n X 0 dL_law_580 rfl rfl ?_
  refine j_iload_n X 3 dL_law_581 rfl rfl ?_
  refine j_iconst (v := 1) X dL_law_582 (by decide) ?_
  refine j_iadd X dL_law_583 ?_
  refine j_sld X Y n1 e1 dL_law_584 ?_
  refine j_aload_n X 0 dL_law_585 rfl rfl ?_
  refine j_iload_n X 3 dL_law_586 rfl rfl ?_
  refine j_iconst (v := 2) X dL_law_587 (by decide) ?_
  refine j_iadd X dL_law_588 ?_
  refine j_sld X Y n2 e2 dL_law_589 ?_
  refine j_callV (as := [.int a1, .int a2]) (st := [.int r]) (st1 := [.int r, .int r]) X ln_89 ly_89 rfl rfl sv_RL_73 ⟨by decide, by decide⟩ rfl rfl (Nat.le_of_ble_eq_true rfl) rfl dL_law_590 jrv_i (c_X12_path h2) rfl ?_
  exact jl_icmp_eq (tgt := 1238) X dL_law_593 (by decide) rfl k
set_option maxRecDepth 100000 in
set_option maxHeartbeats 4000000 in
theorem lawc_14 {K : jK} {b L : Nat} {xs : Nat → Int32} (X : JX K cL_law 4 RL 10 354) (Y : LX K b L xs) {x3 : Int32} {a1 : Int32} (n1 : vp_in (x3 + 1) L) (e1 : xs (x3 + 1).toNatClampNeg = a1) {σ σ1 σ2 : jMem} {r : Int32} (h1 : f_X11_stand a1 σ = some (r, σ1)) (h2 : f_X12_stand a1 σ1 = some (r, σ2)) (k : J K 1238 [some (.ref 102), some (.ref 0), some (.ref 89), some (.int x3)] [] σ2) : J K 598 [some (.ref 102), some (.ref 0), some (.ref 89), some (.int x3)] [] σ := by
  refine j_aload_n X 1 dL_law_598 rfl rfl ?_
  refine j_aload_n X 0 dL_law_599 rfl rfl ?_
  refine j_iload_n X 3 dL_law_600 rfl rfl ?_
  refine j_iconst (v := 1) X dL_law_601 (by decide) ?_
  refine j_iadd X dL_law_602 ?_
  refine j_sld X Y n1 e1 dL_law_603 ?_
  refine j_callV (as := [.int a1]) (st := []) (st1 := [.int r]) X ln_0 ly_0 rfl rfl sv_RL_74 ⟨by decide, by decide⟩ rfl rfl (Nat.le_of_ble_eq_true rfl) rfl dL_law_604 jrv_i (c_X11_stand h1) rfl ?_
  refine j_aload_n X 2 dL_law_607 rfl rfl ?_
  refine j_aload_n X 0 dL_law_608 rfl rfl ?_
  refine j_iload_n X 3 dL_law_609 rfl rfl ?_
  refine j_iconst (v := 1) X dL_law_610 (by decide) ?_
  refine j_iadd X dL_law_611 ?_
  refine j_sld X Y n1 e1 dL_law_612 ?_
  refine j_callV (as := [.int a1]) (st := [.int r]) (st1 := [.int r, .int r]) X ln_89 ly_89 rfl rfl sv_RL_77 ⟨by decide, by decide⟩ rfl rfl (Nat.le_of_ble_eq_true rfl) rfl dL_law_613 jrv_i (c_X12_stand h2) rfl ?_
  exact jl_icmp_eq (tgt := 1238) X dL_law_616 (by decide) rfl k
set_option maxRecDepth 100000 in
set_option maxHeartbeats 4000000 in
theorem lawc_15 {K : jK} {b L : Nat} {xs : Nat → Int32} (X : JX K cL_law 4 RL 10 354) (Y : LX K b L xs) {x3 : Int32} {a1 : Int32} (n1 : vp_in (x3 + 1) L) (e1 : xs (x3 + 1).toNatClampNeg = a1) {σ σ1 σ2 : jMem} {r : Int32} (h1 : f_X11_ahead a1 σ = some (r, σ1)) (h2 : f_X12_ahead a1 σ1 = some (r, σ2)) (k : J K 1238 [some (.ref 102), some (.ref 0), some (.ref 89), some (.int x3)] [] σ2) : J K 621 [some (.ref 102), some (.ref 0), some (.ref 89), some (.int x3)] [] σ := by
  refine j_aload_n X 1 dL_law_621 rfl rfl ?_
  refine j_aload_n X 0 dL_law_622 rfl rfl ?_
  refine j_iload_n X 3 dL_law_623 rfl rfl ?_
  refine j_iconst (v := 1) X dL_law_624 (by decide) ?_
  refine j_iadd X dL_law_625 ?_
  refine j_sld X Y n1 e1 dL_law_626 ?_
  refine j_callV (as := [.int a1]) (st := []) (st1 := [.int r]) X ln_0 ly_0 rfl rfl sv_RL_78 ⟨by decide, by decide⟩ rfl rfl (Nat.le_of_ble_eq_true rfl) rfl dL_law_627 jrv_i (c_X11_ahead h1) rfl ?_
  refine j_aload_n X 2 dL_law_630 rfl rfl ?_
  refine j_aload_n X 0 dL_law_631 rfl rfl ?_
  refine j_iload_n X 3 dL_law_632 rfl rfl ?_
  refine j_iconst (v := 1) X dL_law_633 (by decide) ?_
  refine j_iadd X dL_law_634 ?_
  refine j_sld X Y n1 e1 dL_law_635 ?_
  refine j_callV (as := [.int a1]) (st := [.int r]) (st1 := [.int r, .int r]) X ln_89 ly_89 rfl rfl sv_RL_81 ⟨by decide, by decide⟩ rfl rfl (Nat.le_of_ble_eq_true rfl) rfl dL_law_636 jrv_i (c_X12_ahead h2) rfl ?_
  exact jl_icmp_eq (tgt := 1238) X dL_law_639 (by decide) rfl k
set_option maxRecDepth 100000 in
set_option maxHeartbeats 4000000 in
theorem lawc_16 {K : jK} {b L : Nat} {xs : Nat → Int32} (X : JX K cL_law 4 RL 10 354) (Y : LX K b L xs) {x3 : Int32} {a1 : Int32} (n1 : vp_in (x3 + 1) L) (e1 : xs (x3 + 1).toNatClampNeg = a1) {σ σ1 σ2 : jMem} {r : Int32} (h1 : f_X11_lost a1 σ = some (r, σ1)) (h2 : f_X12_lost a1 σ1 = some (r, σ2)) (k : J K 1238 [some (.ref 102), some (.ref 0), some (.ref 89), some (.int x3)] [] σ2) : J K 644 [some (.ref 102), some (.ref 0), some (.ref 89), some (.int x3)] [] σ := by
  refine j_aload_n X 1 dL_law_644 rfl rfl ?_
  refine j_aload_n X 0 dL_law_645 rfl rfl ?_
  refine j_iload_n X 3 dL_law_646 rfl rfl ?_
  refine j_iconst (v := 1) X dL_law_647 (by decide) ?_
  refine j_iadd X dL_law_648 ?_
  refine j_sld X Y n1 e1 dL_law_649 ?_
  refine j_callV (as := [.int a1]) (st := []) (st1 := [.int r]) X ln_0 ly_0 rfl rfl sv_RL_82 ⟨by decide, by decide⟩ rfl rfl (Nat.le_of_ble_eq_true rfl) rfl dL_law_650 jrv_i (c_X11_lost h1) rfl ?_
  refine j_aload_n X 2 dL_law_653 rfl rfl ?_
  refine j_aload_n X 0 dL_law_654 rfl rfl ?_
  refine j_iload_n X 3 dL_law_655 rfl rfl ?_
  refine j_iconst (v := 1) X dL_law_656 (by decide) ?_
  refine j_iadd X dL_law_657 ?_
  refine j_sld X Y n1 e1 dL_law_658 ?_
  refine j_callV (as := [.int a1]) (st := [.int r]) (st1 := [.int r, .int r]) X ln_89 ly_89 rfl rfl sv_RL_85 ⟨by decide, by decide⟩ rfl rfl (Nat.le_of_ble_eq_true rfl) rfl dL_law_659 jrv_i (c_X12_lost h2) rfl ?_
  exact jl_icmp_eq (tgt := 1238) X dL_law_662 (by decide) rfl k
set_option maxRecDepth 100000 in
set_option maxHeartbeats 4000000 in
theorem lawc_17 {K : jK} {b L : Nat} {xs : Nat → Int32} (X : JX K cL_law 4 RL 10 354) (Y : LX K b L xs) {x3 : Int32} {a1 a2 : Int32} (n1 : vp_in (x3 + 1) L) (e1 : xs (x3 + 1).toNatClampNeg = a1) (n2 : vp_in (x3 + 2) L) (e2 : xs (x3 + 2).toNatClampNeg = a2) {σ σ1 σ2 : jMem} {r : Int32} (h1 : f_X11_goes a1 a2 σ = some (r, σ1)) (h2 : f_X12_goes a1 a2 σ1 = some (r, σ2)) (k : J K 1238 [some (.ref 102), some (.ref 0), some (.ref 89), some (.int x3)] [] σ2) : J K 667 [some (.ref 102), some (.ref 0), some (.ref 89), some (.int x3)] [] σ := by
  refine j_aload_n X 1 dL_law_667 rfl rfl ?_
  refine j_aload_n X 0 dL_law_668 rfl rfl ?_
  refine j_iload_n X 3 dL_law_669 rfl rfl ?_
  refine j_iconst (v := 1) X dL_law_670 (by decide) ?_
  refine j_iadd X dL_law_671 ?_
  refine j_sld X Y n1 e1 dL_law_672 ?_
  refine j_aload_n X 0 dL_law_673 rfl rfl ?_
  refine j_iload_n X 3 dL_law_674 rfl rfl ?_
  refine j_iconst (v := 2) X dL_law_675 (by decide) ?_
  refine j_iadd X dL_law_676 ?_
  refine j_sld X Y n2 e2 dL_law_677 ?_
  refine j_callV (as := [.int a1, .int a2]) (st := []) (st1 := [.int r]) X ln_0 ly_0 rfl rfl sv_RL_86 ⟨by decide, by decide⟩ rfl rfl (Nat.le_of_ble_eq_true rfl) rfl dL_law_678 jrv_i (c_X11_goes h1) rfl ?_
  refine j_aload_n X 2 dL_law_681 rfl rfl ?_
  refine j_aload_n X 0 dL_law_682 rfl rfl ?_
  refine j_iload_n X 3 dL_law_683 rfl rfl ?_
  refine j_iconst (v := 1) X dL_law_684 (by decide) ?_
  refine j_iadd X dL_law_685 ?_
  refine j_sld X Y n1 e1 dL_law_686 ?_
  refine j_aload_n X 0 dL_law_687 rfl rfl ?_
  refine j_iload_n X 3 dL_law_688 rfl rfl ?_
  refine j_iconst (v := 2) X dL_law_689 (by decide) ?_
  refine j_iadd X dL_law_690 ?_
  refine j_sld X Y n2 e2 dL_law_691 ?_
  refine j_callV (as := [.int a1, .int a2]) (st := [.int r]) (st1 := [.int r, .int r]) X ln_89 ly_89 rfl rfl sv_RL_89 ⟨by decide, by decide⟩ rfl rfl (Nat.le_of_ble_eq_true rfl) rfl dL_law_692 jrv_i (c_X12_goes h2) rfl ?_
  exact jl_icmp_eq (tgt := 1238) X dL_law_695 (by decide) rfl k
set_option maxRecDepth 100000 in
set_option maxHeartbeats 4000000 in
theorem lawc_18 {K : jK} {b L : Nat} {xs : Nat → Int32} (X : JX K cL_law 4 RL 10 354) (Y : LX K b L xs) {x3 : Int32} {a1 a2 : Int32} (n1 : vp_in (x3 + 1) L) (e1 : xs (x3 + 1).toNatClampNeg = a1) (n2 : vp_in (x3 + 2) L) (e2 : xs (x3 + 2).toNatClampNeg = a2) {σ σ1 σ2 : jMem} {r : Int32} (h1 : f_X11_stop a1 a2 σ = some (r, σ1)) (h2 : f_X12_stop a1 a2 σ1 = some (r, σ2)) (k : J K 1238 [some (.ref 102), some (.ref 0), some (.ref 89), some (.int x3)] [] σ2) : J K 700 [some (.ref 102), some (.ref 0), some (.ref 89), some (.int x3)] [] σ := by
  refine j_aload_n X 1 dL_law_700 rfl rfl ?_
  refine j_aload_n X 0 dL_law_701 rfl rfl ?_
  refine j_iload_n X 3 dL_law_702 rfl rfl ?_
  refine j_iconst (v := 1) X dL_law_703 (by decide) ?_
  refine j_iadd X dL_law_704 ?_
  refine j_sld X Y n1 e1 dL_law_705 ?_
  refine j_aload_n X 0 dL_law_706 rfl rfl ?_
  refine j_iload_n X 3 dL_law_707 rfl rfl ?_
  refine j_iconst (v := 2) X dL_law_708 (by decide) ?_
  refine j_iadd X dL_law_709 ?_
  refine j_sld X Y n2 e2 dL_law_710 ?_
  refine j_callV (as := [.int a1, .int a2]) (st := []) (st1 := [.int r]) X ln_0 ly_0 rfl rfl sv_RL_90 ⟨by decide, by decide⟩ rfl rfl (Nat.le_of_ble_eq_true rfl) rfl dL_law_711 jrv_i (c_X11_stop h1) rfl ?_
  refine j_aload_n X 2 dL_law_714 rfl rfl ?_
  refine j_aload_n X 0 dL_law_715 rfl rfl ?_
  refine j_iload_n X 3 dL_law_716 rfl rfl ?_
  refine j_iconst (v := 1) X dL_law_717 (by decide) ?_
  refine j_iadd X dL_law_718 ?_
  refine j_sld X Y n1 e1 dL_law_719 ?_
  refine j_aload_n X 0 dL_law_720 rfl rfl ?_
  refine j_iload_n X 3 dL_law_721 rfl rfl ?_
  refine j_iconst (v := 2) X dL_law_722 (by decide) ?_
  refine j_iadd X dL_law_723 ?_
  refine j_sld X Y n2 e2 dL_law_724 ?_
  refine j_callV (as := [.int a1, .int a2]) (st := [.int r]) (st1 := [.int r, .int r]) X ln_89 ly_89 rfl rfl sv_RL_93 ⟨by decide, by decide⟩ rfl rfl (Nat.le_of_ble_eq_true rfl) rfl dL_law_725 jrv_i (c_X12_stop h2) rfl ?_
  exact jl_icmp_eq (tgt := 1238) X dL_law_728 (by decide) rfl k
set_option maxRecDepth 100000 in
set_option maxHeartbeats 4000000 in
theorem lawc_19 {K : jK} {b L : Nat} {xs : Nat → Int32} (X : JX K cL_law 4 RL 10 354) (Y : LX K b L xs) {x3 : Int32} {a1 : Int32} (n1 : vp_in (x3 + 1) L) (e1 : xs (x3 + 1).toNatClampNeg = a1) {σ σ1 σ2 : jMem} {r : Int32} (h1 : f_X11_must a1 σ = some (r, σ1)) (h2 : f_X12_must_ a1 σ1 = some (r, σ2)) (k : J K 1238 [some (.ref 102), some (.ref 0), some (.ref 89), some (.int x3)] [] σ2) : J K 733 [some (.ref 102), some (.ref 0), some (.ref 89), some (.int x3)] [] σ := by
  refine j_aload_n X 1 dL_law_733 rfl rfl ?_
  refine j_aload_n X 0 dL_law_734 rfl rfl ?_
  refine j_iload_n X 3 dL_law_735 rfl rfl ?_
  refine j_iconst (v := 1) X dL_law_736 (by decide) ?_
  refine j_iadd X dL_law_737 ?_
  refine j_sld X Y n1 e1 dL_law_738 ?_
  refine j_callV (as := [.int a1]) (st := []) (st1 := [.int r]) X ln_0 ly_0 rfl rfl sv_RL_94 ⟨by decide, by decide⟩ rfl rfl (Nat.le_of_ble_eq_true rfl) rfl dL_law_739 jrv_i (c_X11_must h1) rfl ?_
  refine j_aload_n X 2 dL_law_742 rfl rfl ?_
  refine j_aload_n X 0 dL_law_743 rfl rfl ?_
  refine j_iload_n X 3 dL_law_744 rfl rfl ?_
  refine j_iconst (v := 1) X dL_law_745 (by decide) ?_
  refine j_iadd X dL_law_746 ?_
  refine j_sld X Y n1 e1 dL_law_747 ?_
  refine j_callV (as := [.int a1]) (st := [.int r]) (st1 := [.int r, .int r]) X ln_89 ly_89 rfl rfl sv_RL_97 ⟨by decide, by decide⟩ rfl rfl (Nat.le_of_ble_eq_true rfl) rfl dL_law_748 jrv_i (c_X12_must_ h2) rfl ?_
  exact jl_icmp_eq (tgt := 1238) X dL_law_751 (by decide) rfl k
set_option maxRecDepth 100000 in
set_option maxHeartbeats 4000000 in
theorem lawc_20 {K : jK} {b L : Nat} {xs : Nat → Int32} (X : JX K cL_law 4 RL 10 354) (Y : LX K b L xs) {x3 : Int32} {a1 a2 : Int32} (n1 : vp_in (x3 + 1) L) (e1 : xs (x3 + 1).toNatClampNeg = a1) (n2 : vp_in (x3 + 2) L) (e2 : xs (x3 + 2).toNatClampNeg = a2) {σ σ1 σ2 : jMem} {r : Int32} (h1 : f_X11_live a1 a2 σ = some (r, σ1)) (h2 : f_X12_live a1 a2 σ1 = some (r, σ2)) (k : J K 1238 [some (.ref 102), some (.ref 0), some (.ref 89), some (.int x3)] [] σ2) : J K 756 [some (.ref 102), some (.ref 0), some (.ref 89), some (.int x3)] [] σ := by
  refine j_aload_n X 1 dL_law_756 rfl rfl ?_
  refine j_aload_n X 0 dL_law_757 rfl rfl ?_
  refine j_iload_n X 3 dL_law_758 rfl rfl ?_
  refine j_iconst (v := 1) X dL_law_759 (by decide) ?_
  refine j_iadd X dL_law_760 ?_
  refine j_sld X Y n1 e1 dL_law_761 ?_
  refine j_aload_n X 0 dL_law_762 rfl rfl ?_
  refine j_iload_n X 3 dL_law_763 rfl rfl ?_
  refine j_iconst (v := 2) X dL_law_764 (by decide) ?_
  refine j_iadd X dL_law_765 ?_
  refine j_sld X Y n2 e2 dL_law_766 ?_
  refine j_callV (as := [.int a1, .int a2]) (st := []) (st1 := [.int r]) X ln_0 ly_0 rfl rfl sv_RL_98 ⟨by decide, by decide⟩ rfl rfl (Nat.le_of_ble_eq_true rfl) rfl dL_law_767 jrv_i (c_X11_live h1) rfl ?_
  refine j_aload_n X 2 dL_law_770 rfl rfl ?_
  refine j_aload_n X 0 dL_law_771 rfl rfl ?_
  refine j_iload_n X 3 dL_law_772 rfl rfl ?_
  refine j_iconst (v := 1) X dL_law_773 (by decide) ?_
  refine j_iadd X dL_law_774 ?_
  refine j_sld X Y n1 e1 dL_law_775 ?_
  refine j_aload_n X 0 dL_law_776 rfl rfl ?_
  refine j_iload_n X 3 dL_law_777 rfl rfl ?_
  refine j_iconst (v := 2) X dL_law_778 (by decide) ?_
  refine j_iadd X dL_law_779 ?_
  refine j_sld X Y n2 e2 dL_law_780 ?_
  refine j_callV (as := [.int a1, .int a2]) (st := [.int r]) (st1 := [.int r, .int r]) X ln_89 ly_89 rfl rfl sv_RL_101 ⟨by decide, by decide⟩ rfl rfl (Nat.le_of_ble_eq_true rfl) rfl dL_law_781 jrv_i (c_X12_live h2) rfl ?_
  exact jl_icmp_eq (tgt := 1238) X dL_law_784 (by decide) rfl k
set_option maxRecDepth 100000 in
set_option maxHeartbeats 4000000 in
theorem lawc_21 {K : jK} {b L : Nat} {xs : Nat → Int32} (X : JX K cL_law 4 RL 10 354) (Y : LX K b L xs) {x3 : Int32} {a1 : Int32} (n1 : vp_in (x3 + 1) L) (e1 : xs (x3 + 1).toNatClampNeg = a1) {σ σ1 σ2 : jMem} {r : Int32} (h1 : f_X11_makes a1 σ = some (r, σ1)) (h2 : f_X12_makes a1 σ1 = some (r, σ2)) (k : J K 1238 [some (.ref 102), some (.ref 0), some (.ref 89), some (.int x3)] [] σ2) : J K 789 [some (.ref 102), some (.ref 0), some (.ref 89), some (.int x3)] [] σ := by
  refine j_aload_n X 1 dL_law_789 rfl rfl ?_
  refine j_aload_n X 0 dL_law_790 rfl rfl ?_
  refine j_iload_n X 3 dL_law_791 rfl rfl ?_
  refine j_iconst (v := 1) X dL_law_792 (by decide) ?_
  refine j_iadd X dL_law_793 ?_
  refine j_sld X Y n1 e1 dL_law_794 ?_
  refine j_callV (as := [.int a1]) (st := []) (st1 := [.int r]) X ln_0 ly_0 rfl rfl sv_RL_102 ⟨by decide, by decide⟩ rfl rfl (Nat.le_of_ble_eq_true rfl) rfl dL_law_795 jrv_i (c_X11_makes h1) rfl ?_
  refine j_aload_n X 2 dL_law_798 rfl rfl ?_
  refine j_aload_n X 0 dL_law_799 rfl rfl ?_
  refine j_iload_n X 3 dL_law_800 rfl rfl ?_
  refine j_iconst (v := 1) X dL_law_801 (by decide) ?_
  refine j_iadd X dL_law_802 ?_
  refine j_sld X Y n1 e1 dL_law_803 ?_
  refine j_callV (as := [.int a1]) (st := [.int r]) (st1 := [.int r, .int r]) X ln_89 ly_89 rfl rfl sv_RL_105 ⟨by decide, by decide⟩ rfl rfl (Nat.le_of_ble_eq_true rfl) rfl dL_law_804 jrv_i (c_X12_makes h2) rfl ?_
  exact jl_icmp_eq (tgt := 1238) X dL_law_807 (by decide) rfl k
set_option maxRecDepth 100000 in
set_option maxHeartbeats 4000000 in
theorem lawc_22 {K : jK} {b L : Nat} {xs : Nat → Int32} (X : JX K cL_law 4 RL 10 354) (Y : LX K b L xs) {x3 : Int32} {a1 : Int32} (n1 : vp_in (x3 + 1) L) (e1 : xs (x3 + 1).toNatClampNeg = a1) {σ σ1 σ2 : jMem} {r : Int32} (h1 : f_X11_best a1 σ = some (r, σ1)) (h2 : f_X12_best a1 σ1 = some (r, σ2)) (k : J K 1238 [some (.ref 102), some (.ref 0), some (.ref 89), some (.int x3)] [] σ2) : J K 812 [some (.ref 102), some (.ref 0), some (.ref 89), some (.int x3)] [] σ := by
  refine j_aload_n X 1 dL_law_812 rfl rfl ?_
  refine j_aload_n X 0 dL_law_813 rfl rfl ?_
  refine j_iload_n X 3 dL_law_814 rfl rfl ?_
  refine j_iconst (v := 1) X dL_law_815 (by decide) ?_
  refine j_iadd X dL_law_816 ?_
  refine j_sld X Y n1 e1 dL_law_817 ?_
  refine j_callV (as := [.int a1]) (st := []) (st1 := [.int r]) X ln_0 ly_0 rfl rfl sv_RL_106 ⟨by decide, by decide⟩ rfl rfl (Nat.le_of_ble_eq_true rfl) rfl dL_law_818 jrv_i (c_X11_best h1) rfl ?_
  refine j_aload_n X 2 dL_law_821 rfl rfl ?_
  refine j_aload_n X 0 dL_law_822 rfl rfl ?_
  refine j_iload_n X 3 dL_law_823 rfl rfl ?_
  refine j_iconst (v := 1) X dL_law_824 (by decide) ?_
  refine j_iadd X dL_law_825 ?_
  refine j_sld X Y n1 e1 dL_law_826 ?_
  refine j_callV (as := [.int a1]) (st := [.int r]) (st1 := [.int r, .int r]) X ln_89 ly_89 rfl rfl sv_RL_109 ⟨by decide, by decide⟩ rfl rfl (Nat.le_of_ble_eq_true rfl) rfl dL_law_827 jrv_i (c_X12_best h2) rfl ?_
  exact jl_icmp_eq (tgt := 1238) X dL_law_830 (by decide) rfl k
set_option maxRecDepth 100000 in
set_option maxHeartbeats 4000000 in
theorem lawc_23 {K : jK} {b L : Nat} {xs : Nat → Int32} (X : JX K cL_law 4 RL 10 354) (Y : LX K b L xs) {x3 : Int32} {a1 a2 : Int32} (n1 : vp_in (x3 + 1) L) (e1 : xs (x3 + 1).toNatClampNeg = a1) (n2 : vp_in (x3 + 2) L) (e2 : xs (x3 + 2).toNatClampNeg = a2) {σ σ1 σ2 : jMem} {r : Int32} (h1 : f_X11_from a1 a2 σ = some (r, σ1)) (h2 : f_X12_from a1 a2 σ1 = some (r, σ2)) (k : J K 1238 [some (.ref 102), some (.ref 0), some (.ref 89), some (.int x3)] [] σ2) : J K 835 [some (.ref 102), some (.ref 0), some (.ref 89), some (.int x3)] [] σ := by
  refine j_aload_n X 1 dL_law_835 rfl rfl ?_
  refine j_aload_n X 0 dL_law_836 rfl rfl ?_
  refine j_iload_n X 3 dL_law_837 rfl rfl ?_
  refine j_iconst (v := 1) X dL_law_838 (by decide) ?_
  refine j_iadd X dL_law_839 ?_
  refine j_sld X Y n1 e1 dL_law_840 ?_
  refine j_aload_n X 0 dL_law_841 rfl rfl ?_
  refine j_iload_n X 3 dL_law_842 rfl rfl ?_
  refine j_iconst (v := 2) X dL_law_843 (by decide) ?_
  refine j_iadd X dL_law_844 ?_
  refine j_sld X Y n2 e2 dL_law_845 ?_
  refine j_callV (as := [.int a1, .int a2]) (st := []) (st1 := [.int r]) X ln_0 ly_0 rfl rfl sv_RL_110 ⟨by decide, by decide⟩ rfl rfl (Nat.le_of_ble_eq_true rfl) rfl dL_law_846 jrv_i (c_X11_from h1) rfl ?_
  refine j_aload_n X 2 dL_law_849 rfl rfl ?_
  refine j_aload_n X 0 dL_law_850 rfl rfl ?_
  refine j_iload_n X 3 dL_law_851 rfl rfl ?_
  refine j_iconst (v := 1) X dL_law_852 (by decide) ?_
  refine j_iadd X dL_law_853 ?_
  refine j_sld X Y n1 e1 dL_law_854 ?_
  refine j_aload_n X 0 dL_law_855 rfl rfl ?_
  refine j_iload_n X 3 dL_law_856 rfl rfl ?_
  refine j_iconst (v := 2) X dL_law_857 (by decide) ?_
  refine j_iadd X dL_law_858 ?_
  refine j_sld X Y n2 e2 dL_law_859 ?_
  refine j_callV (as := [.int a1, .int a2]) (st := [.int r]) (st1 := [.int r, .int r]) X ln_89 ly_89 rfl rfl sv_RL_113 ⟨by decide, by decide⟩ rfl rfl (Nat.le_of_ble_eq_true rfl) rfl dL_law_860 jrv_i (c_X12_from h2) rfl ?_
  exact jl_icmp_eq (tgt := 1238) X dL_law_863 (by decide) rfl k
set_option maxRecDepth 100000 in
set_option maxHeartbeats 4000000 in
theorem lawc_24 {K : jK} {b L : Nat} {xs : Nat → Int32} (X : JX K cL_law 4 RL 10 354) (Y : LX K b L xs) {x3 : Int32} {a1 a2 a3 a4 : Int32} (n1 : vp_in (x3 + 1) L) (e1 : xs (x3 + 1).toNatClampNeg = a1) (n2 : vp_in (x3 + 2) L) (e2 : xs (x3 + 2).toNatClampNeg = a2) (n3 : vp_in (x3 + 3) L) (e3 : xs (x3 + 3).toNatClampNeg = a3) (n4 : vp_in (x3 + 4) L) (e4 : xs (x3 + 4).toNatClampNeg = a4) {σ σ1 σ2 : jMem} {r : Int32} (h1 : f_X11_who a1 a2 a3 a4 σ = some (r, σ1)) (h2 : f_X12_who a1 a2 a3 a4 σ1 = some (r, σ2)) (k : J K 1238 [some (.ref 102), some (.ref 0), some (.ref 89), some (.int x3)] [] σ2) : J K 868 [some (.ref 102), some (.ref 0), some (.ref 89), some (.int x3)] [] σ := by
  refine j_aload_n X 1 dL_law_868 rfl rfl ?_
  refine j_aload_n X 0 dL_law_869 rfl rfl ?_
  refine j_iload_n X 3 dL_law_870 rfl rfl ?_
  refine j_iconst (v := 1) X dL_law_871 (by decide) ?_
  refine j_iadd X dL_law_872 ?_
  refine j_sld X Y n1 e1 dL_law_873 ?_
  refine j_aload_n X 0 dL_law_874 rfl rfl ?_
  refine j_iload_n X 3 dL_law_875 rfl rfl ?_
  refine j_iconst (v := 2) X dL_law_876 (by decide) ?_
  refine j_iadd X dL_law_877 ?_
  refine j_sld X Y n2 e2 dL_law_878 ?_
  refine j_aload_n X 0 dL_law_879 rfl rfl ?_
  refine j_iload_n X 3 dL_law_880 rfl rfl ?_
  refine j_iconst (v := 3) X dL_law_881 (by decide) ?_
  refine j_iadd X dL_law_882 ?_
  refine j_sld X Y n3 e3 dL_law_883 ?_
  refine j_aload_n X 0 dL_law_884 rfl rfl ?_
  refine j_iload_n X 3 dL_law_885 rfl rfl ?_
  refine j_iconst (v := 4) X dL_law_886 (by decide) ?_
  refine j_iadd X dL_law_887 ?_
  refine j_sld X Y n4 e4 dL_law_888 ?_
  refine j_callV (as := [.int a1, .int a2, .int a3, .int a4]) (st := []) (st1 := [.int r]) X ln_0 ly_0 rfl rfl sv_RL_114 ⟨by decide, by decide⟩ rfl rfl (Nat.le_of_ble_eq_true rfl) rfl dL_law_889 jrv_i (c_X11_who h1) rfl ?_
  refine j_aload_n X 2 dL_law_892 rfl rfl ?_
  refine j_aload_n X 0 dL_law_893 rfl rfl ?_
  refine j_iload_n X 3 dL_law_894 rfl rfl ?_
  refine j_iconst (v := 1) X dL_law_895 (by decide) ?_
  refine j_iadd X dL_law_896 ?_
  refine j_sld X Y n1 e1 dL_law_897 ?_
  refine j_aload_n X 0 dL_law_898 rfl rfl ?_
  refine j_iload_n X 3 dL_law_899 rfl rfl ?_
  refine j_iconst (v := 2) X dL_law_900 (by decide) ?_
  refine j_iadd X dL_law_901 ?_
  refine j_sld X Y n2 e2 dL_law_902 ?_
  refine j_aload_n X 0 dL_law_903 rfl rfl ?_
  refine j_iload_n X 3 dL_law_904 rfl rfl ?_
  refine j_iconst (v := 3) X dL_law_905 (by decide) ?_
  refine j_iadd X dL_law_906 ?_
  refine j_sld X Y n3 e3 dL_law_907 ?_
  refine j_aload_n X 0 dL_law_908 rfl rfl ?_
  refine j_iload_n X 3 dL_law_909 rfl rfl ?_
  refine j_iconst (v := 4) X dL_law_910 (by decide) ?_
  refine j_iadd X dL_law_911 ?_
  refine j_sld X Y n4 e4 dL_law_912 ?_
  refine j_callV (as := [.int a1, .int a2, .int a3, .int a4]) (st := [.int r]) (st1 := [.int r, .int r]) X ln_89 ly_89 rfl rfl sv_RL_118 ⟨by decide, by decide⟩ rfl rfl (Nat.le_of_ble_eq_true rfl) rfl dL_law_913 jrv_i (c_X12_who h2) rfl ?_
  exact jl_icmp_eq (tgt := 1238) X dL_law_916 (by decide) rfl k
set_option maxRecDepth 100000 in
set_option maxHeartbeats 4000000 in
theorem lawc_25 {K : jK} {b L : Nat} {xs : Nat → Int32} (X : JX K cL_law 4 RL 10 354) (Y : LX K b L xs) {x3 : Int32} {a1 : Int32} (n1 : vp_in (x3 + 1) L) (e1 : xs (x3 + 1).toNatClampNeg = a1) {σ σ1 σ2 : jMem} {r : Int32} (h1 : f_X11_far a1 σ = some (r, σ1)) (h2 : f_X12_far a1 σ1 = some (r, σ2)) (k : J K 1238 [some (.ref 102), some (.ref 0), some (.ref 89), some (.int x3)] [] σ2) : J K 921 [some (.ref 102), some (.ref 0), some (.ref 89), some (.int x3)] [] σ := by
  refine j_aload_n X 1 dL_law_921 rfl rfl ?_
  refine j_aload_n X 0 dL_law_922 rfl rfl ?_
  refine j_iload_n X 3 dL_law_923 rfl rfl ?_
  refine j_iconst (v := 1) X dL_law_924 (by decide) ?_
  refine j_iadd X dL_law_925 ?_
  refine j_sld X Y n1 e1 dL_law_926 ?_
  refine j_callV (as := [.int a1]) (st := []) (st1 := [.int r]) X ln_0 ly_0 rfl rfl sv_RL_119 ⟨by decide, by decide⟩ rfl rfl (Nat.le_of_ble_eq_true rfl) rfl dL_law_927 jrv_i (c_X11_far h1) rfl ?_
  refine j_aload_n X 2 dL_law_930 rfl rfl ?_
  refine j_aload_n X 0 dL_law_931 rfl rfl ?_
  refine j_iload_n X 3 dL_law_932 rfl rfl ?_
  refine j_iconst (v := 1) X dL_law_933 (by decide) ?_
  refine j_iadd X dL_law_934 ?_
  refine j_sld X Y n1 e1 dL_law_935 ?_
  refine j_callV (as := [.int a1]) (st := [.int r]) (st1 := [.int r, .int r]) X ln_89 ly_89 rfl rfl sv_RL_122 ⟨by decide, by decide⟩ rfl rfl (Nat.le_of_ble_eq_true rfl) rfl dL_law_936 jrv_i (c_X12_far h2) rfl ?_
  exact jl_icmp_eq (tgt := 1238) X dL_law_939 (by decide) rfl k
set_option maxRecDepth 100000 in
set_option maxHeartbeats 4000000 in
theorem lawc_26 {K : jK} {b L : Nat} {xs : Nat → Int32} (X : JX K cL_law 4 RL 10 354) (Y : LX K b L xs) {x3 : Int32}   {σ σ1 σ2 : jMem} {r : Int32} (h1 : f_X11_pairs  σ = some (r, σ1)) (h2 : f_X12_pairs  σ1 = some (r, σ2)) (k : J K 1238 [some (.ref 102), some (.ref 0), some (.ref 89), some (.int x3)] [] σ2) : J K 944 [some (.ref 102), some (.ref 0), some (.ref 89), some (.int x3)] [] σ := by
  refine j_aload_n X 1 dL_law_944 rfl rfl ?_
  refine j_callV (as := []) (st := []) (st1 := [.int r]) X ln_0 ly_0 rfl rfl sv_RL_123 ⟨by decide, by decide⟩ rfl rfl (Nat.le_of_ble_eq_true rfl) rfl dL_law_945 jrv_i (c_X11_pairs h1) rfl ?_
  refine j_aload_n X 2 dL_law_948 rfl rfl ?_
  refine j_callV (as := []) (st := [.int r]) (st1 := [.int r, .int r]) X ln_89 ly_89 rfl rfl sv_RL_126 ⟨by decide, by decide⟩ rfl rfl (Nat.le_of_ble_eq_true rfl) rfl dL_law_949 jrv_i (c_X12_pairs h2) rfl ?_
  exact jl_icmp_eq (tgt := 1238) X dL_law_952 (by decide) rfl k
set_option maxRecDepth 100000 in
set_option maxHeartbeats 4000000 in
theorem lawc_27 {K : jK} {b L : Nat} {xs : Nat → Int32} (X : JX K cL_law 4 RL 10 354) (Y : LX K b L xs) {x3 : Int32} {a1 a2 a3 : Int32} (n1 : vp_in (x3 + 1) L) (e1 : xs (x3 + 1).toNatClampNeg = a1) (n2 : vp_in (x3 + 2) L) (e2 : xs (x3 + 2).toNatClampNeg = a2) (n3 : vp_in (x3 + 3) L) (e3 : xs (x3 + 3).toNatClampNeg = a3) {σ σ1 σ2 : jMem} {r : Int64} (h1 : f_X11_locked a1 a2 a3 σ = some (r, σ1)) (h2 : f_X12_locked a1 a2 a3 σ1 = some (r, σ2)) (k : J K 1238 [some (.ref 102), some (.ref 0), some (.ref 89), some (.int x3)] [] σ2) : J K 957 [some (.ref 102), some (.ref 0), some (.ref 89), some (.int x3)] [] σ := by
  refine j_aload_n X 1 dL_law_957 rfl rfl ?_
  refine j_aload_n X 0 dL_law_958 rfl rfl ?_
  refine j_iload_n X 3 dL_law_959 rfl rfl ?_
  refine j_iconst (v := 1) X dL_law_960 (by decide) ?_
  refine j_iadd X dL_law_961 ?_
  refine j_sld X Y n1 e1 dL_law_962 ?_
  refine j_aload_n X 0 dL_law_963 rfl rfl ?_
  refine j_iload_n X 3 dL_law_964 rfl rfl ?_
  refine j_iconst (v := 2) X dL_law_965 (by decide) ?_
  refine j_iadd X dL_law_966 ?_
  refine j_sld X Y n2 e2 dL_law_967 ?_
  refine j_aload_n X 0 dL_law_968 rfl rfl ?_
  refine j_iload_n X 3 dL_law_969 rfl rfl ?_
  refine j_iconst (v := 3) X dL_law_970 (by decide) ?_
  refine j_iadd X dL_law_971 ?_
  refine j_sld X Y n3 e3 dL_law_972 ?_
  refine j_callV (as := [.int a1, .int a2, .int a3]) (st := []) (st1 := [.long r]) X ln_0 ly_0 rfl rfl sv_RL_127 ⟨by decide, by decide⟩ rfl rfl (Nat.le_of_ble_eq_true rfl) rfl dL_law_973 jrv_l (c_X11_locked h1) rfl ?_
  refine j_aload_n X 2 dL_law_976 rfl rfl ?_
  refine j_aload_n X 0 dL_law_977 rfl rfl ?_
  refine j_iload_n X 3 dL_law_978 rfl rfl ?_
  refine j_iconst (v := 1) X dL_law_979 (by decide) ?_
  refine j_iadd X dL_law_980 ?_
  refine j_sld X Y n1 e1 dL_law_981 ?_
  refine j_aload_n X 0 dL_law_982 rfl rfl ?_
  refine j_iload_n X 3 dL_law_983 rfl rfl ?_
  refine j_iconst (v := 2) X dL_law_984 (by decide) ?_
  refine j_iadd X dL_law_985 ?_
  refine j_sld X Y n2 e2 dL_law_986 ?_
  refine j_aload_n X 0 dL_law_987 rfl rfl ?_
  refine j_iload_n X 3 dL_law_988 rfl rfl ?_
  refine j_iconst (v := 3) X dL_law_989 (by decide) ?_
  refine j_iadd X dL_law_990 ?_
  refine j_sld X Y n3 e3 dL_law_991 ?_
  refine j_callV (as := [.int a1, .int a2, .int a3]) (st := [.long r]) (st1 := [.long r, .long r]) X ln_89 ly_89 rfl rfl sv_RL_131 ⟨by decide, by decide⟩ rfl rfl (Nat.le_of_ble_eq_true rfl) rfl dL_law_992 jrv_l (c_X12_locked h2) rfl ?_
  refine j_lcmp X dL_law_995 ?_
  exact jl_if_eq (tgt := 1238) X dL_law_996 (by decide) (by simp [lg_cmp]) k
set_option maxRecDepth 100000 in
set_option maxHeartbeats 4000000 in
theorem lawc_28 {K : jK} {b L : Nat} {xs : Nat → Int32} (X : JX K cL_law 4 RL 10 354) (Y : LX K b L xs) {x3 : Int32} {a1 a2 a3 : Int32} (n1 : vp_in (x3 + 1) L) (e1 : xs (x3 + 1).toNatClampNeg = a1) (n2 : vp_in (x3 + 2) L) (e2 : xs (x3 + 2).toNatClampNeg = a2) (n3 : vp_in (x3 + 3) L) (e3 : xs (x3 + 3).toNatClampNeg = a3) {σ σ1 σ2 : jMem} {r : Int32} (h1 : f_X11_drawn a1 a2 a3 σ = some (r, σ1)) (h2 : f_X12_drawn a1 a2 a3 σ1 = some (r, σ2)) (k : J K 1238 [some (.ref 102), some (.ref 0), some (.ref 89), some (.int x3)] [] σ2) : J K 1001 [some (.ref 102), some (.ref 0), some (.ref 89), some (.int x3)] [] σ := by
  refine j_aload_n X 1 dL_law_1001 rfl rfl ?_
  refine j_aload_n X 0 dL_law_1002 rfl rfl ?_
  refine j_iload_n X 3 dL_law_1003 rfl rfl ?_
  refine j_iconst (v := 1) X dL_law_1004 (by decide) ?_
  refine j_iadd X dL_law_1005 ?_
  refine j_sld X Y n1 e1 dL_law_1006 ?_
  refine j_aload_n X 0 dL_law_1007 rfl rfl ?_
  refine j_iload_n X 3 dL_law_1008 rfl rfl ?_
  refine j_iconst (v := 2) X dL_law_1009 (by decide) ?_
  refine j_iadd X dL_law_1010 ?_
  refine j_sld X Y n2 e2 dL_law_1011 ?_
  refine j_aload_n X 0 dL_law_1012 rfl rfl ?_
  refine j_iload_n X 3 dL_law_1013 rfl rfl ?_
  refine j_iconst (v := 3) X dL_law_1014 (by decide) ?_
  refine j_iadd X dL_law_1015 ?_
  refine j_sld X Y n3 e3 dL_law_1016 ?_
  refine j_callV (as := [.int a1, .int a2, .int a3]) (st := []) (st1 := [.int r]) X ln_0 ly_0 rfl rfl sv_RL_132 ⟨by decide, by decide⟩ rfl rfl (Nat.le_of_ble_eq_true rfl) rfl dL_law_1017 jrv_i (c_X11_drawn h1) rfl ?_
  refine j_aload_n X 2 dL_law_1020 rfl rfl ?_
  refine j_aload_n X 0 dL_law_1021 rfl rfl ?_
  refine j_iload_n X 3 dL_law_1022 rfl rfl ?_
  refine j_iconst (v := 1) X dL_law_1023 (by decide) ?_
  refine j_iadd X dL_law_1024 ?_
  refine j_sld X Y n1 e1 dL_law_1025 ?_
  refine j_aload_n X 0 dL_law_1026 rfl rfl ?_
  refine j_iload_n X 3 dL_law_1027 rfl rfl ?_
  refine j_iconst (v := 2) X dL_law_1028 (by decide) ?_
  refine j_iadd X dL_law_1029 ?_
  refine j_sld X Y n2 e2 dL_law_1030 ?_
  refine j_aload_n X 0 dL_law_1031 rfl rfl ?_
  refine j_iload_n X 3 dL_law_1032 rfl rfl ?_
  refine j_iconst (v := 3) X dL_law_1033 (by decide) ?_
  refine j_iadd X dL_law_1034 ?_
  refine j_sld X Y n3 e3 dL_law_1035 ?_
  refine j_callV (as := [.int a1, .int a2, .int a3]) (st := [.int r]) (st1 := [.int r, .int r]) X ln_89 ly_89 rfl rfl sv_RL_135 ⟨by decide, by decide⟩ rfl rfl (Nat.le_of_ble_eq_true rfl) rfl dL_law_1036 jrv_i (c_X12_drawn h2) rfl ?_
  exact jl_icmp_eq (tgt := 1238) X dL_law_1039 (by decide) rfl k
set_option maxRecDepth 100000 in
set_option maxHeartbeats 4000000 in
theorem lawc_29 {K : jK} {b L : Nat} {xs : Nat → Int32} (X : JX K cL_law 4 RL 10 354) (Y : LX K b L xs) {x3 : Int32} {a1 : Int32} (n1 : vp_in (x3 + 1) L) (e1 : xs (x3 + 1).toNatClampNeg = a1) {σ σ1 σ2 : jMem} {r : Int32} (h1 : f_X11_image a1 σ = some (r, σ1)) (h2 : f_X12_image a1 σ1 = some (r, σ2)) (k : J K 1238 [some (.ref 102), some (.ref 0), some (.ref 89), some (.int x3)] [] σ2) : J K 1044 [some (.ref 102), some (.ref 0), some (.ref 89), some (.int x3)] [] σ := by
  refine j_aload_n X 1 dL_law_1044 rfl rfl ?_
  refine j_aload_n X 0 dL_law_1045 rfl rfl ?_
  refine j_iload_n X 3 dL_law_1046 rfl rfl ?_
  refine j_iconst (v := 1) X dL_law_1047 (by decide) ?_
  refine j_iadd X dL_law_1048 ?_
  refine j_sld X Y n1 e1 dL_law_1049 ?_
  refine j_callV (as := [.int a1]) (st := []) (st1 := [.int r]) X ln_0 ly_0 rfl rfl sv_RL_136 ⟨by decide, by decide⟩ rfl rfl (Nat.le_of_ble_eq_true rfl) rfl dL_law_1050 jrv_i (c_X11_image h1) rfl ?_
  refine j_aload_n X 2 dL_law_1053 rfl rfl ?_
  refine j_aload_n X 0 dL_law_1054 rfl rfl ?_
  refine j_iload_n X 3 dL_law_1055 rfl rfl ?_
  refine j_iconst (v := 1) X dL_law_1056 (by decide) ?_
  refine j_iadd X dL_law_1057 ?_
  refine j_sld X Y n1 e1 dL_law_1058 ?_
  refine j_callV (as := [.int a1]) (st := [.int r]) (st1 := [.int r, .int r]) X ln_89 ly_89 rfl rfl sv_RL_139 ⟨by decide, by decide⟩ rfl rfl (Nat.le_of_ble_eq_true rfl) rfl dL_law_1059 jrv_i (c_X12_image h2) rfl ?_
  exact jl_icmp_eq (tgt := 1238) X dL_law_1062 (by decide) rfl k
set_option maxRecDepth 100000 in
set_option maxHeartbeats 4000000 in
theorem lawc_30 {K : jK} {b L : Nat} {xs : Nat → Int32} (X : JX K cL_law 4 RL 10 354) (Y : LX K b L xs) {x3 : Int32} {a1 : Int32} (n1 : vp_in (x3 + 1) L) (e1 : xs (x3 + 1).toNatClampNeg = a1) {σ σ1 σ2 : jMem} {r : Int32} (h1 : f_X11_restore a1 σ = some (r, σ1)) (h2 : f_X12_restore a1 σ1 = some (r, σ2)) (k : J K 1238 [some (.ref 102), some (.ref 0), some (.ref 89), some (.int x3)] [] σ2) : J K 1067 [some (.ref 102), some (.ref 0), some (.ref 89), some (.int x3)] [] σ := by
  refine j_aload_n X 1 dL_law_1067 rfl rfl ?_
  refine j_aload_n X 0 dL_law_1068 rfl rfl ?_
  refine j_iload_n X 3 dL_law_1069 rfl rfl ?_
  refine j_iconst (v := 1) X dL_law_1070 (by decide) ?_
  refine j_iadd X dL_law_1071 ?_
  refine j_sld X Y n1 e1 dL_law_1072 ?_
  refine j_callV (as := [.int a1]) (st := []) (st1 := [.int r]) X ln_0 ly_0 rfl rfl sv_RL_140 ⟨by decide, by decide⟩ rfl rfl (Nat.le_of_ble_eq_true rfl) rfl dL_law_1073 jrv_i (c_X11_restore h1) rfl ?_
  refine j_aload_n X 2 dL_law_1076 rfl rfl ?_
  refine j_aload_n X 0 dL_law_1077 rfl rfl ?_
  refine j_iload_n X 3 dL_law_1078 rfl rfl ?_
  refine j_iconst (v := 1) X dL_law_1079 (by decide) ?_
  refine j_iadd X dL_law_1080 ?_
  refine j_sld X Y n1 e1 dL_law_1081 ?_
  refine j_callV (as := [.int a1]) (st := [.int r]) (st1 := [.int r, .int r]) X ln_89 ly_89 rfl rfl sv_RL_143 ⟨by decide, by decide⟩ rfl rfl (Nat.le_of_ble_eq_true rfl) rfl dL_law_1082 jrv_i (c_X12_restore h2) rfl ?_
  exact jl_icmp_eq (tgt := 1238) X dL_law_1085 (by decide) rfl k
set_option maxRecDepth 100000 in
set_option maxHeartbeats 4000000 in
theorem lawc_31 {K : jK} {b L : Nat} {xs : Nat → Int32} (X : JX K cL_law 4 RL 10 354) (Y : LX K b L xs) {x3 : Int32} {a1 : Int32} (n1 : vp_in (x3 + 1) L) (e1 : xs (x3 + 1).toNatClampNeg = a1) {σ σ1 σ2 : jMem} {r : Int32} (h1 : f_X11_kind a1 σ = some (r, σ1)) (h2 : f_X12_kind a1 σ1 = some (r, σ2)) (k : J K 1238 [some (.ref 102), some (.ref 0), some (.ref 89), some (.int x3)] [] σ2) : J K 1090 [some (.ref 102), some (.ref 0), some (.ref 89), some (.int x3)] [] σ := by
  refine j_aload_n X 1 dL_law_1090 rfl rfl ?_
  refine j_aload_n X 0 dL_law_1091 rfl rfl ?_
  refine j_iload_n X 3 dL_law_1092 rfl rfl ?_
  refine j_iconst (v := 1) X dL_law_1093 (by decide) ?_
  refine j_iadd X dL_law_1094 ?_
  refine j_sld X Y n1 e1 dL_law_1095 ?_
  refine j_callV (as := [.int a1]) (st := []) (st1 := [.int r]) X ln_0 ly_0 rfl rfl sv_RL_144 ⟨by decide, by decide⟩ rfl rfl (Nat.le_of_ble_eq_true rfl) rfl dL_law_1096 jrv_i (c_X11_kind h1) rfl ?_
  refine j_aload_n X 2 dL_law_1099 rfl rfl ?_
  refine j_aload_n X 0 dL_law_1100 rfl rfl ?_
  refine j_iload_n X 3 dL_law_1101 rfl rfl ?_
  refine j_iconst (v := 1) X dL_law_1102 (by decide) ?_
  refine j_iadd X dL_law_1103 ?_
  refine j_sld X Y n1 e1 dL_law_1104 ?_
  refine j_callV (as := [.int a1]) (st := [.int r]) (st1 := [.int r, .int r]) X ln_89 ly_89 rfl rfl sv_RL_147 ⟨by decide, by decide⟩ rfl rfl (Nat.le_of_ble_eq_true rfl) rfl dL_law_1105 jrv_i (c_X12_kind h2) rfl ?_
  exact jl_icmp_eq (tgt := 1238) X dL_law_1108 (by decide) rfl k
set_option maxRecDepth 100000 in
set_option maxHeartbeats 4000000 in
theorem lawc_32 {K : jK} {b L : Nat} {xs : Nat → Int32} (X : JX K cL_law 4 RL 10 354) (Y : LX K b L xs) {x3 : Int32} {a1 a2 : Int32} (n1 : vp_in (x3 + 1) L) (e1 : xs (x3 + 1).toNatClampNeg = a1) (n2 : vp_in (x3 + 2) L) (e2 : xs (x3 + 2).toNatClampNeg = a2) {σ σ1 σ2 : jMem} {r : Int32} (h1 : f_X11_as a1 a2 σ = some (r, σ1)) (h2 : f_X12_as a1 a2 σ1 = some (r, σ2)) (k : J K 1238 [some (.ref 102), some (.ref 0), some (.ref 89), some (.int x3)] [] σ2) : J K 1113 [some (.ref 102), some (.ref 0), some (.ref 89), some (.int x3)] [] σ := by
  refine j_aload_n X 1 dL_law_1113 rfl rfl ?_
  refine j_aload_n X 0 dL_law_1114 rfl rfl ?_
  refine j_iload_n X 3 dL_law_1115 rfl rfl ?_
  refine j_iconst (v := 1) X dL_law_1116 (by decide) ?_
  refine j_iadd X dL_law_1117 ?_
  refine j_sld X Y n1 e1 dL_law_1118 ?_
  refine j_aload_n X 0 dL_law_1119 rfl rfl ?_
  refine j_iload_n X 3 dL_law_1120 rfl rfl ?_
  refine j_iconst (v := 2) X dL_law_1121 (by decide) ?_
  refine j_iadd X dL_law_1122 ?_
  refine j_sld X Y n2 e2 dL_law_1123 ?_
  refine j_callV (as := [.int a1, .int a2]) (st := []) (st1 := [.int r]) X ln_0 ly_0 rfl rfl sv_RL_148 ⟨by decide, by decide⟩ rfl rfl (Nat.le_of_ble_eq_true rfl) rfl dL_law_1124 jrv_i (c_X11_as h1) rfl ?_
  refine j_aload_n X 2 dL_law_1127 rfl rfl ?_
  refine j_aload_n X 0 dL_law_1128 rfl rfl ?_
  refine j_iload_n X 3 dL_law_1129 rfl rfl ?_
  refine j_iconst (v := 1) X dL_law_1130 (by decide) ?_
  refine j_iadd X dL_law_1131 ?_
  refine j_sld X Y n1 e1 dL_law_1132 ?_
  refine j_aload_n X 0 dL_law_1133 rfl rfl ?_
  refine j_iload_n X 3 dL_law_1134 rfl rfl ?_
  refine j_iconst (v := 2) X dL_law_1135 (by decide) ?_
  refine j_iadd X dL_law_1136 ?_
  refine j_sld X Y n2 e2 dL_law_1137 ?_
  refine j_callV (as := [.int a1, .int a2]) (st := [.int r]) (st1 := [.int r, .int r]) X ln_89 ly_89 rfl rfl sv_RL_151 ⟨by decide, by decide⟩ rfl rfl (Nat.le_of_ble_eq_true rfl) rfl dL_law_1138 jrv_i (c_X12_as h2) rfl ?_
  exact jl_icmp_eq (tgt := 1238) X dL_law_1141 (by decide) rfl k
set_option maxRecDepth 100000 in
set_option maxHeartbeats 4000000 in
theorem lawc_33 {K : jK} {b L : Nat} {xs : Nat → Int32} (X : JX K cL_law 4 RL 10 354) (Y : LX K b L xs) {x3 : Int32} {a1 a2 : Int32} (n1 : vp_in (x3 + 1) L) (e1 : xs (x3 + 1).toNatClampNeg = a1) (n2 : vp_in (x3 + 2) L) (e2 : xs (x3 + 2).toNatClampNeg = a2) {σ σ1 σ2 : jMem} {r : Int32} (h1 : f_X11_ask a1 a2 σ = some (r, σ1)) (h2 : f_X12_ask a1 a2 σ1 = some (r, σ2)) (k : J K 1238 [some (.ref 102), some (.ref 0), some (.ref 89), some (.int x3)] [] σ2) : J K 1146 [some (.ref 102), some (.ref 0), some (.ref 89), some (.int x3)] [] σ := by
  refine j_aload_n X 1 dL_law_1146 rfl rfl ?_
  refine j_aload_n X 0 dL_law_1147 rfl rfl ?_
  refine j_iload_n X 3 dL_law_1148 rfl rfl ?_
  refine j_iconst (v := 1) X dL_law_1149 (by decide) ?_
  refine j_iadd X dL_law_1150 ?_
  refine j_sld X Y n1 e1 dL_law_1151 ?_
  refine j_aload_n X 0 dL_law_1152 rfl rfl ?_
  refine j_iload_n X 3 dL_law_1153 rfl rfl ?_
  refine j_iconst (v := 2) X dL_law_1154 (by decide) ?_
  refine j_iadd X dL_law_1155 ?_
  refine j_sld X Y n2 e2 dL_law_1156 ?_
  refine j_callV (as := [.int a1, .int a2]) (st := []) (st1 := [.int r]) X ln_0 ly_0 rfl rfl sv_RL_152 ⟨by decide, by decide⟩ rfl rfl (Nat.le_of_ble_eq_true rfl) rfl dL_law_1157 jrv_i (c_X11_ask h1) rfl ?_
  refine j_aload_n X 2 dL_law_1160 rfl rfl ?_
  refine j_aload_n X 0 dL_law_1161 rfl rfl ?_
  refine j_iload_n X 3 dL_law_1162 rfl rfl ?_
  refine j_iconst (v := 1) X dL_law_1163 (by decide) ?_
  refine j_iadd X dL_law_1164 ?_
  refine j_sld X Y n1 e1 dL_law_1165 ?_
  refine j_aload_n X 0 dL_law_1166 rfl rfl ?_
  refine j_iload_n X 3 dL_law_1167 rfl rfl ?_
  refine j_iconst (v := 2) X dL_law_1168 (by decide) ?_
  refine j_iadd X dL_law_1169 ?_
  refine j_sld X Y n2 e2 dL_law_1170 ?_
  refine j_callV (as := [.int a1, .int a2]) (st := [.int r]) (st1 := [.int r, .int r]) X ln_89 ly_89 rfl rfl sv_RL_155 ⟨by decide, by decide⟩ rfl rfl (Nat.le_of_ble_eq_true rfl) rfl dL_law_1171 jrv_i (c_X12_ask h2) rfl ?_
  exact jl_icmp_eq (tgt := 1238) X dL_law_1174 (by decide) rfl k
set_option maxRecDepth 100000 in
set_option maxHeartbeats 4000000 in
theorem lawc_34 {K : jK} {b L : Nat} {xs : Nat → Int32} (X : JX K cL_law 4 RL 10 354) (Y : LX K b L xs) {x3 : Int32} {a1 : Int32} (n1 : vp_in (x3 + 1) L) (e1 : xs (x3 + 1).toNatClampNeg = a1) {σ σ1 σ2 : jMem} {r : Int32} (h1 : f_X11_trace a1 σ = some (r, σ1)) (h2 : f_X12_trace a1 σ1 = some (r, σ2)) (k : J K 1238 [some (.ref 102), some (.ref 0), some (.ref 89), some (.int x3)] [] σ2) : J K 1179 [some (.ref 102), some (.ref 0), some (.ref 89), some (.int x3)] [] σ := by
  refine j_aload_n X 1 dL_law_1179 rfl rfl ?_
  refine j_aload_n X 0 dL_law_1180 rfl rfl ?_
  refine j_iload_n X 3 dL_law_1181 rfl rfl ?_
  refine j_iconst (v := 1) X dL_law_1182 (by decide) ?_
  refine j_iadd X dL_law_1183 ?_
  refine j_sld X Y n1 e1 dL_law_1184 ?_
  refine j_callV (as := [.int a1]) (st := []) (st1 := [.int r]) X ln_0 ly_0 rfl rfl sv_RL_156 ⟨by decide, by decide⟩ rfl rfl (Nat.le_of_ble_eq_true rfl) rfl dL_law_1185 jrv_i (c_X11_trace h1) rfl ?_
  refine j_aload_n X 2 dL_law_1188 rfl rfl ?_
  refine j_aload_n X 0 dL_law_1189 rfl rfl ?_
  refine j_iload_n X 3 dL_law_1190 rfl rfl ?_
  refine j_iconst (v := 1) X dL_law_1191 (by decide) ?_
  refine j_iadd X dL_law_1192 ?_
  refine j_sld X Y n1 e1 dL_law_1193 ?_
  refine j_callV (as := [.int a1]) (st := [.int r]) (st1 := [.int r, .int r]) X ln_89 ly_89 rfl rfl sv_RL_159 ⟨by decide, by decide⟩ rfl rfl (Nat.le_of_ble_eq_true rfl) rfl dL_law_1194 jrv_i (c_X12_trace h2) rfl ?_
  exact jl_icmp_eq (tgt := 1238) X dL_law_1197 (by decide) rfl k
set_option maxRecDepth 100000 in
set_option maxHeartbeats 4000000 in
theorem lawc_35 {K : jK} {b L : Nat} {xs : Nat → Int32} (X : JX K cL_law 4 RL 10 354) (Y : LX K b L xs) {x3 : Int32} {a1 : Int32} (n1 : vp_in (x3 + 1) L) (e1 : xs (x3 + 1).toNatClampNeg = a1) {σ σ1 σ2 : jMem} {r : Int32} (h1 : f_X11_count a1 σ = some (r, σ1)) (h2 : f_X12_count a1 σ1 = some (r, σ2)) (k : J K 1238 [some (.ref 102), some (.ref 0), some (.ref 89), some (.int x3)] [] σ2) : J K 1202 [some (.ref 102), some (.ref 0), some (.ref 89), some (.int x3)] [] σ := by
  refine j_aload_n X 1 dL_law_1202 rfl rfl ?_
  refine j_aload_n X 0 dL_law_1203 rfl rfl ?_
  refine j_iload_n X 3 dL_law_1204 rfl rfl ?_
  refine j_iconst (v := 1) X dL_law_1205 (by decide) ?_
  refine j_iadd X dL_law_1206 ?_
  refine j_sld X Y n1 e1 dL_law_1207 ?_
  refine j_callV (as := [.int a1]) (st := []) (st1 := [.int r]) X ln_0 ly_0 rfl rfl sv_RL_160 ⟨by decide, by decide⟩ rfl rfl (Nat.le_of_ble_eq_true rfl) rfl dL_law_1208 jrv_i (c_X11_count h1) rfl ?_
  refine j_aload_n X 2 dL_law_1211 rfl rfl ?_
  refine j_aload_n X 0 dL_law_1212 rfl rfl ?_
  refine j_iload_n X 3 dL_law_1213 rfl rfl ?_
  refine j_iconst (v := 1) X dL_law_1214 (by decide) ?_
  refine j_iadd X dL_law_1215 ?_
  refine j_sld X Y n1 e1 dL_law_1216 ?_
  refine j_callV (as := [.int a1]) (st := [.int r]) (st1 := [.int r, .int r]) X ln_89 ly_89 rfl rfl sv_RL_163 ⟨by decide, by decide⟩ rfl rfl (Nat.le_of_ble_eq_true rfl) rfl dL_law_1217 jrv_i (c_X12_count h2) rfl ?_
  exact jl_icmp_eq (tgt := 1238) X dL_law_1220 (by decide) rfl k
set_option maxRecDepth 100000 in
set_option maxHeartbeats 4000000 in
theorem lawc_36 {K : jK} {b L : Nat} {xs : Nat → Int32} (X : JX K cL_law 4 RL 10 354) (Y : LX K b L xs) {x3 : Int32}   {σ σ1 σ2 : jMem} {r : Int32} (h1 : f_X11_status  σ = some (r, σ1)) (h2 : f_X12_status  σ1 = some (r, σ2)) (k : J K 1238 [some (.ref 102), some (.ref 0), some (.ref 89), some (.int x3)] [] σ2) : J K 1225 [some (.ref 102), some (.ref 0), some (.ref 89), some (.int x3)] [] σ := by
  refine j_aload_n X 1 dL_law_1225 rfl rfl ?_
  refine j_callV (as := []) (st := []) (st1 := [.int r]) X ln_0 ly_0 rfl rfl sv_RL_164 ⟨by decide, by decide⟩ rfl rfl (Nat.le_of_ble_eq_true rfl) rfl dL_law_1226 jrv_i (c_X11_status h1) rfl ?_
  refine j_aload_n X 2 dL_law_1229 rfl rfl ?_
  refine j_callV (as := []) (st := [.int r]) (st1 := [.int r, .int r]) X ln_89 ly_89 rfl rfl sv_RL_167 ⟨by decide, by decide⟩ rfl rfl (Nat.le_of_ble_eq_true rfl) rfl dL_law_1230 jrv_i (c_X12_status h2) rfl ?_
  exact jl_icmp_eq (tgt := 1238) X dL_law_1233 (by decide) rfl k
