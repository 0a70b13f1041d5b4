/-! THE LAW: cases 16 to 23 -/
theorem q_1180 : Cond.methodLink R_law 84 yX10_meet ∈ zTB := zmem 1180 (by decide +kernel) rfl
theorem q_1181 : Cond.instanceMethod yX10_meet ∈ zTB := zmem 1181 (by decide +kernel) rfl
theorem q_1182 : Cond.selects RX10 yX10_meet yX10_meet ∈ zTB := zmem 1182 (by decide +kernel) rfl
theorem q_1183 : Cond.code yX10_meet cX10_meet 4 (some .int) ∈ zTB := zmem 1183 (by decide +kernel) rfl
theorem k_R_law_84 : zLv R_law 84 RX10 yX10_meet cX10_meet 4 (some .int) 3 := ⟨⟨q_1180, q_1181, q_1182, q_129, q_1183⟩, rfl, ⟨by decide, by decide⟩, by decide +kernel⟩
theorem q_1867 : Cond.methodLink R_law 87 yX11_meet ∈ zTB := zmem 1867 (by decide +kernel) rfl
theorem q_1868 : Cond.instanceMethod yX11_meet ∈ zTB := zmem 1868 (by decide +kernel) rfl
theorem q_1869 : Cond.selects RX11 yX11_meet yX11_meet ∈ zTB := zmem 1869 (by decide +kernel) rfl
theorem q_1870 : Cond.code yX11_meet cX11_meet 4 (some .int) ∈ zTB := zmem 1870 (by decide +kernel) rfl
theorem k_R_law_87 : zLv R_law 87 RX11 yX11_meet cX11_meet 4 (some .int) 3 := ⟨⟨q_1867, q_1868, q_1869, q_140, q_1870⟩, rfl, ⟨by decide, by decide⟩, by decide +kernel⟩
theorem q_1223 : Cond.methodLink R_law 88 yX10_chance ∈ zTB := zmem 1223 (by decide +kernel) rfl
theorem q_1224 : Cond.instanceMethod yX10_chance ∈ zTB := zmem 1224 (by decide +kernel) rfl
theorem q_1225 : Cond.selects RX10 yX10_chance yX10_chance ∈ zTB := zmem 1225 (by decide +kernel) rfl
theorem q_1226 : Cond.code yX10_chance cX10_chance 5 (some .long) ∈ zTB := zmem 1226 (by decide +kernel) rfl
theorem k_R_law_88 : zLv R_law 88 RX10 yX10_chance cX10_chance 5 (some .long) 4 := ⟨⟨q_1223, q_1224, q_1225, q_129, q_1226⟩, rfl, ⟨by decide, by decide⟩, by decide +kernel⟩
theorem q_1874 : Cond.methodLink R_law 92 yX11_chance ∈ zTB := zmem 1874 (by decide +kernel) rfl
theorem q_1875 : Cond.instanceMethod yX11_chance ∈ zTB := zmem 1875 (by decide +kernel) rfl
theorem q_1876 : Cond.selects RX11 yX11_chance yX11_chance ∈ zTB := zmem 1876 (by decide +kernel) rfl
theorem q_1877 : Cond.code yX11_chance cX11_chance 8 (some .long) ∈ zTB := zmem 1877 (by decide +kernel) rfl
theorem k_R_law_92 : zLv R_law 92 RX11 yX11_chance cX11_chance 8 (some .long) 4 := ⟨⟨q_1874, q_1875, q_1876, q_140, q_1877⟩, rfl, ⟨by decide, by decide⟩, by decide +kernel⟩
theorem q_1234 : Cond.methodLink R_law 93 yX10_race ∈ zTB := zmem 1234 (by decide +kernel) rfl
theorem q_1235 : Cond.instanceMethod yX10_race ∈ zTB := zmem 1235 (by decide +kernel) rfl
theorem q_1236 : Cond.selects RX10 yX10_race yX10_race ∈ zTB := zmem 1236 (by decide +kernel) rfl
theorem q_1237 : Cond.code yX10_race cX10_race 3 (some .int) ∈ zTB := zmem 1237 (by decide +kernel) rfl
theorem k_R_law_93 : zLv R_law 93 RX10 yX10_race cX10_race 3 (some .int) 2 := ⟨⟨q_1234, q_1235, q_1236, q_129, q_1237⟩, rfl, ⟨by decide, by decide⟩, by decide +kernel⟩
theorem q_1883 : Cond.methodLink R_law 96 yX11_race ∈ zTB := zmem 1883 (by decide +kernel) rfl
theorem q_1884 : Cond.instanceMethod yX11_race ∈ zTB := zmem 1884 (by decide +kernel) rfl
theorem q_1885 : Cond.selects RX11 yX11_race yX11_race ∈ zTB := zmem 1885 (by decide +kernel) rfl
theorem q_1886 : Cond.code yX11_race cX11_race 3 (some .int) ∈ zTB := zmem 1886 (by decide +kernel) rfl
theorem k_R_law_96 : zLv R_law 96 RX11 yX11_race cX11_race 3 (some .int) 2 := ⟨⟨q_1883, q_1884, q_1885, q_140, q_1886⟩, rfl, ⟨by decide, by decide⟩, by decide +kernel⟩
theorem q_881 : Cond.methodLink R_law 97 yX10_fact ∈ zTB := zmem 881 (by decide +kernel) rfl
theorem q_882 : Cond.instanceMethod yX10_fact ∈ zTB := zmem 882 (by decide +kernel) rfl
theorem q_883 : Cond.selects RX10 yX10_fact yX10_fact ∈ zTB := zmem 883 (by decide +kernel) rfl
theorem q_884 : Cond.code yX10_fact cX10_fact 4 (some .int) ∈ zTB := zmem 884 (by decide +kernel) rfl
theorem k_R_law_97 : zLv R_law 97 RX10 yX10_fact cX10_fact 4 (some .int) 3 := ⟨⟨q_881, q_882, q_883, q_129, q_884⟩, rfl, ⟨by decide, by decide⟩, by decide +kernel⟩
theorem q_1887 : Cond.methodLink R_law 100 yX11_fact ∈ zTB := zmem 1887 (by decide +kernel) rfl
theorem q_1888 : Cond.instanceMethod yX11_fact ∈ zTB := zmem 1888 (by decide +kernel) rfl
theorem q_1889 : Cond.selects RX11 yX11_fact yX11_fact ∈ zTB := zmem 1889 (by decide +kernel) rfl
theorem q_1890 : Cond.code yX11_fact cX11_fact 4 (some .int) ∈ zTB := zmem 1890 (by decide +kernel) rfl
theorem k_R_law_100 : zLv R_law 100 RX11 yX11_fact cX11_fact 4 (some .int) 3 := ⟨⟨q_1887, q_1888, q_1889, q_140, q_1890⟩, rfl, ⟨by decide, by decide⟩, by decide +kernel⟩
theorem q_1238 : Cond.methodLink R_law 101 yX10_fits ∈ zTB := zmem 1238 (by decide +kernel) rfl
theorem q_1239 : Cond.instanceMethod yX10_fits ∈ zTB := zmem 1239 (by decide +kernel) rfl
theorem q_1240 : Cond.selects RX10 yX10_fits yX10_fits ∈ zTB := zmem 1240 (by decide +kernel) rfl
theorem q_1241 : Cond.code yX10_fits cX10_fits 6 (some .int) ∈ zTB := zmem 1241 (by decide +kernel) rfl
theorem k_R_law_101 : zLv R_law 101 RX10 yX10_fits cX10_fits 6 (some .int) 5 := ⟨⟨q_1238, q_1239, q_1240, q_129, q_1241⟩, rfl, ⟨by decide, by decide⟩, by decide +kernel⟩
theorem q_1903 : Cond.methodLink R_law 104 yX11_fits ∈ zTB := zmem 1903 (by decide +kernel) rfl
theorem q_1904 : Cond.instanceMethod yX11_fits ∈ zTB := zmem 1904 (by decide +kernel) rfl
theorem q_1905 : Cond.selects RX11 yX11_fits yX11_fits ∈ zTB := zmem 1905 (by decide +kernel) rfl
theorem q_1906 : Cond.code yX11_fits cX11_fits 6 (some .int) ∈ zTB := zmem 1906 (by decide +kernel) rfl
theorem k_R_law_104 : zLv R_law 104 RX11 yX11_fits cX11_fits 6 (some .int) 5 := ⟨⟨q_1903, q_1904, q_1905, q_140, q_1906⟩, rfl, ⟨by decide, by decide⟩, by decide +kernel⟩
theorem q_1028 : Cond.methodLink R_law 105 yX10_drawn ∈ zTB := zmem 1028 (by decide +kernel) rfl
theorem q_1029 : Cond.instanceMethod yX10_drawn ∈ zTB := zmem 1029 (by decide +kernel) rfl
theorem q_1030 : Cond.selects RX10 yX10_drawn yX10_drawn ∈ zTB := zmem 1030 (by decide +kernel) rfl
theorem q_1031 : Cond.code yX10_drawn cX10_drawn 6 (some .int) ∈ zTB := zmem 1031 (by decide +kernel) rfl
theorem k_R_law_105 : zLv R_law 105 RX10 yX10_drawn cX10_drawn 6 (some .int) 5 := ⟨⟨q_1028, q_1029, q_1030, q_129, q_1031⟩, rfl, ⟨by decide, by decide⟩, by decide +kernel⟩
theorem q_1935 : Cond.methodLink R_law 108 yX11_drawn ∈ zTB := zmem 1935 (by decide +kernel) rfl
theorem q_1936 : Cond.instanceMethod yX11_drawn ∈ zTB := zmem 1936 (by decide +kernel) rfl
theorem q_1937 : Cond.selects RX11 yX11_drawn yX11_drawn ∈ zTB := zmem 1937 (by decide +kernel) rfl
theorem q_1938 : Cond.code yX11_drawn cX11_drawn 7 (some .int) ∈ zTB := zmem 1938 (by decide +kernel) rfl
theorem k_R_law_108 : zLv R_law 108 RX11 yX11_drawn cX11_drawn 7 (some .int) 5 := ⟨⟨q_1935, q_1936, q_1937, q_140, q_1938⟩, rfl, ⟨by decide, by decide⟩, by decide +kernel⟩
theorem q_1105 : Cond.methodLink R_law 109 yX10_leaves ∈ zTB := zmem 1105 (by decide +kernel) rfl
theorem q_1106 : Cond.instanceMethod yX10_leaves ∈ zTB := zmem 1106 (by decide +kernel) rfl
theorem q_1107 : Cond.selects RX10 yX10_leaves yX10_leaves ∈ zTB := zmem 1107 (by decide +kernel) rfl
theorem q_1108 : Cond.code yX10_leaves cX10_leaves 4 (some .int) ∈ zTB := zmem 1108 (by decide +kernel) rfl
theorem k_R_law_109 : zLv R_law 109 RX10 yX10_leaves cX10_leaves 4 (some .int) 3 := ⟨⟨q_1105, q_1106, q_1107, q_129, q_1108⟩, rfl, ⟨by decide, by decide⟩, by decide +kernel⟩
theorem q_1948 : Cond.methodLink R_law 112 yX11_leaves ∈ zTB := zmem 1948 (by decide +kernel) rfl
theorem q_1949 : Cond.instanceMethod yX11_leaves ∈ zTB := zmem 1949 (by decide +kernel) rfl
theorem q_1950 : Cond.selects RX11 yX11_leaves yX11_leaves ∈ zTB := zmem 1950 (by decide +kernel) rfl
theorem q_1951 : Cond.code yX11_leaves cX11_leaves 4 (some .int) ∈ zTB := zmem 1951 (by decide +kernel) rfl
theorem k_R_law_112 : zLv R_law 112 RX11 yX11_leaves cX11_leaves 4 (some .int) 3 := ⟨⟨q_1948, q_1949, q_1950, q_140, q_1951⟩, rfl, ⟨by decide, by decide⟩, by decide +kernel⟩
theorem q_1154 : Cond.methodLink R_law 113 yX10_root ∈ zTB := zmem 1154 (by decide +kernel) rfl
theorem q_1155 : Cond.instanceMethod yX10_root ∈ zTB := zmem 1155 (by decide +kernel) rfl
theorem q_1156 : Cond.selects RX10 yX10_root yX10_root ∈ zTB := zmem 1156 (by decide +kernel) rfl
theorem q_1157 : Cond.code yX10_root cX10_root 5 (some .int) ∈ zTB := zmem 1157 (by decide +kernel) rfl
theorem k_R_law_113 : zLv R_law 113 RX10 yX10_root cX10_root 5 (some .int) 4 := ⟨⟨q_1154, q_1155, q_1156, q_129, q_1157⟩, rfl, ⟨by decide, by decide⟩, by decide +kernel⟩
theorem q_1988 : Cond.methodLink R_law 116 yX11_root ∈ zTB := zmem 1988 (by decide +kernel) rfl
theorem q_1989 : Cond.instanceMethod yX11_root ∈ zTB := zmem 1989 (by decide +kernel) rfl
theorem q_1990 : Cond.selects RX11 yX11_root yX11_root ∈ zTB := zmem 1990 (by decide +kernel) rfl
theorem q_1991 : Cond.code yX11_root cX11_root 5 (some .int) ∈ zTB := zmem 1991 (by decide +kernel) rfl
theorem k_R_law_116 : zLv R_law 116 RX11 yX11_root cX11_root 5 (some .int) 4 := ⟨⟨q_1988, q_1989, q_1990, q_140, q_1991⟩, rfl, ⟨by decide, by decide⟩, by decide +kernel⟩
theorem dW_932 : decode code 932 = .ok (.aload_n 1, 1) := by decide +kernel
theorem rW_933 : rd5 933 1 := by decide +kernel
theorem rW_938 : rd5 938 2 := by decide +kernel
theorem rW_943 : rd5 943 3 := by decide +kernel
theorem dW_948 : decode code 948 = .ok (.invokevirtual 84, 3) := by decide +kernel
theorem dW_951 : decode code 951 = .ok (.aload_n 2, 1) := by decide +kernel
theorem rW_952 : rd5 952 1 := by decide +kernel
theorem rW_957 : rd5 957 2 := by decide +kernel
theorem rW_962 : rd5 962 3 := by decide +kernel
theorem dW_967 : decode code 967 = .ok (.invokevirtual 87, 3) := by decide +kernel
theorem dW_970 : decode code 970 = .ok (.if_icmp .eq 745, 3) := by decide +kernel
theorem dW_975 : decode code 975 = .ok (.aload_n 1, 1) := by decide +kernel
theorem rW_976 : rd5 976 1 := by decide +kernel
theorem rW_981 : rd5 981 2 := by decide +kernel
theorem rW_986 : rd5 986 3 := by decide +kernel
theorem rW_991 : rd5 991 4 := by decide +kernel
theorem bW_996 : bo8 996 := by decide +kernel
theorem dW_1004 : decode code 1004 = .ok (.invokevirtual 88, 3) := by decide +kernel
theorem dW_1007 : decode code 1007 = .ok (.aload_n 2, 1) := by decide +kernel
theorem rW_1008 : rd5 1008 1 := by decide +kernel
theorem rW_1013 : rd5 1013 2 := by decide +kernel
theorem rW_1018 : rd5 1018 3 := by decide +kernel
theorem rW_1023 : rd5 1023 4 := by decide +kernel
theorem bW_1028 : bo8 1028 := by decide +kernel
theorem dW_1036 : decode code 1036 = .ok (.invokevirtual 92, 3) := by decide +kernel
theorem dW_1039 : decode code 1039 = .ok (.lcmp, 1) := by decide +kernel
theorem dW_1040 : decode code 1040 = .ok (.ifCond .eq 675, 3) := by decide +kernel
theorem dW_1045 : decode code 1045 = .ok (.aload_n 1, 1) := by decide +kernel
theorem rW_1046 : rd5 1046 1 := by decide +kernel
theorem rW_1051 : rd5 1051 2 := by decide +kernel
theorem dW_1056 : decode code 1056 = .ok (.invokevirtual 93, 3) := by decide +kernel
theorem dW_1059 : decode code 1059 = .ok (.aload_n 2, 1) := by decide +kernel
theorem rW_1060 : rd5 1060 1 := by decide +kernel
theorem rW_1065 : rd5 1065 2 := by decide +kernel
theorem dW_1070 : decode code 1070 = .ok (.invokevirtual 96, 3) := by decide +kernel
theorem dW_1073 : decode code 1073 = .ok (.if_icmp .eq 642, 3) := by decide +kernel
theorem dW_1078 : decode code 1078 = .ok (.aload_n 1, 1) := by decide +kernel
theorem rW_1079 : rd5 1079 1 := by decide +kernel
theorem rW_1084 : rd5 1084 2 := by decide +kernel
theorem rW_1089 : rd5 1089 3 := by decide +kernel
theorem dW_1094 : decode code 1094 = .ok (.invokevirtual 97, 3) := by decide +kernel
theorem dW_1097 : decode code 1097 = .ok (.aload_n 2, 1) := by decide +kernel
theorem rW_1098 : rd5 1098 1 := by decide +kernel
theorem rW_1103 : rd5 1103 2 := by decide +kernel
theorem rW_1108 : rd5 1108 3 := by decide +kernel
theorem dW_1113 : decode code 1113 = .ok (.invokevirtual 100, 3) := by decide +kernel
theorem dW_1116 : decode code 1116 = .ok (.if_icmp .eq 599, 3) := by decide +kernel
theorem dW_1121 : decode code 1121 = .ok (.aload_n 1, 1) := by decide +kernel
theorem rW_1122 : rd5 1122 1 := by decide +kernel
theorem rW_1127 : rd5 1127 2 := by decide +kernel
theorem rW_1132 : rd5 1132 3 := by decide +kernel
theorem rW_1137 : rd5 1137 4 := by decide +kernel
theorem rW_1142 : rd5 1142 5 := by decide +kernel
theorem dW_1147 : decode code 1147 = .ok (.invokevirtual 101, 3) := by decide +kernel
theorem dW_1150 : decode code 1150 = .ok (.aload_n 2, 1) := by decide +kernel
theorem rW_1151 : rd5 1151 1 := by decide +kernel
theorem rW_1156 : rd5 1156 2 := by decide +kernel
theorem rW_1161 : rd5 1161 3 := by decide +kernel
theorem rW_1166 : rd5 1166 4 := by decide +kernel
theorem rW_1171 : rd5 1171 5 := by decide +kernel
theorem dW_1176 : decode code 1176 = .ok (.invokevirtual 104, 3) := by decide +kernel
theorem dW_1179 : decode code 1179 = .ok (.if_icmp .eq 536, 3) := by decide +kernel
theorem dW_1184 : decode code 1184 = .ok (.aload_n 1, 1) := by decide +kernel
theorem rW_1185 : rd5 1185 1 := by decide +kernel
theorem rW_1190 : rd5 1190 2 := by decide +kernel
theorem rW_1195 : rd5 1195 3 := by decide +kernel
theorem rW_1200 : rd5 1200 4 := by decide +kernel
theorem rW_1205 : rd5 1205 5 := by decide +kernel
theorem dW_1210 : decode code 1210 = .ok (.invokevirtual 105, 3) := by decide +kernel
theorem dW_1213 : decode code 1213 = .ok (.aload_n 2, 1) := by decide +kernel
theorem rW_1214 : rd5 1214 1 := by decide +kernel
theorem rW_1219 : rd5 1219 2 := by decide +kernel
theorem rW_1224 : rd5 1224 3 := by decide +kernel
theorem rW_1229 : rd5 1229 4 := by decide +kernel
theorem rW_1234 : rd5 1234 5 := by decide +kernel
theorem dW_1239 : decode code 1239 = .ok (.invokevirtual 108, 3) := by decide +kernel
theorem dW_1242 : decode code 1242 = .ok (.if_icmp .eq 473, 3) := by decide +kernel
theorem dW_1247 : decode code 1247 = .ok (.aload_n 1, 1) := by decide +kernel
theorem rW_1248 : rd5 1248 1 := by decide +kernel
theorem rW_1253 : rd5 1253 2 := by decide +kernel
theorem rW_1258 : rd5 1258 3 := by decide +kernel
theorem dW_1263 : decode code 1263 = .ok (.invokevirtual 109, 3) := by decide +kernel
theorem dW_1266 : decode code 1266 = .ok (.aload_n 2, 1) := by decide +kernel
theorem rW_1267 : rd5 1267 1 := by decide +kernel
theorem rW_1272 : rd5 1272 2 := by decide +kernel
theorem rW_1277 : rd5 1277 3 := by decide +kernel
theorem dW_1282 : decode code 1282 = .ok (.invokevirtual 112, 3) := by decide +kernel
theorem dW_1285 : decode code 1285 = .ok (.if_icmp .eq 430, 3) := by decide +kernel
theorem dW_1290 : decode code 1290 = .ok (.aload_n 1, 1) := by decide +kernel
theorem rW_1291 : rd5 1291 1 := by decide +kernel
theorem rW_1296 : rd5 1296 2 := by decide +kernel
theorem rW_1301 : rd5 1301 3 := by decide +kernel
theorem rW_1306 : rd5 1306 4 := by decide +kernel
theorem dW_1311 : decode code 1311 = .ok (.invokevirtual 113, 3) := by decide +kernel
theorem dW_1314 : decode code 1314 = .ok (.aload_n 2, 1) := by decide +kernel
theorem rW_1315 : rd5 1315 1 := by decide +kernel
theorem rW_1320 : rd5 1320 2 := by decide +kernel
theorem rW_1325 : rd5 1325 3 := by decide +kernel
theorem rW_1330 : rd5 1330 4 := by decide +kernel
theorem dW_1335 : decode code 1335 = .ok (.invokevirtual 116, 3) := by decide +kernel
theorem dW_1338 : decode code 1338 = .ok (.if_icmp .eq 377, 3) := by decide +kernel
set_option maxHeartbeats 4000000 in
theorem lc_16 {p : Program} {l : Launch} {e : Env} {s : State} {m : MethodId} {below : List Frame} {meth : Method} {c : Code} {H : Heap} {locs : List Loc} {cells slots : Nat} {Q : State → Prop} {ls : Array Slot} {D : va_G} {cy : Nat → ClassId} {sa : Nat → Nat} {kd len : Nat → Nat} {N b L i : Nat} {xs : Nat → Int32} {X Y : Nat → Int → Int} {R : Nat → Int → Option Nat} (C : zC p m c code 4 s #[Value.ref b] R_law D cy) (hE : zE D cy s.heap.size sa s) (hX : va_X b L xs s s.heap) (hb : b < s.heap.size) (hL : L ≤ 3584) (hi : i + 7 ≤ L) (hcs : cells + 1 ≤ 600000 ∧ slots + 20 ≤ 7302249) (hN : 288 ≤ N) (hG : ∀ n, 288 ≤ n → kd n = 14 ∧ len n = 20) (I : LI X) (hK : KW kd len R) (hH : zH D cy s.heap.size N kd len X Y R H) (hS : va_S (zA s.heap.size) s.heap H locs) (hl : lv_has ls 4 [(3, .int (zI (i : Int))), (2, .ref (s.heap.size + 262)), (1, .ref (s.heap.size + 0)), (0, .ref b)]) (kk : ∀ (N1 : Nat) (X1 Y1 : Nat → Int → Int) (R1 : Nat → Int → Option Nat) (H1 : Heap) (locs1 : List Loc), 288 ≤ N1 → LI X1 → KW kd len R1 → zH D cy s.heap.size N1 kd len X1 Y1 R1 H1 → va_S (zA s.heap.size) s.heap H1 locs1 → W p l e room_1 s m #[Value.ref b] below meth c H1 locs1 (cells + 1) (slots + 20) Q (F0 m 1715 ls [])) : W p l e room_1 s m #[Value.ref b] below meth c H locs cells slots Q (F0 m 932 ls []) := by
  refine lv_aload_n C.1 C.2.1 dW_932 rfl (lv_at hl 2 rfl) ?_
  refine lw_rd5 C hX hb hS (j := 1) rfl (by omega) hL hl rW_933 ?_
  refine lw_rd5 C hX hb hS (j := 2) rfl (by omega) hL hl rW_938 ?_
  refine lw_rd5 C hX hb hS (j := 3) rfl (by omega) hL hl rW_943 ?_
  refine zgoi (zrunV (As := [.int (zI (sv xs (i + 1))), .int (zI (sv xs (i + 2))), .int (zI (sv xs (i + 3)))]) (rest := []) C hE hH hS hl.1 (c_X10_meet (l := l) (Z := X) (q := 262) (hK.1 N hN) (sv xs (i + 1)) (zI_rg _) (sv xs (i + 2)) (zI_rg _) (sv xs (i + 3)) (zI_rg _) (LI_q I)) k_R_law_84 ⟨Nat.le_of_ble_eq_true rfl, Nat.le_of_ble_eq_true rfl⟩ (zW_n (hK.1 N hN)) (zW_k (hK.1 N hN)) rfl rfl rfl (Nat.le_of_ble_eq_true rfl) dW_948 ⟨by have := hcs.1; show cells ≤ 600000; omega, by have := hcs.2; show slots ≤ 7302249; omega⟩) hS (fun r1 X1 Y1 R1 H locs hr1 hq1 hH hS => ?_)
  obtain ⟨w1, e1, qk⟩ := hq1
  have I1 : LI X1 := LI_qK I qk
  have K1 : KW kd len R1 := KW_w (wcK_dw w1) hK
  have o := vAll_o I1.1.2
  refine lv_aload_n C.1 C.2.1 dW_951 rfl (lv_at hl 1 rfl) ?_
  refine lw_rd5 C hX hb hS (j := 1) rfl (by omega) hL hl rW_952 ?_
  refine lw_rd5 C hX hb hS (j := 2) rfl (by omega) hL hl rW_957 ?_
  refine lw_rd5 C hX hb hS (j := 3) rfl (by omega) hL hl rW_962 ?_
  refine zgoi (zrunV (As := [.int (zI (sv xs (i + 1))), .int (zI (sv xs (i + 2))), .int (zI (sv xs (i + 3)))]) (rest := [.int (zI r1)]) C hE hH hS hl.1 (c_X11_meet (l := l) (K1.2 N hN) (sv xs (i + 1)) (zI_rg _) (sv xs (i + 2)) (zI_rg _) (sv xs (i + 3)) (zI_rg _) o.1) k_R_law_87 ⟨Nat.le_of_ble_eq_true rfl, Nat.le_of_ble_eq_true rfl⟩ (zM_n0 (K1.2 N hN)) (zM_k0 (K1.2 N hN)) rfl rfl rfl (Nat.le_of_ble_eq_true rfl) dW_967 ⟨by have := hcs.1; show cells ≤ 600000; omega, by have := hcs.2; show slots ≤ 7302249; omega⟩) hS (fun r2 X2 Y2 R2 H locs hr2 hq2 hH hS => ?_)
  have hz2 : R2 = R1 := hq2.2.1
  obtain ⟨e2, pk⟩ := hq2.2.2
  have I2 : LI X2 := LI_pK I1 pk
  have ef := rMeet_o (i := 262) (X := X) (X1 := X1) (fun z hz => qk.1 z (Or.inr (by omega)))
  have er : r1 = r2 := by rw [e2, ef]; exact e1
  have K2 : KW kd len R2 := by rw [hz2]; exact K1
  refine zd_icmp_eq C hr1 hr2 1715 dW_970 (by decide) (fun _ => ?_) (fun q => absurd er q)
  exact W_raise (Nat.le_add_right _ _) (Nat.le_add_right _ _) (kk N X2 Y2 R2 H locs hN I2 K2 hH hS)
set_option maxHeartbeats 4000000 in
theorem lc_17 {p : Program} {l : Launch} {e : Env} {s : State} {m : MethodId} {below : List Frame} {meth : Method} {c : Code} {H : Heap} {locs : List Loc} {cells slots : Nat} {Q : State → Prop} {ls : Array Slot} {D : va_G} {cy : Nat → ClassId} {sa : Nat → Nat} {kd len : Nat → Nat} {N b L i : Nat} {xs : Nat → Int32} {X Y : Nat → Int → Int} {R : Nat → Int → Option Nat} (C : zC p m c code 4 s #[Value.ref b] R_law D cy) (hE : zE D cy s.heap.size sa s) (hX : va_X b L xs s s.heap) (hb : b < s.heap.size) (hL : L ≤ 3584) (hi : i + 7 ≤ L) (hcs : cells + 1 ≤ 600000 ∧ slots + 20 ≤ 7302249) (hN : 288 ≤ N) (hG : ∀ n, 288 ≤ n → kd n = 14 ∧ len n = 20) (I : LI X) (hK : KW kd len R) (hH : zH D cy s.heap.size N kd len X Y R H) (hS : va_S (zA s.heap.size) s.heap H locs) (hl : lv_has ls 4 [(3, .int (zI (i : Int))), (2, .ref (s.heap.size + 262)), (1, .ref (s.heap.size + 0)), (0, .ref b)]) (kk : ∀ (N1 : Nat) (X1 Y1 : Nat → Int → Int) (R1 : Nat → Int → Option Nat) (H1 : Heap) (locs1 : List Loc), 288 ≤ N1 → LI X1 → KW kd len R1 → zH D cy s.heap.size N1 kd len X1 Y1 R1 H1 → va_S (zA s.heap.size) s.heap H1 locs1 → W p l e room_1 s m #[Value.ref b] below meth c H1 locs1 (cells + 1) (slots + 20) Q (F0 m 1715 ls [])) : W p l e room_1 s m #[Value.ref b] below meth c H locs cells slots Q (F0 m 975 ls []) := by
  refine lv_aload_n C.1 C.2.1 dW_975 rfl (lv_at hl 2 rfl) ?_
  refine lw_rd5 C hX hb hS (j := 1) rfl (by omega) hL hl rW_976 ?_
  refine lw_rd5 C hX hb hS (j := 2) rfl (by omega) hL hl rW_981 ?_
  refine lw_rd5 C hX hb hS (j := 3) rfl (by omega) hL hl rW_986 ?_
  refine lw_rd5 C hX hb hS (j := 4) rfl (by omega) hL hl rW_991 ?_
  refine lw_bo C (zI_rg _) bW_996 ?_
  by_cases cr : (0 ≤ sv xs (i + 1) ∧ sv xs (i + 1) ≤ 10) ∧ (0 ≤ sv xs (i + 2) ∧ sv xs (i + 2) ≤ 6) ∧ 0 ≤ sv xs (i + 3) ∧ sv xs (i + 3) ≤ 12
  · refine zgolG (zrunVG (As := [.int (zI (sv xs (i + 1))), .int (zI (sv xs (i + 2))), .int (zI (sv xs (i + 3))), .int (zI (bz (decide (sv xs (i + 4) ≠ 0))))]) (rest := []) C hE hH hS hl.1 (c_X10_chanceG (l := l) (i := 0) (by omega) (zW_k (hK.1 N hN)) (hG N hN).1 (hG N hN).2 (sv xs (i + 1)) (zI_rg _) (sv xs (i + 2)) (zI_rg _) (sv xs (i + 3)) (zI_rg _) (decide (sv xs (i + 4) ≠ 0)) cr) k_R_law_88 ⟨Nat.le_of_ble_eq_true rfl, Nat.le_of_ble_eq_true rfl⟩ (zW_n (hK.1 N hN)) (zW_k (hK.1 N hN)) rfl rfl rfl (Nat.le_of_ble_eq_true rfl) dW_1004 ⟨hcs.1, hcs.2⟩) hS (fun r1 X1 Y1 R1 H locs hr1 hq1 hH hS => ?_)
    obtain ⟨hx, hz, e1, -⟩ := hq1
    have hx : X1 = X := hx
    have hz : R1 = R := hz
    rw [hx, hz] at hH
    refine lv_aload_n C.1 C.2.1 dW_1007 rfl (lv_at hl 1 rfl) ?_
    refine lw_rd5 C hX hb hS (j := 1) rfl (by omega) hL hl rW_1008 ?_
    refine lw_rd5 C hX hb hS (j := 2) rfl (by omega) hL hl rW_1013 ?_
    refine lw_rd5 C hX hb hS (j := 3) rfl (by omega) hL hl rW_1018 ?_
    refine lw_rd5 C hX hb hS (j := 4) rfl (by omega) hL hl rW_1023 ?_
    refine lw_bo C (zI_rg _) bW_1028 ?_
    refine zgol (zrunV (As := [.int (zI (sv xs (i + 1))), .int (zI (sv xs (i + 2))), .int (zI (sv xs (i + 3))), .int (zI (bz (decide (sv xs (i + 4) ≠ 0))))]) (rest := [.long (zL r1)]) C hE hH hS hl.1 (c_X11_chance (l := l) (hK.2 (N + 1) (Nat.le_succ_of_le hN)) (sv xs (i + 1)) (zI_rg _) (sv xs (i + 2)) (zI_rg _) (sv xs (i + 3)) (zI_rg _) (decide (sv xs (i + 4) ≠ 0)) trivial) k_R_law_92 ⟨Nat.le_of_ble_eq_true rfl, Nat.le_of_ble_eq_true rfl⟩ (zM_n0 (hK.2 (N + 1) (Nat.le_succ_of_le hN))) (zM_k0 (hK.2 (N + 1) (Nat.le_succ_of_le hN))) rfl rfl rfl (Nat.le_of_ble_eq_true rfl) dW_1036 ⟨by have := hcs.1; show cells + 1 ≤ 600000; omega, by have := hcs.2; show slots + 20 ≤ 7302249; omega⟩) hS (fun r2 X2 Y2 R2 H locs hr2 hq2 hH hS => ?_)
    have hz2 : R2 = R := hq2.1
    obtain ⟨e2, ex, -⟩ := hq2.2
    have I2 : LI X2 := LI_c I ex
    have er : r1 = r2 := e1.trans e2.symm
    have K2 : KW kd len R2 := by rw [hz2]; exact hK
    refine zd_lcmp C hr1 hr2 dW_1039 ?_
    refine zd_ifL_eq C 1715 dW_1040 (by decide) (fun _ => ?_) (fun q => absurd er q)
    exact kk (N + 1) X2 Y2 R2 H locs (Nat.le_succ_of_le hN) I2 K2 hH hS
  · refine zgol (zrunV (As := [.int (zI (sv xs (i + 1))), .int (zI (sv xs (i + 2))), .int (zI (sv xs (i + 3))), .int (zI (bz (decide (sv xs (i + 4) ≠ 0))))]) (rest := []) C hE hH hS hl.1 (c_X10_chanceE (l := l) (i := 0) (by omega) (zW_k (hK.1 N hN)) (sv xs (i + 1)) (zI_rg _) (sv xs (i + 2)) (zI_rg _) (sv xs (i + 3)) (zI_rg _) (decide (sv xs (i + 4) ≠ 0)) cr) k_R_law_88 ⟨Nat.le_of_ble_eq_true rfl, Nat.le_of_ble_eq_true rfl⟩ (zW_n (hK.1 N hN)) (zW_k (hK.1 N hN)) rfl rfl rfl (Nat.le_of_ble_eq_true rfl) dW_1004 ⟨by have := hcs.1; show cells ≤ 600000; omega, by have := hcs.2; show slots ≤ 7302249; omega⟩) hS (fun r1 X1 Y1 R1 H locs hr1 hq1 hH hS => ?_)
    obtain ⟨hx, hy, hz, e1⟩ := hq1
    have hx : X1 = X := hx
    have hy : Y1 = Y := hy
    have hz : R1 = R := hz
    rw [hx, hy, hz] at hH
    refine lv_aload_n C.1 C.2.1 dW_1007 rfl (lv_at hl 1 rfl) ?_
    refine lw_rd5 C hX hb hS (j := 1) rfl (by omega) hL hl rW_1008 ?_
    refine lw_rd5 C hX hb hS (j := 2) rfl (by omega) hL hl rW_1013 ?_
    refine lw_rd5 C hX hb hS (j := 3) rfl (by omega) hL hl rW_1018 ?_
    refine lw_rd5 C hX hb hS (j := 4) rfl (by omega) hL hl rW_1023 ?_
    refine lw_bo C (zI_rg _) bW_1028 ?_
    refine zgol (zrunV (As := [.int (zI (sv xs (i + 1))), .int (zI (sv xs (i + 2))), .int (zI (sv xs (i + 3))), .int (zI (bz (decide (sv xs (i + 4) ≠ 0))))]) (rest := [.long (zL r1)]) C hE hH hS hl.1 (c_X11_chance (l := l) (hK.2 N hN) (sv xs (i + 1)) (zI_rg _) (sv xs (i + 2)) (zI_rg _) (sv xs (i + 3)) (zI_rg _) (decide (sv xs (i + 4) ≠ 0)) trivial) k_R_law_92 ⟨Nat.le_of_ble_eq_true rfl, Nat.le_of_ble_eq_true rfl⟩ (zM_n0 (hK.2 N hN)) (zM_k0 (hK.2 N hN)) rfl rfl rfl (Nat.le_of_ble_eq_true rfl) dW_1036 ⟨by have := hcs.1; show cells ≤ 600000; omega, by have := hcs.2; show slots ≤ 7302249; omega⟩) hS (fun r2 X2 Y2 R2 H locs hr2 hq2 hH hS => ?_)
    have hz2 : R2 = R := hq2.1
    obtain ⟨e2, ex, -⟩ := hq2.2
    have I2 : LI X2 := LI_c I ex
    have er : r1 = r2 := e1.trans e2.symm
    have K2 : KW kd len R2 := by rw [hz2]; exact hK
    refine zd_lcmp C hr1 hr2 dW_1039 ?_
    refine zd_ifL_eq C 1715 dW_1040 (by decide) (fun _ => ?_) (fun q => absurd er q)
    exact W_raise (Nat.le_add_right _ _) (Nat.le_add_right _ _) (kk N X2 Y2 R2 H locs hN I2 K2 hH hS)
set_option maxHeartbeats 4000000 in
theorem lc_18 {p : Program} {l : Launch} {e : Env} {s : State} {m : MethodId} {below : List Frame} {meth : Method} {c : Code} {H : Heap} {locs : List Loc} {cells slots : Nat} {Q : State → Prop} {ls : Array Slot} {D : va_G} {cy : Nat → ClassId} {sa : Nat → Nat} {kd len : Nat → Nat} {N b L i : Nat} {xs : Nat → Int32} {X Y : Nat → Int → Int} {R : Nat → Int → Option Nat} (C : zC p m c code 4 s #[Value.ref b] R_law D cy) (hE : zE D cy s.heap.size sa s) (hX : va_X b L xs s s.heap) (hb : b < s.heap.size) (hL : L ≤ 3584) (hi : i + 7 ≤ L) (hcs : cells + 1 ≤ 600000 ∧ slots + 20 ≤ 7302249) (hN : 288 ≤ N) (hG : ∀ n, 288 ≤ n → kd n = 14 ∧ len n = 20) (I : LI X) (hK : KW kd len R) (hH : zH D cy s.heap.size N kd len X Y R H) (hS : va_S (zA s.heap.size) s.heap H locs) (hl : lv_has ls 4 [(3, .int (zI (i : Int))), (2, .ref (s.heap.size + 262)), (1, .ref (s.heap.size + 0)), (0, .ref b)]) (kk : ∀ (N1 : Nat) (X1 Y1 : Nat → Int → Int) (R1 : Nat → Int → Option Nat) (H1 : Heap) (locs1 : List Loc), 288 ≤ N1 → LI X1 → KW kd len R1 → zH D cy s.heap.size N1 kd len X1 Y1 R1 H1 → va_S (zA s.heap.size) s.heap H1 locs1 → W p l e room_1 s m #[Value.ref b] below meth c H1 locs1 (cells + 1) (slots + 20) Q (F0 m 1715 ls [])) : W p l e room_1 s m #[Value.ref b] below meth c H locs cells slots Q (F0 m 1045 ls []) := by
  refine lv_aload_n C.1 C.2.1 dW_1045 rfl (lv_at hl 2 rfl) ?_
  refine lw_rd5 C hX hb hS (j := 1) rfl (by omega) hL hl rW_1046 ?_
  refine lw_rd5 C hX hb hS (j := 2) rfl (by omega) hL hl rW_1051 ?_
  by_cases cr : (0 ≤ sv xs (i + 1) ∧ sv xs (i + 1) ≤ 6) ∧ 0 ≤ sv xs (i + 2) ∧ sv xs (i + 2) ≤ 6
  · refine zgoiG (zrunVG (As := [.int (zI (sv xs (i + 1))), .int (zI (sv xs (i + 2)))]) (rest := []) C hE hH hS hl.1 (c_X10_raceG (l := l) (i := 0) (by omega) (zW_k (hK.1 N hN)) (hG N hN).1 (hG N hN).2 (sv xs (i + 1)) (zI_rg _) (sv xs (i + 2)) (zI_rg _) cr) k_R_law_93 ⟨Nat.le_of_ble_eq_true rfl, Nat.le_of_ble_eq_true rfl⟩ (zW_n (hK.1 N hN)) (zW_k (hK.1 N hN)) rfl rfl rfl (Nat.le_of_ble_eq_true rfl) dW_1056 ⟨hcs.1, hcs.2⟩) hS (fun r1 X1 Y1 R1 H locs hr1 hq1 hH hS => ?_)
    obtain ⟨hx, hz, e1, -⟩ := hq1
    have hx : X1 = X := hx
    have hz : R1 = R := hz
    rw [hx, hz] at hH
    refine lv_aload_n C.1 C.2.1 dW_1059 rfl (lv_at hl 1 rfl) ?_
    refine lw_rd5 C hX hb hS (j := 1) rfl (by omega) hL hl rW_1060 ?_
    refine lw_rd5 C hX hb hS (j := 2) rfl (by omega) hL hl rW_1065 ?_
    refine zgoi (zrunV (As := [.int (zI (sv xs (i + 1))), .int (zI (sv xs (i + 2)))]) (rest := [.int (zI r1)]) C hE hH hS hl.1 (c_X11_race (l := l) (hK.2 (N + 1) (Nat.le_succ_of_le hN)) (sv xs (i + 1)) (zI_rg _) (sv xs (i + 2)) (zI_rg _) trivial) k_R_law_96 ⟨Nat.le_of_ble_eq_true rfl, Nat.le_of_ble_eq_true rfl⟩ (zM_n0 (hK.2 (N + 1) (Nat.le_succ_of_le hN))) (zM_k0 (hK.2 (N + 1) (Nat.le_succ_of_le hN))) rfl rfl rfl (Nat.le_of_ble_eq_true rfl) dW_1070 ⟨by have := hcs.1; show cells + 1 ≤ 600000; omega, by have := hcs.2; show slots + 20 ≤ 7302249; omega⟩) hS (fun r2 X2 Y2 R2 H locs hr2 hq2 hH hS => ?_)
    have hz2 : R2 = R := hq2.1
    obtain ⟨e2, ex, -⟩ := hq2.2
    have I2 : LI X2 := LI_c I ex
    have er : r1 = r2 := e1.trans e2.symm
    have K2 : KW kd len R2 := by rw [hz2]; exact hK
    refine zd_icmp_eq C hr1 hr2 1715 dW_1073 (by decide) (fun _ => ?_) (fun q => absurd er q)
    exact kk (N + 1) X2 Y2 R2 H locs (Nat.le_succ_of_le hN) I2 K2 hH hS
  · refine zgoi (zrunV (As := [.int (zI (sv xs (i + 1))), .int (zI (sv xs (i + 2)))]) (rest := []) C hE hH hS hl.1 (c_X10_raceE (l := l) (i := 0) (by omega) (zW_k (hK.1 N hN)) (sv xs (i + 1)) (zI_rg _) (sv xs (i + 2)) (zI_rg _) cr) k_R_law_93 ⟨Nat.le_of_ble_eq_true rfl, Nat.le_of_ble_eq_true rfl⟩ (zW_n (hK.1 N hN)) (zW_k (hK.1 N hN)) rfl rfl rfl (Nat.le_of_ble_eq_true rfl) dW_1056 ⟨by have := hcs.1; show cells ≤ 600000; omega, by have := hcs.2; show slots ≤ 7302249; omega⟩) hS (fun r1 X1 Y1 R1 H locs hr1 hq1 hH hS => ?_)
    obtain ⟨hx, hy, hz, e1⟩ := hq1
    have hx : X1 = X := hx
    have hy : Y1 = Y := hy
    have hz : R1 = R := hz
    rw [hx, hy, hz] at hH
    refine lv_aload_n C.1 C.2.1 dW_1059 rfl (lv_at hl 1 rfl) ?_
    refine lw_rd5 C hX hb hS (j := 1) rfl (by omega) hL hl rW_1060 ?_
    refine lw_rd5 C hX hb hS (j := 2) rfl (by omega) hL hl rW_1065 ?_
    refine zgoi (zrunV (As := [.int (zI (sv xs (i + 1))), .int (zI (sv xs (i + 2)))]) (rest := [.int (zI r1)]) C hE hH hS hl.1 (c_X11_race (l := l) (hK.2 N hN) (sv xs (i + 1)) (zI_rg _) (sv xs (i + 2)) (zI_rg _) trivial) k_R_law_96 ⟨Nat.le_of_ble_eq_true rfl, Nat.le_of_ble_eq_true rfl⟩ (zM_n0 (hK.2 N hN)) (zM_k0 (hK.2 N hN)) rfl rfl rfl (Nat.le_of_ble_eq_true rfl) dW_1070 ⟨by have := hcs.1; show cells ≤ 600000; omega, by have := hcs.2; show slots ≤ 7302249; omega⟩) hS (fun r2 X2 Y2 R2 H locs hr2 hq2 hH hS => ?_)
    have hz2 : R2 = R := hq2.1
    obtain ⟨e2, ex, -⟩ := hq2.2
    have I2 : LI X2 := LI_c I ex
    have er : r1 = r2 := e1.trans e2.symm
    have K2 : KW kd len R2 := by rw [hz2]; exact hK
    refine zd_icmp_eq C hr1 hr2 1715 dW_1073 (by decide) (fun _ => ?_) (fun q => absurd er q)
    exact W_raise (Nat.le_add_right _ _) (Nat.le_add_right _ _) (kk N X2 Y2 R2 H locs hN I2 K2 hH hS)
set_option maxHeartbeats 4000000 in
theorem lc_19 {p : Program} {l : Launch} {e : Env} {s : State} {m : MethodId} {below : List Frame} {meth : Method} {c : Code} {H : Heap} {locs : List Loc} {cells slots : Nat} {Q : State → Prop} {ls : Array Slot} {D : va_G} {cy : Nat → ClassId} {sa : Nat → Nat} {kd len : Nat → Nat} {N b L i : Nat} {xs : Nat → Int32} {X Y : Nat → Int → Int} {R : Nat → Int → Option Nat} (C : zC p m c code 4 s #[Value.ref b] R_law D cy) (hE : zE D cy s.heap.size sa s) (hX : va_X b L xs s s.heap) (hb : b < s.heap.size) (hL : L ≤ 3584) (hi : i + 7 ≤ L) (hcs : cells + 1 ≤ 600000 ∧ slots + 20 ≤ 7302249) (hN : 288 ≤ N) (hG : ∀ n, 288 ≤ n → kd n = 14 ∧ len n = 20) (I : LI X) (hK : KW kd len R) (hH : zH D cy s.heap.size N kd len X Y R H) (hS : va_S (zA s.heap.size) s.heap H locs) (hl : lv_has ls 4 [(3, .int (zI (i : Int))), (2, .ref (s.heap.size + 262)), (1, .ref (s.heap.size + 0)), (0, .ref b)]) (kk : ∀ (N1 : Nat) (X1 Y1 : Nat → Int → Int) (R1 : Nat → Int → Option Nat) (H1 : Heap) (locs1 : List Loc), 288 ≤ N1 → LI X1 → KW kd len R1 → zH D cy s.heap.size N1 kd len X1 Y1 R1 H1 → va_S (zA s.heap.size) s.heap H1 locs1 → W p l e room_1 s m #[Value.ref b] below meth c H1 locs1 (cells + 1) (slots + 20) Q (F0 m 1715 ls [])) : W p l e room_1 s m #[Value.ref b] below meth c H locs cells slots Q (F0 m 1078 ls []) := by
  refine lv_aload_n C.1 C.2.1 dW_1078 rfl (lv_at hl 2 rfl) ?_
  refine lw_rd5 C hX hb hS (j := 1) rfl (by omega) hL hl rW_1079 ?_
  refine lw_rd5 C hX hb hS (j := 2) rfl (by omega) hL hl rW_1084 ?_
  refine lw_rd5 C hX hb hS (j := 3) rfl (by omega) hL hl rW_1089 ?_
  refine zgoi (zrunV (As := [.int (zI (sv xs (i + 1))), .int (zI (sv xs (i + 2))), .int (zI (sv xs (i + 3)))]) (rest := []) C hE hH hS hl.1 (c_X10_fact (l := l) (Z := X) (q := 262) (hK.1 N hN) (sv xs (i + 1)) (zI_rg _) (sv xs (i + 2)) (zI_rg _) (sv xs (i + 3)) (zI_rg _) (LI_q I)) k_R_law_97 ⟨Nat.le_of_ble_eq_true rfl, Nat.le_of_ble_eq_true rfl⟩ (zW_n (hK.1 N hN)) (zW_k (hK.1 N hN)) rfl rfl rfl (Nat.le_of_ble_eq_true rfl) dW_1094 ⟨by have := hcs.1; show cells ≤ 600000; omega, by have := hcs.2; show slots ≤ 7302249; omega⟩) hS (fun r1 X1 Y1 R1 H locs hr1 hq1 hH hS => ?_)
  obtain ⟨e1, hq⟩ := hq1
  have hx : X1 = X := congrArg (fun z => z.1) hq
  have hy : Y1 = Y := congrArg (fun z => z.2.1) hq
  have hz : R1 = R := congrArg (fun z => z.2.2) hq
  rw [hx, hy, hz] at hH
  have o := vAll_o I.1.2
  refine lv_aload_n C.1 C.2.1 dW_1097 rfl (lv_at hl 1 rfl) ?_
  refine lw_rd5 C hX hb hS (j := 1) rfl (by omega) hL hl rW_1098 ?_
  refine lw_rd5 C hX hb hS (j := 2) rfl (by omega) hL hl rW_1103 ?_
  refine lw_rd5 C hX hb hS (j := 3) rfl (by omega) hL hl rW_1108 ?_
  refine zgoi (zrunV (As := [.int (zI (sv xs (i + 1))), .int (zI (sv xs (i + 2))), .int (zI (sv xs (i + 3)))]) (rest := [.int (zI r1)]) C hE hH hS hl.1 (c_X11_fact (l := l) (hK.2 N hN) (sv xs (i + 1)) (zI_rg _) (sv xs (i + 2)) (zI_rg _) (sv xs (i + 3)) (zI_rg _) ⟨o.1, o.2.2.1⟩) k_R_law_100 ⟨Nat.le_of_ble_eq_true rfl, Nat.le_of_ble_eq_true rfl⟩ (zM_n0 (hK.2 N hN)) (zM_k0 (hK.2 N hN)) rfl rfl rfl (Nat.le_of_ble_eq_true rfl) dW_1113 ⟨by have := hcs.1; show cells ≤ 600000; omega, by have := hcs.2; show slots ≤ 7302249; omega⟩) hS (fun r2 X2 Y2 R2 H locs hr2 hq2 hH hS => ?_)
  have hz2 : R2 = R := hq2.2.1
  obtain ⟨e2, pk⟩ := hq2.2.2
  have I2 : LI X2 := LI_pK I pk
  have er : r1 = r2 := e1.trans e2.symm
  have K2 : KW kd len R2 := by rw [hz2]; exact hK
  refine zd_icmp_eq C hr1 hr2 1715 dW_1116 (by decide) (fun _ => ?_) (fun q => absurd er q)
  exact W_raise (Nat.le_add_right _ _) (Nat.le_add_right _ _) (kk N X2 Y2 R2 H locs hN I2 K2 hH hS)
set_option maxHeartbeats 4000000 in
theorem lc_20 {p : Program} {l : Launch} {e : Env} {s : State} {m : MethodId} {below : List Frame} {meth : Method} {c : Code} {H : Heap} {locs : List Loc} {cells slots : Nat} {Q : State → Prop} {ls : Array Slot} {D : va_G} {cy : Nat → ClassId} {sa : Nat → Nat} {kd len : Nat → Nat} {N b L i : Nat} {xs : Nat → Int32} {X Y : Nat → Int → Int} {R : Nat → Int → Option Nat} (C : zC p m c code 4 s #[Value.ref b] R_law D cy) (hE : zE D cy s.heap.size sa s) (hX : va_X b L xs s s.heap) (hb : b < s.heap.size) (hL : L ≤ 3584) (hi : i + 7 ≤ L) (hcs : cells + 1 ≤ 600000 ∧ slots + 20 ≤ 7302249) (hN : 288 ≤ N) (hG : ∀ n, 288 ≤ n → kd n = 14 ∧ len n = 20) (I : LI X) (hK : KW kd len R) (hH : zH D cy s.heap.size N kd len X Y R H) (hS : va_S (zA s.heap.size) s.heap H locs) (hl : lv_has ls 4 [(3, .int (zI (i : Int))), (2, .ref (s.heap.size + 262)), (1, .ref (s.heap.size + 0)), (0, .ref b)]) (kk : ∀ (N1 : Nat) (X1 Y1 : Nat → Int → Int) (R1 : Nat → Int → Option Nat) (H1 : Heap) (locs1 : List Loc), 288 ≤ N1 → LI X1 → KW kd len R1 → zH D cy s.heap.size N1 kd len X1 Y1 R1 H1 → va_S (zA s.heap.size) s.heap H1 locs1 → W p l e room_1 s m #[Value.ref b] below meth c H1 locs1 (cells + 1) (slots + 20) Q (F0 m 1715 ls [])) : W p l e room_1 s m #[Value.ref b] below meth c H locs cells slots Q (F0 m 1121 ls []) := by
  refine lv_aload_n C.1 C.2.1 dW_1121 rfl (lv_at hl 2 rfl) ?_
  refine lw_rd5 C hX hb hS (j := 1) rfl (by omega) hL hl rW_1122 ?_
  refine lw_rd5 C hX hb hS (j := 2) rfl (by omega) hL hl rW_1127 ?_
  refine lw_rd5 C hX hb hS (j := 3) rfl (by omega) hL hl rW_1132 ?_
  refine lw_rd5 C hX hb hS (j := 4) rfl (by omega) hL hl rW_1137 ?_
  refine lw_rd5 C hX hb hS (j := 5) rfl (by omega) hL hl rW_1142 ?_
  refine zgoi (zrunV (As := [.int (zI (sv xs (i + 1))), .int (zI (sv xs (i + 2))), .int (zI (sv xs (i + 3))), .int (zI (sv xs (i + 4))), .int (zI (sv xs (i + 5)))]) (rest := []) C hE hH hS hl.1 (c_X10_fits (l := l) (Z := X) (q := 262) (hK.1 N hN) (sv xs (i + 1)) (zI_rg _) (sv xs (i + 2)) (zI_rg _) (sv xs (i + 3)) (zI_rg _) (sv xs (i + 4)) (zI_rg _) (sv xs (i + 5)) (zI_rg _) (LI_q I)) k_R_law_101 ⟨Nat.le_of_ble_eq_true rfl, Nat.le_of_ble_eq_true rfl⟩ (zW_n (hK.1 N hN)) (zW_k (hK.1 N hN)) rfl rfl rfl (Nat.le_of_ble_eq_true rfl) dW_1147 ⟨by have := hcs.1; show cells ≤ 600000; omega, by have := hcs.2; show slots ≤ 7302249; omega⟩) hS (fun r1 X1 Y1 R1 H locs hr1 hq1 hH hS => ?_)
  obtain ⟨w1, e1, qk⟩ := hq1
  have I1 : LI X1 := LI_qK I qk
  have K1 : KW kd len R1 := KW_w ( w1) hK
  have o := vAll_o I1.1.2
  refine lv_aload_n C.1 C.2.1 dW_1150 rfl (lv_at hl 1 rfl) ?_
  refine lw_rd5 C hX hb hS (j := 1) rfl (by omega) hL hl rW_1151 ?_
  refine lw_rd5 C hX hb hS (j := 2) rfl (by omega) hL hl rW_1156 ?_
  refine lw_rd5 C hX hb hS (j := 3) rfl (by omega) hL hl rW_1161 ?_
  refine lw_rd5 C hX hb hS (j := 4) rfl (by omega) hL hl rW_1166 ?_
  refine lw_rd5 C hX hb hS (j := 5) rfl (by omega) hL hl rW_1171 ?_
  refine zgoi (zrunV (As := [.int (zI (sv xs (i + 1))), .int (zI (sv xs (i + 2))), .int (zI (sv xs (i + 3))), .int (zI (sv xs (i + 4))), .int (zI (sv xs (i + 5)))]) (rest := [.int (zI r1)]) C hE hH hS hl.1 (c_X11_fits (l := l) (K1.2 N hN) (sv xs (i + 1)) (zI_rg _) (sv xs (i + 2)) (zI_rg _) (sv xs (i + 3)) (zI_rg _) (sv xs (i + 4)) (zI_rg _) (sv xs (i + 5)) (zI_rg _) ⟨o.1, o.2.1, o.2.2.1⟩) k_R_law_104 ⟨Nat.le_of_ble_eq_true rfl, Nat.le_of_ble_eq_true rfl⟩ (zM_n0 (K1.2 N hN)) (zM_k0 (K1.2 N hN)) rfl rfl rfl (Nat.le_of_ble_eq_true rfl) dW_1176 ⟨by have := hcs.1; show cells ≤ 600000; omega, by have := hcs.2; show slots ≤ 7302249; omega⟩) hS (fun r2 X2 Y2 R2 H locs hr2 hq2 hH hS => ?_)
  have hz2 : R2 = R1 := hq2.1
  obtain ⟨e2, pk⟩ := hq2.2
  have I2 : LI X2 := LI_pK I1 pk
  have ef := rFits_o (i := 262) (X := X) (X1 := X1) (fun z hz => qk.1 z (Or.inr (by omega)))
  have er : r1 = r2 := by rw [e2, ef]; exact e1
  have K2 : KW kd len R2 := by rw [hz2]; exact K1
  refine zd_icmp_eq C hr1 hr2 1715 dW_1179 (by decide) (fun _ => ?_) (fun q => absurd er q)
  exact W_raise (Nat.le_add_right _ _) (Nat.le_add_right _ _) (kk N X2 Y2 R2 H locs hN I2 K2 hH hS)
set_option maxHeartbeats 4000000 in
theorem lc_21 {p : Program} {l : Launch} {e : Env} {s : State} {m : MethodId} {below : List Frame} {meth : Method} {c : Code} {H : Heap} {locs : List Loc} {cells slots : Nat} {Q : State → Prop} {ls : Array Slot} {D : va_G} {cy : Nat → ClassId} {sa : Nat → Nat} {kd len : Nat → Nat} {N b L i : Nat} {xs : Nat → Int32} {X Y : Nat → Int → Int} {R : Nat → Int → Option Nat} (C : zC p m c code 4 s #[Value.ref b] R_law D cy) (hE : zE D cy s.heap.size sa s) (hX : va_X b L xs s s.heap) (hb : b < s.heap.size) (hL : L ≤ 3584) (hi : i + 7 ≤ L) (hcs : cells + 1 ≤ 600000 ∧ slots + 20 ≤ 7302249) (hN : 288 ≤ N) (hG : ∀ n, 288 ≤ n → kd n = 14 ∧ len n = 20) (I : LI X) (hK : KW kd len R) (hH : zH D cy s.heap.size N kd len X Y R H) (hS : va_S (zA s.heap.size) s.heap H locs) (hl : lv_has ls 4 [(3, .int (zI (i : Int))), (2, .ref (s.heap.size + 262)), (1, .ref (s.heap.size + 0)), (0, .ref b)]) (kk : ∀ (N1 : Nat) (X1 Y1 : Nat → Int → Int) (R1 : Nat → Int → Option Nat) (H1 : Heap) (locs1 : List Loc), 288 ≤ N1 → LI X1 → KW kd len R1 → zH D cy s.heap.size N1 kd len X1 Y1 R1 H1 → va_S (zA s.heap.size) s.heap H1 locs1 → W p l e room_1 s m #[Value.ref b] below meth c H1 locs1 (cells + 1) (slots + 20) Q (F0 m 1715 ls [])) : W p l e room_1 s m #[Value.ref b] below meth c H locs cells slots Q (F0 m 1184 ls []) := by
  refine lv_aload_n C.1 C.2.1 dW_1184 rfl (lv_at hl 2 rfl) ?_
  refine lw_rd5 C hX hb hS (j := 1) rfl (by omega) hL hl rW_1185 ?_
  refine lw_rd5 C hX hb hS (j := 2) rfl (by omega) hL hl rW_1190 ?_
  refine lw_rd5 C hX hb hS (j := 3) rfl (by omega) hL hl rW_1195 ?_
  refine lw_rd5 C hX hb hS (j := 4) rfl (by omega) hL hl rW_1200 ?_
  refine lw_rd5 C hX hb hS (j := 5) rfl (by omega) hL hl rW_1205 ?_
  refine zgoi (zrunV (As := [.int (zI (sv xs (i + 1))), .int (zI (sv xs (i + 2))), .int (zI (sv xs (i + 3))), .int (zI (sv xs (i + 4))), .int (zI (sv xs (i + 5)))]) (rest := []) C hE hH hS hl.1 (c_X10_drawn (l := l) (Z := X) (q := 262) (hK.1 N hN) (sv xs (i + 1)) (zI_rg _) (sv xs (i + 2)) (zI_rg _) (sv xs (i + 3)) (zI_rg _) (sv xs (i + 4)) (zI_rg _) (sv xs (i + 5)) (zI_rg _) (LI_q I)) k_R_law_105 ⟨Nat.le_of_ble_eq_true rfl, Nat.le_of_ble_eq_true rfl⟩ (zW_n (hK.1 N hN)) (zW_k (hK.1 N hN)) rfl rfl rfl (Nat.le_of_ble_eq_true rfl) dW_1210 ⟨by have := hcs.1; show cells ≤ 600000; omega, by have := hcs.2; show slots ≤ 7302249; omega⟩) hS (fun r1 X1 Y1 R1 H locs hr1 hq1 hH hS => ?_)
  obtain ⟨w1, e1, qk⟩ := hq1
  have I1 : LI X1 := LI_qK I qk
  have K1 : KW kd len R1 := KW_w (wcK_wf w1) hK
  have o := vAll_o I1.1.2
  refine lv_aload_n C.1 C.2.1 dW_1213 rfl (lv_at hl 1 rfl) ?_
  refine lw_rd5 C hX hb hS (j := 1) rfl (by omega) hL hl rW_1214 ?_
  refine lw_rd5 C hX hb hS (j := 2) rfl (by omega) hL hl rW_1219 ?_
  refine lw_rd5 C hX hb hS (j := 3) rfl (by omega) hL hl rW_1224 ?_
  refine lw_rd5 C hX hb hS (j := 4) rfl (by omega) hL hl rW_1229 ?_
  refine lw_rd5 C hX hb hS (j := 5) rfl (by omega) hL hl rW_1234 ?_
  refine zgoi (zrunV (As := [.int (zI (sv xs (i + 1))), .int (zI (sv xs (i + 2))), .int (zI (sv xs (i + 3))), .int (zI (sv xs (i + 4))), .int (zI (sv xs (i + 5)))]) (rest := [.int (zI r1)]) C hE hH hS hl.1 (c_X11_drawn (l := l) (K1.2 N hN) (sv xs (i + 1)) (zI_rg _) (sv xs (i + 2)) (zI_rg _) (sv xs (i + 3)) (zI_rg _) (sv xs (i + 4)) (zI_rg _) (sv xs (i + 5)) (zI_rg _) o.1) k_R_law_108 ⟨Nat.le_of_ble_eq_true rfl, Nat.le_of_ble_eq_true rfl⟩ (zM_n0 (K1.2 N hN)) (zM_k0 (K1.2 N hN)) rfl rfl rfl (Nat.le_of_ble_eq_true rfl) dW_1239 ⟨by have := hcs.1; show cells ≤ 600000; omega, by have := hcs.2; show slots ≤ 7302249; omega⟩) hS (fun r2 X2 Y2 R2 H locs hr2 hq2 hH hS => ?_)
  have hz2 : R2 = R1 := hq2.1
  obtain ⟨e2, pk⟩ := hq2.2
  have I2 : LI X2 := LI_pK I1 pk
  have ef := rDrawn_o (i := 262) (X := X) (X1 := X1) (fun z hz => qk.1 z (Or.inr (by omega)))
  have er : r1 = r2 := by rw [e2, ef]; exact e1
  have K2 : KW kd len R2 := by rw [hz2]; exact K1
  refine zd_icmp_eq C hr1 hr2 1715 dW_1242 (by decide) (fun _ => ?_) (fun q => absurd er q)
  exact W_raise (Nat.le_add_right _ _) (Nat.le_add_right _ _) (kk N X2 Y2 R2 H locs hN I2 K2 hH hS)
set_option maxHeartbeats 4000000 in
theorem lc_22 {p : Program} {l : Launch} {e : Env} {s : State} {m : MethodId} {below : List Frame} {meth : Method} {c : Code} {H : Heap} {locs : List Loc} {cells slots : Nat} {Q : State → Prop} {ls : Array Slot} {D : va_G} {cy : Nat → ClassId} {sa : Nat → Nat} {kd len : Nat → Nat} {N b L i : Nat} {xs : Nat → Int32} {X Y : Nat → Int → Int} {R : Nat → Int → Option Nat} (C : zC p m c code 4 s #[Value.ref b] R_law D cy) (hE : zE D cy s.heap.size sa s) (hX : va_X b L xs s s.heap) (hb : b < s.heap.size) (hL : L ≤ 3584) (hi : i + 7 ≤ L) (hcs : cells + 1 ≤ 600000 ∧ slots + 20 ≤ 7302249) (hN : 288 ≤ N) (hG : ∀ n, 288 ≤ n → kd n = 14 ∧ len n = 20) (I : LI X) (hK : KW kd len R) (hH : zH D cy s.heap.size N kd len X Y R H) (hS : va_S (zA s.heap.size) s.heap H locs) (hl : lv_has ls 4 [(3, .int (zI (i : Int))), (2, .ref (s.heap.size + 262)), (1, .ref (s.heap.size + 0)), (0, .ref b)]) (kk : ∀ (N1 : Nat) (X1 Y1 : Nat → Int → Int) (R1 : Nat → Int → Option Nat) (H1 : Heap) (locs1 : List Loc), 288 ≤ N1 → LI X1 → KW kd len R1 → zH D cy s.heap.size N1 kd len X1 Y1 R1 H1 → va_S (zA s.heap.size) s.heap H1 locs1 → W p l e room_1 s m #[Value.ref b] below meth c H1 locs1 (cells + 1) (slots + 20) Q (F0 m 1715 ls [])) : W p l e room_1 s m #[Value.ref b] below meth c H locs cells slots Q (F0 m 1247 ls []) := by
  refine lv_aload_n C.1 C.2.1 dW_1247 rfl (lv_at hl 2 rfl) ?_
  refine lw_rd5 C hX hb hS (j := 1) rfl (by omega) hL hl rW_1248 ?_
  refine lw_rd5 C hX hb hS (j := 2) rfl (by omega) hL hl rW_1253 ?_
  refine lw_rd5 C hX hb hS (j := 3) rfl (by omega) hL hl rW_1258 ?_
  refine zgoi (zrunV (As := [.int (zI (sv xs (i + 1))), .int (zI (sv xs (i + 2))), .int (zI (sv xs (i + 3)))]) (rest := []) C hE hH hS hl.1 (c_X10_leaves (l := l) (Z := X) (q := 262) (hK.1 N hN) (sv xs (i + 1)) (zI_rg _) (sv xs (i + 2)) (zI_rg _) (sv xs (i + 3)) (zI_rg _) (LI_q I)) k_R_law_109 ⟨Nat.le_of_ble_eq_true rfl, Nat.le_of_ble_eq_true rfl⟩ (zW_n (hK.1 N hN)) (zW_k (hK.1 N hN)) rfl rfl rfl (Nat.le_of_ble_eq_true rfl) dW_1263 ⟨by have := hcs.1; show cells ≤ 600000; omega, by have := hcs.2; show slots ≤ 7302249; omega⟩) hS (fun r1 X1 Y1 R1 H locs hr1 hq1 hH hS => ?_)
  obtain ⟨w1, e1, qk⟩ := hq1
  have I1 : LI X1 := LI_qK I qk
  have K1 : KW kd len R1 := KW_w (wcK_wg w1) hK
  have o := vAll_o I1.1.2
  refine lv_aload_n C.1 C.2.1 dW_1266 rfl (lv_at hl 1 rfl) ?_
  refine lw_rd5 C hX hb hS (j := 1) rfl (by omega) hL hl rW_1267 ?_
  refine lw_rd5 C hX hb hS (j := 2) rfl (by omega) hL hl rW_1272 ?_
  refine lw_rd5 C hX hb hS (j := 3) rfl (by omega) hL hl rW_1277 ?_
  refine zgoi (zrunV (As := [.int (zI (sv xs (i + 1))), .int (zI (sv xs (i + 2))), .int (zI (sv xs (i + 3)))]) (rest := [.int (zI r1)]) C hE hH hS hl.1 (c_X11_leaves (l := l) (K1.2 N hN) (sv xs (i + 1)) (zI_rg _) (sv xs (i + 2)) (zI_rg _) (sv xs (i + 3)) (zI_rg _) o.1) k_R_law_112 ⟨Nat.le_of_ble_eq_true rfl, Nat.le_of_ble_eq_true rfl⟩ (zM_n0 (K1.2 N hN)) (zM_k0 (K1.2 N hN)) rfl rfl rfl (Nat.le_of_ble_eq_true rfl) dW_1282 ⟨by have := hcs.1; show cells ≤ 600000; omega, by have := hcs.2; show slots ≤ 7302249; omega⟩) hS (fun r2 X2 Y2 R2 H locs hr2 hq2 hH hS => ?_)
  have hz2 : R2 = R1 := hq2.1
  obtain ⟨e2, pk⟩ := hq2.2
  have I2 : LI X2 := LI_pK I1 pk
  have ef := rLeaves_o (i := 262) (X := X) (X1 := X1) (fun z hz => qk.1 z (Or.inr (by omega)))
  have er : r1 = r2 := by rw [e2, ef]; exact e1
  have K2 : KW kd len R2 := by rw [hz2]; exact K1
  refine zd_icmp_eq C hr1 hr2 1715 dW_1285 (by decide) (fun _ => ?_) (fun q => absurd er q)
  exact W_raise (Nat.le_add_right _ _) (Nat.le_add_right _ _) (kk N X2 Y2 R2 H locs hN I2 K2 hH hS)
set_option maxHeartbeats 4000000 in
theorem lc_23 {p : Program} {l : Launch} {e : Env} {s : State} {m : MethodId} {below : List Frame} {meth : Method} {c : Code} {H : Heap} {locs : List Loc} {cells slots : Nat} {Q : State → Prop} {ls : Array Slot} {D : va_G} {cy : Nat → ClassId} {sa : Nat → Nat} {kd len : Nat → Nat} {N b L i : Nat} {xs : Nat → Int32} {X Y : Nat → Int → Int} {R : Nat → Int → Option Nat} (C : zC p m c code 4 s #[Value.ref b] R_law D cy) (hE : zE D cy s.heap.size sa s) (hX : va_X b L xs s s.heap) (hb : b < s.heap.size) (hL : L ≤ 3584) (hi : i + 7 ≤ L) (hcs : cells + 1 ≤ 600000 ∧ slots + 20 ≤ 7302249) (hN : 288 ≤ N) (hG : ∀ n, 288 ≤ n → kd n = 14 ∧ len n = 20) (I : LI X) (hK : KW kd len R) (hH : zH D cy s.heap.size N kd len X Y R H) (hS : va_S (zA s.heap.size) s.heap H locs) (hl : lv_has ls 4 [(3, .int (zI (i : Int))), (2, .ref (s.heap.size + 262)), (1, .ref (s.heap.size + 0)), (0, .ref b)]) (kk : ∀ (N1 : Nat) (X1 Y1 : Nat → Int → Int) (R1 : Nat → Int → Option Nat) (H1 : Heap) (locs1 : List Loc), 288 ≤ N1 → LI X1 → KW kd len R1 → zH D cy s.heap.size N1 kd len X1 Y1 R1 H1 → va_S (zA s.heap.size) s.heap H1 locs1 → W p l e room_1 s m #[Value.ref b] below meth c H1 locs1 (cells + 1) (slots + 20) Q (F0 m 1715 ls [])) : W p l e room_1 s m #[Value.ref b] below meth c H locs cells slots Q (F0 m 1290 ls []) := by
  refine lv_aload_n C.1 C.2.1 dW_1290 rfl (lv_at hl 2 rfl) ?_
  refine lw_rd5 C hX hb hS (j := 1) rfl (by omega) hL hl rW_1291 ?_
  refine lw_rd5 C hX hb hS (j := 2) rfl (by omega) hL hl rW_1296 ?_
  refine lw_rd5 C hX hb hS (j := 3) rfl (by omega) hL hl rW_1301 ?_
  refine lw_rd5 C hX hb hS (j := 4) rfl (by omega) hL hl rW_1306 ?_
  refine zgoi (zrunV (As := [.int (zI (sv xs (i + 1))), .int (zI (sv xs (i + 2))), .int (zI (sv xs (i + 3))), .int (zI (sv xs (i + 4)))]) (rest := []) C hE hH hS hl.1 (c_X10_root (l := l) (Z := X) (q := 262) (hK.1 N hN) (sv xs (i + 1)) (zI_rg _) (sv xs (i + 2)) (zI_rg _) (sv xs (i + 3)) (zI_rg _) (sv xs (i + 4)) (zI_rg _) (LI_q I)) k_R_law_113 ⟨Nat.le_of_ble_eq_true rfl, Nat.le_of_ble_eq_true rfl⟩ (zW_n (hK.1 N hN)) (zW_k (hK.1 N hN)) rfl rfl rfl (Nat.le_of_ble_eq_true rfl) dW_1311 ⟨by have := hcs.1; show cells ≤ 600000; omega, by have := hcs.2; show slots ≤ 7302249; omega⟩) hS (fun r1 X1 Y1 R1 H locs hr1 hq1 hH hS => ?_)
  obtain ⟨w1, e1, qk⟩ := hq1
  have I1 : LI X1 := LI_qK I qk
  have K1 : KW kd len R1 := KW_w (wcK_wg w1) hK
  have o := vAll_o I1.1.2
  refine lv_aload_n C.1 C.2.1 dW_1314 rfl (lv_at hl 1 rfl) ?_
  refine lw_rd5 C hX hb hS (j := 1) rfl (by omega) hL hl rW_1315 ?_
  refine lw_rd5 C hX hb hS (j := 2) rfl (by omega) hL hl rW_1320 ?_
  refine lw_rd5 C hX hb hS (j := 3) rfl (by omega) hL hl rW_1325 ?_
  refine lw_rd5 C hX hb hS (j := 4) rfl (by omega) hL hl rW_1330 ?_
  refine zgoi (zrunV (As := [.int (zI (sv xs (i + 1))), .int (zI (sv xs (i + 2))), .int (zI (sv xs (i + 3))), .int (zI (sv xs (i + 4)))]) (rest := [.int (zI r1)]) C hE hH hS hl.1 (c_X11_root (l := l) (K1.2 N hN) (sv xs (i + 1)) (zI_rg _) (sv xs (i + 2)) (zI_rg _) (sv xs (i + 3)) (zI_rg _) (sv xs (i + 4)) (zI_rg _) o.1) k_R_law_116 ⟨Nat.le_of_ble_eq_true rfl, Nat.le_of_ble_eq_true rfl⟩ (zM_n0 (K1.2 N hN)) (zM_k0 (K1.2 N hN)) rfl rfl rfl (Nat.le_of_ble_eq_true rfl) dW_1335 ⟨by have := hcs.1; show cells ≤ 600000; omega, by have := hcs.2; show slots ≤ 7302249; omega⟩) hS (fun r2 X2 Y2 R2 H locs hr2 hq2 hH hS => ?_)
  have hz2 : R2 = R1 := hq2.1
  obtain ⟨e2, pk⟩ := hq2.2
  have I2 : LI X2 := LI_pK I1 pk
  have ef := rRoot_o (i := 262) (X := X) (X1 := X1) (fun z hz => qk.1 z (Or.inr (by omega)))
  have er : r1 = r2 := by rw [e2, ef]; exact e1
  have K2 : KW kd len R2 := by rw [hz2]; exact K1
  refine zd_icmp_eq C hr1 hr2 1715 dW_1338 (by decide) (fun _ => ?_) (fun q => absurd er q)
  exact W_raise (Nat.le_add_right _ _) (Nat.le_add_right _ _) (kk N X2 Y2 R2 H locs hN I2 K2 hH hS)
