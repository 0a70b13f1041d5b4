/-! THE LAW: cases 24 to 31 -/
theorem q_1172 : Cond.methodLink R_law 117 yX10_gain ∈ zTB := zmem 1172 (by decide +kernel) rfl
theorem q_1173 : Cond.instanceMethod yX10_gain ∈ zTB := zmem 1173 (by decide +kernel) rfl
theorem q_1174 : Cond.selects RX10 yX10_gain yX10_gain ∈ zTB := zmem 1174 (by decide +kernel) rfl
theorem q_1175 : Cond.code yX10_gain cX10_gain 9 (some .int) ∈ zTB := zmem 1175 (by decide +kernel) rfl
theorem k_R_law_117 : zLv R_law 117 RX10 yX10_gain cX10_gain 9 (some .int) 4 := ⟨⟨q_1172, q_1173, q_1174, q_129, q_1175⟩, rfl, ⟨by decide, by decide⟩, by decide +kernel⟩
theorem q_2004 : Cond.methodLink R_law 120 yX11_gain ∈ zTB := zmem 2004 (by decide +kernel) rfl
theorem q_2005 : Cond.instanceMethod yX11_gain ∈ zTB := zmem 2005 (by decide +kernel) rfl
theorem q_2006 : Cond.selects RX11 yX11_gain yX11_gain ∈ zTB := zmem 2006 (by decide +kernel) rfl
theorem q_2007 : Cond.code yX11_gain cX11_gain 10 (some .int) ∈ zTB := zmem 2007 (by decide +kernel) rfl
theorem k_R_law_120 : zLv R_law 120 RX11 yX11_gain cX11_gain 10 (some .int) 4 := ⟨⟨q_2004, q_2005, q_2006, q_140, q_2007⟩, rfl, ⟨by decide, by decide⟩, by decide +kernel⟩
theorem q_1195 : Cond.methodLink R_law 121 yX10_speed ∈ zTB := zmem 1195 (by decide +kernel) rfl
theorem q_1196 : Cond.instanceMethod yX10_speed ∈ zTB := zmem 1196 (by decide +kernel) rfl
theorem q_1197 : Cond.selects RX10 yX10_speed yX10_speed ∈ zTB := zmem 1197 (by decide +kernel) rfl
theorem q_1198 : Cond.code yX10_speed cX10_speed 5 (some .int) ∈ zTB := zmem 1198 (by decide +kernel) rfl
theorem k_R_law_121 : zLv R_law 121 RX10 yX10_speed cX10_speed 5 (some .int) 3 := ⟨⟨q_1195, q_1196, q_1197, q_129, q_1198⟩, rfl, ⟨by decide, by decide⟩, by decide +kernel⟩
theorem q_2008 : Cond.methodLink R_law 124 yX11_speed ∈ zTB := zmem 2008 (by decide +kernel) rfl
theorem q_2009 : Cond.instanceMethod yX11_speed ∈ zTB := zmem 2009 (by decide +kernel) rfl
theorem q_2010 : Cond.selects RX11 yX11_speed yX11_speed ∈ zTB := zmem 2010 (by decide +kernel) rfl
theorem q_2011 : Cond.code yX11_speed cX11_speed 5 (some .int) ∈ zTB := zmem 2011 (by decide +kernel) rfl
theorem k_R_law_124 : zLv R_law 124 RX11 yX11_speed cX11_speed 5 (some .int) 3 := ⟨⟨q_2008, q_2009, q_2010, q_140, q_2011⟩, rfl, ⟨by decide, by decide⟩, by decide +kernel⟩
theorem q_1176 : Cond.methodLink R_law 125 yX10_twice ∈ zTB := zmem 1176 (by decide +kernel) rfl
theorem q_1177 : Cond.instanceMethod yX10_twice ∈ zTB := zmem 1177 (by decide +kernel) rfl
theorem q_1178 : Cond.selects RX10 yX10_twice yX10_twice ∈ zTB := zmem 1178 (by decide +kernel) rfl
theorem q_1179 : Cond.code yX10_twice cX10_twice 6 (some .int) ∈ zTB := zmem 1179 (by decide +kernel) rfl
theorem k_R_law_125 : zLv R_law 125 RX10 yX10_twice cX10_twice 6 (some .int) 5 := ⟨⟨q_1176, q_1177, q_1178, q_129, q_1179⟩, rfl, ⟨by decide, by decide⟩, by decide +kernel⟩
theorem q_2012 : Cond.methodLink R_law 128 yX11_twice ∈ zTB := zmem 2012 (by decide +kernel) rfl
theorem q_2013 : Cond.instanceMethod yX11_twice ∈ zTB := zmem 2013 (by decide +kernel) rfl
theorem q_2014 : Cond.selects RX11 yX11_twice yX11_twice ∈ zTB := zmem 2014 (by decide +kernel) rfl
theorem q_2015 : Cond.code yX11_twice cX11_twice 6 (some .int) ∈ zTB := zmem 2015 (by decide +kernel) rfl
theorem k_R_law_128 : zLv R_law 128 RX11 yX11_twice cX11_twice 6 (some .int) 5 := ⟨⟨q_2012, q_2013, q_2014, q_140, q_2015⟩, rfl, ⟨by decide, by decide⟩, by decide +kernel⟩
theorem q_1040 : Cond.methodLink R_law 129 yX10_after ∈ zTB := zmem 1040 (by decide +kernel) rfl
theorem q_1041 : Cond.instanceMethod yX10_after ∈ zTB := zmem 1041 (by decide +kernel) rfl
theorem q_1042 : Cond.selects RX10 yX10_after yX10_after ∈ zTB := zmem 1042 (by decide +kernel) rfl
theorem q_1043 : Cond.code yX10_after cX10_after 5 (some .int) ∈ zTB := zmem 1043 (by decide +kernel) rfl
theorem k_R_law_129 : zLv R_law 129 RX10 yX10_after cX10_after 5 (some .int) 4 := ⟨⟨q_1040, q_1041, q_1042, q_129, q_1043⟩, rfl, ⟨by decide, by decide⟩, by decide +kernel⟩
theorem q_2016 : Cond.methodLink R_law 132 yX11_after ∈ zTB := zmem 2016 (by decide +kernel) rfl
theorem q_2017 : Cond.instanceMethod yX11_after ∈ zTB := zmem 2017 (by decide +kernel) rfl
theorem q_2018 : Cond.selects RX11 yX11_after yX11_after ∈ zTB := zmem 2018 (by decide +kernel) rfl
theorem q_2019 : Cond.code yX11_after cX11_after 8 (some .int) ∈ zTB := zmem 2019 (by decide +kernel) rfl
theorem k_R_law_132 : zLv R_law 132 RX11 yX11_after cX11_after 8 (some .int) 4 := ⟨⟨q_2016, q_2017, q_2018, q_140, q_2019⟩, rfl, ⟨by decide, by decide⟩, by decide +kernel⟩
theorem q_1277 : Cond.methodLink R_law 133 yX10_odds ∈ zTB := zmem 1277 (by decide +kernel) rfl
theorem q_1278 : Cond.instanceMethod yX10_odds ∈ zTB := zmem 1278 (by decide +kernel) rfl
theorem q_1279 : Cond.selects RX10 yX10_odds yX10_odds ∈ zTB := zmem 1279 (by decide +kernel) rfl
theorem q_1280 : Cond.code yX10_odds cX10_odds 9 (some .int) ∈ zTB := zmem 1280 (by decide +kernel) rfl
theorem k_R_law_133 : zLv R_law 133 RX10 yX10_odds cX10_odds 9 (some .int) 6 := ⟨⟨q_1277, q_1278, q_1279, q_129, q_1280⟩, rfl, ⟨by decide, by decide⟩, by decide +kernel⟩
theorem q_2020 : Cond.methodLink R_law 137 yX11_odds ∈ zTB := zmem 2020 (by decide +kernel) rfl
theorem q_2021 : Cond.instanceMethod yX11_odds ∈ zTB := zmem 2021 (by decide +kernel) rfl
theorem q_2022 : Cond.selects RX11 yX11_odds yX11_odds ∈ zTB := zmem 2022 (by decide +kernel) rfl
theorem q_2023 : Cond.code yX11_odds cX11_odds 7 (some .int) ∈ zTB := zmem 2023 (by decide +kernel) rfl
theorem k_R_law_137 : zLv R_law 137 RX11 yX11_odds cX11_odds 7 (some .int) 6 := ⟨⟨q_2020, q_2021, q_2022, q_140, q_2023⟩, rfl, ⟨by decide, by decide⟩, by decide +kernel⟩
theorem q_811 : Cond.methodLink R_law 138 yX10_count ∈ zTB := zmem 811 (by decide +kernel) rfl
theorem q_812 : Cond.instanceMethod yX10_count ∈ zTB := zmem 812 (by decide +kernel) rfl
theorem q_813 : Cond.selects RX10 yX10_count yX10_count ∈ zTB := zmem 813 (by decide +kernel) rfl
theorem q_814 : Cond.code yX10_count cX10_count 2 (some .int) ∈ zTB := zmem 814 (by decide +kernel) rfl
theorem k_R_law_138 : zLv R_law 138 RX10 yX10_count cX10_count 2 (some .int) 1 := ⟨⟨q_811, q_812, q_813, q_129, q_814⟩, rfl, ⟨by decide, by decide⟩, by decide +kernel⟩
theorem q_2024 : Cond.methodLink R_law 141 yX11_count ∈ zTB := zmem 2024 (by decide +kernel) rfl
theorem q_2025 : Cond.instanceMethod yX11_count ∈ zTB := zmem 2025 (by decide +kernel) rfl
theorem q_2026 : Cond.selects RX11 yX11_count yX11_count ∈ zTB := zmem 2026 (by decide +kernel) rfl
theorem q_2027 : Cond.code yX11_count cX11_count 2 (some .int) ∈ zTB := zmem 2027 (by decide +kernel) rfl
theorem k_R_law_141 : zLv R_law 141 RX11 yX11_count cX11_count 2 (some .int) 1 := ⟨⟨q_2024, q_2025, q_2026, q_140, q_2027⟩, rfl, ⟨by decide, by decide⟩, by decide +kernel⟩
theorem q_815 : Cond.methodLink R_law 142 yX10_image ∈ zTB := zmem 815 (by decide +kernel) rfl
theorem q_816 : Cond.instanceMethod yX10_image ∈ zTB := zmem 816 (by decide +kernel) rfl
theorem q_817 : Cond.selects RX10 yX10_image yX10_image ∈ zTB := zmem 817 (by decide +kernel) rfl
theorem q_818 : Cond.code yX10_image cX10_image 2 (some .boolean) ∈ zTB := zmem 818 (by decide +kernel) rfl
theorem k_R_law_142 : zLv R_law 142 RX10 yX10_image cX10_image 2 (some .boolean) 1 := ⟨⟨q_815, q_816, q_817, q_129, q_818⟩, rfl, ⟨by decide, by decide⟩, by decide +kernel⟩
theorem q_2028 : Cond.methodLink R_law 146 yX11_image ∈ zTB := zmem 2028 (by decide +kernel) rfl
theorem q_2029 : Cond.instanceMethod yX11_image ∈ zTB := zmem 2029 (by decide +kernel) rfl
theorem q_2030 : Cond.selects RX11 yX11_image yX11_image ∈ zTB := zmem 2030 (by decide +kernel) rfl
theorem q_2031 : Cond.code yX11_image cX11_image 2 (some .boolean) ∈ zTB := zmem 2031 (by decide +kernel) rfl
theorem k_R_law_146 : zLv R_law 146 RX11 yX11_image cX11_image 2 (some .boolean) 1 := ⟨⟨q_2028, q_2029, q_2030, q_140, q_2031⟩, rfl, ⟨by decide, by decide⟩, by decide +kernel⟩
theorem q_824 : Cond.methodLink R_law 147 yX10_again ∈ zTB := zmem 824 (by decide +kernel) rfl
theorem q_825 : Cond.instanceMethod yX10_again ∈ zTB := zmem 825 (by decide +kernel) rfl
theorem q_826 : Cond.selects RX10 yX10_again yX10_again ∈ zTB := zmem 826 (by decide +kernel) rfl
theorem q_827 : Cond.code yX10_again cX10_again 2 (some .boolean) ∈ zTB := zmem 827 (by decide +kernel) rfl
theorem k_R_law_147 : zLv R_law 147 RX10 yX10_again cX10_again 2 (some .boolean) 1 := ⟨⟨q_824, q_825, q_826, q_129, q_827⟩, rfl, ⟨by decide, by decide⟩, by decide +kernel⟩
theorem q_2039 : Cond.methodLink R_law 150 yX11_again ∈ zTB := zmem 2039 (by decide +kernel) rfl
theorem q_2040 : Cond.instanceMethod yX11_again ∈ zTB := zmem 2040 (by decide +kernel) rfl
theorem q_2041 : Cond.selects RX11 yX11_again yX11_again ∈ zTB := zmem 2041 (by decide +kernel) rfl
theorem q_2042 : Cond.code yX11_again cX11_again 2 (some .boolean) ∈ zTB := zmem 2042 (by decide +kernel) rfl
theorem k_R_law_150 : zLv R_law 150 RX11 yX11_again cX11_again 2 (some .boolean) 1 := ⟨⟨q_2039, q_2040, q_2041, q_140, q_2042⟩, rfl, ⟨by decide, by decide⟩, by decide +kernel⟩
theorem dW_1343 : decode code 1343 = .ok (.aload_n 1, 1) := by decide +kernel
theorem rW_1344 : rd5 1344 1 := by decide +kernel
theorem rW_1349 : rd5 1349 2 := by decide +kernel
theorem rW_1354 : rd5 1354 3 := by decide +kernel
theorem rW_1359 : rd5 1359 4 := by decide +kernel
theorem dW_1364 : decode code 1364 = .ok (.invokevirtual 117, 3) := by decide +kernel
theorem dW_1367 : decode code 1367 = .ok (.aload_n 2, 1) := by decide +kernel
theorem rW_1368 : rd5 1368 1 := by decide +kernel
theorem rW_1373 : rd5 1373 2 := by decide +kernel
theorem rW_1378 : rd5 1378 3 := by decide +kernel
theorem rW_1383 : rd5 1383 4 := by decide +kernel
theorem dW_1388 : decode code 1388 = .ok (.invokevirtual 120, 3) := by decide +kernel
theorem dW_1391 : decode code 1391 = .ok (.if_icmp .eq 324, 3) := by decide +kernel
theorem dW_1396 : decode code 1396 = .ok (.aload_n 1, 1) := by decide +kernel
theorem rW_1397 : rd5 1397 1 := by decide +kernel
theorem rW_1402 : rd5 1402 2 := by decide +kernel
theorem rW_1407 : rd5 1407 3 := by decide +kernel
theorem dW_1412 : decode code 1412 = .ok (.invokevirtual 121, 3) := by decide +kernel
theorem dW_1415 : decode code 1415 = .ok (.aload_n 2, 1) := by decide +kernel
theorem rW_1416 : rd5 1416 1 := by decide +kernel
theorem rW_1421 : rd5 1421 2 := by decide +kernel
theorem rW_1426 : rd5 1426 3 := by decide +kernel
theorem dW_1431 : decode code 1431 = .ok (.invokevirtual 124, 3) := by decide +kernel
theorem dW_1434 : decode code 1434 = .ok (.if_icmp .eq 281, 3) := by decide +kernel
theorem dW_1439 : decode code 1439 = .ok (.aload_n 1, 1) := by decide +kernel
theorem rW_1440 : rd5 1440 1 := by decide +kernel
theorem rW_1445 : rd5 1445 2 := by decide +kernel
theorem rW_1450 : rd5 1450 3 := by decide +kernel
theorem rW_1455 : rd5 1455 4 := by decide +kernel
theorem rW_1460 : rd5 1460 5 := by decide +kernel
theorem dW_1465 : decode code 1465 = .ok (.invokevirtual 125, 3) := by decide +kernel
theorem dW_1468 : decode code 1468 = .ok (.aload_n 2, 1) := by decide +kernel
theorem rW_1469 : rd5 1469 1 := by decide +kernel
theorem rW_1474 : rd5 1474 2 := by decide +kernel
theorem rW_1479 : rd5 1479 3 := by decide +kernel
theorem rW_1484 : rd5 1484 4 := by decide +kernel
theorem rW_1489 : rd5 1489 5 := by decide +kernel
theorem dW_1494 : decode code 1494 = .ok (.invokevirtual 128, 3) := by decide +kernel
theorem dW_1497 : decode code 1497 = .ok (.if_icmp .eq 218, 3) := by decide +kernel
theorem dW_1502 : decode code 1502 = .ok (.aload_n 1, 1) := by decide +kernel
theorem rW_1503 : rd5 1503 1 := by decide +kernel
theorem rW_1508 : rd5 1508 2 := by decide +kernel
theorem rW_1513 : rd5 1513 3 := by decide +kernel
theorem rW_1518 : rd5 1518 4 := by decide +kernel
theorem dW_1523 : decode code 1523 = .ok (.invokevirtual 129, 3) := by decide +kernel
theorem dW_1526 : decode code 1526 = .ok (.aload_n 2, 1) := by decide +kernel
theorem rW_1527 : rd5 1527 1 := by decide +kernel
theorem rW_1532 : rd5 1532 2 := by decide +kernel
theorem rW_1537 : rd5 1537 3 := by decide +kernel
theorem rW_1542 : rd5 1542 4 := by decide +kernel
theorem dW_1547 : decode code 1547 = .ok (.invokevirtual 132, 3) := by decide +kernel
theorem dW_1550 : decode code 1550 = .ok (.if_icmp .eq 165, 3) := by decide +kernel
theorem dW_1555 : decode code 1555 = .ok (.aload_n 1, 1) := by decide +kernel
theorem rW_1556 : rd5 1556 1 := by decide +kernel
theorem rW_1561 : rd5 1561 2 := by decide +kernel
theorem rW_1566 : rd5 1566 3 := by decide +kernel
theorem rW_1571 : rd5 1571 4 := by decide +kernel
theorem rW_1576 : rd5 1576 5 := by decide +kernel
theorem rW_1581 : rd6 1581 6 := by decide +kernel
theorem bW_1587 : bo8 1587 := by decide +kernel
theorem dW_1595 : decode code 1595 = .ok (.invokevirtual 133, 3) := by decide +kernel
theorem dW_1598 : decode code 1598 = .ok (.aload_n 2, 1) := by decide +kernel
theorem rW_1599 : rd5 1599 1 := by decide +kernel
theorem rW_1604 : rd5 1604 2 := by decide +kernel
theorem rW_1609 : rd5 1609 3 := by decide +kernel
theorem rW_1614 : rd5 1614 4 := by decide +kernel
theorem rW_1619 : rd5 1619 5 := by decide +kernel
theorem rW_1624 : rd6 1624 6 := by decide +kernel
theorem bW_1630 : bo8 1630 := by decide +kernel
theorem dW_1638 : decode code 1638 = .ok (.invokevirtual 137, 3) := by decide +kernel
theorem dW_1641 : decode code 1641 = .ok (.if_icmp .eq 74, 3) := by decide +kernel
theorem dW_1646 : decode code 1646 = .ok (.aload_n 1, 1) := by decide +kernel
theorem rW_1647 : rd5 1647 1 := by decide +kernel
theorem dW_1652 : decode code 1652 = .ok (.invokevirtual 138, 3) := by decide +kernel
theorem dW_1655 : decode code 1655 = .ok (.aload_n 2, 1) := by decide +kernel
theorem rW_1656 : rd5 1656 1 := by decide +kernel
theorem dW_1661 : decode code 1661 = .ok (.invokevirtual 141, 3) := by decide +kernel
theorem dW_1664 : decode code 1664 = .ok (.if_icmp .eq 51, 3) := by decide +kernel
theorem dW_1669 : decode code 1669 = .ok (.aload_n 1, 1) := by decide +kernel
theorem rW_1670 : rd5 1670 1 := by decide +kernel
theorem dW_1675 : decode code 1675 = .ok (.invokevirtual 142, 3) := by decide +kernel
theorem dW_1678 : decode code 1678 = .ok (.aload_n 2, 1) := by decide +kernel
theorem rW_1679 : rd5 1679 1 := by decide +kernel
theorem dW_1684 : decode code 1684 = .ok (.invokevirtual 146, 3) := by decide +kernel
theorem dW_1687 : decode code 1687 = .ok (.if_icmp .eq 28, 3) := by decide +kernel
theorem dW_1692 : decode code 1692 = .ok (.aload_n 1, 1) := by decide +kernel
theorem rW_1693 : rd5 1693 1 := by decide +kernel
theorem dW_1698 : decode code 1698 = .ok (.invokevirtual 147, 3) := by decide +kernel
theorem dW_1701 : decode code 1701 = .ok (.aload_n 2, 1) := by decide +kernel
theorem rW_1702 : rd5 1702 1 := by decide +kernel
theorem dW_1707 : decode code 1707 = .ok (.invokevirtual 150, 3) := by decide +kernel
theorem dW_1710 : decode code 1710 = .ok (.if_icmp .eq 5, 3) := by decide +kernel
set_option maxHeartbeats 4000000 in
theorem lc_24 {p : Program} {l : Launch} {e : Env} {s : State} {m : MethodId} {below : List Frame} {meth : Method} {c : Code} {H : Heap} {locs : List Loc} {cells slots : Nat} {Q : State → Prop} {ls : Array Slot} {D : va_G} {cy : Nat → ClassId} {sa : Nat → Nat} {kd len : Nat → Nat} {N b L i : Nat} {xs : Nat → Int32} {X Y : Nat → Int → Int} {R : Nat → Int → Option Nat} (C : zC p m c code 4 s #[Value.ref b] R_law D cy) (hE : zE D cy s.heap.size sa s) (hX : va_X b L xs s s.heap) (hb : b < s.heap.size) (hL : L ≤ 3584) (hi : i + 7 ≤ L) (hcs : cells + 1 ≤ 600000 ∧ slots + 20 ≤ 7302249) (hN : 288 ≤ N) (hG : ∀ n, 288 ≤ n → kd n = 14 ∧ len n = 20) (I : LI X) (hK : KW kd len R) (hH : zH D cy s.heap.size N kd len X Y R H) (hS : va_S (zA s.heap.size) s.heap H locs) (hl : lv_has ls 4 [(3, .int (zI (i : Int))), (2, .ref (s.heap.size + 262)), (1, .ref (s.heap.size + 0)), (0, .ref b)]) (kk : ∀ (N1 : Nat) (X1 Y1 : Nat → Int → Int) (R1 : Nat → Int → Option Nat) (H1 : Heap) (locs1 : List Loc), 288 ≤ N1 → LI X1 → KW kd len R1 → zH D cy s.heap.size N1 kd len X1 Y1 R1 H1 → va_S (zA s.heap.size) s.heap H1 locs1 → W p l e room_1 s m #[Value.ref b] below meth c H1 locs1 (cells + 1) (slots + 20) Q (F0 m 1715 ls [])) : W p l e room_1 s m #[Value.ref b] below meth c H locs cells slots Q (F0 m 1343 ls []) := by
  refine lv_aload_n C.1 C.2.1 dW_1343 rfl (lv_at hl 2 rfl) ?_
  refine lw_rd5 C hX hb hS (j := 1) rfl (by omega) hL hl rW_1344 ?_
  refine lw_rd5 C hX hb hS (j := 2) rfl (by omega) hL hl rW_1349 ?_
  refine lw_rd5 C hX hb hS (j := 3) rfl (by omega) hL hl rW_1354 ?_
  refine lw_rd5 C hX hb hS (j := 4) rfl (by omega) hL hl rW_1359 ?_
  refine zgoi (zrunV (As := [.int (zI (sv xs (i + 1))), .int (zI (sv xs (i + 2))), .int (zI (sv xs (i + 3))), .int (zI (sv xs (i + 4)))]) (rest := []) C hE hH hS hl.1 (c_X10_gain (l := l) (Z := X) (q := 262) (hK.1 N hN) (sv xs (i + 1)) (zI_rg _) (sv xs (i + 2)) (zI_rg _) (sv xs (i + 3)) (zI_rg _) (sv xs (i + 4)) (zI_rg _) (LI_q I)) k_R_law_117 ⟨Nat.le_of_ble_eq_true rfl, Nat.le_of_ble_eq_true rfl⟩ (zW_n (hK.1 N hN)) (zW_k (hK.1 N hN)) rfl rfl rfl (Nat.le_of_ble_eq_true rfl) dW_1364 ⟨by have := hcs.1; show cells ≤ 600000; omega, by have := hcs.2; show slots ≤ 7302249; omega⟩) hS (fun r1 X1 Y1 R1 H locs hr1 hq1 hH hS => ?_)
  obtain ⟨w1, e1, qk⟩ := hq1
  have I1 : LI X1 := LI_qK I qk
  have K1 : KW kd len R1 := KW_w (wcK_wg w1) hK
  have o := vAll_o I1.1.2
  refine lv_aload_n C.1 C.2.1 dW_1367 rfl (lv_at hl 1 rfl) ?_
  refine lw_rd5 C hX hb hS (j := 1) rfl (by omega) hL hl rW_1368 ?_
  refine lw_rd5 C hX hb hS (j := 2) rfl (by omega) hL hl rW_1373 ?_
  refine lw_rd5 C hX hb hS (j := 3) rfl (by omega) hL hl rW_1378 ?_
  refine lw_rd5 C hX hb hS (j := 4) rfl (by omega) hL hl rW_1383 ?_
  refine zgoi (zrunV (As := [.int (zI (sv xs (i + 1))), .int (zI (sv xs (i + 2))), .int (zI (sv xs (i + 3))), .int (zI (sv xs (i + 4)))]) (rest := [.int (zI r1)]) C hE hH hS hl.1 (c_X11_gain (l := l) (K1.2 N hN) (sv xs (i + 1)) (zI_rg _) (sv xs (i + 2)) (zI_rg _) (sv xs (i + 3)) (zI_rg _) (sv xs (i + 4)) (zI_rg _) o.1) k_R_law_120 ⟨Nat.le_of_ble_eq_true rfl, Nat.le_of_ble_eq_true rfl⟩ (zM_n0 (K1.2 N hN)) (zM_k0 (K1.2 N hN)) rfl rfl rfl (Nat.le_of_ble_eq_true rfl) dW_1388 ⟨by have := hcs.1; show cells ≤ 600000; omega, by have := hcs.2; show slots ≤ 7302249; omega⟩) hS (fun r2 X2 Y2 R2 H locs hr2 hq2 hH hS => ?_)
  have hz2 : R2 = R1 := hq2.1
  obtain ⟨e2, pk⟩ := hq2.2
  have I2 : LI X2 := LI_pK I1 pk
  have ef := rGain_o (i := 262) (X := X) (X1 := X1) (fun z hz => qk.1 z (Or.inr (by omega)))
  have er : r1 = r2 := by rw [e2, ef]; exact e1
  have K2 : KW kd len R2 := by rw [hz2]; exact K1
  refine zd_icmp_eq C hr1 hr2 1715 dW_1391 (by decide) (fun _ => ?_) (fun q => absurd er q)
  exact W_raise (Nat.le_add_right _ _) (Nat.le_add_right _ _) (kk N X2 Y2 R2 H locs hN I2 K2 hH hS)
set_option maxHeartbeats 4000000 in
theorem lc_25 {p : Program} {l : Launch} {e : Env} {s : State} {m : MethodId} {below : List Frame} {meth : Method} {c : Code} {H : Heap} {locs : List Loc} {cells slots : Nat} {Q : State → Prop} {ls : Array Slot} {D : va_G} {cy : Nat → ClassId} {sa : Nat → Nat} {kd len : Nat → Nat} {N b L i : Nat} {xs : Nat → Int32} {X Y : Nat → Int → Int} {R : Nat → Int → Option Nat} (C : zC p m c code 4 s #[Value.ref b] R_law D cy) (hE : zE D cy s.heap.size sa s) (hX : va_X b L xs s s.heap) (hb : b < s.heap.size) (hL : L ≤ 3584) (hi : i + 7 ≤ L) (hcs : cells + 1 ≤ 600000 ∧ slots + 20 ≤ 7302249) (hN : 288 ≤ N) (hG : ∀ n, 288 ≤ n → kd n = 14 ∧ len n = 20) (I : LI X) (hK : KW kd len R) (hH : zH D cy s.heap.size N kd len X Y R H) (hS : va_S (zA s.heap.size) s.heap H locs) (hl : lv_has ls 4 [(3, .int (zI (i : Int))), (2, .ref (s.heap.size + 262)), (1, .ref (s.heap.size + 0)), (0, .ref b)]) (kk : ∀ (N1 : Nat) (X1 Y1 : Nat → Int → Int) (R1 : Nat → Int → Option Nat) (H1 : Heap) (locs1 : List Loc), 288 ≤ N1 → LI X1 → KW kd len R1 → zH D cy s.heap.size N1 kd len X1 Y1 R1 H1 → va_S (zA s.heap.size) s.heap H1 locs1 → W p l e room_1 s m #[Value.ref b] below meth c H1 locs1 (cells + 1) (slots + 20) Q (F0 m 1715 ls [])) : W p l e room_1 s m #[Value.ref b] below meth c H locs cells slots Q (F0 m 1396 ls []) := by
  refine lv_aload_n C.1 C.2.1 dW_1396 rfl (lv_at hl 2 rfl) ?_
  refine lw_rd5 C hX hb hS (j := 1) rfl (by omega) hL hl rW_1397 ?_
  refine lw_rd5 C hX hb hS (j := 2) rfl (by omega) hL hl rW_1402 ?_
  refine lw_rd5 C hX hb hS (j := 3) rfl (by omega) hL hl rW_1407 ?_
  refine zgoi (zrunV (As := [.int (zI (sv xs (i + 1))), .int (zI (sv xs (i + 2))), .int (zI (sv xs (i + 3)))]) (rest := []) C hE hH hS hl.1 (c_X10_speed (l := l) (Z := X) (q := 262) (hK.1 N hN) (sv xs (i + 1)) (zI_rg _) (sv xs (i + 2)) (zI_rg _) (sv xs (i + 3)) (zI_rg _) (LI_q I)) k_R_law_121 ⟨Nat.le_of_ble_eq_true rfl, Nat.le_of_ble_eq_true rfl⟩ (zW_n (hK.1 N hN)) (zW_k (hK.1 N hN)) rfl rfl rfl (Nat.le_of_ble_eq_true rfl) dW_1412 ⟨by have := hcs.1; show cells ≤ 600000; omega, by have := hcs.2; show slots ≤ 7302249; omega⟩) hS (fun r1 X1 Y1 R1 H locs hr1 hq1 hH hS => ?_)
  obtain ⟨w1, e1, qk⟩ := hq1
  have I1 : LI X1 := LI_qK I qk
  have K1 : KW kd len R1 := KW_w (wcK_if w1) hK
  have o := vAll_o I1.1.2
  refine lv_aload_n C.1 C.2.1 dW_1415 rfl (lv_at hl 1 rfl) ?_
  refine lw_rd5 C hX hb hS (j := 1) rfl (by omega) hL hl rW_1416 ?_
  refine lw_rd5 C hX hb hS (j := 2) rfl (by omega) hL hl rW_1421 ?_
  refine lw_rd5 C hX hb hS (j := 3) rfl (by omega) hL hl rW_1426 ?_
  refine zgoi (zrunV (As := [.int (zI (sv xs (i + 1))), .int (zI (sv xs (i + 2))), .int (zI (sv xs (i + 3)))]) (rest := [.int (zI r1)]) C hE hH hS hl.1 (c_X11_speed (l := l) (K1.2 N hN) (sv xs (i + 1)) (zI_rg _) (sv xs (i + 2)) (zI_rg _) (sv xs (i + 3)) (zI_rg _) o.1) k_R_law_124 ⟨Nat.le_of_ble_eq_true rfl, Nat.le_of_ble_eq_true rfl⟩ (zM_n0 (K1.2 N hN)) (zM_k0 (K1.2 N hN)) rfl rfl rfl (Nat.le_of_ble_eq_true rfl) dW_1431 ⟨by have := hcs.1; show cells ≤ 600000; omega, by have := hcs.2; show slots ≤ 7302249; omega⟩) hS (fun r2 X2 Y2 R2 H locs hr2 hq2 hH hS => ?_)
  have hz2 : R2 = R1 := hq2.2.1
  obtain ⟨e2, pk⟩ := hq2.2.2
  have I2 : LI X2 := LI_pK I1 pk
  have ef := rSpeed_o (i := 262) (X := X) (X1 := X1) (fun z hz => qk.1 z (Or.inr (by omega)))
  have er : r1 = r2 := by rw [e2, ef]; exact e1
  have K2 : KW kd len R2 := by rw [hz2]; exact K1
  refine zd_icmp_eq C hr1 hr2 1715 dW_1434 (by decide) (fun _ => ?_) (fun q => absurd er q)
  exact W_raise (Nat.le_add_right _ _) (Nat.le_add_right _ _) (kk N X2 Y2 R2 H locs hN I2 K2 hH hS)
set_option maxHeartbeats 4000000 in
theorem lc_26 {p : Program} {l : Launch} {e : Env} {s : State} {m : MethodId} {below : List Frame} {meth : Method} {c : Code} {H : Heap} {locs : List Loc} {cells slots : Nat} {Q : State → Prop} {ls : Array Slot} {D : va_G} {cy : Nat → ClassId} {sa : Nat → Nat} {kd len : Nat → Nat} {N b L i : Nat} {xs : Nat → Int32} {X Y : Nat → Int → Int} {R : Nat → Int → Option Nat} (C : zC p m c code 4 s #[Value.ref b] R_law D cy) (hE : zE D cy s.heap.size sa s) (hX : va_X b L xs s s.heap) (hb : b < s.heap.size) (hL : L ≤ 3584) (hi : i + 7 ≤ L) (hcs : cells + 1 ≤ 600000 ∧ slots + 20 ≤ 7302249) (hN : 288 ≤ N) (hG : ∀ n, 288 ≤ n → kd n = 14 ∧ len n = 20) (I : LI X) (hK : KW kd len R) (hH : zH D cy s.heap.size N kd len X Y R H) (hS : va_S (zA s.heap.size) s.heap H locs) (hl : lv_has ls 4 [(3, .int (zI (i : Int))), (2, .ref (s.heap.size + 262)), (1, .ref (s.heap.size + 0)), (0, .ref b)]) (kk : ∀ (N1 : Nat) (X1 Y1 : Nat → Int → Int) (R1 : Nat → Int → Option Nat) (H1 : Heap) (locs1 : List Loc), 288 ≤ N1 → LI X1 → KW kd len R1 → zH D cy s.heap.size N1 kd len X1 Y1 R1 H1 → va_S (zA s.heap.size) s.heap H1 locs1 → W p l e room_1 s m #[Value.ref b] below meth c H1 locs1 (cells + 1) (slots + 20) Q (F0 m 1715 ls [])) : W p l e room_1 s m #[Value.ref b] below meth c H locs cells slots Q (F0 m 1439 ls []) := by
  refine lv_aload_n C.1 C.2.1 dW_1439 rfl (lv_at hl 2 rfl) ?_
  refine lw_rd5 C hX hb hS (j := 1) rfl (by omega) hL hl rW_1440 ?_
  refine lw_rd5 C hX hb hS (j := 2) rfl (by omega) hL hl rW_1445 ?_
  refine lw_rd5 C hX hb hS (j := 3) rfl (by omega) hL hl rW_1450 ?_
  refine lw_rd5 C hX hb hS (j := 4) rfl (by omega) hL hl rW_1455 ?_
  refine lw_rd5 C hX hb hS (j := 5) rfl (by omega) hL hl rW_1460 ?_
  refine zgoi (zrunV (As := [.int (zI (sv xs (i + 1))), .int (zI (sv xs (i + 2))), .int (zI (sv xs (i + 3))), .int (zI (sv xs (i + 4))), .int (zI (sv xs (i + 5)))]) (rest := []) C hE hH hS hl.1 (c_X10_twice (l := l) (Z := X) (q := 262) (hK.1 N hN) (sv xs (i + 1)) (zI_rg _) (sv xs (i + 2)) (zI_rg _) (sv xs (i + 3)) (zI_rg _) (sv xs (i + 4)) (zI_rg _) (sv xs (i + 5)) (zI_rg _) (LI_q I)) k_R_law_125 ⟨Nat.le_of_ble_eq_true rfl, Nat.le_of_ble_eq_true rfl⟩ (zW_n (hK.1 N hN)) (zW_k (hK.1 N hN)) rfl rfl rfl (Nat.le_of_ble_eq_true rfl) dW_1465 ⟨by have := hcs.1; show cells ≤ 600000; omega, by have := hcs.2; show slots ≤ 7302249; omega⟩) hS (fun r1 X1 Y1 R1 H locs hr1 hq1 hH hS => ?_)
  obtain ⟨w1, e1, qk⟩ := hq1
  have I1 : LI X1 := LI_qK I qk
  have K1 : KW kd len R1 := KW_w (wcK_wg w1) hK
  have o := vAll_o I1.1.2
  refine lv_aload_n C.1 C.2.1 dW_1468 rfl (lv_at hl 1 rfl) ?_
  refine lw_rd5 C hX hb hS (j := 1) rfl (by omega) hL hl rW_1469 ?_
  refine lw_rd5 C hX hb hS (j := 2) rfl (by omega) hL hl rW_1474 ?_
  refine lw_rd5 C hX hb hS (j := 3) rfl (by omega) hL hl rW_1479 ?_
  refine lw_rd5 C hX hb hS (j := 4) rfl (by omega) hL hl rW_1484 ?_
  refine lw_rd5 C hX hb hS (j := 5) rfl (by omega) hL hl rW_1489 ?_
  refine zgoi (zrunV (As := [.int (zI (sv xs (i + 1))), .int (zI (sv xs (i + 2))), .int (zI (sv xs (i + 3))), .int (zI (sv xs (i + 4))), .int (zI (sv xs (i + 5)))]) (rest := [.int (zI r1)]) C hE hH hS hl.1 (c_X11_twice (l := l) (K1.2 N hN) (sv xs (i + 1)) (zI_rg _) (sv xs (i + 2)) (zI_rg _) (sv xs (i + 3)) (zI_rg _) (sv xs (i + 4)) (zI_rg _) (sv xs (i + 5)) (zI_rg _) o.1) k_R_law_128 ⟨Nat.le_of_ble_eq_true rfl, Nat.le_of_ble_eq_true rfl⟩ (zM_n0 (K1.2 N hN)) (zM_k0 (K1.2 N hN)) rfl rfl rfl (Nat.le_of_ble_eq_true rfl) dW_1494 ⟨by have := hcs.1; show cells ≤ 600000; omega, by have := hcs.2; show slots ≤ 7302249; omega⟩) hS (fun r2 X2 Y2 R2 H locs hr2 hq2 hH hS => ?_)
  have hz2 : R2 = R1 := hq2.1
  obtain ⟨e2, pk⟩ := hq2.2
  have I2 : LI X2 := LI_pK I1 pk
  have ef := rTwice_o (i := 262) (X := X) (X1 := X1) (fun z hz => qk.1 z (Or.inr (by omega)))
  have er : r1 = r2 := by rw [e2, ef]; exact e1
  have K2 : KW kd len R2 := by rw [hz2]; exact K1
  refine zd_icmp_eq C hr1 hr2 1715 dW_1497 (by decide) (fun _ => ?_) (fun q => absurd er q)
  exact W_raise (Nat.le_add_right _ _) (Nat.le_add_right _ _) (kk N X2 Y2 R2 H locs hN I2 K2 hH hS)
set_option maxHeartbeats 4000000 in
theorem lc_27 {p : Program} {l : Launch} {e : Env} {s : State} {m : MethodId} {below : List Frame} {meth : Method} {c : Code} {H : Heap} {locs : List Loc} {cells slots : Nat} {Q : State → Prop} {ls : Array Slot} {D : va_G} {cy : Nat → ClassId} {sa : Nat → Nat} {kd len : Nat → Nat} {N b L i : Nat} {xs : Nat → Int32} {X Y : Nat → Int → Int} {R : Nat → Int → Option Nat} (C : zC p m c code 4 s #[Value.ref b] R_law D cy) (hE : zE D cy s.heap.size sa s) (hX : va_X b L xs s s.heap) (hb : b < s.heap.size) (hL : L ≤ 3584) (hi : i + 7 ≤ L) (hcs : cells + 1 ≤ 600000 ∧ slots + 20 ≤ 7302249) (hN : 288 ≤ N) (hG : ∀ n, 288 ≤ n → kd n = 14 ∧ len n = 20) (I : LI X) (hK : KW kd len R) (hH : zH D cy s.heap.size N kd len X Y R H) (hS : va_S (zA s.heap.size) s.heap H locs) (hl : lv_has ls 4 [(3, .int (zI (i : Int))), (2, .ref (s.heap.size + 262)), (1, .ref (s.heap.size + 0)), (0, .ref b)]) (kk : ∀ (N1 : Nat) (X1 Y1 : Nat → Int → Int) (R1 : Nat → Int → Option Nat) (H1 : Heap) (locs1 : List Loc), 288 ≤ N1 → LI X1 → KW kd len R1 → zH D cy s.heap.size N1 kd len X1 Y1 R1 H1 → va_S (zA s.heap.size) s.heap H1 locs1 → W p l e room_1 s m #[Value.ref b] below meth c H1 locs1 (cells + 1) (slots + 20) Q (F0 m 1715 ls [])) : W p l e room_1 s m #[Value.ref b] below meth c H locs cells slots Q (F0 m 1502 ls []) := by
  refine lv_aload_n C.1 C.2.1 dW_1502 rfl (lv_at hl 2 rfl) ?_
  refine lw_rd5 C hX hb hS (j := 1) rfl (by omega) hL hl rW_1503 ?_
  refine lw_rd5 C hX hb hS (j := 2) rfl (by omega) hL hl rW_1508 ?_
  refine lw_rd5 C hX hb hS (j := 3) rfl (by omega) hL hl rW_1513 ?_
  refine lw_rd5 C hX hb hS (j := 4) rfl (by omega) hL hl rW_1518 ?_
  refine zgoi (zrunV (As := [.int (zI (sv xs (i + 1))), .int (zI (sv xs (i + 2))), .int (zI (sv xs (i + 3))), .int (zI (sv xs (i + 4)))]) (rest := []) C hE hH hS hl.1 (c_X10_after (l := l) (Z := X) (q := 262) (hK.1 N hN) (sv xs (i + 1)) (zI_rg _) (sv xs (i + 2)) (zI_rg _) (sv xs (i + 3)) (zI_rg _) (sv xs (i + 4)) (zI_rg _) (LI_q I)) k_R_law_129 ⟨Nat.le_of_ble_eq_true rfl, Nat.le_of_ble_eq_true rfl⟩ (zW_n (hK.1 N hN)) (zW_k (hK.1 N hN)) rfl rfl rfl (Nat.le_of_ble_eq_true rfl) dW_1523 ⟨by have := hcs.1; show cells ≤ 600000; omega, by have := hcs.2; show slots ≤ 7302249; omega⟩) hS (fun r1 X1 Y1 R1 H locs hr1 hq1 hH hS => ?_)
  obtain ⟨w1, e1, qk⟩ := hq1
  have I1 : LI X1 := LI_qK I qk
  have K1 : KW kd len R1 := KW_w (wcK_wf w1) hK
  have o := vAll_o I1.1.2
  refine lv_aload_n C.1 C.2.1 dW_1526 rfl (lv_at hl 1 rfl) ?_
  refine lw_rd5 C hX hb hS (j := 1) rfl (by omega) hL hl rW_1527 ?_
  refine lw_rd5 C hX hb hS (j := 2) rfl (by omega) hL hl rW_1532 ?_
  refine lw_rd5 C hX hb hS (j := 3) rfl (by omega) hL hl rW_1537 ?_
  refine lw_rd5 C hX hb hS (j := 4) rfl (by omega) hL hl rW_1542 ?_
  refine zgoi (zrunV (As := [.int (zI (sv xs (i + 1))), .int (zI (sv xs (i + 2))), .int (zI (sv xs (i + 3))), .int (zI (sv xs (i + 4)))]) (rest := [.int (zI r1)]) C hE hH hS hl.1 (c_X11_after (l := l) (K1.2 N hN) (sv xs (i + 1)) (zI_rg _) (sv xs (i + 2)) (zI_rg _) (sv xs (i + 3)) (zI_rg _) (sv xs (i + 4)) (zI_rg _) ⟨o.1, o.2.1⟩) k_R_law_132 ⟨Nat.le_of_ble_eq_true rfl, Nat.le_of_ble_eq_true rfl⟩ (zM_n0 (K1.2 N hN)) (zM_k0 (K1.2 N hN)) rfl rfl rfl (Nat.le_of_ble_eq_true rfl) dW_1547 ⟨by have := hcs.1; show cells ≤ 600000; omega, by have := hcs.2; show slots ≤ 7302249; omega⟩) hS (fun r2 X2 Y2 R2 H locs hr2 hq2 hH hS => ?_)
  have hz2 : R2 = R1 := hq2.1
  obtain ⟨e2, pk⟩ := hq2.2
  have I2 : LI X2 := LI_pK I1 pk
  have ef := rAfter_o (i := 262) (X := X) (X1 := X1) (fun z hz => qk.1 z (Or.inr (by omega)))
  have er : r1 = r2 := by rw [e2, ef]; exact e1
  have K2 : KW kd len R2 := by rw [hz2]; exact K1
  refine zd_icmp_eq C hr1 hr2 1715 dW_1550 (by decide) (fun _ => ?_) (fun q => absurd er q)
  exact W_raise (Nat.le_add_right _ _) (Nat.le_add_right _ _) (kk N X2 Y2 R2 H locs hN I2 K2 hH hS)
set_option maxHeartbeats 4000000 in
theorem lc_28 {p : Program} {l : Launch} {e : Env} {s : State} {m : MethodId} {below : List Frame} {meth : Method} {c : Code} {H : Heap} {locs : List Loc} {cells slots : Nat} {Q : State → Prop} {ls : Array Slot} {D : va_G} {cy : Nat → ClassId} {sa : Nat → Nat} {kd len : Nat → Nat} {N b L i : Nat} {xs : Nat → Int32} {X Y : Nat → Int → Int} {R : Nat → Int → Option Nat} (C : zC p m c code 4 s #[Value.ref b] R_law D cy) (hE : zE D cy s.heap.size sa s) (hX : va_X b L xs s s.heap) (hb : b < s.heap.size) (hL : L ≤ 3584) (hi : i + 7 ≤ L) (hcs : cells + 1 ≤ 600000 ∧ slots + 20 ≤ 7302249) (hN : 288 ≤ N) (hG : ∀ n, 288 ≤ n → kd n = 14 ∧ len n = 20) (I : LI X) (hK : KW kd len R) (hH : zH D cy s.heap.size N kd len X Y R H) (hS : va_S (zA s.heap.size) s.heap H locs) (hl : lv_has ls 4 [(3, .int (zI (i : Int))), (2, .ref (s.heap.size + 262)), (1, .ref (s.heap.size + 0)), (0, .ref b)]) (kk : ∀ (N1 : Nat) (X1 Y1 : Nat → Int → Int) (R1 : Nat → Int → Option Nat) (H1 : Heap) (locs1 : List Loc), 288 ≤ N1 → LI X1 → KW kd len R1 → zH D cy s.heap.size N1 kd len X1 Y1 R1 H1 → va_S (zA s.heap.size) s.heap H1 locs1 → W p l e room_1 s m #[Value.ref b] below meth c H1 locs1 (cells + 1) (slots + 20) Q (F0 m 1715 ls [])) : W p l e room_1 s m #[Value.ref b] below meth c H locs cells slots Q (F0 m 1555 ls []) := by
  refine lv_aload_n C.1 C.2.1 dW_1555 rfl (lv_at hl 2 rfl) ?_
  refine lw_rd5 C hX hb hS (j := 1) rfl (by omega) hL hl rW_1556 ?_
  refine lw_rd5 C hX hb hS (j := 2) rfl (by omega) hL hl rW_1561 ?_
  refine lw_rd5 C hX hb hS (j := 3) rfl (by omega) hL hl rW_1566 ?_
  refine lw_rd5 C hX hb hS (j := 4) rfl (by omega) hL hl rW_1571 ?_
  refine lw_rd5 C hX hb hS (j := 5) rfl (by omega) hL hl rW_1576 ?_
  refine lw_rd6 C hX hb hS (j := 6) rfl (by omega) hL hl rW_1581 (by decide) ?_
  refine lw_bo C (zI_rg _) bW_1587 ?_
  refine zgoi (zrunV (As := [.int (zI (sv xs (i + 1))), .int (zI (sv xs (i + 2))), .int (zI (sv xs (i + 3))), .int (zI (sv xs (i + 4))), .int (zI (sv xs (i + 5))), .int (zI (bz (decide (sv xs (i + 6) ≠ 0))))]) (rest := []) C hE hH hS hl.1 (c_X10_odds (l := l) (Z := X) (q := 262) (hK.1 N hN) (sv xs (i + 1)) (zI_rg _) (sv xs (i + 2)) (zI_rg _) (sv xs (i + 3)) (zI_rg _) (sv xs (i + 4)) (zI_rg _) (sv xs (i + 5)) (zI_rg _) (decide (sv xs (i + 6) ≠ 0)) (LI_q I)) k_R_law_133 ⟨Nat.le_of_ble_eq_true rfl, Nat.le_of_ble_eq_true rfl⟩ (zW_n (hK.1 N hN)) (zW_k (hK.1 N hN)) rfl rfl rfl (Nat.le_of_ble_eq_true rfl) dW_1595 ⟨by have := hcs.1; show cells ≤ 600000; omega, by have := hcs.2; show slots ≤ 7302249; omega⟩) hS (fun r1 X1 Y1 R1 H locs hr1 hq1 hH hS => ?_)
  obtain ⟨w1, e1, qk⟩ := hq1
  have I1 : LI X1 := LI_qK I qk
  have K1 : KW kd len R1 := KW_w ( w1) hK
  have o := vAll_o I1.1.2
  refine lv_aload_n C.1 C.2.1 dW_1598 rfl (lv_at hl 1 rfl) ?_
  refine lw_rd5 C hX hb hS (j := 1) rfl (by omega) hL hl rW_1599 ?_
  refine lw_rd5 C hX hb hS (j := 2) rfl (by omega) hL hl rW_1604 ?_
  refine lw_rd5 C hX hb hS (j := 3) rfl (by omega) hL hl rW_1609 ?_
  refine lw_rd5 C hX hb hS (j := 4) rfl (by omega) hL hl rW_1614 ?_
  refine lw_rd5 C hX hb hS (j := 5) rfl (by omega) hL hl rW_1619 ?_
  refine lw_rd6 C hX hb hS (j := 6) rfl (by omega) hL hl rW_1624 (by decide) ?_
  refine lw_bo C (zI_rg _) bW_1630 ?_
  refine zgoi (zrunV (As := [.int (zI (sv xs (i + 1))), .int (zI (sv xs (i + 2))), .int (zI (sv xs (i + 3))), .int (zI (sv xs (i + 4))), .int (zI (sv xs (i + 5))), .int (zI (bz (decide (sv xs (i + 6) ≠ 0))))]) (rest := [.int (zI r1)]) C hE hH hS hl.1 (c_X11_odds (l := l) (K1.2 N hN) (sv xs (i + 1)) (zI_rg _) (sv xs (i + 2)) (zI_rg _) (sv xs (i + 3)) (zI_rg _) (sv xs (i + 4)) (zI_rg _) (sv xs (i + 5)) (zI_rg _) (decide (sv xs (i + 6) ≠ 0)) ⟨o.1, o.2.1, o.2.2.1⟩) k_R_law_137 ⟨Nat.le_of_ble_eq_true rfl, Nat.le_of_ble_eq_true rfl⟩ (zM_n0 (K1.2 N hN)) (zM_k0 (K1.2 N hN)) rfl rfl rfl (Nat.le_of_ble_eq_true rfl) dW_1638 ⟨by have := hcs.1; show cells ≤ 600000; omega, by have := hcs.2; show slots ≤ 7302249; omega⟩) hS (fun r2 X2 Y2 R2 H locs hr2 hq2 hH hS => ?_)
  have hz2 : R2 = R1 := hq2.1
  obtain ⟨e2, pk⟩ := hq2.2
  have I2 : LI X2 := LI_pK I1 pk
  have ef := rOdds_o (i := 262) (X := X) (X1 := X1) (fun z hz => qk.1 z (Or.inr (by omega)))
  have er : r1 = r2 := by rw [e2, ef]; exact e1
  have K2 : KW kd len R2 := by rw [hz2]; exact K1
  refine zd_icmp_eq C hr1 hr2 1715 dW_1641 (by decide) (fun _ => ?_) (fun q => absurd er q)
  exact W_raise (Nat.le_add_right _ _) (Nat.le_add_right _ _) (kk N X2 Y2 R2 H locs hN I2 K2 hH hS)
set_option maxHeartbeats 4000000 in
theorem lc_29 {p : Program} {l : Launch} {e : Env} {s : State} {m : MethodId} {below : List Frame} {meth : Method} {c : Code} {H : Heap} {locs : List Loc} {cells slots : Nat} {Q : State → Prop} {ls : Array Slot} {D : va_G} {cy : Nat → ClassId} {sa : Nat → Nat} {kd len : Nat → Nat} {N b L i : Nat} {xs : Nat → Int32} {X Y : Nat → Int → Int} {R : Nat → Int → Option Nat} (C : zC p m c code 4 s #[Value.ref b] R_law D cy) (hE : zE D cy s.heap.size sa s) (hX : va_X b L xs s s.heap) (hb : b < s.heap.size) (hL : L ≤ 3584) (hi : i + 7 ≤ L) (hcs : cells + 1 ≤ 600000 ∧ slots + 20 ≤ 7302249) (hN : 288 ≤ N) (hG : ∀ n, 288 ≤ n → kd n = 14 ∧ len n = 20) (I : LI X) (hK : KW kd len R) (hH : zH D cy s.heap.size N kd len X Y R H) (hS : va_S (zA s.heap.size) s.heap H locs) (hl : lv_has ls 4 [(3, .int (zI (i : Int))), (2, .ref (s.heap.size + 262)), (1, .ref (s.heap.size + 0)), (0, .ref b)]) (kk : ∀ (N1 : Nat) (X1 Y1 : Nat → Int → Int) (R1 : Nat → Int → Option Nat) (H1 : Heap) (locs1 : List Loc), 288 ≤ N1 → LI X1 → KW kd len R1 → zH D cy s.heap.size N1 kd len X1 Y1 R1 H1 → va_S (zA s.heap.size) s.heap H1 locs1 → W p l e room_1 s m #[Value.ref b] below meth c H1 locs1 (cells + 1) (slots + 20) Q (F0 m 1715 ls [])) : W p l e room_1 s m #[Value.ref b] below meth c H locs cells slots Q (F0 m 1646 ls []) := by
  refine lv_aload_n C.1 C.2.1 dW_1646 rfl (lv_at hl 2 rfl) ?_
  refine lw_rd5 C hX hb hS (j := 1) rfl (by omega) hL hl rW_1647 ?_
  refine zgoi (zrunV (As := [.int (zI (sv xs (i + 1)))]) (rest := []) C hE hH hS hl.1 (c_X10_count (l := l) (Z := X) (q := 262) (hK.1 N hN) (sv xs (i + 1)) (zI_rg _) (LI_q I)) k_R_law_138 ⟨Nat.le_of_ble_eq_true rfl, Nat.le_of_ble_eq_true rfl⟩ (zW_n (hK.1 N hN)) (zW_k (hK.1 N hN)) rfl rfl rfl (Nat.le_of_ble_eq_true rfl) dW_1652 ⟨by have := hcs.1; show cells ≤ 600000; omega, by have := hcs.2; show slots ≤ 7302249; omega⟩) hS (fun r1 X1 Y1 R1 H locs hr1 hq1 hH hS => ?_)
  obtain ⟨e1, hq⟩ := hq1
  have hx : X1 = X := congrArg (fun z => z.1) hq
  have hy : Y1 = Y := congrArg (fun z => z.2.1) hq
  have hz : R1 = R := congrArg (fun z => z.2.2) hq
  rw [hx, hy, hz] at hH
  have o := vAll_o I.1.2
  refine lv_aload_n C.1 C.2.1 dW_1655 rfl (lv_at hl 1 rfl) ?_
  refine lw_rd5 C hX hb hS (j := 1) rfl (by omega) hL hl rW_1656 ?_
  refine zgoi (zrunV (As := [.int (zI (sv xs (i + 1)))]) (rest := [.int (zI r1)]) C hE hH hS hl.1 (c_X11_count (l := l) (hK.2 N hN) (sv xs (i + 1)) (zI_rg _) o.1) k_R_law_141 ⟨Nat.le_of_ble_eq_true rfl, Nat.le_of_ble_eq_true rfl⟩ (zM_n0 (hK.2 N hN)) (zM_k0 (hK.2 N hN)) rfl rfl rfl (Nat.le_of_ble_eq_true rfl) dW_1661 ⟨by have := hcs.1; show cells ≤ 600000; omega, by have := hcs.2; show slots ≤ 7302249; omega⟩) hS (fun r2 X2 Y2 R2 H locs hr2 hq2 hH hS => ?_)
  have hz2 : R2 = R := hq2.2.1
  obtain ⟨e2, pk⟩ := hq2.2.2
  have I2 : LI X2 := LI_pK I pk
  have er : r1 = r2 := e1.trans e2.symm
  have K2 : KW kd len R2 := by rw [hz2]; exact hK
  refine zd_icmp_eq C hr1 hr2 1715 dW_1664 (by decide) (fun _ => ?_) (fun q => absurd er q)
  exact W_raise (Nat.le_add_right _ _) (Nat.le_add_right _ _) (kk N X2 Y2 R2 H locs hN I2 K2 hH hS)
set_option maxHeartbeats 4000000 in
theorem lc_30 {p : Program} {l : Launch} {e : Env} {s : State} {m : MethodId} {below : List Frame} {meth : Method} {c : Code} {H : Heap} {locs : List Loc} {cells slots : Nat} {Q : State → Prop} {ls : Array Slot} {D : va_G} {cy : Nat → ClassId} {sa : Nat → Nat} {kd len : Nat → Nat} {N b L i : Nat} {xs : Nat → Int32} {X Y : Nat → Int → Int} {R : Nat → Int → Option Nat} (C : zC p m c code 4 s #[Value.ref b] R_law D cy) (hE : zE D cy s.heap.size sa s) (hX : va_X b L xs s s.heap) (hb : b < s.heap.size) (hL : L ≤ 3584) (hi : i + 7 ≤ L) (hcs : cells + 1 ≤ 600000 ∧ slots + 20 ≤ 7302249) (hN : 288 ≤ N) (hG : ∀ n, 288 ≤ n → kd n = 14 ∧ len n = 20) (I : LI X) (hK : KW kd len R) (hH : zH D cy s.heap.size N kd len X Y R H) (hS : va_S (zA s.heap.size) s.heap H locs) (hl : lv_has ls 4 [(3, .int (zI (i : Int))), (2, .ref (s.heap.size + 262)), (1, .ref (s.heap.size + 0)), (0, .ref b)]) (kk : ∀ (N1 : Nat) (X1 Y1 : Nat → Int → Int) (R1 : Nat → Int → Option Nat) (H1 : Heap) (locs1 : List Loc), 288 ≤ N1 → LI X1 → KW kd len R1 → zH D cy s.heap.size N1 kd len X1 Y1 R1 H1 → va_S (zA s.heap.size) s.heap H1 locs1 → W p l e room_1 s m #[Value.ref b] below meth c H1 locs1 (cells + 1) (slots + 20) Q (F0 m 1715 ls [])) : W p l e room_1 s m #[Value.ref b] below meth c H locs cells slots Q (F0 m 1669 ls []) := by
  refine lv_aload_n C.1 C.2.1 dW_1669 rfl (lv_at hl 2 rfl) ?_
  refine lw_rd5 C hX hb hS (j := 1) rfl (by omega) hL hl rW_1670 ?_
  refine zgoi (zrunV (As := [.int (zI (sv xs (i + 1)))]) (rest := []) C hE hH hS hl.1 (c_X10_image (l := l) (hK.1 N hN) (sv xs (i + 1)) (zI_rg _) I.2.2.2.1.1) k_R_law_142 ⟨Nat.le_of_ble_eq_true rfl, Nat.le_of_ble_eq_true rfl⟩ (zW_n (hK.1 N hN)) (zW_k (hK.1 N hN)) rfl rfl rfl (Nat.le_of_ble_eq_true rfl) dW_1675 ⟨by have := hcs.1; show cells ≤ 600000; omega, by have := hcs.2; show slots ≤ 7302249; omega⟩) hS (fun r1 X1 Y1 R1 H locs hr1 hq1 hH hS => ?_)
  have hz : R1 = R := hq1.2.1
  have k1 := hq1.2.2
  rw [hz] at hH
  have fr := image_o k1
  refine lv_aload_n C.1 C.2.1 dW_1678 rfl (lv_at hl 1 rfl) ?_
  refine lw_rd5 C hX hb hS (j := 1) rfl (by omega) hL hl rW_1679 ?_
  refine zgoi (zrunV (As := [.int (zI (sv xs (i + 1)))]) (rest := [.int (zI r1)]) C hE hH hS hl.1 (c_X11_image (l := l) (hK.2 N hN) (sv xs (i + 1)) (zI_rg _) (oTb_o fr I.2.2.2.1.2.2)) k_R_law_146 ⟨Nat.le_of_ble_eq_true rfl, Nat.le_of_ble_eq_true rfl⟩ (zM_n0 (hK.2 N hN)) (zM_k0 (hK.2 N hN)) rfl rfl rfl (Nat.le_of_ble_eq_true rfl) dW_1684 ⟨by have := hcs.1; show cells ≤ 600000; omega, by have := hcs.2; show slots ≤ 7302249; omega⟩) hS (fun r2 X2 Y2 R2 H locs hr2 hq2 hH hS => ?_)
  have hz2 : R2 = R := hq2.2.1
  obtain ⟨er, I2⟩ := LI_image I k1 hq2.2.2
  have K2 : KW kd len R2 := by rw [hz2]; exact hK
  refine zd_icmp_eq C hr1 hr2 1715 dW_1687 (by decide) (fun _ => ?_) (fun q => absurd er q)
  exact W_raise (Nat.le_add_right _ _) (Nat.le_add_right _ _) (kk N X2 Y2 R2 H locs hN I2 K2 hH hS)
set_option maxHeartbeats 4000000 in
theorem lc_31 {p : Program} {l : Launch} {e : Env} {s : State} {m : MethodId} {below : List Frame} {meth : Method} {c : Code} {H : Heap} {locs : List Loc} {cells slots : Nat} {Q : State → Prop} {ls : Array Slot} {D : va_G} {cy : Nat → ClassId} {sa : Nat → Nat} {kd len : Nat → Nat} {N b L i : Nat} {xs : Nat → Int32} {X Y : Nat → Int → Int} {R : Nat → Int → Option Nat} (C : zC p m c code 4 s #[Value.ref b] R_law D cy) (hE : zE D cy s.heap.size sa s) (hX : va_X b L xs s s.heap) (hb : b < s.heap.size) (hL : L ≤ 3584) (hi : i + 7 ≤ L) (hcs : cells + 1 ≤ 600000 ∧ slots + 20 ≤ 7302249) (hN : 288 ≤ N) (hG : ∀ n, 288 ≤ n → kd n = 14 ∧ len n = 20) (I : LI X) (hK : KW kd len R) (hH : zH D cy s.heap.size N kd len X Y R H) (hS : va_S (zA s.heap.size) s.heap H locs) (hl : lv_has ls 4 [(3, .int (zI (i : Int))), (2, .ref (s.heap.size + 262)), (1, .ref (s.heap.size + 0)), (0, .ref b)]) (kk : ∀ (N1 : Nat) (X1 Y1 : Nat → Int → Int) (R1 : Nat → Int → Option Nat) (H1 : Heap) (locs1 : List Loc), 288 ≤ N1 → LI X1 → KW kd len R1 → zH D cy s.heap.size N1 kd len X1 Y1 R1 H1 → va_S (zA s.heap.size) s.heap H1 locs1 → W p l e room_1 s m #[Value.ref b] below meth c H1 locs1 (cells + 1) (slots + 20) Q (F0 m 1715 ls [])) : W p l e room_1 s m #[Value.ref b] below meth c H locs cells slots Q (F0 m 1692 ls []) := by
  refine lv_aload_n C.1 C.2.1 dW_1692 rfl (lv_at hl 2 rfl) ?_
  refine lw_rd5 C hX hb hS (j := 1) rfl (by omega) hL hl rW_1693 ?_
  refine zgoi (zrunV (As := [.int (zI (sv xs (i + 1)))]) (rest := []) C hE hH hS hl.1 (c_X10_again (l := l) (hK.1 N hN) (sv xs (i + 1)) (zI_rg _) (LI_at I)) k_R_law_147 ⟨Nat.le_of_ble_eq_true rfl, Nat.le_of_ble_eq_true rfl⟩ (zW_n (hK.1 N hN)) (zW_k (hK.1 N hN)) rfl rfl rfl (Nat.le_of_ble_eq_true rfl) dW_1698 ⟨by have := hcs.1; show cells ≤ 600000; omega, by have := hcs.2; show slots ≤ 7302249; omega⟩) hS (fun r1 X1 Y1 R1 H locs hr1 hq1 hH hS => ?_)
  have hz : R1 = R := hq1.2.1
  have k1 := hq1.2.2
  rw [hz] at hH
  have fr := again_o k1
  refine lv_aload_n C.1 C.2.1 dW_1701 rfl (lv_at hl 1 rfl) ?_
  refine lw_rd5 C hX hb hS (j := 1) rfl (by omega) hL hl rW_1702 ?_
  refine zgoi (zrunV (As := [.int (zI (sv xs (i + 1)))]) (rest := [.int (zI r1)]) C hE hH hS hl.1 (c_X11_again (l := l) (hK.2 N hN) (sv xs (i + 1)) (zI_rg _) (oTb_o fr I.2.2.2.1.2.2)) k_R_law_150 ⟨Nat.le_of_ble_eq_true rfl, Nat.le_of_ble_eq_true rfl⟩ (zM_n0 (hK.2 N hN)) (zM_k0 (hK.2 N hN)) rfl rfl rfl (Nat.le_of_ble_eq_true rfl) dW_1707 ⟨by have := hcs.1; show cells ≤ 600000; omega, by have := hcs.2; show slots ≤ 7302249; omega⟩) hS (fun r2 X2 Y2 R2 H locs hr2 hq2 hH hS => ?_)
  have hz2 : R2 = R := hq2.2.1
  obtain ⟨er, I2⟩ := LI_again I k1 hq2.2.2
  have K2 : KW kd len R2 := by rw [hz2]; exact hK
  refine zd_icmp_eq C hr1 hr2 1715 dW_1710 (by decide) (fun _ => ?_) (fun q => absurd er q)
  exact W_raise (Nat.le_add_right _ _) (Nat.le_add_right _ _) (kk N X2 Y2 R2 H locs hN I2 K2 hH hS)
