/-! THE LAW: cases 0 to 7 -/
theorem q_597 : Cond.methodLink R_law 13 yX10_feed ∈ zTB := zmem 597 (by decide +kernel) rfl
theorem q_598 : Cond.instanceMethod yX10_feed ∈ zTB := zmem 598 (by decide +kernel) rfl
theorem q_599 : Cond.selects RX10 yX10_feed yX10_feed ∈ zTB := zmem 599 (by decide +kernel) rfl
theorem q_600 : Cond.code yX10_feed cX10_feed 6 (some .int) ∈ zTB := zmem 600 (by decide +kernel) rfl
theorem k_R_law_13 : zLv R_law 13 RX10 yX10_feed cX10_feed 6 (some .int) 5 := ⟨⟨q_597, q_598, q_599, q_129, q_600⟩, rfl, ⟨by decide, by decide⟩, by decide +kernel⟩
theorem q_1486 : Cond.methodLink R_law 17 yX11_feed ∈ zTB := zmem 1486 (by decide +kernel) rfl
theorem q_1487 : Cond.instanceMethod yX11_feed ∈ zTB := zmem 1487 (by decide +kernel) rfl
theorem q_1488 : Cond.selects RX11 yX11_feed yX11_feed ∈ zTB := zmem 1488 (by decide +kernel) rfl
theorem q_1489 : Cond.code yX11_feed cX11_feed 6 (some .int) ∈ zTB := zmem 1489 (by decide +kernel) rfl
theorem k_R_law_17 : zLv R_law 17 RX11 yX11_feed cX11_feed 6 (some .int) 5 := ⟨⟨q_1486, q_1487, q_1488, q_140, q_1489⟩, rfl, ⟨by decide, by decide⟩, by decide +kernel⟩
theorem q_605 : Cond.methodLink R_law 18 yX10_end ∈ zTB := zmem 605 (by decide +kernel) rfl
theorem q_606 : Cond.instanceMethod yX10_end ∈ zTB := zmem 606 (by decide +kernel) rfl
theorem q_607 : Cond.selects RX10 yX10_end yX10_end ∈ zTB := zmem 607 (by decide +kernel) rfl
theorem q_608 : Cond.code yX10_end cX10_end 2 (some .int) ∈ zTB := zmem 608 (by decide +kernel) rfl
theorem k_R_law_18 : zLv R_law 18 RX10 yX10_end cX10_end 2 (some .int) 1 := ⟨⟨q_605, q_606, q_607, q_129, q_608⟩, rfl, ⟨by decide, by decide⟩, by decide +kernel⟩
theorem q_1494 : Cond.methodLink R_law 22 yX11_end ∈ zTB := zmem 1494 (by decide +kernel) rfl
theorem q_1495 : Cond.instanceMethod yX11_end ∈ zTB := zmem 1495 (by decide +kernel) rfl
theorem q_1496 : Cond.selects RX11 yX11_end yX11_end ∈ zTB := zmem 1496 (by decide +kernel) rfl
theorem q_1497 : Cond.code yX11_end cX11_end 2 (some .int) ∈ zTB := zmem 1497 (by decide +kernel) rfl
theorem k_R_law_22 : zLv R_law 22 RX11 yX11_end cX11_end 2 (some .int) 1 := ⟨⟨q_1494, q_1495, q_1496, q_140, q_1497⟩, rfl, ⟨by decide, by decide⟩, by decide +kernel⟩
theorem q_609 : Cond.methodLink R_law 23 yX10_text ∈ zTB := zmem 609 (by decide +kernel) rfl
theorem q_610 : Cond.instanceMethod yX10_text ∈ zTB := zmem 610 (by decide +kernel) rfl
theorem q_611 : Cond.selects RX10 yX10_text yX10_text ∈ zTB := zmem 611 (by decide +kernel) rfl
theorem q_612 : Cond.code yX10_text cX10_text 4 (some .int) ∈ zTB := zmem 612 (by decide +kernel) rfl
theorem k_R_law_23 : zLv R_law 23 RX10 yX10_text cX10_text 4 (some .int) 2 := ⟨⟨q_609, q_610, q_611, q_129, q_612⟩, rfl, ⟨by decide, by decide⟩, by decide +kernel⟩
theorem q_1501 : Cond.methodLink R_law 27 yX11_text ∈ zTB := zmem 1501 (by decide +kernel) rfl
theorem q_1502 : Cond.instanceMethod yX11_text ∈ zTB := zmem 1502 (by decide +kernel) rfl
theorem q_1503 : Cond.selects RX11 yX11_text yX11_text ∈ zTB := zmem 1503 (by decide +kernel) rfl
theorem q_1504 : Cond.code yX11_text cX11_text 4 (some .int) ∈ zTB := zmem 1504 (by decide +kernel) rfl
theorem k_R_law_27 : zLv R_law 27 RX11 yX11_text cX11_text 4 (some .int) 2 := ⟨⟨q_1501, q_1502, q_1503, q_140, q_1504⟩, rfl, ⟨by decide, by decide⟩, by decide +kernel⟩
theorem q_807 : Cond.methodLink R_law 28 yX10_fault ∈ zTB := zmem 807 (by decide +kernel) rfl
theorem q_808 : Cond.instanceMethod yX10_fault ∈ zTB := zmem 808 (by decide +kernel) rfl
theorem q_809 : Cond.selects RX10 yX10_fault yX10_fault ∈ zTB := zmem 809 (by decide +kernel) rfl
theorem q_810 : Cond.code yX10_fault cX10_fault 2 (some .int) ∈ zTB := zmem 810 (by decide +kernel) rfl
theorem k_R_law_28 : zLv R_law 28 RX10 yX10_fault cX10_fault 2 (some .int) 1 := ⟨⟨q_807, q_808, q_809, q_129, q_810⟩, rfl, ⟨by decide, by decide⟩, by decide +kernel⟩
theorem q_1609 : Cond.methodLink R_law 31 yX11_fault ∈ zTB := zmem 1609 (by decide +kernel) rfl
theorem q_1610 : Cond.instanceMethod yX11_fault ∈ zTB := zmem 1610 (by decide +kernel) rfl
theorem q_1611 : Cond.selects RX11 yX11_fault yX11_fault ∈ zTB := zmem 1611 (by decide +kernel) rfl
theorem q_1612 : Cond.code yX11_fault cX11_fault 2 (some .int) ∈ zTB := zmem 1612 (by decide +kernel) rfl
theorem k_R_law_31 : zLv R_law 31 RX11 yX11_fault cX11_fault 2 (some .int) 1 := ⟨⟨q_1609, q_1610, q_1611, q_140, q_1612⟩, rfl, ⟨by decide, by decide⟩, by decide +kernel⟩
theorem q_828 : Cond.methodLink R_law 32 yX10_net ∈ zTB := zmem 828 (by decide +kernel) rfl
theorem q_829 : Cond.instanceMethod yX10_net ∈ zTB := zmem 829 (by decide +kernel) rfl
theorem q_830 : Cond.selects RX10 yX10_net yX10_net ∈ zTB := zmem 830 (by decide +kernel) rfl
theorem q_831 : Cond.code yX10_net cX10_net 4 (some .int) ∈ zTB := zmem 831 (by decide +kernel) rfl
theorem k_R_law_32 : zLv R_law 32 RX10 yX10_net cX10_net 4 (some .int) 2 := ⟨⟨q_828, q_829, q_830, q_129, q_831⟩, rfl, ⟨by decide, by decide⟩, by decide +kernel⟩
theorem q_1613 : Cond.methodLink R_law 35 yX11_net ∈ zTB := zmem 1613 (by decide +kernel) rfl
theorem q_1614 : Cond.instanceMethod yX11_net ∈ zTB := zmem 1614 (by decide +kernel) rfl
theorem q_1615 : Cond.selects RX11 yX11_net yX11_net ∈ zTB := zmem 1615 (by decide +kernel) rfl
theorem q_1616 : Cond.code yX11_net cX11_net 3 (some .int) ∈ zTB := zmem 1616 (by decide +kernel) rfl
theorem k_R_law_35 : zLv R_law 35 RX11 yX11_net cX11_net 3 (some .int) 2 := ⟨⟨q_1613, q_1614, q_1615, q_140, q_1616⟩, rfl, ⟨by decide, by decide⟩, by decide +kernel⟩
theorem q_843 : Cond.methodLink R_law 36 yX10_block ∈ zTB := zmem 843 (by decide +kernel) rfl
theorem q_844 : Cond.instanceMethod yX10_block ∈ zTB := zmem 844 (by decide +kernel) rfl
theorem q_845 : Cond.selects RX10 yX10_block yX10_block ∈ zTB := zmem 845 (by decide +kernel) rfl
theorem q_846 : Cond.code yX10_block cX10_block 5 (some .int) ∈ zTB := zmem 846 (by decide +kernel) rfl
theorem k_R_law_36 : zLv R_law 36 RX10 yX10_block cX10_block 5 (some .int) 3 := ⟨⟨q_843, q_844, q_845, q_129, q_846⟩, rfl, ⟨by decide, by decide⟩, by decide +kernel⟩
theorem q_1625 : Cond.methodLink R_law 40 yX11_block ∈ zTB := zmem 1625 (by decide +kernel) rfl
theorem q_1626 : Cond.instanceMethod yX11_block ∈ zTB := zmem 1626 (by decide +kernel) rfl
theorem q_1627 : Cond.selects RX11 yX11_block yX11_block ∈ zTB := zmem 1627 (by decide +kernel) rfl
theorem q_1628 : Cond.code yX11_block cX11_block 6 (some .int) ∈ zTB := zmem 1628 (by decide +kernel) rfl
theorem k_R_law_40 : zLv R_law 40 RX11 yX11_block cX11_block 6 (some .int) 3 := ⟨⟨q_1625, q_1626, q_1627, q_140, q_1628⟩, rfl, ⟨by decide, by decide⟩, by decide +kernel⟩
theorem q_862 : Cond.methodLink R_law 41 yX10_deed ∈ zTB := zmem 862 (by decide +kernel) rfl
theorem q_863 : Cond.instanceMethod yX10_deed ∈ zTB := zmem 863 (by decide +kernel) rfl
theorem q_864 : Cond.selects RX10 yX10_deed yX10_deed ∈ zTB := zmem 864 (by decide +kernel) rfl
theorem q_865 : Cond.code yX10_deed cX10_deed 4 (some .int) ∈ zTB := zmem 865 (by decide +kernel) rfl
theorem k_R_law_41 : zLv R_law 41 RX10 yX10_deed cX10_deed 4 (some .int) 3 := ⟨⟨q_862, q_863, q_864, q_129, q_865⟩, rfl, ⟨by decide, by decide⟩, by decide +kernel⟩
theorem q_1645 : Cond.methodLink R_law 44 yX11_deed ∈ zTB := zmem 1645 (by decide +kernel) rfl
theorem q_1646 : Cond.instanceMethod yX11_deed ∈ zTB := zmem 1646 (by decide +kernel) rfl
theorem q_1647 : Cond.selects RX11 yX11_deed yX11_deed ∈ zTB := zmem 1647 (by decide +kernel) rfl
theorem q_1648 : Cond.code yX11_deed cX11_deed 4 (some .int) ∈ zTB := zmem 1648 (by decide +kernel) rfl
theorem k_R_law_44 : zLv R_law 44 RX11 yX11_deed cX11_deed 4 (some .int) 3 := ⟨⟨q_1645, q_1646, q_1647, q_140, q_1648⟩, rfl, ⟨by decide, by decide⟩, by decide +kernel⟩
theorem q_885 : Cond.methodLink R_law 45 yX10_stop ∈ zTB := zmem 885 (by decide +kernel) rfl
theorem q_886 : Cond.instanceMethod yX10_stop ∈ zTB := zmem 886 (by decide +kernel) rfl
theorem q_887 : Cond.selects RX10 yX10_stop yX10_stop ∈ zTB := zmem 887 (by decide +kernel) rfl
theorem q_888 : Cond.code yX10_stop cX10_stop 4 (some .int) ∈ zTB := zmem 888 (by decide +kernel) rfl
theorem k_R_law_45 : zLv R_law 45 RX10 yX10_stop cX10_stop 4 (some .int) 3 := ⟨⟨q_885, q_886, q_887, q_129, q_888⟩, rfl, ⟨by decide, by decide⟩, by decide +kernel⟩
theorem q_1661 : Cond.methodLink R_law 48 yX11_stop ∈ zTB := zmem 1661 (by decide +kernel) rfl
theorem q_1662 : Cond.instanceMethod yX11_stop ∈ zTB := zmem 1662 (by decide +kernel) rfl
theorem q_1663 : Cond.selects RX11 yX11_stop yX11_stop ∈ zTB := zmem 1663 (by decide +kernel) rfl
theorem q_1664 : Cond.code yX11_stop cX11_stop 4 (some .int) ∈ zTB := zmem 1664 (by decide +kernel) rfl
theorem k_R_law_48 : zLv R_law 48 RX11 yX11_stop cX11_stop 4 (some .int) 3 := ⟨⟨q_1661, q_1662, q_1663, q_140, q_1664⟩, rfl, ⟨by decide, by decide⟩, by decide +kernel⟩
theorem dW_176 : decode code 176 = .ok (.aload_n 1, 1) := by decide +kernel
theorem rW_177 : rd5 177 1 := by decide +kernel
theorem rW_182 : rd5 182 2 := by decide +kernel
theorem rW_187 : rd5 187 3 := by decide +kernel
theorem rW_192 : rd5 192 4 := by decide +kernel
theorem rW_197 : rd5 197 5 := by decide +kernel
theorem dW_202 : decode code 202 = .ok (.invokevirtual 13, 3) := by decide +kernel
theorem dW_205 : decode code 205 = .ok (.aload_n 2, 1) := by decide +kernel
theorem rW_206 : rd5 206 1 := by decide +kernel
theorem rW_211 : rd5 211 2 := by decide +kernel
theorem rW_216 : rd5 216 3 := by decide +kernel
theorem rW_221 : rd5 221 4 := by decide +kernel
theorem rW_226 : rd5 226 5 := by decide +kernel
theorem dW_231 : decode code 231 = .ok (.invokevirtual 17, 3) := by decide +kernel
theorem dW_234 : decode code 234 = .ok (.if_icmp .eq 1481, 3) := by decide +kernel
theorem dW_239 : decode code 239 = .ok (.aload_n 1, 1) := by decide +kernel
theorem rW_240 : rd5 240 1 := by decide +kernel
theorem dW_245 : decode code 245 = .ok (.invokevirtual 18, 3) := by decide +kernel
theorem dW_248 : decode code 248 = .ok (.aload_n 2, 1) := by decide +kernel
theorem rW_249 : rd5 249 1 := by decide +kernel
theorem dW_254 : decode code 254 = .ok (.invokevirtual 22, 3) := by decide +kernel
theorem dW_257 : decode code 257 = .ok (.if_icmp .eq 1458, 3) := by decide +kernel
theorem dW_262 : decode code 262 = .ok (.aload_n 1, 1) := by decide +kernel
theorem rW_263 : rd5 263 1 := by decide +kernel
theorem rW_268 : rd5 268 2 := by decide +kernel
theorem dW_273 : decode code 273 = .ok (.invokevirtual 23, 3) := by decide +kernel
theorem dW_276 : decode code 276 = .ok (.aload_n 2, 1) := by decide +kernel
theorem rW_277 : rd5 277 1 := by decide +kernel
theorem rW_282 : rd5 282 2 := by decide +kernel
theorem dW_287 : decode code 287 = .ok (.invokevirtual 27, 3) := by decide +kernel
theorem dW_290 : decode code 290 = .ok (.if_icmp .eq 1425, 3) := by decide +kernel
theorem dW_295 : decode code 295 = .ok (.aload_n 1, 1) := by decide +kernel
theorem rW_296 : rd5 296 1 := by decide +kernel
theorem dW_301 : decode code 301 = .ok (.invokevirtual 28, 3) := by decide +kernel
theorem dW_304 : decode code 304 = .ok (.aload_n 2, 1) := by decide +kernel
theorem rW_305 : rd5 305 1 := by decide +kernel
theorem dW_310 : decode code 310 = .ok (.invokevirtual 31, 3) := by decide +kernel
theorem dW_313 : decode code 313 = .ok (.if_icmp .eq 1402, 3) := by decide +kernel
theorem dW_318 : decode code 318 = .ok (.aload_n 1, 1) := by decide +kernel
theorem rW_319 : rd5 319 1 := by decide +kernel
theorem rW_324 : rd5 324 2 := by decide +kernel
theorem dW_329 : decode code 329 = .ok (.invokevirtual 32, 3) := by decide +kernel
theorem dW_332 : decode code 332 = .ok (.aload_n 2, 1) := by decide +kernel
theorem rW_333 : rd5 333 1 := by decide +kernel
theorem rW_338 : rd5 338 2 := by decide +kernel
theorem dW_343 : decode code 343 = .ok (.invokevirtual 35, 3) := by decide +kernel
theorem dW_346 : decode code 346 = .ok (.if_icmp .eq 1369, 3) := by decide +kernel
theorem dW_351 : decode code 351 = .ok (.aload_n 1, 1) := by decide +kernel
theorem rW_352 : rd5 352 1 := by decide +kernel
theorem rW_357 : rd5 357 2 := by decide +kernel
theorem rW_362 : rd5 362 3 := by decide +kernel
theorem dW_367 : decode code 367 = .ok (.invokevirtual 36, 3) := by decide +kernel
theorem dW_370 : decode code 370 = .ok (.aload_n 2, 1) := by decide +kernel
theorem rW_371 : rd5 371 1 := by decide +kernel
theorem rW_376 : rd5 376 2 := by decide +kernel
theorem rW_381 : rd5 381 3 := by decide +kernel
theorem dW_386 : decode code 386 = .ok (.invokevirtual 40, 3) := by decide +kernel
theorem dW_389 : decode code 389 = .ok (.if_icmp .eq 1326, 3) := by decide +kernel
theorem dW_394 : decode code 394 = .ok (.aload_n 1, 1) := by decide +kernel
theorem rW_395 : rd5 395 1 := by decide +kernel
theorem rW_400 : rd5 400 2 := by decide +kernel
theorem rW_405 : rd5 405 3 := by decide +kernel
theorem dW_410 : decode code 410 = .ok (.invokevirtual 41, 3) := by decide +kernel
theorem dW_413 : decode code 413 = .ok (.aload_n 2, 1) := by decide +kernel
theorem rW_414 : rd5 414 1 := by decide +kernel
theorem rW_419 : rd5 419 2 := by decide +kernel
theorem rW_424 : rd5 424 3 := by decide +kernel
theorem dW_429 : decode code 429 = .ok (.invokevirtual 44, 3) := by decide +kernel
theorem dW_432 : decode code 432 = .ok (.if_icmp .eq 1283, 3) := by decide +kernel
theorem dW_437 : decode code 437 = .ok (.aload_n 1, 1) := by decide +kernel
theorem rW_438 : rd5 438 1 := by decide +kernel
theorem rW_443 : rd5 443 2 := by decide +kernel
theorem rW_448 : rd5 448 3 := by decide +kernel
theorem dW_453 : decode code 453 = .ok (.invokevirtual 45, 3) := by decide +kernel
theorem dW_456 : decode code 456 = .ok (.aload_n 2, 1) := by decide +kernel
theorem rW_457 : rd5 457 1 := by decide +kernel
theorem rW_462 : rd5 462 2 := by decide +kernel
theorem rW_467 : rd5 467 3 := by decide +kernel
theorem dW_472 : decode code 472 = .ok (.invokevirtual 48, 3) := by decide +kernel
theorem dW_475 : decode code 475 = .ok (.if_icmp .eq 1240, 3) := by decide +kernel
set_option maxHeartbeats 4000000 in
theorem lc_0 {p : Program} {l : Launch} {e : Env} {s : State} {m : MethodId} {below : List Frame} {meth : Method} {c : Code} {H : Heap} {locs : List Loc} {cells slots : Nat} {Q : State → Prop} {ls : Array Slot} {D : va_G} {cy : Nat → ClassId} {sa : Nat → Nat} {kd len : Nat → Nat} {N b L i : Nat} {xs : Nat → Int32} {X Y : Nat → Int → Int} {R : Nat → Int → Option Nat} (C : zC p m c code 4 s #[Value.ref b] R_law D cy) (hE : zE D cy s.heap.size sa s) (hX : va_X b L xs s s.heap) (hb : b < s.heap.size) (hL : L ≤ 3584) (hi : i + 7 ≤ L) (hcs : cells + 1 ≤ 600000 ∧ slots + 20 ≤ 7302249) (hN : 288 ≤ N) (hG : ∀ n, 288 ≤ n → kd n = 14 ∧ len n = 20) (I : LI X) (hK : KW kd len R) (hH : zH D cy s.heap.size N kd len X Y R H) (hS : va_S (zA s.heap.size) s.heap H locs) (hl : lv_has ls 4 [(3, .int (zI (i : Int))), (2, .ref (s.heap.size + 262)), (1, .ref (s.heap.size + 0)), (0, .ref b)]) (kk : ∀ (N1 : Nat) (X1 Y1 : Nat → Int → Int) (R1 : Nat → Int → Option Nat) (H1 : Heap) (locs1 : List Loc), 288 ≤ N1 → LI X1 → KW kd len R1 → zH D cy s.heap.size N1 kd len X1 Y1 R1 H1 → va_S (zA s.heap.size) s.heap H1 locs1 → W p l e room_1 s m #[Value.ref b] below meth c H1 locs1 (cells + 1) (slots + 20) Q (F0 m 1715 ls [])) : W p l e room_1 s m #[Value.ref b] below meth c H locs cells slots Q (F0 m 176 ls []) := by
  refine lv_aload_n C.1 C.2.1 dW_176 rfl (lv_at hl 2 rfl) ?_
  refine lw_rd5 C hX hb hS (j := 1) rfl (by omega) hL hl rW_177 ?_
  refine lw_rd5 C hX hb hS (j := 2) rfl (by omega) hL hl rW_182 ?_
  refine lw_rd5 C hX hb hS (j := 3) rfl (by omega) hL hl rW_187 ?_
  refine lw_rd5 C hX hb hS (j := 4) rfl (by omega) hL hl rW_192 ?_
  refine lw_rd5 C hX hb hS (j := 5) rfl (by omega) hL hl rW_197 ?_
  refine zgoi (zrunV (As := [.int (zI (sv xs (i + 1))), .int (zI (sv xs (i + 2))), .int (zI (sv xs (i + 3))), .int (zI (sv xs (i + 4))), .int (zI (sv xs (i + 5)))]) (rest := []) C hE hH hS hl.1 (c_X10_feed (l := l) (hK.1 N hN) (sv xs (i + 1)) (zI_rg _) (sv xs (i + 2)) (zI_rg _) (sv xs (i + 3)) (zI_rg _) (sv xs (i + 4)) (zI_rg _) (sv xs (i + 5)) (zI_rg _) (LI_n I)) k_R_law_13 ⟨Nat.le_of_ble_eq_true rfl, Nat.le_of_ble_eq_true rfl⟩ (zW_n (hK.1 N hN)) (zW_k (hK.1 N hN)) rfl rfl rfl (Nat.le_of_ble_eq_true rfl) dW_202 ⟨by have := hcs.1; show cells ≤ 600000; omega, by have := hcs.2; show slots ≤ 7302249; omega⟩) hS (fun r1 X1 Y1 R1 H locs hr1 hq1 hH hS => ?_)
  have hz : R1 = R := hq1.2.1
  have k1 := hq1.2.2
  rw [hz] at hH
  have fr := feed_o k1
  refine lv_aload_n C.1 C.2.1 dW_205 rfl (lv_at hl 1 rfl) ?_
  refine lw_rd5 C hX hb hS (j := 1) rfl (by omega) hL hl rW_206 ?_
  refine lw_rd5 C hX hb hS (j := 2) rfl (by omega) hL hl rW_211 ?_
  refine lw_rd5 C hX hb hS (j := 3) rfl (by omega) hL hl rW_216 ?_
  refine lw_rd5 C hX hb hS (j := 4) rfl (by omega) hL hl rW_221 ?_
  refine lw_rd5 C hX hb hS (j := 5) rfl (by omega) hL hl rW_226 ?_
  refine zgoi (zrunV (As := [.int (zI (sv xs (i + 1))), .int (zI (sv xs (i + 2))), .int (zI (sv xs (i + 3))), .int (zI (sv xs (i + 4))), .int (zI (sv xs (i + 5)))]) (rest := [.int (zI r1)]) C hE hH hS hl.1 (c_X11_feed (l := l) (hK.2 N hN) (sv xs (i + 1)) (zI_rg _) (sv xs (i + 2)) (zI_rg _) (sv xs (i + 3)) (zI_rg _) (sv xs (i + 4)) (zI_rg _) (sv xs (i + 5)) (zI_rg _) (oTp_o fr (LI_p I))) k_R_law_17 ⟨Nat.le_of_ble_eq_true rfl, Nat.le_of_ble_eq_true rfl⟩ (zM_n0 (hK.2 N hN)) (zM_k0 (hK.2 N hN)) rfl rfl rfl (Nat.le_of_ble_eq_true rfl) dW_231 ⟨by have := hcs.1; show cells ≤ 600000; omega, by have := hcs.2; show slots ≤ 7302249; omega⟩) hS (fun r2 X2 Y2 R2 H locs hr2 hq2 hH hS => ?_)
  have hz2 : R2 = R := hq2.2.1
  obtain ⟨er, I2⟩ := LI_feed I k1 hq2.2.2
  have K2 : KW kd len R2 := by rw [hz2]; exact hK
  refine zd_icmp_eq C hr1 hr2 1715 dW_234 (by decide) (fun _ => ?_) (fun q => absurd er q)
  exact W_raise (Nat.le_add_right _ _) (Nat.le_add_right _ _) (kk N X2 Y2 R2 H locs hN I2 K2 hH hS)
set_option maxHeartbeats 4000000 in
theorem lc_1 {p : Program} {l : Launch} {e : Env} {s : State} {m : MethodId} {below : List Frame} {meth : Method} {c : Code} {H : Heap} {locs : List Loc} {cells slots : Nat} {Q : State → Prop} {ls : Array Slot} {D : va_G} {cy : Nat → ClassId} {sa : Nat → Nat} {kd len : Nat → Nat} {N b L i : Nat} {xs : Nat → Int32} {X Y : Nat → Int → Int} {R : Nat → Int → Option Nat} (C : zC p m c code 4 s #[Value.ref b] R_law D cy) (hE : zE D cy s.heap.size sa s) (hX : va_X b L xs s s.heap) (hb : b < s.heap.size) (hL : L ≤ 3584) (hi : i + 7 ≤ L) (hcs : cells + 1 ≤ 600000 ∧ slots + 20 ≤ 7302249) (hN : 288 ≤ N) (hG : ∀ n, 288 ≤ n → kd n = 14 ∧ len n = 20) (I : LI X) (hK : KW kd len R) (hH : zH D cy s.heap.size N kd len X Y R H) (hS : va_S (zA s.heap.size) s.heap H locs) (hl : lv_has ls 4 [(3, .int (zI (i : Int))), (2, .ref (s.heap.size + 262)), (1, .ref (s.heap.size + 0)), (0, .ref b)]) (kk : ∀ (N1 : Nat) (X1 Y1 : Nat → Int → Int) (R1 : Nat → Int → Option Nat) (H1 : Heap) (locs1 : List Loc), 288 ≤ N1 → LI X1 → KW kd len R1 → zH D cy s.heap.size N1 kd len X1 Y1 R1 H1 → va_S (zA s.heap.size) s.heap H1 locs1 → W p l e room_1 s m #[Value.ref b] below meth c H1 locs1 (cells + 1) (slots + 20) Q (F0 m 1715 ls [])) : W p l e room_1 s m #[Value.ref b] below meth c H locs cells slots Q (F0 m 239 ls []) := by
  refine lv_aload_n C.1 C.2.1 dW_239 rfl (lv_at hl 2 rfl) ?_
  refine lw_rd5 C hX hb hS (j := 1) rfl (by omega) hL hl rW_240 ?_
  refine zgoi (zrunV (As := [.int (zI (sv xs (i + 1)))]) (rest := []) C hE hH hS hl.1 (c_X10_end (l := l) (hK.1 N hN) (sv xs (i + 1)) (zI_rg _)) k_R_law_18 ⟨Nat.le_of_ble_eq_true rfl, Nat.le_of_ble_eq_true rfl⟩ (zW_n (hK.1 N hN)) (zW_k (hK.1 N hN)) rfl rfl rfl (Nat.le_of_ble_eq_true rfl) dW_245 ⟨by have := hcs.1; show cells ≤ 600000; omega, by have := hcs.2; show slots ≤ 7302249; omega⟩) hS (fun r1 X1 Y1 R1 H locs hr1 hq1 hH hS => ?_)
  have hz : R1 = R := hq1.2.1
  have k1 := hq1.2.2
  rw [hz] at hH
  have fr := end_o k1
  refine lv_aload_n C.1 C.2.1 dW_248 rfl (lv_at hl 1 rfl) ?_
  refine lw_rd5 C hX hb hS (j := 1) rfl (by omega) hL hl rW_249 ?_
  refine zgoi (zrunV (As := [.int (zI (sv xs (i + 1)))]) (rest := [.int (zI r1)]) C hE hH hS hl.1 (c_X11_end (l := l) (hK.2 N hN) (sv xs (i + 1)) (zI_rg _) (oTp_o fr (LI_p I))) k_R_law_22 ⟨Nat.le_of_ble_eq_true rfl, Nat.le_of_ble_eq_true rfl⟩ (zM_n0 (hK.2 N hN)) (zM_k0 (hK.2 N hN)) rfl rfl rfl (Nat.le_of_ble_eq_true rfl) dW_254 ⟨by have := hcs.1; show cells ≤ 600000; omega, by have := hcs.2; show slots ≤ 7302249; omega⟩) hS (fun r2 X2 Y2 R2 H locs hr2 hq2 hH hS => ?_)
  have hz2 : R2 = R := hq2.2.1
  obtain ⟨er, I2⟩ := LI_end I k1 hq2.2.2
  have K2 : KW kd len R2 := by rw [hz2]; exact hK
  refine zd_icmp_eq C hr1 hr2 1715 dW_257 (by decide) (fun _ => ?_) (fun q => absurd er q)
  exact W_raise (Nat.le_add_right _ _) (Nat.le_add_right _ _) (kk N X2 Y2 R2 H locs hN I2 K2 hH hS)
set_option maxHeartbeats 4000000 in
theorem lc_2 {p : Program} {l : Launch} {e : Env} {s : State} {m : MethodId} {below : List Frame} {meth : Method} {c : Code} {H : Heap} {locs : List Loc} {cells slots : Nat} {Q : State → Prop} {ls : Array Slot} {D : va_G} {cy : Nat → ClassId} {sa : Nat → Nat} {kd len : Nat → Nat} {N b L i : Nat} {xs : Nat → Int32} {X Y : Nat → Int → Int} {R : Nat → Int → Option Nat} (C : zC p m c code 4 s #[Value.ref b] R_law D cy) (hE : zE D cy s.heap.size sa s) (hX : va_X b L xs s s.heap) (hb : b < s.heap.size) (hL : L ≤ 3584) (hi : i + 7 ≤ L) (hcs : cells + 1 ≤ 600000 ∧ slots + 20 ≤ 7302249) (hN : 288 ≤ N) (hG : ∀ n, 288 ≤ n → kd n = 14 ∧ len n = 20) (I : LI X) (hK : KW kd len R) (hH : zH D cy s.heap.size N kd len X Y R H) (hS : va_S (zA s.heap.size) s.heap H locs) (hl : lv_has ls 4 [(3, .int (zI (i : Int))), (2, .ref (s.heap.size + 262)), (1, .ref (s.heap.size + 0)), (0, .ref b)]) (kk : ∀ (N1 : Nat) (X1 Y1 : Nat → Int → Int) (R1 : Nat → Int → Option Nat) (H1 : Heap) (locs1 : List Loc), 288 ≤ N1 → LI X1 → KW kd len R1 → zH D cy s.heap.size N1 kd len X1 Y1 R1 H1 → va_S (zA s.heap.size) s.heap H1 locs1 → W p l e room_1 s m #[Value.ref b] below meth c H1 locs1 (cells + 1) (slots + 20) Q (F0 m 1715 ls [])) : W p l e room_1 s m #[Value.ref b] below meth c H locs cells slots Q (F0 m 262 ls []) := by
  refine lv_aload_n C.1 C.2.1 dW_262 rfl (lv_at hl 2 rfl) ?_
  refine lw_rd5 C hX hb hS (j := 1) rfl (by omega) hL hl rW_263 ?_
  refine lw_rd5 C hX hb hS (j := 2) rfl (by omega) hL hl rW_268 ?_
  refine zgoi (zrunV (As := [.int (zI (sv xs (i + 1))), .int (zI (sv xs (i + 2)))]) (rest := []) C hE hH hS hl.1 (c_X10_text (l := l) (hK.1 N hN) (sv xs (i + 1)) (zI_rg _) (sv xs (i + 2)) (zI_rg _) ⟨I.2.2.2.2.2.1, LI_n I, LI_m I, I.2.2.2.1.1⟩) k_R_law_23 ⟨Nat.le_of_ble_eq_true rfl, Nat.le_of_ble_eq_true rfl⟩ (zW_n (hK.1 N hN)) (zW_k (hK.1 N hN)) rfl rfl rfl (Nat.le_of_ble_eq_true rfl) dW_273 ⟨by have := hcs.1; show cells ≤ 600000; omega, by have := hcs.2; show slots ≤ 7302249; omega⟩) hS (fun r1 X1 Y1 R1 H locs hr1 hq1 hH hS => ?_)
  obtain ⟨-, w1, k1⟩ := hq1
  have K1 : KW kd len R1 := KW_w w1 hK
  have fr := txC_o I k1
  refine lv_aload_n C.1 C.2.1 dW_276 rfl (lv_at hl 1 rfl) ?_
  refine lw_rd5 C hX hb hS (j := 1) rfl (by omega) hL hl rW_277 ?_
  refine lw_rd5 C hX hb hS (j := 2) rfl (by omega) hL hl rW_282 ?_
  refine zgoi (zrunV (As := [.int (zI (sv xs (i + 1))), .int (zI (sv xs (i + 2)))]) (rest := [.int (zI r1)]) C hE hH hS hl.1 (c_X11_text (l := l) (K1.2 N hN) (sv xs (i + 1)) (zI_rg _) (sv xs (i + 2)) (zI_rg _) ⟨oTb_o fr I.2.2.2.1.2.2, (oTp_o fr (LI_p I)).1, (oTp_o fr (LI_p I)).2, cnt_o fr I⟩) k_R_law_27 ⟨Nat.le_of_ble_eq_true rfl, Nat.le_of_ble_eq_true rfl⟩ (zM_n0 (K1.2 N hN)) (zM_k0 (K1.2 N hN)) rfl rfl rfl (Nat.le_of_ble_eq_true rfl) dW_287 ⟨by have := hcs.1; show cells ≤ 600000; omega, by have := hcs.2; show slots ≤ 7302249; omega⟩) hS (fun r2 X2 Y2 R2 H locs hr2 hq2 hH hS => ?_)
  have hz2 : R2 = R1 := hq2.1
  obtain ⟨er, I2⟩ := LI_text I k1 hq2.2
  have K2 : KW kd len R2 := by rw [hz2]; exact K1
  refine zd_icmp_eq C hr1 hr2 1715 dW_290 (by decide) (fun _ => ?_) (fun q => absurd er q)
  exact W_raise (Nat.le_add_right _ _) (Nat.le_add_right _ _) (kk N X2 Y2 R2 H locs hN I2 K2 hH hS)
set_option maxHeartbeats 4000000 in
theorem lc_3 {p : Program} {l : Launch} {e : Env} {s : State} {m : MethodId} {below : List Frame} {meth : Method} {c : Code} {H : Heap} {locs : List Loc} {cells slots : Nat} {Q : State → Prop} {ls : Array Slot} {D : va_G} {cy : Nat → ClassId} {sa : Nat → Nat} {kd len : Nat → Nat} {N b L i : Nat} {xs : Nat → Int32} {X Y : Nat → Int → Int} {R : Nat → Int → Option Nat} (C : zC p m c code 4 s #[Value.ref b] R_law D cy) (hE : zE D cy s.heap.size sa s) (hX : va_X b L xs s s.heap) (hb : b < s.heap.size) (hL : L ≤ 3584) (hi : i + 7 ≤ L) (hcs : cells + 1 ≤ 600000 ∧ slots + 20 ≤ 7302249) (hN : 288 ≤ N) (hG : ∀ n, 288 ≤ n → kd n = 14 ∧ len n = 20) (I : LI X) (hK : KW kd len R) (hH : zH D cy s.heap.size N kd len X Y R H) (hS : va_S (zA s.heap.size) s.heap H locs) (hl : lv_has ls 4 [(3, .int (zI (i : Int))), (2, .ref (s.heap.size + 262)), (1, .ref (s.heap.size + 0)), (0, .ref b)]) (kk : ∀ (N1 : Nat) (X1 Y1 : Nat → Int → Int) (R1 : Nat → Int → Option Nat) (H1 : Heap) (locs1 : List Loc), 288 ≤ N1 → LI X1 → KW kd len R1 → zH D cy s.heap.size N1 kd len X1 Y1 R1 H1 → va_S (zA s.heap.size) s.heap H1 locs1 → W p l e room_1 s m #[Value.ref b] below meth c H1 locs1 (cells + 1) (slots + 20) Q (F0 m 1715 ls [])) : W p l e room_1 s m #[Value.ref b] below meth c H locs cells slots Q (F0 m 295 ls []) := by
  refine lv_aload_n C.1 C.2.1 dW_295 rfl (lv_at hl 2 rfl) ?_
  refine lw_rd5 C hX hb hS (j := 1) rfl (by omega) hL hl rW_296 ?_
  refine zgoi (zrunV (As := [.int (zI (sv xs (i + 1)))]) (rest := []) C hE hH hS hl.1 (c_X10_fault (l := l) (Z := X) (q := 262) (hK.1 N hN) (sv xs (i + 1)) (zI_rg _) (LI_q I)) k_R_law_28 ⟨Nat.le_of_ble_eq_true rfl, Nat.le_of_ble_eq_true rfl⟩ (zW_n (hK.1 N hN)) (zW_k (hK.1 N hN)) rfl rfl rfl (Nat.le_of_ble_eq_true rfl) dW_301 ⟨by have := hcs.1; show cells ≤ 600000; omega, by have := hcs.2; show slots ≤ 7302249; omega⟩) hS (fun r1 X1 Y1 R1 H locs hr1 hq1 hH hS => ?_)
  obtain ⟨e1, hq⟩ := hq1
  have hx : X1 = X := congrArg (fun z => z.1) hq
  have hy : Y1 = Y := congrArg (fun z => z.2.1) hq
  have hz : R1 = R := congrArg (fun z => z.2.2) hq
  rw [hx, hy, hz] at hH
  have o := vAll_o I.1.2
  refine lv_aload_n C.1 C.2.1 dW_304 rfl (lv_at hl 1 rfl) ?_
  refine lw_rd5 C hX hb hS (j := 1) rfl (by omega) hL hl rW_305 ?_
  refine zgoi (zrunV (As := [.int (zI (sv xs (i + 1)))]) (rest := [.int (zI r1)]) C hE hH hS hl.1 (c_X11_fault (l := l) (hK.2 N hN) (sv xs (i + 1)) (zI_rg _)) k_R_law_31 ⟨Nat.le_of_ble_eq_true rfl, Nat.le_of_ble_eq_true rfl⟩ (zM_n0 (hK.2 N hN)) (zM_k0 (hK.2 N hN)) rfl rfl rfl (Nat.le_of_ble_eq_true rfl) dW_310 ⟨by have := hcs.1; show cells ≤ 600000; omega, by have := hcs.2; show slots ≤ 7302249; omega⟩) hS (fun r2 X2 Y2 R2 H locs hr2 hq2 hH hS => ?_)
  have hz2 : R2 = R := hq2.2.1
  obtain ⟨e2, pk⟩ := hq2.2.2
  have I2 : LI X2 := LI_pK I pk
  have er : r1 = r2 := e1.trans e2.symm
  have K2 : KW kd len R2 := by rw [hz2]; exact hK
  refine zd_icmp_eq C hr1 hr2 1715 dW_313 (by decide) (fun _ => ?_) (fun q => absurd er q)
  exact W_raise (Nat.le_add_right _ _) (Nat.le_add_right _ _) (kk N X2 Y2 R2 H locs hN I2 K2 hH hS)
set_option maxHeartbeats 4000000 in
theorem lc_4 {p : Program} {l : Launch} {e : Env} {s : State} {m : MethodId} {below : List Frame} {meth : Method} {c : Code} {H : Heap} {locs : List Loc} {cells slots : Nat} {Q : State → Prop} {ls : Array Slot} {D : va_G} {cy : Nat → ClassId} {sa : Nat → Nat} {kd len : Nat → Nat} {N b L i : Nat} {xs : Nat → Int32} {X Y : Nat → Int → Int} {R : Nat → Int → Option Nat} (C : zC p m c code 4 s #[Value.ref b] R_law D cy) (hE : zE D cy s.heap.size sa s) (hX : va_X b L xs s s.heap) (hb : b < s.heap.size) (hL : L ≤ 3584) (hi : i + 7 ≤ L) (hcs : cells + 1 ≤ 600000 ∧ slots + 20 ≤ 7302249) (hN : 288 ≤ N) (hG : ∀ n, 288 ≤ n → kd n = 14 ∧ len n = 20) (I : LI X) (hK : KW kd len R) (hH : zH D cy s.heap.size N kd len X Y R H) (hS : va_S (zA s.heap.size) s.heap H locs) (hl : lv_has ls 4 [(3, .int (zI (i : Int))), (2, .ref (s.heap.size + 262)), (1, .ref (s.heap.size + 0)), (0, .ref b)]) (kk : ∀ (N1 : Nat) (X1 Y1 : Nat → Int → Int) (R1 : Nat → Int → Option Nat) (H1 : Heap) (locs1 : List Loc), 288 ≤ N1 → LI X1 → KW kd len R1 → zH D cy s.heap.size N1 kd len X1 Y1 R1 H1 → va_S (zA s.heap.size) s.heap H1 locs1 → W p l e room_1 s m #[Value.ref b] below meth c H1 locs1 (cells + 1) (slots + 20) Q (F0 m 1715 ls [])) : W p l e room_1 s m #[Value.ref b] below meth c H locs cells slots Q (F0 m 318 ls []) := by
  refine lv_aload_n C.1 C.2.1 dW_318 rfl (lv_at hl 2 rfl) ?_
  refine lw_rd5 C hX hb hS (j := 1) rfl (by omega) hL hl rW_319 ?_
  refine lw_rd5 C hX hb hS (j := 2) rfl (by omega) hL hl rW_324 ?_
  refine zgoi (zrunV (As := [.int (zI (sv xs (i + 1))), .int (zI (sv xs (i + 2)))]) (rest := []) C hE hH hS hl.1 (c_X10_net (l := l) (Z := X) (q := 262) (hK.1 N hN) (sv xs (i + 1)) (zI_rg _) (sv xs (i + 2)) (zI_rg _) (LI_q I)) k_R_law_32 ⟨Nat.le_of_ble_eq_true rfl, Nat.le_of_ble_eq_true rfl⟩ (zW_n (hK.1 N hN)) (zW_k (hK.1 N hN)) rfl rfl rfl (Nat.le_of_ble_eq_true rfl) dW_329 ⟨by have := hcs.1; show cells ≤ 600000; omega, by have := hcs.2; show slots ≤ 7302249; omega⟩) hS (fun r1 X1 Y1 R1 H locs hr1 hq1 hH hS => ?_)
  obtain ⟨e1, hq⟩ := hq1
  have hx : X1 = X := congrArg (fun z => z.1) hq
  have hy : Y1 = Y := congrArg (fun z => z.2.1) hq
  have hz : R1 = R := congrArg (fun z => z.2.2) hq
  rw [hx, hy, hz] at hH
  have o := vAll_o I.1.2
  refine lv_aload_n C.1 C.2.1 dW_332 rfl (lv_at hl 1 rfl) ?_
  refine lw_rd5 C hX hb hS (j := 1) rfl (by omega) hL hl rW_333 ?_
  refine lw_rd5 C hX hb hS (j := 2) rfl (by omega) hL hl rW_338 ?_
  refine zgoi (zrunV (As := [.int (zI (sv xs (i + 1))), .int (zI (sv xs (i + 2)))]) (rest := [.int (zI r1)]) C hE hH hS hl.1 (c_X11_net (l := l) (hK.2 N hN) (sv xs (i + 1)) (zI_rg _) (sv xs (i + 2)) (zI_rg _) o.1) k_R_law_35 ⟨Nat.le_of_ble_eq_true rfl, Nat.le_of_ble_eq_true rfl⟩ (zM_n0 (hK.2 N hN)) (zM_k0 (hK.2 N hN)) rfl rfl rfl (Nat.le_of_ble_eq_true rfl) dW_343 ⟨by have := hcs.1; show cells ≤ 600000; omega, by have := hcs.2; show slots ≤ 7302249; omega⟩) hS (fun r2 X2 Y2 R2 H locs hr2 hq2 hH hS => ?_)
  have hz2 : R2 = R := hq2.2.1
  obtain ⟨e2, pk⟩ := hq2.2.2
  have I2 : LI X2 := LI_pK I pk
  have er : r1 = r2 := e1.trans e2.symm
  have K2 : KW kd len R2 := by rw [hz2]; exact hK
  refine zd_icmp_eq C hr1 hr2 1715 dW_346 (by decide) (fun _ => ?_) (fun q => absurd er q)
  exact W_raise (Nat.le_add_right _ _) (Nat.le_add_right _ _) (kk N X2 Y2 R2 H locs hN I2 K2 hH hS)
set_option maxHeartbeats 4000000 in
theorem lc_5 {p : Program} {l : Launch} {e : Env} {s : State} {m : MethodId} {below : List Frame} {meth : Method} {c : Code} {H : Heap} {locs : List Loc} {cells slots : Nat} {Q : State → Prop} {ls : Array Slot} {D : va_G} {cy : Nat → ClassId} {sa : Nat → Nat} {kd len : Nat → Nat} {N b L i : Nat} {xs : Nat → Int32} {X Y : Nat → Int → Int} {R : Nat → Int → Option Nat} (C : zC p m c code 4 s #[Value.ref b] R_law D cy) (hE : zE D cy s.heap.size sa s) (hX : va_X b L xs s s.heap) (hb : b < s.heap.size) (hL : L ≤ 3584) (hi : i + 7 ≤ L) (hcs : cells + 1 ≤ 600000 ∧ slots + 20 ≤ 7302249) (hN : 288 ≤ N) (hG : ∀ n, 288 ≤ n → kd n = 14 ∧ len n = 20) (I : LI X) (hK : KW kd len R) (hH : zH D cy s.heap.size N kd len X Y R H) (hS : va_S (zA s.heap.size) s.heap H locs) (hl : lv_has ls 4 [(3, .int (zI (i : Int))), (2, .ref (s.heap.size + 262)), (1, .ref (s.heap.size + 0)), (0, .ref b)]) (kk : ∀ (N1 : Nat) (X1 Y1 : Nat → Int → Int) (R1 : Nat → Int → Option Nat) (H1 : Heap) (locs1 : List Loc), 288 ≤ N1 → LI X1 → KW kd len R1 → zH D cy s.heap.size N1 kd len X1 Y1 R1 H1 → va_S (zA s.heap.size) s.heap H1 locs1 → W p l e room_1 s m #[Value.ref b] below meth c H1 locs1 (cells + 1) (slots + 20) Q (F0 m 1715 ls [])) : W p l e room_1 s m #[Value.ref b] below meth c H locs cells slots Q (F0 m 351 ls []) := by
  refine lv_aload_n C.1 C.2.1 dW_351 rfl (lv_at hl 2 rfl) ?_
  refine lw_rd5 C hX hb hS (j := 1) rfl (by omega) hL hl rW_352 ?_
  refine lw_rd5 C hX hb hS (j := 2) rfl (by omega) hL hl rW_357 ?_
  refine lw_rd5 C hX hb hS (j := 3) rfl (by omega) hL hl rW_362 ?_
  refine zgoi (zrunV (As := [.int (zI (sv xs (i + 1))), .int (zI (sv xs (i + 2))), .int (zI (sv xs (i + 3)))]) (rest := []) C hE hH hS hl.1 (c_X10_block (l := l) (Z := X) (q := 262) (hK.1 N hN) (sv xs (i + 1)) (zI_rg _) (sv xs (i + 2)) (zI_rg _) (sv xs (i + 3)) (zI_rg _) (LI_q I)) k_R_law_36 ⟨Nat.le_of_ble_eq_true rfl, Nat.le_of_ble_eq_true rfl⟩ (zW_n (hK.1 N hN)) (zW_k (hK.1 N hN)) rfl rfl rfl (Nat.le_of_ble_eq_true rfl) dW_367 ⟨by have := hcs.1; show cells ≤ 600000; omega, by have := hcs.2; show slots ≤ 7302249; omega⟩) hS (fun r1 X1 Y1 R1 H locs hr1 hq1 hH hS => ?_)
  obtain ⟨e1, hq⟩ := hq1
  have hx : X1 = X := congrArg (fun z => z.1) hq
  have hy : Y1 = Y := congrArg (fun z => z.2.1) hq
  have hz : R1 = R := congrArg (fun z => z.2.2) hq
  rw [hx, hy, hz] at hH
  have o := vAll_o I.1.2
  refine lv_aload_n C.1 C.2.1 dW_370 rfl (lv_at hl 1 rfl) ?_
  refine lw_rd5 C hX hb hS (j := 1) rfl (by omega) hL hl rW_371 ?_
  refine lw_rd5 C hX hb hS (j := 2) rfl (by omega) hL hl rW_376 ?_
  refine lw_rd5 C hX hb hS (j := 3) rfl (by omega) hL hl rW_381 ?_
  refine zgoi (zrunV (As := [.int (zI (sv xs (i + 1))), .int (zI (sv xs (i + 2))), .int (zI (sv xs (i + 3)))]) (rest := [.int (zI r1)]) C hE hH hS hl.1 (c_X11_block (l := l) (hK.2 N hN) (sv xs (i + 1)) (zI_rg _) (sv xs (i + 2)) (zI_rg _) (sv xs (i + 3)) (zI_rg _) o.1) k_R_law_40 ⟨Nat.le_of_ble_eq_true rfl, Nat.le_of_ble_eq_true rfl⟩ (zM_n0 (hK.2 N hN)) (zM_k0 (hK.2 N hN)) rfl rfl rfl (Nat.le_of_ble_eq_true rfl) dW_386 ⟨by have := hcs.1; show cells ≤ 600000; omega, by have := hcs.2; show slots ≤ 7302249; omega⟩) hS (fun r2 X2 Y2 R2 H locs hr2 hq2 hH hS => ?_)
  have hz2 : R2 = R := hq2.2.1
  obtain ⟨e2, pk⟩ := hq2.2.2
  have I2 : LI X2 := LI_pK I pk
  have er : r1 = r2 := e1.trans e2.symm
  have K2 : KW kd len R2 := by rw [hz2]; exact hK
  refine zd_icmp_eq C hr1 hr2 1715 dW_389 (by decide) (fun _ => ?_) (fun q => absurd er q)
  exact W_raise (Nat.le_add_right _ _) (Nat.le_add_right _ _) (kk N X2 Y2 R2 H locs hN I2 K2 hH hS)
set_option maxHeartbeats 4000000 in
theorem lc_6 {p : Program} {l : Launch} {e : Env} {s : State} {m : MethodId} {below : List Frame} {meth : Method} {c : Code} {H : Heap} {locs : List Loc} {cells slots : Nat} {Q : State → Prop} {ls : Array Slot} {D : va_G} {cy : Nat → ClassId} {sa : Nat → Nat} {kd len : Nat → Nat} {N b L i : Nat} {xs : Nat → Int32} {X Y : Nat → Int → Int} {R : Nat → Int → Option Nat} (C : zC p m c code 4 s #[Value.ref b] R_law D cy) (hE : zE D cy s.heap.size sa s) (hX : va_X b L xs s s.heap) (hb : b < s.heap.size) (hL : L ≤ 3584) (hi : i + 7 ≤ L) (hcs : cells + 1 ≤ 600000 ∧ slots + 20 ≤ 7302249) (hN : 288 ≤ N) (hG : ∀ n, 288 ≤ n → kd n = 14 ∧ len n = 20) (I : LI X) (hK : KW kd len R) (hH : zH D cy s.heap.size N kd len X Y R H) (hS : va_S (zA s.heap.size) s.heap H locs) (hl : lv_has ls 4 [(3, .int (zI (i : Int))), (2, .ref (s.heap.size + 262)), (1, .ref (s.heap.size + 0)), (0, .ref b)]) (kk : ∀ (N1 : Nat) (X1 Y1 : Nat → Int → Int) (R1 : Nat → Int → Option Nat) (H1 : Heap) (locs1 : List Loc), 288 ≤ N1 → LI X1 → KW kd len R1 → zH D cy s.heap.size N1 kd len X1 Y1 R1 H1 → va_S (zA s.heap.size) s.heap H1 locs1 → W p l e room_1 s m #[Value.ref b] below meth c H1 locs1 (cells + 1) (slots + 20) Q (F0 m 1715 ls [])) : W p l e room_1 s m #[Value.ref b] below meth c H locs cells slots Q (F0 m 394 ls []) := by
  refine lv_aload_n C.1 C.2.1 dW_394 rfl (lv_at hl 2 rfl) ?_
  refine lw_rd5 C hX hb hS (j := 1) rfl (by omega) hL hl rW_395 ?_
  refine lw_rd5 C hX hb hS (j := 2) rfl (by omega) hL hl rW_400 ?_
  refine lw_rd5 C hX hb hS (j := 3) rfl (by omega) hL hl rW_405 ?_
  refine zgoi (zrunV (As := [.int (zI (sv xs (i + 1))), .int (zI (sv xs (i + 2))), .int (zI (sv xs (i + 3)))]) (rest := []) C hE hH hS hl.1 (c_X10_deed (l := l) (Z := X) (q := 262) (hK.1 N hN) (sv xs (i + 1)) (zI_rg _) (sv xs (i + 2)) (zI_rg _) (sv xs (i + 3)) (zI_rg _) (LI_q I)) k_R_law_41 ⟨Nat.le_of_ble_eq_true rfl, Nat.le_of_ble_eq_true rfl⟩ (zW_n (hK.1 N hN)) (zW_k (hK.1 N hN)) rfl rfl rfl (Nat.le_of_ble_eq_true rfl) dW_410 ⟨by have := hcs.1; show cells ≤ 600000; omega, by have := hcs.2; show slots ≤ 7302249; omega⟩) hS (fun r1 X1 Y1 R1 H locs hr1 hq1 hH hS => ?_)
  obtain ⟨e1, hq⟩ := hq1
  have hx : X1 = X := congrArg (fun z => z.1) hq
  have hy : Y1 = Y := congrArg (fun z => z.2.1) hq
  have hz : R1 = R := congrArg (fun z => z.2.2) hq
  rw [hx, hy, hz] at hH
  have o := vAll_o I.1.2
  refine lv_aload_n C.1 C.2.1 dW_413 rfl (lv_at hl 1 rfl) ?_
  refine lw_rd5 C hX hb hS (j := 1) rfl (by omega) hL hl rW_414 ?_
  refine lw_rd5 C hX hb hS (j := 2) rfl (by omega) hL hl rW_419 ?_
  refine lw_rd5 C hX hb hS (j := 3) rfl (by omega) hL hl rW_424 ?_
  refine zgoi (zrunV (As := [.int (zI (sv xs (i + 1))), .int (zI (sv xs (i + 2))), .int (zI (sv xs (i + 3)))]) (rest := [.int (zI r1)]) C hE hH hS hl.1 (c_X11_deed (l := l) (hK.2 N hN) (sv xs (i + 1)) (zI_rg _) (sv xs (i + 2)) (zI_rg _) (sv xs (i + 3)) (zI_rg _) ⟨o.1, o.2.1⟩) k_R_law_44 ⟨Nat.le_of_ble_eq_true rfl, Nat.le_of_ble_eq_true rfl⟩ (zM_n0 (hK.2 N hN)) (zM_k0 (hK.2 N hN)) rfl rfl rfl (Nat.le_of_ble_eq_true rfl) dW_429 ⟨by have := hcs.1; show cells ≤ 600000; omega, by have := hcs.2; show slots ≤ 7302249; omega⟩) hS (fun r2 X2 Y2 R2 H locs hr2 hq2 hH hS => ?_)
  have hz2 : R2 = R := hq2.2.1
  obtain ⟨e2, pk⟩ := hq2.2.2
  have I2 : LI X2 := LI_pK I pk
  have er : r1 = r2 := e1.trans e2.symm
  have K2 : KW kd len R2 := by rw [hz2]; exact hK
  refine zd_icmp_eq C hr1 hr2 1715 dW_432 (by decide) (fun _ => ?_) (fun q => absurd er q)
  exact W_raise (Nat.le_add_right _ _) (Nat.le_add_right _ _) (kk N X2 Y2 R2 H locs hN I2 K2 hH hS)
set_option maxHeartbeats 4000000 in
theorem lc_7 {p : Program} {l : Launch} {e : Env} {s : State} {m : MethodId} {below : List Frame} {meth : Method} {c : Code} {H : Heap} {locs : List Loc} {cells slots : Nat} {Q : State → Prop} {ls : Array Slot} {D : va_G} {cy : Nat → ClassId} {sa : Nat → Nat} {kd len : Nat → Nat} {N b L i : Nat} {xs : Nat → Int32} {X Y : Nat → Int → Int} {R : Nat → Int → Option Nat} (C : zC p m c code 4 s #[Value.ref b] R_law D cy) (hE : zE D cy s.heap.size sa s) (hX : va_X b L xs s s.heap) (hb : b < s.heap.size) (hL : L ≤ 3584) (hi : i + 7 ≤ L) (hcs : cells + 1 ≤ 600000 ∧ slots + 20 ≤ 7302249) (hN : 288 ≤ N) (hG : ∀ n, 288 ≤ n → kd n = 14 ∧ len n = 20) (I : LI X) (hK : KW kd len R) (hH : zH D cy s.heap.size N kd len X Y R H) (hS : va_S (zA s.heap.size) s.heap H locs) (hl : lv_has ls 4 [(3, .int (zI (i : Int))), (2, .ref (s.heap.size + 262)), (1, .ref (s.heap.size + 0)), (0, .ref b)]) (kk : ∀ (N1 : Nat) (X1 Y1 : Nat → Int → Int) (R1 : Nat → Int → Option Nat) (H1 : Heap) (locs1 : List Loc), 288 ≤ N1 → LI X1 → KW kd len R1 → zH D cy s.heap.size N1 kd len X1 Y1 R1 H1 → va_S (zA s.heap.size) s.heap H1 locs1 → W p l e room_1 s m #[Value.ref b] below meth c H1 locs1 (cells + 1) (slots + 20) Q (F0 m 1715 ls [])) : W p l e room_1 s m #[Value.ref b] below meth c H locs cells slots Q (F0 m 437 ls []) := by
  refine lv_aload_n C.1 C.2.1 dW_437 rfl (lv_at hl 2 rfl) ?_
  refine lw_rd5 C hX hb hS (j := 1) rfl (by omega) hL hl rW_438 ?_
  refine lw_rd5 C hX hb hS (j := 2) rfl (by omega) hL hl rW_443 ?_
  refine lw_rd5 C hX hb hS (j := 3) rfl (by omega) hL hl rW_448 ?_
  refine zgoi (zrunV (As := [.int (zI (sv xs (i + 1))), .int (zI (sv xs (i + 2))), .int (zI (sv xs (i + 3)))]) (rest := []) C hE hH hS hl.1 (c_X10_stop (l := l) (Z := X) (q := 262) (hK.1 N hN) (sv xs (i + 1)) (zI_rg _) (sv xs (i + 2)) (zI_rg _) (sv xs (i + 3)) (zI_rg _) (LI_q I)) k_R_law_45 ⟨Nat.le_of_ble_eq_true rfl, Nat.le_of_ble_eq_true rfl⟩ (zW_n (hK.1 N hN)) (zW_k (hK.1 N hN)) rfl rfl rfl (Nat.le_of_ble_eq_true rfl) dW_453 ⟨by have := hcs.1; show cells ≤ 600000; omega, by have := hcs.2; show slots ≤ 7302249; omega⟩) hS (fun r1 X1 Y1 R1 H locs hr1 hq1 hH hS => ?_)
  obtain ⟨w1, e1, qk⟩ := hq1
  have I1 : LI X1 := LI_qK I qk
  have K1 : KW kd len R1 := KW_w (wcK_wf w1) hK
  have o := vAll_o I1.1.2
  refine lv_aload_n C.1 C.2.1 dW_456 rfl (lv_at hl 1 rfl) ?_
  refine lw_rd5 C hX hb hS (j := 1) rfl (by omega) hL hl rW_457 ?_
  refine lw_rd5 C hX hb hS (j := 2) rfl (by omega) hL hl rW_462 ?_
  refine lw_rd5 C hX hb hS (j := 3) rfl (by omega) hL hl rW_467 ?_
  refine zgoi (zrunV (As := [.int (zI (sv xs (i + 1))), .int (zI (sv xs (i + 2))), .int (zI (sv xs (i + 3)))]) (rest := [.int (zI r1)]) C hE hH hS hl.1 (c_X11_stop (l := l) (K1.2 N hN) (sv xs (i + 1)) (zI_rg _) (sv xs (i + 2)) (zI_rg _) (sv xs (i + 3)) (zI_rg _) ⟨o.1, o.2.1⟩) k_R_law_48 ⟨Nat.le_of_ble_eq_true rfl, Nat.le_of_ble_eq_true rfl⟩ (zM_n0 (K1.2 N hN)) (zM_k0 (K1.2 N hN)) rfl rfl rfl (Nat.le_of_ble_eq_true rfl) dW_472 ⟨by have := hcs.1; show cells ≤ 600000; omega, by have := hcs.2; show slots ≤ 7302249; omega⟩) hS (fun r2 X2 Y2 R2 H locs hr2 hq2 hH hS => ?_)
  have hz2 : R2 = R1 := hq2.1
  obtain ⟨e2, pk⟩ := hq2.2
  have I2 : LI X2 := LI_pK I1 pk
  have ef := rStop_o (i := 262) (X := X) (X1 := X1) (fun z hz => qk.1 z (Or.inr (by omega)))
  have er : r1 = r2 := by rw [e2, ef]; exact e1
  have K2 : KW kd len R2 := by rw [hz2]; exact K1
  refine zd_icmp_eq C hr1 hr2 1715 dW_475 (by decide) (fun _ => ?_) (fun q => absurd er q)
  exact W_raise (Nat.le_add_right _ _) (Nat.le_add_right _ _) (kk N X2 Y2 R2 H locs hN I2 K2 hH hS)
