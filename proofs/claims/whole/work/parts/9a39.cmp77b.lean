/-! THE LAW: cases 8 to 15 -/
theorem q_1007 : Cond.methodLink R_law 49 yX10_state ∈ zTB := zmem 1007 (by decide +kernel) rfl
theorem q_1008 : Cond.instanceMethod yX10_state ∈ zTB := zmem 1008 (by decide +kernel) rfl
theorem q_1009 : Cond.selects RX10 yX10_state yX10_state ∈ zTB := zmem 1009 (by decide +kernel) rfl
theorem q_1010 : Cond.code yX10_state cX10_state 7 (some .int) ∈ zTB := zmem 1010 (by decide +kernel) rfl
theorem k_R_law_49 : zLv R_law 49 RX10 yX10_state cX10_state 7 (some .int) 5 := ⟨⟨q_1007, q_1008, q_1009, q_129, q_1010⟩, rfl, ⟨by decide, by decide⟩, by decide +kernel⟩
theorem q_1767 : Cond.methodLink R_law 52 yX11_state ∈ zTB := zmem 1767 (by decide +kernel) rfl
theorem q_1768 : Cond.instanceMethod yX11_state ∈ zTB := zmem 1768 (by decide +kernel) rfl
theorem q_1769 : Cond.selects RX11 yX11_state yX11_state ∈ zTB := zmem 1769 (by decide +kernel) rfl
theorem q_1770 : Cond.code yX11_state cX11_state 6 (some .int) ∈ zTB := zmem 1770 (by decide +kernel) rfl
theorem k_R_law_52 : zLv R_law 52 RX11 yX11_state cX11_state 6 (some .int) 5 := ⟨⟨q_1767, q_1768, q_1769, q_140, q_1770⟩, rfl, ⟨by decide, by decide⟩, by decide +kernel⟩
theorem q_1044 : Cond.methodLink R_law 53 yX10_work ∈ zTB := zmem 1044 (by decide +kernel) rfl
theorem q_1045 : Cond.instanceMethod yX10_work ∈ zTB := zmem 1045 (by decide +kernel) rfl
theorem q_1046 : Cond.selects RX10 yX10_work yX10_work ∈ zTB := zmem 1046 (by decide +kernel) rfl
theorem q_1047 : Cond.code yX10_work cX10_work 6 (some .long) ∈ zTB := zmem 1047 (by decide +kernel) rfl
theorem k_R_law_53 : zLv R_law 53 RX10 yX10_work cX10_work 6 (some .long) 4 := ⟨⟨q_1044, q_1045, q_1046, q_129, q_1047⟩, rfl, ⟨by decide, by decide⟩, by decide +kernel⟩
theorem q_1783 : Cond.methodLink R_law 57 yX11_work ∈ zTB := zmem 1783 (by decide +kernel) rfl
theorem q_1784 : Cond.instanceMethod yX11_work ∈ zTB := zmem 1784 (by decide +kernel) rfl
theorem q_1785 : Cond.selects RX11 yX11_work yX11_work ∈ zTB := zmem 1785 (by decide +kernel) rfl
theorem q_1786 : Cond.code yX11_work cX11_work 6 (some .long) ∈ zTB := zmem 1786 (by decide +kernel) rfl
theorem k_R_law_57 : zLv R_law 57 RX11 yX11_work cX11_work 6 (some .long) 4 := ⟨⟨q_1783, q_1784, q_1785, q_140, q_1786⟩, rfl, ⟨by decide, by decide⟩, by decide +kernel⟩
theorem q_1054 : Cond.methodLink R_law 58 yX10_tip ∈ zTB := zmem 1054 (by decide +kernel) rfl
theorem q_1055 : Cond.instanceMethod yX10_tip ∈ zTB := zmem 1055 (by decide +kernel) rfl
theorem q_1056 : Cond.selects RX10 yX10_tip yX10_tip ∈ zTB := zmem 1056 (by decide +kernel) rfl
theorem q_1057 : Cond.code yX10_tip cX10_tip 4 (some .int) ∈ zTB := zmem 1057 (by decide +kernel) rfl
theorem k_R_law_58 : zLv R_law 58 RX10 yX10_tip cX10_tip 4 (some .int) 3 := ⟨⟨q_1054, q_1055, q_1056, q_129, q_1057⟩, rfl, ⟨by decide, by decide⟩, by decide +kernel⟩
theorem q_1788 : Cond.methodLink R_law 61 yX11_tip ∈ zTB := zmem 1788 (by decide +kernel) rfl
theorem q_1789 : Cond.instanceMethod yX11_tip ∈ zTB := zmem 1789 (by decide +kernel) rfl
theorem q_1790 : Cond.selects RX11 yX11_tip yX11_tip ∈ zTB := zmem 1790 (by decide +kernel) rfl
theorem q_1791 : Cond.code yX11_tip cX11_tip 4 (some .int) ∈ zTB := zmem 1791 (by decide +kernel) rfl
theorem k_R_law_61 : zLv R_law 61 RX11 yX11_tip cX11_tip 4 (some .int) 3 := ⟨⟨q_1788, q_1789, q_1790, q_140, q_1791⟩, rfl, ⟨by decide, by decide⟩, by decide +kernel⟩
theorem q_877 : Cond.methodLink R_law 62 yX10_pool ∈ zTB := zmem 877 (by decide +kernel) rfl
theorem q_878 : Cond.instanceMethod yX10_pool ∈ zTB := zmem 878 (by decide +kernel) rfl
theorem q_879 : Cond.selects RX10 yX10_pool yX10_pool ∈ zTB := zmem 879 (by decide +kernel) rfl
theorem q_880 : Cond.code yX10_pool cX10_pool 4 (some .int) ∈ zTB := zmem 880 (by decide +kernel) rfl
theorem k_R_law_62 : zLv R_law 62 RX10 yX10_pool cX10_pool 4 (some .int) 3 := ⟨⟨q_877, q_878, q_879, q_129, q_880⟩, rfl, ⟨by decide, by decide⟩, by decide +kernel⟩
theorem q_1804 : Cond.methodLink R_law 65 yX11_pool ∈ zTB := zmem 1804 (by decide +kernel) rfl
theorem q_1805 : Cond.instanceMethod yX11_pool ∈ zTB := zmem 1805 (by decide +kernel) rfl
theorem q_1806 : Cond.selects RX11 yX11_pool yX11_pool ∈ zTB := zmem 1806 (by decide +kernel) rfl
theorem q_1807 : Cond.code yX11_pool cX11_pool 4 (some .int) ∈ zTB := zmem 1807 (by decide +kernel) rfl
theorem k_R_law_65 : zLv R_law 65 RX11 yX11_pool cX11_pool 4 (some .int) 3 := ⟨⟨q_1804, q_1805, q_1806, q_140, q_1807⟩, rfl, ⟨by decide, by decide⟩, by decide +kernel⟩
theorem q_1200 : Cond.methodLink R_law 66 yX10_fill ∈ zTB := zmem 1200 (by decide +kernel) rfl
theorem q_1201 : Cond.instanceMethod yX10_fill ∈ zTB := zmem 1201 (by decide +kernel) rfl
theorem q_1202 : Cond.selects RX10 yX10_fill yX10_fill ∈ zTB := zmem 1202 (by decide +kernel) rfl
theorem q_1203 : Cond.code yX10_fill cX10_fill 7 (some .int) ∈ zTB := zmem 1203 (by decide +kernel) rfl
theorem k_R_law_66 : zLv R_law 66 RX10 yX10_fill cX10_fill 7 (some .int) 5 := ⟨⟨q_1200, q_1201, q_1202, q_129, q_1203⟩, rfl, ⟨by decide, by decide⟩, by decide +kernel⟩
theorem q_1820 : Cond.methodLink R_law 69 yX11_fill ∈ zTB := zmem 1820 (by decide +kernel) rfl
theorem q_1821 : Cond.instanceMethod yX11_fill ∈ zTB := zmem 1821 (by decide +kernel) rfl
theorem q_1822 : Cond.selects RX11 yX11_fill yX11_fill ∈ zTB := zmem 1822 (by decide +kernel) rfl
theorem q_1823 : Cond.code yX11_fill cX11_fill 9 (some .int) ∈ zTB := zmem 1823 (by decide +kernel) rfl
theorem k_R_law_69 : zLv R_law 69 RX11 yX11_fill cX11_fill 9 (some .int) 5 := ⟨⟨q_1820, q_1821, q_1822, q_140, q_1823⟩, rfl, ⟨by decide, by decide⟩, by decide +kernel⟩
theorem q_1216 : Cond.methodLink R_law 70 yX10_replay ∈ zTB := zmem 1216 (by decide +kernel) rfl
theorem q_1217 : Cond.instanceMethod yX10_replay ∈ zTB := zmem 1217 (by decide +kernel) rfl
theorem q_1218 : Cond.selects RX10 yX10_replay yX10_replay ∈ zTB := zmem 1218 (by decide +kernel) rfl
theorem q_1219 : Cond.code yX10_replay cX10_replay 9 (some .int) ∈ zTB := zmem 1219 (by decide +kernel) rfl
theorem k_R_law_70 : zLv R_law 70 RX10 yX10_replay cX10_replay 9 (some .int) 5 := ⟨⟨q_1216, q_1217, q_1218, q_129, q_1219⟩, rfl, ⟨by decide, by decide⟩, by decide +kernel⟩
theorem q_1840 : Cond.methodLink R_law 74 yX11_replay ∈ zTB := zmem 1840 (by decide +kernel) rfl
theorem q_1841 : Cond.instanceMethod yX11_replay ∈ zTB := zmem 1841 (by decide +kernel) rfl
theorem q_1842 : Cond.selects RX11 yX11_replay yX11_replay ∈ zTB := zmem 1842 (by decide +kernel) rfl
theorem q_1843 : Cond.code yX11_replay cX11_replay 11 (some .int) ∈ zTB := zmem 1843 (by decide +kernel) rfl
theorem k_R_law_74 : zLv R_law 74 RX11 yX11_replay cX11_replay 11 (some .int) 5 := ⟨⟨q_1840, q_1841, q_1842, q_140, q_1843⟩, rfl, ⟨by decide, by decide⟩, by decide +kernel⟩
theorem q_1191 : Cond.methodLink R_law 75 yX10_path ∈ zTB := zmem 1191 (by decide +kernel) rfl
theorem q_1192 : Cond.instanceMethod yX10_path ∈ zTB := zmem 1192 (by decide +kernel) rfl
theorem q_1193 : Cond.selects RX10 yX10_path yX10_path ∈ zTB := zmem 1193 (by decide +kernel) rfl
theorem q_1194 : Cond.code yX10_path cX10_path 9 (some .int) ∈ zTB := zmem 1194 (by decide +kernel) rfl
theorem k_R_law_75 : zLv R_law 75 RX10 yX10_path cX10_path 9 (some .int) 4 := ⟨⟨q_1191, q_1192, q_1193, q_129, q_1194⟩, rfl, ⟨by decide, by decide⟩, by decide +kernel⟩
theorem q_1844 : Cond.methodLink R_law 79 yX11_path ∈ zTB := zmem 1844 (by decide +kernel) rfl
theorem q_1845 : Cond.instanceMethod yX11_path ∈ zTB := zmem 1845 (by decide +kernel) rfl
theorem q_1846 : Cond.selects RX11 yX11_path yX11_path ∈ zTB := zmem 1846 (by decide +kernel) rfl
theorem q_1847 : Cond.code yX11_path cX11_path 8 (some .int) ∈ zTB := zmem 1847 (by decide +kernel) rfl
theorem k_R_law_79 : zLv R_law 79 RX11 yX11_path cX11_path 8 (some .int) 4 := ⟨⟨q_1844, q_1845, q_1846, q_140, q_1847⟩, rfl, ⟨by decide, by decide⟩, by decide +kernel⟩
theorem q_1085 : Cond.methodLink R_law 80 yX10_own ∈ zTB := zmem 1085 (by decide +kernel) rfl
theorem q_1086 : Cond.instanceMethod yX10_own ∈ zTB := zmem 1086 (by decide +kernel) rfl
theorem q_1087 : Cond.selects RX10 yX10_own yX10_own ∈ zTB := zmem 1087 (by decide +kernel) rfl
theorem q_1088 : Cond.code yX10_own cX10_own 11 (some .long) ∈ zTB := zmem 1088 (by decide +kernel) rfl
theorem k_R_law_80 : zLv R_law 80 RX10 yX10_own cX10_own 11 (some .long) 4 := ⟨⟨q_1085, q_1086, q_1087, q_129, q_1088⟩, rfl, ⟨by decide, by decide⟩, by decide +kernel⟩
theorem q_1848 : Cond.methodLink R_law 83 yX11_own ∈ zTB := zmem 1848 (by decide +kernel) rfl
theorem q_1849 : Cond.instanceMethod yX11_own ∈ zTB := zmem 1849 (by decide +kernel) rfl
theorem q_1850 : Cond.selects RX11 yX11_own yX11_own ∈ zTB := zmem 1850 (by decide +kernel) rfl
theorem q_1851 : Cond.code yX11_own cX11_own 7 (some .long) ∈ zTB := zmem 1851 (by decide +kernel) rfl
theorem k_R_law_83 : zLv R_law 83 RX11 yX11_own cX11_own 7 (some .long) 4 := ⟨⟨q_1848, q_1849, q_1850, q_140, q_1851⟩, rfl, ⟨by decide, by decide⟩, by decide +kernel⟩
theorem dW_480 : decode code 480 = .ok (.aload_n 1, 1) := by decide +kernel
theorem rW_481 : rd5 481 1 := by decide +kernel
theorem rW_486 : rd5 486 2 := by decide +kernel
theorem rW_491 : rd5 491 3 := by decide +kernel
theorem rW_496 : rd5 496 4 := by decide +kernel
theorem rW_501 : rd5 501 5 := by decide +kernel
theorem dW_506 : decode code 506 = .ok (.invokevirtual 49, 3) := by decide +kernel
theorem dW_509 : decode code 509 = .ok (.aload_n 2, 1) := by decide +kernel
theorem rW_510 : rd5 510 1 := by decide +kernel
theorem rW_515 : rd5 515 2 := by decide +kernel
theorem rW_520 : rd5 520 3 := by decide +kernel
theorem rW_525 : rd5 525 4 := by decide +kernel
theorem rW_530 : rd5 530 5 := by decide +kernel
theorem dW_535 : decode code 535 = .ok (.invokevirtual 52, 3) := by decide +kernel
theorem dW_538 : decode code 538 = .ok (.if_icmp .eq 1177, 3) := by decide +kernel
theorem dW_543 : decode code 543 = .ok (.aload_n 1, 1) := by decide +kernel
theorem rW_544 : rd5 544 1 := by decide +kernel
theorem rW_549 : rd5 549 2 := by decide +kernel
theorem rW_554 : rd5 554 3 := by decide +kernel
theorem rW_559 : rd5 559 4 := by decide +kernel
theorem dW_564 : decode code 564 = .ok (.invokevirtual 53, 3) := by decide +kernel
theorem dW_567 : decode code 567 = .ok (.aload_n 2, 1) := by decide +kernel
theorem rW_568 : rd5 568 1 := by decide +kernel
theorem rW_573 : rd5 573 2 := by decide +kernel
theorem rW_578 : rd5 578 3 := by decide +kernel
theorem rW_583 : rd5 583 4 := by decide +kernel
theorem dW_588 : decode code 588 = .ok (.invokevirtual 57, 3) := by decide +kernel
theorem dW_591 : decode code 591 = .ok (.lcmp, 1) := by decide +kernel
theorem dW_592 : decode code 592 = .ok (.ifCond .eq 1123, 3) := by decide +kernel
theorem dW_597 : decode code 597 = .ok (.aload_n 1, 1) := by decide +kernel
theorem rW_598 : rd5 598 1 := by decide +kernel
theorem rW_603 : rd5 603 2 := by decide +kernel
theorem rW_608 : rd5 608 3 := by decide +kernel
theorem dW_613 : decode code 613 = .ok (.invokevirtual 58, 3) := by decide +kernel
theorem dW_616 : decode code 616 = .ok (.aload_n 2, 1) := by decide +kernel
theorem rW_617 : rd5 617 1 := by decide +kernel
theorem rW_622 : rd5 622 2 := by decide +kernel
theorem rW_627 : rd5 627 3 := by decide +kernel
theorem dW_632 : decode code 632 = .ok (.invokevirtual 61, 3) := by decide +kernel
theorem dW_635 : decode code 635 = .ok (.if_icmp .eq 1080, 3) := by decide +kernel
theorem dW_640 : decode code 640 = .ok (.aload_n 1, 1) := by decide +kernel
theorem rW_641 : rd5 641 1 := by decide +kernel
theorem rW_646 : rd5 646 2 := by decide +kernel
theorem rW_651 : rd5 651 3 := by decide +kernel
theorem dW_656 : decode code 656 = .ok (.invokevirtual 62, 3) := by decide +kernel
theorem dW_659 : decode code 659 = .ok (.aload_n 2, 1) := by decide +kernel
theorem rW_660 : rd5 660 1 := by decide +kernel
theorem rW_665 : rd5 665 2 := by decide +kernel
theorem rW_670 : rd5 670 3 := by decide +kernel
theorem dW_675 : decode code 675 = .ok (.invokevirtual 65, 3) := by decide +kernel
theorem dW_678 : decode code 678 = .ok (.if_icmp .eq 1037, 3) := by decide +kernel
theorem dW_683 : decode code 683 = .ok (.aload_n 1, 1) := by decide +kernel
theorem rW_684 : rd5 684 1 := by decide +kernel
theorem rW_689 : rd5 689 2 := by decide +kernel
theorem rW_694 : rd5 694 3 := by decide +kernel
theorem rW_699 : rd5 699 4 := by decide +kernel
theorem rW_704 : rd5 704 5 := by decide +kernel
theorem dW_709 : decode code 709 = .ok (.invokevirtual 66, 3) := by decide +kernel
theorem dW_712 : decode code 712 = .ok (.aload_n 2, 1) := by decide +kernel
theorem rW_713 : rd5 713 1 := by decide +kernel
theorem rW_718 : rd5 718 2 := by decide +kernel
theorem rW_723 : rd5 723 3 := by decide +kernel
theorem rW_728 : rd5 728 4 := by decide +kernel
theorem rW_733 : rd5 733 5 := by decide +kernel
theorem dW_738 : decode code 738 = .ok (.invokevirtual 69, 3) := by decide +kernel
theorem dW_741 : decode code 741 = .ok (.if_icmp .eq 974, 3) := by decide +kernel
theorem dW_746 : decode code 746 = .ok (.aload_n 1, 1) := by decide +kernel
theorem rW_747 : rd5 747 1 := by decide +kernel
theorem rW_752 : rd5 752 2 := by decide +kernel
theorem rW_757 : rd5 757 3 := by decide +kernel
theorem rW_762 : rd5 762 4 := by decide +kernel
theorem rW_767 : rd5 767 5 := by decide +kernel
theorem bW_772 : bo8 772 := by decide +kernel
theorem dW_780 : decode code 780 = .ok (.invokevirtual 70, 3) := by decide +kernel
theorem dW_783 : decode code 783 = .ok (.aload_n 2, 1) := by decide +kernel
theorem rW_784 : rd5 784 1 := by decide +kernel
theorem rW_789 : rd5 789 2 := by decide +kernel
theorem rW_794 : rd5 794 3 := by decide +kernel
theorem rW_799 : rd5 799 4 := by decide +kernel
theorem rW_804 : rd5 804 5 := by decide +kernel
theorem bW_809 : bo8 809 := by decide +kernel
theorem dW_817 : decode code 817 = .ok (.invokevirtual 74, 3) := by decide +kernel
theorem dW_820 : decode code 820 = .ok (.if_icmp .eq 895, 3) := by decide +kernel
theorem dW_825 : decode code 825 = .ok (.aload_n 1, 1) := by decide +kernel
theorem rW_826 : rd5 826 1 := by decide +kernel
theorem rW_831 : rd5 831 2 := by decide +kernel
theorem rW_836 : rd5 836 3 := by decide +kernel
theorem rW_841 : rd5 841 4 := by decide +kernel
theorem dW_846 : decode code 846 = .ok (.invokevirtual 75, 3) := by decide +kernel
theorem dW_849 : decode code 849 = .ok (.aload_n 2, 1) := by decide +kernel
theorem rW_850 : rd5 850 1 := by decide +kernel
theorem rW_855 : rd5 855 2 := by decide +kernel
theorem rW_860 : rd5 860 3 := by decide +kernel
theorem rW_865 : rd5 865 4 := by decide +kernel
theorem dW_870 : decode code 870 = .ok (.invokevirtual 79, 3) := by decide +kernel
theorem dW_873 : decode code 873 = .ok (.if_icmp .eq 842, 3) := by decide +kernel
theorem dW_878 : decode code 878 = .ok (.aload_n 1, 1) := by decide +kernel
theorem rW_879 : rd5 879 1 := by decide +kernel
theorem rW_884 : rd5 884 2 := by decide +kernel
theorem rW_889 : rd5 889 3 := by decide +kernel
theorem rW_894 : rd5 894 4 := by decide +kernel
theorem dW_899 : decode code 899 = .ok (.invokevirtual 80, 3) := by decide +kernel
theorem dW_902 : decode code 902 = .ok (.aload_n 2, 1) := by decide +kernel
theorem rW_903 : rd5 903 1 := by decide +kernel
theorem rW_908 : rd5 908 2 := by decide +kernel
theorem rW_913 : rd5 913 3 := by decide +kernel
theorem rW_918 : rd5 918 4 := by decide +kernel
theorem dW_923 : decode code 923 = .ok (.invokevirtual 83, 3) := by decide +kernel
theorem dW_926 : decode code 926 = .ok (.lcmp, 1) := by decide +kernel
theorem dW_927 : decode code 927 = .ok (.ifCond .eq 788, 3) := by decide +kernel
set_option maxHeartbeats 4000000 in
theorem lc_8 {p : Program} {l : Launch} {e : Env} {s : State} {m : MethodId} {below : List Frame} {meth : Method} {c : Code} {H : Heap} {locs : List Loc} {cells slots : Nat} {Q : State → Prop} {ls : Array Slot} {D : va_G} {cy : Nat → ClassId} {sa : Nat → Nat} {kd len : Nat → Nat} {N b L i : Nat} {xs : Nat → Int32} {X Y : Nat → Int → Int} {R : Nat → Int → Option Nat} (C : zC p m c code 4 s #[Value.ref b] R_law D cy) (hE : zE D cy s.heap.size sa s) (hX : va_X b L xs s s.heap) (hb : b < s.heap.size) (hL : L ≤ 3584) (hi : i + 7 ≤ L) (hcs : cells + 1 ≤ 600000 ∧ slots + 20 ≤ 7302249) (hN : 288 ≤ N) (hG : ∀ n, 288 ≤ n → kd n = 14 ∧ len n = 20) (I : LI X) (hK : KW kd len R) (hH : zH D cy s.heap.size N kd len X Y R H) (hS : va_S (zA s.heap.size) s.heap H locs) (hl : lv_has ls 4 [(3, .int (zI (i : Int))), (2, .ref (s.heap.size + 262)), (1, .ref (s.heap.size + 0)), (0, .ref b)]) (kk : ∀ (N1 : Nat) (X1 Y1 : Nat → Int → Int) (R1 : Nat → Int → Option Nat) (H1 : Heap) (locs1 : List Loc), 288 ≤ N1 → LI X1 → KW kd len R1 → zH D cy s.heap.size N1 kd len X1 Y1 R1 H1 → va_S (zA s.heap.size) s.heap H1 locs1 → W p l e room_1 s m #[Value.ref b] below meth c H1 locs1 (cells + 1) (slots + 20) Q (F0 m 1715 ls [])) : W p l e room_1 s m #[Value.ref b] below meth c H locs cells slots Q (F0 m 480 ls []) := by
  refine lv_aload_n C.1 C.2.1 dW_480 rfl (lv_at hl 2 rfl) ?_
  refine lw_rd5 C hX hb hS (j := 1) rfl (by omega) hL hl rW_481 ?_
  refine lw_rd5 C hX hb hS (j := 2) rfl (by omega) hL hl rW_486 ?_
  refine lw_rd5 C hX hb hS (j := 3) rfl (by omega) hL hl rW_491 ?_
  refine lw_rd5 C hX hb hS (j := 4) rfl (by omega) hL hl rW_496 ?_
  refine lw_rd5 C hX hb hS (j := 5) rfl (by omega) hL hl rW_501 ?_
  refine zgoi (zrunV (As := [.int (zI (sv xs (i + 1))), .int (zI (sv xs (i + 2))), .int (zI (sv xs (i + 3))), .int (zI (sv xs (i + 4))), .int (zI (sv xs (i + 5)))]) (rest := []) C hE hH hS hl.1 (c_X10_state (l := l) (Z := X) (q := 262) (hK.1 N hN) (sv xs (i + 1)) (zI_rg _) (sv xs (i + 2)) (zI_rg _) (sv xs (i + 3)) (zI_rg _) (sv xs (i + 4)) (zI_rg _) (sv xs (i + 5)) (zI_rg _) (LI_q I)) k_R_law_49 ⟨Nat.le_of_ble_eq_true rfl, Nat.le_of_ble_eq_true rfl⟩ (zW_n (hK.1 N hN)) (zW_k (hK.1 N hN)) rfl rfl rfl (Nat.le_of_ble_eq_true rfl) dW_506 ⟨by have := hcs.1; show cells ≤ 600000; omega, by have := hcs.2; show slots ≤ 7302249; omega⟩) hS (fun r1 X1 Y1 R1 H locs hr1 hq1 hH hS => ?_)
  obtain ⟨w1, e1, qk⟩ := hq1
  have I1 : LI X1 := LI_qK I qk
  have K1 : KW kd len R1 := KW_w (wcK_wf w1) hK
  have o := vAll_o I1.1.2
  refine lv_aload_n C.1 C.2.1 dW_509 rfl (lv_at hl 1 rfl) ?_
  refine lw_rd5 C hX hb hS (j := 1) rfl (by omega) hL hl rW_510 ?_
  refine lw_rd5 C hX hb hS (j := 2) rfl (by omega) hL hl rW_515 ?_
  refine lw_rd5 C hX hb hS (j := 3) rfl (by omega) hL hl rW_520 ?_
  refine lw_rd5 C hX hb hS (j := 4) rfl (by omega) hL hl rW_525 ?_
  refine lw_rd5 C hX hb hS (j := 5) rfl (by omega) hL hl rW_530 ?_
  refine zgoi (zrunV (As := [.int (zI (sv xs (i + 1))), .int (zI (sv xs (i + 2))), .int (zI (sv xs (i + 3))), .int (zI (sv xs (i + 4))), .int (zI (sv xs (i + 5)))]) (rest := [.int (zI r1)]) C hE hH hS hl.1 (c_X11_state (l := l) (K1.2 N hN) (sv xs (i + 1)) (zI_rg _) (sv xs (i + 2)) (zI_rg _) (sv xs (i + 3)) (zI_rg _) (sv xs (i + 4)) (zI_rg _) (sv xs (i + 5)) (zI_rg _) ⟨o.1, o.2.1⟩) k_R_law_52 ⟨Nat.le_of_ble_eq_true rfl, Nat.le_of_ble_eq_true rfl⟩ (zM_n0 (K1.2 N hN)) (zM_k0 (K1.2 N hN)) rfl rfl rfl (Nat.le_of_ble_eq_true rfl) dW_535 ⟨by have := hcs.1; show cells ≤ 600000; omega, by have := hcs.2; show slots ≤ 7302249; omega⟩) hS (fun r2 X2 Y2 R2 H locs hr2 hq2 hH hS => ?_)
  have hz2 : R2 = R1 := hq2.1
  obtain ⟨e2, pk⟩ := hq2.2
  have I2 : LI X2 := LI_pK I1 pk
  have ef := rState_o (i := 262) (X := X) (X1 := X1) (fun z hz => qk.1 z (Or.inr (by omega)))
  have er : r1 = r2 := by rw [e2, ef]; exact e1
  have K2 : KW kd len R2 := by rw [hz2]; exact K1
  refine zd_icmp_eq C hr1 hr2 1715 dW_538 (by decide) (fun _ => ?_) (fun q => absurd er q)
  exact W_raise (Nat.le_add_right _ _) (Nat.le_add_right _ _) (kk N X2 Y2 R2 H locs hN I2 K2 hH hS)
set_option maxHeartbeats 4000000 in
theorem lc_9 {p : Program} {l : Launch} {e : Env} {s : State} {m : MethodId} {below : List Frame} {meth : Method} {c : Code} {H : Heap} {locs : List Loc} {cells slots : Nat} {Q : State → Prop} {ls : Array Slot} {D : va_G} {cy : Nat → ClassId} {sa : Nat → Nat} {kd len : Nat → Nat} {N b L i : Nat} {xs : Nat → Int32} {X Y : Nat → Int → Int} {R : Nat → Int → Option Nat} (C : zC p m c code 4 s #[Value.ref b] R_law D cy) (hE : zE D cy s.heap.size sa s) (hX : va_X b L xs s s.heap) (hb : b < s.heap.size) (hL : L ≤ 3584) (hi : i + 7 ≤ L) (hcs : cells + 1 ≤ 600000 ∧ slots + 20 ≤ 7302249) (hN : 288 ≤ N) (hG : ∀ n, 288 ≤ n → kd n = 14 ∧ len n = 20) (I : LI X) (hK : KW kd len R) (hH : zH D cy s.heap.size N kd len X Y R H) (hS : va_S (zA s.heap.size) s.heap H locs) (hl : lv_has ls 4 [(3, .int (zI (i : Int))), (2, .ref (s.heap.size + 262)), (1, .ref (s.heap.size + 0)), (0, .ref b)]) (kk : ∀ (N1 : Nat) (X1 Y1 : Nat → Int → Int) (R1 : Nat → Int → Option Nat) (H1 : Heap) (locs1 : List Loc), 288 ≤ N1 → LI X1 → KW kd len R1 → zH D cy s.heap.size N1 kd len X1 Y1 R1 H1 → va_S (zA s.heap.size) s.heap H1 locs1 → W p l e room_1 s m #[Value.ref b] below meth c H1 locs1 (cells + 1) (slots + 20) Q (F0 m 1715 ls [])) : W p l e room_1 s m #[Value.ref b] below meth c H locs cells slots Q (F0 m 543 ls []) := by
  refine lv_aload_n C.1 C.2.1 dW_543 rfl (lv_at hl 2 rfl) ?_
  refine lw_rd5 C hX hb hS (j := 1) rfl (by omega) hL hl rW_544 ?_
  refine lw_rd5 C hX hb hS (j := 2) rfl (by omega) hL hl rW_549 ?_
  refine lw_rd5 C hX hb hS (j := 3) rfl (by omega) hL hl rW_554 ?_
  refine lw_rd5 C hX hb hS (j := 4) rfl (by omega) hL hl rW_559 ?_
  refine zgol (zrunV (As := [.int (zI (sv xs (i + 1))), .int (zI (sv xs (i + 2))), .int (zI (sv xs (i + 3))), .int (zI (sv xs (i + 4)))]) (rest := []) C hE hH hS hl.1 (c_X10_work (l := l) (Z := X) (q := 262) (hK.1 N hN) (sv xs (i + 1)) (zI_rg _) (sv xs (i + 2)) (zI_rg _) (sv xs (i + 3)) (zI_rg _) (sv xs (i + 4)) (zI_rg _) (LI_q I)) k_R_law_53 ⟨Nat.le_of_ble_eq_true rfl, Nat.le_of_ble_eq_true rfl⟩ (zW_n (hK.1 N hN)) (zW_k (hK.1 N hN)) rfl rfl rfl (Nat.le_of_ble_eq_true rfl) dW_564 ⟨by have := hcs.1; show cells ≤ 600000; omega, by have := hcs.2; show slots ≤ 7302249; omega⟩) hS (fun r1 X1 Y1 R1 H locs hr1 hq1 hH hS => ?_)
  obtain ⟨w1, e1, qk⟩ := hq1
  have I1 : LI X1 := LI_qK I qk
  have K1 : KW kd len R1 := KW_w (wcK_wg w1) hK
  have o := vAll_o I1.1.2
  refine lv_aload_n C.1 C.2.1 dW_567 rfl (lv_at hl 1 rfl) ?_
  refine lw_rd5 C hX hb hS (j := 1) rfl (by omega) hL hl rW_568 ?_
  refine lw_rd5 C hX hb hS (j := 2) rfl (by omega) hL hl rW_573 ?_
  refine lw_rd5 C hX hb hS (j := 3) rfl (by omega) hL hl rW_578 ?_
  refine lw_rd5 C hX hb hS (j := 4) rfl (by omega) hL hl rW_583 ?_
  refine zgol (zrunV (As := [.int (zI (sv xs (i + 1))), .int (zI (sv xs (i + 2))), .int (zI (sv xs (i + 3))), .int (zI (sv xs (i + 4)))]) (rest := [.long (zL r1)]) C hE hH hS hl.1 (c_X11_work (l := l) (K1.2 N hN) (sv xs (i + 1)) (zI_rg _) (sv xs (i + 2)) (zI_rg _) (sv xs (i + 3)) (zI_rg _) (sv xs (i + 4)) (zI_rg _) o.1) k_R_law_57 ⟨Nat.le_of_ble_eq_true rfl, Nat.le_of_ble_eq_true rfl⟩ (zM_n0 (K1.2 N hN)) (zM_k0 (K1.2 N hN)) rfl rfl rfl (Nat.le_of_ble_eq_true rfl) dW_588 ⟨by have := hcs.1; show cells ≤ 600000; omega, by have := hcs.2; show slots ≤ 7302249; omega⟩) hS (fun r2 X2 Y2 R2 H locs hr2 hq2 hH hS => ?_)
  have hz2 : R2 = R1 := hq2.1
  obtain ⟨e2, pk⟩ := hq2.2
  have I2 : LI X2 := LI_pK I1 pk
  have ef := rWork_o (i := 262) (X := X) (X1 := X1) (fun z hz => qk.1 z (Or.inr (by omega)))
  have er : r1 = r2 := by rw [e2, ef]; exact e1
  have K2 : KW kd len R2 := by rw [hz2]; exact K1
  refine zd_lcmp C hr1 hr2 dW_591 ?_
  refine zd_ifL_eq C 1715 dW_592 (by decide) (fun _ => ?_) (fun q => absurd er q)
  exact W_raise (Nat.le_add_right _ _) (Nat.le_add_right _ _) (kk N X2 Y2 R2 H locs hN I2 K2 hH hS)
set_option maxHeartbeats 4000000 in
theorem lc_10 {p : Program} {l : Launch} {e : Env} {s : State} {m : MethodId} {below : List Frame} {meth : Method} {c : Code} {H : Heap} {locs : List Loc} {cells slots : Nat} {Q : State → Prop} {ls : Array Slot} {D : va_G} {cy : Nat → ClassId} {sa : Nat → Nat} {kd len : Nat → Nat} {N b L i : Nat} {xs : Nat → Int32} {X Y : Nat → Int → Int} {R : Nat → Int → Option Nat} (C : zC p m c code 4 s #[Value.ref b] R_law D cy) (hE : zE D cy s.heap.size sa s) (hX : va_X b L xs s s.heap) (hb : b < s.heap.size) (hL : L ≤ 3584) (hi : i + 7 ≤ L) (hcs : cells + 1 ≤ 600000 ∧ slots + 20 ≤ 7302249) (hN : 288 ≤ N) (hG : ∀ n, 288 ≤ n → kd n = 14 ∧ len n = 20) (I : LI X) (hK : KW kd len R) (hH : zH D cy s.heap.size N kd len X Y R H) (hS : va_S (zA s.heap.size) s.heap H locs) (hl : lv_has ls 4 [(3, .int (zI (i : Int))), (2, .ref (s.heap.size + 262)), (1, .ref (s.heap.size + 0)), (0, .ref b)]) (kk : ∀ (N1 : Nat) (X1 Y1 : Nat → Int → Int) (R1 : Nat → Int → Option Nat) (H1 : Heap) (locs1 : List Loc), 288 ≤ N1 → LI X1 → KW kd len R1 → zH D cy s.heap.size N1 kd len X1 Y1 R1 H1 → va_S (zA s.heap.size) s.heap H1 locs1 → W p l e room_1 s m #[Value.ref b] below meth c H1 locs1 (cells + 1) (slots + 20) Q (F0 m 1715 ls [])) : W p l e room_1 s m #[Value.ref b] below meth c H locs cells slots Q (F0 m 597 ls []) := by
  refine lv_aload_n C.1 C.2.1 dW_597 rfl (lv_at hl 2 rfl) ?_
  refine lw_rd5 C hX hb hS (j := 1) rfl (by omega) hL hl rW_598 ?_
  refine lw_rd5 C hX hb hS (j := 2) rfl (by omega) hL hl rW_603 ?_
  refine lw_rd5 C hX hb hS (j := 3) rfl (by omega) hL hl rW_608 ?_
  refine zgoi (zrunV (As := [.int (zI (sv xs (i + 1))), .int (zI (sv xs (i + 2))), .int (zI (sv xs (i + 3)))]) (rest := []) C hE hH hS hl.1 (c_X10_tip (l := l) (Z := X) (q := 262) (hK.1 N hN) (sv xs (i + 1)) (zI_rg _) (sv xs (i + 2)) (zI_rg _) (sv xs (i + 3)) (zI_rg _) (LI_q I)) k_R_law_58 ⟨Nat.le_of_ble_eq_true rfl, Nat.le_of_ble_eq_true rfl⟩ (zW_n (hK.1 N hN)) (zW_k (hK.1 N hN)) rfl rfl rfl (Nat.le_of_ble_eq_true rfl) dW_613 ⟨by have := hcs.1; show cells ≤ 600000; omega, by have := hcs.2; show slots ≤ 7302249; omega⟩) hS (fun r1 X1 Y1 R1 H locs hr1 hq1 hH hS => ?_)
  obtain ⟨w1, e1, qk⟩ := hq1
  have I1 : LI X1 := LI_qK I qk
  have K1 : KW kd len R1 := KW_w (wcK_wg w1) hK
  have o := vAll_o I1.1.2
  refine lv_aload_n C.1 C.2.1 dW_616 rfl (lv_at hl 1 rfl) ?_
  refine lw_rd5 C hX hb hS (j := 1) rfl (by omega) hL hl rW_617 ?_
  refine lw_rd5 C hX hb hS (j := 2) rfl (by omega) hL hl rW_622 ?_
  refine lw_rd5 C hX hb hS (j := 3) rfl (by omega) hL hl rW_627 ?_
  refine zgoi (zrunV (As := [.int (zI (sv xs (i + 1))), .int (zI (sv xs (i + 2))), .int (zI (sv xs (i + 3)))]) (rest := [.int (zI r1)]) C hE hH hS hl.1 (c_X11_tip (l := l) (K1.2 N hN) (sv xs (i + 1)) (zI_rg _) (sv xs (i + 2)) (zI_rg _) (sv xs (i + 3)) (zI_rg _) o.1) k_R_law_61 ⟨Nat.le_of_ble_eq_true rfl, Nat.le_of_ble_eq_true rfl⟩ (zM_n0 (K1.2 N hN)) (zM_k0 (K1.2 N hN)) rfl rfl rfl (Nat.le_of_ble_eq_true rfl) dW_632 ⟨by have := hcs.1; show cells ≤ 600000; omega, by have := hcs.2; show slots ≤ 7302249; omega⟩) hS (fun r2 X2 Y2 R2 H locs hr2 hq2 hH hS => ?_)
  have hz2 : R2 = R1 := hq2.1
  obtain ⟨e2, pk⟩ := hq2.2
  have I2 : LI X2 := LI_pK I1 pk
  have ef := rTipC_o (i := 262) (X := X) (X1 := X1) (fun z hz => qk.1 z (Or.inr (by omega)))
  have er : r1 = r2 := by rw [e2, ef]; exact e1
  have K2 : KW kd len R2 := by rw [hz2]; exact K1
  refine zd_icmp_eq C hr1 hr2 1715 dW_635 (by decide) (fun _ => ?_) (fun q => absurd er q)
  exact W_raise (Nat.le_add_right _ _) (Nat.le_add_right _ _) (kk N X2 Y2 R2 H locs hN I2 K2 hH hS)
set_option maxHeartbeats 4000000 in
theorem lc_11 {p : Program} {l : Launch} {e : Env} {s : State} {m : MethodId} {below : List Frame} {meth : Method} {c : Code} {H : Heap} {locs : List Loc} {cells slots : Nat} {Q : State → Prop} {ls : Array Slot} {D : va_G} {cy : Nat → ClassId} {sa : Nat → Nat} {kd len : Nat → Nat} {N b L i : Nat} {xs : Nat → Int32} {X Y : Nat → Int → Int} {R : Nat → Int → Option Nat} (C : zC p m c code 4 s #[Value.ref b] R_law D cy) (hE : zE D cy s.heap.size sa s) (hX : va_X b L xs s s.heap) (hb : b < s.heap.size) (hL : L ≤ 3584) (hi : i + 7 ≤ L) (hcs : cells + 1 ≤ 600000 ∧ slots + 20 ≤ 7302249) (hN : 288 ≤ N) (hG : ∀ n, 288 ≤ n → kd n = 14 ∧ len n = 20) (I : LI X) (hK : KW kd len R) (hH : zH D cy s.heap.size N kd len X Y R H) (hS : va_S (zA s.heap.size) s.heap H locs) (hl : lv_has ls 4 [(3, .int (zI (i : Int))), (2, .ref (s.heap.size + 262)), (1, .ref (s.heap.size + 0)), (0, .ref b)]) (kk : ∀ (N1 : Nat) (X1 Y1 : Nat → Int → Int) (R1 : Nat → Int → Option Nat) (H1 : Heap) (locs1 : List Loc), 288 ≤ N1 → LI X1 → KW kd len R1 → zH D cy s.heap.size N1 kd len X1 Y1 R1 H1 → va_S (zA s.heap.size) s.heap H1 locs1 → W p l e room_1 s m #[Value.ref b] below meth c H1 locs1 (cells + 1) (slots + 20) Q (F0 m 1715 ls [])) : W p l e room_1 s m #[Value.ref b] below meth c H locs cells slots Q (F0 m 640 ls []) := by
  refine lv_aload_n C.1 C.2.1 dW_640 rfl (lv_at hl 2 rfl) ?_
  refine lw_rd5 C hX hb hS (j := 1) rfl (by omega) hL hl rW_641 ?_
  refine lw_rd5 C hX hb hS (j := 2) rfl (by omega) hL hl rW_646 ?_
  refine lw_rd5 C hX hb hS (j := 3) rfl (by omega) hL hl rW_651 ?_
  refine zgoi (zrunV (As := [.int (zI (sv xs (i + 1))), .int (zI (sv xs (i + 2))), .int (zI (sv xs (i + 3)))]) (rest := []) C hE hH hS hl.1 (c_X10_pool (l := l) (Z := X) (q := 262) (hK.1 N hN) (sv xs (i + 1)) (zI_rg _) (sv xs (i + 2)) (zI_rg _) (sv xs (i + 3)) (zI_rg _) (LI_q I)) k_R_law_62 ⟨Nat.le_of_ble_eq_true rfl, Nat.le_of_ble_eq_true rfl⟩ (zW_n (hK.1 N hN)) (zW_k (hK.1 N hN)) rfl rfl rfl (Nat.le_of_ble_eq_true rfl) dW_656 ⟨by have := hcs.1; show cells ≤ 600000; omega, by have := hcs.2; show slots ≤ 7302249; omega⟩) hS (fun r1 X1 Y1 R1 H locs hr1 hq1 hH hS => ?_)
  obtain ⟨e1, hq⟩ := hq1
  have hx : X1 = X := congrArg (fun z => z.1) hq
  have hy : Y1 = Y := congrArg (fun z => z.2.1) hq
  have hz : R1 = R := congrArg (fun z => z.2.2) hq
  rw [hx, hy, hz] at hH
  have o := vAll_o I.1.2
  refine lv_aload_n C.1 C.2.1 dW_659 rfl (lv_at hl 1 rfl) ?_
  refine lw_rd5 C hX hb hS (j := 1) rfl (by omega) hL hl rW_660 ?_
  refine lw_rd5 C hX hb hS (j := 2) rfl (by omega) hL hl rW_665 ?_
  refine lw_rd5 C hX hb hS (j := 3) rfl (by omega) hL hl rW_670 ?_
  refine zgoi (zrunV (As := [.int (zI (sv xs (i + 1))), .int (zI (sv xs (i + 2))), .int (zI (sv xs (i + 3)))]) (rest := [.int (zI r1)]) C hE hH hS hl.1 (c_X11_pool (l := l) (hK.2 N hN) (sv xs (i + 1)) (zI_rg _) (sv xs (i + 2)) (zI_rg _) (sv xs (i + 3)) (zI_rg _) ⟨o.1, o.2.2.2⟩) k_R_law_65 ⟨Nat.le_of_ble_eq_true rfl, Nat.le_of_ble_eq_true rfl⟩ (zM_n0 (hK.2 N hN)) (zM_k0 (hK.2 N hN)) rfl rfl rfl (Nat.le_of_ble_eq_true rfl) dW_675 ⟨by have := hcs.1; show cells ≤ 600000; omega, by have := hcs.2; show slots ≤ 7302249; omega⟩) hS (fun r2 X2 Y2 R2 H locs hr2 hq2 hH hS => ?_)
  have hz2 : R2 = R := hq2.2.1
  obtain ⟨e2, pk⟩ := hq2.2.2
  have I2 : LI X2 := LI_pK I pk
  have er : r1 = r2 := e1.trans e2.symm
  have K2 : KW kd len R2 := by rw [hz2]; exact hK
  refine zd_icmp_eq C hr1 hr2 1715 dW_678 (by decide) (fun _ => ?_) (fun q => absurd er q)
  exact W_raise (Nat.le_add_right _ _) (Nat.le_add_right _ _) (kk N X2 Y2 R2 H locs hN I2 K2 hH hS)
set_option maxHeartbeats 4000000 in
theorem lc_12 {p : Program} {l : Launch} {e : Env} {s : State} {m : MethodId} {below : List Frame} {meth : Method} {c : Code} {H : Heap} {locs : List Loc} {cells slots : Nat} {Q : State → Prop} {ls : Array Slot} {D : va_G} {cy : Nat → ClassId} {sa : Nat → Nat} {kd len : Nat → Nat} {N b L i : Nat} {xs : Nat → Int32} {X Y : Nat → Int → Int} {R : Nat → Int → Option Nat} (C : zC p m c code 4 s #[Value.ref b] R_law D cy) (hE : zE D cy s.heap.size sa s) (hX : va_X b L xs s s.heap) (hb : b < s.heap.size) (hL : L ≤ 3584) (hi : i + 7 ≤ L) (hcs : cells + 1 ≤ 600000 ∧ slots + 20 ≤ 7302249) (hN : 288 ≤ N) (hG : ∀ n, 288 ≤ n → kd n = 14 ∧ len n = 20) (I : LI X) (hK : KW kd len R) (hH : zH D cy s.heap.size N kd len X Y R H) (hS : va_S (zA s.heap.size) s.heap H locs) (hl : lv_has ls 4 [(3, .int (zI (i : Int))), (2, .ref (s.heap.size + 262)), (1, .ref (s.heap.size + 0)), (0, .ref b)]) (kk : ∀ (N1 : Nat) (X1 Y1 : Nat → Int → Int) (R1 : Nat → Int → Option Nat) (H1 : Heap) (locs1 : List Loc), 288 ≤ N1 → LI X1 → KW kd len R1 → zH D cy s.heap.size N1 kd len X1 Y1 R1 H1 → va_S (zA s.heap.size) s.heap H1 locs1 → W p l e room_1 s m #[Value.ref b] below meth c H1 locs1 (cells + 1) (slots + 20) Q (F0 m 1715 ls [])) : W p l e room_1 s m #[Value.ref b] below meth c H locs cells slots Q (F0 m 683 ls []) := by
  refine lv_aload_n C.1 C.2.1 dW_683 rfl (lv_at hl 2 rfl) ?_
  refine lw_rd5 C hX hb hS (j := 1) rfl (by omega) hL hl rW_684 ?_
  refine lw_rd5 C hX hb hS (j := 2) rfl (by omega) hL hl rW_689 ?_
  refine lw_rd5 C hX hb hS (j := 3) rfl (by omega) hL hl rW_694 ?_
  refine lw_rd5 C hX hb hS (j := 4) rfl (by omega) hL hl rW_699 ?_
  refine lw_rd5 C hX hb hS (j := 5) rfl (by omega) hL hl rW_704 ?_
  refine zgoi (zrunV (As := [.int (zI (sv xs (i + 1))), .int (zI (sv xs (i + 2))), .int (zI (sv xs (i + 3))), .int (zI (sv xs (i + 4))), .int (zI (sv xs (i + 5)))]) (rest := []) C hE hH hS hl.1 (c_X10_fill (l := l) (Z := X) (q := 262) (hK.1 N hN) (sv xs (i + 1)) (zI_rg _) (sv xs (i + 2)) (zI_rg _) (sv xs (i + 3)) (zI_rg _) (sv xs (i + 4)) (zI_rg _) (sv xs (i + 5)) (zI_rg _) (LI_q I)) k_R_law_66 ⟨Nat.le_of_ble_eq_true rfl, Nat.le_of_ble_eq_true rfl⟩ (zW_n (hK.1 N hN)) (zW_k (hK.1 N hN)) rfl rfl rfl (Nat.le_of_ble_eq_true rfl) dW_709 ⟨by have := hcs.1; show cells ≤ 600000; omega, by have := hcs.2; show slots ≤ 7302249; omega⟩) hS (fun r1 X1 Y1 R1 H locs hr1 hq1 hH hS => ?_)
  obtain ⟨w1, e1, qk⟩ := hq1
  have I1 : LI X1 := LI_qK I qk
  have K1 : KW kd len R1 := KW_w ( w1) hK
  have o := vAll_o I1.1.2
  refine lv_aload_n C.1 C.2.1 dW_712 rfl (lv_at hl 1 rfl) ?_
  refine lw_rd5 C hX hb hS (j := 1) rfl (by omega) hL hl rW_713 ?_
  refine lw_rd5 C hX hb hS (j := 2) rfl (by omega) hL hl rW_718 ?_
  refine lw_rd5 C hX hb hS (j := 3) rfl (by omega) hL hl rW_723 ?_
  refine lw_rd5 C hX hb hS (j := 4) rfl (by omega) hL hl rW_728 ?_
  refine lw_rd5 C hX hb hS (j := 5) rfl (by omega) hL hl rW_733 ?_
  refine zgoi (zrunV (As := [.int (zI (sv xs (i + 1))), .int (zI (sv xs (i + 2))), .int (zI (sv xs (i + 3))), .int (zI (sv xs (i + 4))), .int (zI (sv xs (i + 5)))]) (rest := [.int (zI r1)]) C hE hH hS hl.1 (c_X11_fill (l := l) (K1.2 N hN) (sv xs (i + 1)) (zI_rg _) (sv xs (i + 2)) (zI_rg _) (sv xs (i + 3)) (zI_rg _) (sv xs (i + 4)) (zI_rg _) (sv xs (i + 5)) (zI_rg _) ⟨o.1, o.2.2.2⟩) k_R_law_69 ⟨Nat.le_of_ble_eq_true rfl, Nat.le_of_ble_eq_true rfl⟩ (zM_n0 (K1.2 N hN)) (zM_k0 (K1.2 N hN)) rfl rfl rfl (Nat.le_of_ble_eq_true rfl) dW_738 ⟨by have := hcs.1; show cells ≤ 600000; omega, by have := hcs.2; show slots ≤ 7302249; omega⟩) hS (fun r2 X2 Y2 R2 H locs hr2 hq2 hH hS => ?_)
  have hz2 : R2 = R1 := hq2.1
  obtain ⟨e2, pk⟩ := hq2.2
  have I2 : LI X2 := LI_pK I1 pk
  have ef := rFill_o (i := 262) (X := X) (X1 := X1) (fun z hz => qk.1 z (Or.inr (by omega)))
  have er : r1 = r2 := by rw [e2, ef]; exact e1
  have K2 : KW kd len R2 := by rw [hz2]; exact K1
  refine zd_icmp_eq C hr1 hr2 1715 dW_741 (by decide) (fun _ => ?_) (fun q => absurd er q)
  exact W_raise (Nat.le_add_right _ _) (Nat.le_add_right _ _) (kk N X2 Y2 R2 H locs hN I2 K2 hH hS)
set_option maxHeartbeats 4000000 in
theorem lc_13 {p : Program} {l : Launch} {e : Env} {s : State} {m : MethodId} {below : List Frame} {meth : Method} {c : Code} {H : Heap} {locs : List Loc} {cells slots : Nat} {Q : State → Prop} {ls : Array Slot} {D : va_G} {cy : Nat → ClassId} {sa : Nat → Nat} {kd len : Nat → Nat} {N b L i : Nat} {xs : Nat → Int32} {X Y : Nat → Int → Int} {R : Nat → Int → Option Nat} (C : zC p m c code 4 s #[Value.ref b] R_law D cy) (hE : zE D cy s.heap.size sa s) (hX : va_X b L xs s s.heap) (hb : b < s.heap.size) (hL : L ≤ 3584) (hi : i + 7 ≤ L) (hcs : cells + 1 ≤ 600000 ∧ slots + 20 ≤ 7302249) (hN : 288 ≤ N) (hG : ∀ n, 288 ≤ n → kd n = 14 ∧ len n = 20) (I : LI X) (hK : KW kd len R) (hH : zH D cy s.heap.size N kd len X Y R H) (hS : va_S (zA s.heap.size) s.heap H locs) (hl : lv_has ls 4 [(3, .int (zI (i : Int))), (2, .ref (s.heap.size + 262)), (1, .ref (s.heap.size + 0)), (0, .ref b)]) (kk : ∀ (N1 : Nat) (X1 Y1 : Nat → Int → Int) (R1 : Nat → Int → Option Nat) (H1 : Heap) (locs1 : List Loc), 288 ≤ N1 → LI X1 → KW kd len R1 → zH D cy s.heap.size N1 kd len X1 Y1 R1 H1 → va_S (zA s.heap.size) s.heap H1 locs1 → W p l e room_1 s m #[Value.ref b] below meth c H1 locs1 (cells + 1) (slots + 20) Q (F0 m 1715 ls [])) : W p l e room_1 s m #[Value.ref b] below meth c H locs cells slots Q (F0 m 746 ls []) := by
  refine lv_aload_n C.1 C.2.1 dW_746 rfl (lv_at hl 2 rfl) ?_
  refine lw_rd5 C hX hb hS (j := 1) rfl (by omega) hL hl rW_747 ?_
  refine lw_rd5 C hX hb hS (j := 2) rfl (by omega) hL hl rW_752 ?_
  refine lw_rd5 C hX hb hS (j := 3) rfl (by omega) hL hl rW_757 ?_
  refine lw_rd5 C hX hb hS (j := 4) rfl (by omega) hL hl rW_762 ?_
  refine lw_rd5 C hX hb hS (j := 5) rfl (by omega) hL hl rW_767 ?_
  refine lw_bo C (zI_rg _) bW_772 ?_
  refine zgoi (zrunV (As := [.int (zI (sv xs (i + 1))), .int (zI (sv xs (i + 2))), .int (zI (sv xs (i + 3))), .int (zI (sv xs (i + 4))), .int (zI (bz (decide (sv xs (i + 5) ≠ 0))))]) (rest := []) C hE hH hS hl.1 (c_X10_replay (l := l) (Z := X) (q := 262) (hK.1 N hN) (sv xs (i + 1)) (zI_rg _) (sv xs (i + 2)) (zI_rg _) (sv xs (i + 3)) (zI_rg _) (sv xs (i + 4)) (zI_rg _) (decide (sv xs (i + 5) ≠ 0)) (LI_q I)) k_R_law_70 ⟨Nat.le_of_ble_eq_true rfl, Nat.le_of_ble_eq_true rfl⟩ (zW_n (hK.1 N hN)) (zW_k (hK.1 N hN)) rfl rfl rfl (Nat.le_of_ble_eq_true rfl) dW_780 ⟨by have := hcs.1; show cells ≤ 600000; omega, by have := hcs.2; show slots ≤ 7302249; omega⟩) hS (fun r1 X1 Y1 R1 H locs hr1 hq1 hH hS => ?_)
  obtain ⟨w1, e1, qk⟩ := hq1
  have I1 : LI X1 := LI_qK I qk
  have K1 : KW kd len R1 := KW_w (wcK_wg w1) hK
  have o := vAll_o I1.1.2
  refine lv_aload_n C.1 C.2.1 dW_783 rfl (lv_at hl 1 rfl) ?_
  refine lw_rd5 C hX hb hS (j := 1) rfl (by omega) hL hl rW_784 ?_
  refine lw_rd5 C hX hb hS (j := 2) rfl (by omega) hL hl rW_789 ?_
  refine lw_rd5 C hX hb hS (j := 3) rfl (by omega) hL hl rW_794 ?_
  refine lw_rd5 C hX hb hS (j := 4) rfl (by omega) hL hl rW_799 ?_
  refine lw_rd5 C hX hb hS (j := 5) rfl (by omega) hL hl rW_804 ?_
  refine lw_bo C (zI_rg _) bW_809 ?_
  refine zgoi (zrunV (As := [.int (zI (sv xs (i + 1))), .int (zI (sv xs (i + 2))), .int (zI (sv xs (i + 3))), .int (zI (sv xs (i + 4))), .int (zI (bz (decide (sv xs (i + 5) ≠ 0))))]) (rest := [.int (zI r1)]) C hE hH hS hl.1 (c_X11_replay (l := l) (K1.2 N hN) (sv xs (i + 1)) (zI_rg _) (sv xs (i + 2)) (zI_rg _) (sv xs (i + 3)) (zI_rg _) (sv xs (i + 4)) (zI_rg _) (decide (sv xs (i + 5) ≠ 0)) o.1) k_R_law_74 ⟨Nat.le_of_ble_eq_true rfl, Nat.le_of_ble_eq_true rfl⟩ (zM_n0 (K1.2 N hN)) (zM_k0 (K1.2 N hN)) rfl rfl rfl (Nat.le_of_ble_eq_true rfl) dW_817 ⟨by have := hcs.1; show cells ≤ 600000; omega, by have := hcs.2; show slots ≤ 7302249; omega⟩) hS (fun r2 X2 Y2 R2 H locs hr2 hq2 hH hS => ?_)
  have hz2 : R2 = R1 := hq2.1
  obtain ⟨e2, pk⟩ := hq2.2
  have I2 : LI X2 := LI_pK I1 pk
  have ef := rReplay_o (i := 262) (X := X) (X1 := X1) (fun z hz => qk.1 z (Or.inr (by omega)))
  have er : r1 = r2 := by rw [e2, ef]; exact e1
  have K2 : KW kd len R2 := by rw [hz2]; exact K1
  refine zd_icmp_eq C hr1 hr2 1715 dW_820 (by decide) (fun _ => ?_) (fun q => absurd er q)
  exact W_raise (Nat.le_add_right _ _) (Nat.le_add_right _ _) (kk N X2 Y2 R2 H locs hN I2 K2 hH hS)
set_option maxHeartbeats 4000000 in
theorem lc_14 {p : Program} {l : Launch} {e : Env} {s : State} {m : MethodId} {below : List Frame} {meth : Method} {c : Code} {H : Heap} {locs : List Loc} {cells slots : Nat} {Q : State → Prop} {ls : Array Slot} {D : va_G} {cy : Nat → ClassId} {sa : Nat → Nat} {kd len : Nat → Nat} {N b L i : Nat} {xs : Nat → Int32} {X Y : Nat → Int → Int} {R : Nat → Int → Option Nat} (C : zC p m c code 4 s #[Value.ref b] R_law D cy) (hE : zE D cy s.heap.size sa s) (hX : va_X b L xs s s.heap) (hb : b < s.heap.size) (hL : L ≤ 3584) (hi : i + 7 ≤ L) (hcs : cells + 1 ≤ 600000 ∧ slots + 20 ≤ 7302249) (hN : 288 ≤ N) (hG : ∀ n, 288 ≤ n → kd n = 14 ∧ len n = 20) (I : LI X) (hK : KW kd len R) (hH : zH D cy s.heap.size N kd len X Y R H) (hS : va_S (zA s.heap.size) s.heap H locs) (hl : lv_has ls 4 [(3, .int (zI (i : Int))), (2, .ref (s.heap.size + 262)), (1, .ref (s.heap.size + 0)), (0, .ref b)]) (kk : ∀ (N1 : Nat) (X1 Y1 : Nat → Int → Int) (R1 : Nat → Int → Option Nat) (H1 : Heap) (locs1 : List Loc), 288 ≤ N1 → LI X1 → KW kd len R1 → zH D cy s.heap.size N1 kd len X1 Y1 R1 H1 → va_S (zA s.heap.size) s.heap H1 locs1 → W p l e room_1 s m #[Value.ref b] below meth c H1 locs1 (cells + 1) (slots + 20) Q (F0 m 1715 ls [])) : W p l e room_1 s m #[Value.ref b] below meth c H locs cells slots Q (F0 m 825 ls []) := by
  refine lv_aload_n C.1 C.2.1 dW_825 rfl (lv_at hl 2 rfl) ?_
  refine lw_rd5 C hX hb hS (j := 1) rfl (by omega) hL hl rW_826 ?_
  refine lw_rd5 C hX hb hS (j := 2) rfl (by omega) hL hl rW_831 ?_
  refine lw_rd5 C hX hb hS (j := 3) rfl (by omega) hL hl rW_836 ?_
  refine lw_rd5 C hX hb hS (j := 4) rfl (by omega) hL hl rW_841 ?_
  refine zgoi (zrunV (As := [.int (zI (sv xs (i + 1))), .int (zI (sv xs (i + 2))), .int (zI (sv xs (i + 3))), .int (zI (sv xs (i + 4)))]) (rest := []) C hE hH hS hl.1 (c_X10_path (l := l) (Z := X) (q := 262) (hK.1 N hN) (sv xs (i + 1)) (zI_rg _) (sv xs (i + 2)) (zI_rg _) (sv xs (i + 3)) (zI_rg _) (sv xs (i + 4)) (zI_rg _) (LI_q I)) k_R_law_75 ⟨Nat.le_of_ble_eq_true rfl, Nat.le_of_ble_eq_true rfl⟩ (zW_n (hK.1 N hN)) (zW_k (hK.1 N hN)) rfl rfl rfl (Nat.le_of_ble_eq_true rfl) dW_846 ⟨by have := hcs.1; show cells ≤ 600000; omega, by have := hcs.2; show slots ≤ 7302249; omega⟩) hS (fun r1 X1 Y1 R1 H locs hr1 hq1 hH hS => ?_)
  obtain ⟨w1, e1, qk⟩ := hq1
  have I1 : LI X1 := LI_qK I qk
  have K1 : KW kd len R1 := KW_w (wcK_dw w1) hK
  have o := vAll_o I1.1.2
  refine lv_aload_n C.1 C.2.1 dW_849 rfl (lv_at hl 1 rfl) ?_
  refine lw_rd5 C hX hb hS (j := 1) rfl (by omega) hL hl rW_850 ?_
  refine lw_rd5 C hX hb hS (j := 2) rfl (by omega) hL hl rW_855 ?_
  refine lw_rd5 C hX hb hS (j := 3) rfl (by omega) hL hl rW_860 ?_
  refine lw_rd5 C hX hb hS (j := 4) rfl (by omega) hL hl rW_865 ?_
  refine zgoi (zrunV (As := [.int (zI (sv xs (i + 1))), .int (zI (sv xs (i + 2))), .int (zI (sv xs (i + 3))), .int (zI (sv xs (i + 4)))]) (rest := [.int (zI r1)]) C hE hH hS hl.1 (c_X11_path (l := l) (K1.2 N hN) (sv xs (i + 1)) (zI_rg _) (sv xs (i + 2)) (zI_rg _) (sv xs (i + 3)) (zI_rg _) (sv xs (i + 4)) (zI_rg _) o.1) k_R_law_79 ⟨Nat.le_of_ble_eq_true rfl, Nat.le_of_ble_eq_true rfl⟩ (zM_n0 (K1.2 N hN)) (zM_k0 (K1.2 N hN)) rfl rfl rfl (Nat.le_of_ble_eq_true rfl) dW_870 ⟨by have := hcs.1; show cells ≤ 600000; omega, by have := hcs.2; show slots ≤ 7302249; omega⟩) hS (fun r2 X2 Y2 R2 H locs hr2 hq2 hH hS => ?_)
  have hz2 : R2 = R1 := hq2.2.1
  obtain ⟨e2, pk⟩ := hq2.2.2
  have I2 : LI X2 := LI_pK I1 pk
  have ef := rPath_o (i := 262) (X := X) (X1 := X1) (fun z hz => qk.1 z (Or.inr (by omega)))
  have er : r1 = r2 := by rw [e2, ef]; exact e1
  have K2 : KW kd len R2 := by rw [hz2]; exact K1
  refine zd_icmp_eq C hr1 hr2 1715 dW_873 (by decide) (fun _ => ?_) (fun q => absurd er q)
  exact W_raise (Nat.le_add_right _ _) (Nat.le_add_right _ _) (kk N X2 Y2 R2 H locs hN I2 K2 hH hS)
set_option maxHeartbeats 4000000 in
theorem lc_15 {p : Program} {l : Launch} {e : Env} {s : State} {m : MethodId} {below : List Frame} {meth : Method} {c : Code} {H : Heap} {locs : List Loc} {cells slots : Nat} {Q : State → Prop} {ls : Array Slot} {D : va_G} {cy : Nat → ClassId} {sa : Nat → Nat} {kd len : Nat → Nat} {N b L i : Nat} {xs : Nat → Int32} {X Y : Nat → Int → Int} {R : Nat → Int → Option Nat} (C : zC p m c code 4 s #[Value.ref b] R_law D cy) (hE : zE D cy s.heap.size sa s) (hX : va_X b L xs s s.heap) (hb : b < s.heap.size) (hL : L ≤ 3584) (hi : i + 7 ≤ L) (hcs : cells + 1 ≤ 600000 ∧ slots + 20 ≤ 7302249) (hN : 288 ≤ N) (hG : ∀ n, 288 ≤ n → kd n = 14 ∧ len n = 20) (I : LI X) (hK : KW kd len R) (hH : zH D cy s.heap.size N kd len X Y R H) (hS : va_S (zA s.heap.size) s.heap H locs) (hl : lv_has ls 4 [(3, .int (zI (i : Int))), (2, .ref (s.heap.size + 262)), (1, .ref (s.heap.size + 0)), (0, .ref b)]) (kk : ∀ (N1 : Nat) (X1 Y1 : Nat → Int → Int) (R1 : Nat → Int → Option Nat) (H1 : Heap) (locs1 : List Loc), 288 ≤ N1 → LI X1 → KW kd len R1 → zH D cy s.heap.size N1 kd len X1 Y1 R1 H1 → va_S (zA s.heap.size) s.heap H1 locs1 → W p l e room_1 s m #[Value.ref b] below meth c H1 locs1 (cells + 1) (slots + 20) Q (F0 m 1715 ls [])) : W p l e room_1 s m #[Value.ref b] below meth c H locs cells slots Q (F0 m 878 ls []) := by
  refine lv_aload_n C.1 C.2.1 dW_878 rfl (lv_at hl 2 rfl) ?_
  refine lw_rd5 C hX hb hS (j := 1) rfl (by omega) hL hl rW_879 ?_
  refine lw_rd5 C hX hb hS (j := 2) rfl (by omega) hL hl rW_884 ?_
  refine lw_rd5 C hX hb hS (j := 3) rfl (by omega) hL hl rW_889 ?_
  refine lw_rd5 C hX hb hS (j := 4) rfl (by omega) hL hl rW_894 ?_
  refine zgol (zrunV (As := [.int (zI (sv xs (i + 1))), .int (zI (sv xs (i + 2))), .int (zI (sv xs (i + 3))), .int (zI (sv xs (i + 4)))]) (rest := []) C hE hH hS hl.1 (c_X10_own (l := l) (Z := X) (q := 262) (hK.1 N hN) (sv xs (i + 1)) (zI_rg _) (sv xs (i + 2)) (zI_rg _) (sv xs (i + 3)) (zI_rg _) (sv xs (i + 4)) (zI_rg _) (LI_q I)) k_R_law_80 ⟨Nat.le_of_ble_eq_true rfl, Nat.le_of_ble_eq_true rfl⟩ (zW_n (hK.1 N hN)) (zW_k (hK.1 N hN)) rfl rfl rfl (Nat.le_of_ble_eq_true rfl) dW_899 ⟨by have := hcs.1; show cells ≤ 600000; omega, by have := hcs.2; show slots ≤ 7302249; omega⟩) hS (fun r1 X1 Y1 R1 H locs hr1 hq1 hH hS => ?_)
  obtain ⟨w1, e1, qk⟩ := hq1
  have I1 : LI X1 := LI_qK I qk
  have K1 : KW kd len R1 := KW_w (wcK_wg w1) hK
  have o := vAll_o I1.1.2
  refine lv_aload_n C.1 C.2.1 dW_902 rfl (lv_at hl 1 rfl) ?_
  refine lw_rd5 C hX hb hS (j := 1) rfl (by omega) hL hl rW_903 ?_
  refine lw_rd5 C hX hb hS (j := 2) rfl (by omega) hL hl rW_908 ?_
  refine lw_rd5 C hX hb hS (j := 3) rfl (by omega) hL hl rW_913 ?_
  refine lw_rd5 C hX hb hS (j := 4) rfl (by omega) hL hl rW_918 ?_
  refine zgol (zrunV (As := [.int (zI (sv xs (i + 1))), .int (zI (sv xs (i + 2))), .int (zI (sv xs (i + 3))), .int (zI (sv xs (i + 4)))]) (rest := [.long (zL r1)]) C hE hH hS hl.1 (c_X11_own (l := l) (K1.2 N hN) (sv xs (i + 1)) (zI_rg _) (sv xs (i + 2)) (zI_rg _) (sv xs (i + 3)) (zI_rg _) (sv xs (i + 4)) (zI_rg _) o.1) k_R_law_83 ⟨Nat.le_of_ble_eq_true rfl, Nat.le_of_ble_eq_true rfl⟩ (zM_n0 (K1.2 N hN)) (zM_k0 (K1.2 N hN)) rfl rfl rfl (Nat.le_of_ble_eq_true rfl) dW_923 ⟨by have := hcs.1; show cells ≤ 600000; omega, by have := hcs.2; show slots ≤ 7302249; omega⟩) hS (fun r2 X2 Y2 R2 H locs hr2 hq2 hH hS => ?_)
  have hz2 : R2 = R1 := hq2.1
  obtain ⟨e2, pk⟩ := hq2.2
  have I2 : LI X2 := LI_pK I1 pk
  have ef := rOwn_o (i := 262) (X := X) (X1 := X1) (fun z hz => qk.1 z (Or.inr (by omega)))
  have er : r1 = r2 := by rw [e2, ef]; exact e1
  have K2 : KW kd len R2 := by rw [hz2]; exact K1
  refine zd_lcmp C hr1 hr2 dW_926 ?_
  refine zd_ifL_eq C 1715 dW_927 (by decide) (fun _ => ?_) (fun q => absurd er q)
  exact W_raise (Nat.le_add_right _ _) (Nat.le_add_right _ _) (kk N X2 Y2 R2 H locs hN I2 K2 hH hS)
