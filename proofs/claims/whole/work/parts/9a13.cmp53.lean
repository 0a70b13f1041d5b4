/-! A LINE IS READ: THE PROOF -/
/-- out of sight -/
def Hid (P : Prop) : Prop := P
abbrev cX7_readLine : ByteArray := prog_9_method_3_code
def yX7_readLine : MethodName := ⟨RX7, "readLine", "(I)Z"⟩
theorem dX7_readLine_0 : decode cX7_readLine 0 = .ok (.aload_n 0, 1) := by decide +kernel
theorem dX7_readLine_1 : decode cX7_readLine 1 = .ok (.getfield 73, 3) := by decide +kernel
theorem dX7_readLine_4 : decode cX7_readLine 4 = .ok (.ifCond .ne 11, 3) := by decide +kernel
theorem dX7_readLine_7 : decode cX7_readLine 7 = .ok (.aload_n 0, 1) := by decide +kernel
theorem dX7_readLine_8 : decode cX7_readLine 8 = .ok (.iload_n 1, 1) := by decide +kernel
theorem dX7_readLine_9 : decode cX7_readLine 9 = .ok (.invokevirtual 80, 3) := by decide +kernel
theorem dX7_readLine_12 : decode cX7_readLine 12 = .ok (.goto 4, 3) := by decide +kernel
theorem dX7_readLine_15 : decode cX7_readLine 15 = .ok (.iconst (-1), 1) := by decide +kernel
theorem dX7_readLine_16 : decode cX7_readLine 16 = .ok (.istore_n 2, 1) := by decide +kernel
theorem dX7_readLine_17 : decode cX7_readLine 17 = .ok (.iload_n 2, 1) := by decide +kernel
theorem dX7_readLine_18 : decode cX7_readLine 18 = .ok (.iconst (-1), 1) := by decide +kernel
theorem dX7_readLine_19 : decode cX7_readLine 19 = .ok (.if_icmp .ne 8, 3) := by decide +kernel
theorem dX7_readLine_22 : decode cX7_readLine 22 = .ok (.aload_n 0, 1) := by decide +kernel
theorem dX7_readLine_23 : decode cX7_readLine 23 = .ok (.invokevirtual 84, 3) := by decide +kernel
theorem dX7_readLine_26 : decode cX7_readLine 26 = .ok (.ireturn, 1) := by decide +kernel
theorem dX7_readLine_27 : decode cX7_readLine 27 = .ok (.aload_n 0, 1) := by decide +kernel
theorem dX7_readLine_28 : decode cX7_readLine 28 = .ok (.iload_n 1, 1) := by decide +kernel
theorem dX7_readLine_29 : decode cX7_readLine 29 = .ok (.iload_n 2, 1) := by decide +kernel
theorem dX7_readLine_30 : decode cX7_readLine 30 = .ok (.invokevirtual 88, 3) := by decide +kernel
theorem dX7_readLine_33 : decode cX7_readLine 33 = .ok (.ifCond .eq 8, 3) := by decide +kernel
theorem dX7_readLine_36 : decode cX7_readLine 36 = .ok (.aload_n 0, 1) := by decide +kernel
theorem dX7_readLine_37 : decode cX7_readLine 37 = .ok (.iconst 3, 1) := by decide +kernel
theorem dX7_readLine_38 : decode cX7_readLine 38 = .ok (.invokevirtual 92, 3) := by decide +kernel
theorem dX7_readLine_41 : decode cX7_readLine 41 = .ok (.iload_n 1, 1) := by decide +kernel
theorem dX7_readLine_42 : decode cX7_readLine 42 = .ok (.invokestatic 95, 3) := by decide +kernel
theorem dX7_readLine_45 : decode cX7_readLine 45 = .ok (.istore_n 3, 1) := by decide +kernel
theorem dX7_readLine_46 : decode cX7_readLine 46 = .ok (.iconst 0, 1) := by decide +kernel
theorem dX7_readLine_47 : decode cX7_readLine 47 = .ok (.istore 4, 2) := by decide +kernel
theorem dX7_readLine_49 : decode cX7_readLine 49 = .ok (.iload 4, 2) := by decide +kernel
theorem dX7_readLine_51 : decode cX7_readLine 51 = .ok (.iload_n 3, 1) := by decide +kernel
theorem dX7_readLine_52 : decode cX7_readLine 52 = .ok (.if_icmp .ge 59, 3) := by decide +kernel
theorem dX7_readLine_55 : decode cX7_readLine 55 = .ok (.iload 4, 2) := by decide +kernel
theorem dX7_readLine_57 : decode cX7_readLine 57 = .ok (.iconst 4, 1) := by decide +kernel
theorem dX7_readLine_58 : decode cX7_readLine 58 = .ok (.if_icmp .ge 53, 3) := by decide +kernel
theorem dX7_readLine_61 : decode cX7_readLine 61 = .ok (.aload_n 0, 1) := by decide +kernel
theorem dX7_readLine_62 : decode cX7_readLine 62 = .ok (.invokevirtual 70, 3) := by decide +kernel
theorem dX7_readLine_65 : decode cX7_readLine 65 = .ok (.aload_n 0, 1) := by decide +kernel
theorem dX7_readLine_66 : decode cX7_readLine 66 = .ok (.getfield 73, 3) := by decide +kernel
theorem dX7_readLine_69 : decode cX7_readLine 69 = .ok (.iconst 1, 1) := by decide +kernel
theorem dX7_readLine_70 : decode cX7_readLine 70 = .ok (.if_icmp .eq 8, 3) := by decide +kernel
theorem dX7_readLine_73 : decode cX7_readLine 73 = .ok (.aload_n 0, 1) := by decide +kernel
theorem dX7_readLine_74 : decode cX7_readLine 74 = .ok (.invokevirtual 84, 3) := by decide +kernel
theorem dX7_readLine_77 : decode cX7_readLine 77 = .ok (.ireturn, 1) := by decide +kernel
theorem dX7_readLine_78 : decode cX7_readLine 78 = .ok (.aload_n 0, 1) := by decide +kernel
theorem dX7_readLine_79 : decode cX7_readLine 79 = .ok (.getfield 35, 3) := by decide +kernel
theorem dX7_readLine_82 : decode cX7_readLine 82 = .ok (.iload 4, 2) := by decide +kernel
theorem dX7_readLine_84 : decode cX7_readLine 84 = .ok (.aload_n 0, 1) := by decide +kernel
theorem dX7_readLine_85 : decode cX7_readLine 85 = .ok (.getfield 98, 3) := by decide +kernel
theorem dX7_readLine_88 : decode cX7_readLine 88 = .ok (.iastore, 1) := by decide +kernel
theorem dX7_readLine_89 : decode cX7_readLine 89 = .ok (.aload_n 0, 1) := by decide +kernel
theorem dX7_readLine_90 : decode cX7_readLine 90 = .ok (.iload_n 1, 1) := by decide +kernel
theorem dX7_readLine_91 : decode cX7_readLine 91 = .ok (.iload_n 2, 1) := by decide +kernel
theorem dX7_readLine_92 : decode cX7_readLine 92 = .ok (.iload 4, 2) := by decide +kernel
theorem dX7_readLine_94 : decode cX7_readLine 94 = .ok (.invokevirtual 101, 3) := by decide +kernel
theorem dX7_readLine_97 : decode cX7_readLine 97 = .ok (.ifCond .ne 8, 3) := by decide +kernel
theorem dX7_readLine_100 : decode cX7_readLine 100 = .ok (.aload_n 0, 1) := by decide +kernel
theorem dX7_readLine_101 : decode cX7_readLine 101 = .ok (.iconst 2, 1) := by decide +kernel
theorem dX7_readLine_102 : decode cX7_readLine 102 = .ok (.invokevirtual 92, 3) := by decide +kernel
theorem dX7_readLine_105 : decode cX7_readLine 105 = .ok (.iinc 4 1, 3) := by decide +kernel
theorem dX7_readLine_108 : decode cX7_readLine 108 = .ok (.goto (-59), 3) := by decide +kernel
theorem dX7_readLine_111 : decode cX7_readLine 111 = .ok (.aload_n 0, 1) := by decide +kernel
theorem dX7_readLine_112 : decode cX7_readLine 112 = .ok (.invokevirtual 70, 3) := by decide +kernel
theorem dX7_readLine_115 : decode cX7_readLine 115 = .ok (.aload_n 0, 1) := by decide +kernel
theorem dX7_readLine_116 : decode cX7_readLine 116 = .ok (.getfield 73, 3) := by decide +kernel
theorem dX7_readLine_119 : decode cX7_readLine 119 = .ok (.iconst 2, 1) := by decide +kernel
theorem dX7_readLine_120 : decode cX7_readLine 120 = .ok (.if_icmp .eq 8, 3) := by decide +kernel
theorem dX7_readLine_123 : decode cX7_readLine 123 = .ok (.aload_n 0, 1) := by decide +kernel
theorem dX7_readLine_124 : decode cX7_readLine 124 = .ok (.invokevirtual 84, 3) := by decide +kernel
theorem dX7_readLine_127 : decode cX7_readLine 127 = .ok (.ireturn, 1) := by decide +kernel
theorem dX7_readLine_128 : decode cX7_readLine 128 = .ok (.aload_n 0, 1) := by decide +kernel
theorem dX7_readLine_129 : decode cX7_readLine 129 = .ok (.getfield 55, 3) := by decide +kernel
theorem dX7_readLine_132 : decode cX7_readLine 132 = .ok (.ifCond .ne 9, 3) := by decide +kernel
theorem dX7_readLine_135 : decode cX7_readLine 135 = .ok (.aload_n 0, 1) := by decide +kernel
theorem dX7_readLine_136 : decode cX7_readLine 136 = .ok (.iload_n 1, 1) := by decide +kernel
theorem dX7_readLine_137 : decode cX7_readLine 137 = .ok (.iload_n 2, 1) := by decide +kernel
theorem dX7_readLine_138 : decode cX7_readLine 138 = .ok (.invokevirtual 105, 3) := by decide +kernel
theorem dX7_readLine_141 : decode cX7_readLine 141 = .ok (.aload_n 0, 1) := by decide +kernel
theorem dX7_readLine_142 : decode cX7_readLine 142 = .ok (.invokevirtual 70, 3) := by decide +kernel
theorem dX7_readLine_145 : decode cX7_readLine 145 = .ok (.iconst 1, 1) := by decide +kernel
theorem dX7_readLine_146 : decode cX7_readLine 146 = .ok (.ireturn, 1) := by decide +kernel
theorem q_719 : Cond.methodLink RX7 84 yX7_noTextGoesOn ∈ zTB := zmem 719 (by decide +kernel) rfl
theorem q_721 : Cond.instanceMethod yX7_noTextGoesOn ∈ zTB := zmem 721 (by decide +kernel) rfl
theorem q_4 : Cond.selects RX7 yX7_noTextGoesOn yX7_noTextGoesOn ∈ zTB := zmem 4 (by decide +kernel) rfl
theorem q_722 : Cond.code yX7_noTextGoesOn cX7_noTextGoesOn 1 (some .boolean) ∈ zTB := zmem 722 (by decide +kernel) rfl
theorem k_RX7_84 : zLv RX7 84 RX7 yX7_noTextGoesOn cX7_noTextGoesOn 1 (some .boolean) 0 := ⟨⟨q_719, q_721, q_4, q_134, q_722⟩, rfl, ⟨by decide, by decide⟩, by decide +kernel⟩
theorem q_646 : Cond.methodLink RX7 80 yX7_wordOf ∈ zTB := zmem 646 (by decide +kernel) rfl
theorem q_648 : Cond.instanceMethod yX7_wordOf ∈ zTB := zmem 648 (by decide +kernel) rfl
theorem q_2 : Cond.selects RX7 yX7_wordOf yX7_wordOf ∈ zTB := zmem 2 (by decide +kernel) rfl
theorem q_649 : Cond.code yX7_wordOf cX7_wordOf 3 (some .int) ∈ zTB := zmem 649 (by decide +kernel) rfl
theorem k_RX7_80 : zLv RX7 80 RX7 yX7_wordOf cX7_wordOf 3 (some .int) 1 := ⟨⟨q_646, q_648, q_2, q_134, q_649⟩, rfl, ⟨by decide, by decide⟩, by decide +kernel⟩
theorem q_736 : Cond.static yX7_numbersOf ∈ zTB := zmem 736 (by decide +kernel) rfl
theorem q_737 : Cond.code yX7_numbersOf cX7_numbersOf 1 (some .int) ∈ zTB := zmem 737 (by decide +kernel) rfl
theorem q_735 : Cond.methodLink RX7 95 yX7_numbersOf ∈ zTB := zmem 735 (by decide +kernel) rfl
theorem k_RX7_95 : zLs RX7 95 yX7_numbersOf cX7_numbersOf 1 (some .int) 1 := ⟨⟨q_735, q_736, q_134, q_737⟩, ⟨by decide, by decide⟩, by decide +kernel⟩
theorem q_629 : Cond.methodLink RX7 70 yX7_step ∈ zTB := zmem 629 (by decide +kernel) rfl
theorem q_631 : Cond.instanceMethod yX7_step ∈ zTB := zmem 631 (by decide +kernel) rfl
theorem q_0 : Cond.selects RX7 yX7_step yX7_step ∈ zTB := zmem 0 (by decide +kernel) rfl
theorem q_632 : Cond.code yX7_step cX7_step 2 none ∈ zTB := zmem 632 (by decide +kernel) rfl
theorem k_RX7_70 : zLv RX7 70 RX7 yX7_step cX7_step 2 none 0 := ⟨⟨q_629, q_631, q_0, q_134, q_632⟩, rfl, ⟨by decide, by decide⟩, by decide +kernel⟩
theorem q_758 : Cond.methodLink RX7 105 yX7_tellLine ∈ zTB := zmem 758 (by decide +kernel) rfl
theorem q_760 : Cond.instanceMethod yX7_tellLine ∈ zTB := zmem 760 (by decide +kernel) rfl
theorem q_11 : Cond.selects RX7 yX7_tellLine yX7_tellLine ∈ zTB := zmem 11 (by decide +kernel) rfl
theorem q_761 : Cond.code yX7_tellLine cX7_tellLine 3 none ∈ zTB := zmem 761 (by decide +kernel) rfl
theorem k_RX7_105 : zLv RX7 105 RX7 yX7_tellLine cX7_tellLine 3 none 2 := ⟨⟨q_758, q_760, q_11, q_134, q_761⟩, rfl, ⟨by decide, by decide⟩, by decide +kernel⟩
theorem q_738 : Cond.methodLink RX7 101 yX7_canBe ∈ zTB := zmem 738 (by decide +kernel) rfl
theorem q_740 : Cond.instanceMethod yX7_canBe ∈ zTB := zmem 740 (by decide +kernel) rfl
theorem q_7 : Cond.selects RX7 yX7_canBe yX7_canBe ∈ zTB := zmem 7 (by decide +kernel) rfl
theorem q_741 : Cond.code yX7_canBe cX7_canBe 4 (some .boolean) ∈ zTB := zmem 741 (by decide +kernel) rfl
theorem k_RX7_101 : zLv RX7 101 RX7 yX7_canBe cX7_canBe 4 (some .boolean) 3 := ⟨⟨q_738, q_740, q_7, q_134, q_741⟩, rfl, ⟨by decide, by decide⟩, by decide +kernel⟩
theorem q_731 : Cond.methodLink RX7 92 yX7_note ∈ zTB := zmem 731 (by decide +kernel) rfl
theorem q_733 : Cond.instanceMethod yX7_note ∈ zTB := zmem 733 (by decide +kernel) rfl
theorem q_6 : Cond.selects RX7 yX7_note yX7_note ∈ zTB := zmem 6 (by decide +kernel) rfl
theorem q_734 : Cond.code yX7_note cX7_note 2 none ∈ zTB := zmem 734 (by decide +kernel) rfl
theorem k_RX7_92 : zLv RX7 92 RX7 yX7_note cX7_note 2 none 1 := ⟨⟨q_731, q_733, q_6, q_134, q_734⟩, rfl, ⟨by decide, by decide⟩, by decide +kernel⟩
theorem q_723 : Cond.methodLink RX7 88 yX7_isTooMany ∈ zTB := zmem 723 (by decide +kernel) rfl
theorem q_725 : Cond.instanceMethod yX7_isTooMany ∈ zTB := zmem 725 (by decide +kernel) rfl
theorem q_5 : Cond.selects RX7 yX7_isTooMany yX7_isTooMany ∈ zTB := zmem 5 (by decide +kernel) rfl
theorem q_726 : Cond.code yX7_isTooMany cX7_isTooMany 4 (some .boolean) ∈ zTB := zmem 726 (by decide +kernel) rfl
theorem k_RX7_88 : zLv RX7 88 RX7 yX7_isTooMany cX7_isTooMany 4 (some .boolean) 2 := ⟨⟨q_723, q_725, q_5, q_134, q_726⟩, rfl, ⟨by decide, by decide⟩, by decide +kernel⟩
def F_X7_readLine (i j : Nat) (sS : rST) (X Y : Nat → Int → Int) (R : Nat → Int → Option Nat) (a : Int) : Prop := (∀ i j, rI (X i j)) → (∀ i j, rL (Y i j)) → ((¬ (X (i) 9) = 0) → (∀ r4 : Bool, ∀ X3 : Nat → Int → Int, (∀ i j, rI (X3 i j)) → (r4 = false ∧ (X3) = zU (zU X i 3 1) i 4 (X i 8)) → (rcK X (X3) i ∧ rdV (X3) i ∧ lnV (X3) i ∧ (r4 = true → oRc (X3) i j ∧ ((X3) i 3 = 0 → (X3) i 4 = X i 4 ∧ X i 3 = 0)) ∧ rlP (X3) i j (a) (X j) (X i 6).toNat r4 (rdL (X j) (X i 6).toNat (a) sS)))) ∧ ((¬ (¬ (X (i) 9) = 0)) → (((0 ≤ a ∧ a ≤ 4) ∧ 0 ≤ X i 8 ∧ X i 8 ≤ X i 7 ∧ X i 7 ≤ 600) ∧ (rI (wdF X i j (a) 7) → (((¬ (wdF X i j (a) 7) = (-1)) → ((∀ (X8 : Nat → Int → Int), (∀ i j, rI (X8 i j)) → (X8 = (if tmB X i a (wdF X i j a 7) = true then (if X i 3 = 0 then zU (zU X i 3 3) i 4 (X i 8) else X) else X)) → (rI (((ncN (a) : Nat) : Int)) → ((((∀ z, z ≠ i → z ≠ i + 11 → X8 z = X z) ∧ (∀ s, (s < 3 ∨ s = 5 ∨ s = 6 ∨ 10 < s) → X8 i s = X i s) ∧ lnV X8 i ∧ (X8 i 3 = 0 → X i 3 = 0 ∧ tmB X i a (wdF X i j a 7) = false ∧ X8 i 4 = X i 4)) ∧ ∃ q : Nat, (0 : Int) = q ∧ q ≤ ncN a ∧ ((q = 0 → X8 i 8 = X i 8) ∧ X8 i 7 = ptN (X j) (X i 6).toNat (tkN (X j) (X i 6).toNat sS.1) q) ∧ (∀ y : Nat, y < q → X8 (i + 11) y = tkV (X j) (X i 6).toNat (ptN (X j) (X i 6).toNat (tkN (X j) (X i 6).toNat sS.1) y)) ∧ ∃ f, rdN (X j) (X i 6).toNat a (wdF X i j a 7) sS.2.1.1 (tkN (X j) (X i 6).toNat sS.1) (f1L (X j) (X i 6).toNat a (wdF X i j a 7) sS) q = .inr f ∧ X8 i 3 = f.1 ∧ (f.1 ≠ 0 → X8 i 4 = f.2)) ∧ (∀ (k : Int) (X11 : Nat → Int → Int), rI k → (∀ i j, rI (X11 i j)) → (((∀ z, z ≠ i → z ≠ i + 11 → X11 z = X z) ∧ (∀ s, (s < 3 ∨ s = 5 ∨ s = 6 ∨ 10 < s) → X11 i s = X i s) ∧ lnV X11 i ∧ (X11 i 3 = 0 → X i 3 = 0 ∧ tmB X i a (wdF X i j a 7) = false ∧ X11 i 4 = X i 4)) ∧ ∃ q : Nat, k = q ∧ q ≤ ncN a ∧ ((q = 0 → X11 i 8 = X i 8) ∧ X11 i 7 = ptN (X j) (X i 6).toNat (tkN (X j) (X i 6).toNat sS.1) q) ∧ (∀ y : Nat, y < q → X11 (i + 11) y = tkV (X j) (X i 6).toNat (ptN (X j) (X i 6).toNat (tkN (X j) (X i 6).toNat sS.1) y)) ∧ ∃ f, rdN (X j) (X i 6).toNat a (wdF X i j a 7) sS.2.1.1 (tkN (X j) (X i 6).toNat sS.1) (f1L (X j) (X i 6).toNat a (wdF X i j a 7) sS) q = .inr f ∧ X11 i 3 = f.1 ∧ (f.1 ≠ 0 → X11 i 4 = f.2)) → (((((ncN (a) : Nat) : Int) ≤ k) → ((oRc X11 i j) ∧ (∀ X14 : Nat → Int → Int, (∀ i j, rI (X14 i j)) → (stC X11 (X14) i ∧ (X14) i 8 = tkB (X11 j) (X11 i 6).toNat (X11 i 7).toNat ∧ (X14) i 7 = tkN (X11 j) (X11 i 6).toNat (X11 i 7).toNat ∧ (X14) i 9 = cTk (tkS (X11 j) (X11 i 6).toNat (X11 i 7).toNat) ∧ (tkS (X11 j) (X11 i 6).toNat (X11 i 7).toNat = 3 → (X14) i 10 = tkV (X11 j) (X11 i 6).toNat (X11 i 7).toNat)) → ((((X14 (i) 9) = 2) → (((¬ (X14 (i) 3) = 0) → ((oRc X14 i j) ∧ (∀ X18 : Nat → Int → Int, (∀ i j, rI (X18 i j)) → (stC X14 (X18) i ∧ (X18) i 8 = tkB (X14 j) (X14 i 6).toNat (X14 i 7).toNat ∧ (X18) i 7 = tkN (X14 j) (X14 i 6).toNat (X14 i 7).toNat ∧ (X18) i 9 = cTk (tkS (X14 j) (X14 i 6).toNat (X14 i 7).toNat) ∧ (tkS (X14 j) (X14 i 6).toNat (X14 i 7).toNat = 3 → (X18) i 10 = tkV (X14 j) (X14 i 6).toNat (X14 i 7).toNat)) → (rcK X (X18) i ∧ rdV (X18) i ∧ lnV (X18) i ∧ (true = true → oRc (X18) i j ∧ ((X18) i 3 = 0 → (X18) i 4 = X i 4 ∧ X i 3 = 0)) ∧ rlP (X18) i j (a) (X j) (X i 6).toNat true (rdL (X j) (X i 6).toNat (a) sS))))) ∧ ((¬ (¬ (X14 (i) 3) = 0)) → ((((0 ≤ a ∧ a ≤ 4) ∧ (a = 0 → 0 ≤ (wdF X i j (a) 7) ∧ (wdF X i j (a) 7) ≤ 6)) ∧ rdV X14 i ∧ tmB X14 i (a) ((wdF X i j (a) 7)) = false ∧ ∀ k : Int, 0 ≤ k → k < 4 → 0 ≤ X14 (i + 11) k ∧ X14 (i + 11) k ≤ 99) ∧ (∀ X20 : Nat → Int → Int, (∀ i j, rI (X20 i j)) → (tlK X14 (X20) i ∧ rdV (X20) i ∧ ∀ ts, toldR X14 i (a) ts → toldR (X20) i (a) (tlN (a) (wdF X i j (a) 7) (fun k => X14 (i + 11) k) ts)) → ((oRc X20 i j) ∧ (∀ X22 : Nat → Int → Int, (∀ i j, rI (X22 i j)) → (stC X20 (X22) i ∧ (X22) i 8 = tkB (X20 j) (X20 i 6).toNat (X20 i 7).toNat ∧ (X22) i 7 = tkN (X20 j) (X20 i 6).toNat (X20 i 7).toNat ∧ (X22) i 9 = cTk (tkS (X20 j) (X20 i 6).toNat (X20 i 7).toNat) ∧ (tkS (X20 j) (X20 i 6).toNat (X20 i 7).toNat = 3 → (X22) i 10 = tkV (X20 j) (X20 i 6).toNat (X20 i 7).toNat)) → (rcK X (X22) i ∧ rdV (X22) i ∧ lnV (X22) i ∧ (true = true → oRc (X22) i j ∧ ((X22) i 3 = 0 → (X22) i 4 = X i 4 ∧ X i 3 = 0)) ∧ rlP (X22) i j (a) (X j) (X i 6).toNat true (rdL (X j) (X i 6).toNat (a) sS))))))))) ∧ ((¬ ((X14 (i) 9) = 2)) → (∀ r24 : Bool, ∀ X23 : Nat → Int → Int, (∀ i j, rI (X23 i j)) → (r24 = false ∧ (X23) = zU (zU X14 i 3 1) i 4 (X14 i 8)) → (rcK X (X23) i ∧ rdV (X23) i ∧ lnV (X23) i ∧ (r24 = true → oRc (X23) i j ∧ ((X23) i 3 = 0 → (X23) i 4 = X i 4 ∧ X i 3 = 0)) ∧ rlP (X23) i j (a) (X j) (X i 6).toNat r24 (rdL (X j) (X i 6).toNat (a) sS)))))))) ∧ ((¬ (((ncN (a) : Nat) : Int) ≤ k)) → (((4 ≤ k) → ((oRc X11 i j) ∧ (∀ X27 : Nat → Int → Int, (∀ i j, rI (X27 i j)) → (stC X11 (X27) i ∧ (X27) i 8 = tkB (X11 j) (X11 i 6).toNat (X11 i 7).toNat ∧ (X27) i 7 = tkN (X11 j) (X11 i 6).toNat (X11 i 7).toNat ∧ (X27) i 9 = cTk (tkS (X11 j) (X11 i 6).toNat (X11 i 7).toNat) ∧ (tkS (X11 j) (X11 i 6).toNat (X11 i 7).toNat = 3 → (X27) i 10 = tkV (X11 j) (X11 i 6).toNat (X11 i 7).toNat)) → ((((X27 (i) 9) = 2) → (((¬ (X27 (i) 3) = 0) → ((oRc X27 i j) ∧ (∀ X31 : Nat → Int → Int, (∀ i j, rI (X31 i j)) → (stC X27 (X31) i ∧ (X31) i 8 = tkB (X27 j) (X27 i 6).toNat (X27 i 7).toNat ∧ (X31) i 7 = tkN (X27 j) (X27 i 6).toNat (X27 i 7).toNat ∧ (X31) i 9 = cTk (tkS (X27 j) (X27 i 6).toNat (X27 i 7).toNat) ∧ (tkS (X27 j) (X27 i 6).toNat (X27 i 7).toNat = 3 → (X31) i 10 = tkV (X27 j) (X27 i 6).toNat (X27 i 7).toNat)) → (rcK X (X31) i ∧ rdV (X31) i ∧ lnV (X31) i ∧ (true = true → oRc (X31) i j ∧ ((X31) i 3 = 0 → (X31) i 4 = X i 4 ∧ X i 3 = 0)) ∧ rlP (X31) i j (a) (X j) (X i 6).toNat true (rdL (X j) (X i 6).toNat (a) sS))))) ∧ ((¬ (¬ (X27 (i) 3) = 0)) → ((((0 ≤ a ∧ a ≤ 4) ∧ (a = 0 → 0 ≤ (wdF X i j (a) 7) ∧ (wdF X i j (a) 7) ≤ 6)) ∧ rdV X27 i ∧ tmB X27 i (a) ((wdF X i j (a) 7)) = false ∧ ∀ k : Int, 0 ≤ k → k < 4 → 0 ≤ X27 (i + 11) k ∧ X27 (i + 11) k ≤ 99) ∧ (∀ X33 : Nat → Int → Int, (∀ i j, rI (X33 i j)) → (tlK X27 (X33) i ∧ rdV (X33) i ∧ ∀ ts, toldR X27 i (a) ts → toldR (X33) i (a) (tlN (a) (wdF X i j (a) 7) (fun k => X27 (i + 11) k) ts)) → ((oRc X33 i j) ∧ (∀ X35 : Nat → Int → Int, (∀ i j, rI (X35 i j)) → (stC X33 (X35) i ∧ (X35) i 8 = tkB (X33 j) (X33 i 6).toNat (X33 i 7).toNat ∧ (X35) i 7 = tkN (X33 j) (X33 i 6).toNat (X33 i 7).toNat ∧ (X35) i 9 = cTk (tkS (X33 j) (X33 i 6).toNat (X33 i 7).toNat) ∧ (tkS (X33 j) (X33 i 6).toNat (X33 i 7).toNat = 3 → (X35) i 10 = tkV (X33 j) (X33 i 6).toNat (X33 i 7).toNat)) → (rcK X (X35) i ∧ rdV (X35) i ∧ lnV (X35) i ∧ (true = true → oRc (X35) i j ∧ ((X35) i 3 = 0 → (X35) i 4 = X i 4 ∧ X i 3 = 0)) ∧ rlP (X35) i j (a) (X j) (X i 6).toNat true (rdL (X j) (X i 6).toNat (a) sS))))))))) ∧ ((¬ ((X27 (i) 9) = 2)) → (∀ r37 : Bool, ∀ X36 : Nat → Int → Int, (∀ i j, rI (X36 i j)) → (r37 = false ∧ (X36) = zU (zU X27 i 3 1) i 4 (X27 i 8)) → (rcK X (X36) i ∧ rdV (X36) i ∧ lnV (X36) i ∧ (r37 = true → oRc (X36) i j ∧ ((X36) i 3 = 0 → (X36) i 4 = X i 4 ∧ X i 3 = 0)) ∧ rlP (X36) i j (a) (X j) (X i 6).toNat r37 (rdL (X j) (X i 6).toNat (a) sS)))))))) ∧ ((¬ (4 ≤ k)) → ((oRc X11 i j) ∧ (∀ X39 : Nat → Int → Int, (∀ i j, rI (X39 i j)) → (stC X11 (X39) i ∧ (X39) i 8 = tkB (X11 j) (X11 i 6).toNat (X11 i 7).toNat ∧ (X39) i 7 = tkN (X11 j) (X11 i 6).toNat (X11 i 7).toNat ∧ (X39) i 9 = cTk (tkS (X11 j) (X11 i 6).toNat (X11 i 7).toNat) ∧ (tkS (X11 j) (X11 i 6).toNat (X11 i 7).toNat = 3 → (X39) i 10 = tkV (X11 j) (X11 i 6).toNat (X11 i 7).toNat)) → ((((X39 (i) 9) = 1) → ((0 ≤ k ∧ k < 4) ∧ (∀ X42 : Nat → Int → Int, X42 = zU X39 (i + 11) (k) (X39 (i) 10) → (∀ i j, rI (X42 i j)) → ((0 ≤ a ∧ a ≤ 4) ∧ ((((cbB X42 i (a) (wdF X i j (a) 7) (k)) = true) → ((rI (k + 1)) ∧ (((∀ z, z ≠ i → z ≠ i + 11 → X42 z = X z) ∧ (∀ s, (s < 3 ∨ s = 5 ∨ s = 6 ∨ 10 < s) → X42 i s = X i s) ∧ lnV X42 i ∧ (X42 i 3 = 0 → X i 3 = 0 ∧ tmB X i a (wdF X i j a 7) = false ∧ X42 i 4 = X i 4)) ∧ ∃ q : Nat, (k + 1) = q ∧ q ≤ ncN a ∧ ((q = 0 → X42 i 8 = X i 8) ∧ X42 i 7 = ptN (X j) (X i 6).toNat (tkN (X j) (X i 6).toNat sS.1) q) ∧ (∀ y : Nat, y < q → X42 (i + 11) y = tkV (X j) (X i 6).toNat (ptN (X j) (X i 6).toNat (tkN (X j) (X i 6).toNat sS.1) y)) ∧ ∃ f, rdN (X j) (X i 6).toNat a (wdF X i j a 7) sS.2.1.1 (tkN (X j) (X i 6).toNat sS.1) (f1L (X j) (X i 6).toNat a (wdF X i j a 7) sS) q = .inr f ∧ X42 i 3 = f.1 ∧ (f.1 ≠ 0 → X42 i 4 = f.2)) ∧ (((10 - (k + 1)).toNat) < ((10 - k).toNat)))) ∧ (((cbB X42 i (a) (wdF X i j (a) 7) (k)) = false) → (∀ X46 : Nat → Int → Int, (∀ i j, rI (X46 i j)) → ((X46) = if X42 i 3 = 0 then zU (zU X42 i 3 ((2 : Int))) i 4 (X42 i 8) else X42) → ((rI (k + 1)) ∧ (((∀ z, z ≠ i → z ≠ i + 11 → X46 z = X z) ∧ (∀ s, (s < 3 ∨ s = 5 ∨ s = 6 ∨ 10 < s) → X46 i s = X i s) ∧ lnV X46 i ∧ (X46 i 3 = 0 → X i 3 = 0 ∧ tmB X i a (wdF X i j a 7) = false ∧ X46 i 4 = X i 4)) ∧ ∃ q : Nat, (k + 1) = q ∧ q ≤ ncN a ∧ ((q = 0 → X46 i 8 = X i 8) ∧ X46 i 7 = ptN (X j) (X i 6).toNat (tkN (X j) (X i 6).toNat sS.1) q) ∧ (∀ y : Nat, y < q → X46 (i + 11) y = tkV (X j) (X i 6).toNat (ptN (X j) (X i 6).toNat (tkN (X j) (X i 6).toNat sS.1) y)) ∧ ∃ f, rdN (X j) (X i 6).toNat a (wdF X i j a 7) sS.2.1.1 (tkN (X j) (X i 6).toNat sS.1) (f1L (X j) (X i 6).toNat a (wdF X i j a 7) sS) q = .inr f ∧ X46 i 3 = f.1 ∧ (f.1 ≠ 0 → X46 i 4 = f.2)) ∧ (((10 - (k + 1)).toNat) < ((10 - k).toNat)))))))))) ∧ ((¬ ((X39 (i) 9) = 1)) → (∀ r49 : Bool, ∀ X48 : Nat → Int → Int, (∀ i j, rI (X48 i j)) → (r49 = false ∧ (X48) = zU (zU X39 i 3 1) i 4 (X39 i 8)) → (rcK X (X48) i ∧ rdV (X48) i ∧ lnV (X48) i ∧ (r49 = true → oRc (X48) i j ∧ ((X48) i 3 = 0 → (X48) i 4 = X i 4 ∧ X i 3 = 0)) ∧ rlP (X48) i j (a) (X j) (X i 6).toNat r49 (rdL (X j) (X i 6).toNat (a) sS))))))))))))))) ∧ (((0 ≤ a ∧ a ≤ 4) ∧ rdV X i) ∧ ((((tmB X i (a) (wdF X i j (a) 7)) = false) → (X = (if tmB X i a (wdF X i j a 7) = true then (if X i 3 = 0 then zU (zU X i 3 3) i 4 (X i 8) else X) else X))) ∧ (((tmB X i (a) (wdF X i j (a) 7)) = true) → (∀ X52 : Nat → Int → Int, (∀ i j, rI (X52 i j)) → ((X52) = if X i 3 = 0 then zU (zU X i 3 ((3 : Int))) i 4 (X i 8) else X) → (X52 = (if tmB X i a (wdF X i j a 7) = true then (if X i 3 = 0 then zU (zU X i 3 3) i 4 (X i 8) else X) else X)))))))) ∧ ((¬ (¬ (wdF X i j (a) 7) = (-1))) → (∀ r54 : Bool, ∀ X53 : Nat → Int → Int, (∀ i j, rI (X53 i j)) → (r54 = false ∧ (X53) = zU (zU X i 3 1) i 4 (X i 8)) → (rcK X (X53) i ∧ rdV (X53) i ∧ lnV (X53) i ∧ (r54 = true → oRc (X53) i j ∧ ((X53) i 3 = 0 → (X53) i 4 = X i 4 ∧ X i 3 = 0)) ∧ rlP (X53) i j (a) (X j) (X i 6).toNat r54 (rdL (X j) (X i 6).toNat (a) sS))))))))
set_option maxHeartbeats 4000000 in
set_option maxRecDepth 100000 in
theorem w_X7_readLine {l : Launch} {D : va_G} {cy : Nat → ClassId} {bs N : Nat} {sa : Nat → Nat} {kd len : Nat → Nat} {X Y : Nat → Int → Int} {R : Nat → Int → Option Nat} {i j : Nat} {sS : rST} (hC : zRd1 N kd len R i j) (a : Int) (ha : rI a) (hF : F_X7_readLine i j sS X Y R a) : Met l yX7_readLine (.code yX7_readLine cX7_readLine 5 (some .boolean) :: zTB) (zRm 6 129) (zPc D cy bs sa N kd len X Y R [.ref (bs + (i)), .int (zI (a))]) (zQi D cy bs N kd len (fun r st => st.2.1 = Y ∧ st.2.2 = R ∧ ∃ rb : Bool, r = bz rb ∧ (rcK X (st.1) i ∧ rdV (st.1) i ∧ lnV (st.1) i ∧ (rb = true → oRc (st.1) i j ∧ ((st.1) i 3 = 0 → (st.1) i 4 = X i 4 ∧ X i 3 = 0)) ∧ rlP (st.1) i j (a) (X j) (X i 6).toNat rb (rdL (X j) (X i 6).toNat (a) sS)))) 0 0 (zA bs) := by
  refine zstart (by decide) (Nat.le_of_ble_eq_true rfl) ?_
  intro p e s m args below meth c ls C hE hH hr hlk hnm hl hargs
  have hF := hF hH.2.2.1 hH.2.2.2
  have hS : va_S (zA bs) s.heap s.heap [] := va_S.rf
  have hl : lv_has ls 5 [(0, .ref (bs + (i))), (1, .int (zI (a)))] := hl
  refine lv_aload_n C.1 C.2.1 dX7_readLine_0 rfl (lv_at hl 0 rfl) ?_
  refine zg7_9 C hH (zRr_n0 hC.1) (zRr_k0 hC.1) q_336 dX7_readLine_1 ?_
  refine zd_if_ne C (hH.2.2.1 _ _) 15 dX7_readLine_4 (by decide) (fun c1 => ?_) (fun c1 => ?_)
  · have hF := hF.1 c1
    refine zd_iconst C dX7_readLine_15 ?_
    refine lv_istore_n (lv' := [(2, .int (zI ((-1)))), (0, .ref (bs + (i))), (1, .int (zI (a)))]) C.1 C.2.1 dX7_readLine_16 rfl hl (by decide) rfl (fun ls hl => ?_)
    refine lv_iload_n C.1 C.2.1 dX7_readLine_17 rfl (lv_at hl 0 rfl) ?_
    refine zd_iconst C dX7_readLine_18 ?_
    refine zd_icmp_ne C (by decide) (by decide) 27 dX7_readLine_19 (by decide) (fun c2 => ?_) (fun c2 => ?_)
    · exact absurd c2 (by decide)
    · refine lv_aload_n C.1 C.2.1 dX7_readLine_22 rfl (lv_at hl 1 rfl) ?_
      refine zgoi (zrunV (As := []) (rest := []) C hE hH hS hl.1 (c_X7_noTextGoesOn (l := l) hC.2 ) k_RX7_84 ⟨Nat.le_of_ble_eq_true rfl, Nat.le_of_ble_eq_true rfl⟩ (zRr_n0 hC.1) (zRr_k0 hC.1) rfl rfl rfl (Nat.le_of_ble_eq_true rfl) dX7_readLine_23 ⟨Nat.zero_le _, Nat.zero_le _⟩) hS (fun rq X3 Yq Rq H locs hrq hq hH hS => ?_)
      obtain ⟨h9Y, h9R, hq⟩ := hq
      dsimp only at h9Y h9R
      rw [h9Y, h9R] at hH
      obtain ⟨r4, h91, hq⟩ := hq
      subst h91
      have hF := hF r4 X3 hH.2.2.1 hq
      exact zd_zret C hr hlk hH hS bz_01 (⟨rfl, rfl, _, rfl, hF⟩) dX7_readLine_26
  · have hF := hF.2 c1
    refine lv_aload_n C.1 C.2.1 dX7_readLine_7 rfl (lv_at hl 0 rfl) ?_
    refine lv_iload_n C.1 C.2.1 dX7_readLine_8 rfl (lv_at hl 1 rfl) ?_
    obtain ⟨o5, hF⟩ := hF
    refine zgoi (zrunV (As := [.int (zI (a))]) (rest := []) C hE hH hS hl.1 (c_X7_wordOf (l := l) hC.2 (a) ha o5) k_RX7_80 ⟨Nat.le_of_ble_eq_true rfl, Nat.le_of_ble_eq_true rfl⟩ (zRr_n0 hC.1) (zRr_k0 hC.1) rfl rfl rfl (Nat.le_of_ble_eq_true rfl) dX7_readLine_9 ⟨Nat.zero_le _, Nat.zero_le _⟩) hS (fun rq Xq Yq Rq H locs hrq hq hH hS => ?_)
    obtain ⟨h91, h92⟩ := hq
    have h93 : Xq = X := congrArg (fun z => z.1) h92
    have h94 : Yq = Y := congrArg (fun z => z.2.1) h92
    have h95 : Rq = R := congrArg (fun z => z.2.2) h92
    rw [h93, h94, h95] at hH
    subst h91
    have hr6 := hrq
    have hF := hF hr6
    refine lv_goto (tgt := 16) C.1 C.2.1 dX7_readLine_12 (by decide) ?_
    refine lv_istore_n (lv' := [(2, .int (zI (wdF X i j (a) 7))), (0, .ref (bs + (i))), (1, .int (zI (a)))]) C.1 C.2.1 dX7_readLine_16 rfl hl (by decide) rfl (fun ls hl => ?_)
    refine lv_iload_n C.1 C.2.1 dX7_readLine_17 rfl (lv_at hl 0 rfl) ?_
    refine zd_iconst C dX7_readLine_18 ?_
    refine zd_icmp_ne C hr6 (by decide) 27 dX7_readLine_19 (by decide) (fun c7 => ?_) (fun c7 => ?_)
    · have hF := hF.1 c7
      have J1 : ∀ (X8 : Nat → Int → Int), (X8 = (if tmB X i a (wdF X i j a 7) = true then (if X i 3 = 0 then zU (zU X i 3 3) i 4 (X i 8) else X) else X)) → ∀ (H : Heap) (locs : List Loc) (ls : Array Slot), zH D cy bs N kd len X8 Y R H → va_S (zA bs) s.heap H locs → lv_has ls 5 [(2, .int (zI (wdF X i j (a) 7))), (0, .ref (bs + (i))), (1, .int (zI (a)))] → W p l e (zRm 6 129) s m args below meth c H locs 0 0 (MQ below (zQi D cy bs N kd len (fun r st => st.2.1 = Y ∧ st.2.2 = R ∧ ∃ rb : Bool, r = bz rb ∧ (rcK X (st.1) i ∧ rdV (st.1) i ∧ lnV (st.1) i ∧ (rb = true → oRc (st.1) i j ∧ ((st.1) i 3 = 0 → (st.1) i 4 = X i 4 ∧ X i 3 = 0)) ∧ rlP (st.1) i j (a) (X j) (X i 6).toNat rb (rdL (X j) (X i 6).toNat (a) sS)))) args s 0 0 (zA bs)) (F0 m 41 ls []) := by
        intro X8  hI H locs ls hH hS hl
        have hF := hF.1 X8  hH.2.2.1 hI
        refine lv_iload_n C.1 C.2.1 dX7_readLine_41 rfl (lv_at hl 2 rfl) ?_
        refine zgoi (zrunS (As := [.int (zI (a))]) (rest := []) C hE hH hS hl.1 (c_X7_numbersOf (l := l)  (a) ha) k_RX7_95 ⟨Nat.le_of_ble_eq_true rfl, Nat.le_of_ble_eq_true rfl⟩ rfl (Nat.le_of_ble_eq_true rfl) dX7_readLine_42 ⟨Nat.zero_le _, Nat.zero_le _⟩) hS (fun rq Xq Yq Rq H locs hrq hq hH hS => ?_)
        obtain ⟨h91, h92⟩ := hq
        have h93 : Xq = X8 := congrArg (fun z => z.1) h92
        have h94 : Yq = Y := congrArg (fun z => z.2.1) h92
        have h95 : Rq = R := congrArg (fun z => z.2.2) h92
        rw [h93, h94, h95] at hH
        subst h91
        have hr9 := hrq
        have hF := hF hr9
        refine lv_istore_n (lv' := [(3, .int (zI (((ncN (a) : Nat) : Int)))), (2, .int (zI (wdF X i j (a) 7))), (0, .ref (bs + (i))), (1, .int (zI (a)))]) C.1 C.2.1 dX7_readLine_45 rfl hl (by decide) rfl (fun ls hl => ?_)
        refine zd_iconst C dX7_readLine_46 ?_
        refine lv_istore (lv' := [(4, .int (zI (0))), (3, .int (zI (((ncN (a) : Nat) : Int)))), (2, .int (zI (wdF X i j (a) 7))), (0, .ref (bs + (i))), (1, .int (zI (a)))]) C.1 C.2.1 dX7_readLine_47 hl (by decide) rfl (fun ls hl => ?_)
        obtain ⟨hI10, hF⟩ := hF
        have L10 : ∀ (fu : Nat) (k : Int) (X11 : Nat → Int → Int), rI k → (((∀ z, z ≠ i → z ≠ i + 11 → X11 z = X z) ∧ (∀ s, (s < 3 ∨ s = 5 ∨ s = 6 ∨ 10 < s) → X11 i s = X i s) ∧ lnV X11 i ∧ (X11 i 3 = 0 → X i 3 = 0 ∧ tmB X i a (wdF X i j a 7) = false ∧ X11 i 4 = X i 4)) ∧ ∃ q : Nat, k = q ∧ q ≤ ncN a ∧ ((q = 0 → X11 i 8 = X i 8) ∧ X11 i 7 = ptN (X j) (X i 6).toNat (tkN (X j) (X i 6).toNat sS.1) q) ∧ (∀ y : Nat, y < q → X11 (i + 11) y = tkV (X j) (X i 6).toNat (ptN (X j) (X i 6).toNat (tkN (X j) (X i 6).toNat sS.1) y)) ∧ ∃ f, rdN (X j) (X i 6).toNat a (wdF X i j a 7) sS.2.1.1 (tkN (X j) (X i 6).toNat sS.1) (f1L (X j) (X i 6).toNat a (wdF X i j a 7) sS) q = .inr f ∧ X11 i 3 = f.1 ∧ (f.1 ≠ 0 → X11 i 4 = f.2)) → ((10 - k).toNat) < fu → ∀ (H : Heap) (locs : List Loc) (ls : Array Slot), zH D cy bs N kd len X11 Y R H → va_S (zA bs) s.heap H locs → lv_has ls 5 [(4, .int (zI (k))), (3, .int (zI (((ncN (a) : Nat) : Int)))), (2, .int (zI (wdF X i j (a) 7))), (0, .ref (bs + (i))), (1, .int (zI (a)))] → W p l e (zRm 6 129) s m args below meth c H locs 0 0 (MQ below (zQi D cy bs N kd len (fun r st => st.2.1 = Y ∧ st.2.2 = R ∧ ∃ rb : Bool, r = bz rb ∧ (rcK X (st.1) i ∧ rdV (st.1) i ∧ lnV (st.1) i ∧ (rb = true → oRc (st.1) i j ∧ ((st.1) i 3 = 0 → (st.1) i 4 = X i 4 ∧ X i 3 = 0)) ∧ rlP (st.1) i j (a) (X j) (X i 6).toNat rb (rdL (X j) (X i 6).toNat (a) sS)))) args s 0 0 (zA bs)) (F0 m 49 ls []) := by
          intro fu
          induction fu with
          | zero => intro k X11 _ _ hmu; exact absurd hmu (Nat.not_lt_zero _)
          | succ fu ih10 =>
            intro k X11 hk hI hmu10 H locs ls hH hS hl
            have hF := hF k X11 hk hH.2.2.1 hI
            refine lv_iload C.1 C.2.1 dX7_readLine_49 (lv_at hl 0 rfl) ?_
            refine lv_iload_n C.1 C.2.1 dX7_readLine_51 rfl (lv_at hl 1 rfl) ?_
            refine zd_icmp_ge C hk hr9 111 dX7_readLine_52 (by decide) (fun c12 => ?_) (fun c12 => ?_)
            · have hF := hF.1 c12
              refine lv_aload_n C.1 C.2.1 dX7_readLine_111 rfl (lv_at hl 3 rfl) ?_
              obtain ⟨o13, hF⟩ := hF
              refine zgov (zrunV (As := []) (rest := []) C hE hH hS hl.1 (c_X7_step (l := l) hC.2  o13) k_RX7_70 ⟨Nat.le_of_ble_eq_true rfl, Nat.le_of_ble_eq_true rfl⟩ (zRr_n0 hC.1) (zRr_k0 hC.1) rfl rfl rfl (Nat.le_of_ble_eq_true rfl) dX7_readLine_112 ⟨Nat.zero_le _, Nat.zero_le _⟩) hS (fun X14 Yq Rq H locs hq hH hS => ?_)
              obtain ⟨h9Y, h9R, hq⟩ := hq
              dsimp only at h9Y h9R
              rw [h9Y, h9R] at hH
              have hF := hF X14 hH.2.2.1 hq
              refine lv_aload_n C.1 C.2.1 dX7_readLine_115 rfl (lv_at hl 3 rfl) ?_
              refine zg7_9 C hH (zRr_n0 hC.1) (zRr_k0 hC.1) q_336 dX7_readLine_116 ?_
              refine zd_iconst C dX7_readLine_119 ?_
              refine zd_icmp_eq C (hH.2.2.1 _ _) (by decide) 128 dX7_readLine_120 (by decide) (fun c15 => ?_) (fun c15 => ?_)
              · have hF := hF.1 c15
                refine lv_aload_n C.1 C.2.1 dX7_readLine_128 rfl (lv_at hl 3 rfl) ?_
                refine zg7_3 C hH (zRr_n0 hC.1) (zRr_k0 hC.1) q_328 dX7_readLine_129 ?_
                refine zd_if_ne C (hH.2.2.1 _ _) 141 dX7_readLine_132 (by decide) (fun c16 => ?_) (fun c16 => ?_)
                · have hF := hF.1 c16
                  refine lv_aload_n C.1 C.2.1 dX7_readLine_141 rfl (lv_at hl 3 rfl) ?_
                  obtain ⟨o17, hF⟩ := hF
                  refine zgov (zrunV (As := []) (rest := []) C hE hH hS hl.1 (c_X7_step (l := l) hC.2  o17) k_RX7_70 ⟨Nat.le_of_ble_eq_true rfl, Nat.le_of_ble_eq_true rfl⟩ (zRr_n0 hC.1) (zRr_k0 hC.1) rfl rfl rfl (Nat.le_of_ble_eq_true rfl) dX7_readLine_142 ⟨Nat.zero_le _, Nat.zero_le _⟩) hS (fun X18 Yq Rq H locs hq hH hS => ?_)
                  obtain ⟨h9Y, h9R, hq⟩ := hq
                  dsimp only at h9Y h9R
                  rw [h9Y, h9R] at hH
                  have hF := hF X18 hH.2.2.1 hq
                  refine zd_iconst C dX7_readLine_145 ?_
                  exact zd_zret C hr hlk hH hS (by decide) (⟨rfl, rfl, _, rfl, hF⟩) dX7_readLine_146
                · have hF := hF.2 c16
                  refine lv_aload_n C.1 C.2.1 dX7_readLine_135 rfl (lv_at hl 3 rfl) ?_
                  refine lv_iload_n C.1 C.2.1 dX7_readLine_136 rfl (lv_at hl 4 rfl) ?_
                  refine lv_iload_n C.1 C.2.1 dX7_readLine_137 rfl (lv_at hl 2 rfl) ?_
                  obtain ⟨o19, hF⟩ := hF
                  refine zgov (zrunV (As := [.int (zI (a)), .int (zI (wdF X i j (a) 7))]) (rest := []) C hE hH hS hl.1 (c_X7_tellLine (l := l) hC (a) ha (wdF X i j (a) 7) hr6 o19) k_RX7_105 ⟨Nat.le_of_ble_eq_true rfl, Nat.le_of_ble_eq_true rfl⟩ (zRr_n0 hC.1) (zRr_k0 hC.1) rfl rfl rfl (Nat.le_of_ble_eq_true rfl) dX7_readLine_138 ⟨Nat.zero_le _, Nat.zero_le _⟩) hS (fun X20 Yq Rq H locs hq hH hS => ?_)
                  obtain ⟨h9Y, h9R, hq⟩ := hq
                  dsimp only at h9Y h9R
                  rw [h9Y, h9R] at hH
                  have hF := hF X20 hH.2.2.1 hq
                  refine lv_aload_n C.1 C.2.1 dX7_readLine_141 rfl (lv_at hl 3 rfl) ?_
                  obtain ⟨o21, hF⟩ := hF
                  refine zgov (zrunV (As := []) (rest := []) C hE hH hS hl.1 (c_X7_step (l := l) hC.2  o21) k_RX7_70 ⟨Nat.le_of_ble_eq_true rfl, Nat.le_of_ble_eq_true rfl⟩ (zRr_n0 hC.1) (zRr_k0 hC.1) rfl rfl rfl (Nat.le_of_ble_eq_true rfl) dX7_readLine_142 ⟨Nat.zero_le _, Nat.zero_le _⟩) hS (fun X22 Yq Rq H locs hq hH hS => ?_)
                  obtain ⟨h9Y, h9R, hq⟩ := hq
                  dsimp only at h9Y h9R
                  rw [h9Y, h9R] at hH
                  have hF := hF X22 hH.2.2.1 hq
                  refine zd_iconst C dX7_readLine_145 ?_
                  exact zd_zret C hr hlk hH hS (by decide) (⟨rfl, rfl, _, rfl, hF⟩) dX7_readLine_146
              · have hF := hF.2 c15
                refine lv_aload_n C.1 C.2.1 dX7_readLine_123 rfl (lv_at hl 3 rfl) ?_
                refine zgoi (zrunV (As := []) (rest := []) C hE hH hS hl.1 (c_X7_noTextGoesOn (l := l) hC.2 ) k_RX7_84 ⟨Nat.le_of_ble_eq_true rfl, Nat.le_of_ble_eq_true rfl⟩ (zRr_n0 hC.1) (zRr_k0 hC.1) rfl rfl rfl (Nat.le_of_ble_eq_true rfl) dX7_readLine_124 ⟨Nat.zero_le _, Nat.zero_le _⟩) hS (fun rq X23 Yq Rq H locs hrq hq hH hS => ?_)
                obtain ⟨h9Y, h9R, hq⟩ := hq
                dsimp only at h9Y h9R
                rw [h9Y, h9R] at hH
                obtain ⟨r24, h91, hq⟩ := hq
                subst h91
                have hF := hF r24 X23 hH.2.2.1 hq
                exact zd_zret C hr hlk hH hS bz_01 (⟨rfl, rfl, _, rfl, hF⟩) dX7_readLine_127
            · have hF := hF.2 c12
              refine lv_iload C.1 C.2.1 dX7_readLine_55 (lv_at hl 0 rfl) ?_
              refine zd_iconst C dX7_readLine_57 ?_
              refine zd_icmp_ge C hk (by decide) 111 dX7_readLine_58 (by decide) (fun c25 => ?_) (fun c25 => ?_)
              · have hF := hF.1 c25
                refine lv_aload_n C.1 C.2.1 dX7_readLine_111 rfl (lv_at hl 3 rfl) ?_
                obtain ⟨o26, hF⟩ := hF
                refine zgov (zrunV (As := []) (rest := []) C hE hH hS hl.1 (c_X7_step (l := l) hC.2  o26) k_RX7_70 ⟨Nat.le_of_ble_eq_true rfl, Nat.le_of_ble_eq_true rfl⟩ (zRr_n0 hC.1) (zRr_k0 hC.1) rfl rfl rfl (Nat.le_of_ble_eq_true rfl) dX7_readLine_112 ⟨Nat.zero_le _, Nat.zero_le _⟩) hS (fun X27 Yq Rq H locs hq hH hS => ?_)
                obtain ⟨h9Y, h9R, hq⟩ := hq
                dsimp only at h9Y h9R
                rw [h9Y, h9R] at hH
                have hF := hF X27 hH.2.2.1 hq
                refine lv_aload_n C.1 C.2.1 dX7_readLine_115 rfl (lv_at hl 3 rfl) ?_
                refine zg7_9 C hH (zRr_n0 hC.1) (zRr_k0 hC.1) q_336 dX7_readLine_116 ?_
                refine zd_iconst C dX7_readLine_119 ?_
                refine zd_icmp_eq C (hH.2.2.1 _ _) (by decide) 128 dX7_readLine_120 (by decide) (fun c28 => ?_) (fun c28 => ?_)
                · have hF := hF.1 c28
                  refine lv_aload_n C.1 C.2.1 dX7_readLine_128 rfl (lv_at hl 3 rfl) ?_
                  refine zg7_3 C hH (zRr_n0 hC.1) (zRr_k0 hC.1) q_328 dX7_readLine_129 ?_
                  refine zd_if_ne C (hH.2.2.1 _ _) 141 dX7_readLine_132 (by decide) (fun c29 => ?_) (fun c29 => ?_)
                  · have hF := hF.1 c29
                    refine lv_aload_n C.1 C.2.1 dX7_readLine_141 rfl (lv_at hl 3 rfl) ?_
                    obtain ⟨o30, hF⟩ := hF
                    refine zgov (zrunV (As := []) (rest := []) C hE hH hS hl.1 (c_X7_step (l := l) hC.2  o30) k_RX7_70 ⟨Nat.le_of_ble_eq_true rfl, Nat.le_of_ble_eq_true rfl⟩ (zRr_n0 hC.1) (zRr_k0 hC.1) rfl rfl rfl (Nat.le_of_ble_eq_true rfl) dX7_readLine_142 ⟨Nat.zero_le _, Nat.zero_le _⟩) hS (fun X31 Yq Rq H locs hq hH hS => ?_)
                    obtain ⟨h9Y, h9R, hq⟩ := hq
                    dsimp only at h9Y h9R
                    rw [h9Y, h9R] at hH
                    have hF := hF X31 hH.2.2.1 hq
                    refine zd_iconst C dX7_readLine_145 ?_
                    exact zd_zret C hr hlk hH hS (by decide) (⟨rfl, rfl, _, rfl, hF⟩) dX7_readLine_146
                  · have hF := hF.2 c29
                    refine lv_aload_n C.1 C.2.1 dX7_readLine_135 rfl (lv_at hl 3 rfl) ?_
                    refine lv_iload_n C.1 C.2.1 dX7_readLine_136 rfl (lv_at hl 4 rfl) ?_
                    refine lv_iload_n C.1 C.2.1 dX7_readLine_137 rfl (lv_at hl 2 rfl) ?_
                    obtain ⟨o32, hF⟩ := hF
                    refine zgov (zrunV (As := [.int (zI (a)), .int (zI (wdF X i j (a) 7))]) (rest := []) C hE hH hS hl.1 (c_X7_tellLine (l := l) hC (a) ha (wdF X i j (a) 7) hr6 o32) k_RX7_105 ⟨Nat.le_of_ble_eq_true rfl, Nat.le_of_ble_eq_true rfl⟩ (zRr_n0 hC.1) (zRr_k0 hC.1) rfl rfl rfl (Nat.le_of_ble_eq_true rfl) dX7_readLine_138 ⟨Nat.zero_le _, Nat.zero_le _⟩) hS (fun X33 Yq Rq H locs hq hH hS => ?_)
                    obtain ⟨h9Y, h9R, hq⟩ := hq
                    dsimp only at h9Y h9R
                    rw [h9Y, h9R] at hH
                    have hF := hF X33 hH.2.2.1 hq
                    refine lv_aload_n C.1 C.2.1 dX7_readLine_141 rfl (lv_at hl 3 rfl) ?_
                    obtain ⟨o34, hF⟩ := hF
                    refine zgov (zrunV (As := []) (rest := []) C hE hH hS hl.1 (c_X7_step (l := l) hC.2  o34) k_RX7_70 ⟨Nat.le_of_ble_eq_true rfl, Nat.le_of_ble_eq_true rfl⟩ (zRr_n0 hC.1) (zRr_k0 hC.1) rfl rfl rfl (Nat.le_of_ble_eq_true rfl) dX7_readLine_142 ⟨Nat.zero_le _, Nat.zero_le _⟩) hS (fun X35 Yq Rq H locs hq hH hS => ?_)
                    obtain ⟨h9Y, h9R, hq⟩ := hq
                    dsimp only at h9Y h9R
                    rw [h9Y, h9R] at hH
                    have hF := hF X35 hH.2.2.1 hq
                    refine zd_iconst C dX7_readLine_145 ?_
                    exact zd_zret C hr hlk hH hS (by decide) (⟨rfl, rfl, _, rfl, hF⟩) dX7_readLine_146
                · have hF := hF.2 c28
                  refine lv_aload_n C.1 C.2.1 dX7_readLine_123 rfl (lv_at hl 3 rfl) ?_
                  refine zgoi (zrunV (As := []) (rest := []) C hE hH hS hl.1 (c_X7_noTextGoesOn (l := l) hC.2 ) k_RX7_84 ⟨Nat.le_of_ble_eq_true rfl, Nat.le_of_ble_eq_true rfl⟩ (zRr_n0 hC.1) (zRr_k0 hC.1) rfl rfl rfl (Nat.le_of_ble_eq_true rfl) dX7_readLine_124 ⟨Nat.zero_le _, Nat.zero_le _⟩) hS (fun rq X36 Yq Rq H locs hrq hq hH hS => ?_)
                  obtain ⟨h9Y, h9R, hq⟩ := hq
                  dsimp only at h9Y h9R
                  rw [h9Y, h9R] at hH
                  obtain ⟨r37, h91, hq⟩ := hq
                  subst h91
                  have hF := hF r37 X36 hH.2.2.1 hq
                  exact zd_zret C hr hlk hH hS bz_01 (⟨rfl, rfl, _, rfl, hF⟩) dX7_readLine_127
              · have hF := hF.2 c25
                refine lv_aload_n C.1 C.2.1 dX7_readLine_61 rfl (lv_at hl 3 rfl) ?_
                obtain ⟨o38, hF⟩ := hF
                refine zgov (zrunV (As := []) (rest := []) C hE hH hS hl.1 (c_X7_step (l := l) hC.2  o38) k_RX7_70 ⟨Nat.le_of_ble_eq_true rfl, Nat.le_of_ble_eq_true rfl⟩ (zRr_n0 hC.1) (zRr_k0 hC.1) rfl rfl rfl (Nat.le_of_ble_eq_true rfl) dX7_readLine_62 ⟨Nat.zero_le _, Nat.zero_le _⟩) hS (fun X39 Yq Rq H locs hq hH hS => ?_)
                obtain ⟨h9Y, h9R, hq⟩ := hq
                dsimp only at h9Y h9R
                rw [h9Y, h9R] at hH
                have hF := hF X39 hH.2.2.1 hq
                refine lv_aload_n C.1 C.2.1 dX7_readLine_65 rfl (lv_at hl 3 rfl) ?_
                refine zg7_9 C hH (zRr_n0 hC.1) (zRr_k0 hC.1) q_336 dX7_readLine_66 ?_
                refine zd_iconst C dX7_readLine_69 ?_
                refine zd_icmp_eq C (hH.2.2.1 _ _) (by decide) 78 dX7_readLine_70 (by decide) (fun c40 => ?_) (fun c40 => ?_)
                · have hF := hF.1 c40
                  refine lv_aload_n C.1 C.2.1 dX7_readLine_78 rfl (lv_at hl 3 rfl) ?_
                  refine zg7_11 C hH (zRr_n0 hC.1) (zRr_k0 hC.1) q_338 (zRr_11 hC.1).2.2 dX7_readLine_79 ?_
                  refine lv_iload C.1 C.2.1 dX7_readLine_82 (lv_at hl 0 rfl) ?_
                  refine lv_aload_n C.1 C.2.1 dX7_readLine_84 rfl (lv_at hl 3 rfl) ?_
                  refine zg7_10 C hH (zRr_n0 hC.1) (zRr_k0 hC.1) q_337 dX7_readLine_85 ?_
                  obtain ⟨o41, hF⟩ := hF
                  refine zd_iast C hH hS (zRr_n11 hC.1) (zRr_11 hC.1).1 o41.1 (by rw [zRr_l11 hC.1]; exact o41.2) (by rw [zRr_l11 hC.1]; decide) (hH.2.2.1 _ _) dX7_readLine_88 (fun H locs hH hS => ?_)
                  obtain ⟨X42, eX42⟩ : ∃ z, z = zU X39 (i + 11) (k) (X39 (i) 10) := ⟨_, rfl⟩
                  rw [← eX42] at hH
                  have hF := hF X42 eX42 hH.2.2.1
                  refine lv_aload_n C.1 C.2.1 dX7_readLine_89 rfl (lv_at hl 3 rfl) ?_
                  refine lv_iload_n C.1 C.2.1 dX7_readLine_90 rfl (lv_at hl 4 rfl) ?_
                  refine lv_iload_n C.1 C.2.1 dX7_readLine_91 rfl (lv_at hl 2 rfl) ?_
                  refine lv_iload C.1 C.2.1 dX7_readLine_92 (lv_at hl 0 rfl) ?_
                  obtain ⟨o43, hF⟩ := hF
                  refine zgoi (zrunV (As := [.int (zI (a)), .int (zI (wdF X i j (a) 7)), .int (zI (k))]) (rest := []) C hE hH hS hl.1 (c_X7_canBe (l := l) hC (a) ha (wdF X i j (a) 7) hr6 (k) hk o43) k_RX7_101 ⟨Nat.le_of_ble_eq_true rfl, Nat.le_of_ble_eq_true rfl⟩ (zRr_n0 hC.1) (zRr_k0 hC.1) rfl rfl rfl (Nat.le_of_ble_eq_true rfl) dX7_readLine_94 ⟨Nat.zero_le _, Nat.zero_le _⟩) hS (fun rq Xq Yq Rq H locs hrq hq hH hS => ?_)
                  obtain ⟨h91, h92⟩ := hq
                  have h93 : Xq = X42 := congrArg (fun z => z.1) h92
                  have h94 : Yq = Y := congrArg (fun z => z.2.1) h92
                  have h95 : Rq = R := congrArg (fun z => z.2.2) h92
                  rw [h93, h94, h95] at hH
                  subst h91
                  refine zd_ifB_ne C 105 dX7_readLine_97 (by decide) (fun c44 => ?_) (fun c44 => ?_)
                  · have hF := hF.1 c44
                    refine zd_iinc (k := 0) (lv' := [(4, .int (zI (k + 1))), (3, .int (zI (((ncN (a) : Nat) : Int)))), (2, .int (zI (wdF X i j (a) 7))), (0, .ref (bs + (i))), (1, .int (zI (a)))]) C hl rfl dX7_readLine_105 (by decide) rfl (fun ls hl => ?_)
                    refine lv_goto (tgt := 49) C.1 C.2.1 dX7_readLine_108 (by decide) ?_
                    obtain ⟨o45, hF⟩ := hF
                    exact ih10 (k + 1) X42 o45 hF.1 (Nat.lt_of_lt_of_le hF.2 (Nat.le_of_lt_succ hmu10)) _ _ _ hH hS (lv_sub hl [0, 1, 2, 3, 4] rfl)
                  · have hF := hF.2 c44
                    refine lv_aload_n C.1 C.2.1 dX7_readLine_100 rfl (lv_at hl 3 rfl) ?_
                    refine zd_iconst C dX7_readLine_101 ?_
                    refine zgov (zrunV (As := [.int (zI (2))]) (rest := []) C hE hH hS hl.1 (c_X7_note (l := l) hC.2 (2) (by decide)) k_RX7_92 ⟨Nat.le_of_ble_eq_true rfl, Nat.le_of_ble_eq_true rfl⟩ (zRr_n0 hC.1) (zRr_k0 hC.1) rfl rfl rfl (Nat.le_of_ble_eq_true rfl) dX7_readLine_102 ⟨Nat.zero_le _, Nat.zero_le _⟩) hS (fun X46 Yq Rq H locs hq hH hS => ?_)
                    obtain ⟨h9Y, h9R, hq⟩ := hq
                    dsimp only at h9Y h9R
                    rw [h9Y, h9R] at hH
                    have hF := hF X46 hH.2.2.1 hq
                    refine zd_iinc (k := 0) (lv' := [(4, .int (zI (k + 1))), (3, .int (zI (((ncN (a) : Nat) : Int)))), (2, .int (zI (wdF X i j (a) 7))), (0, .ref (bs + (i))), (1, .int (zI (a)))]) C hl rfl dX7_readLine_105 (by decide) rfl (fun ls hl => ?_)
                    refine lv_goto (tgt := 49) C.1 C.2.1 dX7_readLine_108 (by decide) ?_
                    obtain ⟨o47, hF⟩ := hF
                    exact ih10 (k + 1) X46 o47 hF.1 (Nat.lt_of_lt_of_le hF.2 (Nat.le_of_lt_succ hmu10)) _ _ _ hH hS (lv_sub hl [0, 1, 2, 3, 4] rfl)
                · have hF := hF.2 c40
                  refine lv_aload_n C.1 C.2.1 dX7_readLine_73 rfl (lv_at hl 3 rfl) ?_
                  refine zgoi (zrunV (As := []) (rest := []) C hE hH hS hl.1 (c_X7_noTextGoesOn (l := l) hC.2 ) k_RX7_84 ⟨Nat.le_of_ble_eq_true rfl, Nat.le_of_ble_eq_true rfl⟩ (zRr_n0 hC.1) (zRr_k0 hC.1) rfl rfl rfl (Nat.le_of_ble_eq_true rfl) dX7_readLine_74 ⟨Nat.zero_le _, Nat.zero_le _⟩) hS (fun rq X48 Yq Rq H locs hrq hq hH hS => ?_)
                  obtain ⟨h9Y, h9R, hq⟩ := hq
                  dsimp only at h9Y h9R
                  rw [h9Y, h9R] at hH
                  obtain ⟨r49, h91, hq⟩ := hq
                  subst h91
                  have hF := hF r49 X48 hH.2.2.1 hq
                  exact zd_zret C hr hlk hH hS bz_01 (⟨rfl, rfl, _, rfl, hF⟩) dX7_readLine_77
        exact L10 (((10 - (0 : Int)).toNat) + 1) ((0 : Int)) X8 (by decide) hI10 (Nat.lt_succ_self _) _ _ _ hH hS (lv_sub hl [0, 1, 2, 3, 4] rfl)
      have hF := hF.2
      refine lv_aload_n C.1 C.2.1 dX7_readLine_27 rfl (lv_at hl 1 rfl) ?_
      refine lv_iload_n C.1 C.2.1 dX7_readLine_28 rfl (lv_at hl 2 rfl) ?_
      refine lv_iload_n C.1 C.2.1 dX7_readLine_29 rfl (lv_at hl 0 rfl) ?_
      obtain ⟨o50, hF⟩ := hF
      refine zgoi (zrunV (As := [.int (zI (a)), .int (zI (wdF X i j (a) 7))]) (rest := []) C hE hH hS hl.1 (c_X7_isTooMany (l := l) hC (a) ha (wdF X i j (a) 7) hr6 o50) k_RX7_88 ⟨Nat.le_of_ble_eq_true rfl, Nat.le_of_ble_eq_true rfl⟩ (zRr_n0 hC.1) (zRr_k0 hC.1) rfl rfl rfl (Nat.le_of_ble_eq_true rfl) dX7_readLine_30 ⟨Nat.zero_le _, Nat.zero_le _⟩) hS (fun rq Xq Yq Rq H locs hrq hq hH hS => ?_)
      obtain ⟨h91, h92⟩ := hq
      have h93 : Xq = X := congrArg (fun z => z.1) h92
      have h94 : Yq = Y := congrArg (fun z => z.2.1) h92
      have h95 : Rq = R := congrArg (fun z => z.2.2) h92
      rw [h93, h94, h95] at hH
      subst h91
      refine zd_ifB_eq C 41 dX7_readLine_33 (by decide) (fun c51 => ?_) (fun c51 => ?_)
      · have hF := hF.1 c51
        exact J1 X  hF _ _ _ hH hS (lv_sub hl [0, 1, 2] rfl)
      · have hF := hF.2 c51
        refine lv_aload_n C.1 C.2.1 dX7_readLine_36 rfl (lv_at hl 1 rfl) ?_
        refine zd_iconst C dX7_readLine_37 ?_
        refine zgov (zrunV (As := [.int (zI (3))]) (rest := []) C hE hH hS hl.1 (c_X7_note (l := l) hC.2 (3) (by decide)) k_RX7_92 ⟨Nat.le_of_ble_eq_true rfl, Nat.le_of_ble_eq_true rfl⟩ (zRr_n0 hC.1) (zRr_k0 hC.1) rfl rfl rfl (Nat.le_of_ble_eq_true rfl) dX7_readLine_38 ⟨Nat.zero_le _, Nat.zero_le _⟩) hS (fun X52 Yq Rq H locs hq hH hS => ?_)
        obtain ⟨h9Y, h9R, hq⟩ := hq
        dsimp only at h9Y h9R
        rw [h9Y, h9R] at hH
        have hF := hF X52 hH.2.2.1 hq
        exact J1 X52  hF _ _ _ hH hS (lv_sub hl [0, 1, 2] rfl)
    · have hF := hF.2 c7
      refine lv_aload_n C.1 C.2.1 dX7_readLine_22 rfl (lv_at hl 1 rfl) ?_
      refine zgoi (zrunV (As := []) (rest := []) C hE hH hS hl.1 (c_X7_noTextGoesOn (l := l) hC.2 ) k_RX7_84 ⟨Nat.le_of_ble_eq_true rfl, Nat.le_of_ble_eq_true rfl⟩ (zRr_n0 hC.1) (zRr_k0 hC.1) rfl rfl rfl (Nat.le_of_ble_eq_true rfl) dX7_readLine_23 ⟨Nat.zero_le _, Nat.zero_le _⟩) hS (fun rq X53 Yq Rq H locs hrq hq hH hS => ?_)
      obtain ⟨h9Y, h9R, hq⟩ := hq
      dsimp only at h9Y h9R
      rw [h9Y, h9R] at hH
      obtain ⟨r54, h91, hq⟩ := hq
      subst h91
      have hF := hF r54 X53 hH.2.2.1 hq
      exact zd_zret C hr hlk hH hS bz_01 (⟨rfl, rfl, _, rfl, hF⟩) dX7_readLine_26
set_option maxHeartbeats 4000000 in
theorem v_X7_readLine {X Y : Nat → Int → Int} {R : Nat → Int → Option Nat} {i j : Nat} {sS : rST} (a : Int) (ha : rI a) (hp : (0 ≤ a ∧ a ≤ 4) ∧ (oRc X i j ∧ (j < i ∨ i + 17 < j)) ∧ (rdV X i ∧ lnV X i) ∧ crS X i j (a) sS ∧ tkS (X j) (X i 6).toNat sS.1 ≠ 0) : F_X7_readLine i j sS X Y R a := by
  unfold F_X7_readLine
  intro hX hY
  obtain ⟨ha, ⟨hrc, hj⟩, ⟨hv, hl⟩, ⟨⟨hsn, ht8, ht7, ht9, ht10⟩, ⟨hf3, hf4⟩, htd⟩, hk0⟩ := hp
  have le := tk_le (T := X j) hsn
  have ji : j ≠ i := by omega
  have j11 : j ≠ i + 11 := by omega
  replace le := And.intro le.1 le.2.1
  have n0 : 0 ≤ X i 6 := by have := hrc.2.1; omega
  have nc := ncN_4 a
  have n6 := hrc.2.2.1
  replace ji : Hid _ := ji
  replace j11 : Hid _ := j11
  replace hj : Hid _ := hj
  replace hf4 : Hid _ := hf4
  replace hk0 : Hid _ := hk0
  replace ht10 : Hid _ := ht10
  replace htd : Hid _ := htd
  refine ⟨?_, ?_⟩
  · intro c1
    intro r4
    intro X3
    intro rX3
    intro h1
    have kn : kwT (X j) (X i 6).toNat sS.1 a = -1 := by
      unfold kwT
      rw [if_neg (fun z => c1 (by rw [ht9, z]; rfl))]
      exact kwN_0 a ha
    have b := rl_bad (j := j) ⟨fun _ _ _ => rfl, fun _ _ => rfl⟩ hv hl h1
    refine ⟨b.1, b.2.1, b.2.2.1, fun g => absurd (b.2.2.2.2.1.symm.trans g) (by decide), ?_⟩
    rw [rdL_k kn]
    exact ⟨b.2.2.2.2.1, b.2.2.2.2.2.1, b.2.2.2.2.2.2.trans ht8⟩
  intro c2
  have k2 : tkS (X j) (X i 6).toNat sS.1 = 2 := cTk_w (ht9.symm.trans (Classical.not_not.mp c2))
  have kw := kw_eq ha ht8 ht7 k2
  refine ⟨?_, ?_⟩
  · refine ⟨ha, ?_⟩
    rw [ht8, ht7]
    omega
  intro _
  refine ⟨?_, ?_⟩
  · intro c3
    have kb := kwN_b a (if tkS (X j) (X i 6).toNat sS.1 = 2 then tkW (X j) (X i 6).toNat sS.1 else 0)
    have kb : -1 ≤ wdF X i j a 7 ∧ wdF X i j a 7 ≤ 6 ∧ (a = 1 → wdF X i j a 7 ≤ 1) ∧ (a = 2 → wdF X i j a 7 ≤ 3) := by rw [kw]; exact kb
    replace kb : Hid _ := kb
    replace c3 : Hid _ := c3
    refine ⟨?_, ?_⟩
    · intro X8
      intro rX8
      intro h2
      intro _
      refine ⟨?_, ?_⟩
      · have e8 : X8 = X ∨ X8 = zU (zU X i 3 3) i 4 (X i 8) := by
          rw [h2]
          split
          · split
            · exact Or.inr rfl
            · exact Or.inl rfl
          · exact Or.inl rfl
        have o8 : (∀ z, z ≠ i → X8 z = X z) ∧ ∀ s, s ≠ 3 → s ≠ 4 → X8 i s = X i s := by
          rcases e8 with e | e
          · rw [e]
            exact ⟨fun _ _ => rfl, fun _ _ _ => rfl⟩
          · rw [e]
            exact ⟨fun z hz => by rw [zU_o hz, zU_o hz], fun s h3 h4 => by rw [zU_n (by omega), zU_n (by omega)]⟩
        have F : (X8 i 3 = 0 → X i 3 = 0 ∧ tmB X i a (wdF X i j a 7) = false ∧ X8 i 4 = X i 4) ∧ X8 i 3 = (f1L (X j) (X i 6).toNat a (wdF X i j a 7) sS).1 ∧ ((f1L (X j) (X i 6).toNat a (wdF X i j a 7) sS).1 ≠ 0 → X8 i 4 = (f1L (X j) (X i 6).toNat a (wdF X i j a 7) sS).2) := by
          by_cases z : X i 3 = 0
          · have z0 : sS.2.2.1 = 0 := by rw [← hf3]; exact z
            have te := tm_eq (w := wdF X i j a 7) ha hv (htd z0)
            unfold f1L
            rw [← te]
            cases ct : tmB X i a (wdF X i j a 7)
            · rw [ct, if_neg (by decide)] at h2
              rw [h2, if_neg (by decide)]
              exact ⟨fun _ => ⟨z, rfl, rfl⟩, hf3, hf4⟩
            · rw [ct, if_pos rfl, if_pos z] at h2
              have e3 : X8 i 3 = 3 := by rw [h2, zU_n (by omega), zU_s]
              have e4 : X8 i 4 = X i 8 := by rw [h2, zU_s]
              rw [if_pos rfl]
              unfold nt
              rw [if_pos z0]
              exact ⟨fun g => absurd (e3.symm.trans g) (by decide), e3, fun _ => e4.trans ht8⟩
          · have z0 : ¬ sS.2.2.1 = 0 := by rw [← hf3]; exact z
            have e : X8 = X := by
              rw [h2, if_neg z]
              split <;> rfl
            have ef : f1L (X j) (X i 6).toNat a (wdF X i j a 7) sS = sS.2.2 := by
              unfold f1L nt
              rw [if_neg z0]
              split <;> rfl
            rw [e, ef]
            exact ⟨fun g => absurd g z, hf3, hf4⟩
        exact ⟨⟨fun z h1 _ => o8.1 z h1, fun s hs => o8.2 s (by omega) (by omega), lnV_o (o8.1 _ (by omega)) hl, F.1⟩, 0, rfl, Nat.zero_le _, ⟨fun _ => o8.2 8 (by decide) (by decide), (o8.2 7 (by decide) (by decide)).trans ht7⟩, fun y hy => absurd hy (Nat.not_lt_zero _), _, rfl, F.2.1, F.2.2⟩
      intro k X11
      intro _
      intro rX11
      intro h3
      obtain ⟨⟨fx, fs, hl11, f0⟩, q, rfl, hq, ⟨_, e7⟩, hy, f, hN, e3, e4⟩ := h3
      replace f0 : Hid _ := f0
      replace e4 : Hid _ := e4
      have pb := ptN_b (T := X j) (n := (X i 6).toNat) (p := tkN (X j) (X i 6).toNat sS.1) le.2.2 q
      have eT : X11 j = X j := fx j ji j11
      have e6 : X11 i 6 = X i 6 := fs 6 (by decide)
      have r11 : oRc X11 i j := ⟨by rw [eT]; exact hrc.1, by rw [e7, e6]; exact ⟨by omega, by omega⟩, by rw [e6]; exact hrc.2.2.1, hrc.2.2.2⟩
      refine ⟨?_, ?_⟩
      · intro c4
        obtain rfl : q = ncN a := by omega
        have hL := rdL_n kw.symm c3 hN
        refine ⟨?_, ?_⟩
        · exact r11
        intro X14
        intro rX14
        intro h4
        replace hj : j < i ∨ i + 17 < j := hj
        have Sa := sp_l fx fs hv hl11 hj hrc e7 pb.2 h4
        obtain ⟨xa, sa, va, la, ra, ⟨u3a, u4a, u11a⟩, t8a, t7a, t9a, t10a⟩ := Sa
        replace t10a : Hid _ := t10a
        replace hj : Hid _ := hj
        clear h4
        have pe := (tk_le (T := X j) pb.2).2.1.2
        have td14 : sS.2.2.1 = 0 → toldR X14 i a sS.2.1 := fun z => toldR_o ha xa (htd z)
        refine ⟨?_, ?_⟩
        · intro c5
          have k4 := cTk_m.mp (t9a.symm.trans c5)
          refine ⟨?_, ?_⟩
          · intro c6
            refine ⟨?_, ?_⟩
            · exact ra
            intro X18
            intro rX18
            intro h5
            have S5 := sp_l (X := X14) (XE := X14) (fun _ _ _ => rfl) (fun _ _ => rfl) va la hj ra t7a (by rw [sa 6 (by decide)]; exact pe) h5
            obtain ⟨xb, sb, vb, lb, rb, ⟨u3b, u4b, u11b⟩, tb⟩ := S5
            clear h5
            rw [xa j ji j11, sa 6 (by decide)] at tb
            have nz : f.1 ≠ 0 := fun z => c6 (by rw [u3a, e3]; exact z)
            refine ⟨⟨fun z hz => (xb z (by omega) (by omega)).trans (xa z (by omega) (by omega)), fun s hs => (sb s hs).trans (sa s hs)⟩, vb, lb, fun _ => ⟨rb, fun g => absurd (by rw [u3b, u3a] at g; exact e3.symm.trans g) nz⟩, ?_⟩
            rw [hL]
            show if tkS _ _ _ = 4 then _ else _
            rw [if_pos k4]
            refine ⟨rfl, ⟨?_, rtA_of ((xb j ji j11).trans (xa j ji j11)) ((sb 6 (by decide)).trans (sa 6 (by decide))) tb⟩, ⟨by rw [u3b, u3a]; exact e3, fun z => by rw [u4b, u4a]; exact e4 z⟩, fun z => absurd z nz⟩
            rw [(sb 6 (by decide)).trans (sa 6 (by decide))]
            exact pe
          intro c7
          have c7 := Classical.not_not.mp c7
          have f10 : f.1 = 0 := by rw [← e3, ← u3a]; exact c7
          have g0 := f0 (by rw [← u3a]; exact c7)
          have z0 : sS.2.2.1 = 0 := by rw [← hf3]; exact g0.1
          refine ⟨?_, ?_⟩
          · refine ⟨⟨ha, fun _ => ⟨by have kb := kb.1; have c3 : ¬ wdF X i j a 7 = -1 := c3; omega, kb.2.1⟩⟩, va, ?_, la⟩
            rw [tmB_o xa]
            exact g0.2.1
          intro X20
          intro rX20
          intro h6
          obtain ⟨tk6, v20, td20⟩ := h6
          have o20 : X20 i = X14 i := tk6 i (Or.inl (Nat.le_refl _))
          have j20 : X20 j = X14 j := tk6 j (by have hj : j < i ∨ i + 17 < j := hj; omega)
          have l20 : lnV X20 i := lnV_o (tk6 _ (Or.inr (Or.inl ⟨by omega, by omega⟩))) la
          have r20 : oRc X20 i j := by
            unfold oRc
            rw [o20, j20]
            exact ra
          refine ⟨?_, ?_⟩
          · exact r20
          intro X22
          intro rX22
          intro h7
          have S7 := sp_l (X := X20) (XE := X20) (fun _ _ _ => rfl) (fun _ _ => rfl) v20 l20 hj r20 (by rw [o20]; exact t7a) (by rw [o20, sa 6 (by decide)]; exact pe) h7
          obtain ⟨xb, sb, vb, lb, rb, ⟨u3b, u4b, u11b⟩, tb⟩ := S7
          clear h7
          rw [o20, j20, xa j ji j11, sa 6 (by decide)] at tb
          refine ⟨⟨fun z hz => (xb z (by omega) (by omega)).trans ((tk6 z (by omega)).trans (xa z (by omega) (by omega))), fun s hs => (sb s hs).trans (by rw [o20]; exact sa s hs)⟩, vb, lb, fun _ => ⟨rb, fun _ => ⟨by rw [u4b, o20, u4a]; exact g0.2.2, g0.1⟩⟩, ?_⟩
          rw [hL]
          show if tkS _ _ _ = 4 then _ else _
          rw [if_pos k4]
          have e22 : X22 i 6 = X i 6 := (sb 6 (by decide)).trans (by rw [o20]; exact sa 6 (by decide))
          refine ⟨rfl, ⟨?_, rtA_of ((xb j ji j11).trans (j20.trans (xa j ji j11))) e22 tb⟩, ⟨by rw [u3b, o20, u3a]; exact e3, fun z => absurd f10 z⟩, fun _ => ?_⟩
          · rw [e22]
            exact pe
          · show toldR X22 i a (if f.1 = 0 then _ else _)
            rw [if_pos f10]
            have t := td20 _ (td14 z0)
            rw [tlN_f (v' := fun j' => tkV (X j) (X i 6).toNat (ptN (X j) (X i 6).toNat (tkN (X j) (X i 6).toNat sS.1) j')) ha (fun y hy' => by
              show X14 (i + 11) (y : Nat) = _
              rw [u11a]
              exact hy y hy')] at t
            exact toldR_o ha xb t
        intro c8
        intro r24
        intro X23
        intro rX23
        intro h8
        have b := rl_bad (j := j) ⟨xa, sa⟩ hv la h8
        refine ⟨b.1, b.2.1, b.2.2.1, fun g => absurd (b.2.2.2.2.1.symm.trans g) (by decide), ?_⟩
        rw [hL]
        show if tkS _ _ _ = 4 then _ else _
        rw [if_neg (fun z => c8 (by rw [t9a]; exact cTk_m.mpr z))]
        exact ⟨b.2.2.2.2.1, b.2.2.2.2.2.1, b.2.2.2.2.2.2.trans t8a⟩
      intro c9
      refine ⟨?_, ?_⟩
      · intro c10
        exfalso
        omega
      intro c15
      refine ⟨?_, ?_⟩
      · exact r11
      intro X39
      intro rX39
      intro h14
      replace hj : j < i ∨ i + 17 < j := hj
      have Sa := sp_l fx fs hv hl11 hj hrc e7 pb.2 h14
      obtain ⟨xa, sa, va, la, ra, ⟨u3a, u4a, u11a⟩, t8a, t7a, t9a, t10a⟩ := Sa
      replace t10a : Hid _ := t10a
      replace hj : Hid _ := hj
      clear h14
      have q4 : q < 4 := by omega
      have ti : ∀ (y : Nat), y < q → X39 (i + 11) y = tkV (X j) (X i 6).toNat (ptN (X j) (X i 6).toNat (tkN (X j) (X i 6).toNat sS.1) y) := fun y hy' => by rw [u11a]; exact hy y hy'
      refine ⟨?_, ?_⟩
      · intro c16
        have k3 := cTk_n.mp (t9a.symm.trans c16)
        have vq := t10a k3
        have vb := tkV_b k3
        have hNy := rdN_y hN k3
        refine ⟨?_, ?_⟩
        · first | omega | exact ⟨by omega, by omega⟩ | decide | assumption | exact ⟨by omega, by omega, by omega⟩ | exact ⟨by decide, by decide⟩
        intro X42
        intro eX42
        have o42 : ∀ z, z ≠ i + 11 → X42 z = X39 z := fun z hz => by rw [eX42, zU_o hz]
        have i42 : X42 i = X39 i := o42 i (by omega)
        have x42 : ∀ z, z ≠ i → z ≠ i + 11 → X42 z = X z := fun z h1 h2 => (o42 z h2).trans (xa z h1 h2)
        have s42 : ∀ s, (s < 3 ∨ s = 5 ∨ s = 6 ∨ 10 < s) → X42 i s = X i s := fun s hs => by rw [i42]; exact sa s hs
        have y42 : ∀ y : Nat, y < q + 1 → X42 (i + 11) y = tkV (X j) (X i 6).toNat (ptN (X j) (X i 6).toNat (tkN (X j) (X i 6).toNat sS.1) y) := fun y hy' => by
          rw [eX42]
          by_cases e : y = q
          · rw [e, zU_s]
            exact vq
          · rw [zU_n (by omega)]
            exact ti y (by omega)
        have l42 : lnV X42 i := fun k k0 k1 => by
          rw [eX42]
          by_cases e : k = q
          · rw [e, zU_s, vq]
            exact vb
          · rw [zU_n (by omega)]
            exact la k k0 k1
        have f42 : X42 i 3 = f.1 := by rw [i42, u3a]; exact e3
        have g42 : f.1 ≠ 0 → X42 i 4 = f.2 := fun z => by rw [i42, u4a]; exact e4 z
        have w42 : X42 i 3 = 0 → X i 3 = 0 ∧ tmB X i a (wdF X i j a 7) = false ∧ X42 i 4 = X i 4 := fun z => by
          have g := f0 (by rw [← u3a, ← i42]; exact z)
          exact ⟨g.1, g.2.1, by rw [i42, u4a]; exact g.2.2⟩
        replace g42 : Hid _ := g42
        replace w42 : Hid _ := w42
        have b42 : X42 i 8 = tkB (X j) (X i 6).toNat (ptN (X j) (X i 6).toNat (tkN (X j) (X i 6).toNat sS.1) q) := by rw [i42]; exact t8a
        have p42 : X42 i 7 = ptN (X j) (X i 6).toNat (tkN (X j) (X i 6).toNat sS.1) (q + 1) := by rw [i42]; exact t7a
        have cq : X42 i 3 = 0 → cbB X42 i a (wdF X i j a 7) q = cbN a (wdF X i j a 7) q (tkV (X j) (X i 6).toNat (ptN (X j) (X i 6).toNat (tkN (X j) (X i 6).toNat sS.1) q)) (tkV (X j) (X i 6).toNat (tkN (X j) (X i 6).toNat sS.1)) sS.2.1.1 := fun z => by
          have v10 : X42 i 10 = tkV (X j) (X i 6).toNat (ptN (X j) (X i 6).toNat (tkN (X j) (X i 6).toNat sS.1) q) := by rw [i42]; exact vq
          have e := cb_eq (X := X42) (i := i) (a := a) (w := wdF X i j a 7) (g := q) (s := sS.2.1) ha ⟨by have kb := kb.1; have c3 : ¬ wdF X i j a 7 = -1 := c3; omega, kb.2.1, kb.2.2.1⟩ ⟨by omega, by omega, fun h1 => by subst h1; have : ncN 1 = 3 := rfl; omega⟩ (by rw [v10]; exact vb) (y42 0 (by omega)) (toldR_o ha x42 (htd (by rw [← hf3]; exact (w42 z).1)))
          rw [v10] at e
          exact e
        intro rX42
        refine ⟨?_, ?_⟩
        · exact ha
        refine ⟨?_, ?_⟩
        · intro c17
          refine ⟨?_, ?_⟩
          · first | omega | exact ⟨by omega, by omega⟩ | decide | assumption | exact ⟨by omega, by omega, by omega⟩ | exact ⟨by decide, by decide⟩
          refine ⟨?_, ?_⟩
          · refine ⟨⟨x42, s42, l42, w42⟩, q + 1, by omega, by omega, ⟨fun g => absurd g (by omega), p42⟩, y42, _, hNy, ?_⟩
            unfold f2L
            by_cases z : f.1 = 0
            · rw [if_pos (by rw [← cq (f42.trans z)]; exact c17)]
              exact ⟨f42, g42⟩
            · have en : ∀ b, nt f 2 b = f := fun b => if_neg z
              rw [en, ite_self]
              exact ⟨f42, g42⟩
          first | omega | exact ⟨by omega, by omega⟩ | decide | assumption | exact ⟨by omega, by omega, by omega⟩ | exact ⟨by decide, by decide⟩
        intro c18
        intro X46
        intro rX46
        intro h15
        refine ⟨?_, ?_⟩
        · first | omega | exact ⟨by omega, by omega⟩ | decide | assumption | exact ⟨by omega, by omega, by omega⟩ | exact ⟨by decide, by decide⟩
        refine ⟨?_, ?_⟩
        · have o46 : (∀ z, z ≠ i → X46 z = X42 z) ∧ ∀ s, s ≠ 3 → s ≠ 4 → X46 i s = X42 i s := by
            rw [h15]
            split
            · exact ⟨fun z hz => by rw [zU_o hz, zU_o hz], fun s h3 h4 => by rw [zU_n (by omega), zU_n (by omega)]⟩
            · exact ⟨fun _ _ => rfl, fun _ _ _ => rfl⟩
          have F : (X46 i 3 ≠ 0) ∧ X46 i 3 = (f2L (X j) (X i 6).toNat a (wdF X i j a 7) sS.2.1.1 (tkN (X j) (X i 6).toNat sS.1) q f).1 ∧ ((f2L (X j) (X i 6).toNat a (wdF X i j a 7) sS.2.1.1 (tkN (X j) (X i 6).toNat sS.1) q f).1 ≠ 0 → X46 i 4 = (f2L (X j) (X i 6).toNat a (wdF X i j a 7) sS.2.1.1 (tkN (X j) (X i 6).toNat sS.1) q f).2) := by
            unfold f2L
            by_cases z : f.1 = 0
            · rw [if_neg (by rw [← cq (f42.trans z), c18]; decide)]
              unfold nt
              rw [if_pos z]
              rw [if_pos (f42.trans z)] at h15
              have e3' : X46 i 3 = 2 := by rw [h15, zU_n (by omega), zU_s]
              exact ⟨by rw [e3']; decide, e3', fun _ => by rw [h15, zU_s]; exact b42⟩
            · have en : ∀ b, nt f 2 b = f := fun b => if_neg z
              rw [en, ite_self]
              rw [if_neg (fun g => z (f42.symm.trans g))] at h15
              rw [h15]
              exact ⟨by rw [f42]; exact z, f42, g42⟩
          exact ⟨⟨fun z h1 h2 => (o46.1 z h1).trans (x42 z h1 h2), fun s hs => (o46.2 s (by omega) (by omega)).trans (s42 s hs), lnV_o (o46.1 _ (by omega)) l42, fun g => absurd g F.1⟩, q + 1, by omega, by omega, ⟨fun g => absurd g (by omega), (o46.2 7 (by decide) (by decide)).trans p42⟩, fun y hy' => by rw [o46.1 _ (by omega)]; exact y42 y hy', _, hNy, F.2⟩
        first | omega | exact ⟨by omega, by omega⟩ | decide | assumption | exact ⟨by omega, by omega, by omega⟩ | exact ⟨by decide, by decide⟩
      intro c19
      intro r49
      intro X48
      intro rX48
      intro h16
      have b := rl_bad (j := j) ⟨xa, sa⟩ hv la h16
      refine ⟨b.1, b.2.1, b.2.2.1, fun g => absurd (b.2.2.2.2.1.symm.trans g) (by decide), ?_⟩
      have hx := rdN_l (rdN_x hN (fun z => c19 (by rw [t9a]; exact cTk_n.mpr z))) (ncN a - (q + 1))
      rw [show q + 1 + (ncN a - (q + 1)) = ncN a by omega] at hx
      rw [rdL_l kw.symm c3 hx]
      exact ⟨b.2.2.2.2.1, b.2.2.2.2.2.1, b.2.2.2.2.2.2.trans t8a⟩
    refine ⟨?_, ?_⟩
    · exact ⟨ha, hv⟩
    refine ⟨?_, ?_⟩
    · intro c20
      rw [if_neg (by rw [c20]; decide)]
    intro c21
    intro X52
    intro rX52
    intro h17
    rw [if_pos c21]
    exact h17
  intro c22
  intro r54
  intro X53
  intro rX53
  intro h18
  have b := rl_bad (j := j) ⟨fun _ _ _ => rfl, fun _ _ => rfl⟩ hv hl h18
  refine ⟨b.1, b.2.1, b.2.2.1, fun g => absurd (b.2.2.2.2.1.symm.trans g) (by decide), ?_⟩
  rw [rdL_k (kw.symm.trans (Classical.not_not.mp c22))]
  exact ⟨b.2.2.2.2.1, b.2.2.2.2.2.1, b.2.2.2.2.2.2.trans ht8⟩
theorem c_X7_readLine {l : Launch} {D : va_G} {cy : Nat → ClassId} {bs N : Nat} {sa : Nat → Nat} {kd len : Nat → Nat} {X Y : Nat → Int → Int} {R : Nat → Int → Option Nat} {i j : Nat} {sS : rST} (hC : zRd1 N kd len R i j) (a : Int) (ha : rI a) (hp : (0 ≤ a ∧ a ≤ 4) ∧ (oRc X i j ∧ (j < i ∨ i + 17 < j)) ∧ (rdV X i ∧ lnV X i) ∧ crS X i j (a) sS ∧ tkS (X j) (X i 6).toNat sS.1 ≠ 0) : Met l yX7_readLine (.code yX7_readLine cX7_readLine 5 (some .boolean) :: zTB) (zRm 6 129) (zPc D cy bs sa N kd len X Y R [.ref (bs + (i)), .int (zI (a))]) (zQi D cy bs N kd len (fun r st => st.2.1 = Y ∧ st.2.2 = R ∧ ∃ rb : Bool, r = bz rb ∧ (rcK X (st.1) i ∧ rdV (st.1) i ∧ lnV (st.1) i ∧ (rb = true → oRc (st.1) i j ∧ ((st.1) i 3 = 0 → (st.1) i 4 = X i 4 ∧ X i 3 = 0)) ∧ rlP (st.1) i j (a) (X j) (X i 6).toNat rb (rdL (X j) (X i 6).toNat (a) sS)))) 0 0 (zA bs) := w_X7_readLine hC a ha (v_X7_readLine a ha hp)
