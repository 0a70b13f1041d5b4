/-! THE CHOSEN BY CHILDREN; THE TIP -/
abbrev cX1_chosenByChildren : ByteArray := prog_3_method_17_code
def yX1_chosenByChildren : MethodName := ⟨RX1, "chosenByChildren", "(I[I)I"⟩
theorem dX1_chosenByChildren_0 : decode cX1_chosenByChildren 0 = .ok (.iconst 0, 1) := by decide +kernel
theorem dX1_chosenByChildren_1 : decode cX1_chosenByChildren 1 = .ok (.istore_n 3, 1) := by decide +kernel
theorem dX1_chosenByChildren_2 : decode cX1_chosenByChildren 2 = .ok (.iload_n 3, 1) := by decide +kernel
theorem dX1_chosenByChildren_3 : decode cX1_chosenByChildren 3 = .ok (.aload_n 0, 1) := by decide +kernel
theorem dX1_chosenByChildren_4 : decode cX1_chosenByChildren 4 = .ok (.getfield 68, 3) := by decide +kernel
theorem dX1_chosenByChildren_7 : decode cX1_chosenByChildren 7 = .ok (.if_icmp .gt 16, 3) := by decide +kernel
theorem dX1_chosenByChildren_10 : decode cX1_chosenByChildren 10 = .ok (.aload_n 0, 1) := by decide +kernel
theorem dX1_chosenByChildren_11 : decode cX1_chosenByChildren 11 = .ok (.getfield 51, 3) := by decide +kernel
theorem dX1_chosenByChildren_14 : decode cX1_chosenByChildren 14 = .ok (.iload_n 3, 1) := by decide +kernel
theorem dX1_chosenByChildren_15 : decode cX1_chosenByChildren 15 = .ok (.iconst 0, 1) := by decide +kernel
theorem dX1_chosenByChildren_16 : decode cX1_chosenByChildren 16 = .ok (.iastore, 1) := by decide +kernel
theorem dX1_chosenByChildren_17 : decode cX1_chosenByChildren 17 = .ok (.iinc 3 1, 3) := by decide +kernel
theorem dX1_chosenByChildren_20 : decode cX1_chosenByChildren 20 = .ok (.goto (-18), 3) := by decide +kernel
theorem dX1_chosenByChildren_23 : decode cX1_chosenByChildren 23 = .ok (.iconst 1, 1) := by decide +kernel
theorem dX1_chosenByChildren_24 : decode cX1_chosenByChildren 24 = .ok (.istore_n 3, 1) := by decide +kernel
theorem dX1_chosenByChildren_25 : decode cX1_chosenByChildren 25 = .ok (.iload_n 3, 1) := by decide +kernel
theorem dX1_chosenByChildren_26 : decode cX1_chosenByChildren 26 = .ok (.aload_n 0, 1) := by decide +kernel
theorem dX1_chosenByChildren_27 : decode cX1_chosenByChildren 27 = .ok (.getfield 68, 3) := by decide +kernel
theorem dX1_chosenByChildren_30 : decode cX1_chosenByChildren 30 = .ok (.if_icmp .gt 94, 3) := by decide +kernel
theorem dX1_chosenByChildren_33 : decode cX1_chosenByChildren 33 = .ok (.aload_n 0, 1) := by decide +kernel
theorem dX1_chosenByChildren_34 : decode cX1_chosenByChildren 34 = .ok (.getfield 25, 3) := by decide +kernel
theorem dX1_chosenByChildren_37 : decode cX1_chosenByChildren 37 = .ok (.iload_n 3, 1) := by decide +kernel
theorem dX1_chosenByChildren_38 : decode cX1_chosenByChildren 38 = .ok (.iaload, 1) := by decide +kernel
theorem dX1_chosenByChildren_39 : decode cX1_chosenByChildren 39 = .ok (.istore 4, 2) := by decide +kernel
theorem dX1_chosenByChildren_41 : decode cX1_chosenByChildren 41 = .ok (.aload_n 0, 1) := by decide +kernel
theorem dX1_chosenByChildren_42 : decode cX1_chosenByChildren 42 = .ok (.getfield 51, 3) := by decide +kernel
theorem dX1_chosenByChildren_45 : decode cX1_chosenByChildren 45 = .ok (.iload 4, 2) := by decide +kernel
theorem dX1_chosenByChildren_47 : decode cX1_chosenByChildren 47 = .ok (.iaload, 1) := by decide +kernel
theorem dX1_chosenByChildren_48 : decode cX1_chosenByChildren 48 = .ok (.istore 5, 2) := by decide +kernel
theorem dX1_chosenByChildren_50 : decode cX1_chosenByChildren 50 = .ok (.iload_n 1, 1) := by decide +kernel
theorem dX1_chosenByChildren_51 : decode cX1_chosenByChildren 51 = .ok (.iload_n 3, 1) := by decide +kernel
theorem dX1_chosenByChildren_52 : decode cX1_chosenByChildren 52 = .ok (.ishr, 1) := by decide +kernel
theorem dX1_chosenByChildren_53 : decode cX1_chosenByChildren 53 = .ok (.iconst 1, 1) := by decide +kernel
theorem dX1_chosenByChildren_54 : decode cX1_chosenByChildren 54 = .ok (.iand, 1) := by decide +kernel
theorem dX1_chosenByChildren_55 : decode cX1_chosenByChildren 55 = .ok (.ifCond .ne 6, 3) := by decide +kernel
theorem dX1_chosenByChildren_58 : decode cX1_chosenByChildren 58 = .ok (.goto 60, 3) := by decide +kernel
theorem dX1_chosenByChildren_61 : decode cX1_chosenByChildren 61 = .ok (.iload 5, 2) := by decide +kernel
theorem dX1_chosenByChildren_63 : decode cX1_chosenByChildren 63 = .ok (.ifCond .eq 47, 3) := by decide +kernel
theorem dX1_chosenByChildren_66 : decode cX1_chosenByChildren 66 = .ok (.aload_n 0, 1) := by decide +kernel
theorem dX1_chosenByChildren_67 : decode cX1_chosenByChildren 67 = .ok (.getfield 48, 3) := by decide +kernel
theorem dX1_chosenByChildren_70 : decode cX1_chosenByChildren 70 = .ok (.iload_n 3, 1) := by decide +kernel
theorem dX1_chosenByChildren_71 : decode cX1_chosenByChildren 71 = .ok (.laload, 1) := by decide +kernel
theorem dX1_chosenByChildren_72 : decode cX1_chosenByChildren 72 = .ok (.aload_n 0, 1) := by decide +kernel
theorem dX1_chosenByChildren_73 : decode cX1_chosenByChildren 73 = .ok (.getfield 48, 3) := by decide +kernel
theorem dX1_chosenByChildren_76 : decode cX1_chosenByChildren 76 = .ok (.iload 5, 2) := by decide +kernel
theorem dX1_chosenByChildren_78 : decode cX1_chosenByChildren 78 = .ok (.laload, 1) := by decide +kernel
theorem dX1_chosenByChildren_79 : decode cX1_chosenByChildren 79 = .ok (.lcmp, 1) := by decide +kernel
theorem dX1_chosenByChildren_80 : decode cX1_chosenByChildren 80 = .ok (.ifCond .gt 30, 3) := by decide +kernel
theorem dX1_chosenByChildren_83 : decode cX1_chosenByChildren 83 = .ok (.aload_n 0, 1) := by decide +kernel
theorem dX1_chosenByChildren_84 : decode cX1_chosenByChildren 84 = .ok (.getfield 48, 3) := by decide +kernel
theorem dX1_chosenByChildren_87 : decode cX1_chosenByChildren 87 = .ok (.iload_n 3, 1) := by decide +kernel
theorem dX1_chosenByChildren_88 : decode cX1_chosenByChildren 88 = .ok (.laload, 1) := by decide +kernel
theorem dX1_chosenByChildren_89 : decode cX1_chosenByChildren 89 = .ok (.aload_n 0, 1) := by decide +kernel
theorem dX1_chosenByChildren_90 : decode cX1_chosenByChildren 90 = .ok (.getfield 48, 3) := by decide +kernel
theorem dX1_chosenByChildren_93 : decode cX1_chosenByChildren 93 = .ok (.iload 5, 2) := by decide +kernel
theorem dX1_chosenByChildren_95 : decode cX1_chosenByChildren 95 = .ok (.laload, 1) := by decide +kernel
theorem dX1_chosenByChildren_96 : decode cX1_chosenByChildren 96 = .ok (.lcmp, 1) := by decide +kernel
theorem dX1_chosenByChildren_97 : decode cX1_chosenByChildren 97 = .ok (.ifCond .ne 21, 3) := by decide +kernel
theorem dX1_chosenByChildren_100 : decode cX1_chosenByChildren 100 = .ok (.aload_n 2, 1) := by decide +kernel
theorem dX1_chosenByChildren_101 : decode cX1_chosenByChildren 101 = .ok (.iload_n 3, 1) := by decide +kernel
theorem dX1_chosenByChildren_102 : decode cX1_chosenByChildren 102 = .ok (.iaload, 1) := by decide +kernel
theorem dX1_chosenByChildren_103 : decode cX1_chosenByChildren 103 = .ok (.aload_n 2, 1) := by decide +kernel
theorem dX1_chosenByChildren_104 : decode cX1_chosenByChildren 104 = .ok (.iload 5, 2) := by decide +kernel
theorem dX1_chosenByChildren_106 : decode cX1_chosenByChildren 106 = .ok (.iaload, 1) := by decide +kernel
theorem dX1_chosenByChildren_107 : decode cX1_chosenByChildren 107 = .ok (.if_icmp .ge 11, 3) := by decide +kernel
theorem dX1_chosenByChildren_110 : decode cX1_chosenByChildren 110 = .ok (.aload_n 0, 1) := by decide +kernel
theorem dX1_chosenByChildren_111 : decode cX1_chosenByChildren 111 = .ok (.getfield 51, 3) := by decide +kernel
theorem dX1_chosenByChildren_114 : decode cX1_chosenByChildren 114 = .ok (.iload 4, 2) := by decide +kernel
theorem dX1_chosenByChildren_116 : decode cX1_chosenByChildren 116 = .ok (.iload_n 3, 1) := by decide +kernel
theorem dX1_chosenByChildren_117 : decode cX1_chosenByChildren 117 = .ok (.iastore, 1) := by decide +kernel
theorem dX1_chosenByChildren_118 : decode cX1_chosenByChildren 118 = .ok (.iinc 3 1, 3) := by decide +kernel
theorem dX1_chosenByChildren_121 : decode cX1_chosenByChildren 121 = .ok (.goto (-96), 3) := by decide +kernel
theorem dX1_chosenByChildren_124 : decode cX1_chosenByChildren 124 = .ok (.iconst 0, 1) := by decide +kernel
theorem dX1_chosenByChildren_125 : decode cX1_chosenByChildren 125 = .ok (.istore_n 3, 1) := by decide +kernel
theorem dX1_chosenByChildren_126 : decode cX1_chosenByChildren 126 = .ok (.iconst 0, 1) := by decide +kernel
theorem dX1_chosenByChildren_127 : decode cX1_chosenByChildren 127 = .ok (.istore 4, 2) := by decide +kernel
theorem dX1_chosenByChildren_129 : decode cX1_chosenByChildren 129 = .ok (.iload 4, 2) := by decide +kernel
theorem dX1_chosenByChildren_131 : decode cX1_chosenByChildren 131 = .ok (.aload_n 0, 1) := by decide +kernel
theorem dX1_chosenByChildren_132 : decode cX1_chosenByChildren 132 = .ok (.getfield 68, 3) := by decide +kernel
theorem dX1_chosenByChildren_135 : decode cX1_chosenByChildren 135 = .ok (.if_icmp .ge 26, 3) := by decide +kernel
theorem dX1_chosenByChildren_138 : decode cX1_chosenByChildren 138 = .ok (.aload_n 0, 1) := by decide +kernel
theorem dX1_chosenByChildren_139 : decode cX1_chosenByChildren 139 = .ok (.getfield 51, 3) := by decide +kernel
theorem dX1_chosenByChildren_142 : decode cX1_chosenByChildren 142 = .ok (.iload_n 3, 1) := by decide +kernel
theorem dX1_chosenByChildren_143 : decode cX1_chosenByChildren 143 = .ok (.iaload, 1) := by decide +kernel
theorem dX1_chosenByChildren_144 : decode cX1_chosenByChildren 144 = .ok (.iload_n 3, 1) := by decide +kernel
theorem dX1_chosenByChildren_145 : decode cX1_chosenByChildren 145 = .ok (.if_icmp .le 16, 3) := by decide +kernel
theorem dX1_chosenByChildren_148 : decode cX1_chosenByChildren 148 = .ok (.aload_n 0, 1) := by decide +kernel
theorem dX1_chosenByChildren_149 : decode cX1_chosenByChildren 149 = .ok (.getfield 51, 3) := by decide +kernel
theorem dX1_chosenByChildren_152 : decode cX1_chosenByChildren 152 = .ok (.iload_n 3, 1) := by decide +kernel
theorem dX1_chosenByChildren_153 : decode cX1_chosenByChildren 153 = .ok (.iaload, 1) := by decide +kernel
theorem dX1_chosenByChildren_154 : decode cX1_chosenByChildren 154 = .ok (.istore_n 3, 1) := by decide +kernel
theorem dX1_chosenByChildren_155 : decode cX1_chosenByChildren 155 = .ok (.iinc 4 1, 3) := by decide +kernel
theorem dX1_chosenByChildren_158 : decode cX1_chosenByChildren 158 = .ok (.goto (-29), 3) := by decide +kernel
theorem dX1_chosenByChildren_161 : decode cX1_chosenByChildren 161 = .ok (.iload_n 3, 1) := by decide +kernel
theorem dX1_chosenByChildren_162 : decode cX1_chosenByChildren 162 = .ok (.ireturn, 1) := by decide +kernel
theorem q_416 : Cond.fieldLink RX1 51 RX1 "favourite" "[I" ∈ zTB := zmem 416 (by decide +kernel) rfl
def F_X1_chosenByChildren (i : Nat) (Z : Nat → Int → Int) (q : Nat) (j : Nat) (X Y : Nat → Int → Int) (R : Nat → Int → Option Nat) (a : Int) : Prop := (∀ i j, rI (X i j)) → (∀ i j, rL (Y i j)) → ((0 ≤ (0 : Int) ∧ (0 : Int) ≤ Z q 27) ∧ (∀ z, z ≠ i + 16 → X z = X z) ∧ ∀ e : Nat, (e : Int) < (0 : Int) → X (i + 16) e = 0) ∧ (∀ (k : Int) (X2 : Nat → Int → Int), rI k → (∀ i j, rI (X2 i j)) → ((0 ≤ k ∧ k ≤ Z q 27) ∧ (∀ z, z ≠ i + 16 → X2 z = X z) ∧ ∀ e : Nat, (e : Int) < k → X2 (i + 16) e = 0) → ((((X2 (i) 2) < k) → (((1 ≤ (1 : Int) ∧ (1 : Int) ≤ Z q 27) ∧ (∀ z, z ≠ i + 16 → X2 z = X z) ∧ ∀ e : Nat, (e : Int) < Z q 27 → X2 (i + 16) e = fvN (aHc (rP Z q) (fun x => Y (i + 15) x) (fun e => mHas a e) (fun x y : Nat => decide (X j x < X j y)) e ((1 : Int)).toNat)) ∧ (∀ (k : Int) (X5 : Nat → Int → Int), rI k → (∀ i j, rI (X5 i j)) → ((1 ≤ k ∧ k ≤ Z q 27) ∧ (∀ z, z ≠ i + 16 → X5 z = X z) ∧ ∀ e : Nat, (e : Int) < Z q 27 → X5 (i + 16) e = fvN (aHc (rP Z q) (fun x => Y (i + 15) x) (fun e => mHas a e) (fun x y : Nat => decide (X j x < X j y)) e (k).toNat)) → ((((X5 (i) 2) < k) → (((0 ≤ (0 : Int) ∧ (0 : Int) ≤ (0 : Int) ∧ (0 : Int) < Z q 27) ∧ aTw (fun y => aHc (rP Z q) (fun x => Y (i + 15) x) (fun e => mHas a e) (fun x y : Nat => decide (X j x < X j y)) y (Z q 27).toNat) (Z q 27).toNat ((0 : Int)).toNat = aTw (fun y => aHc (rP Z q) (fun x => Y (i + 15) x) (fun e => mHas a e) (fun x y : Nat => decide (X j x < X j y)) y (Z q 27).toNat) (Z q 27).toNat 0) ∧ (∀ (u : Int) (k : Int), rI u → rI k → ((0 ≤ k ∧ k ≤ u ∧ u < Z q 27) ∧ aTw (fun y => aHc (rP Z q) (fun x => Y (i + 15) x) (fun e => mHas a e) (fun x y : Nat => decide (X j x < X j y)) y (Z q 27).toNat) (Z q 27).toNat (u).toNat = aTw (fun y => aHc (rP Z q) (fun x => Y (i + 15) x) (fun e => mHas a e) (fun x y : Nat => decide (X j x < X j y)) y (Z q 27).toNat) (Z q 27).toNat 0) → ((((X5 (i) 2) ≤ k) → (u = ((aTw (fun y => aHc (rP Z q) (fun x => Y (i + 15) x) (fun e => mHas (a) e) (fun x y : Nat => decide (X j x < X j y)) y (Z q 27).toNat) (Z q 27).toNat 0 : Nat) : Int) ∧ (∀ z, z ≠ i + 16 → (X5) z = X z) ∧ ∀ e : Nat, (e : Int) < Z q 27 → (X5) (i + 16) e = fvN (aHc (rP Z q) (fun x => Y (i + 15) x) (fun e => mHas (a) e) (fun x y : Nat => decide (X j x < X j y)) e (Z q 27).toNat))) ∧ ((¬ ((X5 (i) 2) ≤ k)) → ((0 ≤ u ∧ u < 15) ∧ ((((X5 (i + 16) (u)) ≤ u) → (u = ((aTw (fun y => aHc (rP Z q) (fun x => Y (i + 15) x) (fun e => mHas (a) e) (fun x y : Nat => decide (X j x < X j y)) y (Z q 27).toNat) (Z q 27).toNat 0 : Nat) : Int) ∧ (∀ z, z ≠ i + 16 → (X5) z = X z) ∧ ∀ e : Nat, (e : Int) < Z q 27 → (X5) (i + 16) e = fvN (aHc (rP Z q) (fun x => Y (i + 15) x) (fun e => mHas (a) e) (fun x y : Nat => decide (X j x < X j y)) e (Z q 27).toNat))) ∧ ((¬ ((X5 (i + 16) (u)) ≤ u)) → ((0 ≤ u ∧ u < 15) ∧ ((rI (k + 1)) ∧ ((0 ≤ (k + 1) ∧ (k + 1) ≤ (X5 (i + 16) (u)) ∧ (X5 (i + 16) (u)) < Z q 27) ∧ aTw (fun y => aHc (rP Z q) (fun x => Y (i + 15) x) (fun e => mHas a e) (fun x y : Nat => decide (X j x < X j y)) y (Z q 27).toNat) (Z q 27).toNat ((X5 (i + 16) (u))).toNat = aTw (fun y => aHc (rP Z q) (fun x => Y (i + 15) x) (fun e => mHas a e) (fun x y : Nat => decide (X j x < X j y)) y (Z q 27).toNat) (Z q 27).toNat 0) ∧ (((20 - (k + 1)).toNat) < ((20 - (k)).toNat)))))))))))) ∧ ((¬ ((X5 (i) 2) < k)) → ((0 ≤ k ∧ k < 15) ∧ ((0 ≤ (X5 (i + 9) (k)) ∧ (X5 (i + 9) (k)) < 15) ∧ (((¬ (zAnd (zShr (a) (k)) (1)) = 0) → ((((X5 (i + 16) (X5 (i + 9) (k))) = 0) → ((0 ≤ (X5 (i + 9) (k)) ∧ (X5 (i + 9) (k)) < 15) ∧ (∀ X18 : Nat → Int → Int, X18 = zU X5 (i + 16) (X5 (i + 9) (k)) (k) → (∀ i j, rI (X18 i j)) → ((rI (k + 1)) ∧ ((1 ≤ (k + 1) ∧ (k + 1) ≤ Z q 27) ∧ (∀ z, z ≠ i + 16 → X18 z = X z) ∧ ∀ e : Nat, (e : Int) < Z q 27 → X18 (i + 16) e = fvN (aHc (rP Z q) (fun x => Y (i + 15) x) (fun e => mHas a e) (fun x y : Nat => decide (X j x < X j y)) e (k + 1).toNat)) ∧ (((20 - (k + 1)).toNat) < ((20 - (k)).toNat)))))) ∧ ((¬ ((X5 (i + 16) (X5 (i + 9) (k))) = 0)) → ((0 ≤ k ∧ k < 15) ∧ ((0 ≤ (X5 (i + 16) (X5 (i + 9) (k))) ∧ (X5 (i + 16) (X5 (i + 9) (k))) < 15) ∧ ((((Y (i + 15) (X5 (i + 16) (X5 (i + 9) (k)))) < (Y (i + 15) (k))) → ((0 ≤ (X5 (i + 9) (k)) ∧ (X5 (i + 9) (k)) < 15) ∧ (∀ X24 : Nat → Int → Int, X24 = zU X5 (i + 16) (X5 (i + 9) (k)) (k) → (∀ i j, rI (X24 i j)) → ((rI (k + 1)) ∧ ((1 ≤ (k + 1) ∧ (k + 1) ≤ Z q 27) ∧ (∀ z, z ≠ i + 16 → X24 z = X z) ∧ ∀ e : Nat, (e : Int) < Z q 27 → X24 (i + 16) e = fvN (aHc (rP Z q) (fun x => Y (i + 15) x) (fun e => mHas a e) (fun x y : Nat => decide (X j x < X j y)) e (k + 1).toNat)) ∧ (((20 - (k + 1)).toNat) < ((20 - (k)).toNat)))))) ∧ ((¬ ((Y (i + 15) (X5 (i + 16) (X5 (i + 9) (k)))) < (Y (i + 15) (k)))) → ((0 ≤ k ∧ k < 15) ∧ ((0 ≤ (X5 (i + 16) (X5 (i + 9) (k))) ∧ (X5 (i + 16) (X5 (i + 9) (k))) < 15) ∧ (((¬ (Y (i + 15) (k)) = (Y (i + 15) (X5 (i + 16) (X5 (i + 9) (k))))) → ((rI (k + 1)) ∧ ((1 ≤ (k + 1) ∧ (k + 1) ≤ Z q 27) ∧ (∀ z, z ≠ i + 16 → X5 z = X z) ∧ ∀ e : Nat, (e : Int) < Z q 27 → X5 (i + 16) e = fvN (aHc (rP Z q) (fun x => Y (i + 15) x) (fun e => mHas a e) (fun x y : Nat => decide (X j x < X j y)) e (k + 1).toNat)) ∧ (((20 - (k + 1)).toNat) < ((20 - (k)).toNat)))) ∧ ((¬ (¬ (Y (i + 15) (k)) = (Y (i + 15) (X5 (i + 16) (X5 (i + 9) (k)))))) → ((0 ≤ k ∧ k < 15) ∧ ((0 ≤ (X5 (i + 16) (X5 (i + 9) (k))) ∧ (X5 (i + 16) (X5 (i + 9) (k))) < 15) ∧ ((((X5 (j) (X5 (i + 16) (X5 (i + 9) (k)))) ≤ (X5 (j) (k))) → ((rI (k + 1)) ∧ ((1 ≤ (k + 1) ∧ (k + 1) ≤ Z q 27) ∧ (∀ z, z ≠ i + 16 → X5 z = X z) ∧ ∀ e : Nat, (e : Int) < Z q 27 → X5 (i + 16) e = fvN (aHc (rP Z q) (fun x => Y (i + 15) x) (fun e => mHas a e) (fun x y : Nat => decide (X j x < X j y)) e (k + 1).toNat)) ∧ (((20 - (k + 1)).toNat) < ((20 - (k)).toNat)))) ∧ ((¬ ((X5 (j) (X5 (i + 16) (X5 (i + 9) (k)))) ≤ (X5 (j) (k)))) → ((0 ≤ (X5 (i + 9) (k)) ∧ (X5 (i + 9) (k)) < 15) ∧ (∀ X35 : Nat → Int → Int, X35 = zU X5 (i + 16) (X5 (i + 9) (k)) (k) → (∀ i j, rI (X35 i j)) → ((rI (k + 1)) ∧ ((1 ≤ (k + 1) ∧ (k + 1) ≤ Z q 27) ∧ (∀ z, z ≠ i + 16 → X35 z = X z) ∧ ∀ e : Nat, (e : Int) < Z q 27 → X35 (i + 16) e = fvN (aHc (rP Z q) (fun x => Y (i + 15) x) (fun e => mHas a e) (fun x y : Nat => decide (X j x < X j y)) e (k + 1).toNat)) ∧ (((20 - (k + 1)).toNat) < ((20 - (k)).toNat)))))))))))))))))))) ∧ ((¬ (¬ (zAnd (zShr (a) (k)) (1)) = 0)) → ((rI (k + 1)) ∧ ((1 ≤ (k + 1) ∧ (k + 1) ≤ Z q 27) ∧ (∀ z, z ≠ i + 16 → X5 z = X z) ∧ ∀ e : Nat, (e : Int) < Z q 27 → X5 (i + 16) e = fvN (aHc (rP Z q) (fun x => Y (i + 15) x) (fun e => mHas a e) (fun x y : Nat => decide (X j x < X j y)) e (k + 1).toNat)) ∧ (((20 - (k + 1)).toNat) < ((20 - (k)).toNat)))))))))))) ∧ ((¬ ((X2 (i) 2) < k)) → ((0 ≤ k ∧ k < 15) ∧ (∀ X39 : Nat → Int → Int, X39 = zU X2 (i + 16) (k) (0) → (∀ i j, rI (X39 i j)) → ((rI (k + 1)) ∧ ((0 ≤ (k + 1) ∧ (k + 1) ≤ Z q 27) ∧ (∀ z, z ≠ i + 16 → X39 z = X z) ∧ ∀ e : Nat, (e : Int) < (k + 1) → X39 (i + 16) e = 0) ∧ (((20 - (k + 1)).toNat) < ((20 - (k)).toNat))))))))
set_option maxHeartbeats 4000000 in
set_option maxRecDepth 100000 in
theorem w_X1_chosenByChildren {l : Launch} {D : va_G} {cy : Nat → ClassId} {bs N : Nat} {sa : Nat → Nat} {kd len : Nat → Nat} {X Y : Nat → Int → Int} {R : Nat → Int → Option Nat} {i : Nat} {Z : Nat → Int → Int} {q : Nat} (hC : zChart N kd len R i) {j : Nat} (hj : j < N ∧ kd j = 13 ∧ len j = 15) (a : Int) (ha : rI a) (hF : F_X1_chosenByChildren i Z q j X Y R a) : Met l yX1_chosenByChildren (.code yX1_chosenByChildren cX1_chosenByChildren 6 (some .int) :: zTB) (zRm 0 0) (zPc D cy bs sa N kd len X Y R [.ref (bs + (i)), .int (zI (a)), .ref (bs + (j))]) (zQi D cy bs N kd len (fun r st => st.2.1 = Y ∧ st.2.2 = R ∧ (r = ((aTw (fun y => aHc (rP Z q) (fun x => Y (i + 15) x) (fun e => mHas (a) e) (fun x y : Nat => decide (X j x < X j y)) y (Z q 27).toNat) (Z q 27).toNat 0 : Nat) : Int) ∧ (∀ z, z ≠ i + 16 → (st.1) z = X z) ∧ ∀ e : Nat, (e : Int) < Z q 27 → (st.1) (i + 16) e = fvN (aHc (rP Z q) (fun x => Y (i + 15) x) (fun e => mHas (a) e) (fun x y : Nat => decide (X j x < X j y)) e (Z q 27).toNat)))) 0 0 (zA bs) := by
  refine zstart (by decide) (Nat.le_of_ble_eq_true rfl) ?_
  intro p e s m args below meth c ls C hE hH hr hlk hnm hl hargs
  have hF := hF hH.2.2.1 hH.2.2.2
  have hS : va_S (zA bs) s.heap s.heap [] := va_S.rf
  have hl : lv_has ls 6 [(0, .ref (bs + (i))), (1, .int (zI (a))), (2, .ref (bs + (j)))] := hl
  refine zd_iconst C dX1_chosenByChildren_0 ?_
  refine lv_istore_n (lv' := [(3, .int (zI (0))), (0, .ref (bs + (i))), (1, .int (zI (a))), (2, .ref (bs + (j)))]) C.1 C.2.1 dX1_chosenByChildren_1 rfl hl (by decide) rfl (fun ls hl => ?_)
  obtain ⟨hI1, hF⟩ := hF
  have L1 : ∀ (fu : Nat) (k : Int) (X2 : Nat → Int → Int), rI k → ((0 ≤ k ∧ k ≤ Z q 27) ∧ (∀ z, z ≠ i + 16 → X2 z = X z) ∧ ∀ e : Nat, (e : Int) < k → X2 (i + 16) e = 0) → ((20 - (k)).toNat) < fu → ∀ (H : Heap) (locs : List Loc) (ls : Array Slot), zH D cy bs N kd len X2 Y R H → va_S (zA bs) s.heap H locs → lv_has ls 6 [(3, .int (zI (k))), (0, .ref (bs + (i))), (1, .int (zI (a))), (2, .ref (bs + (j)))] → W p l e (zRm 0 0) s m args below meth c H locs 0 0 (MQ below (zQi D cy bs N kd len (fun r st => st.2.1 = Y ∧ st.2.2 = R ∧ (r = ((aTw (fun y => aHc (rP Z q) (fun x => Y (i + 15) x) (fun e => mHas (a) e) (fun x y : Nat => decide (X j x < X j y)) y (Z q 27).toNat) (Z q 27).toNat 0 : Nat) : Int) ∧ (∀ z, z ≠ i + 16 → (st.1) z = X z) ∧ ∀ e : Nat, (e : Int) < Z q 27 → (st.1) (i + 16) e = fvN (aHc (rP Z q) (fun x => Y (i + 15) x) (fun e => mHas (a) e) (fun x y : Nat => decide (X j x < X j y)) e (Z q 27).toNat)))) args s 0 0 (zA bs)) (F0 m 2 ls []) := by
    intro fu
    induction fu with
    | zero => intro k X2 _ _ hmu; exact absurd hmu (Nat.not_lt_zero _)
    | succ fu ih1 =>
      intro k X2 hk hI hmu1 H locs ls hH hS hl
      have hF := hF k X2 hk hH.2.2.1 hI
      refine lv_iload_n C.1 C.2.1 dX1_chosenByChildren_2 rfl (lv_at hl 0 rfl) ?_
      refine lv_aload_n C.1 C.2.1 dX1_chosenByChildren_3 rfl (lv_at hl 1 rfl) ?_
      refine zg1_2 C hH (zChart_n0 hC) (zChart_k0 hC) q_396 dX1_chosenByChildren_4 ?_
      refine zd_icmp_gt C hk (hH.2.2.1 _ _) 23 dX1_chosenByChildren_7 (by decide) (fun c3 => ?_) (fun c3 => ?_)
      · have hF := hF.1 c3
        refine zd_iconst C dX1_chosenByChildren_23 ?_
        refine lv_istore_n (lv' := [(3, .int (zI (1))), (0, .ref (bs + (i))), (1, .int (zI (a))), (2, .ref (bs + (j)))]) C.1 C.2.1 dX1_chosenByChildren_24 rfl hl (by decide) rfl (fun ls hl => ?_)
        obtain ⟨hI4, hF⟩ := hF
        have L4 : ∀ (fu : Nat) (k : Int) (X5 : Nat → Int → Int), rI k → ((1 ≤ k ∧ k ≤ Z q 27) ∧ (∀ z, z ≠ i + 16 → X5 z = X z) ∧ ∀ e : Nat, (e : Int) < Z q 27 → X5 (i + 16) e = fvN (aHc (rP Z q) (fun x => Y (i + 15) x) (fun e => mHas a e) (fun x y : Nat => decide (X j x < X j y)) e (k).toNat)) → ((20 - (k)).toNat) < fu → ∀ (H : Heap) (locs : List Loc) (ls : Array Slot), zH D cy bs N kd len X5 Y R H → va_S (zA bs) s.heap H locs → lv_has ls 6 [(3, .int (zI (k))), (0, .ref (bs + (i))), (1, .int (zI (a))), (2, .ref (bs + (j)))] → W p l e (zRm 0 0) s m args below meth c H locs 0 0 (MQ below (zQi D cy bs N kd len (fun r st => st.2.1 = Y ∧ st.2.2 = R ∧ (r = ((aTw (fun y => aHc (rP Z q) (fun x => Y (i + 15) x) (fun e => mHas (a) e) (fun x y : Nat => decide (X j x < X j y)) y (Z q 27).toNat) (Z q 27).toNat 0 : Nat) : Int) ∧ (∀ z, z ≠ i + 16 → (st.1) z = X z) ∧ ∀ e : Nat, (e : Int) < Z q 27 → (st.1) (i + 16) e = fvN (aHc (rP Z q) (fun x => Y (i + 15) x) (fun e => mHas (a) e) (fun x y : Nat => decide (X j x < X j y)) e (Z q 27).toNat)))) args s 0 0 (zA bs)) (F0 m 25 ls []) := by
          intro fu
          induction fu with
          | zero => intro k X5 _ _ hmu; exact absurd hmu (Nat.not_lt_zero _)
          | succ fu ih4 =>
            intro k X5 hk hI hmu4 H locs ls hH hS hl
            have hF := hF k X5 hk hH.2.2.1 hI
            refine lv_iload_n C.1 C.2.1 dX1_chosenByChildren_25 rfl (lv_at hl 0 rfl) ?_
            refine lv_aload_n C.1 C.2.1 dX1_chosenByChildren_26 rfl (lv_at hl 1 rfl) ?_
            refine zg1_2 C hH (zChart_n0 hC) (zChart_k0 hC) q_396 dX1_chosenByChildren_27 ?_
            refine zd_icmp_gt C hk (hH.2.2.1 _ _) 124 dX1_chosenByChildren_30 (by decide) (fun c6 => ?_) (fun c6 => ?_)
            · have hF := hF.1 c6
              refine zd_iconst C dX1_chosenByChildren_124 ?_
              refine lv_istore_n (lv' := [(3, .int (zI (0))), (0, .ref (bs + (i))), (1, .int (zI (a))), (2, .ref (bs + (j)))]) C.1 C.2.1 dX1_chosenByChildren_125 rfl hl (by decide) rfl (fun ls hl => ?_)
              refine zd_iconst C dX1_chosenByChildren_126 ?_
              refine lv_istore (lv' := [(4, .int (zI (0))), (3, .int (zI (0))), (0, .ref (bs + (i))), (1, .int (zI (a))), (2, .ref (bs + (j)))]) C.1 C.2.1 dX1_chosenByChildren_127 hl (by decide) rfl (fun ls hl => ?_)
              obtain ⟨hI7, hF⟩ := hF
              have L7 : ∀ (fu : Nat) (u : Int) (k : Int), rI u → rI k → ((0 ≤ k ∧ k ≤ u ∧ u < Z q 27) ∧ aTw (fun y => aHc (rP Z q) (fun x => Y (i + 15) x) (fun e => mHas a e) (fun x y : Nat => decide (X j x < X j y)) y (Z q 27).toNat) (Z q 27).toNat (u).toNat = aTw (fun y => aHc (rP Z q) (fun x => Y (i + 15) x) (fun e => mHas a e) (fun x y : Nat => decide (X j x < X j y)) y (Z q 27).toNat) (Z q 27).toNat 0) → ((20 - (k)).toNat) < fu → ∀ (H : Heap) (locs : List Loc) (ls : Array Slot), zH D cy bs N kd len X5 Y R H → va_S (zA bs) s.heap H locs → lv_has ls 6 [(3, .int (zI (u))), (4, .int (zI (k))), (0, .ref (bs + (i))), (1, .int (zI (a))), (2, .ref (bs + (j)))] → W p l e (zRm 0 0) s m args below meth c H locs 0 0 (MQ below (zQi D cy bs N kd len (fun r st => st.2.1 = Y ∧ st.2.2 = R ∧ (r = ((aTw (fun y => aHc (rP Z q) (fun x => Y (i + 15) x) (fun e => mHas (a) e) (fun x y : Nat => decide (X j x < X j y)) y (Z q 27).toNat) (Z q 27).toNat 0 : Nat) : Int) ∧ (∀ z, z ≠ i + 16 → (st.1) z = X z) ∧ ∀ e : Nat, (e : Int) < Z q 27 → (st.1) (i + 16) e = fvN (aHc (rP Z q) (fun x => Y (i + 15) x) (fun e => mHas (a) e) (fun x y : Nat => decide (X j x < X j y)) e (Z q 27).toNat)))) args s 0 0 (zA bs)) (F0 m 129 ls []) := by
                intro fu
                induction fu with
                | zero => intro u k _ _ _ hmu; exact absurd hmu (Nat.not_lt_zero _)
                | succ fu ih7 =>
                  intro u k hu hk hI hmu7 H locs ls hH hS hl
                  have hF := hF u k hu hk  hI
                  refine lv_iload C.1 C.2.1 dX1_chosenByChildren_129 (lv_at hl 1 rfl) ?_
                  refine lv_aload_n C.1 C.2.1 dX1_chosenByChildren_131 rfl (lv_at hl 2 rfl) ?_
                  refine zg1_2 C hH (zChart_n0 hC) (zChart_k0 hC) q_396 dX1_chosenByChildren_132 ?_
                  refine zd_icmp_ge C hk (hH.2.2.1 _ _) 161 dX1_chosenByChildren_135 (by decide) (fun c8 => ?_) (fun c8 => ?_)
                  · have hF := hF.1 c8
                    refine lv_iload_n C.1 C.2.1 dX1_chosenByChildren_161 rfl (lv_at hl 0 rfl) ?_
                    exact zd_iret C hr hlk hH hS hu (⟨rfl, rfl, hF⟩) dX1_chosenByChildren_162
                  · have hF := hF.2 c8
                    refine lv_aload_n C.1 C.2.1 dX1_chosenByChildren_138 rfl (lv_at hl 2 rfl) ?_
                    refine zg1_11 C hH (zChart_n0 hC) (zChart_k0 hC) q_416 (zChart_r16 hC) dX1_chosenByChildren_139 ?_
                    refine lv_iload_n C.1 C.2.1 dX1_chosenByChildren_142 rfl (lv_at hl 0 rfl) ?_
                    obtain ⟨o9, hF⟩ := hF
                    refine zd_iald C hH (zChart_n16 hC) (zChart_k16 hC) o9.1 (by rw [zChart_l16 hC]; exact o9.2) (by rw [zChart_l16 hC]; decide) dX1_chosenByChildren_143 ?_
                    refine lv_iload_n C.1 C.2.1 dX1_chosenByChildren_144 rfl (lv_at hl 0 rfl) ?_
                    refine zd_icmp_le C (hH.2.2.1 _ _) hu 161 dX1_chosenByChildren_145 (by decide) (fun c10 => ?_) (fun c10 => ?_)
                    · have hF := hF.1 c10
                      refine lv_iload_n C.1 C.2.1 dX1_chosenByChildren_161 rfl (lv_at hl 0 rfl) ?_
                      exact zd_iret C hr hlk hH hS hu (⟨rfl, rfl, hF⟩) dX1_chosenByChildren_162
                    · have hF := hF.2 c10
                      refine lv_aload_n C.1 C.2.1 dX1_chosenByChildren_148 rfl (lv_at hl 2 rfl) ?_
                      refine zg1_11 C hH (zChart_n0 hC) (zChart_k0 hC) q_416 (zChart_r16 hC) dX1_chosenByChildren_149 ?_
                      refine lv_iload_n C.1 C.2.1 dX1_chosenByChildren_152 rfl (lv_at hl 0 rfl) ?_
                      obtain ⟨o11, hF⟩ := hF
                      refine zd_iald C hH (zChart_n16 hC) (zChart_k16 hC) o11.1 (by rw [zChart_l16 hC]; exact o11.2) (by rw [zChart_l16 hC]; decide) dX1_chosenByChildren_153 ?_
                      refine lv_istore_n (lv' := [(3, .int (zI (X5 (i + 16) (u)))), (4, .int (zI (k))), (0, .ref (bs + (i))), (1, .int (zI (a))), (2, .ref (bs + (j)))]) C.1 C.2.1 dX1_chosenByChildren_154 rfl hl (by decide) rfl (fun ls hl => ?_)
                      refine zd_iinc (k := 1) (lv' := [(4, .int (zI (k + 1))), (3, .int (zI (X5 (i + 16) (u)))), (0, .ref (bs + (i))), (1, .int (zI (a))), (2, .ref (bs + (j)))]) C hl rfl dX1_chosenByChildren_155 (by decide) rfl (fun ls hl => ?_)
                      refine lv_goto (tgt := 129) C.1 C.2.1 dX1_chosenByChildren_158 (by decide) ?_
                      obtain ⟨o12, hF⟩ := hF
                      exact ih7 (X5 (i + 16) (u)) (k + 1) (hH.2.2.1 _ _) o12 hF.1 (Nat.lt_of_lt_of_le hF.2 (Nat.le_of_lt_succ hmu7)) _ _ _ hH hS (lv_sub hl [1, 0, 2, 3, 4] rfl)
              exact L7 (((20 - ((0 : Int))).toNat) + 1) ((0 : Int)) ((0 : Int)) (by decide) (by decide) hI7 (Nat.lt_succ_self _) _ _ _ hH hS (lv_sub hl [1, 0, 2, 3, 4] rfl)
            · have hF := hF.2 c6
              refine lv_aload_n C.1 C.2.1 dX1_chosenByChildren_33 rfl (lv_at hl 1 rfl) ?_
              refine zg1_4 C hH (zChart_n0 hC) (zChart_k0 hC) q_402 (zChart_r9 hC) dX1_chosenByChildren_34 ?_
              refine lv_iload_n C.1 C.2.1 dX1_chosenByChildren_37 rfl (lv_at hl 0 rfl) ?_
              obtain ⟨o13, hF⟩ := hF
              refine zd_iald C hH (zChart_n9 hC) (zChart_k9 hC) o13.1 (by rw [zChart_l9 hC]; exact o13.2) (by rw [zChart_l9 hC]; decide) dX1_chosenByChildren_38 ?_
              refine lv_istore (lv' := [(4, .int (zI (X5 (i + 9) (k)))), (3, .int (zI (k))), (0, .ref (bs + (i))), (1, .int (zI (a))), (2, .ref (bs + (j)))]) C.1 C.2.1 dX1_chosenByChildren_39 hl (by decide) rfl (fun ls hl => ?_)
              refine lv_aload_n C.1 C.2.1 dX1_chosenByChildren_41 rfl (lv_at hl 2 rfl) ?_
              refine zg1_11 C hH (zChart_n0 hC) (zChart_k0 hC) q_416 (zChart_r16 hC) dX1_chosenByChildren_42 ?_
              refine lv_iload C.1 C.2.1 dX1_chosenByChildren_45 (lv_at hl 0 rfl) ?_
              obtain ⟨o14, hF⟩ := hF
              refine zd_iald C hH (zChart_n16 hC) (zChart_k16 hC) o14.1 (by rw [zChart_l16 hC]; exact o14.2) (by rw [zChart_l16 hC]; decide) dX1_chosenByChildren_47 ?_
              refine lv_istore (lv' := [(5, .int (zI (X5 (i + 16) (X5 (i + 9) (k))))), (4, .int (zI (X5 (i + 9) (k)))), (3, .int (zI (k))), (0, .ref (bs + (i))), (1, .int (zI (a))), (2, .ref (bs + (j)))]) C.1 C.2.1 dX1_chosenByChildren_48 hl (by decide) rfl (fun ls hl => ?_)
              refine lv_iload_n C.1 C.2.1 dX1_chosenByChildren_50 rfl (lv_at hl 4 rfl) ?_
              refine lv_iload_n C.1 C.2.1 dX1_chosenByChildren_51 rfl (lv_at hl 2 rfl) ?_
              refine zd_ishr C dX1_chosenByChildren_52 ?_
              refine zd_iconst C dX1_chosenByChildren_53 ?_
              refine zd_iand C dX1_chosenByChildren_54 ?_
              refine zd_if_ne C (zI_rg _) 61 dX1_chosenByChildren_55 (by decide) (fun c15 => ?_) (fun c15 => ?_)
              · have hF := hF.1 c15
                refine lv_iload C.1 C.2.1 dX1_chosenByChildren_61 (lv_at hl 0 rfl) ?_
                refine zd_if_eq C (hH.2.2.1 _ _) 110 dX1_chosenByChildren_63 (by decide) (fun c16 => ?_) (fun c16 => ?_)
                · have hF := hF.1 c16
                  refine lv_aload_n C.1 C.2.1 dX1_chosenByChildren_110 rfl (lv_at hl 3 rfl) ?_
                  refine zg1_11 C hH (zChart_n0 hC) (zChart_k0 hC) q_416 (zChart_r16 hC) dX1_chosenByChildren_111 ?_
                  refine lv_iload C.1 C.2.1 dX1_chosenByChildren_114 (lv_at hl 1 rfl) ?_
                  refine lv_iload_n C.1 C.2.1 dX1_chosenByChildren_116 rfl (lv_at hl 2 rfl) ?_
                  obtain ⟨o17, hF⟩ := hF
                  have gg1 := hH.2.2.1
                  refine zd_iast C hH hS (zChart_n16 hC) (zChart_k16 hC) o17.1 (by rw [zChart_l16 hC]; exact o17.2) (by rw [zChart_l16 hC]; decide) hk dX1_chosenByChildren_117 (fun H locs hH hS => ?_)
                  obtain ⟨X18, eX18⟩ : ∃ z, z = zU X5 (i + 16) (X5 (i + 9) (k)) (k) := ⟨_, rfl⟩
                  rw [← eX18] at hH
                  have hF := hF X18 eX18 hH.2.2.1
                  refine zd_iinc (k := 2) (lv' := [(3, .int (zI (k + 1))), (5, .int (zI (X5 (i + 16) (X5 (i + 9) (k))))), (4, .int (zI (X5 (i + 9) (k)))), (0, .ref (bs + (i))), (1, .int (zI (a))), (2, .ref (bs + (j)))]) C hl rfl dX1_chosenByChildren_118 (by decide) rfl (fun ls hl => ?_)
                  refine lv_goto (tgt := 25) C.1 C.2.1 dX1_chosenByChildren_121 (by decide) ?_
                  obtain ⟨o19, hF⟩ := hF
                  exact ih4 (k + 1) X18 o19 hF.1 (Nat.lt_of_lt_of_le hF.2 (Nat.le_of_lt_succ hmu4)) _ _ _ hH hS (lv_sub hl [0, 3, 4, 5] rfl)
                · have hF := hF.2 c16
                  refine lv_aload_n C.1 C.2.1 dX1_chosenByChildren_66 rfl (lv_at hl 3 rfl) ?_
                  refine zg1_10 C hH (zChart_n0 hC) (zChart_k0 hC) q_415 (zChart_r15 hC) dX1_chosenByChildren_67 ?_
                  refine lv_iload_n C.1 C.2.1 dX1_chosenByChildren_70 rfl (lv_at hl 2 rfl) ?_
                  obtain ⟨o20, hF⟩ := hF
                  refine zd_lald C hH (zChart_n15 hC) (zChart_k15 hC) o20.1 (by rw [zChart_l15 hC]; exact o20.2) (by rw [zChart_l15 hC]; decide) dX1_chosenByChildren_71 ?_
                  refine lv_aload_n C.1 C.2.1 dX1_chosenByChildren_72 rfl (lv_at hl 3 rfl) ?_
                  refine zg1_10 C hH (zChart_n0 hC) (zChart_k0 hC) q_415 (zChart_r15 hC) dX1_chosenByChildren_73 ?_
                  refine lv_iload C.1 C.2.1 dX1_chosenByChildren_76 (lv_at hl 0 rfl) ?_
                  obtain ⟨o21, hF⟩ := hF
                  refine zd_lald C hH (zChart_n15 hC) (zChart_k15 hC) o21.1 (by rw [zChart_l15 hC]; exact o21.2) (by rw [zChart_l15 hC]; decide) dX1_chosenByChildren_78 ?_
                  refine zd_lcmp C (hH.2.2.2 _ _) (hH.2.2.2 _ _) dX1_chosenByChildren_79 ?_
                  refine zd_ifL_gt C 110 dX1_chosenByChildren_80 (by decide) (fun c22 => ?_) (fun c22 => ?_)
                  · have hF := hF.1 c22
                    refine lv_aload_n C.1 C.2.1 dX1_chosenByChildren_110 rfl (lv_at hl 3 rfl) ?_
                    refine zg1_11 C hH (zChart_n0 hC) (zChart_k0 hC) q_416 (zChart_r16 hC) dX1_chosenByChildren_111 ?_
                    refine lv_iload C.1 C.2.1 dX1_chosenByChildren_114 (lv_at hl 1 rfl) ?_
                    refine lv_iload_n C.1 C.2.1 dX1_chosenByChildren_116 rfl (lv_at hl 2 rfl) ?_
                    obtain ⟨o23, hF⟩ := hF
                    have gg2 := hH.2.2.1
                    refine zd_iast C hH hS (zChart_n16 hC) (zChart_k16 hC) o23.1 (by rw [zChart_l16 hC]; exact o23.2) (by rw [zChart_l16 hC]; decide) hk dX1_chosenByChildren_117 (fun H locs hH hS => ?_)
                    obtain ⟨X24, eX24⟩ : ∃ z, z = zU X5 (i + 16) (X5 (i + 9) (k)) (k) := ⟨_, rfl⟩
                    rw [← eX24] at hH
                    have hF := hF X24 eX24 hH.2.2.1
                    refine zd_iinc (k := 2) (lv' := [(3, .int (zI (k + 1))), (5, .int (zI (X5 (i + 16) (X5 (i + 9) (k))))), (4, .int (zI (X5 (i + 9) (k)))), (0, .ref (bs + (i))), (1, .int (zI (a))), (2, .ref (bs + (j)))]) C hl rfl dX1_chosenByChildren_118 (by decide) rfl (fun ls hl => ?_)
                    refine lv_goto (tgt := 25) C.1 C.2.1 dX1_chosenByChildren_121 (by decide) ?_
                    obtain ⟨o25, hF⟩ := hF
                    exact ih4 (k + 1) X24 o25 hF.1 (Nat.lt_of_lt_of_le hF.2 (Nat.le_of_lt_succ hmu4)) _ _ _ hH hS (lv_sub hl [0, 3, 4, 5] rfl)
                  · have hF := hF.2 c22
                    refine lv_aload_n C.1 C.2.1 dX1_chosenByChildren_83 rfl (lv_at hl 3 rfl) ?_
                    refine zg1_10 C hH (zChart_n0 hC) (zChart_k0 hC) q_415 (zChart_r15 hC) dX1_chosenByChildren_84 ?_
                    refine lv_iload_n C.1 C.2.1 dX1_chosenByChildren_87 rfl (lv_at hl 2 rfl) ?_
                    obtain ⟨o26, hF⟩ := hF
                    refine zd_lald C hH (zChart_n15 hC) (zChart_k15 hC) o26.1 (by rw [zChart_l15 hC]; exact o26.2) (by rw [zChart_l15 hC]; decide) dX1_chosenByChildren_88 ?_
                    refine lv_aload_n C.1 C.2.1 dX1_chosenByChildren_89 rfl (lv_at hl 3 rfl) ?_
                    refine zg1_10 C hH (zChart_n0 hC) (zChart_k0 hC) q_415 (zChart_r15 hC) dX1_chosenByChildren_90 ?_
                    refine lv_iload C.1 C.2.1 dX1_chosenByChildren_93 (lv_at hl 0 rfl) ?_
                    obtain ⟨o27, hF⟩ := hF
                    refine zd_lald C hH (zChart_n15 hC) (zChart_k15 hC) o27.1 (by rw [zChart_l15 hC]; exact o27.2) (by rw [zChart_l15 hC]; decide) dX1_chosenByChildren_95 ?_
                    refine zd_lcmp C (hH.2.2.2 _ _) (hH.2.2.2 _ _) dX1_chosenByChildren_96 ?_
                    refine zd_ifL_ne C 118 dX1_chosenByChildren_97 (by decide) (fun c28 => ?_) (fun c28 => ?_)
                    · have hF := hF.1 c28
                      refine zd_iinc (k := 2) (lv' := [(3, .int (zI (k + 1))), (5, .int (zI (X5 (i + 16) (X5 (i + 9) (k))))), (4, .int (zI (X5 (i + 9) (k)))), (0, .ref (bs + (i))), (1, .int (zI (a))), (2, .ref (bs + (j)))]) C hl rfl dX1_chosenByChildren_118 (by decide) rfl (fun ls hl => ?_)
                      refine lv_goto (tgt := 25) C.1 C.2.1 dX1_chosenByChildren_121 (by decide) ?_
                      obtain ⟨o29, hF⟩ := hF
                      exact ih4 (k + 1) X5 o29 hF.1 (Nat.lt_of_lt_of_le hF.2 (Nat.le_of_lt_succ hmu4)) _ _ _ hH hS (lv_sub hl [0, 3, 4, 5] rfl)
                    · have hF := hF.2 c28
                      refine lv_aload_n C.1 C.2.1 dX1_chosenByChildren_100 rfl (lv_at hl 5 rfl) ?_
                      refine lv_iload_n C.1 C.2.1 dX1_chosenByChildren_101 rfl (lv_at hl 2 rfl) ?_
                      obtain ⟨o30, hF⟩ := hF
                      refine zd_iald C hH hj.1 hj.2.1 o30.1 (by rw [hj.2.2]; exact o30.2) (by rw [hj.2.2]; decide) dX1_chosenByChildren_102 ?_
                      refine lv_aload_n C.1 C.2.1 dX1_chosenByChildren_103 rfl (lv_at hl 5 rfl) ?_
                      refine lv_iload C.1 C.2.1 dX1_chosenByChildren_104 (lv_at hl 0 rfl) ?_
                      obtain ⟨o31, hF⟩ := hF
                      refine zd_iald C hH hj.1 hj.2.1 o31.1 (by rw [hj.2.2]; exact o31.2) (by rw [hj.2.2]; decide) dX1_chosenByChildren_106 ?_
                      refine zd_icmp_ge C (hH.2.2.1 _ _) (hH.2.2.1 _ _) 118 dX1_chosenByChildren_107 (by decide) (fun c32 => ?_) (fun c32 => ?_)
                      · have hF := hF.1 c32
                        refine zd_iinc (k := 2) (lv' := [(3, .int (zI (k + 1))), (5, .int (zI (X5 (i + 16) (X5 (i + 9) (k))))), (4, .int (zI (X5 (i + 9) (k)))), (0, .ref (bs + (i))), (1, .int (zI (a))), (2, .ref (bs + (j)))]) C hl rfl dX1_chosenByChildren_118 (by decide) rfl (fun ls hl => ?_)
                        refine lv_goto (tgt := 25) C.1 C.2.1 dX1_chosenByChildren_121 (by decide) ?_
                        obtain ⟨o33, hF⟩ := hF
                        exact ih4 (k + 1) X5 o33 hF.1 (Nat.lt_of_lt_of_le hF.2 (Nat.le_of_lt_succ hmu4)) _ _ _ hH hS (lv_sub hl [0, 3, 4, 5] rfl)
                      · have hF := hF.2 c32
                        refine lv_aload_n C.1 C.2.1 dX1_chosenByChildren_110 rfl (lv_at hl 3 rfl) ?_
                        refine zg1_11 C hH (zChart_n0 hC) (zChart_k0 hC) q_416 (zChart_r16 hC) dX1_chosenByChildren_111 ?_
                        refine lv_iload C.1 C.2.1 dX1_chosenByChildren_114 (lv_at hl 1 rfl) ?_
                        refine lv_iload_n C.1 C.2.1 dX1_chosenByChildren_116 rfl (lv_at hl 2 rfl) ?_
                        obtain ⟨o34, hF⟩ := hF
                        have gg3 := hH.2.2.1
                        refine zd_iast C hH hS (zChart_n16 hC) (zChart_k16 hC) o34.1 (by rw [zChart_l16 hC]; exact o34.2) (by rw [zChart_l16 hC]; decide) hk dX1_chosenByChildren_117 (fun H locs hH hS => ?_)
                        obtain ⟨X35, eX35⟩ : ∃ z, z = zU X5 (i + 16) (X5 (i + 9) (k)) (k) := ⟨_, rfl⟩
                        rw [← eX35] at hH
                        have hF := hF X35 eX35 hH.2.2.1
                        refine zd_iinc (k := 2) (lv' := [(3, .int (zI (k + 1))), (5, .int (zI (X5 (i + 16) (X5 (i + 9) (k))))), (4, .int (zI (X5 (i + 9) (k)))), (0, .ref (bs + (i))), (1, .int (zI (a))), (2, .ref (bs + (j)))]) C hl rfl dX1_chosenByChildren_118 (by decide) rfl (fun ls hl => ?_)
                        refine lv_goto (tgt := 25) C.1 C.2.1 dX1_chosenByChildren_121 (by decide) ?_
                        obtain ⟨o36, hF⟩ := hF
                        exact ih4 (k + 1) X35 o36 hF.1 (Nat.lt_of_lt_of_le hF.2 (Nat.le_of_lt_succ hmu4)) _ _ _ hH hS (lv_sub hl [0, 3, 4, 5] rfl)
              · have hF := hF.2 c15
                refine lv_goto (tgt := 118) C.1 C.2.1 dX1_chosenByChildren_58 (by decide) ?_
                refine zd_iinc (k := 2) (lv' := [(3, .int (zI (k + 1))), (5, .int (zI (X5 (i + 16) (X5 (i + 9) (k))))), (4, .int (zI (X5 (i + 9) (k)))), (0, .ref (bs + (i))), (1, .int (zI (a))), (2, .ref (bs + (j)))]) C hl rfl dX1_chosenByChildren_118 (by decide) rfl (fun ls hl => ?_)
                refine lv_goto (tgt := 25) C.1 C.2.1 dX1_chosenByChildren_121 (by decide) ?_
                obtain ⟨o37, hF⟩ := hF
                exact ih4 (k + 1) X5 o37 hF.1 (Nat.lt_of_lt_of_le hF.2 (Nat.le_of_lt_succ hmu4)) _ _ _ hH hS (lv_sub hl [0, 3, 4, 5] rfl)
        exact L4 (((20 - ((1 : Int))).toNat) + 1) ((1 : Int)) X2 (by decide) hI4 (Nat.lt_succ_self _) _ _ _ hH hS (lv_sub hl [0, 1, 2, 3] rfl)
      · have hF := hF.2 c3
        refine lv_aload_n C.1 C.2.1 dX1_chosenByChildren_10 rfl (lv_at hl 1 rfl) ?_
        refine zg1_11 C hH (zChart_n0 hC) (zChart_k0 hC) q_416 (zChart_r16 hC) dX1_chosenByChildren_11 ?_
        refine lv_iload_n C.1 C.2.1 dX1_chosenByChildren_14 rfl (lv_at hl 0 rfl) ?_
        refine zd_iconst C dX1_chosenByChildren_15 ?_
        obtain ⟨o38, hF⟩ := hF
        refine zd_iast C hH hS (zChart_n16 hC) (zChart_k16 hC) o38.1 (by rw [zChart_l16 hC]; exact o38.2) (by rw [zChart_l16 hC]; decide) (by decide) dX1_chosenByChildren_16 (fun H locs hH hS => ?_)
        obtain ⟨X39, eX39⟩ : ∃ z, z = zU X2 (i + 16) (k) (0) := ⟨_, rfl⟩
        rw [← eX39] at hH
        have hF := hF X39 eX39 hH.2.2.1
        refine zd_iinc (k := 0) (lv' := [(3, .int (zI (k + 1))), (0, .ref (bs + (i))), (1, .int (zI (a))), (2, .ref (bs + (j)))]) C hl rfl dX1_chosenByChildren_17 (by decide) rfl (fun ls hl => ?_)
        refine lv_goto (tgt := 2) C.1 C.2.1 dX1_chosenByChildren_20 (by decide) ?_
        obtain ⟨o40, hF⟩ := hF
        exact ih1 (k + 1) X39 o40 hF.1 (Nat.lt_of_lt_of_le hF.2 (Nat.le_of_lt_succ hmu1)) _ _ _ hH hS (lv_sub hl [0, 1, 2, 3] rfl)
  exact L1 (((20 - ((0 : Int))).toNat) + 1) ((0 : Int)) X (by decide) hI1 (Nat.lt_succ_self _) _ _ _ hH hS (lv_sub hl [0, 1, 2, 3] rfl)
theorem v_X1_chosenByChildren {X Y : Nat → Int → Int} {R : Nat → Int → Option Nat} {i : Nat} {Z : Nat → Int → Int} {q : Nat} {j : Nat} (a : Int) (ha : rI a) (hp : cA Z q X Y R i ∧ j ≠ i + 16 ∧ j ≠ i) : F_X1_chosenByChildren i Z q j X Y R a := by
  unfold F_X1_chosenByChildren
  intro hX hY
  obtain ⟨hq, hj⟩ := hp
  obtain ⟨l27, r27, e27⟩ := cA_l hq
  refine ⟨?_, ?_⟩
  · exact ⟨by omega, fun _ _ => rfl, fun e he => absurd he (by omega)⟩
  intro k X2
  intro _
  intro rX2
  intro h1
  obtain ⟨⟨k1, k2⟩, fo, fk⟩ := h1
  obtain ⟨kn, rfl⟩ := nat_of (show 0 ≤ k by omega)
  have e0 : ((kn : Nat) : Int).toNat = kn := by omega
  have f2 : X2 i 2 = X i 2 := by rw [fo i (by omega)]
  refine ⟨?_, ?_⟩
  · intro c1
    refine ⟨?_, ?_⟩
    · refine ⟨by omega, fo, fun e he => ?_⟩
      rw [fk e (by omega), show (1 : Int).toNat = 1 from rfl, aHc_no 1 (by omega)]
      rfl
    intro k X5
    intro _
    intro rX5
    intro h2
    obtain ⟨⟨k1, k2⟩, fo, fk⟩ := h2
    obtain ⟨kn, rfl⟩ := nat_of (show 0 ≤ k by omega)
    have e0 : ((kn : Nat) : Int).toNat = kn := by omega
    simp only [e0] at fk
    have f2 : X5 i 2 = X i 2 := by rw [fo i (by omega)]
    refine ⟨?_, ?_⟩
    · intro c2
      have hk : kn = (Z q 27).toNat := by omega
      refine ⟨?_, ?_⟩
      · exact ⟨by omega, rfl⟩
      intro u k
      intro _
      intro _
      intro h3
      obtain ⟨⟨u0, u1, u2⟩, hr⟩ := h3
      obtain ⟨un, rfl⟩ := nat_of (show 0 ≤ u by omega)
      have eu : ((un : Nat) : Int).toNat = un := by omega
      rw [eu] at hr
      have fu := fk un u2
      rw [hk] at fu
      have hb := aHc_b (P := rP Z q) (sb := fun x => Y (i + 15) x) (w := fun e => mHas a e) (ah := (fun x y : Nat => decide (X j x < X j y))) (at_ := un) (Z q 27).toNat
      refine ⟨?_, ?_⟩
      · intro c3
        refine ⟨?_, fo, fun e he => by have g := fk e he; rw [hk] at g; exact g⟩
        have hm : aHc (rP Z q) (fun x => Y (i + 15) x) (fun e => mHas a e) (fun x y : Nat => decide (X j x < X j y)) un (Z q 27).toNat = -1 := by omega
        have h9 := aTw_1 (hc := fun y => aHc (rP Z q) (fun x => Y (i + 15) x) (fun e => mHas a e) (fun x y : Nat => decide (X j x < X j y)) y (Z q 27).toNat) (n := (Z q 27).toNat) (a := un) (by omega) hm
        rw [← hr, h9]
      intro c4
      refine ⟨?_, ?_⟩
      · first | omega | exact ⟨by omega, by omega⟩ | decide | assumption | exact ⟨by omega, by omega, by omega⟩ | exact ⟨by decide, by decide⟩
      refine ⟨?_, ?_⟩
      · intro c5
        have hm : aHc (rP Z q) (fun x => Y (i + 15) x) (fun e => mHas a e) (fun x y : Nat => decide (X j x < X j y)) un (Z q 27).toNat = -1 := by
          by_cases g : aHc (rP Z q) (fun x => Y (i + 15) x) (fun e => mHas a e) (fun x y : Nat => decide (X j x < X j y)) un (Z q 27).toNat = -1
          · exact g
          · unfold fvN at fu
            rw [if_neg g] at fu
            omega
        refine ⟨?_, fo, fun e he => by have g := fk e he; rw [hk] at g; exact g⟩
        have h9 := aTw_1 (hc := fun y => aHc (rP Z q) (fun x => Y (i + 15) x) (fun e => mHas a e) (fun x y : Nat => decide (X j x < X j y)) y (Z q 27).toNat) (n := (Z q 27).toNat) (a := un) (by omega) hm
        rw [← hr, h9]
      intro c6
      have hm : ¬ aHc (rP Z q) (fun x => Y (i + 15) x) (fun e => mHas a e) (fun x y : Nat => decide (X j x < X j y)) un (Z q 27).toNat = -1 := fun g => by
        unfold fvN at fu
        rw [if_pos g] at fu
        omega
      unfold fvN at fu
      rw [if_neg hm] at fu
      refine ⟨?_, ?_⟩
      · first | omega | exact ⟨by omega, by omega⟩ | decide | assumption | exact ⟨by omega, by omega, by omega⟩ | exact ⟨by decide, by decide⟩
      refine ⟨?_, ?_⟩
      · first | omega | exact ⟨by omega, by omega⟩ | decide | assumption | exact ⟨by omega, by omega, by omega⟩ | exact ⟨by decide, by decide⟩
      refine ⟨?_, ?_⟩
      · have h9 := aTw_2 (hc := fun y => aHc (rP Z q) (fun x => Y (i + 15) x) (fun e => mHas a e) (fun x y : Nat => decide (X j x < X j y)) y (Z q 27).toNat) (n := (Z q 27).toNat) (a := un) (fun _ _ => aHc_b _) (by omega) hm
        refine ⟨by omega, ?_⟩
        rw [← hr, h9, fu]
      first | omega | exact ⟨by omega, by omega⟩ | decide | assumption | exact ⟨by omega, by omega, by omega⟩ | exact ⟨by decide, by decide⟩
    intro c7
    have kl : (kn : Int) < Z q 27 := by omega
    have es : ((kn : Int) + 1).toNat = kn + 1 := by omega
    have hpk := vZ_P hq.1.1.1 (show 1 ≤ kn by omega) kl
    have hx : X5 (i + 9) kn = rP Z q kn := by rw [fo (i + 9) (by omega)]; exact (cA_p hq (by omega) kl).1
    have hfp := fk (rP Z q kn) (by omega)
    have hb := aHc_b (P := rP Z q) (sb := fun x => Y (i + 15) x) (w := fun e => mHas a e) (ah := (fun x y : Nat => decide (X j x < X j y))) (at_ := rP Z q kn) kn
    have hcb : cbC (rP Z q) (fun x => Y (i + 15) x) (fun e => mHas a e) (fun x y : Nat => decide (X j x < X j y)) kn = (mHas a kn && (decide ((aHc (rP Z q) (fun x => Y (i + 15) x) (fun e => mHas a e) (fun x y : Nat => decide (X j x < X j y)) (rP Z q kn) kn) = -1) || decide (Y (i + 15) ((aHc (rP Z q) (fun x => Y (i + 15) x) (fun e => mHas a e) (fun x y : Nat => decide (X j x < X j y)) (rP Z q kn) kn).toNat : Nat) < Y (i + 15) kn) || (decide (Y (i + 15) kn = Y (i + 15) ((aHc (rP Z q) (fun x => Y (i + 15) x) (fun e => mHas a e) (fun x y : Nat => decide (X j x < X j y)) (rP Z q kn) kn).toNat : Nat)) && decide (X j kn < X j ((aHc (rP Z q) (fun x => Y (i + 15) x) (fun e => mHas a e) (fun x y : Nat => decide (X j x < X j y)) (rP Z q kn) kn).toNat : Nat))))) := rfl
    refine ⟨?_, ?_⟩
    · first | omega | exact ⟨by omega, by omega⟩ | decide | assumption | exact ⟨by omega, by omega, by omega⟩ | exact ⟨by decide, by decide⟩
    refine ⟨?_, ?_⟩
    · rw [hx]
      omega
    refine ⟨?_, ?_⟩
    · intro c8
      have c8 := has_1.mpr c8
      refine ⟨?_, ?_⟩
      · intro c9
        have hm : (aHc (rP Z q) (fun x => Y (i + 15) x) (fun e => mHas a e) (fun x y : Nat => decide (X j x < X j y)) (rP Z q kn) kn) = -1 := by
          by_cases g : (aHc (rP Z q) (fun x => Y (i + 15) x) (fun e => mHas a e) (fun x y : Nat => decide (X j x < X j y)) (rP Z q kn) kn) = -1
          · exact g
          · unfold fvN at hfp
            rw [if_neg g] at hfp
            rw [hx] at c9
            omega
        refine ⟨?_, ?_⟩
        · rw [hx]
          omega
        intro X18
        intro eX18
        intro rX18
        refine ⟨?_, ?_⟩
        · first | omega | exact ⟨by omega, by omega⟩ | decide | assumption | exact ⟨by omega, by omega, by omega⟩ | exact ⟨by decide, by decide⟩
        refine ⟨?_, ?_⟩
        · refine ⟨by omega, fun z hz => by rw [eX18, zU_o hz]; exact fo z hz, fun e he => ?_⟩
          rw [eX18, hx, zU_up, es]
          exact cb_y (n := (Z q 27).toNat) hpk (by rw [hcb, c8, decide_eq_true hm]; rfl) (fun e he => fk e (by omega)) e (by omega)
        first | omega | exact ⟨by omega, by omega⟩ | decide | assumption | exact ⟨by omega, by omega, by omega⟩ | exact ⟨by decide, by decide⟩
      intro c10
      have hm : ¬ (aHc (rP Z q) (fun x => Y (i + 15) x) (fun e => mHas a e) (fun x y : Nat => decide (X j x < X j y)) (rP Z q kn) kn) = -1 := fun g => by
        unfold fvN at hfp
        rw [if_pos g] at hfp
        exact c10 (by rw [hx]; exact hfp)
      unfold fvN at hfp
      rw [if_neg hm] at hfp
      have hov : X5 (i + 16) (X5 (i + 9) kn) = ((aHc (rP Z q) (fun x => Y (i + 15) x) (fun e => mHas a e) (fun x y : Nat => decide (X j x < X j y)) (rP Z q kn) kn).toNat : Nat) := by rw [hx, hfp]; omega
      refine ⟨?_, ?_⟩
      · first | omega | exact ⟨by omega, by omega⟩ | decide | assumption | exact ⟨by omega, by omega, by omega⟩ | exact ⟨by decide, by decide⟩
      refine ⟨?_, ?_⟩
      · rw [hov]
        omega
      refine ⟨?_, ?_⟩
      · intro c11
        rw [hov] at c11
        refine ⟨?_, ?_⟩
        · rw [hx]
          omega
        intro X24
        intro eX24
        intro rX24
        refine ⟨?_, ?_⟩
        · first | omega | exact ⟨by omega, by omega⟩ | decide | assumption | exact ⟨by omega, by omega, by omega⟩ | exact ⟨by decide, by decide⟩
        refine ⟨?_, ?_⟩
        · refine ⟨by omega, fun z hz => by rw [eX24, zU_o hz]; exact fo z hz, fun e he => ?_⟩
          rw [eX24, hx, zU_up, es]
          exact cb_y (n := (Z q 27).toNat) hpk (by rw [hcb, c8, decide_eq_true c11, Bool.or_true]; rfl) (fun e he => fk e (by omega)) e (by omega)
        first | omega | exact ⟨by omega, by omega⟩ | decide | assumption | exact ⟨by omega, by omega, by omega⟩ | exact ⟨by decide, by decide⟩
      intro c12
      rw [hov] at c12
      refine ⟨?_, ?_⟩
      · first | omega | exact ⟨by omega, by omega⟩ | decide | assumption | exact ⟨by omega, by omega, by omega⟩ | exact ⟨by decide, by decide⟩
      refine ⟨?_, ?_⟩
      · rw [hov]
        omega
      refine ⟨?_, ?_⟩
      · intro c13
        rw [hov] at c13
        refine ⟨?_, ?_⟩
        · first | omega | exact ⟨by omega, by omega⟩ | decide | assumption | exact ⟨by omega, by omega, by omega⟩ | exact ⟨by decide, by decide⟩
        refine ⟨?_, ?_⟩
        · refine ⟨by omega, fo, fun e he => ?_⟩
          rw [es]
          exact cb_n (n := (Z q 27).toNat) hpk (by rw [hcb, decide_eq_false hm, decide_eq_false c12, decide_eq_false c13]; exact Bool.and_false _) (fun e he => fk e (by omega)) e (by omega)
        first | omega | exact ⟨by omega, by omega⟩ | decide | assumption | exact ⟨by omega, by omega, by omega⟩ | exact ⟨by decide, by decide⟩
      intro c14
      rw [hov] at c14
      have c14 := Classical.not_not.mp c14
      refine ⟨?_, ?_⟩
      · first | omega | exact ⟨by omega, by omega⟩ | decide | assumption | exact ⟨by omega, by omega, by omega⟩ | exact ⟨by decide, by decide⟩
      refine ⟨?_, ?_⟩
      · rw [hov]
        omega
      refine ⟨?_, ?_⟩
      · intro c15
        rw [hov] at c15
        rw [fo j hj.1] at c15
        refine ⟨?_, ?_⟩
        · first | omega | exact ⟨by omega, by omega⟩ | decide | assumption | exact ⟨by omega, by omega, by omega⟩ | exact ⟨by decide, by decide⟩
        refine ⟨?_, ?_⟩
        · refine ⟨by omega, fo, fun e he => ?_⟩
          rw [es]
          exact cb_n (n := (Z q 27).toNat) hpk (by rw [hcb, decide_eq_false hm, decide_eq_false c12, decide_eq_false (show ¬ (X j kn < X j ((aHc (rP Z q) (fun x => Y (i + 15) x) (fun e => mHas a e) (fun x y : Nat => decide (X j x < X j y)) (rP Z q kn) kn).toNat : Nat)) by omega), Bool.and_false]; exact Bool.and_false _) (fun e he => fk e (by omega)) e (by omega)
        first | omega | exact ⟨by omega, by omega⟩ | decide | assumption | exact ⟨by omega, by omega, by omega⟩ | exact ⟨by decide, by decide⟩
      intro c16
      rw [hov] at c16
      rw [fo j hj.1] at c16
      refine ⟨?_, ?_⟩
      · rw [hx]
        omega
      intro X35
      intro eX35
      intro rX35
      refine ⟨?_, ?_⟩
      · first | omega | exact ⟨by omega, by omega⟩ | decide | assumption | exact ⟨by omega, by omega, by omega⟩ | exact ⟨by decide, by decide⟩
      refine ⟨?_, ?_⟩
      · refine ⟨by omega, fun z hz => by rw [eX35, zU_o hz]; exact fo z hz, fun e he => ?_⟩
        rw [eX35, hx, zU_up, es]
        exact cb_y (n := (Z q 27).toNat) hpk (by rw [hcb, c8, decide_eq_true c14, decide_eq_true (show X j kn < X j ((aHc (rP Z q) (fun x => Y (i + 15) x) (fun e => mHas a e) (fun x y : Nat => decide (X j x < X j y)) (rP Z q kn) kn).toNat : Nat) by omega), Bool.and_true, Bool.or_true]; rfl) (fun e he => fk e (by omega)) e (by omega)
      first | omega | exact ⟨by omega, by omega⟩ | decide | assumption | exact ⟨by omega, by omega, by omega⟩ | exact ⟨by decide, by decide⟩
    intro c17
    have c17 := has_0.mpr (Classical.not_not.mp c17)
    refine ⟨?_, ?_⟩
    · first | omega | exact ⟨by omega, by omega⟩ | decide | assumption | exact ⟨by omega, by omega, by omega⟩ | exact ⟨by decide, by decide⟩
    refine ⟨?_, ?_⟩
    · refine ⟨by omega, fo, fun e he => ?_⟩
      rw [es]
      exact cb_n (n := (Z q 27).toNat) hpk (by rw [hcb, c17]; rfl) (fun e he => fk e (by omega)) e (by omega)
    first | omega | exact ⟨by omega, by omega⟩ | decide | assumption | exact ⟨by omega, by omega, by omega⟩ | exact ⟨by decide, by decide⟩
  intro c18
  have kl : (kn : Int) < Z q 27 := by omega
  have es : ((kn : Int) + 1).toNat = kn + 1 := by omega
  refine ⟨?_, ?_⟩
  · first | omega | exact ⟨by omega, by omega⟩ | decide | assumption | exact ⟨by omega, by omega, by omega⟩ | exact ⟨by decide, by decide⟩
  intro X39
  intro eX39
  intro rX39
  refine ⟨?_, ?_⟩
  · first | omega | exact ⟨by omega, by omega⟩ | decide | assumption | exact ⟨by omega, by omega, by omega⟩ | exact ⟨by decide, by decide⟩
  refine ⟨?_, ?_⟩
  · refine ⟨by omega, fun z hz => by rw [eX39, zU_o hz]; exact fo z hz, fun e he => ?_⟩
    rw [eX39, zU_up]
    unfold upI
    by_cases g : (e : Int) = kn
    · rw [if_pos g]
    · rw [if_neg g]
      exact fk e (by omega)
  first | omega | exact ⟨by omega, by omega⟩ | decide | assumption | exact ⟨by omega, by omega, by omega⟩ | exact ⟨by decide, by decide⟩
theorem c_X1_chosenByChildren {l : Launch} {D : va_G} {cy : Nat → ClassId} {bs N : Nat} {sa : Nat → Nat} {kd len : Nat → Nat} {X Y : Nat → Int → Int} {R : Nat → Int → Option Nat} {i : Nat} {Z : Nat → Int → Int} {q : Nat} (hC : zChart N kd len R i) {j : Nat} (hj : j < N ∧ kd j = 13 ∧ len j = 15) (a : Int) (ha : rI a) (hp : cA Z q X Y R i ∧ j ≠ i + 16 ∧ j ≠ i) : Met l yX1_chosenByChildren (.code yX1_chosenByChildren cX1_chosenByChildren 6 (some .int) :: zTB) (zRm 0 0) (zPc D cy bs sa N kd len X Y R [.ref (bs + (i)), .int (zI (a)), .ref (bs + (j))]) (zQi D cy bs N kd len (fun r st => st.2.1 = Y ∧ st.2.2 = R ∧ (r = ((aTw (fun y => aHc (rP Z q) (fun x => Y (i + 15) x) (fun e => mHas (a) e) (fun x y : Nat => decide (X j x < X j y)) y (Z q 27).toNat) (Z q 27).toNat 0 : Nat) : Int) ∧ (∀ z, z ≠ i + 16 → (st.1) z = X z) ∧ ∀ e : Nat, (e : Int) < Z q 27 → (st.1) (i + 16) e = fvN (aHc (rP Z q) (fun x => Y (i + 15) x) (fun e => mHas (a) e) (fun x y : Nat => decide (X j x < X j y)) e (Z q 27).toNat)))) 0 0 (zA bs) := w_X1_chosenByChildren hC hj a ha (v_X1_chosenByChildren a ha hp)
def F_X1_chosenByChildrenS (i : Nat) (Z : Nat → Int → Int) (q : Nat) (X Y : Nat → Int → Int) (R : Nat → Int → Option Nat) (a : Int) : Prop := (∀ i j, rI (X i j)) → (∀ i j, rL (Y i j)) → ((0 ≤ (0 : Int) ∧ (0 : Int) ≤ Z q 27) ∧ (∀ z, z ≠ i + 16 → X z = X z) ∧ ∀ e : Nat, (e : Int) < (0 : Int) → X (i + 16) e = 0) ∧ (∀ (k : Int) (X2 : Nat → Int → Int), rI k → (∀ i j, rI (X2 i j)) → ((0 ≤ k ∧ k ≤ Z q 27) ∧ (∀ z, z ≠ i + 16 → X2 z = X z) ∧ ∀ e : Nat, (e : Int) < k → X2 (i + 16) e = 0) → ((((X2 (i) 2) < k) → (((1 ≤ (1 : Int) ∧ (1 : Int) ≤ Z q 27) ∧ (∀ z, z ≠ i + 16 → X2 z = X z) ∧ ∀ e : Nat, (e : Int) < Z q 27 → X2 (i + 16) e = fvN (aHc (rP Z q) (fun x => Y (i + 15) x) (fun e => mHas a e) (fun x y : Nat => decide (x < y)) e ((1 : Int)).toNat)) ∧ (∀ (k : Int) (X5 : Nat → Int → Int), rI k → (∀ i j, rI (X5 i j)) → ((1 ≤ k ∧ k ≤ Z q 27) ∧ (∀ z, z ≠ i + 16 → X5 z = X z) ∧ ∀ e : Nat, (e : Int) < Z q 27 → X5 (i + 16) e = fvN (aHc (rP Z q) (fun x => Y (i + 15) x) (fun e => mHas a e) (fun x y : Nat => decide (x < y)) e (k).toNat)) → ((((X5 (i) 2) < k) → (((0 ≤ (0 : Int) ∧ (0 : Int) ≤ (0 : Int) ∧ (0 : Int) < Z q 27) ∧ aTw (fun y => aHc (rP Z q) (fun x => Y (i + 15) x) (fun e => mHas a e) (fun x y : Nat => decide (x < y)) y (Z q 27).toNat) (Z q 27).toNat ((0 : Int)).toNat = aTw (fun y => aHc (rP Z q) (fun x => Y (i + 15) x) (fun e => mHas a e) (fun x y : Nat => decide (x < y)) y (Z q 27).toNat) (Z q 27).toNat 0) ∧ (∀ (u : Int) (k : Int), rI u → rI k → ((0 ≤ k ∧ k ≤ u ∧ u < Z q 27) ∧ aTw (fun y => aHc (rP Z q) (fun x => Y (i + 15) x) (fun e => mHas a e) (fun x y : Nat => decide (x < y)) y (Z q 27).toNat) (Z q 27).toNat (u).toNat = aTw (fun y => aHc (rP Z q) (fun x => Y (i + 15) x) (fun e => mHas a e) (fun x y : Nat => decide (x < y)) y (Z q 27).toNat) (Z q 27).toNat 0) → ((((X5 (i) 2) ≤ k) → (u = ((aTw (fun y => aHc (rP Z q) (fun x => Y (i + 15) x) (fun e => mHas (a) e) (fun x y : Nat => decide (x < y)) y (Z q 27).toNat) (Z q 27).toNat 0 : Nat) : Int) ∧ (∀ z, z ≠ i + 16 → (X5) z = X z) ∧ ∀ e : Nat, (e : Int) < Z q 27 → (X5) (i + 16) e = fvN (aHc (rP Z q) (fun x => Y (i + 15) x) (fun e => mHas (a) e) (fun x y : Nat => decide (x < y)) e (Z q 27).toNat))) ∧ ((¬ ((X5 (i) 2) ≤ k)) → ((0 ≤ u ∧ u < 15) ∧ ((((X5 (i + 16) (u)) ≤ u) → (u = ((aTw (fun y => aHc (rP Z q) (fun x => Y (i + 15) x) (fun e => mHas (a) e) (fun x y : Nat => decide (x < y)) y (Z q 27).toNat) (Z q 27).toNat 0 : Nat) : Int) ∧ (∀ z, z ≠ i + 16 → (X5) z = X z) ∧ ∀ e : Nat, (e : Int) < Z q 27 → (X5) (i + 16) e = fvN (aHc (rP Z q) (fun x => Y (i + 15) x) (fun e => mHas (a) e) (fun x y : Nat => decide (x < y)) e (Z q 27).toNat))) ∧ ((¬ ((X5 (i + 16) (u)) ≤ u)) → ((0 ≤ u ∧ u < 15) ∧ ((rI (k + 1)) ∧ ((0 ≤ (k + 1) ∧ (k + 1) ≤ (X5 (i + 16) (u)) ∧ (X5 (i + 16) (u)) < Z q 27) ∧ aTw (fun y => aHc (rP Z q) (fun x => Y (i + 15) x) (fun e => mHas a e) (fun x y : Nat => decide (x < y)) y (Z q 27).toNat) (Z q 27).toNat ((X5 (i + 16) (u))).toNat = aTw (fun y => aHc (rP Z q) (fun x => Y (i + 15) x) (fun e => mHas a e) (fun x y : Nat => decide (x < y)) y (Z q 27).toNat) (Z q 27).toNat 0) ∧ (((20 - (k + 1)).toNat) < ((20 - (k)).toNat)))))))))))) ∧ ((¬ ((X5 (i) 2) < k)) → ((0 ≤ k ∧ k < 15) ∧ ((0 ≤ (X5 (i + 9) (k)) ∧ (X5 (i + 9) (k)) < 15) ∧ (((¬ (zAnd (zShr (a) (k)) (1)) = 0) → ((((X5 (i + 16) (X5 (i + 9) (k))) = 0) → ((0 ≤ (X5 (i + 9) (k)) ∧ (X5 (i + 9) (k)) < 15) ∧ (∀ X18 : Nat → Int → Int, X18 = zU X5 (i + 16) (X5 (i + 9) (k)) (k) → (∀ i j, rI (X18 i j)) → ((rI (k + 1)) ∧ ((1 ≤ (k + 1) ∧ (k + 1) ≤ Z q 27) ∧ (∀ z, z ≠ i + 16 → X18 z = X z) ∧ ∀ e : Nat, (e : Int) < Z q 27 → X18 (i + 16) e = fvN (aHc (rP Z q) (fun x => Y (i + 15) x) (fun e => mHas a e) (fun x y : Nat => decide (x < y)) e (k + 1).toNat)) ∧ (((20 - (k + 1)).toNat) < ((20 - (k)).toNat)))))) ∧ ((¬ ((X5 (i + 16) (X5 (i + 9) (k))) = 0)) → ((0 ≤ k ∧ k < 15) ∧ ((0 ≤ (X5 (i + 16) (X5 (i + 9) (k))) ∧ (X5 (i + 16) (X5 (i + 9) (k))) < 15) ∧ ((((Y (i + 15) (X5 (i + 16) (X5 (i + 9) (k)))) < (Y (i + 15) (k))) → ((0 ≤ (X5 (i + 9) (k)) ∧ (X5 (i + 9) (k)) < 15) ∧ (∀ X24 : Nat → Int → Int, X24 = zU X5 (i + 16) (X5 (i + 9) (k)) (k) → (∀ i j, rI (X24 i j)) → ((rI (k + 1)) ∧ ((1 ≤ (k + 1) ∧ (k + 1) ≤ Z q 27) ∧ (∀ z, z ≠ i + 16 → X24 z = X z) ∧ ∀ e : Nat, (e : Int) < Z q 27 → X24 (i + 16) e = fvN (aHc (rP Z q) (fun x => Y (i + 15) x) (fun e => mHas a e) (fun x y : Nat => decide (x < y)) e (k + 1).toNat)) ∧ (((20 - (k + 1)).toNat) < ((20 - (k)).toNat)))))) ∧ ((¬ ((Y (i + 15) (X5 (i + 16) (X5 (i + 9) (k)))) < (Y (i + 15) (k)))) → ((0 ≤ k ∧ k < 15) ∧ ((0 ≤ (X5 (i + 16) (X5 (i + 9) (k))) ∧ (X5 (i + 16) (X5 (i + 9) (k))) < 15) ∧ (((¬ (Y (i + 15) (k)) = (Y (i + 15) (X5 (i + 16) (X5 (i + 9) (k))))) → ((rI (k + 1)) ∧ ((1 ≤ (k + 1) ∧ (k + 1) ≤ Z q 27) ∧ (∀ z, z ≠ i + 16 → X5 z = X z) ∧ ∀ e : Nat, (e : Int) < Z q 27 → X5 (i + 16) e = fvN (aHc (rP Z q) (fun x => Y (i + 15) x) (fun e => mHas a e) (fun x y : Nat => decide (x < y)) e (k + 1).toNat)) ∧ (((20 - (k + 1)).toNat) < ((20 - (k)).toNat)))) ∧ ((¬ (¬ (Y (i + 15) (k)) = (Y (i + 15) (X5 (i + 16) (X5 (i + 9) (k)))))) → ((0 ≤ k ∧ k < 15) ∧ ((0 ≤ (X5 (i + 16) (X5 (i + 9) (k))) ∧ (X5 (i + 16) (X5 (i + 9) (k))) < 15) ∧ ((((X5 (i + 16) (X5 (i + 9) (k))) ≤ k) → ((rI (k + 1)) ∧ ((1 ≤ (k + 1) ∧ (k + 1) ≤ Z q 27) ∧ (∀ z, z ≠ i + 16 → X5 z = X z) ∧ ∀ e : Nat, (e : Int) < Z q 27 → X5 (i + 16) e = fvN (aHc (rP Z q) (fun x => Y (i + 15) x) (fun e => mHas a e) (fun x y : Nat => decide (x < y)) e (k + 1).toNat)) ∧ (((20 - (k + 1)).toNat) < ((20 - (k)).toNat)))) ∧ ((¬ ((X5 (i + 16) (X5 (i + 9) (k))) ≤ k)) → ((0 ≤ (X5 (i + 9) (k)) ∧ (X5 (i + 9) (k)) < 15) ∧ (∀ X35 : Nat → Int → Int, X35 = zU X5 (i + 16) (X5 (i + 9) (k)) (k) → (∀ i j, rI (X35 i j)) → ((rI (k + 1)) ∧ ((1 ≤ (k + 1) ∧ (k + 1) ≤ Z q 27) ∧ (∀ z, z ≠ i + 16 → X35 z = X z) ∧ ∀ e : Nat, (e : Int) < Z q 27 → X35 (i + 16) e = fvN (aHc (rP Z q) (fun x => Y (i + 15) x) (fun e => mHas a e) (fun x y : Nat => decide (x < y)) e (k + 1).toNat)) ∧ (((20 - (k + 1)).toNat) < ((20 - (k)).toNat)))))))))))))))))))) ∧ ((¬ (¬ (zAnd (zShr (a) (k)) (1)) = 0)) → ((rI (k + 1)) ∧ ((1 ≤ (k + 1) ∧ (k + 1) ≤ Z q 27) ∧ (∀ z, z ≠ i + 16 → X5 z = X z) ∧ ∀ e : Nat, (e : Int) < Z q 27 → X5 (i + 16) e = fvN (aHc (rP Z q) (fun x => Y (i + 15) x) (fun e => mHas a e) (fun x y : Nat => decide (x < y)) e (k + 1).toNat)) ∧ (((20 - (k + 1)).toNat) < ((20 - (k)).toNat)))))))))))) ∧ ((¬ ((X2 (i) 2) < k)) → ((0 ≤ k ∧ k < 15) ∧ (∀ X39 : Nat → Int → Int, X39 = zU X2 (i + 16) (k) (0) → (∀ i j, rI (X39 i j)) → ((rI (k + 1)) ∧ ((0 ≤ (k + 1) ∧ (k + 1) ≤ Z q 27) ∧ (∀ z, z ≠ i + 16 → X39 z = X z) ∧ ∀ e : Nat, (e : Int) < (k + 1) → X39 (i + 16) e = 0) ∧ (((20 - (k + 1)).toNat) < ((20 - (k)).toNat))))))))
set_option maxHeartbeats 4000000 in
set_option maxRecDepth 100000 in
theorem w_X1_chosenByChildrenS {l : Launch} {D : va_G} {cy : Nat → ClassId} {bs N : Nat} {sa : Nat → Nat} {kd len : Nat → Nat} {X Y : Nat → Int → Int} {R : Nat → Int → Option Nat} {i : Nat} {Z : Nat → Int → Int} {q : Nat} (hC : zChart N kd len R i) (a : Int) (ha : rI a) (hF : F_X1_chosenByChildrenS i Z q X Y R a) : Met l yX1_chosenByChildren (.code yX1_chosenByChildren cX1_chosenByChildren 6 (some .int) :: zTB) (zRm 0 0) (zPc D cy bs sa N kd len X Y R [.ref (bs + (i)), .int (zI (a)), .ref (sa 0)]) (zQi D cy bs N kd len (fun r st => st.2.1 = Y ∧ st.2.2 = R ∧ (r = ((aTw (fun y => aHc (rP Z q) (fun x => Y (i + 15) x) (fun e => mHas (a) e) (fun x y : Nat => decide (x < y)) y (Z q 27).toNat) (Z q 27).toNat 0 : Nat) : Int) ∧ (∀ z, z ≠ i + 16 → (st.1) z = X z) ∧ ∀ e : Nat, (e : Int) < Z q 27 → (st.1) (i + 16) e = fvN (aHc (rP Z q) (fun x => Y (i + 15) x) (fun e => mHas (a) e) (fun x y : Nat => decide (x < y)) e (Z q 27).toNat)))) 0 0 (zA bs) := by
  refine zstart (by decide) (Nat.le_of_ble_eq_true rfl) ?_
  intro p e s m args below meth c ls C hE hH hr hlk hnm hl hargs
  have hF := hF hH.2.2.1 hH.2.2.2
  have hS : va_S (zA bs) s.heap s.heap [] := va_S.rf
  have hl : lv_has ls 6 [(0, .ref (bs + (i))), (1, .int (zI (a))), (2, .ref (sa 0))] := hl
  refine zd_iconst C dX1_chosenByChildren_0 ?_
  refine lv_istore_n (lv' := [(3, .int (zI (0))), (0, .ref (bs + (i))), (1, .int (zI (a))), (2, .ref (sa 0))]) C.1 C.2.1 dX1_chosenByChildren_1 rfl hl (by decide) rfl (fun ls hl => ?_)
  obtain ⟨hI1, hF⟩ := hF
  have L1 : ∀ (fu : Nat) (k : Int) (X2 : Nat → Int → Int), rI k → ((0 ≤ k ∧ k ≤ Z q 27) ∧ (∀ z, z ≠ i + 16 → X2 z = X z) ∧ ∀ e : Nat, (e : Int) < k → X2 (i + 16) e = 0) → ((20 - (k)).toNat) < fu → ∀ (H : Heap) (locs : List Loc) (ls : Array Slot), zH D cy bs N kd len X2 Y R H → va_S (zA bs) s.heap H locs → lv_has ls 6 [(3, .int (zI (k))), (0, .ref (bs + (i))), (1, .int (zI (a))), (2, .ref (sa 0))] → W p l e (zRm 0 0) s m args below meth c H locs 0 0 (MQ below (zQi D cy bs N kd len (fun r st => st.2.1 = Y ∧ st.2.2 = R ∧ (r = ((aTw (fun y => aHc (rP Z q) (fun x => Y (i + 15) x) (fun e => mHas (a) e) (fun x y : Nat => decide (x < y)) y (Z q 27).toNat) (Z q 27).toNat 0 : Nat) : Int) ∧ (∀ z, z ≠ i + 16 → (st.1) z = X z) ∧ ∀ e : Nat, (e : Int) < Z q 27 → (st.1) (i + 16) e = fvN (aHc (rP Z q) (fun x => Y (i + 15) x) (fun e => mHas (a) e) (fun x y : Nat => decide (x < y)) e (Z q 27).toNat)))) args s 0 0 (zA bs)) (F0 m 2 ls []) := by
    intro fu
    induction fu with
    | zero => intro k X2 _ _ hmu; exact absurd hmu (Nat.not_lt_zero _)
    | succ fu ih1 =>
      intro k X2 hk hI hmu1 H locs ls hH hS hl
      have hF := hF k X2 hk hH.2.2.1 hI
      refine lv_iload_n C.1 C.2.1 dX1_chosenByChildren_2 rfl (lv_at hl 0 rfl) ?_
      refine lv_aload_n C.1 C.2.1 dX1_chosenByChildren_3 rfl (lv_at hl 1 rfl) ?_
      refine zg1_2 C hH (zChart_n0 hC) (zChart_k0 hC) q_396 dX1_chosenByChildren_4 ?_
      refine zd_icmp_gt C hk (hH.2.2.1 _ _) 23 dX1_chosenByChildren_7 (by decide) (fun c3 => ?_) (fun c3 => ?_)
      · have hF := hF.1 c3
        refine zd_iconst C dX1_chosenByChildren_23 ?_
        refine lv_istore_n (lv' := [(3, .int (zI (1))), (0, .ref (bs + (i))), (1, .int (zI (a))), (2, .ref (sa 0))]) C.1 C.2.1 dX1_chosenByChildren_24 rfl hl (by decide) rfl (fun ls hl => ?_)
        obtain ⟨hI4, hF⟩ := hF
        have L4 : ∀ (fu : Nat) (k : Int) (X5 : Nat → Int → Int), rI k → ((1 ≤ k ∧ k ≤ Z q 27) ∧ (∀ z, z ≠ i + 16 → X5 z = X z) ∧ ∀ e : Nat, (e : Int) < Z q 27 → X5 (i + 16) e = fvN (aHc (rP Z q) (fun x => Y (i + 15) x) (fun e => mHas a e) (fun x y : Nat => decide (x < y)) e (k).toNat)) → ((20 - (k)).toNat) < fu → ∀ (H : Heap) (locs : List Loc) (ls : Array Slot), zH D cy bs N kd len X5 Y R H → va_S (zA bs) s.heap H locs → lv_has ls 6 [(3, .int (zI (k))), (0, .ref (bs + (i))), (1, .int (zI (a))), (2, .ref (sa 0))] → W p l e (zRm 0 0) s m args below meth c H locs 0 0 (MQ below (zQi D cy bs N kd len (fun r st => st.2.1 = Y ∧ st.2.2 = R ∧ (r = ((aTw (fun y => aHc (rP Z q) (fun x => Y (i + 15) x) (fun e => mHas (a) e) (fun x y : Nat => decide (x < y)) y (Z q 27).toNat) (Z q 27).toNat 0 : Nat) : Int) ∧ (∀ z, z ≠ i + 16 → (st.1) z = X z) ∧ ∀ e : Nat, (e : Int) < Z q 27 → (st.1) (i + 16) e = fvN (aHc (rP Z q) (fun x => Y (i + 15) x) (fun e => mHas (a) e) (fun x y : Nat => decide (x < y)) e (Z q 27).toNat)))) args s 0 0 (zA bs)) (F0 m 25 ls []) := by
          intro fu
          induction fu with
          | zero => intro k X5 _ _ hmu; exact absurd hmu (Nat.not_lt_zero _)
          | succ fu ih4 =>
            intro k X5 hk hI hmu4 H locs ls hH hS hl
            have hF := hF k X5 hk hH.2.2.1 hI
            refine lv_iload_n C.1 C.2.1 dX1_chosenByChildren_25 rfl (lv_at hl 0 rfl) ?_
            refine lv_aload_n C.1 C.2.1 dX1_chosenByChildren_26 rfl (lv_at hl 1 rfl) ?_
            refine zg1_2 C hH (zChart_n0 hC) (zChart_k0 hC) q_396 dX1_chosenByChildren_27 ?_
            refine zd_icmp_gt C hk (hH.2.2.1 _ _) 124 dX1_chosenByChildren_30 (by decide) (fun c6 => ?_) (fun c6 => ?_)
            · have hF := hF.1 c6
              refine zd_iconst C dX1_chosenByChildren_124 ?_
              refine lv_istore_n (lv' := [(3, .int (zI (0))), (0, .ref (bs + (i))), (1, .int (zI (a))), (2, .ref (sa 0))]) C.1 C.2.1 dX1_chosenByChildren_125 rfl hl (by decide) rfl (fun ls hl => ?_)
              refine zd_iconst C dX1_chosenByChildren_126 ?_
              refine lv_istore (lv' := [(4, .int (zI (0))), (3, .int (zI (0))), (0, .ref (bs + (i))), (1, .int (zI (a))), (2, .ref (sa 0))]) C.1 C.2.1 dX1_chosenByChildren_127 hl (by decide) rfl (fun ls hl => ?_)
              obtain ⟨hI7, hF⟩ := hF
              have L7 : ∀ (fu : Nat) (u : Int) (k : Int), rI u → rI k → ((0 ≤ k ∧ k ≤ u ∧ u < Z q 27) ∧ aTw (fun y => aHc (rP Z q) (fun x => Y (i + 15) x) (fun e => mHas a e) (fun x y : Nat => decide (x < y)) y (Z q 27).toNat) (Z q 27).toNat (u).toNat = aTw (fun y => aHc (rP Z q) (fun x => Y (i + 15) x) (fun e => mHas a e) (fun x y : Nat => decide (x < y)) y (Z q 27).toNat) (Z q 27).toNat 0) → ((20 - (k)).toNat) < fu → ∀ (H : Heap) (locs : List Loc) (ls : Array Slot), zH D cy bs N kd len X5 Y R H → va_S (zA bs) s.heap H locs → lv_has ls 6 [(3, .int (zI (u))), (4, .int (zI (k))), (0, .ref (bs + (i))), (1, .int (zI (a))), (2, .ref (sa 0))] → W p l e (zRm 0 0) s m args below meth c H locs 0 0 (MQ below (zQi D cy bs N kd len (fun r st => st.2.1 = Y ∧ st.2.2 = R ∧ (r = ((aTw (fun y => aHc (rP Z q) (fun x => Y (i + 15) x) (fun e => mHas (a) e) (fun x y : Nat => decide (x < y)) y (Z q 27).toNat) (Z q 27).toNat 0 : Nat) : Int) ∧ (∀ z, z ≠ i + 16 → (st.1) z = X z) ∧ ∀ e : Nat, (e : Int) < Z q 27 → (st.1) (i + 16) e = fvN (aHc (rP Z q) (fun x => Y (i + 15) x) (fun e => mHas (a) e) (fun x y : Nat => decide (x < y)) e (Z q 27).toNat)))) args s 0 0 (zA bs)) (F0 m 129 ls []) := by
                intro fu
                induction fu with
                | zero => intro u k _ _ _ hmu; exact absurd hmu (Nat.not_lt_zero _)
                | succ fu ih7 =>
                  intro u k hu hk hI hmu7 H locs ls hH hS hl
                  have hF := hF u k hu hk  hI
                  refine lv_iload C.1 C.2.1 dX1_chosenByChildren_129 (lv_at hl 1 rfl) ?_
                  refine lv_aload_n C.1 C.2.1 dX1_chosenByChildren_131 rfl (lv_at hl 2 rfl) ?_
                  refine zg1_2 C hH (zChart_n0 hC) (zChart_k0 hC) q_396 dX1_chosenByChildren_132 ?_
                  refine zd_icmp_ge C hk (hH.2.2.1 _ _) 161 dX1_chosenByChildren_135 (by decide) (fun c8 => ?_) (fun c8 => ?_)
                  · have hF := hF.1 c8
                    refine lv_iload_n C.1 C.2.1 dX1_chosenByChildren_161 rfl (lv_at hl 0 rfl) ?_
                    exact zd_iret C hr hlk hH hS hu (⟨rfl, rfl, hF⟩) dX1_chosenByChildren_162
                  · have hF := hF.2 c8
                    refine lv_aload_n C.1 C.2.1 dX1_chosenByChildren_138 rfl (lv_at hl 2 rfl) ?_
                    refine zg1_11 C hH (zChart_n0 hC) (zChart_k0 hC) q_416 (zChart_r16 hC) dX1_chosenByChildren_139 ?_
                    refine lv_iload_n C.1 C.2.1 dX1_chosenByChildren_142 rfl (lv_at hl 0 rfl) ?_
                    obtain ⟨o9, hF⟩ := hF
                    refine zd_iald C hH (zChart_n16 hC) (zChart_k16 hC) o9.1 (by rw [zChart_l16 hC]; exact o9.2) (by rw [zChart_l16 hC]; decide) dX1_chosenByChildren_143 ?_
                    refine lv_iload_n C.1 C.2.1 dX1_chosenByChildren_144 rfl (lv_at hl 0 rfl) ?_
                    refine zd_icmp_le C (hH.2.2.1 _ _) hu 161 dX1_chosenByChildren_145 (by decide) (fun c10 => ?_) (fun c10 => ?_)
                    · have hF := hF.1 c10
                      refine lv_iload_n C.1 C.2.1 dX1_chosenByChildren_161 rfl (lv_at hl 0 rfl) ?_
                      exact zd_iret C hr hlk hH hS hu (⟨rfl, rfl, hF⟩) dX1_chosenByChildren_162
                    · have hF := hF.2 c10
                      refine lv_aload_n C.1 C.2.1 dX1_chosenByChildren_148 rfl (lv_at hl 2 rfl) ?_
                      refine zg1_11 C hH (zChart_n0 hC) (zChart_k0 hC) q_416 (zChart_r16 hC) dX1_chosenByChildren_149 ?_
                      refine lv_iload_n C.1 C.2.1 dX1_chosenByChildren_152 rfl (lv_at hl 0 rfl) ?_
                      obtain ⟨o11, hF⟩ := hF
                      refine zd_iald C hH (zChart_n16 hC) (zChart_k16 hC) o11.1 (by rw [zChart_l16 hC]; exact o11.2) (by rw [zChart_l16 hC]; decide) dX1_chosenByChildren_153 ?_
                      refine lv_istore_n (lv' := [(3, .int (zI (X5 (i + 16) (u)))), (4, .int (zI (k))), (0, .ref (bs + (i))), (1, .int (zI (a))), (2, .ref (sa 0))]) C.1 C.2.1 dX1_chosenByChildren_154 rfl hl (by decide) rfl (fun ls hl => ?_)
                      refine zd_iinc (k := 1) (lv' := [(4, .int (zI (k + 1))), (3, .int (zI (X5 (i + 16) (u)))), (0, .ref (bs + (i))), (1, .int (zI (a))), (2, .ref (sa 0))]) C hl rfl dX1_chosenByChildren_155 (by decide) rfl (fun ls hl => ?_)
                      refine lv_goto (tgt := 129) C.1 C.2.1 dX1_chosenByChildren_158 (by decide) ?_
                      obtain ⟨o12, hF⟩ := hF
                      exact ih7 (X5 (i + 16) (u)) (k + 1) (hH.2.2.1 _ _) o12 hF.1 (Nat.lt_of_lt_of_le hF.2 (Nat.le_of_lt_succ hmu7)) _ _ _ hH hS (lv_sub hl [1, 0, 2, 3, 4] rfl)
              exact L7 (((20 - ((0 : Int))).toNat) + 1) ((0 : Int)) ((0 : Int)) (by decide) (by decide) hI7 (Nat.lt_succ_self _) _ _ _ hH hS (lv_sub hl [1, 0, 2, 3, 4] rfl)
            · have hF := hF.2 c6
              refine lv_aload_n C.1 C.2.1 dX1_chosenByChildren_33 rfl (lv_at hl 1 rfl) ?_
              refine zg1_4 C hH (zChart_n0 hC) (zChart_k0 hC) q_402 (zChart_r9 hC) dX1_chosenByChildren_34 ?_
              refine lv_iload_n C.1 C.2.1 dX1_chosenByChildren_37 rfl (lv_at hl 0 rfl) ?_
              obtain ⟨o13, hF⟩ := hF
              refine zd_iald C hH (zChart_n9 hC) (zChart_k9 hC) o13.1 (by rw [zChart_l9 hC]; exact o13.2) (by rw [zChart_l9 hC]; decide) dX1_chosenByChildren_38 ?_
              refine lv_istore (lv' := [(4, .int (zI (X5 (i + 9) (k)))), (3, .int (zI (k))), (0, .ref (bs + (i))), (1, .int (zI (a))), (2, .ref (sa 0))]) C.1 C.2.1 dX1_chosenByChildren_39 hl (by decide) rfl (fun ls hl => ?_)
              refine lv_aload_n C.1 C.2.1 dX1_chosenByChildren_41 rfl (lv_at hl 2 rfl) ?_
              refine zg1_11 C hH (zChart_n0 hC) (zChart_k0 hC) q_416 (zChart_r16 hC) dX1_chosenByChildren_42 ?_
              refine lv_iload C.1 C.2.1 dX1_chosenByChildren_45 (lv_at hl 0 rfl) ?_
              obtain ⟨o14, hF⟩ := hF
              refine zd_iald C hH (zChart_n16 hC) (zChart_k16 hC) o14.1 (by rw [zChart_l16 hC]; exact o14.2) (by rw [zChart_l16 hC]; decide) dX1_chosenByChildren_47 ?_
              refine lv_istore (lv' := [(5, .int (zI (X5 (i + 16) (X5 (i + 9) (k))))), (4, .int (zI (X5 (i + 9) (k)))), (3, .int (zI (k))), (0, .ref (bs + (i))), (1, .int (zI (a))), (2, .ref (sa 0))]) C.1 C.2.1 dX1_chosenByChildren_48 hl (by decide) rfl (fun ls hl => ?_)
              refine lv_iload_n C.1 C.2.1 dX1_chosenByChildren_50 rfl (lv_at hl 4 rfl) ?_
              refine lv_iload_n C.1 C.2.1 dX1_chosenByChildren_51 rfl (lv_at hl 2 rfl) ?_
              refine zd_ishr C dX1_chosenByChildren_52 ?_
              refine zd_iconst C dX1_chosenByChildren_53 ?_
              refine zd_iand C dX1_chosenByChildren_54 ?_
              refine zd_if_ne C (zI_rg _) 61 dX1_chosenByChildren_55 (by decide) (fun c15 => ?_) (fun c15 => ?_)
              · have hF := hF.1 c15
                refine lv_iload C.1 C.2.1 dX1_chosenByChildren_61 (lv_at hl 0 rfl) ?_
                refine zd_if_eq C (hH.2.2.1 _ _) 110 dX1_chosenByChildren_63 (by decide) (fun c16 => ?_) (fun c16 => ?_)
                · have hF := hF.1 c16
                  refine lv_aload_n C.1 C.2.1 dX1_chosenByChildren_110 rfl (lv_at hl 3 rfl) ?_
                  refine zg1_11 C hH (zChart_n0 hC) (zChart_k0 hC) q_416 (zChart_r16 hC) dX1_chosenByChildren_111 ?_
                  refine lv_iload C.1 C.2.1 dX1_chosenByChildren_114 (lv_at hl 1 rfl) ?_
                  refine lv_iload_n C.1 C.2.1 dX1_chosenByChildren_116 rfl (lv_at hl 2 rfl) ?_
                  obtain ⟨o17, hF⟩ := hF
                  have gg1 := hH.2.2.1
                  refine zd_iast C hH hS (zChart_n16 hC) (zChart_k16 hC) o17.1 (by rw [zChart_l16 hC]; exact o17.2) (by rw [zChart_l16 hC]; decide) hk dX1_chosenByChildren_117 (fun H locs hH hS => ?_)
                  obtain ⟨X18, eX18⟩ : ∃ z, z = zU X5 (i + 16) (X5 (i + 9) (k)) (k) := ⟨_, rfl⟩
                  rw [← eX18] at hH
                  have hF := hF X18 eX18 hH.2.2.1
                  refine zd_iinc (k := 2) (lv' := [(3, .int (zI (k + 1))), (5, .int (zI (X5 (i + 16) (X5 (i + 9) (k))))), (4, .int (zI (X5 (i + 9) (k)))), (0, .ref (bs + (i))), (1, .int (zI (a))), (2, .ref (sa 0))]) C hl rfl dX1_chosenByChildren_118 (by decide) rfl (fun ls hl => ?_)
                  refine lv_goto (tgt := 25) C.1 C.2.1 dX1_chosenByChildren_121 (by decide) ?_
                  obtain ⟨o19, hF⟩ := hF
                  exact ih4 (k + 1) X18 o19 hF.1 (Nat.lt_of_lt_of_le hF.2 (Nat.le_of_lt_succ hmu4)) _ _ _ hH hS (lv_sub hl [0, 3, 4, 5] rfl)
                · have hF := hF.2 c16
                  refine lv_aload_n C.1 C.2.1 dX1_chosenByChildren_66 rfl (lv_at hl 3 rfl) ?_
                  refine zg1_10 C hH (zChart_n0 hC) (zChart_k0 hC) q_415 (zChart_r15 hC) dX1_chosenByChildren_67 ?_
                  refine lv_iload_n C.1 C.2.1 dX1_chosenByChildren_70 rfl (lv_at hl 2 rfl) ?_
                  obtain ⟨o20, hF⟩ := hF
                  refine zd_lald C hH (zChart_n15 hC) (zChart_k15 hC) o20.1 (by rw [zChart_l15 hC]; exact o20.2) (by rw [zChart_l15 hC]; decide) dX1_chosenByChildren_71 ?_
                  refine lv_aload_n C.1 C.2.1 dX1_chosenByChildren_72 rfl (lv_at hl 3 rfl) ?_
                  refine zg1_10 C hH (zChart_n0 hC) (zChart_k0 hC) q_415 (zChart_r15 hC) dX1_chosenByChildren_73 ?_
                  refine lv_iload C.1 C.2.1 dX1_chosenByChildren_76 (lv_at hl 0 rfl) ?_
                  obtain ⟨o21, hF⟩ := hF
                  refine zd_lald C hH (zChart_n15 hC) (zChart_k15 hC) o21.1 (by rw [zChart_l15 hC]; exact o21.2) (by rw [zChart_l15 hC]; decide) dX1_chosenByChildren_78 ?_
                  refine zd_lcmp C (hH.2.2.2 _ _) (hH.2.2.2 _ _) dX1_chosenByChildren_79 ?_
                  refine zd_ifL_gt C 110 dX1_chosenByChildren_80 (by decide) (fun c22 => ?_) (fun c22 => ?_)
                  · have hF := hF.1 c22
                    refine lv_aload_n C.1 C.2.1 dX1_chosenByChildren_110 rfl (lv_at hl 3 rfl) ?_
                    refine zg1_11 C hH (zChart_n0 hC) (zChart_k0 hC) q_416 (zChart_r16 hC) dX1_chosenByChildren_111 ?_
                    refine lv_iload C.1 C.2.1 dX1_chosenByChildren_114 (lv_at hl 1 rfl) ?_
                    refine lv_iload_n C.1 C.2.1 dX1_chosenByChildren_116 rfl (lv_at hl 2 rfl) ?_
                    obtain ⟨o23, hF⟩ := hF
                    have gg2 := hH.2.2.1
                    refine zd_iast C hH hS (zChart_n16 hC) (zChart_k16 hC) o23.1 (by rw [zChart_l16 hC]; exact o23.2) (by rw [zChart_l16 hC]; decide) hk dX1_chosenByChildren_117 (fun H locs hH hS => ?_)
                    obtain ⟨X24, eX24⟩ : ∃ z, z = zU X5 (i + 16) (X5 (i + 9) (k)) (k) := ⟨_, rfl⟩
                    rw [← eX24] at hH
                    have hF := hF X24 eX24 hH.2.2.1
                    refine zd_iinc (k := 2) (lv' := [(3, .int (zI (k + 1))), (5, .int (zI (X5 (i + 16) (X5 (i + 9) (k))))), (4, .int (zI (X5 (i + 9) (k)))), (0, .ref (bs + (i))), (1, .int (zI (a))), (2, .ref (sa 0))]) C hl rfl dX1_chosenByChildren_118 (by decide) rfl (fun ls hl => ?_)
                    refine lv_goto (tgt := 25) C.1 C.2.1 dX1_chosenByChildren_121 (by decide) ?_
                    obtain ⟨o25, hF⟩ := hF
                    exact ih4 (k + 1) X24 o25 hF.1 (Nat.lt_of_lt_of_le hF.2 (Nat.le_of_lt_succ hmu4)) _ _ _ hH hS (lv_sub hl [0, 3, 4, 5] rfl)
                  · have hF := hF.2 c22
                    refine lv_aload_n C.1 C.2.1 dX1_chosenByChildren_83 rfl (lv_at hl 3 rfl) ?_
                    refine zg1_10 C hH (zChart_n0 hC) (zChart_k0 hC) q_415 (zChart_r15 hC) dX1_chosenByChildren_84 ?_
                    refine lv_iload_n C.1 C.2.1 dX1_chosenByChildren_87 rfl (lv_at hl 2 rfl) ?_
                    obtain ⟨o26, hF⟩ := hF
                    refine zd_lald C hH (zChart_n15 hC) (zChart_k15 hC) o26.1 (by rw [zChart_l15 hC]; exact o26.2) (by rw [zChart_l15 hC]; decide) dX1_chosenByChildren_88 ?_
                    refine lv_aload_n C.1 C.2.1 dX1_chosenByChildren_89 rfl (lv_at hl 3 rfl) ?_
                    refine zg1_10 C hH (zChart_n0 hC) (zChart_k0 hC) q_415 (zChart_r15 hC) dX1_chosenByChildren_90 ?_
                    refine lv_iload C.1 C.2.1 dX1_chosenByChildren_93 (lv_at hl 0 rfl) ?_
                    obtain ⟨o27, hF⟩ := hF
                    refine zd_lald C hH (zChart_n15 hC) (zChart_k15 hC) o27.1 (by rw [zChart_l15 hC]; exact o27.2) (by rw [zChart_l15 hC]; decide) dX1_chosenByChildren_95 ?_
                    refine zd_lcmp C (hH.2.2.2 _ _) (hH.2.2.2 _ _) dX1_chosenByChildren_96 ?_
                    refine zd_ifL_ne C 118 dX1_chosenByChildren_97 (by decide) (fun c28 => ?_) (fun c28 => ?_)
                    · have hF := hF.1 c28
                      refine zd_iinc (k := 2) (lv' := [(3, .int (zI (k + 1))), (5, .int (zI (X5 (i + 16) (X5 (i + 9) (k))))), (4, .int (zI (X5 (i + 9) (k)))), (0, .ref (bs + (i))), (1, .int (zI (a))), (2, .ref (sa 0))]) C hl rfl dX1_chosenByChildren_118 (by decide) rfl (fun ls hl => ?_)
                      refine lv_goto (tgt := 25) C.1 C.2.1 dX1_chosenByChildren_121 (by decide) ?_
                      obtain ⟨o29, hF⟩ := hF
                      exact ih4 (k + 1) X5 o29 hF.1 (Nat.lt_of_lt_of_le hF.2 (Nat.le_of_lt_succ hmu4)) _ _ _ hH hS (lv_sub hl [0, 3, 4, 5] rfl)
                    · have hF := hF.2 c28
                      refine lv_aload_n C.1 C.2.1 dX1_chosenByChildren_100 rfl (lv_at hl 5 rfl) ?_
                      refine lv_iload_n C.1 C.2.1 dX1_chosenByChildren_101 rfl (lv_at hl 2 rfl) ?_
                      obtain ⟨o30, hF⟩ := hF
                      refine zd_taldN C hS hE.2.2.1.1 o30.1 o30.2 (by decide) dX1_chosenByChildren_102 ?_
                      refine lv_aload_n C.1 C.2.1 dX1_chosenByChildren_103 rfl (lv_at hl 5 rfl) ?_
                      refine lv_iload C.1 C.2.1 dX1_chosenByChildren_104 (lv_at hl 0 rfl) ?_
                      obtain ⟨o31, hF⟩ := hF
                      refine zd_taldN C hS hE.2.2.1.1 o31.1 o31.2 (by decide) dX1_chosenByChildren_106 ?_
                      refine zd_icmp_ge C (show rI _ from ⟨Int.le_trans (by decide) o30.1, Int.le_trans (Int.le_of_lt o30.2) (by decide)⟩) (show rI _ from ⟨Int.le_trans (by decide) o31.1, Int.le_trans (Int.le_of_lt o31.2) (by decide)⟩) 118 dX1_chosenByChildren_107 (by decide) (fun c32 => ?_) (fun c32 => ?_)
                      · have hF := hF.1 c32
                        refine zd_iinc (k := 2) (lv' := [(3, .int (zI (k + 1))), (5, .int (zI (X5 (i + 16) (X5 (i + 9) (k))))), (4, .int (zI (X5 (i + 9) (k)))), (0, .ref (bs + (i))), (1, .int (zI (a))), (2, .ref (sa 0))]) C hl rfl dX1_chosenByChildren_118 (by decide) rfl (fun ls hl => ?_)
                        refine lv_goto (tgt := 25) C.1 C.2.1 dX1_chosenByChildren_121 (by decide) ?_
                        obtain ⟨o33, hF⟩ := hF
                        exact ih4 (k + 1) X5 o33 hF.1 (Nat.lt_of_lt_of_le hF.2 (Nat.le_of_lt_succ hmu4)) _ _ _ hH hS (lv_sub hl [0, 3, 4, 5] rfl)
                      · have hF := hF.2 c32
                        refine lv_aload_n C.1 C.2.1 dX1_chosenByChildren_110 rfl (lv_at hl 3 rfl) ?_
                        refine zg1_11 C hH (zChart_n0 hC) (zChart_k0 hC) q_416 (zChart_r16 hC) dX1_chosenByChildren_111 ?_
                        refine lv_iload C.1 C.2.1 dX1_chosenByChildren_114 (lv_at hl 1 rfl) ?_
                        refine lv_iload_n C.1 C.2.1 dX1_chosenByChildren_116 rfl (lv_at hl 2 rfl) ?_
                        obtain ⟨o34, hF⟩ := hF
                        have gg3 := hH.2.2.1
                        refine zd_iast C hH hS (zChart_n16 hC) (zChart_k16 hC) o34.1 (by rw [zChart_l16 hC]; exact o34.2) (by rw [zChart_l16 hC]; decide) (show rI _ from ⟨Int.le_trans (by decide) o30.1, Int.le_trans (Int.le_of_lt o30.2) (by decide)⟩) dX1_chosenByChildren_117 (fun H locs hH hS => ?_)
                        obtain ⟨X35, eX35⟩ : ∃ z, z = zU X5 (i + 16) (X5 (i + 9) (k)) (k) := ⟨_, rfl⟩
                        rw [← eX35] at hH
                        have hF := hF X35 eX35 hH.2.2.1
                        refine zd_iinc (k := 2) (lv' := [(3, .int (zI (k + 1))), (5, .int (zI (X5 (i + 16) (X5 (i + 9) (k))))), (4, .int (zI (X5 (i + 9) (k)))), (0, .ref (bs + (i))), (1, .int (zI (a))), (2, .ref (sa 0))]) C hl rfl dX1_chosenByChildren_118 (by decide) rfl (fun ls hl => ?_)
                        refine lv_goto (tgt := 25) C.1 C.2.1 dX1_chosenByChildren_121 (by decide) ?_
                        obtain ⟨o36, hF⟩ := hF
                        exact ih4 (k + 1) X35 o36 hF.1 (Nat.lt_of_lt_of_le hF.2 (Nat.le_of_lt_succ hmu4)) _ _ _ hH hS (lv_sub hl [0, 3, 4, 5] rfl)
              · have hF := hF.2 c15
                refine lv_goto (tgt := 118) C.1 C.2.1 dX1_chosenByChildren_58 (by decide) ?_
                refine zd_iinc (k := 2) (lv' := [(3, .int (zI (k + 1))), (5, .int (zI (X5 (i + 16) (X5 (i + 9) (k))))), (4, .int (zI (X5 (i + 9) (k)))), (0, .ref (bs + (i))), (1, .int (zI (a))), (2, .ref (sa 0))]) C hl rfl dX1_chosenByChildren_118 (by decide) rfl (fun ls hl => ?_)
                refine lv_goto (tgt := 25) C.1 C.2.1 dX1_chosenByChildren_121 (by decide) ?_
                obtain ⟨o37, hF⟩ := hF
                exact ih4 (k + 1) X5 o37 hF.1 (Nat.lt_of_lt_of_le hF.2 (Nat.le_of_lt_succ hmu4)) _ _ _ hH hS (lv_sub hl [0, 3, 4, 5] rfl)
        exact L4 (((20 - ((1 : Int))).toNat) + 1) ((1 : Int)) X2 (by decide) hI4 (Nat.lt_succ_self _) _ _ _ hH hS (lv_sub hl [0, 1, 2, 3] rfl)
      · have hF := hF.2 c3
        refine lv_aload_n C.1 C.2.1 dX1_chosenByChildren_10 rfl (lv_at hl 1 rfl) ?_
        refine zg1_11 C hH (zChart_n0 hC) (zChart_k0 hC) q_416 (zChart_r16 hC) dX1_chosenByChildren_11 ?_
        refine lv_iload_n C.1 C.2.1 dX1_chosenByChildren_14 rfl (lv_at hl 0 rfl) ?_
        refine zd_iconst C dX1_chosenByChildren_15 ?_
        obtain ⟨o38, hF⟩ := hF
        refine zd_iast C hH hS (zChart_n16 hC) (zChart_k16 hC) o38.1 (by rw [zChart_l16 hC]; exact o38.2) (by rw [zChart_l16 hC]; decide) (by decide) dX1_chosenByChildren_16 (fun H locs hH hS => ?_)
        obtain ⟨X39, eX39⟩ : ∃ z, z = zU X2 (i + 16) (k) (0) := ⟨_, rfl⟩
        rw [← eX39] at hH
        have hF := hF X39 eX39 hH.2.2.1
        refine zd_iinc (k := 0) (lv' := [(3, .int (zI (k + 1))), (0, .ref (bs + (i))), (1, .int (zI (a))), (2, .ref (sa 0))]) C hl rfl dX1_chosenByChildren_17 (by decide) rfl (fun ls hl => ?_)
        refine lv_goto (tgt := 2) C.1 C.2.1 dX1_chosenByChildren_20 (by decide) ?_
        obtain ⟨o40, hF⟩ := hF
        exact ih1 (k + 1) X39 o40 hF.1 (Nat.lt_of_lt_of_le hF.2 (Nat.le_of_lt_succ hmu1)) _ _ _ hH hS (lv_sub hl [0, 1, 2, 3] rfl)
  exact L1 (((20 - ((0 : Int))).toNat) + 1) ((0 : Int)) X (by decide) hI1 (Nat.lt_succ_self _) _ _ _ hH hS (lv_sub hl [0, 1, 2, 3] rfl)
theorem v_X1_chosenByChildrenS {X Y : Nat → Int → Int} {R : Nat → Int → Option Nat} {i : Nat} {Z : Nat → Int → Int} {q : Nat} (a : Int) (ha : rI a) (hp : cA Z q X Y R i) : F_X1_chosenByChildrenS i Z q X Y R a := by
  unfold F_X1_chosenByChildrenS
  intro hX hY
  have hq := hp
  obtain ⟨l27, r27, e27⟩ := cA_l hq
  refine ⟨?_, ?_⟩
  · exact ⟨by omega, fun _ _ => rfl, fun e he => absurd he (by omega)⟩
  intro k X2
  intro _
  intro rX2
  intro h1
  obtain ⟨⟨k1, k2⟩, fo, fk⟩ := h1
  obtain ⟨kn, rfl⟩ := nat_of (show 0 ≤ k by omega)
  have e0 : ((kn : Nat) : Int).toNat = kn := by omega
  have f2 : X2 i 2 = X i 2 := by rw [fo i (by omega)]
  refine ⟨?_, ?_⟩
  · intro c1
    refine ⟨?_, ?_⟩
    · refine ⟨by omega, fo, fun e he => ?_⟩
      rw [fk e (by omega), show (1 : Int).toNat = 1 from rfl, aHc_no 1 (by omega)]
      rfl
    intro k X5
    intro _
    intro rX5
    intro h2
    obtain ⟨⟨k1, k2⟩, fo, fk⟩ := h2
    obtain ⟨kn, rfl⟩ := nat_of (show 0 ≤ k by omega)
    have e0 : ((kn : Nat) : Int).toNat = kn := by omega
    simp only [e0] at fk
    have f2 : X5 i 2 = X i 2 := by rw [fo i (by omega)]
    refine ⟨?_, ?_⟩
    · intro c2
      have hk : kn = (Z q 27).toNat := by omega
      refine ⟨?_, ?_⟩
      · exact ⟨by omega, rfl⟩
      intro u k
      intro _
      intro _
      intro h3
      obtain ⟨⟨u0, u1, u2⟩, hr⟩ := h3
      obtain ⟨un, rfl⟩ := nat_of (show 0 ≤ u by omega)
      have eu : ((un : Nat) : Int).toNat = un := by omega
      rw [eu] at hr
      have fu := fk un u2
      rw [hk] at fu
      have hb := aHc_b (P := rP Z q) (sb := fun x => Y (i + 15) x) (w := fun e => mHas a e) (ah := (fun x y : Nat => decide (x < y))) (at_ := un) (Z q 27).toNat
      refine ⟨?_, ?_⟩
      · intro c3
        refine ⟨?_, fo, fun e he => by have g := fk e he; rw [hk] at g; exact g⟩
        have hm : aHc (rP Z q) (fun x => Y (i + 15) x) (fun e => mHas a e) (fun x y : Nat => decide (x < y)) un (Z q 27).toNat = -1 := by omega
        have h9 := aTw_1 (hc := fun y => aHc (rP Z q) (fun x => Y (i + 15) x) (fun e => mHas a e) (fun x y : Nat => decide (x < y)) y (Z q 27).toNat) (n := (Z q 27).toNat) (a := un) (by omega) hm
        rw [← hr, h9]
      intro c4
      refine ⟨?_, ?_⟩
      · first | omega | exact ⟨by omega, by omega⟩ | decide | assumption | exact ⟨by omega, by omega, by omega⟩ | exact ⟨by decide, by decide⟩
      refine ⟨?_, ?_⟩
      · intro c5
        have hm : aHc (rP Z q) (fun x => Y (i + 15) x) (fun e => mHas a e) (fun x y : Nat => decide (x < y)) un (Z q 27).toNat = -1 := by
          by_cases g : aHc (rP Z q) (fun x => Y (i + 15) x) (fun e => mHas a e) (fun x y : Nat => decide (x < y)) un (Z q 27).toNat = -1
          · exact g
          · unfold fvN at fu
            rw [if_neg g] at fu
            omega
        refine ⟨?_, fo, fun e he => by have g := fk e he; rw [hk] at g; exact g⟩
        have h9 := aTw_1 (hc := fun y => aHc (rP Z q) (fun x => Y (i + 15) x) (fun e => mHas a e) (fun x y : Nat => decide (x < y)) y (Z q 27).toNat) (n := (Z q 27).toNat) (a := un) (by omega) hm
        rw [← hr, h9]
      intro c6
      have hm : ¬ aHc (rP Z q) (fun x => Y (i + 15) x) (fun e => mHas a e) (fun x y : Nat => decide (x < y)) un (Z q 27).toNat = -1 := fun g => by
        unfold fvN at fu
        rw [if_pos g] at fu
        omega
      unfold fvN at fu
      rw [if_neg hm] at fu
      refine ⟨?_, ?_⟩
      · first | omega | exact ⟨by omega, by omega⟩ | decide | assumption | exact ⟨by omega, by omega, by omega⟩ | exact ⟨by decide, by decide⟩
      refine ⟨?_, ?_⟩
      · first | omega | exact ⟨by omega, by omega⟩ | decide | assumption | exact ⟨by omega, by omega, by omega⟩ | exact ⟨by decide, by decide⟩
      refine ⟨?_, ?_⟩
      · have h9 := aTw_2 (hc := fun y => aHc (rP Z q) (fun x => Y (i + 15) x) (fun e => mHas a e) (fun x y : Nat => decide (x < y)) y (Z q 27).toNat) (n := (Z q 27).toNat) (a := un) (fun _ _ => aHc_b _) (by omega) hm
        refine ⟨by omega, ?_⟩
        rw [← hr, h9, fu]
      first | omega | exact ⟨by omega, by omega⟩ | decide | assumption | exact ⟨by omega, by omega, by omega⟩ | exact ⟨by decide, by decide⟩
    intro c7
    have kl : (kn : Int) < Z q 27 := by omega
    have es : ((kn : Int) + 1).toNat = kn + 1 := by omega
    have hpk := vZ_P hq.1.1.1 (show 1 ≤ kn by omega) kl
    have hx : X5 (i + 9) kn = rP Z q kn := by rw [fo (i + 9) (by omega)]; exact (cA_p hq (by omega) kl).1
    have hfp := fk (rP Z q kn) (by omega)
    have hb := aHc_b (P := rP Z q) (sb := fun x => Y (i + 15) x) (w := fun e => mHas a e) (ah := (fun x y : Nat => decide (x < y))) (at_ := rP Z q kn) kn
    have hcb : cbC (rP Z q) (fun x => Y (i + 15) x) (fun e => mHas a e) (fun x y : Nat => decide (x < y)) kn = (mHas a kn && (decide ((aHc (rP Z q) (fun x => Y (i + 15) x) (fun e => mHas a e) (fun x y : Nat => decide (x < y)) (rP Z q kn) kn) = -1) || decide (Y (i + 15) ((aHc (rP Z q) (fun x => Y (i + 15) x) (fun e => mHas a e) (fun x y : Nat => decide (x < y)) (rP Z q kn) kn).toNat : Nat) < Y (i + 15) kn) || (decide (Y (i + 15) kn = Y (i + 15) ((aHc (rP Z q) (fun x => Y (i + 15) x) (fun e => mHas a e) (fun x y : Nat => decide (x < y)) (rP Z q kn) kn).toNat : Nat)) && decide (kn < (aHc (rP Z q) (fun x => Y (i + 15) x) (fun e => mHas a e) (fun x y : Nat => decide (x < y)) (rP Z q kn) kn).toNat)))) := rfl
    refine ⟨?_, ?_⟩
    · first | omega | exact ⟨by omega, by omega⟩ | decide | assumption | exact ⟨by omega, by omega, by omega⟩ | exact ⟨by decide, by decide⟩
    refine ⟨?_, ?_⟩
    · rw [hx]
      omega
    refine ⟨?_, ?_⟩
    · intro c8
      have c8 := has_1.mpr c8
      refine ⟨?_, ?_⟩
      · intro c9
        have hm : (aHc (rP Z q) (fun x => Y (i + 15) x) (fun e => mHas a e) (fun x y : Nat => decide (x < y)) (rP Z q kn) kn) = -1 := by
          by_cases g : (aHc (rP Z q) (fun x => Y (i + 15) x) (fun e => mHas a e) (fun x y : Nat => decide (x < y)) (rP Z q kn) kn) = -1
          · exact g
          · unfold fvN at hfp
            rw [if_neg g] at hfp
            rw [hx] at c9
            omega
        refine ⟨?_, ?_⟩
        · rw [hx]
          omega
        intro X18
        intro eX18
        intro rX18
        refine ⟨?_, ?_⟩
        · first | omega | exact ⟨by omega, by omega⟩ | decide | assumption | exact ⟨by omega, by omega, by omega⟩ | exact ⟨by decide, by decide⟩
        refine ⟨?_, ?_⟩
        · refine ⟨by omega, fun z hz => by rw [eX18, zU_o hz]; exact fo z hz, fun e he => ?_⟩
          rw [eX18, hx, zU_up, es]
          exact cb_y (n := (Z q 27).toNat) hpk (by rw [hcb, c8, decide_eq_true hm]; rfl) (fun e he => fk e (by omega)) e (by omega)
        first | omega | exact ⟨by omega, by omega⟩ | decide | assumption | exact ⟨by omega, by omega, by omega⟩ | exact ⟨by decide, by decide⟩
      intro c10
      have hm : ¬ (aHc (rP Z q) (fun x => Y (i + 15) x) (fun e => mHas a e) (fun x y : Nat => decide (x < y)) (rP Z q kn) kn) = -1 := fun g => by
        unfold fvN at hfp
        rw [if_pos g] at hfp
        exact c10 (by rw [hx]; exact hfp)
      unfold fvN at hfp
      rw [if_neg hm] at hfp
      have hov : X5 (i + 16) (X5 (i + 9) kn) = ((aHc (rP Z q) (fun x => Y (i + 15) x) (fun e => mHas a e) (fun x y : Nat => decide (x < y)) (rP Z q kn) kn).toNat : Nat) := by rw [hx, hfp]; omega
      refine ⟨?_, ?_⟩
      · first | omega | exact ⟨by omega, by omega⟩ | decide | assumption | exact ⟨by omega, by omega, by omega⟩ | exact ⟨by decide, by decide⟩
      refine ⟨?_, ?_⟩
      · rw [hov]
        omega
      refine ⟨?_, ?_⟩
      · intro c11
        rw [hov] at c11
        refine ⟨?_, ?_⟩
        · rw [hx]
          omega
        intro X24
        intro eX24
        intro rX24
        refine ⟨?_, ?_⟩
        · first | omega | exact ⟨by omega, by omega⟩ | decide | assumption | exact ⟨by omega, by omega, by omega⟩ | exact ⟨by decide, by decide⟩
        refine ⟨?_, ?_⟩
        · refine ⟨by omega, fun z hz => by rw [eX24, zU_o hz]; exact fo z hz, fun e he => ?_⟩
          rw [eX24, hx, zU_up, es]
          exact cb_y (n := (Z q 27).toNat) hpk (by rw [hcb, c8, decide_eq_true c11, Bool.or_true]; rfl) (fun e he => fk e (by omega)) e (by omega)
        first | omega | exact ⟨by omega, by omega⟩ | decide | assumption | exact ⟨by omega, by omega, by omega⟩ | exact ⟨by decide, by decide⟩
      intro c12
      rw [hov] at c12
      refine ⟨?_, ?_⟩
      · first | omega | exact ⟨by omega, by omega⟩ | decide | assumption | exact ⟨by omega, by omega, by omega⟩ | exact ⟨by decide, by decide⟩
      refine ⟨?_, ?_⟩
      · rw [hov]
        omega
      refine ⟨?_, ?_⟩
      · intro c13
        rw [hov] at c13
        refine ⟨?_, ?_⟩
        · first | omega | exact ⟨by omega, by omega⟩ | decide | assumption | exact ⟨by omega, by omega, by omega⟩ | exact ⟨by decide, by decide⟩
        refine ⟨?_, ?_⟩
        · refine ⟨by omega, fo, fun e he => ?_⟩
          rw [es]
          exact cb_n (n := (Z q 27).toNat) hpk (by rw [hcb, decide_eq_false hm, decide_eq_false c12, decide_eq_false c13]; exact Bool.and_false _) (fun e he => fk e (by omega)) e (by omega)
        first | omega | exact ⟨by omega, by omega⟩ | decide | assumption | exact ⟨by omega, by omega, by omega⟩ | exact ⟨by decide, by decide⟩
      intro c14
      rw [hov] at c14
      have c14 := Classical.not_not.mp c14
      refine ⟨?_, ?_⟩
      · first | omega | exact ⟨by omega, by omega⟩ | decide | assumption | exact ⟨by omega, by omega, by omega⟩ | exact ⟨by decide, by decide⟩
      refine ⟨?_, ?_⟩
      · rw [hov]
        omega
      refine ⟨?_, ?_⟩
      · intro c15
        rw [hov] at c15
        refine ⟨?_, ?_⟩
        · first | omega | exact ⟨by omega, by omega⟩ | decide | assumption | exact ⟨by omega, by omega, by omega⟩ | exact ⟨by decide, by decide⟩
        refine ⟨?_, ?_⟩
        · refine ⟨by omega, fo, fun e he => ?_⟩
          rw [es]
          exact cb_n (n := (Z q 27).toNat) hpk (by rw [hcb, decide_eq_false hm, decide_eq_false c12, decide_eq_false (show ¬ (kn < (aHc (rP Z q) (fun x => Y (i + 15) x) (fun e => mHas a e) (fun x y : Nat => decide (x < y)) (rP Z q kn) kn).toNat) by omega), Bool.and_false]; exact Bool.and_false _) (fun e he => fk e (by omega)) e (by omega)
        first | omega | exact ⟨by omega, by omega⟩ | decide | assumption | exact ⟨by omega, by omega, by omega⟩ | exact ⟨by decide, by decide⟩
      intro c16
      rw [hov] at c16
      refine ⟨?_, ?_⟩
      · rw [hx]
        omega
      intro X35
      intro eX35
      intro rX35
      refine ⟨?_, ?_⟩
      · first | omega | exact ⟨by omega, by omega⟩ | decide | assumption | exact ⟨by omega, by omega, by omega⟩ | exact ⟨by decide, by decide⟩
      refine ⟨?_, ?_⟩
      · refine ⟨by omega, fun z hz => by rw [eX35, zU_o hz]; exact fo z hz, fun e he => ?_⟩
        rw [eX35, hx, zU_up, es]
        exact cb_y (n := (Z q 27).toNat) hpk (by rw [hcb, c8, decide_eq_true c14, decide_eq_true (show kn < (aHc (rP Z q) (fun x => Y (i + 15) x) (fun e => mHas a e) (fun x y : Nat => decide (x < y)) (rP Z q kn) kn).toNat by omega), Bool.and_true, Bool.or_true]; rfl) (fun e he => fk e (by omega)) e (by omega)
      first | omega | exact ⟨by omega, by omega⟩ | decide | assumption | exact ⟨by omega, by omega, by omega⟩ | exact ⟨by decide, by decide⟩
    intro c17
    have c17 := has_0.mpr (Classical.not_not.mp c17)
    refine ⟨?_, ?_⟩
    · first | omega | exact ⟨by omega, by omega⟩ | decide | assumption | exact ⟨by omega, by omega, by omega⟩ | exact ⟨by decide, by decide⟩
    refine ⟨?_, ?_⟩
    · refine ⟨by omega, fo, fun e he => ?_⟩
      rw [es]
      exact cb_n (n := (Z q 27).toNat) hpk (by rw [hcb, c17]; rfl) (fun e he => fk e (by omega)) e (by omega)
    first | omega | exact ⟨by omega, by omega⟩ | decide | assumption | exact ⟨by omega, by omega, by omega⟩ | exact ⟨by decide, by decide⟩
  intro c18
  have kl : (kn : Int) < Z q 27 := by omega
  have es : ((kn : Int) + 1).toNat = kn + 1 := by omega
  refine ⟨?_, ?_⟩
  · first | omega | exact ⟨by omega, by omega⟩ | decide | assumption | exact ⟨by omega, by omega, by omega⟩ | exact ⟨by decide, by decide⟩
  intro X39
  intro eX39
  intro rX39
  refine ⟨?_, ?_⟩
  · first | omega | exact ⟨by omega, by omega⟩ | decide | assumption | exact ⟨by omega, by omega, by omega⟩ | exact ⟨by decide, by decide⟩
  refine ⟨?_, ?_⟩
  · refine ⟨by omega, fun z hz => by rw [eX39, zU_o hz]; exact fo z hz, fun e he => ?_⟩
    rw [eX39, zU_up]
    unfold upI
    by_cases g : (e : Int) = kn
    · rw [if_pos g]
    · rw [if_neg g]
      exact fk e (by omega)
  first | omega | exact ⟨by omega, by omega⟩ | decide | assumption | exact ⟨by omega, by omega, by omega⟩ | exact ⟨by decide, by decide⟩
theorem c_X1_chosenByChildrenS {l : Launch} {D : va_G} {cy : Nat → ClassId} {bs N : Nat} {sa : Nat → Nat} {kd len : Nat → Nat} {X Y : Nat → Int → Int} {R : Nat → Int → Option Nat} {i : Nat} {Z : Nat → Int → Int} {q : Nat} (hC : zChart N kd len R i) (a : Int) (ha : rI a) (hp : cA Z q X Y R i) : Met l yX1_chosenByChildren (.code yX1_chosenByChildren cX1_chosenByChildren 6 (some .int) :: zTB) (zRm 0 0) (zPc D cy bs sa N kd len X Y R [.ref (bs + (i)), .int (zI (a)), .ref (sa 0)]) (zQi D cy bs N kd len (fun r st => st.2.1 = Y ∧ st.2.2 = R ∧ (r = ((aTw (fun y => aHc (rP Z q) (fun x => Y (i + 15) x) (fun e => mHas (a) e) (fun x y : Nat => decide (x < y)) y (Z q 27).toNat) (Z q 27).toNat 0 : Nat) : Int) ∧ (∀ z, z ≠ i + 16 → (st.1) z = X z) ∧ ∀ e : Nat, (e : Int) < Z q 27 → (st.1) (i + 16) e = fvN (aHc (rP Z q) (fun x => Y (i + 15) x) (fun e => mHas (a) e) (fun x y : Nat => decide (x < y)) e (Z q 27).toNat)))) 0 0 (zA bs) := w_X1_chosenByChildrenS hC a ha (v_X1_chosenByChildrenS a ha hp)
abbrev cX1_choose : ByteArray := prog_3_method_15_code
def yX1_choose : MethodName := ⟨RX1, "choose", "(II[I)I"⟩
theorem dX1_choose_0 : decode cX1_choose 0 = .ok (.aload_n 3, 1) := by decide +kernel
theorem dX1_choose_1 : decode cX1_choose 1 = .ok (.arraylength, 1) := by decide +kernel
theorem dX1_choose_2 : decode cX1_choose 2 = .ok (.bipush 15, 2) := by decide +kernel
theorem dX1_choose_4 : decode cX1_choose 4 = .ok (.if_icmp .ge 5, 3) := by decide +kernel
theorem dX1_choose_7 : decode cX1_choose 7 = .ok (.iconst 0, 1) := by decide +kernel
theorem dX1_choose_8 : decode cX1_choose 8 = .ok (.ireturn, 1) := by decide +kernel
theorem dX1_choose_9 : decode cX1_choose 9 = .ok (.iload_n 2, 1) := by decide +kernel
theorem dX1_choose_10 : decode cX1_choose 10 = .ok (.ifCond .ne 10, 3) := by decide +kernel
theorem dX1_choose_13 : decode cX1_choose 13 = .ok (.aload_n 0, 1) := by decide +kernel
theorem dX1_choose_14 : decode cX1_choose 14 = .ok (.iload_n 1, 1) := by decide +kernel
theorem dX1_choose_15 : decode cX1_choose 15 = .ok (.aload_n 3, 1) := by decide +kernel
theorem dX1_choose_16 : decode cX1_choose 16 = .ok (.invokevirtual 145, 3) := by decide +kernel
theorem dX1_choose_19 : decode cX1_choose 19 = .ok (.ireturn, 1) := by decide +kernel
theorem dX1_choose_20 : decode cX1_choose 20 = .ok (.aload_n 0, 1) := by decide +kernel
theorem dX1_choose_21 : decode cX1_choose 21 = .ok (.iload_n 1, 1) := by decide +kernel
theorem dX1_choose_22 : decode cX1_choose 22 = .ok (.invokevirtual 131, 3) := by decide +kernel
theorem dX1_choose_25 : decode cX1_choose 25 = .ok (.aload_n 0, 1) := by decide +kernel
theorem dX1_choose_26 : decode cX1_choose 26 = .ok (.iload_n 1, 1) := by decide +kernel
theorem dX1_choose_27 : decode cX1_choose 27 = .ok (.aload_n 3, 1) := by decide +kernel
theorem dX1_choose_28 : decode cX1_choose 28 = .ok (.invokevirtual 149, 3) := by decide +kernel
theorem dX1_choose_31 : decode cX1_choose 31 = .ok (.ireturn, 1) := by decide +kernel
theorem q_992 : Cond.methodLink RX1 149 yX1_chosenByChildren ∈ zTB := zmem 992 (by decide +kernel) rfl
theorem q_994 : Cond.instanceMethod yX1_chosenByChildren ∈ zTB := zmem 994 (by decide +kernel) rfl
theorem q_20 : Cond.selects RX1 yX1_chosenByChildren yX1_chosenByChildren ∈ zTB := zmem 20 (by decide +kernel) rfl
theorem q_995 : Cond.code yX1_chosenByChildren cX1_chosenByChildren 6 (some .int) ∈ zTB := zmem 995 (by decide +kernel) rfl
theorem k_RX1_149 : zLv RX1 149 RX1 yX1_chosenByChildren cX1_chosenByChildren 6 (some .int) 2 := ⟨⟨q_992, q_994, q_20, q_135, q_995⟩, rfl, ⟨by decide, by decide⟩, by decide +kernel⟩
theorem q_984 : Cond.methodLink RX1 145 yX1_heaviest ∈ zTB := zmem 984 (by decide +kernel) rfl
theorem q_986 : Cond.instanceMethod yX1_heaviest ∈ zTB := zmem 986 (by decide +kernel) rfl
theorem q_18 : Cond.selects RX1 yX1_heaviest yX1_heaviest ∈ zTB := zmem 18 (by decide +kernel) rfl
theorem q_987 : Cond.code yX1_heaviest cX1_heaviest 5 (some .int) ∈ zTB := zmem 987 (by decide +kernel) rfl
theorem k_RX1_145 : zLv RX1 145 RX1 yX1_heaviest cX1_heaviest 5 (some .int) 2 := ⟨⟨q_984, q_986, q_18, q_135, q_987⟩, rfl, ⟨by decide, by decide⟩, by decide +kernel⟩
def F_X1_choose (i : Nat) (Z : Nat → Int → Int) (q : Nat) (j : Nat) (X Y : Nat → Int → Int) (R : Nat → Int → Option Nat) (a : Int) (b : Int) : Prop := (∀ i j, rI (X i j)) → (∀ i j, rL (Y i j)) → ((15 ≤ ((15 : Nat) : Int)) → (((¬ b = 0) → ((cA Z q X Y R i ∧ clF Z q (a)) ∧ (∀ Y4 : Nat → Int → Int, (∀ i j, rL (Y4 i j)) → ((∀ z, z ≠ i + 15 → (Y4) z = Y z) ∧ ∀ k : Nat, (k : Int) < Z q 27 → (Y4) (i + 15) k = finF Z q (a) k) → ((cA Z q X Y4 R i ∧ j ≠ i + 16 ∧ j ≠ i) ∧ (∀ r7 : Int, rI r7 → ∀ X6 : Nat → Int → Int, (∀ i j, rI (X6 i j)) → (r7 = ((aTw (fun y => aHc (rP Z q) (fun x => Y4 (i + 15) x) (fun e => mHas (a) e) (fun x y : Nat => decide (X j x < X j y)) y (Z q 27).toNat) (Z q 27).toNat 0 : Nat) : Int) ∧ (∀ z, z ≠ i + 16 → (X6) z = X z) ∧ ∀ e : Nat, (e : Int) < Z q 27 → (X6) (i + 16) e = fvN (aHc (rP Z q) (fun x => Y4 (i + 15) x) (fun e => mHas (a) e) (fun x y : Nat => decide (X j x < X j y)) e (Z q 27).toNat)) → (r7 = ((sTip (b) (rP Z q) (rW Z q) (rG Z q) (fun e => mHas (a) e) (fun x y : Nat => decide (X j x < X j y)) (Z q 27).toNat : Nat) : Int) ∧ fvK X (X6) Y (Y4) i)))))) ∧ ((¬ (¬ b = 0)) → ((cA Z q X Y R i ∧ j ≠ i + 16 ∧ j ≠ i) ∧ (rI (((aHv (rG Z q) (fun e => mHas (a) e) (fun x y : Nat => decide (X j x < X j y)) (Z q 27).toNat : Nat) : Int)) → (((aHv (rG Z q) (fun e => mHas (a) e) (fun x y : Nat => decide (X j x < X j y)) (Z q 27).toNat : Nat) : Int) = ((sTip (b) (rP Z q) (rW Z q) (rG Z q) (fun e => mHas (a) e) (fun x y : Nat => decide (X j x < X j y)) (Z q 27).toNat : Nat) : Int) ∧ fvK X (X) Y (Y) i)))))) ∧ ((¬ (15 ≤ ((15 : Nat) : Int))) → (0 = ((sTip (b) (rP Z q) (rW Z q) (rG Z q) (fun e => mHas (a) e) (fun x y : Nat => decide (X j x < X j y)) (Z q 27).toNat : Nat) : Int) ∧ fvK X (X) Y (Y) i))
set_option maxHeartbeats 4000000 in
set_option maxRecDepth 100000 in
theorem w_X1_choose {l : Launch} {D : va_G} {cy : Nat → ClassId} {bs N : Nat} {sa : Nat → Nat} {kd len : Nat → Nat} {X Y : Nat → Int → Int} {R : Nat → Int → Option Nat} {i : Nat} {Z : Nat → Int → Int} {q : Nat} (hC : zChart N kd len R i) {j : Nat} (hj : j < N ∧ kd j = 13 ∧ len j = 15) (a : Int) (ha : rI a) (b : Int) (hb : rI b) (hF : F_X1_choose i Z q j X Y R a b) : Met l yX1_choose (.code yX1_choose cX1_choose 4 (some .int) :: zTB) (zRm 1 25) (zPc D cy bs sa N kd len X Y R [.ref (bs + (i)), .int (zI (a)), .int (zI (b)), .ref (bs + (j))]) (zQi D cy bs N kd len (fun r st => st.2.2 = R ∧ (r = ((sTip (b) (rP Z q) (rW Z q) (rG Z q) (fun e => mHas (a) e) (fun x y : Nat => decide (X j x < X j y)) (Z q 27).toNat : Nat) : Int) ∧ fvK X (st.1) Y (st.2.1) i))) 0 0 (zA bs) := by
  refine zstart (by decide) (Nat.le_of_ble_eq_true rfl) ?_
  intro p e s m args below meth c ls C hE hH hr hlk hnm hl hargs
  have hF := hF hH.2.2.1 hH.2.2.2
  have hS : va_S (zA bs) s.heap s.heap [] := va_S.rf
  have hl : lv_has ls 4 [(0, .ref (bs + (i))), (1, .int (zI (a))), (2, .int (zI (b))), (3, .ref (bs + (j)))] := hl
  refine lv_aload_n C.1 C.2.1 dX1_choose_0 rfl (lv_at hl 3 rfl) ?_
  refine zd_alen C hH hj.1 (t0 := 1) (by rw [hj.2.1]; rfl) rfl rfl dX1_choose_1 ?_
  rw [hj.2.2]
  refine zd_bipush C (by decide) dX1_choose_2 ?_
  refine zd_icmp_ge C (by decide) (by decide) 9 dX1_choose_4 (by decide) (fun c1 => ?_) (fun c1 => ?_)
  · have hF := hF.1 c1
    refine lv_iload_n C.1 C.2.1 dX1_choose_9 rfl (lv_at hl 2 rfl) ?_
    refine zd_if_ne C hb 20 dX1_choose_10 (by decide) (fun c2 => ?_) (fun c2 => ?_)
    · have hF := hF.1 c2
      refine lv_aload_n C.1 C.2.1 dX1_choose_20 rfl (lv_at hl 0 rfl) ?_
      refine lv_iload_n C.1 C.2.1 dX1_choose_21 rfl (lv_at hl 1 rfl) ?_
      obtain ⟨o3, hF⟩ := hF
      refine zgov (zrunV (As := [.int (zI (a))]) (rest := []) C hE hH hS hl.1 (c_X1_sumUp (l := l) hC (a) ha o3) k_RX1_131 ⟨Nat.le_of_ble_eq_true rfl, Nat.le_of_ble_eq_true rfl⟩ (zChart_n0 hC) (zChart_k0 hC) rfl rfl rfl (Nat.le_of_ble_eq_true rfl) dX1_choose_22 ⟨Nat.zero_le _, Nat.zero_le _⟩) hS (fun Xq Y4 Rq H locs hq hH hS => ?_)
      obtain ⟨h9X, h9R, hq⟩ := hq
      dsimp only at h9X h9R
      rw [h9X, h9R] at hH
      have hF := hF Y4 hH.2.2.2 hq
      refine lv_aload_n C.1 C.2.1 dX1_choose_25 rfl (lv_at hl 0 rfl) ?_
      refine lv_iload_n C.1 C.2.1 dX1_choose_26 rfl (lv_at hl 1 rfl) ?_
      refine lv_aload_n C.1 C.2.1 dX1_choose_27 rfl (lv_at hl 3 rfl) ?_
      obtain ⟨o5, hF⟩ := hF
      refine zgoi (zrunV (As := [.int (zI (a)), .ref (bs + (j))]) (rest := []) C hE hH hS hl.1 (c_X1_chosenByChildren (l := l) hC ⟨hj.1, hj.2.1, hj.2.2⟩ (a) ha o5) k_RX1_149 ⟨Nat.le_of_ble_eq_true rfl, Nat.le_of_ble_eq_true rfl⟩ (zChart_n0 hC) (zChart_k0 hC) rfl rfl rfl (Nat.le_of_ble_eq_true rfl) dX1_choose_28 ⟨Nat.zero_le _, Nat.zero_le _⟩) hS (fun r7 X6 Yq Rq H locs hrq hq hH hS => ?_)
      obtain ⟨h9Y, h9R, hq⟩ := hq
      dsimp only at h9Y h9R
      rw [h9Y, h9R] at hH
      have hr7 := hrq
      have hF := hF r7 hrq X6 hH.2.2.1 hq
      exact zd_iret C hr hlk hH hS hr7 (⟨rfl, hF⟩) dX1_choose_31
    · have hF := hF.2 c2
      refine lv_aload_n C.1 C.2.1 dX1_choose_13 rfl (lv_at hl 0 rfl) ?_
      refine lv_iload_n C.1 C.2.1 dX1_choose_14 rfl (lv_at hl 1 rfl) ?_
      refine lv_aload_n C.1 C.2.1 dX1_choose_15 rfl (lv_at hl 3 rfl) ?_
      obtain ⟨o8, hF⟩ := hF
      refine zgoi (zrunV (As := [.int (zI (a)), .ref (bs + (j))]) (rest := []) C hE hH hS hl.1 (c_X1_heaviest (l := l) hC ⟨hj.1, hj.2.1, hj.2.2⟩ (a) ha o8) k_RX1_145 ⟨Nat.le_of_ble_eq_true rfl, Nat.le_of_ble_eq_true rfl⟩ (zChart_n0 hC) (zChart_k0 hC) rfl rfl rfl (Nat.le_of_ble_eq_true rfl) dX1_choose_16 ⟨Nat.zero_le _, Nat.zero_le _⟩) hS (fun rq Xq Yq Rq H locs hrq hq hH hS => ?_)
      obtain ⟨h91, h92⟩ := hq
      have h93 : Xq = X := congrArg (fun z => z.1) h92
      have h94 : Yq = Y := congrArg (fun z => z.2.1) h92
      have h95 : Rq = R := congrArg (fun z => z.2.2) h92
      rw [h93, h94, h95] at hH
      subst h91
      have hr9 := hrq
      have hF := hF hr9
      exact zd_iret C hr hlk hH hS hr9 (⟨rfl, hF⟩) dX1_choose_19
  · have hF := hF.2 c1
    refine zd_iconst C dX1_choose_7 ?_
    exact zd_iret C hr hlk hH hS (by decide) (⟨rfl, hF⟩) dX1_choose_8
theorem v_X1_choose {X Y : Nat → Int → Int} {R : Nat → Int → Option Nat} {i : Nat} {Z : Nat → Int → Int} {q : Nat} {j : Nat} (a : Int) (ha : rI a) (b : Int) (hb : rI b) (hp : cA Z q X Y R i ∧ clF Z q (a) ∧ j ≠ i + 16 ∧ j ≠ i) : F_X1_choose i Z q j X Y R a b := by
  unfold F_X1_choose
  intro hX hY
  obtain ⟨hq, hcl, hj⟩ := hp
  obtain ⟨l27, r27, e27⟩ := cA_l hq
  refine ⟨?_, ?_⟩
  · intro c1
    refine ⟨?_, ?_⟩
    · intro c2
      refine ⟨?_, ?_⟩
      · exact ⟨hq, hcl⟩
      intro Y4
      intro rY4
      intro h1
      refine ⟨?_, ?_⟩
      · exact ⟨cA_k (X1 := X) ⟨fun _ _ => rfl, h1.1⟩ hq, hj⟩
      intro r7
      intro _
      intro X6
      intro rX6
      intro h2
      refine ⟨?_, fun z hz => h2.2.1 z hz, h1.1⟩
      rw [h2.1]
      unfold sTip
      rw [if_neg c2]
      congr 1
      refine aTw_cong (fun a _ => aHc_b _) (fun e _ => aHc_cw _ (fun k hk hw => ?_)) _ _ (by omega)
      have g := h1.2 k (by omega)
      have hw : mHas a k = true := hw
      unfold finF at g
      rw [if_pos hw] at g
      exact g
    intro c3
    refine ⟨?_, ?_⟩
    · exact ⟨hq, hj⟩
    intro _
    exact ⟨by unfold sTip; rw [if_pos (Classical.not_not.mp c3)], fvK.rf⟩
  intro c4
  exact absurd c4 (by decide)
theorem c_X1_choose {l : Launch} {D : va_G} {cy : Nat → ClassId} {bs N : Nat} {sa : Nat → Nat} {kd len : Nat → Nat} {X Y : Nat → Int → Int} {R : Nat → Int → Option Nat} {i : Nat} {Z : Nat → Int → Int} {q : Nat} (hC : zChart N kd len R i) {j : Nat} (hj : j < N ∧ kd j = 13 ∧ len j = 15) (a : Int) (ha : rI a) (b : Int) (hb : rI b) (hp : cA Z q X Y R i ∧ clF Z q (a) ∧ j ≠ i + 16 ∧ j ≠ i) : Met l yX1_choose (.code yX1_choose cX1_choose 4 (some .int) :: zTB) (zRm 1 25) (zPc D cy bs sa N kd len X Y R [.ref (bs + (i)), .int (zI (a)), .int (zI (b)), .ref (bs + (j))]) (zQi D cy bs N kd len (fun r st => st.2.2 = R ∧ (r = ((sTip (b) (rP Z q) (rW Z q) (rG Z q) (fun e => mHas (a) e) (fun x y : Nat => decide (X j x < X j y)) (Z q 27).toNat : Nat) : Int) ∧ fvK X (st.1) Y (st.2.1) i))) 0 0 (zA bs) := w_X1_choose hC hj a ha b hb (v_X1_choose a ha b hb hp)
def F_X1_chooseS (i : Nat) (Z : Nat → Int → Int) (q : Nat) (X Y : Nat → Int → Int) (R : Nat → Int → Option Nat) (a : Int) (b : Int) : Prop := (∀ i j, rI (X i j)) → (∀ i j, rL (Y i j)) → ((¬ b = 0) → ((cA Z q X Y R i ∧ clF Z q (a)) ∧ (∀ Y4 : Nat → Int → Int, (∀ i j, rL (Y4 i j)) → ((∀ z, z ≠ i + 15 → (Y4) z = Y z) ∧ ∀ k : Nat, (k : Int) < Z q 27 → (Y4) (i + 15) k = finF Z q (a) k) → ((cA Z q X Y4 R i) ∧ (∀ r7 : Int, rI r7 → ∀ X6 : Nat → Int → Int, (∀ i j, rI (X6 i j)) → (r7 = ((aTw (fun y => aHc (rP Z q) (fun x => Y4 (i + 15) x) (fun e => mHas (a) e) (fun x y : Nat => decide (x < y)) y (Z q 27).toNat) (Z q 27).toNat 0 : Nat) : Int) ∧ (∀ z, z ≠ i + 16 → (X6) z = X z) ∧ ∀ e : Nat, (e : Int) < Z q 27 → (X6) (i + 16) e = fvN (aHc (rP Z q) (fun x => Y4 (i + 15) x) (fun e => mHas (a) e) (fun x y : Nat => decide (x < y)) e (Z q 27).toNat)) → (r7 = ((sTip (b) (rP Z q) (rW Z q) (rG Z q) (fun e => mHas (a) e) (fun x y : Nat => decide (x < y)) (Z q 27).toNat : Nat) : Int) ∧ fvK X (X6) Y (Y4) i)))))) ∧ ((¬ (¬ b = 0)) → ((cA Z q X Y R i) ∧ (rI (((aHv (rG Z q) (fun e => mHas (a) e) (fun x y : Nat => decide (x < y)) (Z q 27).toNat : Nat) : Int)) → (((aHv (rG Z q) (fun e => mHas (a) e) (fun x y : Nat => decide (x < y)) (Z q 27).toNat : Nat) : Int) = ((sTip (b) (rP Z q) (rW Z q) (rG Z q) (fun e => mHas (a) e) (fun x y : Nat => decide (x < y)) (Z q 27).toNat : Nat) : Int) ∧ fvK X (X) Y (Y) i))))
set_option maxHeartbeats 4000000 in
set_option maxRecDepth 100000 in
theorem w_X1_chooseS {l : Launch} {D : va_G} {cy : Nat → ClassId} {bs N : Nat} {sa : Nat → Nat} {kd len : Nat → Nat} {X Y : Nat → Int → Int} {R : Nat → Int → Option Nat} {i : Nat} {Z : Nat → Int → Int} {q : Nat} (hC : zChart N kd len R i) (a : Int) (ha : rI a) (b : Int) (hb : rI b) (hF : F_X1_chooseS i Z q X Y R a b) : Met l yX1_choose (.code yX1_choose cX1_choose 4 (some .int) :: zTB) (zRm 1 25) (zPc D cy bs sa N kd len X Y R [.ref (bs + (i)), .int (zI (a)), .int (zI (b)), .ref (sa 0)]) (zQi D cy bs N kd len (fun r st => st.2.2 = R ∧ (r = ((sTip (b) (rP Z q) (rW Z q) (rG Z q) (fun e => mHas (a) e) (fun x y : Nat => decide (x < y)) (Z q 27).toNat : Nat) : Int) ∧ fvK X (st.1) Y (st.2.1) i))) 0 0 (zA bs) := by
  refine zstart (by decide) (Nat.le_of_ble_eq_true rfl) ?_
  intro p e s m args below meth c ls C hE hH hr hlk hnm hl hargs
  have hF := hF hH.2.2.1 hH.2.2.2
  have hS : va_S (zA bs) s.heap s.heap [] := va_S.rf
  have hl : lv_has ls 4 [(0, .ref (bs + (i))), (1, .int (zI (a))), (2, .int (zI (b))), (3, .ref (sa 0))] := hl
  refine lv_aload_n C.1 C.2.1 dX1_choose_0 rfl (lv_at hl 3 rfl) ?_
  refine zd_tlen C hS hE.2.2.1.1 dX1_choose_1 ?_
  refine zd_bipush C (by decide) dX1_choose_2 ?_
  refine zd_icmp_ge C (by decide) (by decide) 9 dX1_choose_4 (by decide) (fun c1 => ?_) (fun c1 => ?_)
  · refine lv_iload_n C.1 C.2.1 dX1_choose_9 rfl (lv_at hl 2 rfl) ?_
    refine zd_if_ne C hb 20 dX1_choose_10 (by decide) (fun c2 => ?_) (fun c2 => ?_)
    · have hF := hF.1 c2
      refine lv_aload_n C.1 C.2.1 dX1_choose_20 rfl (lv_at hl 0 rfl) ?_
      refine lv_iload_n C.1 C.2.1 dX1_choose_21 rfl (lv_at hl 1 rfl) ?_
      obtain ⟨o3, hF⟩ := hF
      refine zgov (zrunV (As := [.int (zI (a))]) (rest := []) C hE hH hS hl.1 (c_X1_sumUp (l := l) hC (a) ha o3) k_RX1_131 ⟨Nat.le_of_ble_eq_true rfl, Nat.le_of_ble_eq_true rfl⟩ (zChart_n0 hC) (zChart_k0 hC) rfl rfl rfl (Nat.le_of_ble_eq_true rfl) dX1_choose_22 ⟨Nat.zero_le _, Nat.zero_le _⟩) hS (fun Xq Y4 Rq H locs hq hH hS => ?_)
      obtain ⟨h9X, h9R, hq⟩ := hq
      dsimp only at h9X h9R
      rw [h9X, h9R] at hH
      have hF := hF Y4 hH.2.2.2 hq
      refine lv_aload_n C.1 C.2.1 dX1_choose_25 rfl (lv_at hl 0 rfl) ?_
      refine lv_iload_n C.1 C.2.1 dX1_choose_26 rfl (lv_at hl 1 rfl) ?_
      refine lv_aload_n C.1 C.2.1 dX1_choose_27 rfl (lv_at hl 3 rfl) ?_
      obtain ⟨o5, hF⟩ := hF
      refine zgoi (zrunV (As := [.int (zI (a)), .ref (sa 0)]) (rest := []) C hE hH hS hl.1 (c_X1_chosenByChildrenS (l := l) hC (a) ha o5) k_RX1_149 ⟨Nat.le_of_ble_eq_true rfl, Nat.le_of_ble_eq_true rfl⟩ (zChart_n0 hC) (zChart_k0 hC) rfl rfl rfl (Nat.le_of_ble_eq_true rfl) dX1_choose_28 ⟨Nat.zero_le _, Nat.zero_le _⟩) hS (fun r7 X6 Yq Rq H locs hrq hq hH hS => ?_)
      obtain ⟨h9Y, h9R, hq⟩ := hq
      dsimp only at h9Y h9R
      rw [h9Y, h9R] at hH
      have hr7 := hrq
      have hF := hF r7 hrq X6 hH.2.2.1 hq
      exact zd_iret C hr hlk hH hS hr7 (⟨rfl, hF⟩) dX1_choose_31
    · have hF := hF.2 c2
      refine lv_aload_n C.1 C.2.1 dX1_choose_13 rfl (lv_at hl 0 rfl) ?_
      refine lv_iload_n C.1 C.2.1 dX1_choose_14 rfl (lv_at hl 1 rfl) ?_
      refine lv_aload_n C.1 C.2.1 dX1_choose_15 rfl (lv_at hl 3 rfl) ?_
      obtain ⟨o8, hF⟩ := hF
      refine zgoi (zrunV (As := [.int (zI (a)), .ref (sa 0)]) (rest := []) C hE hH hS hl.1 (c_X1_heaviestS (l := l) hC (a) ha o8) k_RX1_145 ⟨Nat.le_of_ble_eq_true rfl, Nat.le_of_ble_eq_true rfl⟩ (zChart_n0 hC) (zChart_k0 hC) rfl rfl rfl (Nat.le_of_ble_eq_true rfl) dX1_choose_16 ⟨Nat.zero_le _, Nat.zero_le _⟩) hS (fun rq Xq Yq Rq H locs hrq hq hH hS => ?_)
      obtain ⟨h91, h92⟩ := hq
      have h93 : Xq = X := congrArg (fun z => z.1) h92
      have h94 : Yq = Y := congrArg (fun z => z.2.1) h92
      have h95 : Rq = R := congrArg (fun z => z.2.2) h92
      rw [h93, h94, h95] at hH
      subst h91
      have hr9 := hrq
      have hF := hF hr9
      exact zd_iret C hr hlk hH hS hr9 (⟨rfl, hF⟩) dX1_choose_19
  · exact absurd (by decide) c1
theorem v_X1_chooseS {X Y : Nat → Int → Int} {R : Nat → Int → Option Nat} {i : Nat} {Z : Nat → Int → Int} {q : Nat} (a : Int) (ha : rI a) (b : Int) (hb : rI b) (hp : cA Z q X Y R i ∧ clF Z q (a)) : F_X1_chooseS i Z q X Y R a b := by
  unfold F_X1_chooseS
  intro hX hY
  obtain ⟨hq, hcl⟩ := hp
  obtain ⟨l27, r27, e27⟩ := cA_l hq
  refine ⟨?_, ?_⟩
  · intro c1
    refine ⟨?_, ?_⟩
    · exact ⟨hq, hcl⟩
    intro Y4
    intro rY4
    intro h1
    refine ⟨?_, ?_⟩
    · exact cA_k (X1 := X) ⟨fun _ _ => rfl, h1.1⟩ hq
    intro r7
    intro _
    intro X6
    intro rX6
    intro h2
    refine ⟨?_, fun z hz => h2.2.1 z hz, h1.1⟩
    rw [h2.1]
    unfold sTip
    rw [if_neg c1]
    congr 1
    refine aTw_cong (fun a _ => aHc_b _) (fun e _ => aHc_cw _ (fun k hk hw => ?_)) _ _ (by omega)
    have g := h1.2 k (by omega)
    have hw : mHas a k = true := hw
    unfold finF at g
    rw [if_pos hw] at g
    exact g
  intro c2
  refine ⟨?_, ?_⟩
  · exact hq
  intro _
  exact ⟨by unfold sTip; rw [if_pos (Classical.not_not.mp c2)], fvK.rf⟩
theorem c_X1_chooseS {l : Launch} {D : va_G} {cy : Nat → ClassId} {bs N : Nat} {sa : Nat → Nat} {kd len : Nat → Nat} {X Y : Nat → Int → Int} {R : Nat → Int → Option Nat} {i : Nat} {Z : Nat → Int → Int} {q : Nat} (hC : zChart N kd len R i) (a : Int) (ha : rI a) (b : Int) (hb : rI b) (hp : cA Z q X Y R i ∧ clF Z q (a)) : Met l yX1_choose (.code yX1_choose cX1_choose 4 (some .int) :: zTB) (zRm 1 25) (zPc D cy bs sa N kd len X Y R [.ref (bs + (i)), .int (zI (a)), .int (zI (b)), .ref (sa 0)]) (zQi D cy bs N kd len (fun r st => st.2.2 = R ∧ (r = ((sTip (b) (rP Z q) (rW Z q) (rG Z q) (fun e => mHas (a) e) (fun x y : Nat => decide (x < y)) (Z q 27).toNat : Nat) : Int) ∧ fvK X (st.1) Y (st.2.1) i))) 0 0 (zA bs) := w_X1_chooseS hC a ha b hb (v_X1_chooseS a ha b hb hp)
abbrev cX1_tipOf : ByteArray := prog_3_method_14_code
def yX1_tipOf : MethodName := ⟨RX1, "tipOf", "(I)I"⟩
theorem dX1_tipOf_0 : decode cX1_tipOf 0 = .ok (.aload_n 0, 1) := by decide +kernel
theorem dX1_tipOf_1 : decode cX1_tipOf 1 = .ok (.iload_n 1, 1) := by decide +kernel
theorem dX1_tipOf_2 : decode cX1_tipOf 2 = .ok (.aload_n 0, 1) := by decide +kernel
theorem dX1_tipOf_3 : decode cX1_tipOf 3 = .ok (.getfield 12, 3) := by decide +kernel
theorem dX1_tipOf_6 : decode cX1_tipOf 6 = .ok (.getfield 135, 3) := by decide +kernel
theorem dX1_tipOf_9 : decode cX1_tipOf 9 = .ok (.getstatic 138, 3) := by decide +kernel
theorem dX1_tipOf_12 : decode cX1_tipOf 12 = .ok (.invokevirtual 141, 3) := by decide +kernel
theorem dX1_tipOf_15 : decode cX1_tipOf 15 = .ok (.ireturn, 1) := by decide +kernel
theorem q_187 : Cond.fieldLink RX1 135 RX6 "rule" "I" ∈ zTB := zmem 187 (by decide +kernel) rfl
theorem q_1063 : Cond.methodLink RX1 141 yX1_choose ∈ zTB := zmem 1063 (by decide +kernel) rfl
theorem q_981 : Cond.instanceMethod yX1_choose ∈ zTB := zmem 981 (by decide +kernel) rfl
theorem q_982 : Cond.selects RX1 yX1_choose yX1_choose ∈ zTB := zmem 982 (by decide +kernel) rfl
theorem q_983 : Cond.code yX1_choose cX1_choose 4 (some .int) ∈ zTB := zmem 983 (by decide +kernel) rfl
theorem k_RX1_141 : zLv RX1 141 RX1 yX1_choose cX1_choose 4 (some .int) 3 := ⟨⟨q_1063, q_981, q_982, q_135, q_983⟩, rfl, ⟨by decide, by decide⟩, by decide +kernel⟩
def F_X1_tipOf (i : Nat) (Z : Nat → Int → Int) (q : Nat) (X Y : Nat → Int → Int) (R : Nat → Int → Option Nat) (a : Int) : Prop := (∀ i j, rI (X i j)) → (∀ i j, rL (Y i j)) → (cA Z q X Y R i ∧ clF Z q (a)) ∧ (∀ r4 : Int, rI r4 → ∀ X2 : Nat → Int → Int, (∀ i j, rI (X2 i j)) → ∀ Y3 : Nat → Int → Int, (∀ i j, rL (Y3 i j)) → (r4 = ((sTip ((X (cn R i) 3)) (rP Z q) (rW Z q) (rG Z q) (fun e => mHas (a) e) (fun x y : Nat => decide (x < y)) (Z q 27).toNat : Nat) : Int) ∧ fvK X (X2) Y (Y3) i) → (r4 = ((sTip (X (cn R i) 3) (rP Z q) (rW Z q) (rG Z q) (fun e => mHas (a) e) (fun x y : Nat => decide (x < y)) (Z q 27).toNat : Nat) : Int) ∧ fvK X (X2) Y (Y3) i))
set_option maxHeartbeats 4000000 in
set_option maxRecDepth 100000 in
theorem w_X1_tipOf {l : Launch} {D : va_G} {cy : Nat → ClassId} {bs N : Nat} {sa : Nat → Nat} {kd len : Nat → Nat} {X Y : Nat → Int → Int} {R : Nat → Int → Option Nat} {i : Nat} {Z : Nat → Int → Int} {q : Nat} (hC : zChart N kd len R i) (a : Int) (ha : rI a) (hF : F_X1_tipOf i Z q X Y R a) : Met l yX1_tipOf (.code yX1_tipOf cX1_tipOf 2 (some .int) :: zTB) (zRm 2 48) (zPc D cy bs sa N kd len X Y R [.ref (bs + (i)), .int (zI (a))]) (zQi D cy bs N kd len (fun r st => st.2.2 = R ∧ (r = ((sTip (X (cn R i) 3) (rP Z q) (rW Z q) (rG Z q) (fun e => mHas (a) e) (fun x y : Nat => decide (x < y)) (Z q 27).toNat : Nat) : Int) ∧ fvK X (st.1) Y (st.2.1) i))) 0 0 (zA bs) := by
  refine zstart (by decide) (Nat.le_of_ble_eq_true rfl) ?_
  intro p e s m args below meth c ls C hE hH hr hlk hnm hl hargs
  have hF := hF hH.2.2.1 hH.2.2.2
  have hS : va_S (zA bs) s.heap s.heap [] := va_S.rf
  have hl : lv_has ls 2 [(0, .ref (bs + (i))), (1, .int (zI (a)))] := hl
  refine lv_aload_n C.1 C.2.1 dX1_tipOf_0 rfl (lv_at hl 0 rfl) ?_
  refine lv_iload_n C.1 C.2.1 dX1_tipOf_1 rfl (lv_at hl 1 rfl) ?_
  refine lv_aload_n C.1 C.2.1 dX1_tipOf_2 rfl (lv_at hl 0 rfl) ?_
  refine zg1_0 C hH (zChart_n0 hC) (zChart_k0 hC) q_392 (zChart_net hC).1 dX1_tipOf_3 ?_
  refine zg6_3 C hH (zNet_n0 (zChart_net hC).2) (zNet_k0 (zChart_net hC).2) q_187 dX1_tipOf_6 ?_
  refine zd_getsN C hE hS (own := "WorkChains$Chart") (ix := 138) (C9 := "WorkChains") (n9 := "BY_NUMBER") (host := "WorkChains") (by decide +kernel) hE.2.2.1.1 dX1_tipOf_9 ?_
  obtain ⟨o1, hF⟩ := hF
  refine zgoi (zrunV (As := [.int (zI (a)), .int (zI (X (cn R i) 3)), .ref (sa 0)]) (rest := []) C hE hH hS hl.1 (c_X1_chooseS (l := l) hC (a) ha (X (cn R i) 3) (hH.2.2.1 _ _) o1) k_RX1_141 ⟨Nat.le_of_ble_eq_true rfl, Nat.le_of_ble_eq_true rfl⟩ (zChart_n0 hC) (zChart_k0 hC) rfl rfl rfl (Nat.le_of_ble_eq_true rfl) dX1_tipOf_12 ⟨Nat.zero_le _, Nat.zero_le _⟩) hS (fun r4 X2 Y3 Rq H locs hrq hq hH hS => ?_)
  obtain ⟨h9R, hq⟩ := hq
  dsimp only at h9R
  rw [h9R] at hH
  have hr4 := hrq
  have hF := hF r4 hrq X2 hH.2.2.1 Y3 hH.2.2.2 hq
  exact zd_iret C hr hlk hH hS hr4 (⟨rfl, hF⟩) dX1_tipOf_15
theorem v_X1_tipOf {X Y : Nat → Int → Int} {R : Nat → Int → Option Nat} {i : Nat} {Z : Nat → Int → Int} {q : Nat} (a : Int) (ha : rI a) (hp : cA Z q X Y R i ∧ clF Z q (a)) : F_X1_tipOf i Z q X Y R a := by
  unfold F_X1_tipOf
  intro hX hY
  obtain ⟨hq, hcl⟩ := hp
  obtain ⟨l27, r27, e27⟩ := cA_l hq
  refine ⟨?_, ?_⟩
  · exact ⟨hq, hcl⟩
  intro r4
  intro _
  intro X2
  intro rX2
  intro Y3
  intro rY3
  intro h1
  exact h1
theorem c_X1_tipOf {l : Launch} {D : va_G} {cy : Nat → ClassId} {bs N : Nat} {sa : Nat → Nat} {kd len : Nat → Nat} {X Y : Nat → Int → Int} {R : Nat → Int → Option Nat} {i : Nat} {Z : Nat → Int → Int} {q : Nat} (hC : zChart N kd len R i) (a : Int) (ha : rI a) (hp : cA Z q X Y R i ∧ clF Z q (a)) : Met l yX1_tipOf (.code yX1_tipOf cX1_tipOf 2 (some .int) :: zTB) (zRm 2 48) (zPc D cy bs sa N kd len X Y R [.ref (bs + (i)), .int (zI (a))]) (zQi D cy bs N kd len (fun r st => st.2.2 = R ∧ (r = ((sTip (X (cn R i) 3) (rP Z q) (rW Z q) (rG Z q) (fun e => mHas (a) e) (fun x y : Nat => decide (x < y)) (Z q 27).toNat : Nat) : Int) ∧ fvK X (st.1) Y (st.2.1) i))) 0 0 (zA bs) := w_X1_tipOf hC a ha (v_X1_tipOf a ha hp)
