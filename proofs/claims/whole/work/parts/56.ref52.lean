theorem upI_cg {A B : Int → Int} {a v y : Int} (h : A y = B y) : upI A a v y = upI B a v y := by
  unfold upI
  rw [h]
/-- a line, where what is told is in order -/
def lnQ (of w b : Int) (X X1 Y Y1 : Nat → Int → Int) (i : Nat) (r : Bool) : Prop := rdK X X1 Y Y1 i ∧ (r = true → oRd X1 i ∧ bnD of X1 i) ∧ ∀ s, rdS X Y i s → s.2.1.2 ≠ 182 → w = wdS X Y i s → b = tkB (X (i + 1)) (X i 12).toNat s.1 → tkS (X (i + 1)) (X i 12).toNat s.1 ≠ 0 → lnR X1 Y1 i r (rdL (X (i + 1)) (X i 12).toNat of s)
theorem lnP.q {of w b : Int} {X X1 Y Y1 : Nat → Int → Int} {i : Nat} {r : Bool} (h : lnP of w b X X1 Y Y1 i r) : lnQ of w b X X1 Y Y1 i r := ⟨h.1, h.2.1, fun s hs _ => h.2.2 s hs⟩
abbrev cX11_blockLine : ByteArray := prog_13_method_23_code
def yX11_blockLine : MethodName := ⟨RX11, "blockLine", "(I)Z"⟩
theorem dX11_blockLine_0 : decode cX11_blockLine 0 = .ok (.aload_n 0, 1) := by decide +kernel
theorem dX11_blockLine_1 : decode cX11_blockLine 1 = .ok (.iconst 0, 1) := by decide +kernel
theorem dX11_blockLine_2 : decode cX11_blockLine 2 = .ok (.bipush 14, 2) := by decide +kernel
theorem dX11_blockLine_4 : decode cX11_blockLine 4 = .ok (.iload_n 1, 1) := by decide +kernel
theorem dX11_blockLine_5 : decode cX11_blockLine 5 = .ok (.invokevirtual 177, 3) := by decide +kernel
theorem dX11_blockLine_8 : decode cX11_blockLine 8 = .ok (.aload_n 0, 1) := by decide +kernel
theorem dX11_blockLine_9 : decode cX11_blockLine 9 = .ok (.invokevirtual 152, 3) := by decide +kernel
theorem dX11_blockLine_12 : decode cX11_blockLine 12 = .ok (.aload_n 0, 1) := by decide +kernel
theorem dX11_blockLine_13 : decode cX11_blockLine 13 = .ok (.getfield 41, 3) := by decide +kernel
theorem dX11_blockLine_16 : decode cX11_blockLine 16 = .ok (.iconst 0, 1) := by decide +kernel
theorem dX11_blockLine_17 : decode cX11_blockLine 17 = .ok (.iaload, 1) := by decide +kernel
theorem dX11_blockLine_18 : decode cX11_blockLine 18 = .ok (.iconst 1, 1) := by decide +kernel
theorem dX11_blockLine_19 : decode cX11_blockLine 19 = .ok (.iadd, 1) := by decide +kernel
theorem dX11_blockLine_20 : decode cX11_blockLine 20 = .ok (.istore_n 2, 1) := by decide +kernel
theorem dX11_blockLine_21 : decode cX11_blockLine 21 = .ok (.aload_n 0, 1) := by decide +kernel
theorem dX11_blockLine_22 : decode cX11_blockLine 22 = .ok (.iconst 0, 1) := by decide +kernel
theorem dX11_blockLine_23 : decode cX11_blockLine 23 = .ok (.iconst 0, 1) := by decide +kernel
theorem dX11_blockLine_24 : decode cX11_blockLine 24 = .ok (.iload_n 2, 1) := by decide +kernel
theorem dX11_blockLine_25 : decode cX11_blockLine 25 = .ok (.bipush 15, 2) := by decide +kernel
theorem dX11_blockLine_27 : decode cX11_blockLine 27 = .ok (.invokestatic 184, 3) := by decide +kernel
theorem dX11_blockLine_30 : decode cX11_blockLine 30 = .ok (.iconst 1, 1) := by decide +kernel
theorem dX11_blockLine_31 : decode cX11_blockLine 31 = .ok (.isub, 1) := by decide +kernel
theorem dX11_blockLine_32 : decode cX11_blockLine 32 = .ok (.invokevirtual 181, 3) := by decide +kernel
theorem dX11_blockLine_35 : decode cX11_blockLine 35 = .ok (.ifCond .eq 24, 3) := by decide +kernel
theorem dX11_blockLine_38 : decode cX11_blockLine 38 = .ok (.aload_n 0, 1) := by decide +kernel
theorem dX11_blockLine_39 : decode cX11_blockLine 39 = .ok (.iconst 1, 1) := by decide +kernel
theorem dX11_blockLine_40 : decode cX11_blockLine 40 = .ok (.iconst 0, 1) := by decide +kernel
theorem dX11_blockLine_41 : decode cX11_blockLine 41 = .ok (.bipush 99, 2) := by decide +kernel
theorem dX11_blockLine_43 : decode cX11_blockLine 43 = .ok (.invokevirtual 181, 3) := by decide +kernel
theorem dX11_blockLine_46 : decode cX11_blockLine 46 = .ok (.ifCond .eq 13, 3) := by decide +kernel
theorem dX11_blockLine_49 : decode cX11_blockLine 49 = .ok (.aload_n 0, 1) := by decide +kernel
theorem dX11_blockLine_50 : decode cX11_blockLine 50 = .ok (.iconst 2, 1) := by decide +kernel
theorem dX11_blockLine_51 : decode cX11_blockLine 51 = .ok (.iconst 0, 1) := by decide +kernel
theorem dX11_blockLine_52 : decode cX11_blockLine 52 = .ok (.iconst 5, 1) := by decide +kernel
theorem dX11_blockLine_53 : decode cX11_blockLine 53 = .ok (.invokevirtual 181, 3) := by decide +kernel
theorem dX11_blockLine_56 : decode cX11_blockLine 56 = .ok (.ifCond .ne 5, 3) := by decide +kernel
theorem dX11_blockLine_59 : decode cX11_blockLine 59 = .ok (.iconst 0, 1) := by decide +kernel
theorem dX11_blockLine_60 : decode cX11_blockLine 60 = .ok (.ireturn, 1) := by decide +kernel
theorem dX11_blockLine_61 : decode cX11_blockLine 61 = .ok (.iload_n 2, 1) := by decide +kernel
theorem dX11_blockLine_62 : decode cX11_blockLine 62 = .ok (.bipush 15, 2) := by decide +kernel
theorem dX11_blockLine_64 : decode cX11_blockLine 64 = .ok (.if_icmp .ge 51, 3) := by decide +kernel
theorem dX11_blockLine_67 : decode cX11_blockLine 67 = .ok (.iconst 0, 1) := by decide +kernel
theorem dX11_blockLine_68 : decode cX11_blockLine 68 = .ok (.istore_n 3, 1) := by decide +kernel
theorem dX11_blockLine_69 : decode cX11_blockLine 69 = .ok (.iload_n 3, 1) := by decide +kernel
theorem dX11_blockLine_70 : decode cX11_blockLine 70 = .ok (.iconst 3, 1) := by decide +kernel
theorem dX11_blockLine_71 : decode cX11_blockLine 71 = .ok (.if_icmp .ge 30, 3) := by decide +kernel
theorem dX11_blockLine_74 : decode cX11_blockLine 74 = .ok (.aload_n 0, 1) := by decide +kernel
theorem dX11_blockLine_75 : decode cX11_blockLine 75 = .ok (.getfield 41, 3) := by decide +kernel
theorem dX11_blockLine_78 : decode cX11_blockLine 78 = .ok (.iconst 1, 1) := by decide +kernel
theorem dX11_blockLine_79 : decode cX11_blockLine 79 = .ok (.bipush 13, 2) := by decide +kernel
theorem dX11_blockLine_81 : decode cX11_blockLine 81 = .ok (.iload_n 2, 1) := by decide +kernel
theorem dX11_blockLine_82 : decode cX11_blockLine 82 = .ok (.iconst 1, 1) := by decide +kernel
theorem dX11_blockLine_83 : decode cX11_blockLine 83 = .ok (.isub, 1) := by decide +kernel
theorem dX11_blockLine_84 : decode cX11_blockLine 84 = .ok (.imul, 1) := by decide +kernel
theorem dX11_blockLine_85 : decode cX11_blockLine 85 = .ok (.iadd, 1) := by decide +kernel
theorem dX11_blockLine_86 : decode cX11_blockLine 86 = .ok (.iload_n 3, 1) := by decide +kernel
theorem dX11_blockLine_87 : decode cX11_blockLine 87 = .ok (.iadd, 1) := by decide +kernel
theorem dX11_blockLine_88 : decode cX11_blockLine 88 = .ok (.aload_n 0, 1) := by decide +kernel
theorem dX11_blockLine_89 : decode cX11_blockLine 89 = .ok (.getfield 44, 3) := by decide +kernel
theorem dX11_blockLine_92 : decode cX11_blockLine 92 = .ok (.iload_n 3, 1) := by decide +kernel
theorem dX11_blockLine_93 : decode cX11_blockLine 93 = .ok (.iaload, 1) := by decide +kernel
theorem dX11_blockLine_94 : decode cX11_blockLine 94 = .ok (.iastore, 1) := by decide +kernel
theorem dX11_blockLine_95 : decode cX11_blockLine 95 = .ok (.iinc 3 1, 3) := by decide +kernel
theorem dX11_blockLine_98 : decode cX11_blockLine 98 = .ok (.goto (-29), 3) := by decide +kernel
theorem dX11_blockLine_101 : decode cX11_blockLine 101 = .ok (.aload_n 0, 1) := by decide +kernel
theorem dX11_blockLine_102 : decode cX11_blockLine 102 = .ok (.getfield 41, 3) := by decide +kernel
theorem dX11_blockLine_105 : decode cX11_blockLine 105 = .ok (.iconst 4, 1) := by decide +kernel
theorem dX11_blockLine_106 : decode cX11_blockLine 106 = .ok (.bipush 13, 2) := by decide +kernel
theorem dX11_blockLine_108 : decode cX11_blockLine 108 = .ok (.iload_n 2, 1) := by decide +kernel
theorem dX11_blockLine_109 : decode cX11_blockLine 109 = .ok (.iconst 1, 1) := by decide +kernel
theorem dX11_blockLine_110 : decode cX11_blockLine 110 = .ok (.isub, 1) := by decide +kernel
theorem dX11_blockLine_111 : decode cX11_blockLine 111 = .ok (.imul, 1) := by decide +kernel
theorem dX11_blockLine_112 : decode cX11_blockLine 112 = .ok (.iadd, 1) := by decide +kernel
theorem dX11_blockLine_113 : decode cX11_blockLine 113 = .ok (.iconst 0, 1) := by decide +kernel
theorem dX11_blockLine_114 : decode cX11_blockLine 114 = .ok (.iastore, 1) := by decide +kernel
theorem dX11_blockLine_115 : decode cX11_blockLine 115 = .ok (.aload_n 0, 1) := by decide +kernel
theorem dX11_blockLine_116 : decode cX11_blockLine 116 = .ok (.iload_n 2, 1) := by decide +kernel
theorem dX11_blockLine_117 : decode cX11_blockLine 117 = .ok (.bipush 15, 2) := by decide +kernel
theorem dX11_blockLine_119 : decode cX11_blockLine 119 = .ok (.if_icmp .ge 14, 3) := by decide +kernel
theorem dX11_blockLine_122 : decode cX11_blockLine 122 = .ok (.iconst 4, 1) := by decide +kernel
theorem dX11_blockLine_123 : decode cX11_blockLine 123 = .ok (.bipush 13, 2) := by decide +kernel
theorem dX11_blockLine_125 : decode cX11_blockLine 125 = .ok (.iload_n 2, 1) := by decide +kernel
theorem dX11_blockLine_126 : decode cX11_blockLine 126 = .ok (.iconst 1, 1) := by decide +kernel
theorem dX11_blockLine_127 : decode cX11_blockLine 127 = .ok (.isub, 1) := by decide +kernel
theorem dX11_blockLine_128 : decode cX11_blockLine 128 = .ok (.imul, 1) := by decide +kernel
theorem dX11_blockLine_129 : decode cX11_blockLine 129 = .ok (.iadd, 1) := by decide +kernel
theorem dX11_blockLine_130 : decode cX11_blockLine 130 = .ok (.goto 6, 3) := by decide +kernel
theorem dX11_blockLine_133 : decode cX11_blockLine 133 = .ok (.sipush 182, 3) := by decide +kernel
theorem dX11_blockLine_136 : decode cX11_blockLine 136 = .ok (.putfield 188, 3) := by decide +kernel
theorem dX11_blockLine_139 : decode cX11_blockLine 139 = .ok (.aload_n 0, 1) := by decide +kernel
theorem dX11_blockLine_140 : decode cX11_blockLine 140 = .ok (.getfield 41, 3) := by decide +kernel
theorem dX11_blockLine_143 : decode cX11_blockLine 143 = .ok (.sipush 182, 3) := by decide +kernel
theorem dX11_blockLine_146 : decode cX11_blockLine 146 = .ok (.iconst 0, 1) := by decide +kernel
theorem dX11_blockLine_147 : decode cX11_blockLine 147 = .ok (.iastore, 1) := by decide +kernel
theorem dX11_blockLine_148 : decode cX11_blockLine 148 = .ok (.aload_n 0, 1) := by decide +kernel
theorem dX11_blockLine_149 : decode cX11_blockLine 149 = .ok (.getfield 41, 3) := by decide +kernel
theorem dX11_blockLine_152 : decode cX11_blockLine 152 = .ok (.iconst 0, 1) := by decide +kernel
theorem dX11_blockLine_153 : decode cX11_blockLine 153 = .ok (.bipush 14, 2) := by decide +kernel
theorem dX11_blockLine_155 : decode cX11_blockLine 155 = .ok (.iload_n 2, 1) := by decide +kernel
theorem dX11_blockLine_156 : decode cX11_blockLine 156 = .ok (.invokestatic 184, 3) := by decide +kernel
theorem dX11_blockLine_159 : decode cX11_blockLine 159 = .ok (.iastore, 1) := by decide +kernel
theorem dX11_blockLine_160 : decode cX11_blockLine 160 = .ok (.iconst 1, 1) := by decide +kernel
theorem dX11_blockLine_161 : decode cX11_blockLine 161 = .ok (.ireturn, 1) := by decide +kernel
theorem q_1310 : Cond.fieldLink RX11 188 RX11 "paysOf" "I" ∈ zTB := zmem 1310 (by decide +kernel) rfl
def F_X11_blockLine (i : Nat) (X Y : Nat → Int → Int) (R : Nat → Int → Option Nat) (a : Int) : Prop := (∀ i j, rI (X i j)) → (∀ i j, rL (Y i j)) → (0 ≤ (0 : Int) ∧ (0 : Int) < 183) ∧ (∀ X2 : Nat → Int → Int, (∀ i j, rI (X2 i j)) → ((X2) = if (14 : Int) ≤ X (i + 11) ((0 : Int)) then adF X i 3 (a) else X) → ((oRd X2 i) ∧ (∀ X4 : Nat → Int → Int, (∀ i j, rI (X4 i j)) → ∀ Y5 : Nat → Int → Int, (∀ i j, rL (Y5 i j)) → (tkC X2 (X4) Y (Y5) i ∧ (X4) i 11 = tkN (X2 (i + 1)) (X2 i 12).toNat (X2 i 11).toNat ∧ (X4) i 13 = tkB (X2 (i + 1)) (X2 i 12).toNat (X2 i 11).toNat ∧ (X4) i 14 = tkS (X2 (i + 1)) (X2 i 12).toNat (X2 i 11).toNat ∧ ((X4) i 14 = 3 → (X4) i 15 = tkV (X2 (i + 1)) (X2 i 12).toNat (X2 i 11).toNat) ∧ ((X4) i 14 = 2 → (Y5) i 16 = tkW (X2 (i + 1)) (X2 i 12).toNat (X2 i 11).toNat)) → ((rI ((X4 (i + 11) (0)) + 1)) ∧ (rI (min ((X4 (i + 11) (0)) + 1) ((15 : Int))) → ((rI ((min ((X4 (i + 11) (0)) + 1) ((15 : Int))) - 1)) ∧ ((oRd X4 i ∧ 0 ≤ (0 : Int) ∧ (0 : Int) < 4) ∧ (∀ r12 : Bool, ∀ X10 : Nat → Int → Int, (∀ i j, rI (X10 i j)) → ∀ Y11 : Nat → Int → Int, (∀ i j, rL (Y11 i j)) → (r12 = decide (X4 i 14 = 3) ∧ (r12 = false → (X10) = zU X4 i 17 (X4 i 13) ∧ (Y11) = Y5) ∧ (r12 = true → tkC (tbX X4 i ((0 : Int)) ((0 : Int)) ((min ((X4 (i + 11) (0)) + 1) ((15 : Int))) - 1) (-1)) (X10) Y5 (Y11) i ∧ tkAt (X10) (Y11) i (X4 i 11).toNat ∧ oRd (X10) i)) → (((r12 = false) → (lnP 1 422726034283 (a) X (X10) Y (Y11) i false)) ∧ ((r12 = true) → ((oRd X10 i ∧ 0 ≤ (1 : Int) ∧ (1 : Int) < 4) ∧ (∀ r17 : Bool, ∀ X15 : Nat → Int → Int, (∀ i j, rI (X15 i j)) → ∀ Y16 : Nat → Int → Int, (∀ i j, rL (Y16 i j)) → (r17 = decide (X10 i 14 = 3) ∧ (r17 = false → (X15) = zU X10 i 17 (X10 i 13) ∧ (Y16) = Y11) ∧ (r17 = true → tkC (tbX X10 i ((1 : Int)) ((0 : Int)) ((99 : Int)) (-1)) (X15) Y11 (Y16) i ∧ tkAt (X15) (Y16) i (X10 i 11).toNat ∧ oRd (X15) i)) → (((r17 = false) → (lnP 1 422726034283 (a) X (X15) Y (Y16) i false)) ∧ ((r17 = true) → ((oRd X15 i ∧ 0 ≤ (2 : Int) ∧ (2 : Int) < 4) ∧ (∀ r22 : Bool, ∀ X20 : Nat → Int → Int, (∀ i j, rI (X20 i j)) → ∀ Y21 : Nat → Int → Int, (∀ i j, rL (Y21 i j)) → (r22 = decide (X15 i 14 = 3) ∧ (r22 = false → (X20) = zU X15 i 17 (X15 i 13) ∧ (Y21) = Y16) ∧ (r22 = true → tkC (tbX X15 i ((2 : Int)) ((0 : Int)) ((5 : Int)) (-1)) (X20) Y16 (Y21) i ∧ tkAt (X20) (Y21) i (X15 i 11).toNat ∧ oRd (X20) i)) → (((r22 = true) → (((15 ≤ ((X4 (i + 11) (0)) + 1)) → (((15 ≤ ((X4 (i + 11) (0)) + 1)) → (∀ X26 : Nat → Int → Int, X26 = zU X20 (i) 23 (182) → (∀ i j, rI (X26 i j)) → (∀ X27 : Nat → Int → Int, X27 = zU X26 (i + 11) (182) (0) → (∀ i j, rI (X27 i j)) → (rI (min ((14 : Int)) ((X4 (i + 11) (0)) + 1)) → (∀ X29 : Nat → Int → Int, X29 = zU X27 (i + 11) (0) (min ((14 : Int)) ((X4 (i + 11) (0)) + 1)) → (∀ i j, rI (X29 i j)) → (lnP 1 422726034283 (a) X (X29) Y (Y21) i true)))))) ∧ ((¬ (15 ≤ ((X4 (i + 11) (0)) + 1))) → ((rI (4 + (13 * (((X4 (i + 11) (0)) + 1) - 1)))) ∧ (∀ X31 : Nat → Int → Int, X31 = zU X20 (i) 23 (4 + (13 * (((X4 (i + 11) (0)) + 1) - 1))) → (∀ i j, rI (X31 i j)) → (∀ X32 : Nat → Int → Int, X32 = zU X31 (i + 11) (182) (0) → (∀ i j, rI (X32 i j)) → (rI (min ((14 : Int)) ((X4 (i + 11) (0)) + 1)) → (∀ X34 : Nat → Int → Int, X34 = zU X32 (i + 11) (0) (min ((14 : Int)) ((X4 (i + 11) (0)) + 1)) → (∀ i j, rI (X34 i j)) → (lnP 1 422726034283 (a) X (X34) Y (Y21) i true))))))))) ∧ ((¬ (15 ≤ ((X4 (i + 11) (0)) + 1))) → ((∃ q : Nat, (0 : Int) = q ∧ q ≤ 3 ∧ (∀ z, z ≠ i + 11 → X20 z = X20 z) ∧ X20 (i + 11) = upS (X20 (i + 11)) (1 + 13 * X20 (i + 11) 0) (fun j => X20 (i + 12) j) q) ∧ (∀ (j : Int) (X36 : Nat → Int → Int), rI j → (∀ i j, rI (X36 i j)) → (∃ q : Nat, j = q ∧ q ≤ 3 ∧ (∀ z, z ≠ i + 11 → X36 z = X20 z) ∧ X36 (i + 11) = upS (X20 (i + 11)) (1 + 13 * X20 (i + 11) 0) (fun j => X20 (i + 12) j) q) → (((3 ≤ j) → ((0 ≤ (4 + (13 * (((X4 (i + 11) (0)) + 1) - 1))) ∧ (4 + (13 * (((X4 (i + 11) (0)) + 1) - 1))) < 183) ∧ (∀ X39 : Nat → Int → Int, X39 = zU X36 (i + 11) (4 + (13 * (((X4 (i + 11) (0)) + 1) - 1))) (0) → (∀ i j, rI (X39 i j)) → (((15 ≤ ((X4 (i + 11) (0)) + 1)) → (∀ X41 : Nat → Int → Int, X41 = zU X39 (i) 23 (182) → (∀ i j, rI (X41 i j)) → (∀ X42 : Nat → Int → Int, X42 = zU X41 (i + 11) (182) (0) → (∀ i j, rI (X42 i j)) → (rI (min ((14 : Int)) ((X4 (i + 11) (0)) + 1)) → (∀ X44 : Nat → Int → Int, X44 = zU X42 (i + 11) (0) (min ((14 : Int)) ((X4 (i + 11) (0)) + 1)) → (∀ i j, rI (X44 i j)) → (lnP 1 422726034283 (a) X (X44) Y (Y21) i true)))))) ∧ ((¬ (15 ≤ ((X4 (i + 11) (0)) + 1))) → ((rI (4 + (13 * (((X4 (i + 11) (0)) + 1) - 1)))) ∧ (∀ X46 : Nat → Int → Int, X46 = zU X39 (i) 23 (4 + (13 * (((X4 (i + 11) (0)) + 1) - 1))) → (∀ i j, rI (X46 i j)) → (∀ X47 : Nat → Int → Int, X47 = zU X46 (i + 11) (182) (0) → (∀ i j, rI (X47 i j)) → (rI (min ((14 : Int)) ((X4 (i + 11) (0)) + 1)) → (∀ X49 : Nat → Int → Int, X49 = zU X47 (i + 11) (0) (min ((14 : Int)) ((X4 (i + 11) (0)) + 1)) → (∀ i j, rI (X49 i j)) → (lnP 1 422726034283 (a) X (X49) Y (Y21) i true))))))))))) ∧ ((¬ (3 ≤ j)) → ((0 ≤ j ∧ j < 4) ∧ ((0 ≤ ((1 + (13 * (((X4 (i + 11) (0)) + 1) - 1))) + j) ∧ ((1 + (13 * (((X4 (i + 11) (0)) + 1) - 1))) + j) < 183) ∧ (∀ X52 : Nat → Int → Int, X52 = zU X36 (i + 11) ((1 + (13 * (((X4 (i + 11) (0)) + 1) - 1))) + j) (X36 (i + 12) (j)) → (∀ i j, rI (X52 i j)) → ((rI (j + 1)) ∧ (∃ q : Nat, j + 1 = q ∧ q ≤ 3 ∧ (∀ z, z ≠ i + 11 → X52 z = X20 z) ∧ X52 (i + 11) = upS (X20 (i + 11)) (1 + 13 * X20 (i + 11) 0) (fun j => X20 (i + 12) j) q) ∧ (((3 - (j + 1)).toNat) < ((3 - (j)).toNat))))))))))))) ∧ ((r22 = false) → (lnP 1 422726034283 (a) X (X20) Y (Y21) i false)))))))))))))))))))
set_option maxHeartbeats 4000000 in
set_option maxRecDepth 100000 in
theorem w_X11_blockLine {l : Launch} {D : va_G} {cy : Nat → ClassId} {bs N : Nat} {sa : Nat → Nat} {kd len : Nat → Nat} {X Y : Nat → Int → Int} {R : Nat → Int → Option Nat} {i : Nat} (hM : zM N kd len R i) (a : Int) (ha : rI a) (hF : F_X11_blockLine i X Y R a) : Met l yX11_blockLine (.code yX11_blockLine cX11_blockLine 4 (some .boolean) :: zTB) (zRm 4 91) (zPc D cy bs sa N kd len X Y R [.ref (bs + (i)), .int (zI (a))]) (zQi D cy bs N kd len (fun r st => st.2.2 = R ∧ ∃ rb : Bool, r = bz rb ∧ (lnP 1 422726034283 (a) X (st.1) Y (st.2.1) i rb))) 0 0 (zA bs) := by
  refine zstart (by decide) (Nat.le_of_ble_eq_true rfl) ?_
  intro p e s m args below meth c ls C hE hH hr hlk hnm hl hargs
  have hF := hF hH.2.2.1 hH.2.2.2
  have hS : va_S (zA bs) s.heap s.heap [] := va_S.rf
  have hl : lv_has ls 4 [(0, .ref (bs + (i))), (1, .int (zI (a)))] := hl
  refine lv_aload_n C.1 C.2.1 dX11_blockLine_0 rfl (lv_at hl 0 rfl) ?_
  refine zd_iconst C dX11_blockLine_1 ?_
  refine zd_bipush C (by decide) dX11_blockLine_2 ?_
  refine lv_iload_n C.1 C.2.1 dX11_blockLine_4 rfl (lv_at hl 1 rfl) ?_
  obtain ⟨o1, hF⟩ := hF
  refine zgov (zrunV (As := [.int (zI (0)), .int (zI (14)), .int (zI (a))]) (rest := []) C hE hH hS hl.1 (c_X11_full (l := l) hM (0) (by decide) (14) (by decide) (a) ha o1) k_RX11_177 ⟨Nat.le_of_ble_eq_true rfl, Nat.le_of_ble_eq_true rfl⟩ (zM_n0 hM) (zM_k0 hM) rfl rfl rfl (Nat.le_of_ble_eq_true rfl) dX11_blockLine_5 ⟨Nat.zero_le _, Nat.zero_le _⟩) hS (fun X2 Yq Rq H locs hq hH hS => ?_)
  obtain ⟨h9Y, h9R, hq⟩ := hq
  dsimp only at h9Y h9R
  rw [h9Y, h9R] at hH
  have hF := hF X2 hH.2.2.1 hq
  refine lv_aload_n C.1 C.2.1 dX11_blockLine_8 rfl (lv_at hl 0 rfl) ?_
  obtain ⟨o3, hF⟩ := hF
  refine zgov (zrunV (As := []) (rest := []) C hE hH hS hl.1 (c_X11_token (l := l) hM  o3) k_RX11_152 ⟨Nat.le_of_ble_eq_true rfl, Nat.le_of_ble_eq_true rfl⟩ (zM_n0 hM) (zM_k0 hM) rfl rfl rfl (Nat.le_of_ble_eq_true rfl) dX11_blockLine_9 ⟨Nat.zero_le _, Nat.zero_le _⟩) hS (fun X4 Y5 Rq H locs hq hH hS => ?_)
  obtain ⟨h9R, hq⟩ := hq
  dsimp only at h9R
  rw [h9R] at hH
  have hF := hF X4 hH.2.2.1 Y5 hH.2.2.2 hq
  refine lv_aload_n C.1 C.2.1 dX11_blockLine_12 rfl (lv_at hl 0 rfl) ?_
  refine zg11_20 C hH (zM_n0 hM) (zM_k0 hM) q_1307 (zM_r11 hM) dX11_blockLine_13 ?_
  refine zd_iconst C dX11_blockLine_16 ?_
  refine zd_iald C hH (zM_n11 hM) (zM_k11 hM) (by decide) (by rw [zM_l11 hM]; decide) (by rw [zM_l11 hM]; decide) dX11_blockLine_17 ?_
  refine zd_iconst C dX11_blockLine_18 ?_
  refine zd_iadd C dX11_blockLine_19 ?_
  refine lv_istore_n (lv' := [(2, .int (zI ((X4 (i + 11) (0)) + 1))), (0, .ref (bs + (i))), (1, .int (zI (a)))]) C.1 C.2.1 dX11_blockLine_20 rfl hl (by decide) rfl (fun ls hl => ?_)
  refine lv_aload_n C.1 C.2.1 dX11_blockLine_21 rfl (lv_at hl 1 rfl) ?_
  refine zd_iconst C dX11_blockLine_22 ?_
  refine zd_iconst C dX11_blockLine_23 ?_
  refine lv_iload_n C.1 C.2.1 dX11_blockLine_24 rfl (lv_at hl 0 rfl) ?_
  refine zd_bipush C (by decide) dX11_blockLine_25 ?_
  obtain ⟨o6, hF⟩ := hF
  refine zgoi (zrunS (As := [.int (zI ((X4 (i + 11) (0)) + 1)), .int (zI (15))]) (rest := [.int (zI (0)), .int (zI (0)), .ref (bs + (i))]) C hE hH hS hl.1 (c_X11_lesser (l := l)  ((X4 (i + 11) (0)) + 1) o6 (15) (by decide)) k_RX11_184 ⟨Nat.le_of_ble_eq_true rfl, Nat.le_of_ble_eq_true rfl⟩ rfl (Nat.le_of_ble_eq_true rfl) dX11_blockLine_27 ⟨Nat.zero_le _, Nat.zero_le _⟩) hS (fun rq Xq Yq Rq H locs hrq hq hH hS => ?_)
  obtain ⟨h91, h92⟩ := hq
  have h93 : Xq = X4 := congrArg (fun z => z.1) h92
  have h94 : Yq = Y5 := congrArg (fun z => z.2.1) h92
  have h95 : Rq = R := congrArg (fun z => z.2.2) h92
  rw [h93, h94, h95] at hH
  subst h91
  have hr7 := hrq
  have hF := hF hr7
  refine zd_iconst C dX11_blockLine_30 ?_
  refine zd_isub C dX11_blockLine_31 ?_
  obtain ⟨o8, hF⟩ := hF
  obtain ⟨o9, hF⟩ := hF
  refine zgoi (zrunV (As := [.int (zI (0)), .int (zI (0)), .int (zI ((min ((X4 (i + 11) (0)) + 1) ((15 : Int))) - 1))]) (rest := []) C hE hH hS hl.1 (c_X11_take (l := l) hM (0) (by decide) (0) (by decide) ((min ((X4 (i + 11) (0)) + 1) ((15 : Int))) - 1) o8 o9) k_RX11_181 ⟨Nat.le_of_ble_eq_true rfl, Nat.le_of_ble_eq_true rfl⟩ (zM_n0 hM) (zM_k0 hM) rfl rfl rfl (Nat.le_of_ble_eq_true rfl) dX11_blockLine_32 ⟨Nat.zero_le _, Nat.zero_le _⟩) hS (fun rq X10 Y11 Rq H locs hrq hq hH hS => ?_)
  obtain ⟨h9R, hq⟩ := hq
  dsimp only at h9R
  rw [h9R] at hH
  obtain ⟨r12, h91, hq⟩ := hq
  subst h91
  have hF := hF r12 X10 hH.2.2.1 Y11 hH.2.2.2 hq
  refine zd_ifB_eq C 59 dX11_blockLine_35 (by decide) (fun c13 => ?_) (fun c13 => ?_)
  · have hF := hF.1 c13
    refine zd_iconst C dX11_blockLine_59 ?_
    exact zd_zret C hr hlk hH hS (by decide) (⟨rfl, _, rfl, hF⟩) dX11_blockLine_60
  · have hF := hF.2 c13
    refine lv_aload_n C.1 C.2.1 dX11_blockLine_38 rfl (lv_at hl 1 rfl) ?_
    refine zd_iconst C dX11_blockLine_39 ?_
    refine zd_iconst C dX11_blockLine_40 ?_
    refine zd_bipush C (by decide) dX11_blockLine_41 ?_
    obtain ⟨o14, hF⟩ := hF
    refine zgoi (zrunV (As := [.int (zI (1)), .int (zI (0)), .int (zI (99))]) (rest := []) C hE hH hS hl.1 (c_X11_take (l := l) hM (1) (by decide) (0) (by decide) (99) (by decide) o14) k_RX11_181 ⟨Nat.le_of_ble_eq_true rfl, Nat.le_of_ble_eq_true rfl⟩ (zM_n0 hM) (zM_k0 hM) rfl rfl rfl (Nat.le_of_ble_eq_true rfl) dX11_blockLine_43 ⟨Nat.zero_le _, Nat.zero_le _⟩) hS (fun rq X15 Y16 Rq H locs hrq hq hH hS => ?_)
    obtain ⟨h9R, hq⟩ := hq
    dsimp only at h9R
    rw [h9R] at hH
    obtain ⟨r17, h91, hq⟩ := hq
    subst h91
    have hF := hF r17 X15 hH.2.2.1 Y16 hH.2.2.2 hq
    refine zd_ifB_eq C 59 dX11_blockLine_46 (by decide) (fun c18 => ?_) (fun c18 => ?_)
    · have hF := hF.1 c18
      refine zd_iconst C dX11_blockLine_59 ?_
      exact zd_zret C hr hlk hH hS (by decide) (⟨rfl, _, rfl, hF⟩) dX11_blockLine_60
    · have hF := hF.2 c18
      refine lv_aload_n C.1 C.2.1 dX11_blockLine_49 rfl (lv_at hl 1 rfl) ?_
      refine zd_iconst C dX11_blockLine_50 ?_
      refine zd_iconst C dX11_blockLine_51 ?_
      refine zd_iconst C dX11_blockLine_52 ?_
      obtain ⟨o19, hF⟩ := hF
      refine zgoi (zrunV (As := [.int (zI (2)), .int (zI (0)), .int (zI (5))]) (rest := []) C hE hH hS hl.1 (c_X11_take (l := l) hM (2) (by decide) (0) (by decide) (5) (by decide) o19) k_RX11_181 ⟨Nat.le_of_ble_eq_true rfl, Nat.le_of_ble_eq_true rfl⟩ (zM_n0 hM) (zM_k0 hM) rfl rfl rfl (Nat.le_of_ble_eq_true rfl) dX11_blockLine_53 ⟨Nat.zero_le _, Nat.zero_le _⟩) hS (fun rq X20 Y21 Rq H locs hrq hq hH hS => ?_)
      obtain ⟨h9R, hq⟩ := hq
      dsimp only at h9R
      rw [h9R] at hH
      obtain ⟨r22, h91, hq⟩ := hq
      subst h91
      have hF := hF r22 X20 hH.2.2.1 Y21 hH.2.2.2 hq
      refine zd_ifB_ne C 61 dX11_blockLine_56 (by decide) (fun c23 => ?_) (fun c23 => ?_)
      · have hF := hF.1 c23
        refine lv_iload_n C.1 C.2.1 dX11_blockLine_61 rfl (lv_at hl 0 rfl) ?_
        refine zd_bipush C (by decide) dX11_blockLine_62 ?_
        refine zd_icmp_ge C o6 (by decide) 115 dX11_blockLine_64 (by decide) (fun c24 => ?_) (fun c24 => ?_)
        · have hF := hF.1 c24
          refine lv_aload_n C.1 C.2.1 dX11_blockLine_115 rfl (lv_at hl 1 rfl) ?_
          refine lv_iload_n C.1 C.2.1 dX11_blockLine_116 rfl (lv_at hl 0 rfl) ?_
          refine zd_bipush C (by decide) dX11_blockLine_117 ?_
          refine zd_icmp_ge C o6 (by decide) 133 dX11_blockLine_119 (by decide) (fun c25 => ?_) (fun c25 => ?_)
          · have hF := hF.1 c25
            refine zd_sipush C (by decide) dX11_blockLine_133 ?_
            refine zp11_23 C hH hS (zM_n0 hM) (zM_k0 hM) q_1310 (by decide) dX11_blockLine_136 (fun H locs hH hS => ?_)
            obtain ⟨X26, eX26⟩ : ∃ z, z = zU X20 (i) 23 (182) := ⟨_, rfl⟩
            rw [← eX26] at hH
            have hF := hF X26 eX26 hH.2.2.1
            refine lv_aload_n C.1 C.2.1 dX11_blockLine_139 rfl (lv_at hl 1 rfl) ?_
            refine zg11_20 C hH (zM_n0 hM) (zM_k0 hM) q_1307 (zM_r11 hM) dX11_blockLine_140 ?_
            refine zd_sipush C (by decide) dX11_blockLine_143 ?_
            refine zd_iconst C dX11_blockLine_146 ?_
            refine zd_iast C hH hS (zM_n11 hM) (zM_k11 hM) (by decide) (by rw [zM_l11 hM]; decide) (by rw [zM_l11 hM]; decide) (by decide) dX11_blockLine_147 (fun H locs hH hS => ?_)
            obtain ⟨X27, eX27⟩ : ∃ z, z = zU X26 (i + 11) (182) (0) := ⟨_, rfl⟩
            rw [← eX27] at hH
            have hF := hF X27 eX27 hH.2.2.1
            refine lv_aload_n C.1 C.2.1 dX11_blockLine_148 rfl (lv_at hl 1 rfl) ?_
            refine zg11_20 C hH (zM_n0 hM) (zM_k0 hM) q_1307 (zM_r11 hM) dX11_blockLine_149 ?_
            refine zd_iconst C dX11_blockLine_152 ?_
            refine zd_bipush C (by decide) dX11_blockLine_153 ?_
            refine lv_iload_n C.1 C.2.1 dX11_blockLine_155 rfl (lv_at hl 0 rfl) ?_
            refine zgoi (zrunS (As := [.int (zI (14)), .int (zI ((X4 (i + 11) (0)) + 1))]) (rest := [.int (zI (0)), .ref (bs + (i + 11))]) C hE hH hS hl.1 (c_X11_lesser (l := l)  (14) (by decide) ((X4 (i + 11) (0)) + 1) o6) k_RX11_184 ⟨Nat.le_of_ble_eq_true rfl, Nat.le_of_ble_eq_true rfl⟩ rfl (Nat.le_of_ble_eq_true rfl) dX11_blockLine_156 ⟨Nat.zero_le _, Nat.zero_le _⟩) hS (fun rq Xq Yq Rq H locs hrq hq hH hS => ?_)
            obtain ⟨h91, h92⟩ := hq
            have h93 : Xq = X27 := congrArg (fun z => z.1) h92
            have h94 : Yq = Y21 := congrArg (fun z => z.2.1) h92
            have h95 : Rq = R := congrArg (fun z => z.2.2) h92
            rw [h93, h94, h95] at hH
            subst h91
            have hr28 := hrq
            have hF := hF hr28
            refine zd_iast C hH hS (zM_n11 hM) (zM_k11 hM) (by decide) (by rw [zM_l11 hM]; decide) (by rw [zM_l11 hM]; decide) hr28 dX11_blockLine_159 (fun H locs hH hS => ?_)
            obtain ⟨X29, eX29⟩ : ∃ z, z = zU X27 (i + 11) (0) (min ((14 : Int)) ((X4 (i + 11) (0)) + 1)) := ⟨_, rfl⟩
            rw [← eX29] at hH
            have hF := hF X29 eX29 hH.2.2.1
            refine zd_iconst C dX11_blockLine_160 ?_
            exact zd_zret C hr hlk hH hS (by decide) (⟨rfl, _, rfl, hF⟩) dX11_blockLine_161
          · have hF := hF.2 c25
            refine zd_iconst C dX11_blockLine_122 ?_
            refine zd_bipush C (by decide) dX11_blockLine_123 ?_
            refine lv_iload_n C.1 C.2.1 dX11_blockLine_125 rfl (lv_at hl 0 rfl) ?_
            refine zd_iconst C dX11_blockLine_126 ?_
            refine zd_isub C dX11_blockLine_127 ?_
            refine zd_imul C dX11_blockLine_128 ?_
            refine zd_iadd C dX11_blockLine_129 ?_
            refine lv_goto (tgt := 136) C.1 C.2.1 dX11_blockLine_130 (by decide) ?_
            obtain ⟨o30, hF⟩ := hF
            refine zp11_23 C hH hS (zM_n0 hM) (zM_k0 hM) q_1310 o30 dX11_blockLine_136 (fun H locs hH hS => ?_)
            obtain ⟨X31, eX31⟩ : ∃ z, z = zU X20 (i) 23 (4 + (13 * (((X4 (i + 11) (0)) + 1) - 1))) := ⟨_, rfl⟩
            rw [← eX31] at hH
            have hF := hF X31 eX31 hH.2.2.1
            refine lv_aload_n C.1 C.2.1 dX11_blockLine_139 rfl (lv_at hl 1 rfl) ?_
            refine zg11_20 C hH (zM_n0 hM) (zM_k0 hM) q_1307 (zM_r11 hM) dX11_blockLine_140 ?_
            refine zd_sipush C (by decide) dX11_blockLine_143 ?_
            refine zd_iconst C dX11_blockLine_146 ?_
            refine zd_iast C hH hS (zM_n11 hM) (zM_k11 hM) (by decide) (by rw [zM_l11 hM]; decide) (by rw [zM_l11 hM]; decide) (by decide) dX11_blockLine_147 (fun H locs hH hS => ?_)
            obtain ⟨X32, eX32⟩ : ∃ z, z = zU X31 (i + 11) (182) (0) := ⟨_, rfl⟩
            rw [← eX32] at hH
            have hF := hF X32 eX32 hH.2.2.1
            refine lv_aload_n C.1 C.2.1 dX11_blockLine_148 rfl (lv_at hl 1 rfl) ?_
            refine zg11_20 C hH (zM_n0 hM) (zM_k0 hM) q_1307 (zM_r11 hM) dX11_blockLine_149 ?_
            refine zd_iconst C dX11_blockLine_152 ?_
            refine zd_bipush C (by decide) dX11_blockLine_153 ?_
            refine lv_iload_n C.1 C.2.1 dX11_blockLine_155 rfl (lv_at hl 0 rfl) ?_
            refine zgoi (zrunS (As := [.int (zI (14)), .int (zI ((X4 (i + 11) (0)) + 1))]) (rest := [.int (zI (0)), .ref (bs + (i + 11))]) C hE hH hS hl.1 (c_X11_lesser (l := l)  (14) (by decide) ((X4 (i + 11) (0)) + 1) o6) k_RX11_184 ⟨Nat.le_of_ble_eq_true rfl, Nat.le_of_ble_eq_true rfl⟩ rfl (Nat.le_of_ble_eq_true rfl) dX11_blockLine_156 ⟨Nat.zero_le _, Nat.zero_le _⟩) hS (fun rq Xq Yq Rq H locs hrq hq hH hS => ?_)
            obtain ⟨h91, h92⟩ := hq
            have h93 : Xq = X32 := congrArg (fun z => z.1) h92
            have h94 : Yq = Y21 := congrArg (fun z => z.2.1) h92
            have h95 : Rq = R := congrArg (fun z => z.2.2) h92
            rw [h93, h94, h95] at hH
            subst h91
            have hr33 := hrq
            have hF := hF hr33
            refine zd_iast C hH hS (zM_n11 hM) (zM_k11 hM) (by decide) (by rw [zM_l11 hM]; decide) (by rw [zM_l11 hM]; decide) hr33 dX11_blockLine_159 (fun H locs hH hS => ?_)
            obtain ⟨X34, eX34⟩ : ∃ z, z = zU X32 (i + 11) (0) (min ((14 : Int)) ((X4 (i + 11) (0)) + 1)) := ⟨_, rfl⟩
            rw [← eX34] at hH
            have hF := hF X34 eX34 hH.2.2.1
            refine zd_iconst C dX11_blockLine_160 ?_
            exact zd_zret C hr hlk hH hS (by decide) (⟨rfl, _, rfl, hF⟩) dX11_blockLine_161
        · have hF := hF.2 c24
          refine zd_iconst C dX11_blockLine_67 ?_
          refine lv_istore_n (lv' := [(3, .int (zI (0))), (2, .int (zI ((X4 (i + 11) (0)) + 1))), (0, .ref (bs + (i))), (1, .int (zI (a)))]) C.1 C.2.1 dX11_blockLine_68 rfl hl (by decide) rfl (fun ls hl => ?_)
          obtain ⟨hI35, hF⟩ := hF
          have L35 : ∀ (fu : Nat) (j : Int) (X36 : Nat → Int → Int), rI j → (∃ q : Nat, j = q ∧ q ≤ 3 ∧ (∀ z, z ≠ i + 11 → X36 z = X20 z) ∧ X36 (i + 11) = upS (X20 (i + 11)) (1 + 13 * X20 (i + 11) 0) (fun j => X20 (i + 12) j) q) → ((3 - (j)).toNat) < fu → ∀ (H : Heap) (locs : List Loc) (ls : Array Slot), zH D cy bs N kd len X36 Y21 R H → va_S (zA bs) s.heap H locs → lv_has ls 4 [(3, .int (zI (j))), (2, .int (zI ((X4 (i + 11) (0)) + 1))), (0, .ref (bs + (i))), (1, .int (zI (a)))] → W p l e (zRm 4 91) s m args below meth c H locs 0 0 (MQ below (zQi D cy bs N kd len (fun r st => st.2.2 = R ∧ ∃ rb : Bool, r = bz rb ∧ (lnP 1 422726034283 (a) X (st.1) Y (st.2.1) i rb))) args s 0 0 (zA bs)) (F0 m 69 ls []) := by
            intro fu
            induction fu with
            | zero => intro j X36 _ _ hmu; exact absurd hmu (Nat.not_lt_zero _)
            | succ fu ih35 =>
              intro j X36 hj hI hmu35 H locs ls hH hS hl
              have hF := hF j X36 hj hH.2.2.1 hI
              refine lv_iload_n C.1 C.2.1 dX11_blockLine_69 rfl (lv_at hl 0 rfl) ?_
              refine zd_iconst C dX11_blockLine_70 ?_
              refine zd_icmp_ge C hj (by decide) 101 dX11_blockLine_71 (by decide) (fun c37 => ?_) (fun c37 => ?_)
              · have hF := hF.1 c37
                refine lv_aload_n C.1 C.2.1 dX11_blockLine_101 rfl (lv_at hl 2 rfl) ?_
                refine zg11_20 C hH (zM_n0 hM) (zM_k0 hM) q_1307 (zM_r11 hM) dX11_blockLine_102 ?_
                refine zd_iconst C dX11_blockLine_105 ?_
                refine zd_bipush C (by decide) dX11_blockLine_106 ?_
                refine lv_iload_n C.1 C.2.1 dX11_blockLine_108 rfl (lv_at hl 1 rfl) ?_
                refine zd_iconst C dX11_blockLine_109 ?_
                refine zd_isub C dX11_blockLine_110 ?_
                refine zd_imul C dX11_blockLine_111 ?_
                refine zd_iadd C dX11_blockLine_112 ?_
                refine zd_iconst C dX11_blockLine_113 ?_
                obtain ⟨o38, hF⟩ := hF
                refine zd_iast C hH hS (zM_n11 hM) (zM_k11 hM) o38.1 (by rw [zM_l11 hM]; exact o38.2) (by rw [zM_l11 hM]; decide) (by decide) dX11_blockLine_114 (fun H locs hH hS => ?_)
                obtain ⟨X39, eX39⟩ : ∃ z, z = zU X36 (i + 11) (4 + (13 * (((X4 (i + 11) (0)) + 1) - 1))) (0) := ⟨_, rfl⟩
                rw [← eX39] at hH
                have hF := hF X39 eX39 hH.2.2.1
                refine lv_aload_n C.1 C.2.1 dX11_blockLine_115 rfl (lv_at hl 2 rfl) ?_
                refine lv_iload_n C.1 C.2.1 dX11_blockLine_116 rfl (lv_at hl 1 rfl) ?_
                refine zd_bipush C (by decide) dX11_blockLine_117 ?_
                refine zd_icmp_ge C o6 (by decide) 133 dX11_blockLine_119 (by decide) (fun c40 => ?_) (fun c40 => ?_)
                · have hF := hF.1 c40
                  refine zd_sipush C (by decide) dX11_blockLine_133 ?_
                  refine zp11_23 C hH hS (zM_n0 hM) (zM_k0 hM) q_1310 (by decide) dX11_blockLine_136 (fun H locs hH hS => ?_)
                  obtain ⟨X41, eX41⟩ : ∃ z, z = zU X39 (i) 23 (182) := ⟨_, rfl⟩
                  rw [← eX41] at hH
                  have hF := hF X41 eX41 hH.2.2.1
                  refine lv_aload_n C.1 C.2.1 dX11_blockLine_139 rfl (lv_at hl 2 rfl) ?_
                  refine zg11_20 C hH (zM_n0 hM) (zM_k0 hM) q_1307 (zM_r11 hM) dX11_blockLine_140 ?_
                  refine zd_sipush C (by decide) dX11_blockLine_143 ?_
                  refine zd_iconst C dX11_blockLine_146 ?_
                  refine zd_iast C hH hS (zM_n11 hM) (zM_k11 hM) (by decide) (by rw [zM_l11 hM]; decide) (by rw [zM_l11 hM]; decide) (by decide) dX11_blockLine_147 (fun H locs hH hS => ?_)
                  obtain ⟨X42, eX42⟩ : ∃ z, z = zU X41 (i + 11) (182) (0) := ⟨_, rfl⟩
                  rw [← eX42] at hH
                  have hF := hF X42 eX42 hH.2.2.1
                  refine lv_aload_n C.1 C.2.1 dX11_blockLine_148 rfl (lv_at hl 2 rfl) ?_
                  refine zg11_20 C hH (zM_n0 hM) (zM_k0 hM) q_1307 (zM_r11 hM) dX11_blockLine_149 ?_
                  refine zd_iconst C dX11_blockLine_152 ?_
                  refine zd_bipush C (by decide) dX11_blockLine_153 ?_
                  refine lv_iload_n C.1 C.2.1 dX11_blockLine_155 rfl (lv_at hl 1 rfl) ?_
                  refine zgoi (zrunS (As := [.int (zI (14)), .int (zI ((X4 (i + 11) (0)) + 1))]) (rest := [.int (zI (0)), .ref (bs + (i + 11))]) C hE hH hS hl.1 (c_X11_lesser (l := l)  (14) (by decide) ((X4 (i + 11) (0)) + 1) o6) k_RX11_184 ⟨Nat.le_of_ble_eq_true rfl, Nat.le_of_ble_eq_true rfl⟩ rfl (Nat.le_of_ble_eq_true rfl) dX11_blockLine_156 ⟨Nat.zero_le _, Nat.zero_le _⟩) hS (fun rq Xq Yq Rq H locs hrq hq hH hS => ?_)
                  obtain ⟨h91, h92⟩ := hq
                  have h93 : Xq = X42 := congrArg (fun z => z.1) h92
                  have h94 : Yq = Y21 := congrArg (fun z => z.2.1) h92
                  have h95 : Rq = R := congrArg (fun z => z.2.2) h92
                  rw [h93, h94, h95] at hH
                  subst h91
                  have hr43 := hrq
                  have hF := hF hr43
                  refine zd_iast C hH hS (zM_n11 hM) (zM_k11 hM) (by decide) (by rw [zM_l11 hM]; decide) (by rw [zM_l11 hM]; decide) hr43 dX11_blockLine_159 (fun H locs hH hS => ?_)
                  obtain ⟨X44, eX44⟩ : ∃ z, z = zU X42 (i + 11) (0) (min ((14 : Int)) ((X4 (i + 11) (0)) + 1)) := ⟨_, rfl⟩
                  rw [← eX44] at hH
                  have hF := hF X44 eX44 hH.2.2.1
                  refine zd_iconst C dX11_blockLine_160 ?_
                  exact zd_zret C hr hlk hH hS (by decide) (⟨rfl, _, rfl, hF⟩) dX11_blockLine_161
                · have hF := hF.2 c40
                  refine zd_iconst C dX11_blockLine_122 ?_
                  refine zd_bipush C (by decide) dX11_blockLine_123 ?_
                  refine lv_iload_n C.1 C.2.1 dX11_blockLine_125 rfl (lv_at hl 1 rfl) ?_
                  refine zd_iconst C dX11_blockLine_126 ?_
                  refine zd_isub C dX11_blockLine_127 ?_
                  refine zd_imul C dX11_blockLine_128 ?_
                  refine zd_iadd C dX11_blockLine_129 ?_
                  refine lv_goto (tgt := 136) C.1 C.2.1 dX11_blockLine_130 (by decide) ?_
                  obtain ⟨o45, hF⟩ := hF
                  refine zp11_23 C hH hS (zM_n0 hM) (zM_k0 hM) q_1310 o45 dX11_blockLine_136 (fun H locs hH hS => ?_)
                  obtain ⟨X46, eX46⟩ : ∃ z, z = zU X39 (i) 23 (4 + (13 * (((X4 (i + 11) (0)) + 1) - 1))) := ⟨_, rfl⟩
                  rw [← eX46] at hH
                  have hF := hF X46 eX46 hH.2.2.1
                  refine lv_aload_n C.1 C.2.1 dX11_blockLine_139 rfl (lv_at hl 2 rfl) ?_
                  refine zg11_20 C hH (zM_n0 hM) (zM_k0 hM) q_1307 (zM_r11 hM) dX11_blockLine_140 ?_
                  refine zd_sipush C (by decide) dX11_blockLine_143 ?_
                  refine zd_iconst C dX11_blockLine_146 ?_
                  refine zd_iast C hH hS (zM_n11 hM) (zM_k11 hM) (by decide) (by rw [zM_l11 hM]; decide) (by rw [zM_l11 hM]; decide) (by decide) dX11_blockLine_147 (fun H locs hH hS => ?_)
                  obtain ⟨X47, eX47⟩ : ∃ z, z = zU X46 (i + 11) (182) (0) := ⟨_, rfl⟩
                  rw [← eX47] at hH
                  have hF := hF X47 eX47 hH.2.2.1
                  refine lv_aload_n C.1 C.2.1 dX11_blockLine_148 rfl (lv_at hl 2 rfl) ?_
                  refine zg11_20 C hH (zM_n0 hM) (zM_k0 hM) q_1307 (zM_r11 hM) dX11_blockLine_149 ?_
                  refine zd_iconst C dX11_blockLine_152 ?_
                  refine zd_bipush C (by decide) dX11_blockLine_153 ?_
                  refine lv_iload_n C.1 C.2.1 dX11_blockLine_155 rfl (lv_at hl 1 rfl) ?_
                  refine zgoi (zrunS (As := [.int (zI (14)), .int (zI ((X4 (i + 11) (0)) + 1))]) (rest := [.int (zI (0)), .ref (bs + (i + 11))]) C hE hH hS hl.1 (c_X11_lesser (l := l)  (14) (by decide) ((X4 (i + 11) (0)) + 1) o6) k_RX11_184 ⟨Nat.le_of_ble_eq_true rfl, Nat.le_of_ble_eq_true rfl⟩ rfl (Nat.le_of_ble_eq_true rfl) dX11_blockLine_156 ⟨Nat.zero_le _, Nat.zero_le _⟩) hS (fun rq Xq Yq Rq H locs hrq hq hH hS => ?_)
                  obtain ⟨h91, h92⟩ := hq
                  have h93 : Xq = X47 := congrArg (fun z => z.1) h92
                  have h94 : Yq = Y21 := congrArg (fun z => z.2.1) h92
                  have h95 : Rq = R := congrArg (fun z => z.2.2) h92
                  rw [h93, h94, h95] at hH
                  subst h91
                  have hr48 := hrq
                  have hF := hF hr48
                  refine zd_iast C hH hS (zM_n11 hM) (zM_k11 hM) (by decide) (by rw [zM_l11 hM]; decide) (by rw [zM_l11 hM]; decide) hr48 dX11_blockLine_159 (fun H locs hH hS => ?_)
                  obtain ⟨X49, eX49⟩ : ∃ z, z = zU X47 (i + 11) (0) (min ((14 : Int)) ((X4 (i + 11) (0)) + 1)) := ⟨_, rfl⟩
                  rw [← eX49] at hH
                  have hF := hF X49 eX49 hH.2.2.1
                  refine zd_iconst C dX11_blockLine_160 ?_
                  exact zd_zret C hr hlk hH hS (by decide) (⟨rfl, _, rfl, hF⟩) dX11_blockLine_161
              · have hF := hF.2 c37
                refine lv_aload_n C.1 C.2.1 dX11_blockLine_74 rfl (lv_at hl 2 rfl) ?_
                refine zg11_20 C hH (zM_n0 hM) (zM_k0 hM) q_1307 (zM_r11 hM) dX11_blockLine_75 ?_
                refine zd_iconst C dX11_blockLine_78 ?_
                refine zd_bipush C (by decide) dX11_blockLine_79 ?_
                refine lv_iload_n C.1 C.2.1 dX11_blockLine_81 rfl (lv_at hl 1 rfl) ?_
                refine zd_iconst C dX11_blockLine_82 ?_
                refine zd_isub C dX11_blockLine_83 ?_
                refine zd_imul C dX11_blockLine_84 ?_
                refine zd_iadd C dX11_blockLine_85 ?_
                refine lv_iload_n C.1 C.2.1 dX11_blockLine_86 rfl (lv_at hl 0 rfl) ?_
                refine zd_iadd C dX11_blockLine_87 ?_
                refine lv_aload_n C.1 C.2.1 dX11_blockLine_88 rfl (lv_at hl 2 rfl) ?_
                refine zg11_21 C hH (zM_n0 hM) (zM_k0 hM) q_1308 (zM_r12 hM) dX11_blockLine_89 ?_
                refine lv_iload_n C.1 C.2.1 dX11_blockLine_92 rfl (lv_at hl 0 rfl) ?_
                obtain ⟨o50, hF⟩ := hF
                refine zd_iald C hH (zM_n12 hM) (zM_k12 hM) o50.1 (by rw [zM_l12 hM]; exact o50.2) (by rw [zM_l12 hM]; decide) dX11_blockLine_93 ?_
                obtain ⟨o51, hF⟩ := hF
                refine zd_iast C hH hS (zM_n11 hM) (zM_k11 hM) o51.1 (by rw [zM_l11 hM]; exact o51.2) (by rw [zM_l11 hM]; decide) (hH.2.2.1 _ _) dX11_blockLine_94 (fun H locs hH hS => ?_)
                obtain ⟨X52, eX52⟩ : ∃ z, z = zU X36 (i + 11) ((1 + (13 * (((X4 (i + 11) (0)) + 1) - 1))) + j) (X36 (i + 12) (j)) := ⟨_, rfl⟩
                rw [← eX52] at hH
                have hF := hF X52 eX52 hH.2.2.1
                refine zd_iinc (k := 0) (lv' := [(3, .int (zI (j + 1))), (2, .int (zI ((X4 (i + 11) (0)) + 1))), (0, .ref (bs + (i))), (1, .int (zI (a)))]) C hl rfl dX11_blockLine_95 (by decide) rfl (fun ls hl => ?_)
                refine lv_goto (tgt := 69) C.1 C.2.1 dX11_blockLine_98 (by decide) ?_
                obtain ⟨o53, hF⟩ := hF
                exact ih35 (j + 1) X52 o53 hF.1 (Nat.lt_of_lt_of_le hF.2 (Nat.le_of_lt_succ hmu35)) _ _ _ hH hS (lv_sub hl [0, 1, 2, 3] rfl)
          exact L35 (((3 - ((0 : Int))).toNat) + 1) ((0 : Int)) X20 (by decide) hI35 (Nat.lt_succ_self _) _ _ _ hH hS (lv_sub hl [0, 1, 2, 3] rfl)
      · have hF := hF.2 c23
        refine zd_iconst C dX11_blockLine_59 ?_
        exact zd_zret C hr hlk hH hS (by decide) (⟨rfl, _, rfl, hF⟩) dX11_blockLine_60
theorem v_X11_blockLine {X Y : Nat → Int → Int} {R : Nat → Int → Option Nat} {i : Nat} (a : Int) (ha : rI a) (hp : oRd X i ∧ bnD 1 X i) : F_X11_blockLine i X Y R a := by
  unfold F_X11_blockLine
  intro hX hY
  obtain ⟨hr, hbd⟩ := hp
  have hbd' : (0 ≤ X (i + 11) 0 ∧ X (i + 11) 0 ≤ 14) ∧ _ := hbd
  have hb0 := hbd'.1
  refine ⟨?_, ?_⟩
  · first | omega | exact ⟨by omega, by omega⟩ | decide | assumption | exact ⟨by omega, by omega, by omega⟩ | exact ⟨by decide, by decide⟩
  intro X2
  intro rX2
  intro h1
  rw [ifd] at h1
  refine ⟨?_, ?_⟩
  · rw [h1]
    split
    · exact oRd_k (adF_o.1 _ (by omega)) (adF_o.2 _ (by decide) (by decide)) (adF_o.2 _ (by decide) (by decide)) hr
    · exact hr
  intro X4
  intro rX4
  intro Y5
  intro rY5
  intro h2
  obtain ⟨r3, rX4, k5, u5, v5, w5, g5, l5, qX4, st5⟩ := fu_st (b := a) hr h1 h2
  have qX4n : (X4 i 12).toNat = (X i 12).toNat := by rw [l5]
  have b4 : X4 (i + 11) 0 = X (i + 11) 0 := by rw [u5]
  refine ⟨?_, ?_⟩
  · rw [b4]
    exact ⟨by omega, by omega⟩
  intro _
  refine ⟨?_, ?_⟩
  · rw [b4]
    exact ⟨by omega, by omega⟩
  refine ⟨?_, ?_⟩
  · exact ⟨rX4, by decide, by decide⟩
  intro r12
  intro X10
  intro rX10
  intro Y11
  intro rY11
  intro h3
  obtain ⟨kX10, uX10, wX10, fX10, tX10⟩ := tk_st rX4 h3
  refine ⟨?_, ?_⟩
  · intro c1
    refine ⟨(k5).tr kX10, fun g => absurd g (by decide), fun s hs hw hb hk => ?_⟩
    have l0 := ln_0 (of := 1) (k := 0) (s := s) hr h1 h2 hs hb hk (fun z => by
      rw [(hs.2.2 z).1 0 (by decide) (by decide)]
      rfl)
    obtain ⟨n0, s0⟩ := l0
    have l1 := ln_s (of := 1) (k := 0) (idx := 0) (lo := 0) (hi := (min (X4 (i + 11) 0 + 1) 15 - 1)) (but := (-1)) rX4 h3 qX4 qX4n n0 s0 (fun z k3 => by
      rw [val_m1 (tkV_b k3).1]
      have q := (hs.2.2 (fl0_n3 (by decide) z).1).1 0 (by decide) (by decide)
      show mIn _ 0 _ = mIn _ 0 (s.2.1.1 0)
      rw [← q, u5, show min (X (i + 11) 0 + 1) 15 - 1 = X (i + 11) 0 by omega])
    obtain ⟨n9, x9⟩ := l1.1 c1
    have ek : kwT (X (i + 1)) (X i 12).toNat s.1 1 = 0 := by
      show kwN 1 (wdS X Y i s) = _
      rw [← hw]
      rfl
    rw [rdL_l ek (by decide) (rdN_l n9 2)]
    exact ⟨rfl, x9⟩
  intro c2
  have rX10 := (tX10 c2).1
  have xX10 := (tX10 c2).2.1
  have qX10 : X10 (i + 1) = X (i + 1) := (kX10.1 _ (by omega) (by omega) (by omega)).trans qX4
  have qX10n : (X10 i 12).toNat = (X i 12).toNat := by rw [kX10.2.1 12 (by omega)]; exact qX4n
  refine ⟨?_, ?_⟩
  · exact ⟨rX10, by decide, by decide⟩
  intro r17
  intro X15
  intro rX15
  intro Y16
  intro rY16
  intro h4
  obtain ⟨kX15, uX15, wX15, fX15, tX15⟩ := tk_st rX10 h4
  refine ⟨?_, ?_⟩
  · intro c3
    refine ⟨((k5).tr kX10).tr kX15, fun g => absurd g (by decide), fun s hs hw hb hk => ?_⟩
    have l0 := ln_0 (of := 1) (k := 0) (s := s) hr h1 h2 hs hb hk (fun z => by
      rw [(hs.2.2 z).1 0 (by decide) (by decide)]
      rfl)
    obtain ⟨n0, s0⟩ := l0
    have l1 := ln_s (of := 1) (k := 0) (idx := 0) (lo := 0) (hi := (min (X4 (i + 11) 0 + 1) 15 - 1)) (but := (-1)) rX4 h3 qX4 qX4n n0 s0 (fun z k3 => by
      rw [val_m1 (tkV_b k3).1]
      have q := (hs.2.2 (fl0_n3 (by decide) z).1).1 0 (by decide) (by decide)
      show mIn _ 0 _ = mIn _ 0 (s.2.1.1 0)
      rw [← q, u5, show min (X (i + 11) 0 + 1) 15 - 1 = X (i + 11) 0 by omega])
    obtain ⟨k1, v1, w1, f1, n1, s1, z1⟩ := l1.2 c2
    have l2 := ln_s (of := 1) (k := 0) (idx := 1) (lo := 0) (hi := 99) (but := (-1)) rX10 h4 qX10 qX10n n1 s1 (fun z k3 => by
      rw [val_m1 (tkV_b k3).1]
      rfl)
    obtain ⟨n9, x9⟩ := l2.1 c3
    have ek : kwT (X (i + 1)) (X i 12).toNat s.1 1 = 0 := by
      show kwN 1 (wdS X Y i s) = _
      rw [← hw]
      rfl
    rw [rdL_l ek (by decide) (rdN_l n9 1)]
    exact ⟨rfl, x9⟩
  intro c4
  have rX15 := (tX15 c4).1
  have xX15 := (tX15 c4).2.1
  have qX15 : X15 (i + 1) = X (i + 1) := (kX15.1 _ (by omega) (by omega) (by omega)).trans qX10
  have qX15n : (X15 i 12).toNat = (X i 12).toNat := by rw [kX15.2.1 12 (by omega)]; exact qX10n
  refine ⟨?_, ?_⟩
  · exact ⟨rX15, by decide, by decide⟩
  intro r22
  intro X20
  intro rX20
  intro Y21
  intro rY21
  intro h5
  obtain ⟨kX20, uX20, wX20, fX20, tX20⟩ := tk_st rX15 h5
  refine ⟨?_, ?_⟩
  · intro c5
    have rX20 := (tX20 c5).1
    have xX20 := (tX20 c5).2.1
    have qX20 : X20 (i + 1) = X (i + 1) := (kX20.1 _ (by omega) (by omega) (by omega)).trans qX15
    have qX20n : (X20 i 12).toNat = (X i 12).toNat := by rw [kX20.2.1 12 (by omega)]; exact qX15n
    have b20 : X20 (i + 11) = X (i + 11) := by rw [uX20, uX15, uX10, u5]
    refine ⟨?_, ?_⟩
    · intro c6
      refine ⟨?_, ?_⟩
      · intro c7
        intro X26
        intro eX26
        intro rX26
        intro X27
        intro eX27
        intro rX27
        intro _
        intro X29
        intro eX29
        intro rX29
        have o29 : ∀ z, z ≠ i → z ≠ i + 11 → X29 z = X20 z := fun z h1 h2 => by rw [eX29, zU_o h2, eX27, zU_o h2, eX26, zU_o h1]
        have n29 : ∀ s, s ≠ 23 → X29 i s = X20 i s := fun s hs => by rw [eX29, zU_o (by omega), eX27, zU_o (by omega), eX26, zU_n (by omega)]
        have p29 : X29 i 23 = 182 := by rw [eX29, zU_o (by omega), eX27, zU_o (by omega), eX26, zU_s]
        have t29 : X29 (i + 11) = upI (upI (X (i + 11)) 182 0) 0 14 := by
          rw [eX29, zU_up, eX27, zU_up, eX26, zU_o (by omega), b20, b4, show min 14 (X (i + 11) 0 + 1) = 14 by omega]
        refine ⟨((((k5).tr kX10).tr kX15).tr kX20).tr ⟨fun z h1 h2 _ => o29 z h1 h2, fun s hs => n29 s (by omega), fun _ _ => rfl⟩, fun _ => ⟨oRd_k (o29 _ (by omega) (by omega)) (n29 _ (by decide)) (n29 _ (by decide)) rX20, ?_⟩, fun s hs  hw hb hk => ?_⟩
        · show (0 ≤ X29 (i + 11) 0 ∧ X29 (i + 11) 0 ≤ 14) ∧ (X29 i 23 = 0 ∨ ((X29 i 23 = 182 ∨ ∃ k : Int, 1 ≤ k ∧ k ≤ 14 ∧ X29 i 23 = 4 + 13 * (k - 1)) ∧ 0 ≤ X29 (i + 11) (X29 i 23) ∧ X29 (i + 11) (X29 i 23) ≤ 3))
          have e0 : X29 (i + 11) 0 = 14 := by
            rw [t29]
            exact if_pos rfl
          have e1 : X29 (i + 11) 182 = 0 := by
            rw [t29, upI_ne (by decide)]
            exact if_pos rfl
          rw [p29, e0, e1]
          exact ⟨by decide, Or.inr ⟨Or.inl rfl, by decide, by decide⟩⟩
        · have l0 := ln_0 (of := 1) (k := 0) (s := s) hr h1 h2 hs hb hk (fun z => by
            rw [(hs.2.2 z).1 0 (by decide) (by decide)]
            rfl)
          obtain ⟨n0, s0⟩ := l0
          have l1 := ln_s (of := 1) (k := 0) (idx := 0) (lo := 0) (hi := (min (X4 (i + 11) 0 + 1) 15 - 1)) (but := (-1)) rX4 h3 qX4 qX4n n0 s0 (fun z k3 => by
            rw [val_m1 (tkV_b k3).1]
            have q := (hs.2.2 (fl0_n3 (by decide) z).1).1 0 (by decide) (by decide)
            show mIn _ 0 _ = mIn _ 0 (s.2.1.1 0)
            rw [← q, u5, show min (X (i + 11) 0 + 1) 15 - 1 = X (i + 11) 0 by omega])
          obtain ⟨k1, v1, w1, f1, n1, s1, z1⟩ := l1.2 c2
          have l2 := ln_s (of := 1) (k := 0) (idx := 1) (lo := 0) (hi := 99) (but := (-1)) rX10 h4 qX10 qX10n n1 s1 (fun z k3 => by
            rw [val_m1 (tkV_b k3).1]
            rfl)
          obtain ⟨k2, v2, w2, f2, n2, s2, z2⟩ := l2.2 c4
          have l3 := ln_s (of := 1) (k := 0) (idx := 2) (lo := 0) (hi := 5) (but := (-1)) rX15 h5 qX15 qX15n n2 s2 (fun z k3 => by
            rw [val_m1 (tkV_b k3).1]
            rfl)
          obtain ⟨k3, v3, w3, f3, n3, s3, z3⟩ := l3.2 c5
          have ek : kwT (X (i + 1)) (X i 12).toNat s.1 1 = 0 := by
            show kwN 1 (wdS X Y i s) = _
            rw [← hw]
            rfl
          rw [rdL_n ek (by decide) n3]
          refine ⟨rfl, rdS_tl s3 (fun z h1 h2 => o29 z h1 h2) (fun s hs => n29 s hs) (fun z => ?_)⟩
          have z0 : (f1L (X (i + 1)) (X i 12).toNat 1 0 s).1 = 0 := (z1 (z2 (z3 z)))
          have z2 := fl0_n3 (by decide) z0
          obtain ⟨q1, q2⟩ := s3.2.2 z
          dsimp only at q1 q2
          have e0 : X (i + 11) 0 = s.2.1.1 0 := by
            rw [← b20]
            exact q1 0 (by decide) (by decide)
          have e : decide (14 ≤ s.2.1.1 0) = false := z2.2
          have e := of_decide_eq_false e
          omega
      intro c8
      omega
    intro c9
    refine ⟨?_, ?_⟩
    · exact ⟨0, rfl, by decide, fun _ _ => rfl, rfl⟩
    intro j X36
    intro _
    intro rX36
    intro h6
    obtain ⟨q, hq, q3, o, h36⟩ := h6
    subst hq
    refine ⟨?_, ?_⟩
    · intro c10
      have e3 : q = 3 := by omega
      subst e3
      refine ⟨?_, ?_⟩
      · first | omega | exact ⟨by omega, by omega⟩ | decide | assumption | exact ⟨by omega, by omega, by omega⟩ | exact ⟨by decide, by decide⟩
      intro X39
      intro eX39
      intro rX39
      refine ⟨?_, ?_⟩
      · intro c11
        omega
      intro c12
      refine ⟨?_, ?_⟩
      · first | omega | exact ⟨by omega, by omega⟩ | decide | assumption | exact ⟨by omega, by omega, by omega⟩ | exact ⟨by decide, by decide⟩
      intro X46
      intro eX46
      intro rX46
      intro X47
      intro eX47
      intro rX47
      intro _
      intro X49
      intro eX49
      intro rX49
      have o49 : ∀ z, z ≠ i → z ≠ i + 11 → X49 z = X20 z := fun z h1 h2 => by rw [eX49, zU_o h2, eX47, zU_o h2, eX46, zU_o h1, eX39, zU_o h2, o z h2]
      have n49 : ∀ s, s ≠ 23 → X49 i s = X20 i s := fun s hs => by rw [eX49, zU_o (by omega), eX47, zU_o (by omega), eX46, zU_n (by omega), eX39, zU_o (by omega), o i (by omega)]
      have p49 : X49 i 23 = 4 + 13 * X (i + 11) 0 := by
        rw [eX49, zU_o (by omega), eX47, zU_o (by omega), eX46, zU_s, b4]
        omega
      have t49 : X49 (i + 11) = upI (upI (upI (upS (X (i + 11)) (1 + 13 * X (i + 11) 0) (fun j => X20 (i + 12) j) 3) (4 + 13 * X (i + 11) 0) 0) 182 0) 0 (X (i + 11) 0 + 1) := by
        rw [eX49, zU_up, eX47, zU_up, eX46, zU_o (by omega), eX39, zU_up, h36, b20, b4, show min 14 (X (i + 11) 0 + 1) = X (i + 11) 0 + 1 by omega, show 4 + 13 * (X (i + 11) 0 + 1 - 1) = 4 + 13 * X (i + 11) 0 by omega]
      refine ⟨((((k5).tr kX10).tr kX15).tr kX20).tr ⟨fun z h1 h2 _ => o49 z h1 h2, fun s hs => n49 s (by omega), fun _ _ => rfl⟩, fun _ => ⟨oRd_k (o49 _ (by omega) (by omega)) (n49 _ (by decide)) (n49 _ (by decide)) rX20, ?_⟩, fun s hs  hw hb hk => ?_⟩
      · show (0 ≤ X49 (i + 11) 0 ∧ X49 (i + 11) 0 ≤ 14) ∧ (X49 i 23 = 0 ∨ ((X49 i 23 = 182 ∨ ∃ k : Int, 1 ≤ k ∧ k ≤ 14 ∧ X49 i 23 = 4 + 13 * (k - 1)) ∧ 0 ≤ X49 (i + 11) (X49 i 23) ∧ X49 (i + 11) (X49 i 23) ≤ 3))
        have e0 : X49 (i + 11) 0 = X (i + 11) 0 + 1 := by
          rw [t49]
          exact if_pos rfl
        have e1 : X49 (i + 11) (4 + 13 * X (i + 11) 0) = 0 := by
          rw [t49, upI_ne (by omega), upI_ne (by omega)]
          exact if_pos rfl
        rw [p49, e0, e1]
        exact ⟨by omega, Or.inr ⟨Or.inr ⟨X (i + 11) 0 + 1, by omega, by omega, by omega⟩, by decide, by decide⟩⟩
      · have l0 := ln_0 (of := 1) (k := 0) (s := s) hr h1 h2 hs hb hk (fun z => by
          rw [(hs.2.2 z).1 0 (by decide) (by decide)]
          rfl)
        obtain ⟨n0, s0⟩ := l0
        have l1 := ln_s (of := 1) (k := 0) (idx := 0) (lo := 0) (hi := (min (X4 (i + 11) 0 + 1) 15 - 1)) (but := (-1)) rX4 h3 qX4 qX4n n0 s0 (fun z k3 => by
          rw [val_m1 (tkV_b k3).1]
          have q := (hs.2.2 (fl0_n3 (by decide) z).1).1 0 (by decide) (by decide)
          show mIn _ 0 _ = mIn _ 0 (s.2.1.1 0)
          rw [← q, u5, show min (X (i + 11) 0 + 1) 15 - 1 = X (i + 11) 0 by omega])
        obtain ⟨k1, v1, w1, f1, n1, s1, z1⟩ := l1.2 c2
        have l2 := ln_s (of := 1) (k := 0) (idx := 1) (lo := 0) (hi := 99) (but := (-1)) rX10 h4 qX10 qX10n n1 s1 (fun z k3 => by
          rw [val_m1 (tkV_b k3).1]
          rfl)
        obtain ⟨k2, v2, w2, f2, n2, s2, z2⟩ := l2.2 c4
        have l3 := ln_s (of := 1) (k := 0) (idx := 2) (lo := 0) (hi := 5) (but := (-1)) rX15 h5 qX15 qX15n n2 s2 (fun z k3 => by
          rw [val_m1 (tkV_b k3).1]
          rfl)
        obtain ⟨k3, v3, w3, f3, n3, s3, z3⟩ := l3.2 c5
        have ek : kwT (X (i + 1)) (X i 12).toNat s.1 1 = 0 := by
          show kwN 1 (wdS X Y i s) = _
          rw [← hw]
          rfl
        rw [rdL_n ek (by decide) n3]
        refine ⟨rfl, rdS_tl s3 (fun z h1 h2 => o49 z h1 h2) (fun s hs => n49 s hs) (fun z => ?_)⟩
        have z0 : (f1L (X (i + 1)) (X i 12).toNat 1 0 s).1 = 0 := (z1 (z2 (z3 z)))
        have z2 := fl0_n3 (by decide) z0
        obtain ⟨q1, q2⟩ := s3.2.2 z
        dsimp only at q1 q2
        have e0 : X (i + 11) 0 = s.2.1.1 0 := by
          rw [← b20]
          exact q1 0 (by decide) (by decide)
        rw [t49, p49, e0]
        refine ⟨fun y y0 y1 => ?_, rfl⟩
        show upI (upI (upI (upS _ _ _ 3) _ 0) 182 0) 0 _ y = upI (upI (upI (upS s.2.1.1 (1 + 13 * s.2.1.1 0) _ 3) (4 + 13 * s.2.1.1 0) 0) 182 0) 0 (s.2.1.1 0 + 1) y
        refine upI_cg (upI_cg (upI_cg (upS_c ((by rw [← b20]; exact q1 y y0 y1) : X (i + 11) y = s.2.1.1 y) 3 (fun j hj => ?_))))
        have hj : j < 3 := hj
        rcases (show j = 0 ∨ j = 1 ∨ j = 2 by omega) with e | e | e
        · subst e
          rw [w3]
          show upI _ 2 _ 0 = _
          rw [upI_ne (by decide), w2]
          show upI _ 1 _ 0 = _
          rw [upI_ne (by decide), w1]
          rfl
        · subst e
          rw [w3]
          show upI _ 2 _ 1 = _
          rw [upI_ne (by decide), w2]
          rfl
        · subst e
          rw [w3]
          rfl
    intro c13
    refine ⟨?_, ?_⟩
    · first | omega | exact ⟨by omega, by omega⟩ | decide | assumption | exact ⟨by omega, by omega, by omega⟩ | exact ⟨by decide, by decide⟩
    refine ⟨?_, ?_⟩
    · first | omega | exact ⟨by omega, by omega⟩ | decide | assumption | exact ⟨by omega, by omega, by omega⟩ | exact ⟨by decide, by decide⟩
    intro X52
    intro eX52
    intro rX52
    refine ⟨?_, ?_⟩
    · first | omega | exact ⟨by omega, by omega⟩ | decide | assumption | exact ⟨by omega, by omega, by omega⟩ | exact ⟨by decide, by decide⟩
    refine ⟨?_, ?_⟩
    · refine ⟨q + 1, by omega, by omega, fun z hz => by rw [eX52, zU_o hz]; exact o z hz, ?_⟩
      rw [eX52, zU_up, h36, o (i + 12) (by omega), b4, b20]
      show upI _ (1 + 13 * (X (i + 11) 0 + 1 - 1) + (q : Int)) _ = upI _ (1 + 13 * X (i + 11) 0 + (q : Int)) _
      rw [show X (i + 11) 0 + 1 - 1 = X (i + 11) 0 by omega]
    first | omega | exact ⟨by omega, by omega⟩ | decide | assumption | exact ⟨by omega, by omega, by omega⟩ | exact ⟨by decide, by decide⟩
  intro c14
  refine ⟨(((k5).tr kX10).tr kX15).tr kX20, fun g => absurd g (by decide), fun s hs hw hb hk => ?_⟩
  have l0 := ln_0 (of := 1) (k := 0) (s := s) hr h1 h2 hs hb hk (fun z => by
    rw [(hs.2.2 z).1 0 (by decide) (by decide)]
    rfl)
  obtain ⟨n0, s0⟩ := l0
  have l1 := ln_s (of := 1) (k := 0) (idx := 0) (lo := 0) (hi := (min (X4 (i + 11) 0 + 1) 15 - 1)) (but := (-1)) rX4 h3 qX4 qX4n n0 s0 (fun z k3 => by
    rw [val_m1 (tkV_b k3).1]
    have q := (hs.2.2 (fl0_n3 (by decide) z).1).1 0 (by decide) (by decide)
    show mIn _ 0 _ = mIn _ 0 (s.2.1.1 0)
    rw [← q, u5, show min (X (i + 11) 0 + 1) 15 - 1 = X (i + 11) 0 by omega])
  obtain ⟨k1, v1, w1, f1, n1, s1, z1⟩ := l1.2 c2
  have l2 := ln_s (of := 1) (k := 0) (idx := 1) (lo := 0) (hi := 99) (but := (-1)) rX10 h4 qX10 qX10n n1 s1 (fun z k3 => by
    rw [val_m1 (tkV_b k3).1]
    rfl)
  obtain ⟨k2, v2, w2, f2, n2, s2, z2⟩ := l2.2 c4
  have l3 := ln_s (of := 1) (k := 0) (idx := 2) (lo := 0) (hi := 5) (but := (-1)) rX15 h5 qX15 qX15n n2 s2 (fun z k3 => by
    rw [val_m1 (tkV_b k3).1]
    rfl)
  obtain ⟨n9, x9⟩ := l3.1 c14
  have ek : kwT (X (i + 1)) (X i 12).toNat s.1 1 = 0 := by
    show kwN 1 (wdS X Y i s) = _
    rw [← hw]
    rfl
  rw [rdL_l ek (by decide) (rdN_l n9 0)]
  exact ⟨rfl, x9⟩
theorem c_X11_blockLine {l : Launch} {D : va_G} {cy : Nat → ClassId} {bs N : Nat} {sa : Nat → Nat} {kd len : Nat → Nat} {X Y : Nat → Int → Int} {R : Nat → Int → Option Nat} {i : Nat} (hM : zM N kd len R i) (a : Int) (ha : rI a) (hp : oRd X i ∧ bnD 1 X i) : Met l yX11_blockLine (.code yX11_blockLine cX11_blockLine 4 (some .boolean) :: zTB) (zRm 4 91) (zPc D cy bs sa N kd len X Y R [.ref (bs + (i)), .int (zI (a))]) (zQi D cy bs N kd len (fun r st => st.2.2 = R ∧ ∃ rb : Bool, r = bz rb ∧ (lnP 1 422726034283 (a) X (st.1) Y (st.2.1) i rb))) 0 0 (zA bs) := w_X11_blockLine hM a ha (v_X11_blockLine a ha hp)
abbrev cX11_payLine : ByteArray := prog_13_method_24_code
def yX11_payLine : MethodName := ⟨RX11, "payLine", "(I)Z"⟩
theorem dX11_payLine_0 : decode cX11_payLine 0 = .ok (.aload_n 0, 1) := by decide +kernel
theorem dX11_payLine_1 : decode cX11_payLine 1 = .ok (.getfield 188, 3) := by decide +kernel
theorem dX11_payLine_4 : decode cX11_payLine 4 = .ok (.ifCond .eq 16, 3) := by decide +kernel
theorem dX11_payLine_7 : decode cX11_payLine 7 = .ok (.aload_n 0, 1) := by decide +kernel
theorem dX11_payLine_8 : decode cX11_payLine 8 = .ok (.getfield 41, 3) := by decide +kernel
theorem dX11_payLine_11 : decode cX11_payLine 11 = .ok (.aload_n 0, 1) := by decide +kernel
theorem dX11_payLine_12 : decode cX11_payLine 12 = .ok (.getfield 188, 3) := by decide +kernel
theorem dX11_payLine_15 : decode cX11_payLine 15 = .ok (.iaload, 1) := by decide +kernel
theorem dX11_payLine_16 : decode cX11_payLine 16 = .ok (.iconst 3, 1) := by decide +kernel
theorem dX11_payLine_17 : decode cX11_payLine 17 = .ok (.if_icmp .ne 9, 3) := by decide +kernel
theorem dX11_payLine_20 : decode cX11_payLine 20 = .ok (.aload_n 0, 1) := by decide +kernel
theorem dX11_payLine_21 : decode cX11_payLine 21 = .ok (.iconst 3, 1) := by decide +kernel
theorem dX11_payLine_22 : decode cX11_payLine 22 = .ok (.iload_n 1, 1) := by decide +kernel
theorem dX11_payLine_23 : decode cX11_payLine 23 = .ok (.invokevirtual 144, 3) := by decide +kernel
theorem dX11_payLine_26 : decode cX11_payLine 26 = .ok (.aload_n 0, 1) := by decide +kernel
theorem dX11_payLine_27 : decode cX11_payLine 27 = .ok (.invokevirtual 152, 3) := by decide +kernel
theorem dX11_payLine_30 : decode cX11_payLine 30 = .ok (.aload_n 0, 1) := by decide +kernel
theorem dX11_payLine_31 : decode cX11_payLine 31 = .ok (.iconst 0, 1) := by decide +kernel
theorem dX11_payLine_32 : decode cX11_payLine 32 = .ok (.iconst 0, 1) := by decide +kernel
theorem dX11_payLine_33 : decode cX11_payLine 33 = .ok (.iconst 5, 1) := by decide +kernel
theorem dX11_payLine_34 : decode cX11_payLine 34 = .ok (.invokevirtual 181, 3) := by decide +kernel
theorem dX11_payLine_37 : decode cX11_payLine 37 = .ok (.ifCond .eq 30, 3) := by decide +kernel
theorem dX11_payLine_40 : decode cX11_payLine 40 = .ok (.aload_n 0, 1) := by decide +kernel
theorem dX11_payLine_41 : decode cX11_payLine 41 = .ok (.iconst 1, 1) := by decide +kernel
theorem dX11_payLine_42 : decode cX11_payLine 42 = .ok (.iconst 0, 1) := by decide +kernel
theorem dX11_payLine_43 : decode cX11_payLine 43 = .ok (.iconst 5, 1) := by decide +kernel
theorem dX11_payLine_44 : decode cX11_payLine 44 = .ok (.aload_n 0, 1) := by decide +kernel
theorem dX11_payLine_45 : decode cX11_payLine 45 = .ok (.getfield 44, 3) := by decide +kernel
theorem dX11_payLine_48 : decode cX11_payLine 48 = .ok (.iconst 0, 1) := by decide +kernel
theorem dX11_payLine_49 : decode cX11_payLine 49 = .ok (.iaload, 1) := by decide +kernel
theorem dX11_payLine_50 : decode cX11_payLine 50 = .ok (.invokevirtual 155, 3) := by decide +kernel
theorem dX11_payLine_53 : decode cX11_payLine 53 = .ok (.ifCond .eq 14, 3) := by decide +kernel
theorem dX11_payLine_56 : decode cX11_payLine 56 = .ok (.aload_n 0, 1) := by decide +kernel
theorem dX11_payLine_57 : decode cX11_payLine 57 = .ok (.iconst 2, 1) := by decide +kernel
theorem dX11_payLine_58 : decode cX11_payLine 58 = .ok (.iconst 1, 1) := by decide +kernel
theorem dX11_payLine_59 : decode cX11_payLine 59 = .ok (.bipush 99, 2) := by decide +kernel
theorem dX11_payLine_61 : decode cX11_payLine 61 = .ok (.invokevirtual 181, 3) := by decide +kernel
theorem dX11_payLine_64 : decode cX11_payLine 64 = .ok (.ifCond .ne 5, 3) := by decide +kernel
theorem dX11_payLine_67 : decode cX11_payLine 67 = .ok (.iconst 0, 1) := by decide +kernel
theorem dX11_payLine_68 : decode cX11_payLine 68 = .ok (.ireturn, 1) := by decide +kernel
theorem dX11_payLine_69 : decode cX11_payLine 69 = .ok (.aload_n 0, 1) := by decide +kernel
theorem dX11_payLine_70 : decode cX11_payLine 70 = .ok (.getfield 188, 3) := by decide +kernel
theorem dX11_payLine_73 : decode cX11_payLine 73 = .ok (.ifCond .eq 80, 3) := by decide +kernel
theorem dX11_payLine_76 : decode cX11_payLine 76 = .ok (.aload_n 0, 1) := by decide +kernel
theorem dX11_payLine_77 : decode cX11_payLine 77 = .ok (.getfield 41, 3) := by decide +kernel
theorem dX11_payLine_80 : decode cX11_payLine 80 = .ok (.aload_n 0, 1) := by decide +kernel
theorem dX11_payLine_81 : decode cX11_payLine 81 = .ok (.getfield 188, 3) := by decide +kernel
theorem dX11_payLine_84 : decode cX11_payLine 84 = .ok (.iaload, 1) := by decide +kernel
theorem dX11_payLine_85 : decode cX11_payLine 85 = .ok (.istore_n 2, 1) := by decide +kernel
theorem dX11_payLine_86 : decode cX11_payLine 86 = .ok (.iconst 0, 1) := by decide +kernel
theorem dX11_payLine_87 : decode cX11_payLine 87 = .ok (.istore_n 3, 1) := by decide +kernel
theorem dX11_payLine_88 : decode cX11_payLine 88 = .ok (.iload_n 3, 1) := by decide +kernel
theorem dX11_payLine_89 : decode cX11_payLine 89 = .ok (.iconst 3, 1) := by decide +kernel
theorem dX11_payLine_90 : decode cX11_payLine 90 = .ok (.if_icmp .ge 47, 3) := by decide +kernel
theorem dX11_payLine_93 : decode cX11_payLine 93 = .ok (.iload_n 2, 1) := by decide +kernel
theorem dX11_payLine_94 : decode cX11_payLine 94 = .ok (.iconst 3, 1) := by decide +kernel
theorem dX11_payLine_95 : decode cX11_payLine 95 = .ok (.if_icmp .ge 42, 3) := by decide +kernel
theorem dX11_payLine_98 : decode cX11_payLine 98 = .ok (.aload_n 0, 1) := by decide +kernel
theorem dX11_payLine_99 : decode cX11_payLine 99 = .ok (.getfield 188, 3) := by decide +kernel
theorem dX11_payLine_102 : decode cX11_payLine 102 = .ok (.sipush 182, 3) := by decide +kernel
theorem dX11_payLine_105 : decode cX11_payLine 105 = .ok (.if_icmp .ge 32, 3) := by decide +kernel
theorem dX11_payLine_108 : decode cX11_payLine 108 = .ok (.aload_n 0, 1) := by decide +kernel
theorem dX11_payLine_109 : decode cX11_payLine 109 = .ok (.getfield 41, 3) := by decide +kernel
theorem dX11_payLine_112 : decode cX11_payLine 112 = .ok (.aload_n 0, 1) := by decide +kernel
theorem dX11_payLine_113 : decode cX11_payLine 113 = .ok (.getfield 188, 3) := by decide +kernel
theorem dX11_payLine_116 : decode cX11_payLine 116 = .ok (.iconst 1, 1) := by decide +kernel
theorem dX11_payLine_117 : decode cX11_payLine 117 = .ok (.iadd, 1) := by decide +kernel
theorem dX11_payLine_118 : decode cX11_payLine 118 = .ok (.iconst 3, 1) := by decide +kernel
theorem dX11_payLine_119 : decode cX11_payLine 119 = .ok (.iload_n 2, 1) := by decide +kernel
theorem dX11_payLine_120 : decode cX11_payLine 120 = .ok (.imul, 1) := by decide +kernel
theorem dX11_payLine_121 : decode cX11_payLine 121 = .ok (.iadd, 1) := by decide +kernel
theorem dX11_payLine_122 : decode cX11_payLine 122 = .ok (.iload_n 3, 1) := by decide +kernel
theorem dX11_payLine_123 : decode cX11_payLine 123 = .ok (.iadd, 1) := by decide +kernel
theorem dX11_payLine_124 : decode cX11_payLine 124 = .ok (.aload_n 0, 1) := by decide +kernel
theorem dX11_payLine_125 : decode cX11_payLine 125 = .ok (.getfield 44, 3) := by decide +kernel
theorem dX11_payLine_128 : decode cX11_payLine 128 = .ok (.iload_n 3, 1) := by decide +kernel
theorem dX11_payLine_129 : decode cX11_payLine 129 = .ok (.iaload, 1) := by decide +kernel
theorem dX11_payLine_130 : decode cX11_payLine 130 = .ok (.iastore, 1) := by decide +kernel
theorem dX11_payLine_131 : decode cX11_payLine 131 = .ok (.iinc 3 1, 3) := by decide +kernel
theorem dX11_payLine_134 : decode cX11_payLine 134 = .ok (.goto (-46), 3) := by decide +kernel
theorem dX11_payLine_137 : decode cX11_payLine 137 = .ok (.aload_n 0, 1) := by decide +kernel
theorem dX11_payLine_138 : decode cX11_payLine 138 = .ok (.getfield 41, 3) := by decide +kernel
theorem dX11_payLine_141 : decode cX11_payLine 141 = .ok (.aload_n 0, 1) := by decide +kernel
theorem dX11_payLine_142 : decode cX11_payLine 142 = .ok (.getfield 188, 3) := by decide +kernel
theorem dX11_payLine_145 : decode cX11_payLine 145 = .ok (.iconst 3, 1) := by decide +kernel
theorem dX11_payLine_146 : decode cX11_payLine 146 = .ok (.iload_n 2, 1) := by decide +kernel
theorem dX11_payLine_147 : decode cX11_payLine 147 = .ok (.iconst 1, 1) := by decide +kernel
theorem dX11_payLine_148 : decode cX11_payLine 148 = .ok (.iadd, 1) := by decide +kernel
theorem dX11_payLine_149 : decode cX11_payLine 149 = .ok (.invokestatic 184, 3) := by decide +kernel
theorem dX11_payLine_152 : decode cX11_payLine 152 = .ok (.iastore, 1) := by decide +kernel
theorem dX11_payLine_153 : decode cX11_payLine 153 = .ok (.iconst 1, 1) := by decide +kernel
theorem dX11_payLine_154 : decode cX11_payLine 154 = .ok (.ireturn, 1) := by decide +kernel
def F_X11_payLine (i : Nat) (X Y : Nat → Int → Int) (R : Nat → Int → Option Nat) (a : Int) : Prop := (∀ i j, rI (X i j)) → (∀ i j, rL (Y i j)) → (∀ (X1 : Nat → Int → Int), (∀ i j, rI (X1 i j)) → (X1 = if (decide (X i 23 = 0) || decide (X (i + 11) (X i 23) = 3)) = true then adF X i 3 (a) else X) → ((oRd X1 i) ∧ (∀ X3 : Nat → Int → Int, (∀ i j, rI (X3 i j)) → ∀ Y4 : Nat → Int → Int, (∀ i j, rL (Y4 i j)) → (tkC X1 (X3) Y (Y4) i ∧ (X3) i 11 = tkN (X1 (i + 1)) (X1 i 12).toNat (X1 i 11).toNat ∧ (X3) i 13 = tkB (X1 (i + 1)) (X1 i 12).toNat (X1 i 11).toNat ∧ (X3) i 14 = tkS (X1 (i + 1)) (X1 i 12).toNat (X1 i 11).toNat ∧ ((X3) i 14 = 3 → (X3) i 15 = tkV (X1 (i + 1)) (X1 i 12).toNat (X1 i 11).toNat) ∧ ((X3) i 14 = 2 → (Y4) i 16 = tkW (X1 (i + 1)) (X1 i 12).toNat (X1 i 11).toNat)) → ((oRd X3 i ∧ 0 ≤ (0 : Int) ∧ (0 : Int) < 4) ∧ (∀ r8 : Bool, ∀ X6 : Nat → Int → Int, (∀ i j, rI (X6 i j)) → ∀ Y7 : Nat → Int → Int, (∀ i j, rL (Y7 i j)) → (r8 = decide (X3 i 14 = 3) ∧ (r8 = false → (X6) = zU X3 i 17 (X3 i 13) ∧ (Y7) = Y4) ∧ (r8 = true → tkC (tbX X3 i ((0 : Int)) ((0 : Int)) ((5 : Int)) (-1)) (X6) Y4 (Y7) i ∧ tkAt (X6) (Y7) i (X3 i 11).toNat ∧ oRd (X6) i)) → (((r8 = false) → (lnQ 1 7364985 (a) X (X6) Y (Y7) i false)) ∧ ((r8 = true) → ((oRd X6 i ∧ 0 ≤ (1 : Int) ∧ (1 : Int) < 4) ∧ (∀ r13 : Bool, ∀ X11 : Nat → Int → Int, (∀ i j, rI (X11 i j)) → ∀ Y12 : Nat → Int → Int, (∀ i j, rL (Y12 i j)) → (r13 = decide (X6 i 14 = 3) ∧ (r13 = false → (X11) = zU X6 i 17 (X6 i 13) ∧ (Y12) = Y7) ∧ (r13 = true → tkC (tbX X6 i ((1 : Int)) ((0 : Int)) ((5 : Int)) (X6 (i + 12) (0))) (X11) Y7 (Y12) i ∧ tkAt (X11) (Y12) i (X6 i 11).toNat ∧ oRd (X11) i)) → (((r13 = false) → (lnQ 1 7364985 (a) X (X11) Y (Y12) i false)) ∧ ((r13 = true) → ((oRd X11 i ∧ 0 ≤ (2 : Int) ∧ (2 : Int) < 4) ∧ (∀ r18 : Bool, ∀ X16 : Nat → Int → Int, (∀ i j, rI (X16 i j)) → ∀ Y17 : Nat → Int → Int, (∀ i j, rL (Y17 i j)) → (r18 = decide (X11 i 14 = 3) ∧ (r18 = false → (X16) = zU X11 i 17 (X11 i 13) ∧ (Y17) = Y12) ∧ (r18 = true → tkC (tbX X11 i ((2 : Int)) ((1 : Int)) ((99 : Int)) (-1)) (X16) Y12 (Y17) i ∧ tkAt (X16) (Y17) i (X11 i 11).toNat ∧ oRd (X16) i)) → (((r18 = true) → ((((X16 (i) 23) = 0) → (lnQ 1 7364985 (a) X (X16) Y (Y17) i true)) ∧ ((¬ ((X16 (i) 23) = 0)) → ((0 ≤ (X16 (i) 23) ∧ (X16 (i) 23) < 183) ∧ ((∃ q : Nat, (0 : Int) = q ∧ q ≤ 3 ∧ (∀ z, z ≠ i + 11 → X16 z = X16 z) ∧ (0 < q → X16 (i + 11) (X16 i 23) < 3 ∧ X16 i 23 < 182) ∧ X16 (i + 11) = upS (X16 (i + 11)) (X16 i 23 + 1 + 3 * X16 (i + 11) (X16 i 23)) (fun j => X16 (i + 12) j) q) ∧ (∀ (j : Int) (X23 : Nat → Int → Int), rI j → (∀ i j, rI (X23 i j)) → (∃ q : Nat, j = q ∧ q ≤ 3 ∧ (∀ z, z ≠ i + 11 → X23 z = X16 z) ∧ (0 < q → X16 (i + 11) (X16 i 23) < 3 ∧ X16 i 23 < 182) ∧ X23 (i + 11) = upS (X16 (i + 11)) (X16 i 23 + 1 + 3 * X16 (i + 11) (X16 i 23)) (fun j => X16 (i + 12) j) q) → (((3 ≤ j) → ((rI ((X16 (i + 11) (X16 (i) 23)) + 1)) ∧ (rI (min ((3 : Int)) ((X16 (i + 11) (X16 (i) 23)) + 1)) → ((0 ≤ (X23 (i) 23) ∧ (X23 (i) 23) < 183) ∧ (∀ X28 : Nat → Int → Int, X28 = zU X23 (i + 11) (X23 (i) 23) (min ((3 : Int)) ((X16 (i + 11) (X16 (i) 23)) + 1)) → (∀ i j, rI (X28 i j)) → (lnQ 1 7364985 (a) X (X28) Y (Y17) i true)))))) ∧ ((¬ (3 ≤ j)) → ((rI (X16 (i + 11) (X16 (i) 23))) ∧ (((3 ≤ (X16 (i + 11) (X16 (i) 23))) → ((rI ((X16 (i + 11) (X16 (i) 23)) + 1)) ∧ (rI (min ((3 : Int)) ((X16 (i + 11) (X16 (i) 23)) + 1)) → ((0 ≤ (X23 (i) 23) ∧ (X23 (i) 23) < 183) ∧ (∀ X34 : Nat → Int → Int, X34 = zU X23 (i + 11) (X23 (i) 23) (min ((3 : Int)) ((X16 (i + 11) (X16 (i) 23)) + 1)) → (∀ i j, rI (X34 i j)) → (lnQ 1 7364985 (a) X (X34) Y (Y17) i true)))))) ∧ ((¬ (3 ≤ (X16 (i + 11) (X16 (i) 23)))) → (((182 ≤ (X23 (i) 23)) → ((rI ((X16 (i + 11) (X16 (i) 23)) + 1)) ∧ (rI (min ((3 : Int)) ((X16 (i + 11) (X16 (i) 23)) + 1)) → ((0 ≤ (X23 (i) 23) ∧ (X23 (i) 23) < 183) ∧ (∀ X39 : Nat → Int → Int, X39 = zU X23 (i + 11) (X23 (i) 23) (min ((3 : Int)) ((X16 (i + 11) (X16 (i) 23)) + 1)) → (∀ i j, rI (X39 i j)) → (lnQ 1 7364985 (a) X (X39) Y (Y17) i true)))))) ∧ ((¬ (182 ≤ (X23 (i) 23))) → ((0 ≤ j ∧ j < 4) ∧ ((0 ≤ ((((X23 (i) 23) + 1) + (3 * (X16 (i + 11) (X16 (i) 23)))) + j) ∧ ((((X23 (i) 23) + 1) + (3 * (X16 (i + 11) (X16 (i) 23)))) + j) < 183) ∧ (∀ X42 : Nat → Int → Int, X42 = zU X23 (i + 11) ((((X23 (i) 23) + 1) + (3 * (X16 (i + 11) (X16 (i) 23)))) + j) (X23 (i + 12) (j)) → (∀ i j, rI (X42 i j)) → ((rI (j + 1)) ∧ (∃ q : Nat, j + 1 = q ∧ q ≤ 3 ∧ (∀ z, z ≠ i + 11 → X42 z = X16 z) ∧ (0 < q → X16 (i + 11) (X16 i 23) < 3 ∧ X16 i 23 < 182) ∧ X42 (i + 11) = upS (X16 (i + 11)) (X16 i 23 + 1 + 3 * X16 (i + 11) (X16 i 23)) (fun j => X16 (i + 12) j) q) ∧ (((3 - (j + 1)).toNat) < ((3 - (j)).toNat))))))))))))))))))) ∧ ((r18 = false) → (lnQ 1 7364985 (a) X (X16) Y (Y17) i false)))))))))))))))) ∧ ((((X (i) 23) = 0) → (∀ X45 : Nat → Int → Int, (∀ i j, rI (X45 i j)) → ((X45) = adF X i ((3 : Int)) (a)) → (X45 = if (decide (X i 23 = 0) || decide (X (i + 11) (X i 23) = 3)) = true then adF X i 3 (a) else X))) ∧ ((¬ ((X (i) 23) = 0)) → ((0 ≤ (X (i) 23) ∧ (X (i) 23) < 183) ∧ (((¬ (X (i + 11) (X (i) 23)) = 3) → (X = if (decide (X i 23 = 0) || decide (X (i + 11) (X i 23) = 3)) = true then adF X i 3 (a) else X)) ∧ ((¬ (¬ (X (i + 11) (X (i) 23)) = 3)) → (∀ X48 : Nat → Int → Int, (∀ i j, rI (X48 i j)) → ((X48) = adF X i ((3 : Int)) (a)) → (X48 = if (decide (X i 23 = 0) || decide (X (i + 11) (X i 23) = 3)) = true then adF X i 3 (a) else X)))))))
set_option maxHeartbeats 4000000 in
set_option maxRecDepth 100000 in
theorem w_X11_payLine {l : Launch} {D : va_G} {cy : Nat → ClassId} {bs N : Nat} {sa : Nat → Nat} {kd len : Nat → Nat} {X Y : Nat → Int → Int} {R : Nat → Int → Option Nat} {i : Nat} (hM : zM N kd len R i) (a : Int) (ha : rI a) (hF : F_X11_payLine i X Y R a) : Met l yX11_payLine (.code yX11_payLine cX11_payLine 4 (some .boolean) :: zTB) (zRm 4 91) (zPc D cy bs sa N kd len X Y R [.ref (bs + (i)), .int (zI (a))]) (zQi D cy bs N kd len (fun r st => st.2.2 = R ∧ ∃ rb : Bool, r = bz rb ∧ (lnQ 1 7364985 (a) X (st.1) Y (st.2.1) i rb))) 0 0 (zA bs) := by
  refine zstart (by decide) (Nat.le_of_ble_eq_true rfl) ?_
  intro p e s m args below meth c ls C hE hH hr hlk hnm hl hargs
  have hF := hF hH.2.2.1 hH.2.2.2
  have hS : va_S (zA bs) s.heap s.heap [] := va_S.rf
  have hl : lv_has ls 4 [(0, .ref (bs + (i))), (1, .int (zI (a)))] := hl
  have J1 : ∀ (X1 : Nat → Int → Int), (X1 = if (decide (X i 23 = 0) || decide (X (i + 11) (X i 23) = 3)) = true then adF X i 3 (a) else X) → ∀ (H : Heap) (locs : List Loc) (ls : Array Slot), zH D cy bs N kd len X1 Y R H → va_S (zA bs) s.heap H locs → lv_has ls 4 [(0, .ref (bs + (i))), (1, .int (zI (a)))] → W p l e (zRm 4 91) s m args below meth c H locs 0 0 (MQ below (zQi D cy bs N kd len (fun r st => st.2.2 = R ∧ ∃ rb : Bool, r = bz rb ∧ (lnQ 1 7364985 (a) X (st.1) Y (st.2.1) i rb))) args s 0 0 (zA bs)) (F0 m 26 ls []) := by
    intro X1  hI H locs ls hH hS hl
    have hF := hF.1 X1  hH.2.2.1 hI
    refine lv_aload_n C.1 C.2.1 dX11_payLine_26 rfl (lv_at hl 0 rfl) ?_
    obtain ⟨o2, hF⟩ := hF
    refine zgov (zrunV (As := []) (rest := []) C hE hH hS hl.1 (c_X11_token (l := l) hM  o2) k_RX11_152 ⟨Nat.le_of_ble_eq_true rfl, Nat.le_of_ble_eq_true rfl⟩ (zM_n0 hM) (zM_k0 hM) rfl rfl rfl (Nat.le_of_ble_eq_true rfl) dX11_payLine_27 ⟨Nat.zero_le _, Nat.zero_le _⟩) hS (fun X3 Y4 Rq H locs hq hH hS => ?_)
    obtain ⟨h9R, hq⟩ := hq
    dsimp only at h9R
    rw [h9R] at hH
    have hF := hF X3 hH.2.2.1 Y4 hH.2.2.2 hq
    refine lv_aload_n C.1 C.2.1 dX11_payLine_30 rfl (lv_at hl 0 rfl) ?_
    refine zd_iconst C dX11_payLine_31 ?_
    refine zd_iconst C dX11_payLine_32 ?_
    refine zd_iconst C dX11_payLine_33 ?_
    obtain ⟨o5, hF⟩ := hF
    refine zgoi (zrunV (As := [.int (zI (0)), .int (zI (0)), .int (zI (5))]) (rest := []) C hE hH hS hl.1 (c_X11_take (l := l) hM (0) (by decide) (0) (by decide) (5) (by decide) o5) k_RX11_181 ⟨Nat.le_of_ble_eq_true rfl, Nat.le_of_ble_eq_true rfl⟩ (zM_n0 hM) (zM_k0 hM) rfl rfl rfl (Nat.le_of_ble_eq_true rfl) dX11_payLine_34 ⟨Nat.zero_le _, Nat.zero_le _⟩) hS (fun rq X6 Y7 Rq H locs hrq hq hH hS => ?_)
    obtain ⟨h9R, hq⟩ := hq
    dsimp only at h9R
    rw [h9R] at hH
    obtain ⟨r8, h91, hq⟩ := hq
    subst h91
    have hF := hF r8 X6 hH.2.2.1 Y7 hH.2.2.2 hq
    refine zd_ifB_eq C 67 dX11_payLine_37 (by decide) (fun c9 => ?_) (fun c9 => ?_)
    · have hF := hF.1 c9
      refine zd_iconst C dX11_payLine_67 ?_
      exact zd_zret C hr hlk hH hS (by decide) (⟨rfl, _, rfl, hF⟩) dX11_payLine_68
    · have hF := hF.2 c9
      refine lv_aload_n C.1 C.2.1 dX11_payLine_40 rfl (lv_at hl 0 rfl) ?_
      refine zd_iconst C dX11_payLine_41 ?_
      refine zd_iconst C dX11_payLine_42 ?_
      refine zd_iconst C dX11_payLine_43 ?_
      refine lv_aload_n C.1 C.2.1 dX11_payLine_44 rfl (lv_at hl 0 rfl) ?_
      refine zg11_21 C hH (zM_n0 hM) (zM_k0 hM) q_1308 (zM_r12 hM) dX11_payLine_45 ?_
      refine zd_iconst C dX11_payLine_48 ?_
      refine zd_iald C hH (zM_n12 hM) (zM_k12 hM) (by decide) (by rw [zM_l12 hM]; decide) (by rw [zM_l12 hM]; decide) dX11_payLine_49 ?_
      obtain ⟨o10, hF⟩ := hF
      refine zgoi (zrunV (As := [.int (zI (1)), .int (zI (0)), .int (zI (5)), .int (zI (X6 (i + 12) (0)))]) (rest := []) C hE hH hS hl.1 (c_X11_takeBut (l := l) hM (1) (by decide) (0) (by decide) (5) (by decide) (X6 (i + 12) (0)) (hH.2.2.1 _ _) o10) k_RX11_155 ⟨Nat.le_of_ble_eq_true rfl, Nat.le_of_ble_eq_true rfl⟩ (zM_n0 hM) (zM_k0 hM) rfl rfl rfl (Nat.le_of_ble_eq_true rfl) dX11_payLine_50 ⟨Nat.zero_le _, Nat.zero_le _⟩) hS (fun rq X11 Y12 Rq H locs hrq hq hH hS => ?_)
      obtain ⟨h9R, hq⟩ := hq
      dsimp only at h9R
      rw [h9R] at hH
      obtain ⟨r13, h91, hq⟩ := hq
      subst h91
      have hF := hF r13 X11 hH.2.2.1 Y12 hH.2.2.2 hq
      refine zd_ifB_eq C 67 dX11_payLine_53 (by decide) (fun c14 => ?_) (fun c14 => ?_)
      · have hF := hF.1 c14
        refine zd_iconst C dX11_payLine_67 ?_
        exact zd_zret C hr hlk hH hS (by decide) (⟨rfl, _, rfl, hF⟩) dX11_payLine_68
      · have hF := hF.2 c14
        refine lv_aload_n C.1 C.2.1 dX11_payLine_56 rfl (lv_at hl 0 rfl) ?_
        refine zd_iconst C dX11_payLine_57 ?_
        refine zd_iconst C dX11_payLine_58 ?_
        refine zd_bipush C (by decide) dX11_payLine_59 ?_
        obtain ⟨o15, hF⟩ := hF
        refine zgoi (zrunV (As := [.int (zI (2)), .int (zI (1)), .int (zI (99))]) (rest := []) C hE hH hS hl.1 (c_X11_take (l := l) hM (2) (by decide) (1) (by decide) (99) (by decide) o15) k_RX11_181 ⟨Nat.le_of_ble_eq_true rfl, Nat.le_of_ble_eq_true rfl⟩ (zM_n0 hM) (zM_k0 hM) rfl rfl rfl (Nat.le_of_ble_eq_true rfl) dX11_payLine_61 ⟨Nat.zero_le _, Nat.zero_le _⟩) hS (fun rq X16 Y17 Rq H locs hrq hq hH hS => ?_)
        obtain ⟨h9R, hq⟩ := hq
        dsimp only at h9R
        rw [h9R] at hH
        obtain ⟨r18, h91, hq⟩ := hq
        subst h91
        have hF := hF r18 X16 hH.2.2.1 Y17 hH.2.2.2 hq
        refine zd_ifB_ne C 69 dX11_payLine_64 (by decide) (fun c19 => ?_) (fun c19 => ?_)
        · have hF := hF.1 c19
          refine lv_aload_n C.1 C.2.1 dX11_payLine_69 rfl (lv_at hl 0 rfl) ?_
          refine zg11_23 C hH (zM_n0 hM) (zM_k0 hM) q_1310 dX11_payLine_70 ?_
          refine zd_if_eq C (hH.2.2.1 _ _) 153 dX11_payLine_73 (by decide) (fun c20 => ?_) (fun c20 => ?_)
          · have hF := hF.1 c20
            refine zd_iconst C dX11_payLine_153 ?_
            exact zd_zret C hr hlk hH hS (by decide) (⟨rfl, _, rfl, hF⟩) dX11_payLine_154
          · have hF := hF.2 c20
            refine lv_aload_n C.1 C.2.1 dX11_payLine_76 rfl (lv_at hl 0 rfl) ?_
            refine zg11_20 C hH (zM_n0 hM) (zM_k0 hM) q_1307 (zM_r11 hM) dX11_payLine_77 ?_
            refine lv_aload_n C.1 C.2.1 dX11_payLine_80 rfl (lv_at hl 0 rfl) ?_
            refine zg11_23 C hH (zM_n0 hM) (zM_k0 hM) q_1310 dX11_payLine_81 ?_
            obtain ⟨o21, hF⟩ := hF
            refine zd_iald C hH (zM_n11 hM) (zM_k11 hM) o21.1 (by rw [zM_l11 hM]; exact o21.2) (by rw [zM_l11 hM]; decide) dX11_payLine_84 ?_
            refine lv_istore_n (lv' := [(2, .int (zI (X16 (i + 11) (X16 (i) 23)))), (0, .ref (bs + (i))), (1, .int (zI (a)))]) C.1 C.2.1 dX11_payLine_85 rfl hl (by decide) rfl (fun ls hl => ?_)
            refine zd_iconst C dX11_payLine_86 ?_
            refine lv_istore_n (lv' := [(3, .int (zI (0))), (2, .int (zI (X16 (i + 11) (X16 (i) 23)))), (0, .ref (bs + (i))), (1, .int (zI (a)))]) C.1 C.2.1 dX11_payLine_87 rfl hl (by decide) rfl (fun ls hl => ?_)
            obtain ⟨hI22, hF⟩ := hF
            have L22 : ∀ (fu : Nat) (j : Int) (X23 : Nat → Int → Int), rI j → (∃ q : Nat, j = q ∧ q ≤ 3 ∧ (∀ z, z ≠ i + 11 → X23 z = X16 z) ∧ (0 < q → X16 (i + 11) (X16 i 23) < 3 ∧ X16 i 23 < 182) ∧ X23 (i + 11) = upS (X16 (i + 11)) (X16 i 23 + 1 + 3 * X16 (i + 11) (X16 i 23)) (fun j => X16 (i + 12) j) q) → ((3 - (j)).toNat) < fu → ∀ (H : Heap) (locs : List Loc) (ls : Array Slot), zH D cy bs N kd len X23 Y17 R H → va_S (zA bs) s.heap H locs → lv_has ls 4 [(3, .int (zI (j))), (2, .int (zI (X16 (i + 11) (X16 (i) 23)))), (0, .ref (bs + (i))), (1, .int (zI (a)))] → W p l e (zRm 4 91) s m args below meth c H locs 0 0 (MQ below (zQi D cy bs N kd len (fun r st => st.2.2 = R ∧ ∃ rb : Bool, r = bz rb ∧ (lnQ 1 7364985 (a) X (st.1) Y (st.2.1) i rb))) args s 0 0 (zA bs)) (F0 m 88 ls []) := by
              intro fu
              induction fu with
              | zero => intro j X23 _ _ hmu; exact absurd hmu (Nat.not_lt_zero _)
              | succ fu ih22 =>
                intro j X23 hj hI hmu22 H locs ls hH hS hl
                have hF := hF j X23 hj hH.2.2.1 hI
                refine lv_iload_n C.1 C.2.1 dX11_payLine_88 rfl (lv_at hl 0 rfl) ?_
                refine zd_iconst C dX11_payLine_89 ?_
                refine zd_icmp_ge C hj (by decide) 137 dX11_payLine_90 (by decide) (fun c24 => ?_) (fun c24 => ?_)
                · have hF := hF.1 c24
                  refine lv_aload_n C.1 C.2.1 dX11_payLine_137 rfl (lv_at hl 2 rfl) ?_
                  refine zg11_20 C hH (zM_n0 hM) (zM_k0 hM) q_1307 (zM_r11 hM) dX11_payLine_138 ?_
                  refine lv_aload_n C.1 C.2.1 dX11_payLine_141 rfl (lv_at hl 2 rfl) ?_
                  refine zg11_23 C hH (zM_n0 hM) (zM_k0 hM) q_1310 dX11_payLine_142 ?_
                  refine zd_iconst C dX11_payLine_145 ?_
                  refine lv_iload_n C.1 C.2.1 dX11_payLine_146 rfl (lv_at hl 1 rfl) ?_
                  refine zd_iconst C dX11_payLine_147 ?_
                  refine zd_iadd C dX11_payLine_148 ?_
                  obtain ⟨o25, hF⟩ := hF
                  refine zgoi (zrunS (As := [.int (zI (3)), .int (zI ((X16 (i + 11) (X16 (i) 23)) + 1))]) (rest := [.int (zI (X23 (i) 23)), .ref (bs + (i + 11))]) C hE hH hS hl.1 (c_X11_lesser (l := l)  (3) (by decide) ((X16 (i + 11) (X16 (i) 23)) + 1) o25) k_RX11_184 ⟨Nat.le_of_ble_eq_true rfl, Nat.le_of_ble_eq_true rfl⟩ rfl (Nat.le_of_ble_eq_true rfl) dX11_payLine_149 ⟨Nat.zero_le _, Nat.zero_le _⟩) hS (fun rq Xq Yq Rq H locs hrq hq hH hS => ?_)
                  obtain ⟨h91, h92⟩ := hq
                  have h93 : Xq = X23 := congrArg (fun z => z.1) h92
                  have h94 : Yq = Y17 := congrArg (fun z => z.2.1) h92
                  have h95 : Rq = R := congrArg (fun z => z.2.2) h92
                  rw [h93, h94, h95] at hH
                  subst h91
                  have hr26 := hrq
                  have hF := hF hr26
                  obtain ⟨o27, hF⟩ := hF
                  refine zd_iast C hH hS (zM_n11 hM) (zM_k11 hM) o27.1 (by rw [zM_l11 hM]; exact o27.2) (by rw [zM_l11 hM]; decide) hr26 dX11_payLine_152 (fun H locs hH hS => ?_)
                  obtain ⟨X28, eX28⟩ : ∃ z, z = zU X23 (i + 11) (X23 (i) 23) (min ((3 : Int)) ((X16 (i + 11) (X16 (i) 23)) + 1)) := ⟨_, rfl⟩
                  rw [← eX28] at hH
                  have hF := hF X28 eX28 hH.2.2.1
                  refine zd_iconst C dX11_payLine_153 ?_
                  exact zd_zret C hr hlk hH hS (by decide) (⟨rfl, _, rfl, hF⟩) dX11_payLine_154
                · have hF := hF.2 c24
                  refine lv_iload_n C.1 C.2.1 dX11_payLine_93 rfl (lv_at hl 1 rfl) ?_
                  refine zd_iconst C dX11_payLine_94 ?_
                  obtain ⟨o30, hF⟩ := hF
                  refine zd_icmp_ge C o30 (by decide) 137 dX11_payLine_95 (by decide) (fun c29 => ?_) (fun c29 => ?_)
                  · have hF := hF.1 c29
                    refine lv_aload_n C.1 C.2.1 dX11_payLine_137 rfl (lv_at hl 2 rfl) ?_
                    refine zg11_20 C hH (zM_n0 hM) (zM_k0 hM) q_1307 (zM_r11 hM) dX11_payLine_138 ?_
                    refine lv_aload_n C.1 C.2.1 dX11_payLine_141 rfl (lv_at hl 2 rfl) ?_
                    refine zg11_23 C hH (zM_n0 hM) (zM_k0 hM) q_1310 dX11_payLine_142 ?_
                    refine zd_iconst C dX11_payLine_145 ?_
                    refine lv_iload_n C.1 C.2.1 dX11_payLine_146 rfl (lv_at hl 1 rfl) ?_
                    refine zd_iconst C dX11_payLine_147 ?_
                    refine zd_iadd C dX11_payLine_148 ?_
                    obtain ⟨o31, hF⟩ := hF
                    refine zgoi (zrunS (As := [.int (zI (3)), .int (zI ((X16 (i + 11) (X16 (i) 23)) + 1))]) (rest := [.int (zI (X23 (i) 23)), .ref (bs + (i + 11))]) C hE hH hS hl.1 (c_X11_lesser (l := l)  (3) (by decide) ((X16 (i + 11) (X16 (i) 23)) + 1) o31) k_RX11_184 ⟨Nat.le_of_ble_eq_true rfl, Nat.le_of_ble_eq_true rfl⟩ rfl (Nat.le_of_ble_eq_true rfl) dX11_payLine_149 ⟨Nat.zero_le _, Nat.zero_le _⟩) hS (fun rq Xq Yq Rq H locs hrq hq hH hS => ?_)
                    obtain ⟨h91, h92⟩ := hq
                    have h93 : Xq = X23 := congrArg (fun z => z.1) h92
                    have h94 : Yq = Y17 := congrArg (fun z => z.2.1) h92
                    have h95 : Rq = R := congrArg (fun z => z.2.2) h92
                    rw [h93, h94, h95] at hH
                    subst h91
                    have hr32 := hrq
                    have hF := hF hr32
                    obtain ⟨o33, hF⟩ := hF
                    refine zd_iast C hH hS (zM_n11 hM) (zM_k11 hM) o33.1 (by rw [zM_l11 hM]; exact o33.2) (by rw [zM_l11 hM]; decide) hr32 dX11_payLine_152 (fun H locs hH hS => ?_)
                    obtain ⟨X34, eX34⟩ : ∃ z, z = zU X23 (i + 11) (X23 (i) 23) (min ((3 : Int)) ((X16 (i + 11) (X16 (i) 23)) + 1)) := ⟨_, rfl⟩
                    rw [← eX34] at hH
                    have hF := hF X34 eX34 hH.2.2.1
                    refine zd_iconst C dX11_payLine_153 ?_
                    exact zd_zret C hr hlk hH hS (by decide) (⟨rfl, _, rfl, hF⟩) dX11_payLine_154
                  · have hF := hF.2 c29
                    refine lv_aload_n C.1 C.2.1 dX11_payLine_98 rfl (lv_at hl 2 rfl) ?_
                    refine zg11_23 C hH (zM_n0 hM) (zM_k0 hM) q_1310 dX11_payLine_99 ?_
                    refine zd_sipush C (by decide) dX11_payLine_102 ?_
                    refine zd_icmp_ge C (hH.2.2.1 _ _) (by decide) 137 dX11_payLine_105 (by decide) (fun c35 => ?_) (fun c35 => ?_)
                    · have hF := hF.1 c35
                      refine lv_aload_n C.1 C.2.1 dX11_payLine_137 rfl (lv_at hl 2 rfl) ?_
                      refine zg11_20 C hH (zM_n0 hM) (zM_k0 hM) q_1307 (zM_r11 hM) dX11_payLine_138 ?_
                      refine lv_aload_n C.1 C.2.1 dX11_payLine_141 rfl (lv_at hl 2 rfl) ?_
                      refine zg11_23 C hH (zM_n0 hM) (zM_k0 hM) q_1310 dX11_payLine_142 ?_
                      refine zd_iconst C dX11_payLine_145 ?_
                      refine lv_iload_n C.1 C.2.1 dX11_payLine_146 rfl (lv_at hl 1 rfl) ?_
                      refine zd_iconst C dX11_payLine_147 ?_
                      refine zd_iadd C dX11_payLine_148 ?_
                      obtain ⟨o36, hF⟩ := hF
                      refine zgoi (zrunS (As := [.int (zI (3)), .int (zI ((X16 (i + 11) (X16 (i) 23)) + 1))]) (rest := [.int (zI (X23 (i) 23)), .ref (bs + (i + 11))]) C hE hH hS hl.1 (c_X11_lesser (l := l)  (3) (by decide) ((X16 (i + 11) (X16 (i) 23)) + 1) o36) k_RX11_184 ⟨Nat.le_of_ble_eq_true rfl, Nat.le_of_ble_eq_true rfl⟩ rfl (Nat.le_of_ble_eq_true rfl) dX11_payLine_149 ⟨Nat.zero_le _, Nat.zero_le _⟩) hS (fun rq Xq Yq Rq H locs hrq hq hH hS => ?_)
                      obtain ⟨h91, h92⟩ := hq
                      have h93 : Xq = X23 := congrArg (fun z => z.1) h92
                      have h94 : Yq = Y17 := congrArg (fun z => z.2.1) h92
                      have h95 : Rq = R := congrArg (fun z => z.2.2) h92
                      rw [h93, h94, h95] at hH
                      subst h91
                      have hr37 := hrq
                      have hF := hF hr37
                      obtain ⟨o38, hF⟩ := hF
                      refine zd_iast C hH hS (zM_n11 hM) (zM_k11 hM) o38.1 (by rw [zM_l11 hM]; exact o38.2) (by rw [zM_l11 hM]; decide) hr37 dX11_payLine_152 (fun H locs hH hS => ?_)
                      obtain ⟨X39, eX39⟩ : ∃ z, z = zU X23 (i + 11) (X23 (i) 23) (min ((3 : Int)) ((X16 (i + 11) (X16 (i) 23)) + 1)) := ⟨_, rfl⟩
                      rw [← eX39] at hH
                      have hF := hF X39 eX39 hH.2.2.1
                      refine zd_iconst C dX11_payLine_153 ?_
                      exact zd_zret C hr hlk hH hS (by decide) (⟨rfl, _, rfl, hF⟩) dX11_payLine_154
                    · have hF := hF.2 c35
                      refine lv_aload_n C.1 C.2.1 dX11_payLine_108 rfl (lv_at hl 2 rfl) ?_
                      refine zg11_20 C hH (zM_n0 hM) (zM_k0 hM) q_1307 (zM_r11 hM) dX11_payLine_109 ?_
                      refine lv_aload_n C.1 C.2.1 dX11_payLine_112 rfl (lv_at hl 2 rfl) ?_
                      refine zg11_23 C hH (zM_n0 hM) (zM_k0 hM) q_1310 dX11_payLine_113 ?_
                      refine zd_iconst C dX11_payLine_116 ?_
                      refine zd_iadd C dX11_payLine_117 ?_
                      refine zd_iconst C dX11_payLine_118 ?_
                      refine lv_iload_n C.1 C.2.1 dX11_payLine_119 rfl (lv_at hl 1 rfl) ?_
                      refine zd_imul C dX11_payLine_120 ?_
                      refine zd_iadd C dX11_payLine_121 ?_
                      refine lv_iload_n C.1 C.2.1 dX11_payLine_122 rfl (lv_at hl 0 rfl) ?_
                      refine zd_iadd C dX11_payLine_123 ?_
                      refine lv_aload_n C.1 C.2.1 dX11_payLine_124 rfl (lv_at hl 2 rfl) ?_
                      refine zg11_21 C hH (zM_n0 hM) (zM_k0 hM) q_1308 (zM_r12 hM) dX11_payLine_125 ?_
                      refine lv_iload_n C.1 C.2.1 dX11_payLine_128 rfl (lv_at hl 0 rfl) ?_
                      obtain ⟨o40, hF⟩ := hF
                      refine zd_iald C hH (zM_n12 hM) (zM_k12 hM) o40.1 (by rw [zM_l12 hM]; exact o40.2) (by rw [zM_l12 hM]; decide) dX11_payLine_129 ?_
                      obtain ⟨o41, hF⟩ := hF
                      refine zd_iast C hH hS (zM_n11 hM) (zM_k11 hM) o41.1 (by rw [zM_l11 hM]; exact o41.2) (by rw [zM_l11 hM]; decide) (hH.2.2.1 _ _) dX11_payLine_130 (fun H locs hH hS => ?_)
                      obtain ⟨X42, eX42⟩ : ∃ z, z = zU X23 (i + 11) ((((X23 (i) 23) + 1) + (3 * (X16 (i + 11) (X16 (i) 23)))) + j) (X23 (i + 12) (j)) := ⟨_, rfl⟩
                      rw [← eX42] at hH
                      have hF := hF X42 eX42 hH.2.2.1
                      refine zd_iinc (k := 0) (lv' := [(3, .int (zI (j + 1))), (2, .int (zI (X16 (i + 11) (X16 (i) 23)))), (0, .ref (bs + (i))), (1, .int (zI (a)))]) C hl rfl dX11_payLine_131 (by decide) rfl (fun ls hl => ?_)
                      refine lv_goto (tgt := 88) C.1 C.2.1 dX11_payLine_134 (by decide) ?_
                      obtain ⟨o43, hF⟩ := hF
                      exact ih22 (j + 1) X42 o43 hF.1 (Nat.lt_of_lt_of_le hF.2 (Nat.le_of_lt_succ hmu22)) _ _ _ hH hS (lv_sub hl [0, 1, 2, 3] rfl)
            exact L22 (((3 - ((0 : Int))).toNat) + 1) ((0 : Int)) X16 (by decide) hI22 (Nat.lt_succ_self _) _ _ _ hH hS (lv_sub hl [0, 1, 2, 3] rfl)
        · have hF := hF.2 c19
          refine zd_iconst C dX11_payLine_67 ?_
          exact zd_zret C hr hlk hH hS (by decide) (⟨rfl, _, rfl, hF⟩) dX11_payLine_68
  have hF := hF.2
  refine lv_aload_n C.1 C.2.1 dX11_payLine_0 rfl (lv_at hl 0 rfl) ?_
  refine zg11_23 C hH (zM_n0 hM) (zM_k0 hM) q_1310 dX11_payLine_1 ?_
  refine zd_if_eq C (hH.2.2.1 _ _) 20 dX11_payLine_4 (by decide) (fun c44 => ?_) (fun c44 => ?_)
  · have hF := hF.1 c44
    refine lv_aload_n C.1 C.2.1 dX11_payLine_20 rfl (lv_at hl 0 rfl) ?_
    refine zd_iconst C dX11_payLine_21 ?_
    refine lv_iload_n C.1 C.2.1 dX11_payLine_22 rfl (lv_at hl 1 rfl) ?_
    refine zgov (zrunV (As := [.int (zI (3)), .int (zI (a))]) (rest := []) C hE hH hS hl.1 (c_X11_addsFault (l := l) hM (3) (by decide) (a) ha) k_RX11_144 ⟨Nat.le_of_ble_eq_true rfl, Nat.le_of_ble_eq_true rfl⟩ (zM_n0 hM) (zM_k0 hM) rfl rfl rfl (Nat.le_of_ble_eq_true rfl) dX11_payLine_23 ⟨Nat.zero_le _, Nat.zero_le _⟩) hS (fun X45 Yq Rq H locs hq hH hS => ?_)
    obtain ⟨h9Y, h9R, hq⟩ := hq
    dsimp only at h9Y h9R
    rw [h9Y, h9R] at hH
    have hF := hF X45 hH.2.2.1 hq
    exact J1 X45  hF _ _ _ hH hS (lv_sub hl [0, 1] rfl)
  · have hF := hF.2 c44
    refine lv_aload_n C.1 C.2.1 dX11_payLine_7 rfl (lv_at hl 0 rfl) ?_
    refine zg11_20 C hH (zM_n0 hM) (zM_k0 hM) q_1307 (zM_r11 hM) dX11_payLine_8 ?_
    refine lv_aload_n C.1 C.2.1 dX11_payLine_11 rfl (lv_at hl 0 rfl) ?_
    refine zg11_23 C hH (zM_n0 hM) (zM_k0 hM) q_1310 dX11_payLine_12 ?_
    obtain ⟨o46, hF⟩ := hF
    refine zd_iald C hH (zM_n11 hM) (zM_k11 hM) o46.1 (by rw [zM_l11 hM]; exact o46.2) (by rw [zM_l11 hM]; decide) dX11_payLine_15 ?_
    refine zd_iconst C dX11_payLine_16 ?_
    refine zd_icmp_ne C (hH.2.2.1 _ _) (by decide) 26 dX11_payLine_17 (by decide) (fun c47 => ?_) (fun c47 => ?_)
    · have hF := hF.1 c47
      exact J1 X  hF _ _ _ hH hS (lv_sub hl [0, 1] rfl)
    · have hF := hF.2 c47
      refine lv_aload_n C.1 C.2.1 dX11_payLine_20 rfl (lv_at hl 0 rfl) ?_
      refine zd_iconst C dX11_payLine_21 ?_
      refine lv_iload_n C.1 C.2.1 dX11_payLine_22 rfl (lv_at hl 1 rfl) ?_
      refine zgov (zrunV (As := [.int (zI (3)), .int (zI (a))]) (rest := []) C hE hH hS hl.1 (c_X11_addsFault (l := l) hM (3) (by decide) (a) ha) k_RX11_144 ⟨Nat.le_of_ble_eq_true rfl, Nat.le_of_ble_eq_true rfl⟩ (zM_n0 hM) (zM_k0 hM) rfl rfl rfl (Nat.le_of_ble_eq_true rfl) dX11_payLine_23 ⟨Nat.zero_le _, Nat.zero_le _⟩) hS (fun X48 Yq Rq H locs hq hH hS => ?_)
      obtain ⟨h9Y, h9R, hq⟩ := hq
      dsimp only at h9Y h9R
      rw [h9Y, h9R] at hH
      have hF := hF X48 hH.2.2.1 hq
      exact J1 X48  hF _ _ _ hH hS (lv_sub hl [0, 1] rfl)
theorem v_X11_payLine {X Y : Nat → Int → Int} {R : Nat → Int → Option Nat} {i : Nat} (a : Int) (ha : rI a) (hp : oRd X i ∧ bnD 1 X i) : F_X11_payLine i X Y R a := by
  unfold F_X11_payLine
  intro hX hY
  obtain ⟨hr, hbd⟩ := hp
  have hbd' : (0 ≤ X (i + 11) 0 ∧ X (i + 11) 0 ≤ 14) ∧ (X i 23 = 0 ∨ ((X i 23 = 182 ∨ ∃ k : Int, 1 ≤ k ∧ k ≤ 14 ∧ X i 23 = 4 + 13 * (k - 1)) ∧ 0 ≤ X (i + 11) (X i 23) ∧ X (i + 11) (X i 23) ≤ 3)) := hbd
  obtain ⟨hb0, hb1⟩ := hbd'
  have b23 : 0 ≤ X i 23 ∧ X i 23 < 183 ∧ (X i 23 < 182 → X i 23 ≤ 173) ∧ (X i 23 ≠ 0 → 4 ≤ X i 23 ∧ 0 ≤ X (i + 11) (X i 23) ∧ X (i + 11) (X i 23) ≤ 3) := by
    rcases hb1 with h | ⟨h | ⟨k, k1, k2, h⟩, h3, h4⟩
    · exact ⟨by omega, by omega, by omega, fun g => absurd h g⟩
    · exact ⟨by omega, by omega, by omega, fun _ => ⟨by omega, h3, h4⟩⟩
    · exact ⟨by omega, by omega, by omega, fun _ => ⟨by omega, h3, h4⟩⟩
  refine ⟨?_, ?_⟩
  · intro X1
    intro rX1
    intro h1
    refine ⟨?_, ?_⟩
    · rw [h1]
      split
      · exact oRd_k (adF_o.1 _ (by omega)) (adF_o.2 _ (by decide) (by decide)) (adF_o.2 _ (by decide) (by decide)) hr
      · exact hr
    intro X3
    intro rX3
    intro Y4
    intro rY4
    intro h2
    obtain ⟨r3, rX3, k5, u5, v5, w5, g5, l5, qX3, st5⟩ := fu_st (b := a) hr h1 h2
    have qX3n : (X3 i 12).toNat = (X i 12).toNat := by rw [l5]
    refine ⟨?_, ?_⟩
    · exact ⟨rX3, by decide, by decide⟩
    intro r8
    intro X6
    intro rX6
    intro Y7
    intro rY7
    intro h3
    obtain ⟨kX6, uX6, wX6, fX6, tX6⟩ := tk_st rX3 h3
    refine ⟨?_, ?_⟩
    · intro c1
      refine ⟨(k5).tr kX6, fun g => absurd g (by decide), fun s hs _ hw hb hk => ?_⟩
      have l0 := ln_0 (of := 1) (k := 1) (s := s) hr h1 h2 hs hb hk (fun z => by
        show (decide (X i 23 = 0) || decide (X (i + 11) (X i 23) = 3)) = (decide (s.2.1.2 = 0) || decide (s.2.1.1 s.2.1.2 = 3))
        rw [← (hs.2.2 z).2, (hs.2.2 z).1 _ b23.1 b23.2.1])
      obtain ⟨n0, s0⟩ := l0
      have l1 := ln_s (of := 1) (k := 1) (idx := 0) (lo := 0) (hi := 5) (but := (-1)) rX3 h3 qX3 qX3n n0 s0 (fun z k3 => by
        rw [val_m1 (tkV_b k3).1]
        rfl)
      obtain ⟨n9, x9⟩ := l1.1 c1
      have ek : kwT (X (i + 1)) (X i 12).toNat s.1 1 = 1 := by
        show kwN 1 (wdS X Y i s) = _
        rw [← hw]
        rfl
      rw [rdL_l ek (by decide) (rdN_l n9 2)]
      exact ⟨rfl, x9⟩
    intro c2
    have rX6 := (tX6 c2).1
    have xX6 := (tX6 c2).2.1
    have qX6 : X6 (i + 1) = X (i + 1) := (kX6.1 _ (by omega) (by omega) (by omega)).trans qX3
    have qX6n : (X6 i 12).toNat = (X i 12).toNat := by rw [kX6.2.1 12 (by omega)]; exact qX3n
    refine ⟨?_, ?_⟩
    · exact ⟨rX6, by decide, by decide⟩
    intro r13
    intro X11
    intro rX11
    intro Y12
    intro rY12
    intro h4
    obtain ⟨kX11, uX11, wX11, fX11, tX11⟩ := tk_st rX6 h4
    refine ⟨?_, ?_⟩
    · intro c3
      refine ⟨((k5).tr kX6).tr kX11, fun g => absurd g (by decide), fun s hs _ hw hb hk => ?_⟩
      have l0 := ln_0 (of := 1) (k := 1) (s := s) hr h1 h2 hs hb hk (fun z => by
        show (decide (X i 23 = 0) || decide (X (i + 11) (X i 23) = 3)) = (decide (s.2.1.2 = 0) || decide (s.2.1.1 s.2.1.2 = 3))
        rw [← (hs.2.2 z).2, (hs.2.2 z).1 _ b23.1 b23.2.1])
      obtain ⟨n0, s0⟩ := l0
      have l1 := ln_s (of := 1) (k := 1) (idx := 0) (lo := 0) (hi := 5) (but := (-1)) rX3 h3 qX3 qX3n n0 s0 (fun z k3 => by
        rw [val_m1 (tkV_b k3).1]
        rfl)
      obtain ⟨k1, v1, w1, f1, n1, s1, z1⟩ := l1.2 c2
      have l2 := ln_s (of := 1) (k := 1) (idx := 1) (lo := 0) (hi := 5) (but := (X6 (i + 12) 0)) rX6 h4 qX6 qX6n n1 s1 (fun z k3 => by
        rw [w1]
        rfl)
      obtain ⟨n9, x9⟩ := l2.1 c3
      have ek : kwT (X (i + 1)) (X i 12).toNat s.1 1 = 1 := by
        show kwN 1 (wdS X Y i s) = _
        rw [← hw]
        rfl
      rw [rdL_l ek (by decide) (rdN_l n9 1)]
      exact ⟨rfl, x9⟩
    intro c4
    have rX11 := (tX11 c4).1
    have xX11 := (tX11 c4).2.1
    have qX11 : X11 (i + 1) = X (i + 1) := (kX11.1 _ (by omega) (by omega) (by omega)).trans qX6
    have qX11n : (X11 i 12).toNat = (X i 12).toNat := by rw [kX11.2.1 12 (by omega)]; exact qX6n
    refine ⟨?_, ?_⟩
    · exact ⟨rX11, by decide, by decide⟩
    intro r18
    intro X16
    intro rX16
    intro Y17
    intro rY17
    intro h5
    obtain ⟨kX16, uX16, wX16, fX16, tX16⟩ := tk_st rX11 h5
    refine ⟨?_, ?_⟩
    · intro c5
      have rX16 := (tX16 c5).1
      have xX16 := (tX16 c5).2.1
      have qX16 : X16 (i + 1) = X (i + 1) := (kX16.1 _ (by omega) (by omega) (by omega)).trans qX11
      have qX16n : (X16 i 12).toNat = (X i 12).toNat := by rw [kX16.2.1 12 (by omega)]; exact qX11n
      have b16 : X16 (i + 11) = X (i + 11) := by rw [uX16, uX11, uX6, u5]
      have w16 : X16 i 23 = X i 23 := by rw [wX16, wX11, wX6, w5]
      refine ⟨?_, ?_⟩
      · intro c6
        refine ⟨((((k5).tr kX6).tr kX11).tr kX16).tr (⟨fun _ _ _ _ => rfl, fun _ _ => rfl, fun _ _ => rfl⟩ : rdK X16 X16 Y17 Y17 i), fun _ => ⟨rX16, ?_⟩, fun s hs _ hw hb hk => ?_⟩
        · exact bnD_k b16 w16 hbd
        · have l0 := ln_0 (of := 1) (k := 1) (s := s) hr h1 h2 hs hb hk (fun z => by
            show (decide (X i 23 = 0) || decide (X (i + 11) (X i 23) = 3)) = (decide (s.2.1.2 = 0) || decide (s.2.1.1 s.2.1.2 = 3))
            rw [← (hs.2.2 z).2, (hs.2.2 z).1 _ b23.1 b23.2.1])
          obtain ⟨n0, s0⟩ := l0
          have l1 := ln_s (of := 1) (k := 1) (idx := 0) (lo := 0) (hi := 5) (but := (-1)) rX3 h3 qX3 qX3n n0 s0 (fun z k3 => by
            rw [val_m1 (tkV_b k3).1]
            rfl)
          obtain ⟨k1, v1, w1, f1, n1, s1, z1⟩ := l1.2 c2
          have l2 := ln_s (of := 1) (k := 1) (idx := 1) (lo := 0) (hi := 5) (but := (X6 (i + 12) 0)) rX6 h4 qX6 qX6n n1 s1 (fun z k3 => by
            rw [w1]
            rfl)
          obtain ⟨k2, v2, w2, f2, n2, s2, z2⟩ := l2.2 c4
          have l3 := ln_s (of := 1) (k := 1) (idx := 2) (lo := 1) (hi := 99) (but := (-1)) rX11 h5 qX11 qX11n n2 s2 (fun z k3 => by
            rw [val_m1 (tkV_b k3).1]
            rfl)
          obtain ⟨k3, v3, w3, f3, n3, s3, z3⟩ := l3.2 c5
          have ek : kwT (X (i + 1)) (X i 12).toNat s.1 1 = 1 := by
            show kwN 1 (wdS X Y i s) = _
            rw [← hw]
            rfl
          rw [rdL_n ek (by decide) n3]
          refine ⟨rfl, rdS_tl s3 (fun _ _ _ => rfl) (fun _ _ => rfl) (fun z => ?_)⟩
          have z0 : (f1L (X (i + 1)) (X i 12).toNat 1 1 s).1 = 0 := (z1 (z2 (z3 z)))
          have z2 := fl0_n3 (by decide) z0
          obtain ⟨q1, q2⟩ := s3.2.2 z
          dsimp only at q1 q2
          have e2 : X i 23 = s.2.1.2 := by
            rw [← w16]
            exact q2
          have e : (decide (s.2.1.2 = 0) || decide (s.2.1.1 s.2.1.2 = 3)) = false := z2.2
          rw [Bool.or_eq_false_iff] at e
          have e3 := of_decide_eq_false e.1
          exact absurd (by omega) e3
      intro c7
      have c7' : X i 23 ≠ 0 := by
        rw [← w16]
        exact c7
      have bb := b23.2.2.2 c7'
      refine ⟨?_, ?_⟩
      · rw [w16]
        exact ⟨b23.1, b23.2.1⟩
      refine ⟨?_, ?_⟩
      · exact ⟨0, rfl, by decide, fun _ _ => rfl, fun h => absurd h (by decide), rfl⟩
      intro j X23
      intro _
      intro rX23
      intro h6
      obtain ⟨q, hq, q3, o, hq0, h23⟩ := h6
      subst hq
      have p23 : X23 i 23 = X i 23 := by
        rw [o i (by omega)]
        exact w16
      rw [b16, w16] at hq0 h23
      refine ⟨?_, ?_⟩
      · intro c8
        refine ⟨?_, ?_⟩
        · rw [b16, w16]
          exact ⟨by omega, by omega⟩
        intro _
        refine ⟨?_, ?_⟩
        · rw [p23]
          exact ⟨b23.1, b23.2.1⟩
        intro X28
        intro eX28
        intro rX28
        have of' : ∀ z, z ≠ i + 11 → X28 z = X16 z := fun z h2 => by
          rw [eX28, zU_o h2]
          exact o z h2
        have tf : X28 (i + 11) = upI (upS (X (i + 11)) (X i 23 + 1 + 3 * X (i + 11) (X i 23)) (fun j => X16 (i + 12) j) q) (X i 23) (min 3 (X (i + 11) (X i 23) + 1)) := by
          rw [eX28, zU_up, p23, h23, b16, w16]
        have pf : X28 i 23 = X i 23 := by
          rw [of' i (by omega)]
          exact w16
        refine ⟨((((k5).tr kX6).tr kX11).tr kX16).tr ⟨fun z _ h2 _ => of' z h2, fun s _ => by rw [of' i (by omega)], fun _ _ => rfl⟩, fun _ => ⟨oRd_k (of' _ (by omega)) (by rw [of' i (by omega)]) (by rw [of' i (by omega)]) rX16, ?_⟩, fun s hs n182 hw hb hk => ?_⟩
        · show (0 ≤ X28 (i + 11) 0 ∧ X28 (i + 11) 0 ≤ 14) ∧ (X28 i 23 = 0 ∨ ((X28 i 23 = 182 ∨ ∃ k : Int, 1 ≤ k ∧ k ≤ 14 ∧ X28 i 23 = 4 + 13 * (k - 1)) ∧ 0 ≤ X28 (i + 11) (X28 i 23) ∧ X28 (i + 11) (X28 i 23) ≤ 3))
          have e0 : X28 (i + 11) 0 = X (i + 11) 0 := by
            rw [tf, upI_ne (by omega)]
            exact upS_n q (by omega)
          have e1 : X28 (i + 11) (X i 23) = min 3 (X (i + 11) (X i 23) + 1) := by
            rw [tf]
            exact if_pos rfl
          rw [pf, e0, e1]
          refine ⟨hb0, Or.inr ⟨?_, by omega, by omega⟩⟩
          rcases hb1 with h | ⟨h, _, _⟩
          · exact absurd h c7'
          · exact h
        · have l0 := ln_0 (of := 1) (k := 1) (s := s) hr h1 h2 hs hb hk (fun z => by
            show (decide (X i 23 = 0) || decide (X (i + 11) (X i 23) = 3)) = (decide (s.2.1.2 = 0) || decide (s.2.1.1 s.2.1.2 = 3))
            rw [← (hs.2.2 z).2, (hs.2.2 z).1 _ b23.1 b23.2.1])
          obtain ⟨n0, s0⟩ := l0
          have l1 := ln_s (of := 1) (k := 1) (idx := 0) (lo := 0) (hi := 5) (but := (-1)) rX3 h3 qX3 qX3n n0 s0 (fun z k3 => by
            rw [val_m1 (tkV_b k3).1]
            rfl)
          obtain ⟨k1, v1, w1, f1, n1, s1, z1⟩ := l1.2 c2
          have l2 := ln_s (of := 1) (k := 1) (idx := 1) (lo := 0) (hi := 5) (but := (X6 (i + 12) 0)) rX6 h4 qX6 qX6n n1 s1 (fun z k3 => by
            rw [w1]
            rfl)
          obtain ⟨k2, v2, w2, f2, n2, s2, z2⟩ := l2.2 c4
          have l3 := ln_s (of := 1) (k := 1) (idx := 2) (lo := 1) (hi := 99) (but := (-1)) rX11 h5 qX11 qX11n n2 s2 (fun z k3 => by
            rw [val_m1 (tkV_b k3).1]
            rfl)
          obtain ⟨k3, v3, w3, f3, n3, s3, z3⟩ := l3.2 c5
          have ek : kwT (X (i + 1)) (X i 12).toNat s.1 1 = 1 := by
            show kwN 1 (wdS X Y i s) = _
            rw [← hw]
            rfl
          rw [rdL_n ek (by decide) n3]
          refine ⟨rfl, rdS_tl s3 (fun z _ h2 => of' z h2) (fun s _ => by rw [of' i (by omega)]) (fun z => ?_)⟩
          have z0 : (f1L (X (i + 1)) (X i 12).toNat 1 1 s).1 = 0 := (z1 (z2 (z3 z)))
          have z2 := fl0_n3 (by decide) z0
          obtain ⟨q1, q2⟩ := s3.2.2 z
          dsimp only at q1 q2
          have e2 : X i 23 = s.2.1.2 := by
            rw [← w16]
            exact q2
          have eV : X (i + 11) (X i 23) = s.2.1.1 s.2.1.2 := by
            rw [← e2, ← b16]
            exact q1 _ b23.1 b23.2.1
          have e3 : q = 3 := by omega
          subst e3
          have hV := hq0 (by decide)
          rw [tf, pf, eV, e2, show min 3 (s.2.1.1 s.2.1.2 + 1) = s.2.1.1 s.2.1.2 + 1 by omega]
          refine ⟨fun y y0 y1 => ?_, rfl⟩
          show upI (upS _ _ _ 3) _ _ y = upI (upS s.2.1.1 (s.2.1.2 + 1 + 3 * s.2.1.1 s.2.1.2) _ 3) s.2.1.2 (s.2.1.1 s.2.1.2 + 1) y
          refine upI_cg (upS_c ((by rw [← b16]; exact q1 y y0 y1) : X (i + 11) y = s.2.1.1 y) 3 (fun j hj => ?_))
          have hj : j < 3 := hj
          rcases (show j = 0 ∨ j = 1 ∨ j = 2 by omega) with e | e | e
          · subst e
            rw [w3]
            show upI _ 2 _ 0 = _
            rw [upI_ne (by decide), w2]
            show upI _ 1 _ 0 = _
            rw [upI_ne (by decide), w1]
            rfl
          · subst e
            rw [w3]
            show upI _ 2 _ 1 = _
            rw [upI_ne (by decide), w2]
            rfl
          · subst e
            rw [w3]
            rfl
      intro c9
      refine ⟨?_, ?_⟩
      · rw [b16, w16]
        exact ⟨by omega, by omega⟩
      refine ⟨?_, ?_⟩
      · intro c10
        rw [b16, w16] at c10
        refine ⟨?_, ?_⟩
        · rw [b16, w16]
          exact ⟨by omega, by omega⟩
        intro _
        refine ⟨?_, ?_⟩
        · rw [p23]
          exact ⟨b23.1, b23.2.1⟩
        intro X34
        intro eX34
        intro rX34
        have of' : ∀ z, z ≠ i + 11 → X34 z = X16 z := fun z h2 => by
          rw [eX34, zU_o h2]
          exact o z h2
        have tf : X34 (i + 11) = upI (upS (X (i + 11)) (X i 23 + 1 + 3 * X (i + 11) (X i 23)) (fun j => X16 (i + 12) j) q) (X i 23) (min 3 (X (i + 11) (X i 23) + 1)) := by
          rw [eX34, zU_up, p23, h23, b16, w16]
        have pf : X34 i 23 = X i 23 := by
          rw [of' i (by omega)]
          exact w16
        refine ⟨((((k5).tr kX6).tr kX11).tr kX16).tr ⟨fun z _ h2 _ => of' z h2, fun s _ => by rw [of' i (by omega)], fun _ _ => rfl⟩, fun _ => ⟨oRd_k (of' _ (by omega)) (by rw [of' i (by omega)]) (by rw [of' i (by omega)]) rX16, ?_⟩, fun s hs n182 hw hb hk => ?_⟩
        · show (0 ≤ X34 (i + 11) 0 ∧ X34 (i + 11) 0 ≤ 14) ∧ (X34 i 23 = 0 ∨ ((X34 i 23 = 182 ∨ ∃ k : Int, 1 ≤ k ∧ k ≤ 14 ∧ X34 i 23 = 4 + 13 * (k - 1)) ∧ 0 ≤ X34 (i + 11) (X34 i 23) ∧ X34 (i + 11) (X34 i 23) ≤ 3))
          have e0 : X34 (i + 11) 0 = X (i + 11) 0 := by
            rw [tf, upI_ne (by omega)]
            exact upS_n q (by omega)
          have e1 : X34 (i + 11) (X i 23) = min 3 (X (i + 11) (X i 23) + 1) := by
            rw [tf]
            exact if_pos rfl
          rw [pf, e0, e1]
          refine ⟨hb0, Or.inr ⟨?_, by omega, by omega⟩⟩
          rcases hb1 with h | ⟨h, _, _⟩
          · exact absurd h c7'
          · exact h
        · have l0 := ln_0 (of := 1) (k := 1) (s := s) hr h1 h2 hs hb hk (fun z => by
            show (decide (X i 23 = 0) || decide (X (i + 11) (X i 23) = 3)) = (decide (s.2.1.2 = 0) || decide (s.2.1.1 s.2.1.2 = 3))
            rw [← (hs.2.2 z).2, (hs.2.2 z).1 _ b23.1 b23.2.1])
          obtain ⟨n0, s0⟩ := l0
          have l1 := ln_s (of := 1) (k := 1) (idx := 0) (lo := 0) (hi := 5) (but := (-1)) rX3 h3 qX3 qX3n n0 s0 (fun z k3 => by
            rw [val_m1 (tkV_b k3).1]
            rfl)
          obtain ⟨k1, v1, w1, f1, n1, s1, z1⟩ := l1.2 c2
          have l2 := ln_s (of := 1) (k := 1) (idx := 1) (lo := 0) (hi := 5) (but := (X6 (i + 12) 0)) rX6 h4 qX6 qX6n n1 s1 (fun z k3 => by
            rw [w1]
            rfl)
          obtain ⟨k2, v2, w2, f2, n2, s2, z2⟩ := l2.2 c4
          have l3 := ln_s (of := 1) (k := 1) (idx := 2) (lo := 1) (hi := 99) (but := (-1)) rX11 h5 qX11 qX11n n2 s2 (fun z k3 => by
            rw [val_m1 (tkV_b k3).1]
            rfl)
          obtain ⟨k3, v3, w3, f3, n3, s3, z3⟩ := l3.2 c5
          have ek : kwT (X (i + 1)) (X i 12).toNat s.1 1 = 1 := by
            show kwN 1 (wdS X Y i s) = _
            rw [← hw]
            rfl
          rw [rdL_n ek (by decide) n3]
          refine ⟨rfl, rdS_tl s3 (fun z _ h2 => of' z h2) (fun s _ => by rw [of' i (by omega)]) (fun z => ?_)⟩
          have z0 : (f1L (X (i + 1)) (X i 12).toNat 1 1 s).1 = 0 := (z1 (z2 (z3 z)))
          have z2 := fl0_n3 (by decide) z0
          obtain ⟨q1, q2⟩ := s3.2.2 z
          dsimp only at q1 q2
          have e2 : X i 23 = s.2.1.2 := by
            rw [← w16]
            exact q2
          have eV : X (i + 11) (X i 23) = s.2.1.1 s.2.1.2 := by
            rw [← e2, ← b16]
            exact q1 _ b23.1 b23.2.1
          have e : (decide (s.2.1.2 = 0) || decide (s.2.1.1 s.2.1.2 = 3)) = false := z2.2
          rw [Bool.or_eq_false_iff] at e
          have e3 := of_decide_eq_false e.2
          exact absurd (by omega) e3
      intro c11
      rw [b16, w16] at c11
      refine ⟨?_, ?_⟩
      · intro c12
        refine ⟨?_, ?_⟩
        · rw [b16, w16]
          exact ⟨by omega, by omega⟩
        intro _
        refine ⟨?_, ?_⟩
        · rw [p23]
          exact ⟨b23.1, b23.2.1⟩
        intro X39
        intro eX39
        intro rX39
        have of' : ∀ z, z ≠ i + 11 → X39 z = X16 z := fun z h2 => by
          rw [eX39, zU_o h2]
          exact o z h2
        have tf : X39 (i + 11) = upI (upS (X (i + 11)) (X i 23 + 1 + 3 * X (i + 11) (X i 23)) (fun j => X16 (i + 12) j) q) (X i 23) (min 3 (X (i + 11) (X i 23) + 1)) := by
          rw [eX39, zU_up, p23, h23, b16, w16]
        have pf : X39 i 23 = X i 23 := by
          rw [of' i (by omega)]
          exact w16
        refine ⟨((((k5).tr kX6).tr kX11).tr kX16).tr ⟨fun z _ h2 _ => of' z h2, fun s _ => by rw [of' i (by omega)], fun _ _ => rfl⟩, fun _ => ⟨oRd_k (of' _ (by omega)) (by rw [of' i (by omega)]) (by rw [of' i (by omega)]) rX16, ?_⟩, fun s hs n182 hw hb hk => ?_⟩
        · show (0 ≤ X39 (i + 11) 0 ∧ X39 (i + 11) 0 ≤ 14) ∧ (X39 i 23 = 0 ∨ ((X39 i 23 = 182 ∨ ∃ k : Int, 1 ≤ k ∧ k ≤ 14 ∧ X39 i 23 = 4 + 13 * (k - 1)) ∧ 0 ≤ X39 (i + 11) (X39 i 23) ∧ X39 (i + 11) (X39 i 23) ≤ 3))
          have e0 : X39 (i + 11) 0 = X (i + 11) 0 := by
            rw [tf, upI_ne (by omega)]
            exact upS_n q (by omega)
          have e1 : X39 (i + 11) (X i 23) = min 3 (X (i + 11) (X i 23) + 1) := by
            rw [tf]
            exact if_pos rfl
          rw [pf, e0, e1]
          refine ⟨hb0, Or.inr ⟨?_, by omega, by omega⟩⟩
          rcases hb1 with h | ⟨h, _, _⟩
          · exact absurd h c7'
          · exact h
        · have l0 := ln_0 (of := 1) (k := 1) (s := s) hr h1 h2 hs hb hk (fun z => by
            show (decide (X i 23 = 0) || decide (X (i + 11) (X i 23) = 3)) = (decide (s.2.1.2 = 0) || decide (s.2.1.1 s.2.1.2 = 3))
            rw [← (hs.2.2 z).2, (hs.2.2 z).1 _ b23.1 b23.2.1])
          obtain ⟨n0, s0⟩ := l0
          have l1 := ln_s (of := 1) (k := 1) (idx := 0) (lo := 0) (hi := 5) (but := (-1)) rX3 h3 qX3 qX3n n0 s0 (fun z k3 => by
            rw [val_m1 (tkV_b k3).1]
            rfl)
          obtain ⟨k1, v1, w1, f1, n1, s1, z1⟩ := l1.2 c2
          have l2 := ln_s (of := 1) (k := 1) (idx := 1) (lo := 0) (hi := 5) (but := (X6 (i + 12) 0)) rX6 h4 qX6 qX6n n1 s1 (fun z k3 => by
            rw [w1]
            rfl)
          obtain ⟨k2, v2, w2, f2, n2, s2, z2⟩ := l2.2 c4
          have l3 := ln_s (of := 1) (k := 1) (idx := 2) (lo := 1) (hi := 99) (but := (-1)) rX11 h5 qX11 qX11n n2 s2 (fun z k3 => by
            rw [val_m1 (tkV_b k3).1]
            rfl)
          obtain ⟨k3, v3, w3, f3, n3, s3, z3⟩ := l3.2 c5
          have ek : kwT (X (i + 1)) (X i 12).toNat s.1 1 = 1 := by
            show kwN 1 (wdS X Y i s) = _
            rw [← hw]
            rfl
          rw [rdL_n ek (by decide) n3]
          refine ⟨rfl, rdS_tl s3 (fun z _ h2 => of' z h2) (fun s _ => by rw [of' i (by omega)]) (fun z => ?_)⟩
          have z0 : (f1L (X (i + 1)) (X i 12).toNat 1 1 s).1 = 0 := (z1 (z2 (z3 z)))
          have z2 := fl0_n3 (by decide) z0
          obtain ⟨q1, q2⟩ := s3.2.2 z
          dsimp only at q1 q2
          have e2 : X i 23 = s.2.1.2 := by
            rw [← w16]
            exact q2
          have eV : X (i + 11) (X i 23) = s.2.1.1 s.2.1.2 := by
            rw [← e2, ← b16]
            exact q1 _ b23.1 b23.2.1
          exact absurd (show s.2.1.2 = 182 by omega) n182
      intro c13
      refine ⟨?_, ?_⟩
      · first | omega | exact ⟨by omega, by omega⟩ | decide | assumption | exact ⟨by omega, by omega, by omega⟩ | exact ⟨by decide, by decide⟩
      refine ⟨?_, ?_⟩
      · rw [p23, b16, w16]
        omega
      intro X42
      intro eX42
      intro rX42
      refine ⟨?_, ?_⟩
      · first | omega | exact ⟨by omega, by omega⟩ | decide | assumption | exact ⟨by omega, by omega, by omega⟩ | exact ⟨by decide, by decide⟩
      refine ⟨?_, ?_⟩
      · refine ⟨q + 1, by omega, by omega, fun z hz => by rw [eX42, zU_o hz]; exact o z hz, fun _ => ⟨by rw [b16, w16]; omega, by omega⟩, ?_⟩
        rw [eX42, zU_up, h23, o (i + 12) (by omega), p23, b16, w16]
        rfl
      first | omega | exact ⟨by omega, by omega⟩ | decide | assumption | exact ⟨by omega, by omega, by omega⟩ | exact ⟨by decide, by decide⟩
    intro c14
    refine ⟨(((k5).tr kX6).tr kX11).tr kX16, fun g => absurd g (by decide), fun s hs _ hw hb hk => ?_⟩
    have l0 := ln_0 (of := 1) (k := 1) (s := s) hr h1 h2 hs hb hk (fun z => by
      show (decide (X i 23 = 0) || decide (X (i + 11) (X i 23) = 3)) = (decide (s.2.1.2 = 0) || decide (s.2.1.1 s.2.1.2 = 3))
      rw [← (hs.2.2 z).2, (hs.2.2 z).1 _ b23.1 b23.2.1])
    obtain ⟨n0, s0⟩ := l0
    have l1 := ln_s (of := 1) (k := 1) (idx := 0) (lo := 0) (hi := 5) (but := (-1)) rX3 h3 qX3 qX3n n0 s0 (fun z k3 => by
      rw [val_m1 (tkV_b k3).1]
      rfl)
    obtain ⟨k1, v1, w1, f1, n1, s1, z1⟩ := l1.2 c2
    have l2 := ln_s (of := 1) (k := 1) (idx := 1) (lo := 0) (hi := 5) (but := (X6 (i + 12) 0)) rX6 h4 qX6 qX6n n1 s1 (fun z k3 => by
      rw [w1]
      rfl)
    obtain ⟨k2, v2, w2, f2, n2, s2, z2⟩ := l2.2 c4
    have l3 := ln_s (of := 1) (k := 1) (idx := 2) (lo := 1) (hi := 99) (but := (-1)) rX11 h5 qX11 qX11n n2 s2 (fun z k3 => by
      rw [val_m1 (tkV_b k3).1]
      rfl)
    obtain ⟨n9, x9⟩ := l3.1 c14
    have ek : kwT (X (i + 1)) (X i 12).toNat s.1 1 = 1 := by
      show kwN 1 (wdS X Y i s) = _
      rw [← hw]
      rfl
    rw [rdL_l ek (by decide) (rdN_l n9 0)]
    exact ⟨rfl, x9⟩
  refine ⟨?_, ?_⟩
  · intro c15
    intro X45
    intro rX45
    intro h7
    rw [decide_eq_true c15, Bool.true_or, if_pos rfl]
    exact h7
  intro c16
  refine ⟨?_, ?_⟩
  · exact ⟨b23.1, b23.2.1⟩
  refine ⟨?_, ?_⟩
  · intro c17
    rw [decide_eq_false c16, decide_eq_false c17]
    rfl
  intro c18
  intro X48
  intro rX48
  intro h8
  rw [decide_eq_false c16, decide_eq_true (Classical.not_not.mp c18)]
  exact h8
theorem c_X11_payLine {l : Launch} {D : va_G} {cy : Nat → ClassId} {bs N : Nat} {sa : Nat → Nat} {kd len : Nat → Nat} {X Y : Nat → Int → Int} {R : Nat → Int → Option Nat} {i : Nat} (hM : zM N kd len R i) (a : Int) (ha : rI a) (hp : oRd X i ∧ bnD 1 X i) : Met l yX11_payLine (.code yX11_payLine cX11_payLine 4 (some .boolean) :: zTB) (zRm 4 91) (zPc D cy bs sa N kd len X Y R [.ref (bs + (i)), .int (zI (a))]) (zQi D cy bs N kd len (fun r st => st.2.2 = R ∧ ∃ rb : Bool, r = bz rb ∧ (lnQ 1 7364985 (a) X (st.1) Y (st.2.1) i rb))) 0 0 (zA bs) := w_X11_payLine hM a ha (v_X11_payLine a ha hp)
