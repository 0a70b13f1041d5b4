/-! WHAT IS TOLD IS COPIED -/
theorem zCp_i {X : Nat → Int → Int} {j i : Nat} {n y : Int} (h0 : 0 ≤ y) (h1 : y < n) : zCp X j i 0 0 n i y = X j y := by
  show (if i = i ∧ 0 ≤ y ∧ y < 0 + n then X j (0 + (y - 0)) else X i y) = _
  rw [if_pos ⟨rfl, h0, by omega⟩, show (0 : Int) + (y - 0) = y by omega]
def cpT (X X1 : Nat → Int → Int) (i j : Nat) : Prop := (X1 i 1 = X j 1 ∧ X1 i 2 = X j 2 ∧ X1 i 3 = X j 3) ∧ (∀ y : Int, 0 ≤ y → y < 600 → X1 (i + 1) y = X (j + 1) y) ∧ (∀ y : Int, 0 ≤ y → y < 5 → X1 (i + 2) y = X (j + 2) y) ∧ (∀ n : Nat, n < 2 → (∀ w : Int, 0 ≤ w → w ≤ 6 → X1 (i + 6 + 8 * n) w = X (j + 6 + 8 * n) w) ∧ ∀ y : Int, 0 ≤ y → y < 6 → X1 (i + 6 + 8 * n + 1) y = X (j + 6 + 8 * n + 1) y) ∧ (∀ n : Nat, n < 2 → X1 (i + 8 + 8 * n) 0 = X (j + 8 + 8 * n) 0 ∧ (∀ s : Nat, 1 ≤ s → s ≤ 4 → ∀ y : Int, 0 ≤ y → y < 15 → X1 (i + 8 + 8 * n + s) y = X (j + 8 + 8 * n + s) y) ∧ ∀ y : Int, 0 ≤ y → y < 135 → X1 (i + 8 + 8 * n + 5) y = X (j + 8 + 8 * n + 5) y) ∧ (∀ n : Nat, n < 6 → X1 (i + 22 + 2 * n) 2 = X (j + 22 + 2 * n) 2 ∧ (∀ s : Int, s ≠ 2 → X1 (i + 22 + 2 * n) s = X (i + 22 + 2 * n) s) ∧ ∀ y : Int, 0 ≤ y → y < rwN n → X1 (i + 22 + 2 * n + 1) y = X (j + 22 + 2 * n + 1) y) ∧ ∀ z, (z < i ∨ i + 33 < z) → X1 z = X z
theorem cpN {X X1 : Nat → Int → Int} {n m : Nat} (h : X1 = zCp (zU (zU (zU (zU (zU (zU (zU X n 0 (X m 0)) n 1 (X m 1)) n 2 (X m 2)) n 3 (X m 3)) n 4 (X m 4)) n 5 (X m 5)) n 6 (X m 6)) (m + 1) (n + 1) 0 0 6) (hd : m + 1 < n ∨ n + 1 < m) : (∀ z, z ≠ n → z ≠ n + 1 → X1 z = X z) ∧ (∀ w : Int, 0 ≤ w → w ≤ 6 → X1 n w = X m w) ∧ ∀ y : Int, 0 ≤ y → y < 6 → X1 (n + 1) y = X (m + 1) y := by
  subst h
  refine ⟨fun z h1 h2 => by rw [zCp_o h2, zU_o h1, zU_o h1, zU_o h1, zU_o h1, zU_o h1, zU_o h1, zU_o h1], fun w w0 w6 => ?_, fun y y0 y1 => ?_⟩
  · rw [zCp_o (by omega)]
    have e : w = 0 ∨ w = 1 ∨ w = 2 ∨ w = 3 ∨ w = 4 ∨ w = 5 ∨ w = 6 := by omega
    rcases e with e | e | e | e | e | e | e <;> subst e
    · rw [zU_n (by omega), zU_n (by omega), zU_n (by omega), zU_n (by omega), zU_n (by omega), zU_n (by omega), zU_s]
    · rw [zU_n (by omega), zU_n (by omega), zU_n (by omega), zU_n (by omega), zU_n (by omega), zU_s]
    · rw [zU_n (by omega), zU_n (by omega), zU_n (by omega), zU_n (by omega), zU_s]
    · rw [zU_n (by omega), zU_n (by omega), zU_n (by omega), zU_s]
    · rw [zU_n (by omega), zU_n (by omega), zU_s]
    · rw [zU_n (by omega), zU_s]
    · rw [zU_s]
  · rw [zCp_i y0 y1, zU_o (by omega), zU_o (by omega), zU_o (by omega), zU_o (by omega), zU_o (by omega), zU_o (by omega), zU_o (by omega)]
theorem cpB {X X1 : Nat → Int → Int} {n m : Nat} (h : X1 = zCp (zCp (zCp (zCp (zCp (zU X n 0 (X m 0)) (m + 1) (n + 1) 0 0 15) (m + 2) (n + 2) 0 0 15) (m + 3) (n + 3) 0 0 15) (m + 4) (n + 4) 0 0 15) (m + 5) (n + 5) 0 0 135) (hd : m + 5 < n ∨ n + 5 < m) : (∀ z, (z < n ∨ n + 5 < z) → X1 z = X z) ∧ X1 n 0 = X m 0 ∧ (∀ s : Nat, 1 ≤ s → s ≤ 4 → ∀ y : Int, 0 ≤ y → y < 15 → X1 (n + s) y = X (m + s) y) ∧ ∀ y : Int, 0 ≤ y → y < 135 → X1 (n + 5) y = X (m + 5) y := by
  subst h
  refine ⟨fun z hz => by rw [zCp_o (by omega), zCp_o (by omega), zCp_o (by omega), zCp_o (by omega), zCp_o (by omega), zU_o (by omega)], ?_, fun s s1 s4 y y0 y1 => ?_, fun y y0 y1 => ?_⟩
  · rw [zCp_o (by omega), zCp_o (by omega), zCp_o (by omega), zCp_o (by omega), zCp_o (by omega), zU_s]
  · have e : s = 1 ∨ s = 2 ∨ s = 3 ∨ s = 4 := by omega
    rcases e with e | e | e | e <;> subst e
    · rw [zCp_o (by omega), zCp_o (by omega), zCp_o (by omega), zCp_o (by omega), zCp_i y0 y1, zU_o (by omega)]
    · rw [zCp_o (by omega), zCp_o (by omega), zCp_o (by omega), zCp_i y0 y1, zCp_o (by omega), zU_o (by omega)]
    · rw [zCp_o (by omega), zCp_o (by omega), zCp_i y0 y1, zCp_o (by omega), zCp_o (by omega), zU_o (by omega)]
    · rw [zCp_o (by omega), zCp_i y0 y1, zCp_o (by omega), zCp_o (by omega), zCp_o (by omega), zU_o (by omega)]
  · rw [zCp_i y0 y1, zCp_o (by omega), zCp_o (by omega), zCp_o (by omega), zCp_o (by omega), zU_o (by omega)]
theorem cpR {X X1 : Nat → Int → Int} {n m : Nat} {nn : Int} (h : X1 = zCp (zU X n 2 (X m 2)) (m + 1) (n + 1) 0 0 nn) (hd : m + 1 < n ∨ n + 1 < m) : (∀ z, z ≠ n → z ≠ n + 1 → X1 z = X z) ∧ X1 n 2 = X m 2 ∧ (∀ s : Int, s ≠ 2 → X1 n s = X n s) ∧ ∀ y : Int, 0 ≤ y → y < nn → X1 (n + 1) y = X (m + 1) y := by
  subst h
  exact ⟨fun z h1 h2 => by rw [zCp_o h2, zU_o h1], by rw [zCp_o (by omega), zU_s], fun s hs => by rw [zCp_o (by omega), zU_n (by omega)], fun y y0 y1 => by rw [zCp_i y0 y1, zU_o (by omega)]⟩
abbrev cX9_copy : ByteArray := prog_11_method_2_code
def yX9_copy : MethodName := ⟨RX9, "copy", "(LWorkChains$Told;)V"⟩
theorem dX9_copy_0 : decode cX9_copy 0 = .ok (.aload_n 1, 1) := by decide +kernel
theorem dX9_copy_1 : decode cX9_copy 1 = .ok (.getfield 9, 3) := by decide +kernel
theorem dX9_copy_4 : decode cX9_copy 4 = .ok (.iconst 0, 1) := by decide +kernel
theorem dX9_copy_5 : decode cX9_copy 5 = .ok (.aload_n 0, 1) := by decide +kernel
theorem dX9_copy_6 : decode cX9_copy 6 = .ok (.getfield 9, 3) := by decide +kernel
theorem dX9_copy_9 : decode cX9_copy 9 = .ok (.iconst 0, 1) := by decide +kernel
theorem dX9_copy_10 : decode cX9_copy 10 = .ok (.sipush 600, 3) := by decide +kernel
theorem dX9_copy_13 : decode cX9_copy 13 = .ok (.invokestatic 46, 3) := by decide +kernel
theorem dX9_copy_16 : decode cX9_copy 16 = .ok (.aload_n 0, 1) := by decide +kernel
theorem dX9_copy_17 : decode cX9_copy 17 = .ok (.aload_n 1, 1) := by decide +kernel
theorem dX9_copy_18 : decode cX9_copy 18 = .ok (.getfield 52, 3) := by decide +kernel
theorem dX9_copy_21 : decode cX9_copy 21 = .ok (.putfield 52, 3) := by decide +kernel
theorem dX9_copy_24 : decode cX9_copy 24 = .ok (.aload_n 0, 1) := by decide +kernel
theorem dX9_copy_25 : decode cX9_copy 25 = .ok (.aload_n 1, 1) := by decide +kernel
theorem dX9_copy_26 : decode cX9_copy 26 = .ok (.getfield 55, 3) := by decide +kernel
theorem dX9_copy_29 : decode cX9_copy 29 = .ok (.putfield 55, 3) := by decide +kernel
theorem dX9_copy_32 : decode cX9_copy 32 = .ok (.aload_n 0, 1) := by decide +kernel
theorem dX9_copy_33 : decode cX9_copy 33 = .ok (.aload_n 1, 1) := by decide +kernel
theorem dX9_copy_34 : decode cX9_copy 34 = .ok (.getfield 15, 3) := by decide +kernel
theorem dX9_copy_37 : decode cX9_copy 37 = .ok (.putfield 15, 3) := by decide +kernel
theorem dX9_copy_40 : decode cX9_copy 40 = .ok (.aload_n 1, 1) := by decide +kernel
theorem dX9_copy_41 : decode cX9_copy 41 = .ok (.getfield 19, 3) := by decide +kernel
theorem dX9_copy_44 : decode cX9_copy 44 = .ok (.iconst 0, 1) := by decide +kernel
theorem dX9_copy_45 : decode cX9_copy 45 = .ok (.aload_n 0, 1) := by decide +kernel
theorem dX9_copy_46 : decode cX9_copy 46 = .ok (.getfield 19, 3) := by decide +kernel
theorem dX9_copy_49 : decode cX9_copy 49 = .ok (.iconst 0, 1) := by decide +kernel
theorem dX9_copy_50 : decode cX9_copy 50 = .ok (.iconst 5, 1) := by decide +kernel
theorem dX9_copy_51 : decode cX9_copy 51 = .ok (.invokestatic 46, 3) := by decide +kernel
theorem dX9_copy_54 : decode cX9_copy 54 = .ok (.iconst 0, 1) := by decide +kernel
theorem dX9_copy_55 : decode cX9_copy 55 = .ok (.istore_n 2, 1) := by decide +kernel
theorem dX9_copy_56 : decode cX9_copy 56 = .ok (.iload_n 2, 1) := by decide +kernel
theorem dX9_copy_57 : decode cX9_copy 57 = .ok (.iconst 2, 1) := by decide +kernel
theorem dX9_copy_58 : decode cX9_copy 58 = .ok (.if_icmp .ge 39, 3) := by decide +kernel
theorem dX9_copy_61 : decode cX9_copy 61 = .ok (.aload_n 0, 1) := by decide +kernel
theorem dX9_copy_62 : decode cX9_copy 62 = .ok (.getfield 25, 3) := by decide +kernel
theorem dX9_copy_65 : decode cX9_copy 65 = .ok (.iload_n 2, 1) := by decide +kernel
theorem dX9_copy_66 : decode cX9_copy 66 = .ok (.aaload, 1) := by decide +kernel
theorem dX9_copy_67 : decode cX9_copy 67 = .ok (.aload_n 1, 1) := by decide +kernel
theorem dX9_copy_68 : decode cX9_copy 68 = .ok (.getfield 25, 3) := by decide +kernel
theorem dX9_copy_71 : decode cX9_copy 71 = .ok (.iload_n 2, 1) := by decide +kernel
theorem dX9_copy_72 : decode cX9_copy 72 = .ok (.aaload, 1) := by decide +kernel
theorem dX9_copy_73 : decode cX9_copy 73 = .ok (.invokevirtual 58, 3) := by decide +kernel
theorem dX9_copy_76 : decode cX9_copy 76 = .ok (.aload_n 0, 1) := by decide +kernel
theorem dX9_copy_77 : decode cX9_copy 77 = .ok (.getfield 31, 3) := by decide +kernel
theorem dX9_copy_80 : decode cX9_copy 80 = .ok (.iload_n 2, 1) := by decide +kernel
theorem dX9_copy_81 : decode cX9_copy 81 = .ok (.aaload, 1) := by decide +kernel
theorem dX9_copy_82 : decode cX9_copy 82 = .ok (.aload_n 1, 1) := by decide +kernel
theorem dX9_copy_83 : decode cX9_copy 83 = .ok (.getfield 31, 3) := by decide +kernel
theorem dX9_copy_86 : decode cX9_copy 86 = .ok (.iload_n 2, 1) := by decide +kernel
theorem dX9_copy_87 : decode cX9_copy 87 = .ok (.aaload, 1) := by decide +kernel
theorem dX9_copy_88 : decode cX9_copy 88 = .ok (.invokevirtual 62, 3) := by decide +kernel
theorem dX9_copy_91 : decode cX9_copy 91 = .ok (.iinc 2 1, 3) := by decide +kernel
theorem dX9_copy_94 : decode cX9_copy 94 = .ok (.goto (-38), 3) := by decide +kernel
theorem dX9_copy_97 : decode cX9_copy 97 = .ok (.iconst 0, 1) := by decide +kernel
theorem dX9_copy_98 : decode cX9_copy 98 = .ok (.istore_n 2, 1) := by decide +kernel
theorem dX9_copy_99 : decode cX9_copy 99 = .ok (.iload_n 2, 1) := by decide +kernel
theorem dX9_copy_100 : decode cX9_copy 100 = .ok (.aload_n 0, 1) := by decide +kernel
theorem dX9_copy_101 : decode cX9_copy 101 = .ok (.getfield 37, 3) := by decide +kernel
theorem dX9_copy_104 : decode cX9_copy 104 = .ok (.arraylength, 1) := by decide +kernel
theorem dX9_copy_105 : decode cX9_copy 105 = .ok (.if_icmp .ge 24, 3) := by decide +kernel
theorem dX9_copy_108 : decode cX9_copy 108 = .ok (.aload_n 0, 1) := by decide +kernel
theorem dX9_copy_109 : decode cX9_copy 109 = .ok (.getfield 37, 3) := by decide +kernel
theorem dX9_copy_112 : decode cX9_copy 112 = .ok (.iload_n 2, 1) := by decide +kernel
theorem dX9_copy_113 : decode cX9_copy 113 = .ok (.aaload, 1) := by decide +kernel
theorem dX9_copy_114 : decode cX9_copy 114 = .ok (.aload_n 1, 1) := by decide +kernel
theorem dX9_copy_115 : decode cX9_copy 115 = .ok (.getfield 37, 3) := by decide +kernel
theorem dX9_copy_118 : decode cX9_copy 118 = .ok (.iload_n 2, 1) := by decide +kernel
theorem dX9_copy_119 : decode cX9_copy 119 = .ok (.aaload, 1) := by decide +kernel
theorem dX9_copy_120 : decode cX9_copy 120 = .ok (.invokevirtual 65, 3) := by decide +kernel
theorem dX9_copy_123 : decode cX9_copy 123 = .ok (.iinc 2 1, 3) := by decide +kernel
theorem dX9_copy_126 : decode cX9_copy 126 = .ok (.goto (-27), 3) := by decide +kernel
theorem dX9_copy_129 : decode cX9_copy 129 = .ok (.return_, 1) := by decide +kernel
theorem q_823 : Cond.methodLink RX9 46 arraycopyName ∈ zTB := zmem 823 (by decide +kernel) rfl
theorem q_283 : Cond.fieldLink RX9 55 RX9 "fault" "I" ∈ zTB := zmem 283 (by decide +kernel) rfl
theorem q_285 : Cond.fieldLink RX9 15 RX9 "faultPlace" "I" ∈ zTB := zmem 285 (by decide +kernel) rfl
theorem q_787 : Cond.methodLink RX9 58 yX6_copy ∈ zTB := zmem 787 (by decide +kernel) rfl
theorem q_788 : Cond.instanceMethod yX6_copy ∈ zTB := zmem 788 (by decide +kernel) rfl
theorem q_789 : Cond.selects RX6 yX6_copy yX6_copy ∈ zTB := zmem 789 (by decide +kernel) rfl
theorem q_790 : Cond.code yX6_copy cX6_copy 2 none ∈ zTB := zmem 790 (by decide +kernel) rfl
theorem k_RX9_58 : zLv RX9 58 RX6 yX6_copy cX6_copy 2 none 1 := ⟨⟨q_787, q_788, q_789, q_131, q_790⟩, rfl, ⟨by decide, by decide⟩, by decide +kernel⟩
theorem q_794 : Cond.methodLink RX9 62 yX0_copy ∈ zTB := zmem 794 (by decide +kernel) rfl
theorem q_795 : Cond.instanceMethod yX0_copy ∈ zTB := zmem 795 (by decide +kernel) rfl
theorem q_796 : Cond.selects RX0 yX0_copy yX0_copy ∈ zTB := zmem 796 (by decide +kernel) rfl
theorem q_797 : Cond.code yX0_copy cX0_copy 2 none ∈ zTB := zmem 797 (by decide +kernel) rfl
theorem k_RX9_62 : zLv RX9 62 RX0 yX0_copy cX0_copy 2 none 1 := ⟨⟨q_794, q_795, q_796, q_132, q_797⟩, rfl, ⟨by decide, by decide⟩, by decide +kernel⟩
theorem q_799 : Cond.methodLink RX9 65 yX8_copy ∈ zTB := zmem 799 (by decide +kernel) rfl
theorem q_800 : Cond.instanceMethod yX8_copy ∈ zTB := zmem 800 (by decide +kernel) rfl
theorem q_801 : Cond.selects RX8 yX8_copy yX8_copy ∈ zTB := zmem 801 (by decide +kernel) rfl
theorem q_802 : Cond.code yX8_copy cX8_copy 2 none ∈ zTB := zmem 802 (by decide +kernel) rfl
theorem k_RX9_65 : zLv RX9 65 RX8 yX8_copy cX8_copy 2 none 1 := ⟨⟨q_799, q_800, q_801, q_133, q_802⟩, rfl, ⟨by decide, by decide⟩, by decide +kernel⟩
def F_X9_copy (i j : Nat) (X Y : Nat → Int → Int) (R : Nat → Int → Option Nat)  : Prop := (∀ i j, rI (X i j)) → (∀ i j, rL (Y i j)) → ((0 ≤ (0 : Int) ∧ 0 ≤ (0 : Int) ∧ 0 ≤ (600 : Int)) ∧ (0 : Int) + 600 ≤ 600 ∧ (0 : Int) + 600 ≤ 600) ∧ ((∀ y : Int, 0 ≤ y → y < 0 + 600 → -128 ≤ X (j + 1) y ∧ X (j + 1) y ≤ 127) ∧ (∀ X3 : Nat → Int → Int, X3 = zCp X (j + 1) (i + 1) 0 0 600 → (∀ i j, rI (X3 i j)) → (∀ X4 : Nat → Int → Int, X4 = zU X3 (i) 1 (X3 (j) 1) → (∀ i j, rI (X4 i j)) → (∀ X5 : Nat → Int → Int, X5 = zU X4 (i) 2 (X4 (j) 2) → (∀ i j, rI (X5 i j)) → (∀ X6 : Nat → Int → Int, X6 = zU X5 (i) 3 (X5 (j) 3) → (∀ i j, rI (X6 i j)) → (((0 ≤ (0 : Int) ∧ 0 ≤ (0 : Int) ∧ 0 ≤ (5 : Int)) ∧ (0 : Int) + 5 ≤ 5 ∧ (0 : Int) + 5 ≤ 5) ∧ (∀ X8 : Nat → Int → Int, X8 = zCp X6 (j + 2) (i + 2) 0 0 5 → (∀ i j, rI (X8 i j)) → (((j + 6) ≠ (i + 6)) ∧ (∀ X11 : Nat → Int → Int, (∀ i j, rI (X11 i j)) → ((X11) = zCp (zU (zU (zU (zU (zU (zU (zU X8 (i + 6) 0 (X8 (j + 6) 0)) (i + 6) 1 (X8 (j + 6) 1)) (i + 6) 2 (X8 (j + 6) 2)) (i + 6) 3 (X8 (j + 6) 3)) (i + 6) 4 (X8 (j + 6) 4)) (i + 6) 5 (X8 (j + 6) 5)) (i + 6) 6 (X8 (j + 6) 6)) ((j + 6) + 1) (i + 7) 0 0 6) → (((j + 8) ≠ (i + 8) ∧ ((j + 8) + 5 < (i + 8) ∨ (i + 8) + 5 < (j + 8))) ∧ (∀ X13 : Nat → Int → Int, (∀ i j, rI (X13 i j)) → ((X13) = zCp (zCp (zCp (zCp (zCp (zU X11 (i + 8) 0 (X11 (j + 8) 0)) ((j + 8) + 1) (i + 9) 0 0 15) ((j + 8) + 2) (i + 10) 0 0 15) ((j + 8) + 3) (i + 11) 0 0 15) ((j + 8) + 4) (i + 12) 0 0 15) ((j + 8) + 5) (i + 13) 0 0 135) → (((j + 14) ≠ (i + 14)) ∧ (∀ X16 : Nat → Int → Int, (∀ i j, rI (X16 i j)) → ((X16) = zCp (zU (zU (zU (zU (zU (zU (zU X13 (i + 14) 0 (X13 (j + 14) 0)) (i + 14) 1 (X13 (j + 14) 1)) (i + 14) 2 (X13 (j + 14) 2)) (i + 14) 3 (X13 (j + 14) 3)) (i + 14) 4 (X13 (j + 14) 4)) (i + 14) 5 (X13 (j + 14) 5)) (i + 14) 6 (X13 (j + 14) 6)) ((j + 14) + 1) (i + 15) 0 0 6) → (((j + 16) ≠ (i + 16) ∧ ((j + 16) + 5 < (i + 16) ∨ (i + 16) + 5 < (j + 16))) ∧ (∀ X18 : Nat → Int → Int, (∀ i j, rI (X18 i j)) → ((X18) = zCp (zCp (zCp (zCp (zCp (zU X16 (i + 16) 0 (X16 (j + 16) 0)) ((j + 16) + 1) (i + 17) 0 0 15) ((j + 16) + 2) (i + 18) 0 0 15) ((j + 16) + 3) (i + 19) 0 0 15) ((j + 16) + 4) (i + 20) 0 0 15) ((j + 16) + 5) (i + 21) 0 0 135) → (((j + 22) ≠ (i + 22) ∧ (rwN (0)) = (rwN (0)) ∧ (rwN (0)) ≤ 200) ∧ (∀ X22 : Nat → Int → Int, (∀ i j, rI (X22 i j)) → ((X22) = zCp (zU X18 (i + 22) 2 (X18 (j + 22) 2)) ((j + 22) + 1) (i + 23) 0 0 (rwN (0))) → (((j + 24) ≠ (i + 24) ∧ (rwN (1)) = (rwN (1)) ∧ (rwN (1)) ≤ 200) ∧ (∀ X25 : Nat → Int → Int, (∀ i j, rI (X25 i j)) → ((X25) = zCp (zU X22 (i + 24) 2 (X22 (j + 24) 2)) ((j + 24) + 1) (i + 25) 0 0 (rwN (1))) → (((j + 26) ≠ (i + 26) ∧ (rwN (2)) = (rwN (2)) ∧ (rwN (2)) ≤ 200) ∧ (∀ X28 : Nat → Int → Int, (∀ i j, rI (X28 i j)) → ((X28) = zCp (zU X25 (i + 26) 2 (X25 (j + 26) 2)) ((j + 26) + 1) (i + 27) 0 0 (rwN (2))) → (((j + 28) ≠ (i + 28) ∧ (rwN (3)) = (rwN (3)) ∧ (rwN (3)) ≤ 200) ∧ (∀ X31 : Nat → Int → Int, (∀ i j, rI (X31 i j)) → ((X31) = zCp (zU X28 (i + 28) 2 (X28 (j + 28) 2)) ((j + 28) + 1) (i + 29) 0 0 (rwN (3))) → (((j + 30) ≠ (i + 30) ∧ (rwN (4)) = (rwN (4)) ∧ (rwN (4)) ≤ 200) ∧ (∀ X34 : Nat → Int → Int, (∀ i j, rI (X34 i j)) → ((X34) = zCp (zU X31 (i + 30) 2 (X31 (j + 30) 2)) ((j + 30) + 1) (i + 31) 0 0 (rwN (4))) → (((j + 32) ≠ (i + 32) ∧ (rwN (5)) = (rwN (5)) ∧ (rwN (5)) ≤ 200) ∧ (∀ X37 : Nat → Int → Int, (∀ i j, rI (X37 i j)) → ((X37) = zCp (zU X34 (i + 32) 2 (X34 (j + 32) 2)) ((j + 32) + 1) (i + 33) 0 0 (rwN (5))) → (cpT X (X37) i j))))))))))))))))))))))))))))
set_option maxHeartbeats 4000000 in
set_option maxRecDepth 100000 in
theorem w_X9_copy {l : Launch} {D : va_G} {cy : Nat → ClassId} {bs N : Nat} {sa : Nat → Nat} {kd len : Nat → Nat} {X Y : Nat → Int → Int} {R : Nat → Int → Option Nat} {i j : Nat} (hC : zTd N kd len R i) (hD : zTd N kd len R j)  (hF : F_X9_copy i j X Y R ) : Met l yX9_copy (.code yX9_copy cX9_copy 3 none :: zTB) (zRm 2 81) (zPc D cy bs sa N kd len X Y R [.ref (bs + (i)), .ref (bs + (j))]) (zQv D cy bs N kd len (fun st => st.2.1 = Y ∧ st.2.2 = R ∧ (cpT X (st.1) i j))) 0 0 (zA bs) := by
  refine zstart (by decide) (Nat.le_of_ble_eq_true rfl) ?_
  intro p e s m args below meth c ls C hE hH hr hlk hnm hl hargs
  have hF := hF hH.2.2.1 hH.2.2.2
  have hS : va_S (zA bs) s.heap s.heap [] := va_S.rf
  have hl : lv_has ls 3 [(0, .ref (bs + (i))), (1, .ref (bs + (j)))] := hl
  refine lv_aload_n C.1 C.2.1 dX9_copy_0 rfl (lv_at hl 1 rfl) ?_
  refine zg9_0 C hH (zTold_n0 hD.1) (zTold_k0 hD.1) q_279 (zTold_r1 hD.1) dX9_copy_1 ?_
  refine zd_iconst C dX9_copy_4 ?_
  refine lv_aload_n C.1 C.2.1 dX9_copy_5 rfl (lv_at hl 0 rfl) ?_
  refine zg9_0 C hH (zTold_n0 hC.1) (zTold_k0 hC.1) q_279 (zTold_r1 hC.1) dX9_copy_6 ?_
  refine zd_iconst C dX9_copy_9 ?_
  refine zd_sipush C (by decide) dX9_copy_10 ?_
  obtain ⟨o1, hF⟩ := hF
  obtain ⟨o2, hF⟩ := hF
  refine zd_copyb C hl.1 hH hS (zTold_n1 hC.1) (zTold_n1 hD.1) (zTold_k1 hC.1) (zTold_k1 hD.1) q_823 q_793 q_792 q_146 o1.1.1 o1.1.2.1 o1.1.2.2 (by rw [zTold_l1 hD.1]; exact o1.2.1) (by rw [zTold_l1 hC.1]; exact o1.2.2) o2 (by rw [zTold_l1 hC.1]; decide) (by rw [zTold_l1 hD.1]; decide) (Nat.le_of_ble_eq_true rfl) (Nat.le_of_ble_eq_true rfl) dX9_copy_13 (fun H locs hH hS => ?_)
  obtain ⟨X3, eX3⟩ : ∃ z, z = zCp X (j + 1) (i + 1) 0 0 600 := ⟨_, rfl⟩
  rw [← eX3] at hH
  have hF := hF X3 eX3 hH.2.2.1
  refine lv_aload_n C.1 C.2.1 dX9_copy_16 rfl (lv_at hl 0 rfl) ?_
  refine lv_aload_n C.1 C.2.1 dX9_copy_17 rfl (lv_at hl 1 rfl) ?_
  refine zg9_1 C hH (zTold_n0 hD.1) (zTold_k0 hD.1) q_282 dX9_copy_18 ?_
  refine zp9_1 C hH hS (zTold_n0 hC.1) (zTold_k0 hC.1) q_282 (hH.2.2.1 _ _) dX9_copy_21 (fun H locs hH hS => ?_)
  obtain ⟨X4, eX4⟩ : ∃ z, z = zU X3 (i) 1 (X3 (j) 1) := ⟨_, rfl⟩
  rw [← eX4] at hH
  have hF := hF X4 eX4 hH.2.2.1
  refine lv_aload_n C.1 C.2.1 dX9_copy_24 rfl (lv_at hl 0 rfl) ?_
  refine lv_aload_n C.1 C.2.1 dX9_copy_25 rfl (lv_at hl 1 rfl) ?_
  refine zg9_2 C hH (zTold_n0 hD.1) (zTold_k0 hD.1) q_283 dX9_copy_26 ?_
  refine zp9_2 C hH hS (zTold_n0 hC.1) (zTold_k0 hC.1) q_283 (hH.2.2.1 _ _) dX9_copy_29 (fun H locs hH hS => ?_)
  obtain ⟨X5, eX5⟩ : ∃ z, z = zU X4 (i) 2 (X4 (j) 2) := ⟨_, rfl⟩
  rw [← eX5] at hH
  have hF := hF X5 eX5 hH.2.2.1
  refine lv_aload_n C.1 C.2.1 dX9_copy_32 rfl (lv_at hl 0 rfl) ?_
  refine lv_aload_n C.1 C.2.1 dX9_copy_33 rfl (lv_at hl 1 rfl) ?_
  refine zg9_3 C hH (zTold_n0 hD.1) (zTold_k0 hD.1) q_285 dX9_copy_34 ?_
  refine zp9_3 C hH hS (zTold_n0 hC.1) (zTold_k0 hC.1) q_285 (hH.2.2.1 _ _) dX9_copy_37 (fun H locs hH hS => ?_)
  obtain ⟨X6, eX6⟩ : ∃ z, z = zU X5 (i) 3 (X5 (j) 3) := ⟨_, rfl⟩
  rw [← eX6] at hH
  have hF := hF X6 eX6 hH.2.2.1
  refine lv_aload_n C.1 C.2.1 dX9_copy_40 rfl (lv_at hl 1 rfl) ?_
  refine zg9_4 C hH (zTold_n0 hD.1) (zTold_k0 hD.1) q_287 (zTold_r2 hD.1) dX9_copy_41 ?_
  refine zd_iconst C dX9_copy_44 ?_
  refine lv_aload_n C.1 C.2.1 dX9_copy_45 rfl (lv_at hl 0 rfl) ?_
  refine zg9_4 C hH (zTold_n0 hC.1) (zTold_k0 hC.1) q_287 (zTold_r2 hC.1) dX9_copy_46 ?_
  refine zd_iconst C dX9_copy_49 ?_
  refine zd_iconst C dX9_copy_50 ?_
  obtain ⟨o7, hF⟩ := hF
  refine zd_copyi C hl.1 hH hS (zTold_n2 hC.1) (zTold_n2 hD.1) (zTold_k2 hC.1) (zTold_k2 hD.1) q_823 q_793 q_792 q_146 o7.1.1 o7.1.2.1 o7.1.2.2 (by rw [zTold_l2 hD.1]; exact o7.2.1) (by rw [zTold_l2 hC.1]; exact o7.2.2) (by rw [zTold_l2 hC.1]; decide) (by rw [zTold_l2 hD.1]; decide) (Nat.le_of_ble_eq_true rfl) (Nat.le_of_ble_eq_true rfl) dX9_copy_51 (fun H locs hH hS => ?_)
  obtain ⟨X8, eX8⟩ : ∃ z, z = zCp X6 (j + 2) (i + 2) 0 0 5 := ⟨_, rfl⟩
  rw [← eX8] at hH
  have hF := hF X8 eX8 hH.2.2.1
  refine zd_iconst C dX9_copy_54 ?_
  refine lv_istore_n (lv' := [(2, .int (zI (0))), (0, .ref (bs + (i))), (1, .ref (bs + (j)))]) C.1 C.2.1 dX9_copy_55 rfl hl (by decide) rfl (fun ls hl => ?_)
  refine lv_iload_n C.1 C.2.1 dX9_copy_56 rfl (lv_at hl 0 rfl) ?_
  refine zd_iconst C dX9_copy_57 ?_
  refine zd_icmp_ge C (by decide) (by decide) 97 dX9_copy_58 (by decide) (fun c9 => ?_) (fun c9 => ?_)
  · exact absurd c9 (by decide)
  · refine lv_aload_n C.1 C.2.1 dX9_copy_61 rfl (lv_at hl 1 rfl) ?_
    refine zg9_5 C hH (zTold_n0 hC.1) (zTold_k0 hC.1) q_289 (zTd_r3 hC) dX9_copy_62 ?_
    refine lv_iload_n C.1 C.2.1 dX9_copy_65 rfl (lv_at hl 0 rfl) ?_
    refine zd_aaldr C hH (zTd_n3 hC) 6 rfl rfl (by rw [(zTd_k3 hC)]; rfl) (by decide) (by rw [zTd_l3 hC]; decide) (by rw [zTd_l3 hC]; decide) (zTd_nb (z := 0) hC (by decide) (by decide)).1.1 dX9_copy_66 ?_
    refine lv_aload_n C.1 C.2.1 dX9_copy_67 rfl (lv_at hl 2 rfl) ?_
    refine zg9_5 C hH (zTold_n0 hD.1) (zTold_k0 hD.1) q_289 (zTd_r3 hD) dX9_copy_68 ?_
    refine lv_iload_n C.1 C.2.1 dX9_copy_71 rfl (lv_at hl 0 rfl) ?_
    refine zd_aaldr C hH (zTd_n3 hD) 6 rfl rfl (by rw [(zTd_k3 hD)]; rfl) (by decide) (by rw [zTd_l3 hD]; decide) (by rw [zTd_l3 hD]; decide) (zTd_nb (z := 0) hD (by decide) (by decide)).1.1 dX9_copy_72 ?_
    obtain ⟨o10, hF⟩ := hF
    refine zgov (zrunV (As := [.ref (bs + (j + 6))]) (rest := []) C hE hH hS hl.1 (c_X6_copy (l := l) (zTd_nb (z := 0) hC (by decide) (by decide)).1.2 (zTd_nb (z := 0) hD (by decide) (by decide)).1.2  o10) k_RX9_58 ⟨Nat.le_of_ble_eq_true rfl, Nat.le_of_ble_eq_true rfl⟩ (zNet_n0 (zTd_nb (z := 0) hC (by decide) (by decide)).1.2) (zNet_k0 (zTd_nb (z := 0) hC (by decide) (by decide)).1.2) rfl rfl rfl (Nat.le_of_ble_eq_true rfl) dX9_copy_73 ⟨Nat.zero_le _, Nat.zero_le _⟩) hS (fun X11 Yq Rq H locs hq hH hS => ?_)
    obtain ⟨h9Y, h9R, hq⟩ := hq
    dsimp only at h9Y h9R
    rw [h9Y, h9R] at hH
    have hF := hF X11 hH.2.2.1 hq
    refine lv_aload_n C.1 C.2.1 dX9_copy_76 rfl (lv_at hl 1 rfl) ?_
    refine zg9_6 C hH (zTold_n0 hC.1) (zTold_k0 hC.1) q_290 (zTd_r4 hC) dX9_copy_77 ?_
    refine lv_iload_n C.1 C.2.1 dX9_copy_80 rfl (lv_at hl 0 rfl) ?_
    refine zd_aaldr C hH (zTd_n4 hC) 4 rfl rfl (by rw [(zTd_k4 hC)]; rfl) (by decide) (by rw [zTd_l4 hC]; decide) (by rw [zTd_l4 hC]; decide) (zTd_nb (z := 0) hC (by decide) (by decide)).2.1 dX9_copy_81 ?_
    refine lv_aload_n C.1 C.2.1 dX9_copy_82 rfl (lv_at hl 2 rfl) ?_
    refine zg9_6 C hH (zTold_n0 hD.1) (zTold_k0 hD.1) q_290 (zTd_r4 hD) dX9_copy_83 ?_
    refine lv_iload_n C.1 C.2.1 dX9_copy_86 rfl (lv_at hl 0 rfl) ?_
    refine zd_aaldr C hH (zTd_n4 hD) 4 rfl rfl (by rw [(zTd_k4 hD)]; rfl) (by decide) (by rw [zTd_l4 hD]; decide) (by rw [zTd_l4 hD]; decide) (zTd_nb (z := 0) hD (by decide) (by decide)).2.1 dX9_copy_87 ?_
    obtain ⟨o12, hF⟩ := hF
    refine zgov (zrunV (As := [.ref (bs + (j + 8))]) (rest := []) C hE hH hS hl.1 (c_X0_copy (l := l) (zTd_nb (z := 0) hC (by decide) (by decide)).2.2 (zTd_nb (z := 0) hD (by decide) (by decide)).2.2  o12) k_RX9_62 ⟨Nat.le_of_ble_eq_true rfl, Nat.le_of_ble_eq_true rfl⟩ (zBlocks_n0 (zTd_nb (z := 0) hC (by decide) (by decide)).2.2) (zBlocks_k0 (zTd_nb (z := 0) hC (by decide) (by decide)).2.2) rfl rfl rfl (Nat.le_of_ble_eq_true rfl) dX9_copy_88 ⟨Nat.zero_le _, Nat.zero_le _⟩) hS (fun X13 Yq Rq H locs hq hH hS => ?_)
    obtain ⟨h9Y, h9R, hq⟩ := hq
    dsimp only at h9Y h9R
    rw [h9Y, h9R] at hH
    have hF := hF X13 hH.2.2.1 hq
    refine zd_iinc (k := 0) (lv' := [(2, .int (zI (1))), (0, .ref (bs + (i))), (1, .ref (bs + (j)))]) C hl rfl dX9_copy_91 (by decide) rfl (fun ls hl => ?_)
    refine lv_goto (tgt := 56) C.1 C.2.1 dX9_copy_94 (by decide) ?_
    refine lv_iload_n C.1 C.2.1 dX9_copy_56 rfl (lv_at hl 0 rfl) ?_
    refine zd_iconst C dX9_copy_57 ?_
    refine zd_icmp_ge C (by decide) (by decide) 97 dX9_copy_58 (by decide) (fun c14 => ?_) (fun c14 => ?_)
    · exact absurd c14 (by decide)
    · refine lv_aload_n C.1 C.2.1 dX9_copy_61 rfl (lv_at hl 1 rfl) ?_
      refine zg9_5 C hH (zTold_n0 hC.1) (zTold_k0 hC.1) q_289 (zTd_r3 hC) dX9_copy_62 ?_
      refine lv_iload_n C.1 C.2.1 dX9_copy_65 rfl (lv_at hl 0 rfl) ?_
      refine zd_aaldr C hH (zTd_n3 hC) 6 rfl rfl (by rw [(zTd_k3 hC)]; rfl) (by decide) (by rw [zTd_l3 hC]; decide) (by rw [zTd_l3 hC]; decide) (zTd_nb (z := 1) hC (by decide) (by decide)).1.1 dX9_copy_66 ?_
      refine lv_aload_n C.1 C.2.1 dX9_copy_67 rfl (lv_at hl 2 rfl) ?_
      refine zg9_5 C hH (zTold_n0 hD.1) (zTold_k0 hD.1) q_289 (zTd_r3 hD) dX9_copy_68 ?_
      refine lv_iload_n C.1 C.2.1 dX9_copy_71 rfl (lv_at hl 0 rfl) ?_
      refine zd_aaldr C hH (zTd_n3 hD) 6 rfl rfl (by rw [(zTd_k3 hD)]; rfl) (by decide) (by rw [zTd_l3 hD]; decide) (by rw [zTd_l3 hD]; decide) (zTd_nb (z := 1) hD (by decide) (by decide)).1.1 dX9_copy_72 ?_
      obtain ⟨o15, hF⟩ := hF
      refine zgov (zrunV (As := [.ref (bs + (j + 14))]) (rest := []) C hE hH hS hl.1 (c_X6_copy (l := l) (zTd_nb (z := 1) hC (by decide) (by decide)).1.2 (zTd_nb (z := 1) hD (by decide) (by decide)).1.2  o15) k_RX9_58 ⟨Nat.le_of_ble_eq_true rfl, Nat.le_of_ble_eq_true rfl⟩ (zNet_n0 (zTd_nb (z := 1) hC (by decide) (by decide)).1.2) (zNet_k0 (zTd_nb (z := 1) hC (by decide) (by decide)).1.2) rfl rfl rfl (Nat.le_of_ble_eq_true rfl) dX9_copy_73 ⟨Nat.zero_le _, Nat.zero_le _⟩) hS (fun X16 Yq Rq H locs hq hH hS => ?_)
      obtain ⟨h9Y, h9R, hq⟩ := hq
      dsimp only at h9Y h9R
      rw [h9Y, h9R] at hH
      have hF := hF X16 hH.2.2.1 hq
      refine lv_aload_n C.1 C.2.1 dX9_copy_76 rfl (lv_at hl 1 rfl) ?_
      refine zg9_6 C hH (zTold_n0 hC.1) (zTold_k0 hC.1) q_290 (zTd_r4 hC) dX9_copy_77 ?_
      refine lv_iload_n C.1 C.2.1 dX9_copy_80 rfl (lv_at hl 0 rfl) ?_
      refine zd_aaldr C hH (zTd_n4 hC) 4 rfl rfl (by rw [(zTd_k4 hC)]; rfl) (by decide) (by rw [zTd_l4 hC]; decide) (by rw [zTd_l4 hC]; decide) (zTd_nb (z := 1) hC (by decide) (by decide)).2.1 dX9_copy_81 ?_
      refine lv_aload_n C.1 C.2.1 dX9_copy_82 rfl (lv_at hl 2 rfl) ?_
      refine zg9_6 C hH (zTold_n0 hD.1) (zTold_k0 hD.1) q_290 (zTd_r4 hD) dX9_copy_83 ?_
      refine lv_iload_n C.1 C.2.1 dX9_copy_86 rfl (lv_at hl 0 rfl) ?_
      refine zd_aaldr C hH (zTd_n4 hD) 4 rfl rfl (by rw [(zTd_k4 hD)]; rfl) (by decide) (by rw [zTd_l4 hD]; decide) (by rw [zTd_l4 hD]; decide) (zTd_nb (z := 1) hD (by decide) (by decide)).2.1 dX9_copy_87 ?_
      obtain ⟨o17, hF⟩ := hF
      refine zgov (zrunV (As := [.ref (bs + (j + 16))]) (rest := []) C hE hH hS hl.1 (c_X0_copy (l := l) (zTd_nb (z := 1) hC (by decide) (by decide)).2.2 (zTd_nb (z := 1) hD (by decide) (by decide)).2.2  o17) k_RX9_62 ⟨Nat.le_of_ble_eq_true rfl, Nat.le_of_ble_eq_true rfl⟩ (zBlocks_n0 (zTd_nb (z := 1) hC (by decide) (by decide)).2.2) (zBlocks_k0 (zTd_nb (z := 1) hC (by decide) (by decide)).2.2) rfl rfl rfl (Nat.le_of_ble_eq_true rfl) dX9_copy_88 ⟨Nat.zero_le _, Nat.zero_le _⟩) hS (fun X18 Yq Rq H locs hq hH hS => ?_)
      obtain ⟨h9Y, h9R, hq⟩ := hq
      dsimp only at h9Y h9R
      rw [h9Y, h9R] at hH
      have hF := hF X18 hH.2.2.1 hq
      refine zd_iinc (k := 0) (lv' := [(2, .int (zI (2))), (0, .ref (bs + (i))), (1, .ref (bs + (j)))]) C hl rfl dX9_copy_91 (by decide) rfl (fun ls hl => ?_)
      refine lv_goto (tgt := 56) C.1 C.2.1 dX9_copy_94 (by decide) ?_
      refine lv_iload_n C.1 C.2.1 dX9_copy_56 rfl (lv_at hl 0 rfl) ?_
      refine zd_iconst C dX9_copy_57 ?_
      refine zd_icmp_ge C (by decide) (by decide) 97 dX9_copy_58 (by decide) (fun c19 => ?_) (fun c19 => ?_)
      · refine zd_iconst C dX9_copy_97 ?_
        refine lv_istore_n (lv' := [(2, .int (zI (0))), (0, .ref (bs + (i))), (1, .ref (bs + (j)))]) C.1 C.2.1 dX9_copy_98 rfl hl (by decide) rfl (fun ls hl => ?_)
        refine lv_iload_n C.1 C.2.1 dX9_copy_99 rfl (lv_at hl 0 rfl) ?_
        refine lv_aload_n C.1 C.2.1 dX9_copy_100 rfl (lv_at hl 1 rfl) ?_
        refine zg9_7 C hH (zTold_n0 hC.1) (zTold_k0 hC.1) q_291 (zTd_r5 hC) dX9_copy_101 ?_
        refine zd_alen C hH (zTd_n5 hC) (t0 := 7) (by rw [(zTd_k5 hC)]; rfl) rfl rfl dX9_copy_104 ?_
        rw [zTd_l5 hC]
        refine zd_icmp_ge C (by decide) (by decide) 129 dX9_copy_105 (by decide) (fun c20 => ?_) (fun c20 => ?_)
        · exact absurd c20 (by decide)
        · refine lv_aload_n C.1 C.2.1 dX9_copy_108 rfl (lv_at hl 1 rfl) ?_
          refine zg9_7 C hH (zTold_n0 hC.1) (zTold_k0 hC.1) q_291 (zTd_r5 hC) dX9_copy_109 ?_
          refine lv_iload_n C.1 C.2.1 dX9_copy_112 rfl (lv_at hl 0 rfl) ?_
          refine zd_aaldr C hH (zTd_n5 hC) 7 rfl rfl (by rw [(zTd_k5 hC)]; rfl) (by decide) (by rw [zTd_l5 hC]; decide) (by rw [zTd_l5 hC]; decide) (zTd_rw (z := 0) hC (by decide) (by decide)).1.1 dX9_copy_113 ?_
          refine lv_aload_n C.1 C.2.1 dX9_copy_114 rfl (lv_at hl 2 rfl) ?_
          refine zg9_7 C hH (zTold_n0 hD.1) (zTold_k0 hD.1) q_291 (zTd_r5 hD) dX9_copy_115 ?_
          refine lv_iload_n C.1 C.2.1 dX9_copy_118 rfl (lv_at hl 0 rfl) ?_
          refine zd_aaldr C hH (zTd_n5 hD) 7 rfl rfl (by rw [(zTd_k5 hD)]; rfl) (by decide) (by rw [zTd_l5 hD]; decide) (by rw [zTd_l5 hD]; decide) (zTd_rw (z := 0) hD (by decide) (by decide)).1.1 dX9_copy_119 ?_
          obtain ⟨o21, hF⟩ := hF
          refine zgov (zrunV (As := [.ref (bs + (j + 22))]) (rest := []) C hE hH hS hl.1 (c_X8_copy (l := l) (zTd_rw (z := 0) hC (by decide) (by decide)).1.2 (zTd_rw (z := 0) hD (by decide) (by decide)).1.2 (zTd_rw (z := 0) hC (by decide) (by decide)).2 (zTd_rw (z := 0) hD (by decide) (by decide)).2  o21) k_RX9_65 ⟨Nat.le_of_ble_eq_true rfl, Nat.le_of_ble_eq_true rfl⟩ (zRows_n0 (zTd_rw (z := 0) hC (by decide) (by decide)).1.2) (zRows_k0 (zTd_rw (z := 0) hC (by decide) (by decide)).1.2) rfl rfl rfl (Nat.le_of_ble_eq_true rfl) dX9_copy_120 ⟨Nat.zero_le _, Nat.zero_le _⟩) hS (fun X22 Yq Rq H locs hq hH hS => ?_)
          obtain ⟨h9Y, h9R, hq⟩ := hq
          dsimp only at h9Y h9R
          rw [h9Y, h9R] at hH
          have hF := hF X22 hH.2.2.1 hq
          refine zd_iinc (k := 0) (lv' := [(2, .int (zI (1))), (0, .ref (bs + (i))), (1, .ref (bs + (j)))]) C hl rfl dX9_copy_123 (by decide) rfl (fun ls hl => ?_)
          refine lv_goto (tgt := 99) C.1 C.2.1 dX9_copy_126 (by decide) ?_
          refine lv_iload_n C.1 C.2.1 dX9_copy_99 rfl (lv_at hl 0 rfl) ?_
          refine lv_aload_n C.1 C.2.1 dX9_copy_100 rfl (lv_at hl 1 rfl) ?_
          refine zg9_7 C hH (zTold_n0 hC.1) (zTold_k0 hC.1) q_291 (zTd_r5 hC) dX9_copy_101 ?_
          refine zd_alen C hH (zTd_n5 hC) (t0 := 7) (by rw [(zTd_k5 hC)]; rfl) rfl rfl dX9_copy_104 ?_
          rw [zTd_l5 hC]
          refine zd_icmp_ge C (by decide) (by decide) 129 dX9_copy_105 (by decide) (fun c23 => ?_) (fun c23 => ?_)
          · exact absurd c23 (by decide)
          · refine lv_aload_n C.1 C.2.1 dX9_copy_108 rfl (lv_at hl 1 rfl) ?_
            refine zg9_7 C hH (zTold_n0 hC.1) (zTold_k0 hC.1) q_291 (zTd_r5 hC) dX9_copy_109 ?_
            refine lv_iload_n C.1 C.2.1 dX9_copy_112 rfl (lv_at hl 0 rfl) ?_
            refine zd_aaldr C hH (zTd_n5 hC) 7 rfl rfl (by rw [(zTd_k5 hC)]; rfl) (by decide) (by rw [zTd_l5 hC]; decide) (by rw [zTd_l5 hC]; decide) (zTd_rw (z := 1) hC (by decide) (by decide)).1.1 dX9_copy_113 ?_
            refine lv_aload_n C.1 C.2.1 dX9_copy_114 rfl (lv_at hl 2 rfl) ?_
            refine zg9_7 C hH (zTold_n0 hD.1) (zTold_k0 hD.1) q_291 (zTd_r5 hD) dX9_copy_115 ?_
            refine lv_iload_n C.1 C.2.1 dX9_copy_118 rfl (lv_at hl 0 rfl) ?_
            refine zd_aaldr C hH (zTd_n5 hD) 7 rfl rfl (by rw [(zTd_k5 hD)]; rfl) (by decide) (by rw [zTd_l5 hD]; decide) (by rw [zTd_l5 hD]; decide) (zTd_rw (z := 1) hD (by decide) (by decide)).1.1 dX9_copy_119 ?_
            obtain ⟨o24, hF⟩ := hF
            refine zgov (zrunV (As := [.ref (bs + (j + 24))]) (rest := []) C hE hH hS hl.1 (c_X8_copy (l := l) (zTd_rw (z := 1) hC (by decide) (by decide)).1.2 (zTd_rw (z := 1) hD (by decide) (by decide)).1.2 (zTd_rw (z := 1) hC (by decide) (by decide)).2 (zTd_rw (z := 1) hD (by decide) (by decide)).2  o24) k_RX9_65 ⟨Nat.le_of_ble_eq_true rfl, Nat.le_of_ble_eq_true rfl⟩ (zRows_n0 (zTd_rw (z := 1) hC (by decide) (by decide)).1.2) (zRows_k0 (zTd_rw (z := 1) hC (by decide) (by decide)).1.2) rfl rfl rfl (Nat.le_of_ble_eq_true rfl) dX9_copy_120 ⟨Nat.zero_le _, Nat.zero_le _⟩) hS (fun X25 Yq Rq H locs hq hH hS => ?_)
            obtain ⟨h9Y, h9R, hq⟩ := hq
            dsimp only at h9Y h9R
            rw [h9Y, h9R] at hH
            have hF := hF X25 hH.2.2.1 hq
            refine zd_iinc (k := 0) (lv' := [(2, .int (zI (2))), (0, .ref (bs + (i))), (1, .ref (bs + (j)))]) C hl rfl dX9_copy_123 (by decide) rfl (fun ls hl => ?_)
            refine lv_goto (tgt := 99) C.1 C.2.1 dX9_copy_126 (by decide) ?_
            refine lv_iload_n C.1 C.2.1 dX9_copy_99 rfl (lv_at hl 0 rfl) ?_
            refine lv_aload_n C.1 C.2.1 dX9_copy_100 rfl (lv_at hl 1 rfl) ?_
            refine zg9_7 C hH (zTold_n0 hC.1) (zTold_k0 hC.1) q_291 (zTd_r5 hC) dX9_copy_101 ?_
            refine zd_alen C hH (zTd_n5 hC) (t0 := 7) (by rw [(zTd_k5 hC)]; rfl) rfl rfl dX9_copy_104 ?_
            rw [zTd_l5 hC]
            refine zd_icmp_ge C (by decide) (by decide) 129 dX9_copy_105 (by decide) (fun c26 => ?_) (fun c26 => ?_)
            · exact absurd c26 (by decide)
            · refine lv_aload_n C.1 C.2.1 dX9_copy_108 rfl (lv_at hl 1 rfl) ?_
              refine zg9_7 C hH (zTold_n0 hC.1) (zTold_k0 hC.1) q_291 (zTd_r5 hC) dX9_copy_109 ?_
              refine lv_iload_n C.1 C.2.1 dX9_copy_112 rfl (lv_at hl 0 rfl) ?_
              refine zd_aaldr C hH (zTd_n5 hC) 7 rfl rfl (by rw [(zTd_k5 hC)]; rfl) (by decide) (by rw [zTd_l5 hC]; decide) (by rw [zTd_l5 hC]; decide) (zTd_rw (z := 2) hC (by decide) (by decide)).1.1 dX9_copy_113 ?_
              refine lv_aload_n C.1 C.2.1 dX9_copy_114 rfl (lv_at hl 2 rfl) ?_
              refine zg9_7 C hH (zTold_n0 hD.1) (zTold_k0 hD.1) q_291 (zTd_r5 hD) dX9_copy_115 ?_
              refine lv_iload_n C.1 C.2.1 dX9_copy_118 rfl (lv_at hl 0 rfl) ?_
              refine zd_aaldr C hH (zTd_n5 hD) 7 rfl rfl (by rw [(zTd_k5 hD)]; rfl) (by decide) (by rw [zTd_l5 hD]; decide) (by rw [zTd_l5 hD]; decide) (zTd_rw (z := 2) hD (by decide) (by decide)).1.1 dX9_copy_119 ?_
              obtain ⟨o27, hF⟩ := hF
              refine zgov (zrunV (As := [.ref (bs + (j + 26))]) (rest := []) C hE hH hS hl.1 (c_X8_copy (l := l) (zTd_rw (z := 2) hC (by decide) (by decide)).1.2 (zTd_rw (z := 2) hD (by decide) (by decide)).1.2 (zTd_rw (z := 2) hC (by decide) (by decide)).2 (zTd_rw (z := 2) hD (by decide) (by decide)).2  o27) k_RX9_65 ⟨Nat.le_of_ble_eq_true rfl, Nat.le_of_ble_eq_true rfl⟩ (zRows_n0 (zTd_rw (z := 2) hC (by decide) (by decide)).1.2) (zRows_k0 (zTd_rw (z := 2) hC (by decide) (by decide)).1.2) rfl rfl rfl (Nat.le_of_ble_eq_true rfl) dX9_copy_120 ⟨Nat.zero_le _, Nat.zero_le _⟩) hS (fun X28 Yq Rq H locs hq hH hS => ?_)
              obtain ⟨h9Y, h9R, hq⟩ := hq
              dsimp only at h9Y h9R
              rw [h9Y, h9R] at hH
              have hF := hF X28 hH.2.2.1 hq
              refine zd_iinc (k := 0) (lv' := [(2, .int (zI (3))), (0, .ref (bs + (i))), (1, .ref (bs + (j)))]) C hl rfl dX9_copy_123 (by decide) rfl (fun ls hl => ?_)
              refine lv_goto (tgt := 99) C.1 C.2.1 dX9_copy_126 (by decide) ?_
              refine lv_iload_n C.1 C.2.1 dX9_copy_99 rfl (lv_at hl 0 rfl) ?_
              refine lv_aload_n C.1 C.2.1 dX9_copy_100 rfl (lv_at hl 1 rfl) ?_
              refine zg9_7 C hH (zTold_n0 hC.1) (zTold_k0 hC.1) q_291 (zTd_r5 hC) dX9_copy_101 ?_
              refine zd_alen C hH (zTd_n5 hC) (t0 := 7) (by rw [(zTd_k5 hC)]; rfl) rfl rfl dX9_copy_104 ?_
              rw [zTd_l5 hC]
              refine zd_icmp_ge C (by decide) (by decide) 129 dX9_copy_105 (by decide) (fun c29 => ?_) (fun c29 => ?_)
              · exact absurd c29 (by decide)
              · refine lv_aload_n C.1 C.2.1 dX9_copy_108 rfl (lv_at hl 1 rfl) ?_
                refine zg9_7 C hH (zTold_n0 hC.1) (zTold_k0 hC.1) q_291 (zTd_r5 hC) dX9_copy_109 ?_
                refine lv_iload_n C.1 C.2.1 dX9_copy_112 rfl (lv_at hl 0 rfl) ?_
                refine zd_aaldr C hH (zTd_n5 hC) 7 rfl rfl (by rw [(zTd_k5 hC)]; rfl) (by decide) (by rw [zTd_l5 hC]; decide) (by rw [zTd_l5 hC]; decide) (zTd_rw (z := 3) hC (by decide) (by decide)).1.1 dX9_copy_113 ?_
                refine lv_aload_n C.1 C.2.1 dX9_copy_114 rfl (lv_at hl 2 rfl) ?_
                refine zg9_7 C hH (zTold_n0 hD.1) (zTold_k0 hD.1) q_291 (zTd_r5 hD) dX9_copy_115 ?_
                refine lv_iload_n C.1 C.2.1 dX9_copy_118 rfl (lv_at hl 0 rfl) ?_
                refine zd_aaldr C hH (zTd_n5 hD) 7 rfl rfl (by rw [(zTd_k5 hD)]; rfl) (by decide) (by rw [zTd_l5 hD]; decide) (by rw [zTd_l5 hD]; decide) (zTd_rw (z := 3) hD (by decide) (by decide)).1.1 dX9_copy_119 ?_
                obtain ⟨o30, hF⟩ := hF
                refine zgov (zrunV (As := [.ref (bs + (j + 28))]) (rest := []) C hE hH hS hl.1 (c_X8_copy (l := l) (zTd_rw (z := 3) hC (by decide) (by decide)).1.2 (zTd_rw (z := 3) hD (by decide) (by decide)).1.2 (zTd_rw (z := 3) hC (by decide) (by decide)).2 (zTd_rw (z := 3) hD (by decide) (by decide)).2  o30) k_RX9_65 ⟨Nat.le_of_ble_eq_true rfl, Nat.le_of_ble_eq_true rfl⟩ (zRows_n0 (zTd_rw (z := 3) hC (by decide) (by decide)).1.2) (zRows_k0 (zTd_rw (z := 3) hC (by decide) (by decide)).1.2) rfl rfl rfl (Nat.le_of_ble_eq_true rfl) dX9_copy_120 ⟨Nat.zero_le _, Nat.zero_le _⟩) hS (fun X31 Yq Rq H locs hq hH hS => ?_)
                obtain ⟨h9Y, h9R, hq⟩ := hq
                dsimp only at h9Y h9R
                rw [h9Y, h9R] at hH
                have hF := hF X31 hH.2.2.1 hq
                refine zd_iinc (k := 0) (lv' := [(2, .int (zI (4))), (0, .ref (bs + (i))), (1, .ref (bs + (j)))]) C hl rfl dX9_copy_123 (by decide) rfl (fun ls hl => ?_)
                refine lv_goto (tgt := 99) C.1 C.2.1 dX9_copy_126 (by decide) ?_
                refine lv_iload_n C.1 C.2.1 dX9_copy_99 rfl (lv_at hl 0 rfl) ?_
                refine lv_aload_n C.1 C.2.1 dX9_copy_100 rfl (lv_at hl 1 rfl) ?_
                refine zg9_7 C hH (zTold_n0 hC.1) (zTold_k0 hC.1) q_291 (zTd_r5 hC) dX9_copy_101 ?_
                refine zd_alen C hH (zTd_n5 hC) (t0 := 7) (by rw [(zTd_k5 hC)]; rfl) rfl rfl dX9_copy_104 ?_
                rw [zTd_l5 hC]
                refine zd_icmp_ge C (by decide) (by decide) 129 dX9_copy_105 (by decide) (fun c32 => ?_) (fun c32 => ?_)
                · exact absurd c32 (by decide)
                · refine lv_aload_n C.1 C.2.1 dX9_copy_108 rfl (lv_at hl 1 rfl) ?_
                  refine zg9_7 C hH (zTold_n0 hC.1) (zTold_k0 hC.1) q_291 (zTd_r5 hC) dX9_copy_109 ?_
                  refine lv_iload_n C.1 C.2.1 dX9_copy_112 rfl (lv_at hl 0 rfl) ?_
                  refine zd_aaldr C hH (zTd_n5 hC) 7 rfl rfl (by rw [(zTd_k5 hC)]; rfl) (by decide) (by rw [zTd_l5 hC]; decide) (by rw [zTd_l5 hC]; decide) (zTd_rw (z := 4) hC (by decide) (by decide)).1.1 dX9_copy_113 ?_
                  refine lv_aload_n C.1 C.2.1 dX9_copy_114 rfl (lv_at hl 2 rfl) ?_
                  refine zg9_7 C hH (zTold_n0 hD.1) (zTold_k0 hD.1) q_291 (zTd_r5 hD) dX9_copy_115 ?_
                  refine lv_iload_n C.1 C.2.1 dX9_copy_118 rfl (lv_at hl 0 rfl) ?_
                  refine zd_aaldr C hH (zTd_n5 hD) 7 rfl rfl (by rw [(zTd_k5 hD)]; rfl) (by decide) (by rw [zTd_l5 hD]; decide) (by rw [zTd_l5 hD]; decide) (zTd_rw (z := 4) hD (by decide) (by decide)).1.1 dX9_copy_119 ?_
                  obtain ⟨o33, hF⟩ := hF
                  refine zgov (zrunV (As := [.ref (bs + (j + 30))]) (rest := []) C hE hH hS hl.1 (c_X8_copy (l := l) (zTd_rw (z := 4) hC (by decide) (by decide)).1.2 (zTd_rw (z := 4) hD (by decide) (by decide)).1.2 (zTd_rw (z := 4) hC (by decide) (by decide)).2 (zTd_rw (z := 4) hD (by decide) (by decide)).2  o33) k_RX9_65 ⟨Nat.le_of_ble_eq_true rfl, Nat.le_of_ble_eq_true rfl⟩ (zRows_n0 (zTd_rw (z := 4) hC (by decide) (by decide)).1.2) (zRows_k0 (zTd_rw (z := 4) hC (by decide) (by decide)).1.2) rfl rfl rfl (Nat.le_of_ble_eq_true rfl) dX9_copy_120 ⟨Nat.zero_le _, Nat.zero_le _⟩) hS (fun X34 Yq Rq H locs hq hH hS => ?_)
                  obtain ⟨h9Y, h9R, hq⟩ := hq
                  dsimp only at h9Y h9R
                  rw [h9Y, h9R] at hH
                  have hF := hF X34 hH.2.2.1 hq
                  refine zd_iinc (k := 0) (lv' := [(2, .int (zI (5))), (0, .ref (bs + (i))), (1, .ref (bs + (j)))]) C hl rfl dX9_copy_123 (by decide) rfl (fun ls hl => ?_)
                  refine lv_goto (tgt := 99) C.1 C.2.1 dX9_copy_126 (by decide) ?_
                  refine lv_iload_n C.1 C.2.1 dX9_copy_99 rfl (lv_at hl 0 rfl) ?_
                  refine lv_aload_n C.1 C.2.1 dX9_copy_100 rfl (lv_at hl 1 rfl) ?_
                  refine zg9_7 C hH (zTold_n0 hC.1) (zTold_k0 hC.1) q_291 (zTd_r5 hC) dX9_copy_101 ?_
                  refine zd_alen C hH (zTd_n5 hC) (t0 := 7) (by rw [(zTd_k5 hC)]; rfl) rfl rfl dX9_copy_104 ?_
                  rw [zTd_l5 hC]
                  refine zd_icmp_ge C (by decide) (by decide) 129 dX9_copy_105 (by decide) (fun c35 => ?_) (fun c35 => ?_)
                  · exact absurd c35 (by decide)
                  · refine lv_aload_n C.1 C.2.1 dX9_copy_108 rfl (lv_at hl 1 rfl) ?_
                    refine zg9_7 C hH (zTold_n0 hC.1) (zTold_k0 hC.1) q_291 (zTd_r5 hC) dX9_copy_109 ?_
                    refine lv_iload_n C.1 C.2.1 dX9_copy_112 rfl (lv_at hl 0 rfl) ?_
                    refine zd_aaldr C hH (zTd_n5 hC) 7 rfl rfl (by rw [(zTd_k5 hC)]; rfl) (by decide) (by rw [zTd_l5 hC]; decide) (by rw [zTd_l5 hC]; decide) (zTd_rw (z := 5) hC (by decide) (by decide)).1.1 dX9_copy_113 ?_
                    refine lv_aload_n C.1 C.2.1 dX9_copy_114 rfl (lv_at hl 2 rfl) ?_
                    refine zg9_7 C hH (zTold_n0 hD.1) (zTold_k0 hD.1) q_291 (zTd_r5 hD) dX9_copy_115 ?_
                    refine lv_iload_n C.1 C.2.1 dX9_copy_118 rfl (lv_at hl 0 rfl) ?_
                    refine zd_aaldr C hH (zTd_n5 hD) 7 rfl rfl (by rw [(zTd_k5 hD)]; rfl) (by decide) (by rw [zTd_l5 hD]; decide) (by rw [zTd_l5 hD]; decide) (zTd_rw (z := 5) hD (by decide) (by decide)).1.1 dX9_copy_119 ?_
                    obtain ⟨o36, hF⟩ := hF
                    refine zgov (zrunV (As := [.ref (bs + (j + 32))]) (rest := []) C hE hH hS hl.1 (c_X8_copy (l := l) (zTd_rw (z := 5) hC (by decide) (by decide)).1.2 (zTd_rw (z := 5) hD (by decide) (by decide)).1.2 (zTd_rw (z := 5) hC (by decide) (by decide)).2 (zTd_rw (z := 5) hD (by decide) (by decide)).2  o36) k_RX9_65 ⟨Nat.le_of_ble_eq_true rfl, Nat.le_of_ble_eq_true rfl⟩ (zRows_n0 (zTd_rw (z := 5) hC (by decide) (by decide)).1.2) (zRows_k0 (zTd_rw (z := 5) hC (by decide) (by decide)).1.2) rfl rfl rfl (Nat.le_of_ble_eq_true rfl) dX9_copy_120 ⟨Nat.zero_le _, Nat.zero_le _⟩) hS (fun X37 Yq Rq H locs hq hH hS => ?_)
                    obtain ⟨h9Y, h9R, hq⟩ := hq
                    dsimp only at h9Y h9R
                    rw [h9Y, h9R] at hH
                    have hF := hF X37 hH.2.2.1 hq
                    refine zd_iinc (k := 0) (lv' := [(2, .int (zI (6))), (0, .ref (bs + (i))), (1, .ref (bs + (j)))]) C hl rfl dX9_copy_123 (by decide) rfl (fun ls hl => ?_)
                    refine lv_goto (tgt := 99) C.1 C.2.1 dX9_copy_126 (by decide) ?_
                    refine lv_iload_n C.1 C.2.1 dX9_copy_99 rfl (lv_at hl 0 rfl) ?_
                    refine lv_aload_n C.1 C.2.1 dX9_copy_100 rfl (lv_at hl 1 rfl) ?_
                    refine zg9_7 C hH (zTold_n0 hC.1) (zTold_k0 hC.1) q_291 (zTd_r5 hC) dX9_copy_101 ?_
                    refine zd_alen C hH (zTd_n5 hC) (t0 := 7) (by rw [(zTd_k5 hC)]; rfl) rfl rfl dX9_copy_104 ?_
                    rw [zTd_l5 hC]
                    refine zd_icmp_ge C (by decide) (by decide) 129 dX9_copy_105 (by decide) (fun c38 => ?_) (fun c38 => ?_)
                    · exact zd_vret C hr hlk hH hS (⟨rfl, rfl, hF⟩) dX9_copy_129
                    · exact absurd (by decide) c38
      · exact absurd (by decide) c19
theorem v_X9_copy {X Y : Nat → Int → Int} {R : Nat → Int → Option Nat} {i j : Nat}  (hp : (j + 33 < i ∨ i + 33 < j) ∧ ∀ y : Int, 0 ≤ y → y < 600 → -128 ≤ X (j + 1) y ∧ X (j + 1) y ≤ 127) : F_X9_copy i j X Y R  := by
  unfold F_X9_copy
  intro hX hY
  obtain ⟨hd, hb⟩ := hp
  refine ⟨?_, ?_⟩
  · first | omega | exact ⟨by omega, by omega⟩ | decide | assumption | exact ⟨by omega, by omega, by omega⟩ | exact ⟨by decide, by decide⟩
  refine ⟨?_, ?_⟩
  · intro y y0 y1
    exact hb y y0 (by omega)
  intro X3
  intro eX3
  intro rX3
  intro X4
  intro eX4
  intro rX4
  intro X5
  intro eX5
  intro rX5
  intro X6
  intro eX6
  intro rX6
  refine ⟨?_, ?_⟩
  · first | omega | exact ⟨by omega, by omega⟩ | decide | assumption | exact ⟨by omega, by omega, by omega⟩ | exact ⟨by decide, by decide⟩
  intro X8
  intro eX8
  intro rX8
  refine ⟨?_, ?_⟩
  · first | omega | exact ⟨by omega, by omega⟩ | decide | assumption | exact ⟨by omega, by omega, by omega⟩ | exact ⟨by decide, by decide⟩
  intro X11
  intro rX11
  intro h1
  have o8 : ∀ z, z ≠ i → z ≠ i + 1 → z ≠ i + 2 → X8 z = X z := fun z z0 z1 z2 => by rw [eX8, zCp_o z2, eX6, zU_o z0, eX5, zU_o z0, eX4, zU_o z0, eX3, zCp_o z1]
  have o3 : ∀ z, z ≠ i + 1 → X3 z = X z := fun z hz => by rw [eX3, zCp_o hz]
  have k1 := cpN (n := i + 6) (m := j + 6) h1 (by omega)
  have fr1 : ∀ z, (z < i + 6 ∨ i + 7 < z) → X11 z = X8 z := fun z hz => k1.1 z (by omega) (by omega)
  refine ⟨?_, ?_⟩
  · first | omega | exact ⟨by omega, by omega⟩ | decide | assumption | exact ⟨by omega, by omega, by omega⟩ | exact ⟨by decide, by decide⟩
  intro X13
  intro rX13
  intro h2
  have k2 := cpB (n := i + 8) (m := j + 8) h2 (by omega)
  have fr2 : ∀ z, (z < i + 8 ∨ i + 13 < z) → X13 z = X11 z := fun z hz => k2.1 z (by omega)
  refine ⟨?_, ?_⟩
  · first | omega | exact ⟨by omega, by omega⟩ | decide | assumption | exact ⟨by omega, by omega, by omega⟩ | exact ⟨by decide, by decide⟩
  intro X16
  intro rX16
  intro h3
  have k3 := cpN (n := i + 14) (m := j + 14) h3 (by omega)
  have fr3 : ∀ z, (z < i + 14 ∨ i + 15 < z) → X16 z = X13 z := fun z hz => k3.1 z (by omega) (by omega)
  refine ⟨?_, ?_⟩
  · first | omega | exact ⟨by omega, by omega⟩ | decide | assumption | exact ⟨by omega, by omega, by omega⟩ | exact ⟨by decide, by decide⟩
  intro X18
  intro rX18
  intro h4
  have k4 := cpB (n := i + 16) (m := j + 16) h4 (by omega)
  have fr4 : ∀ z, (z < i + 16 ∨ i + 21 < z) → X18 z = X16 z := fun z hz => k4.1 z (by omega)
  refine ⟨?_, ?_⟩
  · exact ⟨by omega, rfl, by decide⟩
  intro X22
  intro rX22
  intro h5
  have k5 := cpR (n := i + 22) (m := j + 22) h5 (by omega)
  have fr5 : ∀ z, (z < i + 22 ∨ i + 23 < z) → X22 z = X18 z := fun z hz => k5.1 z (by omega) (by omega)
  refine ⟨?_, ?_⟩
  · exact ⟨by omega, rfl, by decide⟩
  intro X25
  intro rX25
  intro h6
  have k6 := cpR (n := i + 24) (m := j + 24) h6 (by omega)
  have fr6 : ∀ z, (z < i + 24 ∨ i + 25 < z) → X25 z = X22 z := fun z hz => k6.1 z (by omega) (by omega)
  refine ⟨?_, ?_⟩
  · exact ⟨by omega, rfl, by decide⟩
  intro X28
  intro rX28
  intro h7
  have k7 := cpR (n := i + 26) (m := j + 26) h7 (by omega)
  have fr7 : ∀ z, (z < i + 26 ∨ i + 27 < z) → X28 z = X25 z := fun z hz => k7.1 z (by omega) (by omega)
  refine ⟨?_, ?_⟩
  · exact ⟨by omega, rfl, by decide⟩
  intro X31
  intro rX31
  intro h8
  have k8 := cpR (n := i + 28) (m := j + 28) h8 (by omega)
  have fr8 : ∀ z, (z < i + 28 ∨ i + 29 < z) → X31 z = X28 z := fun z hz => k8.1 z (by omega) (by omega)
  refine ⟨?_, ?_⟩
  · exact ⟨by omega, rfl, by decide⟩
  intro X34
  intro rX34
  intro h9
  have k9 := cpR (n := i + 30) (m := j + 30) h9 (by omega)
  have fr9 : ∀ z, (z < i + 30 ∨ i + 31 < z) → X34 z = X31 z := fun z hz => k9.1 z (by omega) (by omega)
  refine ⟨?_, ?_⟩
  · exact ⟨by omega, rfl, by decide⟩
  intro X37
  intro rX37
  intro h10
  have k10 := cpR (n := i + 32) (m := j + 32) h10 (by omega)
  have fr10 : ∀ z, (z < i + 32 ∨ i + 33 < z) → X37 z = X34 z := fun z hz => k10.1 z (by omega) (by omega)
  have g0 : ∀ z, (z < i ∨ i + 33 < z) → X37 z = X z := fun z hz => by
    rw [fr10 z (by omega), fr9 z (by omega), fr8 z (by omega), fr7 z (by omega), fr6 z (by omega), fr5 z (by omega), fr4 z (by omega), fr3 z (by omega), fr2 z (by omega), fr1 z (by omega), o8 z (by omega) (by omega) (by omega)]
  refine ⟨⟨?_, ?_, ?_⟩, fun y y0 y1 => ?_, fun y y0 y1 => ?_, fun n hn => ?_, fun n hn => ?_, fun n hn => ?_, g0⟩
  · rw [fr10 _ (by omega), fr9 _ (by omega), fr8 _ (by omega), fr7 _ (by omega), fr6 _ (by omega), fr5 _ (by omega), fr4 _ (by omega), fr3 _ (by omega), fr2 _ (by omega), fr1 _ (by omega), eX8, zCp_o (by omega), eX6, zU_n (by omega), eX5, zU_n (by omega), eX4, zU_s, o3 _ (by omega)]
  · rw [fr10 _ (by omega), fr9 _ (by omega), fr8 _ (by omega), fr7 _ (by omega), fr6 _ (by omega), fr5 _ (by omega), fr4 _ (by omega), fr3 _ (by omega), fr2 _ (by omega), fr1 _ (by omega), eX8, zCp_o (by omega), eX6, zU_n (by omega), eX5, zU_s, eX4, zU_o (by omega), o3 _ (by omega)]
  · rw [fr10 _ (by omega), fr9 _ (by omega), fr8 _ (by omega), fr7 _ (by omega), fr6 _ (by omega), fr5 _ (by omega), fr4 _ (by omega), fr3 _ (by omega), fr2 _ (by omega), fr1 _ (by omega), eX8, zCp_o (by omega), eX6, zU_s, eX5, zU_o (by omega), eX4, zU_o (by omega), o3 _ (by omega)]
  · rw [fr10 _ (by omega), fr9 _ (by omega), fr8 _ (by omega), fr7 _ (by omega), fr6 _ (by omega), fr5 _ (by omega), fr4 _ (by omega), fr3 _ (by omega), fr2 _ (by omega), fr1 _ (by omega), eX8, zCp_o (by omega), eX6, zU_o (by omega), eX5, zU_o (by omega), eX4, zU_o (by omega), eX3, zCp_i y0 y1]
  · rw [fr10 _ (by omega), fr9 _ (by omega), fr8 _ (by omega), fr7 _ (by omega), fr6 _ (by omega), fr5 _ (by omega), fr4 _ (by omega), fr3 _ (by omega), fr2 _ (by omega), fr1 _ (by omega), eX8, zCp_i y0 y1, eX6, zU_o (by omega), eX5, zU_o (by omega), eX4, zU_o (by omega), o3 _ (by omega)]
  · have e : n = 0 ∨ n = 1 := by omega
    rcases e with rfl | rfl
    · exact ⟨fun w w0 w1 => by rw [fr10 _ (by omega), fr9 _ (by omega), fr8 _ (by omega), fr7 _ (by omega), fr6 _ (by omega), fr5 _ (by omega), fr4 _ (by omega), fr3 _ (by omega), fr2 _ (by omega)]; refine (k1.2.1 w w0 w1).trans ?_; rw [o8 _ (by omega) (by omega) (by omega)], fun y y0 y1 => by rw [fr10 _ (by omega), fr9 _ (by omega), fr8 _ (by omega), fr7 _ (by omega), fr6 _ (by omega), fr5 _ (by omega), fr4 _ (by omega), fr3 _ (by omega), fr2 _ (by omega)]; refine (k1.2.2 y y0 y1).trans ?_; rw [o8 _ (by omega) (by omega) (by omega)]⟩
    · exact ⟨fun w w0 w1 => by rw [fr10 _ (by omega), fr9 _ (by omega), fr8 _ (by omega), fr7 _ (by omega), fr6 _ (by omega), fr5 _ (by omega), fr4 _ (by omega)]; refine (k3.2.1 w w0 w1).trans ?_; rw [fr2 _ (by omega), fr1 _ (by omega), o8 _ (by omega) (by omega) (by omega)], fun y y0 y1 => by rw [fr10 _ (by omega), fr9 _ (by omega), fr8 _ (by omega), fr7 _ (by omega), fr6 _ (by omega), fr5 _ (by omega), fr4 _ (by omega)]; refine (k3.2.2 y y0 y1).trans ?_; rw [fr2 _ (by omega), fr1 _ (by omega), o8 _ (by omega) (by omega) (by omega)]⟩
  · have e : n = 0 ∨ n = 1 := by omega
    rcases e with rfl | rfl
    · exact ⟨by rw [fr10 _ (by omega), fr9 _ (by omega), fr8 _ (by omega), fr7 _ (by omega), fr6 _ (by omega), fr5 _ (by omega), fr4 _ (by omega), fr3 _ (by omega)]; refine k2.2.1.trans ?_; rw [fr1 _ (by omega), o8 _ (by omega) (by omega) (by omega)], fun s s1 s4 y y0 y1 => by rw [fr10 _ (by omega), fr9 _ (by omega), fr8 _ (by omega), fr7 _ (by omega), fr6 _ (by omega), fr5 _ (by omega), fr4 _ (by omega), fr3 _ (by omega)]; refine (k2.2.2.1 s s1 s4 y y0 y1).trans ?_; rw [fr1 _ (by omega), o8 _ (by omega) (by omega) (by omega)], fun y y0 y1 => by rw [fr10 _ (by omega), fr9 _ (by omega), fr8 _ (by omega), fr7 _ (by omega), fr6 _ (by omega), fr5 _ (by omega), fr4 _ (by omega), fr3 _ (by omega)]; refine (k2.2.2.2 y y0 y1).trans ?_; rw [fr1 _ (by omega), o8 _ (by omega) (by omega) (by omega)]⟩
    · exact ⟨by rw [fr10 _ (by omega), fr9 _ (by omega), fr8 _ (by omega), fr7 _ (by omega), fr6 _ (by omega), fr5 _ (by omega)]; refine k4.2.1.trans ?_; rw [fr3 _ (by omega), fr2 _ (by omega), fr1 _ (by omega), o8 _ (by omega) (by omega) (by omega)], fun s s1 s4 y y0 y1 => by rw [fr10 _ (by omega), fr9 _ (by omega), fr8 _ (by omega), fr7 _ (by omega), fr6 _ (by omega), fr5 _ (by omega)]; refine (k4.2.2.1 s s1 s4 y y0 y1).trans ?_; rw [fr3 _ (by omega), fr2 _ (by omega), fr1 _ (by omega), o8 _ (by omega) (by omega) (by omega)], fun y y0 y1 => by rw [fr10 _ (by omega), fr9 _ (by omega), fr8 _ (by omega), fr7 _ (by omega), fr6 _ (by omega), fr5 _ (by omega)]; refine (k4.2.2.2 y y0 y1).trans ?_; rw [fr3 _ (by omega), fr2 _ (by omega), fr1 _ (by omega), o8 _ (by omega) (by omega) (by omega)]⟩
  · have e : n = 0 ∨ n = 1 ∨ n = 2 ∨ n = 3 ∨ n = 4 ∨ n = 5 := by omega
    rcases e with rfl | rfl | rfl | rfl | rfl | rfl
    · exact ⟨by rw [fr10 _ (by omega), fr9 _ (by omega), fr8 _ (by omega), fr7 _ (by omega), fr6 _ (by omega)]; refine k5.2.1.trans ?_; rw [fr4 _ (by omega), fr3 _ (by omega), fr2 _ (by omega), fr1 _ (by omega), o8 _ (by omega) (by omega) (by omega)], fun s hs => by rw [fr10 _ (by omega), fr9 _ (by omega), fr8 _ (by omega), fr7 _ (by omega), fr6 _ (by omega)]; refine (k5.2.2.1 s hs).trans ?_; rw [fr4 _ (by omega), fr3 _ (by omega), fr2 _ (by omega), fr1 _ (by omega), o8 _ (by omega) (by omega) (by omega)], fun y y0 y1 => by rw [fr10 _ (by omega), fr9 _ (by omega), fr8 _ (by omega), fr7 _ (by omega), fr6 _ (by omega)]; refine (k5.2.2.2 y y0 y1).trans ?_; rw [fr4 _ (by omega), fr3 _ (by omega), fr2 _ (by omega), fr1 _ (by omega), o8 _ (by omega) (by omega) (by omega)]⟩
    · exact ⟨by rw [fr10 _ (by omega), fr9 _ (by omega), fr8 _ (by omega), fr7 _ (by omega)]; refine k6.2.1.trans ?_; rw [fr5 _ (by omega), fr4 _ (by omega), fr3 _ (by omega), fr2 _ (by omega), fr1 _ (by omega), o8 _ (by omega) (by omega) (by omega)], fun s hs => by rw [fr10 _ (by omega), fr9 _ (by omega), fr8 _ (by omega), fr7 _ (by omega)]; refine (k6.2.2.1 s hs).trans ?_; rw [fr5 _ (by omega), fr4 _ (by omega), fr3 _ (by omega), fr2 _ (by omega), fr1 _ (by omega), o8 _ (by omega) (by omega) (by omega)], fun y y0 y1 => by rw [fr10 _ (by omega), fr9 _ (by omega), fr8 _ (by omega), fr7 _ (by omega)]; refine (k6.2.2.2 y y0 y1).trans ?_; rw [fr5 _ (by omega), fr4 _ (by omega), fr3 _ (by omega), fr2 _ (by omega), fr1 _ (by omega), o8 _ (by omega) (by omega) (by omega)]⟩
    · exact ⟨by rw [fr10 _ (by omega), fr9 _ (by omega), fr8 _ (by omega)]; refine k7.2.1.trans ?_; rw [fr6 _ (by omega), fr5 _ (by omega), fr4 _ (by omega), fr3 _ (by omega), fr2 _ (by omega), fr1 _ (by omega), o8 _ (by omega) (by omega) (by omega)], fun s hs => by rw [fr10 _ (by omega), fr9 _ (by omega), fr8 _ (by omega)]; refine (k7.2.2.1 s hs).trans ?_; rw [fr6 _ (by omega), fr5 _ (by omega), fr4 _ (by omega), fr3 _ (by omega), fr2 _ (by omega), fr1 _ (by omega), o8 _ (by omega) (by omega) (by omega)], fun y y0 y1 => by rw [fr10 _ (by omega), fr9 _ (by omega), fr8 _ (by omega)]; refine (k7.2.2.2 y y0 y1).trans ?_; rw [fr6 _ (by omega), fr5 _ (by omega), fr4 _ (by omega), fr3 _ (by omega), fr2 _ (by omega), fr1 _ (by omega), o8 _ (by omega) (by omega) (by omega)]⟩
    · exact ⟨by rw [fr10 _ (by omega), fr9 _ (by omega)]; refine k8.2.1.trans ?_; rw [fr7 _ (by omega), fr6 _ (by omega), fr5 _ (by omega), fr4 _ (by omega), fr3 _ (by omega), fr2 _ (by omega), fr1 _ (by omega), o8 _ (by omega) (by omega) (by omega)], fun s hs => by rw [fr10 _ (by omega), fr9 _ (by omega)]; refine (k8.2.2.1 s hs).trans ?_; rw [fr7 _ (by omega), fr6 _ (by omega), fr5 _ (by omega), fr4 _ (by omega), fr3 _ (by omega), fr2 _ (by omega), fr1 _ (by omega), o8 _ (by omega) (by omega) (by omega)], fun y y0 y1 => by rw [fr10 _ (by omega), fr9 _ (by omega)]; refine (k8.2.2.2 y y0 y1).trans ?_; rw [fr7 _ (by omega), fr6 _ (by omega), fr5 _ (by omega), fr4 _ (by omega), fr3 _ (by omega), fr2 _ (by omega), fr1 _ (by omega), o8 _ (by omega) (by omega) (by omega)]⟩
    · exact ⟨by rw [fr10 _ (by omega)]; refine k9.2.1.trans ?_; rw [fr8 _ (by omega), fr7 _ (by omega), fr6 _ (by omega), fr5 _ (by omega), fr4 _ (by omega), fr3 _ (by omega), fr2 _ (by omega), fr1 _ (by omega), o8 _ (by omega) (by omega) (by omega)], fun s hs => by rw [fr10 _ (by omega)]; refine (k9.2.2.1 s hs).trans ?_; rw [fr8 _ (by omega), fr7 _ (by omega), fr6 _ (by omega), fr5 _ (by omega), fr4 _ (by omega), fr3 _ (by omega), fr2 _ (by omega), fr1 _ (by omega), o8 _ (by omega) (by omega) (by omega)], fun y y0 y1 => by rw [fr10 _ (by omega)]; refine (k9.2.2.2 y y0 y1).trans ?_; rw [fr8 _ (by omega), fr7 _ (by omega), fr6 _ (by omega), fr5 _ (by omega), fr4 _ (by omega), fr3 _ (by omega), fr2 _ (by omega), fr1 _ (by omega), o8 _ (by omega) (by omega) (by omega)]⟩
    · exact ⟨by refine k10.2.1.trans ?_; rw [fr9 _ (by omega), fr8 _ (by omega), fr7 _ (by omega), fr6 _ (by omega), fr5 _ (by omega), fr4 _ (by omega), fr3 _ (by omega), fr2 _ (by omega), fr1 _ (by omega), o8 _ (by omega) (by omega) (by omega)], fun s hs => by refine (k10.2.2.1 s hs).trans ?_; rw [fr9 _ (by omega), fr8 _ (by omega), fr7 _ (by omega), fr6 _ (by omega), fr5 _ (by omega), fr4 _ (by omega), fr3 _ (by omega), fr2 _ (by omega), fr1 _ (by omega), o8 _ (by omega) (by omega) (by omega)], fun y y0 y1 => by refine (k10.2.2.2 y y0 y1).trans ?_; rw [fr9 _ (by omega), fr8 _ (by omega), fr7 _ (by omega), fr6 _ (by omega), fr5 _ (by omega), fr4 _ (by omega), fr3 _ (by omega), fr2 _ (by omega), fr1 _ (by omega), o8 _ (by omega) (by omega) (by omega)]⟩
theorem c_X9_copy {l : Launch} {D : va_G} {cy : Nat → ClassId} {bs N : Nat} {sa : Nat → Nat} {kd len : Nat → Nat} {X Y : Nat → Int → Int} {R : Nat → Int → Option Nat} {i j : Nat} (hC : zTd N kd len R i) (hD : zTd N kd len R j)  (hp : (j + 33 < i ∨ i + 33 < j) ∧ ∀ y : Int, 0 ≤ y → y < 600 → -128 ≤ X (j + 1) y ∧ X (j + 1) y ≤ 127) : Met l yX9_copy (.code yX9_copy cX9_copy 3 none :: zTB) (zRm 2 81) (zPc D cy bs sa N kd len X Y R [.ref (bs + (i)), .ref (bs + (j))]) (zQv D cy bs N kd len (fun st => st.2.1 = Y ∧ st.2.2 = R ∧ (cpT X (st.1) i j))) 0 0 (zA bs) := w_X9_copy hC hD  (v_X9_copy  hp)
