abbrev oT (X : Nat → Int → Int) (i : Nat) (n : Int) : Prop := ∀ k, 1 ≤ k → k ≤ n → 0 ≤ mC X i k 1 ∧ mC X i k 1 ≤ 99
def mWk (X Y : Nat → Int → Int) (i : Nat) (k : Int) : Int := if (X (i + 13) k).tmod (X i 30) ≠ 0 then Y (i + 14) (mPar X i k) else sStep (Y (i + 14) (mPar X i k)) (mG X i 1) (mTim X i (mPar X i k) - mTim X i (mAh X i (mPar X i k) (X i 30 - 1).toNat))
def mWkP (X Y : Nat → Int → Int) (i : Nat) (k : Int) : Prop := (∃ m, oB X i m ∧ oT X i m ∧ k ≤ m) ∧ 1 ≤ k ∧ oN X i ∧ (1 ≤ X i 30 ∧ X i 30 ≤ 9) ∧ (1 ≤ mG X i 1 ∧ mG X i 1 ≤ 99) ∧ (1 ≤ Y (i + 14) (mPar X i k) ∧ Y (i + 14) (mPar X i k) ≤ 26575110144) ∧ ((X (i + 13) k).tmod (X i 30) = 0 → 0 ≤ mAh X i (mPar X i k) (X i 30 - 1).toNat)
theorem mTim_b {X : Nat → Int → Int} {i : Nat} {n k : Int} (h : oT X i n) (h0 : 0 ≤ k) (h1 : k ≤ n) : 0 ≤ mTim X i k ∧ mTim X i k ≤ 99 := by
  unfold mTim
  split
  · exact ⟨by omega, by omega⟩
  · exact h k (by omega) h1
theorem sStep_t {y g dt : Int} (hy : 0 ≤ y) (hg : 0 ≤ g) : sStep y g dt = max 1 (max (y.tdiv 4) (min (4 * y) ((y * g).tdiv (max 1 dt)))) := by
  unfold sStep
  rw [Int.tdiv_eq_ediv_of_nonneg hy, Int.tdiv_eq_ediv_of_nonneg (Int.mul_nonneg hy hg), Int.mul_comm 4 y]
theorem wk_b {y g dt : Int} (hy : 1 ≤ y ∧ y ≤ 26575110144) (hg : 1 ≤ g ∧ g ≤ 99) : rL (y * g) ∧ rL ((y * g).tdiv (max 1 dt)) ∧ 0 ≤ (y * g).tdiv (max 1 dt) ∧ rL (4 * y) ∧ rL (y.tdiv 4) ∧ 0 ≤ y.tdiv 4 ∧ y.tdiv 4 ≤ y := by
  have h0 : 0 ≤ y * g := Int.mul_nonneg (by omega) (by omega)
  have h1 : y * g ≤ 26575110144 * 99 := Int.mul_le_mul hy.2 hg.2 (by omega) (by omega)
  have h2 : (y * g).tdiv (max 1 dt) = y * g / max 1 dt := Int.tdiv_eq_ediv_of_nonneg h0
  have h3 : y * g / max 1 dt ≤ y * g := Int.ediv_le_self _ h0
  have h4 : 0 ≤ y * g / max 1 dt := Int.ediv_nonneg h0 (by omega)
  have h5 : y.tdiv 4 = y / 4 := Int.tdiv_eq_ediv_of_nonneg (by omega)
  rw [h2, h5]
  exact ⟨⟨by omega, by omega⟩, ⟨by omega, by omega⟩, h4, ⟨by omega, by omega⟩, ⟨by omega, by omega⟩, by omega, by omega⟩
abbrev cX11_workOf : ByteArray := prog_13_method_46_code
def yX11_workOf : MethodName := ⟨RX11, "workOf", "(I)J"⟩
theorem dX11_workOf_0 : decode cX11_workOf 0 = .ok (.aload_n 0, 1) := by decide +kernel
theorem dX11_workOf_1 : decode cX11_workOf 1 = .ok (.iload_n 1, 1) := by decide +kernel
theorem dX11_workOf_2 : decode cX11_workOf 2 = .ok (.invokevirtual 264, 3) := by decide +kernel
theorem dX11_workOf_5 : decode cX11_workOf 5 = .ok (.istore_n 2, 1) := by decide +kernel
theorem dX11_workOf_6 : decode cX11_workOf 6 = .ok (.aload_n 0, 1) := by decide +kernel
theorem dX11_workOf_7 : decode cX11_workOf 7 = .ok (.getfield 47, 3) := by decide +kernel
theorem dX11_workOf_10 : decode cX11_workOf 10 = .ok (.iload_n 1, 1) := by decide +kernel
theorem dX11_workOf_11 : decode cX11_workOf 11 = .ok (.iaload, 1) := by decide +kernel
theorem dX11_workOf_12 : decode cX11_workOf 12 = .ok (.aload_n 0, 1) := by decide +kernel
theorem dX11_workOf_13 : decode cX11_workOf 13 = .ok (.getfield 268, 3) := by decide +kernel
theorem dX11_workOf_16 : decode cX11_workOf 16 = .ok (.irem, 1) := by decide +kernel
theorem dX11_workOf_17 : decode cX11_workOf 17 = .ok (.ifCond .eq 10, 3) := by decide +kernel
theorem dX11_workOf_20 : decode cX11_workOf 20 = .ok (.aload_n 0, 1) := by decide +kernel
theorem dX11_workOf_21 : decode cX11_workOf 21 = .ok (.getfield 50, 3) := by decide +kernel
theorem dX11_workOf_24 : decode cX11_workOf 24 = .ok (.iload_n 2, 1) := by decide +kernel
theorem dX11_workOf_25 : decode cX11_workOf 25 = .ok (.laload, 1) := by decide +kernel
theorem dX11_workOf_26 : decode cX11_workOf 26 = .ok (.lreturn, 1) := by decide +kernel
theorem dX11_workOf_27 : decode cX11_workOf 27 = .ok (.iconst 1, 1) := by decide +kernel
theorem dX11_workOf_28 : decode cX11_workOf 28 = .ok (.aload_n 0, 1) := by decide +kernel
theorem dX11_workOf_29 : decode cX11_workOf 29 = .ok (.iload_n 2, 1) := by decide +kernel
theorem dX11_workOf_30 : decode cX11_workOf 30 = .ok (.invokevirtual 271, 3) := by decide +kernel
theorem dX11_workOf_33 : decode cX11_workOf 33 = .ok (.aload_n 0, 1) := by decide +kernel
theorem dX11_workOf_34 : decode cX11_workOf 34 = .ok (.aload_n 0, 1) := by decide +kernel
theorem dX11_workOf_35 : decode cX11_workOf 35 = .ok (.iload_n 2, 1) := by decide +kernel
theorem dX11_workOf_36 : decode cX11_workOf 36 = .ok (.aload_n 0, 1) := by decide +kernel
theorem dX11_workOf_37 : decode cX11_workOf 37 = .ok (.getfield 268, 3) := by decide +kernel
theorem dX11_workOf_40 : decode cX11_workOf 40 = .ok (.iconst 1, 1) := by decide +kernel
theorem dX11_workOf_41 : decode cX11_workOf 41 = .ok (.isub, 1) := by decide +kernel
theorem dX11_workOf_42 : decode cX11_workOf 42 = .ok (.invokevirtual 274, 3) := by decide +kernel
theorem dX11_workOf_45 : decode cX11_workOf 45 = .ok (.invokevirtual 271, 3) := by decide +kernel
theorem dX11_workOf_48 : decode cX11_workOf 48 = .ok (.isub, 1) := by decide +kernel
theorem dX11_workOf_49 : decode cX11_workOf 49 = .ok (.invokestatic 277, 3) := by decide +kernel
theorem dX11_workOf_52 : decode cX11_workOf 52 = .ok (.istore_n 3, 1) := by decide +kernel
theorem dX11_workOf_53 : decode cX11_workOf 53 = .ok (.aload_n 0, 1) := by decide +kernel
theorem dX11_workOf_54 : decode cX11_workOf 54 = .ok (.getfield 50, 3) := by decide +kernel
theorem dX11_workOf_57 : decode cX11_workOf 57 = .ok (.iload_n 2, 1) := by decide +kernel
theorem dX11_workOf_58 : decode cX11_workOf 58 = .ok (.laload, 1) := by decide +kernel
theorem dX11_workOf_59 : decode cX11_workOf 59 = .ok (.aload_n 0, 1) := by decide +kernel
theorem dX11_workOf_60 : decode cX11_workOf 60 = .ok (.iconst 1, 1) := by decide +kernel
theorem dX11_workOf_61 : decode cX11_workOf 61 = .ok (.invokevirtual 280, 3) := by decide +kernel
theorem dX11_workOf_64 : decode cX11_workOf 64 = .ok (.i2l, 1) := by decide +kernel
theorem dX11_workOf_65 : decode cX11_workOf 65 = .ok (.lmul, 1) := by decide +kernel
theorem dX11_workOf_66 : decode cX11_workOf 66 = .ok (.iload_n 3, 1) := by decide +kernel
theorem dX11_workOf_67 : decode cX11_workOf 67 = .ok (.i2l, 1) := by decide +kernel
theorem dX11_workOf_68 : decode cX11_workOf 68 = .ok (.ldiv, 1) := by decide +kernel
theorem dX11_workOf_69 : decode cX11_workOf 69 = .ok (.lstore 4, 2) := by decide +kernel
theorem dX11_workOf_71 : decode cX11_workOf 71 = .ok (.ldc2_w 283, 3) := by decide +kernel
theorem dX11_workOf_74 : decode cX11_workOf 74 = .ok (.aload_n 0, 1) := by decide +kernel
theorem dX11_workOf_75 : decode cX11_workOf 75 = .ok (.getfield 50, 3) := by decide +kernel
theorem dX11_workOf_78 : decode cX11_workOf 78 = .ok (.iload_n 2, 1) := by decide +kernel
theorem dX11_workOf_79 : decode cX11_workOf 79 = .ok (.laload, 1) := by decide +kernel
theorem dX11_workOf_80 : decode cX11_workOf 80 = .ok (.lmul, 1) := by decide +kernel
theorem dX11_workOf_81 : decode cX11_workOf 81 = .ok (.lstore 6, 2) := by decide +kernel
theorem dX11_workOf_83 : decode cX11_workOf 83 = .ok (.aload_n 0, 1) := by decide +kernel
theorem dX11_workOf_84 : decode cX11_workOf 84 = .ok (.getfield 50, 3) := by decide +kernel
theorem dX11_workOf_87 : decode cX11_workOf 87 = .ok (.iload_n 2, 1) := by decide +kernel
theorem dX11_workOf_88 : decode cX11_workOf 88 = .ok (.laload, 1) := by decide +kernel
theorem dX11_workOf_89 : decode cX11_workOf 89 = .ok (.ldc2_w 283, 3) := by decide +kernel
theorem dX11_workOf_92 : decode cX11_workOf 92 = .ok (.ldiv, 1) := by decide +kernel
theorem dX11_workOf_93 : decode cX11_workOf 93 = .ok (.lstore 8, 2) := by decide +kernel
theorem dX11_workOf_95 : decode cX11_workOf 95 = .ok (.lload 4, 2) := by decide +kernel
theorem dX11_workOf_97 : decode cX11_workOf 97 = .ok (.lload 6, 2) := by decide +kernel
theorem dX11_workOf_99 : decode cX11_workOf 99 = .ok (.lcmp, 1) := by decide +kernel
theorem dX11_workOf_100 : decode cX11_workOf 100 = .ok (.ifCond .le 8, 3) := by decide +kernel
theorem dX11_workOf_103 : decode cX11_workOf 103 = .ok (.lload 6, 2) := by decide +kernel
theorem dX11_workOf_105 : decode cX11_workOf 105 = .ok (.goto 18, 3) := by decide +kernel
theorem dX11_workOf_108 : decode cX11_workOf 108 = .ok (.lload 4, 2) := by decide +kernel
theorem dX11_workOf_110 : decode cX11_workOf 110 = .ok (.lload 8, 2) := by decide +kernel
theorem dX11_workOf_112 : decode cX11_workOf 112 = .ok (.lcmp, 1) := by decide +kernel
theorem dX11_workOf_113 : decode cX11_workOf 113 = .ok (.ifCond .ge 8, 3) := by decide +kernel
theorem dX11_workOf_116 : decode cX11_workOf 116 = .ok (.lload 8, 2) := by decide +kernel
theorem dX11_workOf_118 : decode cX11_workOf 118 = .ok (.goto 5, 3) := by decide +kernel
theorem dX11_workOf_121 : decode cX11_workOf 121 = .ok (.lload 4, 2) := by decide +kernel
theorem dX11_workOf_123 : decode cX11_workOf 123 = .ok (.lstore 4, 2) := by decide +kernel
theorem dX11_workOf_125 : decode cX11_workOf 125 = .ok (.lload 4, 2) := by decide +kernel
theorem dX11_workOf_127 : decode cX11_workOf 127 = .ok (.lconst 1, 1) := by decide +kernel
theorem dX11_workOf_128 : decode cX11_workOf 128 = .ok (.lcmp, 1) := by decide +kernel
theorem dX11_workOf_129 : decode cX11_workOf 129 = .ok (.ifCond .ge 7, 3) := by decide +kernel
theorem dX11_workOf_132 : decode cX11_workOf 132 = .ok (.lconst 1, 1) := by decide +kernel
theorem dX11_workOf_133 : decode cX11_workOf 133 = .ok (.goto 5, 3) := by decide +kernel
theorem dX11_workOf_136 : decode cX11_workOf 136 = .ok (.lload 4, 2) := by decide +kernel
theorem dX11_workOf_138 : decode cX11_workOf 138 = .ok (.lreturn, 1) := by decide +kernel
theorem q_1318 : Cond.fieldLink RX11 47 RX11 "height" "[I" ∈ zTB := zmem 1318 (by decide +kernel) rfl
theorem q_1317 : Cond.fieldLink RX11 268 RX11 "step" "I" ∈ zTB := zmem 1317 (by decide +kernel) rfl
theorem q_1637 : Cond.methodLink RX11 271 yX11_timeOf ∈ zTB := zmem 1637 (by decide +kernel) rfl
theorem q_1639 : Cond.instanceMethod yX11_timeOf ∈ zTB := zmem 1639 (by decide +kernel) rfl
theorem q_60 : Cond.selects RX11 yX11_timeOf yX11_timeOf ∈ zTB := zmem 60 (by decide +kernel) rfl
theorem q_1640 : Cond.code yX11_timeOf cX11_timeOf 2 (some .int) ∈ zTB := zmem 1640 (by decide +kernel) rfl
theorem k_RX11_271 : zLv RX11 271 RX11 yX11_timeOf cX11_timeOf 2 (some .int) 1 := ⟨⟨q_1637, q_1639, q_60, q_140, q_1640⟩, rfl, ⟨by decide, by decide⟩, by decide +kernel⟩
theorem q_1685 : Cond.methodLink RX11 274 yX11_aheadOf ∈ zTB := zmem 1685 (by decide +kernel) rfl
theorem q_1687 : Cond.instanceMethod yX11_aheadOf ∈ zTB := zmem 1687 (by decide +kernel) rfl
theorem q_70 : Cond.selects RX11 yX11_aheadOf yX11_aheadOf ∈ zTB := zmem 70 (by decide +kernel) rfl
theorem q_1688 : Cond.code yX11_aheadOf cX11_aheadOf 5 (some .int) ∈ zTB := zmem 1688 (by decide +kernel) rfl
theorem k_RX11_274 : zLv RX11 274 RX11 yX11_aheadOf cX11_aheadOf 5 (some .int) 2 := ⟨⟨q_1685, q_1687, q_70, q_140, q_1688⟩, rfl, ⟨by decide, by decide⟩, by decide +kernel⟩
theorem q_1690 : Cond.static yX11_greater ∈ zTB := zmem 1690 (by decide +kernel) rfl
theorem q_1691 : Cond.code yX11_greater cX11_greater 2 (some .int) ∈ zTB := zmem 1691 (by decide +kernel) rfl
theorem q_1689 : Cond.methodLink RX11 277 yX11_greater ∈ zTB := zmem 1689 (by decide +kernel) rfl
theorem k_RX11_277 : zLs RX11 277 yX11_greater cX11_greater 2 (some .int) 2 := ⟨⟨q_1689, q_1690, q_140, q_1691⟩, ⟨by decide, by decide⟩, by decide +kernel⟩
theorem q_1319 : Cond.fieldLink RX11 50 RX11 "works" "[J" ∈ zTB := zmem 1319 (by decide +kernel) rfl
theorem q_1621 : Cond.methodLink RX11 280 yX11_ofNet ∈ zTB := zmem 1621 (by decide +kernel) rfl
theorem q_1623 : Cond.instanceMethod yX11_ofNet ∈ zTB := zmem 1623 (by decide +kernel) rfl
theorem q_57 : Cond.selects RX11 yX11_ofNet yX11_ofNet ∈ zTB := zmem 57 (by decide +kernel) rfl
theorem q_1624 : Cond.code yX11_ofNet cX11_ofNet 2 (some .int) ∈ zTB := zmem 1624 (by decide +kernel) rfl
theorem k_RX11_280 : zLv RX11 280 RX11 yX11_ofNet cX11_ofNet 2 (some .int) 1 := ⟨⟨q_1621, q_1623, q_57, q_140, q_1624⟩, rfl, ⟨by decide, by decide⟩, by decide +kernel⟩
theorem q_1692 : Cond.constantLong RX11 283 (zL (4)) ∈ zTB := zmem 1692 (by decide +kernel) rfl
def F_X11_workOf (i : Nat) (X Y : Nat → Int → Int) (R : Nat → Int → Option Nat) (a : Int) : Prop := (∀ i j, rI (X i j)) → (∀ i j, rL (Y i j)) → (oC X i ∧ 0 ≤ a ∧ a ≤ 14) ∧ (rI (mPar X i (a)) → ((0 ≤ a ∧ a < 15) ∧ ((X (i) 30 ≠ 0 ∧ X (i) 30 ≠ -1) ∧ (((((X (i + 13) (a)).tmod (X (i) 30)) = 0) → ((oC X i ∧ 0 ≤ mPar X i (a) ∧ mPar X i (a) ≤ 14) ∧ (rI (mTim X i (mPar X i (a))) → ((rI ((X (i) 30) - 1)) ∧ (((∃ m, oB X i m ∧ mPar X i (a) ≤ m) ∧ 0 ≤ mPar X i (a)) ∧ (rI (mAh X i (mPar X i (a)) ((X (i) 30) - 1).toNat) → ((oC X i ∧ 0 ≤ mAh X i (mPar X i (a)) ((X (i) 30) - 1).toNat ∧ mAh X i (mPar X i (a)) ((X (i) 30) - 1).toNat ≤ 14) ∧ (rI (mTim X i (mAh X i (mPar X i (a)) ((X (i) 30) - 1).toNat)) → ((rI ((mTim X i (mPar X i (a))) - (mTim X i (mAh X i (mPar X i (a)) ((X (i) 30) - 1).toNat)))) ∧ (rI (max ((1 : Int)) ((mTim X i (mPar X i (a))) - (mTim X i (mAh X i (mPar X i (a)) ((X (i) 30) - 1).toNat)))) → ((0 ≤ (mPar X i (a)) ∧ (mPar X i (a)) < 15) ∧ ((oN X i ∧ 0 ≤ (1 : Int) ∧ (1 : Int) ≤ 12) ∧ (rI (mG X i ((1 : Int))) → ((rL ((Y (i + 14) (mPar X i (a))) * (mG X i ((1 : Int))))) ∧ ((max ((1 : Int)) ((mTim X i (mPar X i (a))) - (mTim X i (mAh X i (mPar X i (a)) ((X (i) 30) - 1).toNat))) ≠ 0 ∧ max ((1 : Int)) ((mTim X i (mPar X i (a))) - (mTim X i (mAh X i (mPar X i (a)) ((X (i) 30) - 1).toNat))) ≠ -1) ∧ ((0 ≤ (mPar X i (a)) ∧ (mPar X i (a)) < 15) ∧ ((0 ≤ (mPar X i (a)) ∧ (mPar X i (a)) < 15) ∧ ((rL (((Y (i + 14) (mPar X i (a))) * (mG X i ((1 : Int)))).tdiv (max ((1 : Int)) ((mTim X i (mPar X i (a))) - (mTim X i (mAh X i (mPar X i (a)) ((X (i) 30) - 1).toNat)))))) ∧ ((rL (((4)) * (Y (i + 14) (mPar X i (a))))) ∧ ((((((Y (i + 14) (mPar X i (a))) * (mG X i ((1 : Int)))).tdiv (max ((1 : Int)) ((mTim X i (mPar X i (a))) - (mTim X i (mAh X i (mPar X i (a)) ((X (i) 30) - 1).toNat))))) ≤ (((4)) * (Y (i + 14) (mPar X i (a))))) → ((rL ((Y (i + 14) (mPar X i (a))).tdiv ((4)))) ∧ (((((Y (i + 14) (mPar X i (a))).tdiv ((4))) ≤ (((Y (i + 14) (mPar X i (a))) * (mG X i ((1 : Int)))).tdiv (max ((1 : Int)) ((mTim X i (mPar X i (a))) - (mTim X i (mAh X i (mPar X i (a)) ((X (i) 30) - 1).toNat)))))) → (((1 ≤ (((Y (i + 14) (mPar X i (a))) * (mG X i ((1 : Int)))).tdiv (max ((1 : Int)) ((mTim X i (mPar X i (a))) - (mTim X i (mAh X i (mPar X i (a)) ((X (i) 30) - 1).toNat)))))) → (((Y (i + 14) (mPar X i (a))) * (mG X i ((1 : Int)))).tdiv (max ((1 : Int)) ((mTim X i (mPar X i (a))) - (mTim X i (mAh X i (mPar X i (a)) ((X (i) 30) - 1).toNat)))) = mWk X Y i (a))) ∧ ((¬ (1 ≤ (((Y (i + 14) (mPar X i (a))) * (mG X i ((1 : Int)))).tdiv (max ((1 : Int)) ((mTim X i (mPar X i (a))) - (mTim X i (mAh X i (mPar X i (a)) ((X (i) 30) - 1).toNat))))))) → (1 = mWk X Y i (a))))) ∧ ((¬ (((Y (i + 14) (mPar X i (a))).tdiv ((4))) ≤ (((Y (i + 14) (mPar X i (a))) * (mG X i ((1 : Int)))).tdiv (max ((1 : Int)) ((mTim X i (mPar X i (a))) - (mTim X i (mAh X i (mPar X i (a)) ((X (i) 30) - 1).toNat))))))) → (((1 ≤ ((Y (i + 14) (mPar X i (a))).tdiv ((4)))) → ((Y (i + 14) (mPar X i (a))).tdiv ((4)) = mWk X Y i (a))) ∧ ((¬ (1 ≤ ((Y (i + 14) (mPar X i (a))).tdiv ((4))))) → (1 = mWk X Y i (a)))))))) ∧ ((¬ ((((Y (i + 14) (mPar X i (a))) * (mG X i ((1 : Int)))).tdiv (max ((1 : Int)) ((mTim X i (mPar X i (a))) - (mTim X i (mAh X i (mPar X i (a)) ((X (i) 30) - 1).toNat))))) ≤ (((4)) * (Y (i + 14) (mPar X i (a)))))) → (((1 ≤ (((4)) * (Y (i + 14) (mPar X i (a))))) → (((4)) * (Y (i + 14) (mPar X i (a))) = mWk X Y i (a))) ∧ ((¬ (1 ≤ (((4)) * (Y (i + 14) (mPar X i (a)))))) → (1 = mWk X Y i (a))))))))))))))))))))))))) ∧ ((¬ (((X (i + 13) (a)).tmod (X (i) 30)) = 0)) → ((0 ≤ (mPar X i (a)) ∧ (mPar X i (a)) < 15) ∧ (Y (i + 14) (mPar X i (a)) = mWk X Y i (a))))))))
set_option maxHeartbeats 4000000 in
set_option maxRecDepth 100000 in
theorem w_X11_workOf {l : Launch} {D : va_G} {cy : Nat → ClassId} {bs N : Nat} {sa : Nat → Nat} {kd len : Nat → Nat} {X Y : Nat → Int → Int} {R : Nat → Int → Option Nat} {i : Nat} (hM : zM N kd len R i) (a : Int) (ha : rI a) (hF : F_X11_workOf i X Y R a) : Met l yX11_workOf (.code yX11_workOf cX11_workOf 10 (some .long) :: zTB) (zRm 3 67) (zPc D cy bs sa N kd len X Y R [.ref (bs + (i)), .int (zI (a))]) (zQl D cy bs N kd len (fun r st => r = mWk X Y i (a) ∧ st = (X, Y, R))) 0 0 (zA bs) := by
  refine zstart (by decide) (Nat.le_of_ble_eq_true rfl) ?_
  intro p e s m args below meth c ls C hE hH hr hlk hnm hl hargs
  have hF := hF hH.2.2.1 hH.2.2.2
  have hS : va_S (zA bs) s.heap s.heap [] := va_S.rf
  have hl : lv_has ls 10 [(0, .ref (bs + (i))), (1, .int (zI (a)))] := hl
  refine lv_aload_n C.1 C.2.1 dX11_workOf_0 rfl (lv_at hl 0 rfl) ?_
  refine lv_iload_n C.1 C.2.1 dX11_workOf_1 rfl (lv_at hl 1 rfl) ?_
  obtain ⟨o1, hF⟩ := hF
  refine zgoi (zrunV (As := [.int (zI (a))]) (rest := []) C hE hH hS hl.1 (c_X11_parentOf (l := l) hM (a) ha o1) k_RX11_264 ⟨Nat.le_of_ble_eq_true rfl, Nat.le_of_ble_eq_true rfl⟩ (zM_n0 hM) (zM_k0 hM) rfl rfl rfl (Nat.le_of_ble_eq_true rfl) dX11_workOf_2 ⟨Nat.zero_le _, Nat.zero_le _⟩) hS (fun rq Xq Yq Rq H locs hrq hq hH hS => ?_)
  obtain ⟨h91, h92⟩ := hq
  have h93 : Xq = X := congrArg (fun z => z.1) h92
  have h94 : Yq = Y := congrArg (fun z => z.2.1) h92
  have h95 : Rq = R := congrArg (fun z => z.2.2) h92
  rw [h93, h94, h95] at hH
  subst h91
  have hr2 := hrq
  have hF := hF hr2
  refine lv_istore_n (lv' := [(2, .int (zI (mPar X i (a)))), (0, .ref (bs + (i))), (1, .int (zI (a)))]) C.1 C.2.1 dX11_workOf_5 rfl hl (by decide) rfl (fun ls hl => ?_)
  refine lv_aload_n C.1 C.2.1 dX11_workOf_6 rfl (lv_at hl 1 rfl) ?_
  refine zg11_31 C hH (zM_n0 hM) (zM_k0 hM) q_1318 (zM_r13 hM) dX11_workOf_7 ?_
  refine lv_iload_n C.1 C.2.1 dX11_workOf_10 rfl (lv_at hl 2 rfl) ?_
  obtain ⟨o3, hF⟩ := hF
  refine zd_iald C hH (zM_n13 hM) (zM_k13 hM) o3.1 (by rw [zM_l13 hM]; exact o3.2) (by rw [zM_l13 hM]; decide) dX11_workOf_11 ?_
  refine lv_aload_n C.1 C.2.1 dX11_workOf_12 rfl (lv_at hl 1 rfl) ?_
  refine zg11_30 C hH (zM_n0 hM) (zM_k0 hM) q_1317 dX11_workOf_13 ?_
  obtain ⟨o4, hF⟩ := hF
  refine zd_irem C (hH.2.2.1 _ _) (hH.2.2.1 _ _) o4.1 o4.2 dX11_workOf_16 ?_
  refine zd_if_eq C (tmod_rI (hH.2.2.1 _ _) (show (X (i) 30 : Int) ≠ -1 from o4.2)) 27 dX11_workOf_17 (by decide) (fun c5 => ?_) (fun c5 => ?_)
  · have hF := hF.1 c5
    refine zd_iconst C dX11_workOf_27 ?_
    refine lv_aload_n C.1 C.2.1 dX11_workOf_28 rfl (lv_at hl 1 rfl) ?_
    refine lv_iload_n C.1 C.2.1 dX11_workOf_29 rfl (lv_at hl 0 rfl) ?_
    obtain ⟨o6, hF⟩ := hF
    refine zgoi (zrunV (As := [.int (zI (mPar X i (a)))]) (rest := [.int (zI (1))]) C hE hH hS hl.1 (c_X11_timeOf (l := l) hM (mPar X i (a)) hr2 o6) k_RX11_271 ⟨Nat.le_of_ble_eq_true rfl, Nat.le_of_ble_eq_true rfl⟩ (zM_n0 hM) (zM_k0 hM) rfl rfl rfl (Nat.le_of_ble_eq_true rfl) dX11_workOf_30 ⟨Nat.zero_le _, Nat.zero_le _⟩) hS (fun rq Xq Yq Rq H locs hrq hq hH hS => ?_)
    obtain ⟨h91, h92⟩ := hq
    have h93 : Xq = X := congrArg (fun z => z.1) h92
    have h94 : Yq = Y := congrArg (fun z => z.2.1) h92
    have h95 : Rq = R := congrArg (fun z => z.2.2) h92
    rw [h93, h94, h95] at hH
    subst h91
    have hr7 := hrq
    have hF := hF hr7
    refine lv_aload_n C.1 C.2.1 dX11_workOf_33 rfl (lv_at hl 1 rfl) ?_
    refine lv_aload_n C.1 C.2.1 dX11_workOf_34 rfl (lv_at hl 1 rfl) ?_
    refine lv_iload_n C.1 C.2.1 dX11_workOf_35 rfl (lv_at hl 0 rfl) ?_
    refine lv_aload_n C.1 C.2.1 dX11_workOf_36 rfl (lv_at hl 1 rfl) ?_
    refine zg11_30 C hH (zM_n0 hM) (zM_k0 hM) q_1317 dX11_workOf_37 ?_
    refine zd_iconst C dX11_workOf_40 ?_
    refine zd_isub C dX11_workOf_41 ?_
    obtain ⟨o8, hF⟩ := hF
    obtain ⟨o9, hF⟩ := hF
    refine zgoi (zrunV (As := [.int (zI (mPar X i (a))), .int (zI ((X (i) 30) - 1))]) (rest := [.ref (bs + (i)), .int (zI (mTim X i (mPar X i (a)))), .int (zI (1))]) C hE hH hS hl.1 (c_X11_aheadOf (l := l) hM (mPar X i (a)) hr2 ((X (i) 30) - 1) o8 o9) k_RX11_274 ⟨Nat.le_of_ble_eq_true rfl, Nat.le_of_ble_eq_true rfl⟩ (zM_n0 hM) (zM_k0 hM) rfl rfl rfl (Nat.le_of_ble_eq_true rfl) dX11_workOf_42 ⟨Nat.zero_le _, Nat.zero_le _⟩) hS (fun rq Xq Yq Rq H locs hrq hq hH hS => ?_)
    obtain ⟨h91, h92⟩ := hq
    have h93 : Xq = X := congrArg (fun z => z.1) h92
    have h94 : Yq = Y := congrArg (fun z => z.2.1) h92
    have h95 : Rq = R := congrArg (fun z => z.2.2) h92
    rw [h93, h94, h95] at hH
    subst h91
    have hr10 := hrq
    have hF := hF hr10
    obtain ⟨o11, hF⟩ := hF
    refine zgoi (zrunV (As := [.int (zI (mAh X i (mPar X i (a)) ((X (i) 30) - 1).toNat))]) (rest := [.int (zI (mTim X i (mPar X i (a)))), .int (zI (1))]) C hE hH hS hl.1 (c_X11_timeOf (l := l) hM (mAh X i (mPar X i (a)) ((X (i) 30) - 1).toNat) hr10 o11) k_RX11_271 ⟨Nat.le_of_ble_eq_true rfl, Nat.le_of_ble_eq_true rfl⟩ (zM_n0 hM) (zM_k0 hM) rfl rfl rfl (Nat.le_of_ble_eq_true rfl) dX11_workOf_45 ⟨Nat.zero_le _, Nat.zero_le _⟩) hS (fun rq Xq Yq Rq H locs hrq hq hH hS => ?_)
    obtain ⟨h91, h92⟩ := hq
    have h93 : Xq = X := congrArg (fun z => z.1) h92
    have h94 : Yq = Y := congrArg (fun z => z.2.1) h92
    have h95 : Rq = R := congrArg (fun z => z.2.2) h92
    rw [h93, h94, h95] at hH
    subst h91
    have hr12 := hrq
    have hF := hF hr12
    refine zd_isub C dX11_workOf_48 ?_
    obtain ⟨o13, hF⟩ := hF
    refine zgoi (zrunS (As := [.int (zI (1)), .int (zI ((mTim X i (mPar X i (a))) - (mTim X i (mAh X i (mPar X i (a)) ((X (i) 30) - 1).toNat))))]) (rest := []) C hE hH hS hl.1 (c_X11_greater (l := l)  (1) (by decide) ((mTim X i (mPar X i (a))) - (mTim X i (mAh X i (mPar X i (a)) ((X (i) 30) - 1).toNat))) o13) k_RX11_277 ⟨Nat.le_of_ble_eq_true rfl, Nat.le_of_ble_eq_true rfl⟩ rfl (Nat.le_of_ble_eq_true rfl) dX11_workOf_49 ⟨Nat.zero_le _, Nat.zero_le _⟩) hS (fun rq Xq Yq Rq H locs hrq hq hH hS => ?_)
    obtain ⟨h91, h92⟩ := hq
    have h93 : Xq = X := congrArg (fun z => z.1) h92
    have h94 : Yq = Y := congrArg (fun z => z.2.1) h92
    have h95 : Rq = R := congrArg (fun z => z.2.2) h92
    rw [h93, h94, h95] at hH
    subst h91
    have hr14 := hrq
    have hF := hF hr14
    refine lv_istore_n (lv' := [(3, .int (zI (max ((1 : Int)) ((mTim X i (mPar X i (a))) - (mTim X i (mAh X i (mPar X i (a)) ((X (i) 30) - 1).toNat)))))), (2, .int (zI (mPar X i (a)))), (0, .ref (bs + (i))), (1, .int (zI (a)))]) C.1 C.2.1 dX11_workOf_52 rfl hl (by decide) rfl (fun ls hl => ?_)
    refine lv_aload_n C.1 C.2.1 dX11_workOf_53 rfl (lv_at hl 2 rfl) ?_
    refine zg11_32 C hH (zM_n0 hM) (zM_k0 hM) q_1319 (zM_r14 hM) dX11_workOf_54 ?_
    refine lv_iload_n C.1 C.2.1 dX11_workOf_57 rfl (lv_at hl 1 rfl) ?_
    obtain ⟨o15, hF⟩ := hF
    refine zd_lald C hH (zM_n14 hM) (zM_k14 hM) o15.1 (by rw [zM_l14 hM]; exact o15.2) (by rw [zM_l14 hM]; decide) dX11_workOf_58 ?_
    refine lv_aload_n C.1 C.2.1 dX11_workOf_59 rfl (lv_at hl 2 rfl) ?_
    refine zd_iconst C dX11_workOf_60 ?_
    obtain ⟨o16, hF⟩ := hF
    refine zgoi (zrunV (As := [.int (zI (1))]) (rest := [.long (zL (Y (i + 14) (mPar X i (a))))]) C hE hH hS hl.1 (c_X11_ofNet (l := l) hM (1) (by decide) o16) k_RX11_280 ⟨Nat.le_of_ble_eq_true rfl, Nat.le_of_ble_eq_true rfl⟩ (zM_n0 hM) (zM_k0 hM) rfl rfl rfl (Nat.le_of_ble_eq_true rfl) dX11_workOf_61 ⟨Nat.zero_le _, Nat.zero_le _⟩) hS (fun rq Xq Yq Rq H locs hrq hq hH hS => ?_)
    obtain ⟨h91, h92⟩ := hq
    have h93 : Xq = X := congrArg (fun z => z.1) h92
    have h94 : Yq = Y := congrArg (fun z => z.2.1) h92
    have h95 : Rq = R := congrArg (fun z => z.2.2) h92
    rw [h93, h94, h95] at hH
    subst h91
    have hr17 := hrq
    have hF := hF hr17
    refine zd_i2l C hr17 dX11_workOf_64 ?_
    refine zd_lmul C dX11_workOf_65 ?_
    refine lv_iload_n C.1 C.2.1 dX11_workOf_66 rfl (lv_at hl 0 rfl) ?_
    refine zd_i2l C hr14 dX11_workOf_67 ?_
    obtain ⟨o18, hF⟩ := hF
    obtain ⟨o19, hF⟩ := hF
    refine zd_ldiv C o18 (rI_rL hr14) o19.1 o19.2 dX11_workOf_68 ?_
    refine lv_lstore (lv' := [(4, .long (zL (((Y (i + 14) (mPar X i (a))) * (mG X i ((1 : Int)))).tdiv (max ((1 : Int)) ((mTim X i (mPar X i (a))) - (mTim X i (mAh X i (mPar X i (a)) ((X (i) 30) - 1).toNat))))))), (3, .int (zI (max ((1 : Int)) ((mTim X i (mPar X i (a))) - (mTim X i (mAh X i (mPar X i (a)) ((X (i) 30) - 1).toNat)))))), (2, .int (zI (mPar X i (a)))), (0, .ref (bs + (i))), (1, .int (zI (a)))]) C.1 C.2.1 dX11_workOf_69 hl (by decide) rfl (fun ls hl => ?_)
    refine lv_ldc2 (v := zL (4)) C.1 C.2.1 C.2.2.2.1 (C.2.2.2.2.1 _ q_1692) dX11_workOf_71 ?_
    refine lv_aload_n C.1 C.2.1 dX11_workOf_74 rfl (lv_at hl 3 rfl) ?_
    refine zg11_32 C hH (zM_n0 hM) (zM_k0 hM) q_1319 (zM_r14 hM) dX11_workOf_75 ?_
    refine lv_iload_n C.1 C.2.1 dX11_workOf_78 rfl (lv_at hl 2 rfl) ?_
    obtain ⟨o20, hF⟩ := hF
    refine zd_lald C hH (zM_n14 hM) (zM_k14 hM) o20.1 (by rw [zM_l14 hM]; exact o20.2) (by rw [zM_l14 hM]; decide) dX11_workOf_79 ?_
    refine zd_lmul C dX11_workOf_80 ?_
    refine lv_lstore (lv' := [(6, .long (zL (((4)) * (Y (i + 14) (mPar X i (a)))))), (4, .long (zL (((Y (i + 14) (mPar X i (a))) * (mG X i ((1 : Int)))).tdiv (max ((1 : Int)) ((mTim X i (mPar X i (a))) - (mTim X i (mAh X i (mPar X i (a)) ((X (i) 30) - 1).toNat))))))), (3, .int (zI (max ((1 : Int)) ((mTim X i (mPar X i (a))) - (mTim X i (mAh X i (mPar X i (a)) ((X (i) 30) - 1).toNat)))))), (2, .int (zI (mPar X i (a)))), (0, .ref (bs + (i))), (1, .int (zI (a)))]) C.1 C.2.1 dX11_workOf_81 hl (by decide) rfl (fun ls hl => ?_)
    refine lv_aload_n C.1 C.2.1 dX11_workOf_83 rfl (lv_at hl 4 rfl) ?_
    refine zg11_32 C hH (zM_n0 hM) (zM_k0 hM) q_1319 (zM_r14 hM) dX11_workOf_84 ?_
    refine lv_iload_n C.1 C.2.1 dX11_workOf_87 rfl (lv_at hl 3 rfl) ?_
    obtain ⟨o21, hF⟩ := hF
    refine zd_lald C hH (zM_n14 hM) (zM_k14 hM) o21.1 (by rw [zM_l14 hM]; exact o21.2) (by rw [zM_l14 hM]; decide) dX11_workOf_88 ?_
    refine lv_ldc2 (v := zL (4)) C.1 C.2.1 C.2.2.2.1 (C.2.2.2.2.1 _ q_1692) dX11_workOf_89 ?_
    refine zd_ldiv C (hH.2.2.2 _ _) (by decide) (by decide) (by decide) dX11_workOf_92 ?_
    refine lv_lstore (lv' := [(8, .long (zL ((Y (i + 14) (mPar X i (a))).tdiv ((4))))), (6, .long (zL (((4)) * (Y (i + 14) (mPar X i (a)))))), (4, .long (zL (((Y (i + 14) (mPar X i (a))) * (mG X i ((1 : Int)))).tdiv (max ((1 : Int)) ((mTim X i (mPar X i (a))) - (mTim X i (mAh X i (mPar X i (a)) ((X (i) 30) - 1).toNat))))))), (3, .int (zI (max ((1 : Int)) ((mTim X i (mPar X i (a))) - (mTim X i (mAh X i (mPar X i (a)) ((X (i) 30) - 1).toNat)))))), (2, .int (zI (mPar X i (a)))), (0, .ref (bs + (i))), (1, .int (zI (a)))]) C.1 C.2.1 dX11_workOf_93 hl (by decide) rfl (fun ls hl => ?_)
    refine lv_lload C.1 C.2.1 dX11_workOf_95 (lv_at hl 2 rfl) ?_
    refine lv_lload C.1 C.2.1 dX11_workOf_97 (lv_at hl 1 rfl) ?_
    obtain ⟨o22, hF⟩ := hF
    obtain ⟨o23, hF⟩ := hF
    refine zd_lcmp C o22 o23 dX11_workOf_99 ?_
    refine zd_ifL_le C 108 dX11_workOf_100 (by decide) (fun c24 => ?_) (fun c24 => ?_)
    · have hF := hF.1 c24
      refine lv_lload C.1 C.2.1 dX11_workOf_108 (lv_at hl 2 rfl) ?_
      refine lv_lload C.1 C.2.1 dX11_workOf_110 (lv_at hl 0 rfl) ?_
      obtain ⟨o25, hF⟩ := hF
      refine zd_lcmp C o22 o25 dX11_workOf_112 ?_
      refine zd_ifL_ge C 121 dX11_workOf_113 (by decide) (fun c26 => ?_) (fun c26 => ?_)
      · have hF := hF.1 c26
        refine lv_lload C.1 C.2.1 dX11_workOf_121 (lv_at hl 2 rfl) ?_
        refine lv_lstore (lv' := [(4, .long (zL (((Y (i + 14) (mPar X i (a))) * (mG X i ((1 : Int)))).tdiv (max ((1 : Int)) ((mTim X i (mPar X i (a))) - (mTim X i (mAh X i (mPar X i (a)) ((X (i) 30) - 1).toNat))))))), (8, .long (zL ((Y (i + 14) (mPar X i (a))).tdiv ((4))))), (6, .long (zL (((4)) * (Y (i + 14) (mPar X i (a)))))), (3, .int (zI (max ((1 : Int)) ((mTim X i (mPar X i (a))) - (mTim X i (mAh X i (mPar X i (a)) ((X (i) 30) - 1).toNat)))))), (2, .int (zI (mPar X i (a)))), (0, .ref (bs + (i))), (1, .int (zI (a)))]) C.1 C.2.1 dX11_workOf_123 hl (by decide) rfl (fun ls hl => ?_)
        refine lv_lload C.1 C.2.1 dX11_workOf_125 (lv_at hl 0 rfl) ?_
        refine lv_lconst (v := zL 1) C.1 C.2.1 dX11_workOf_127 rfl ?_
        refine zd_lcmp C o22 (by decide) dX11_workOf_128 ?_
        refine zd_ifL_ge C 136 dX11_workOf_129 (by decide) (fun c27 => ?_) (fun c27 => ?_)
        · have hF := hF.1 c27
          refine lv_lload C.1 C.2.1 dX11_workOf_136 (lv_at hl 0 rfl) ?_
          exact zd_lret C hr hlk hH hS o22 (⟨hF, rfl⟩) dX11_workOf_138
        · have hF := hF.2 c27
          refine lv_lconst (v := zL 1) C.1 C.2.1 dX11_workOf_132 rfl ?_
          refine lv_goto (tgt := 138) C.1 C.2.1 dX11_workOf_133 (by decide) ?_
          exact zd_lret C hr hlk hH hS (by decide) (⟨hF, rfl⟩) dX11_workOf_138
      · have hF := hF.2 c26
        refine lv_lload C.1 C.2.1 dX11_workOf_116 (lv_at hl 0 rfl) ?_
        refine lv_goto (tgt := 123) C.1 C.2.1 dX11_workOf_118 (by decide) ?_
        refine lv_lstore (lv' := [(4, .long (zL ((Y (i + 14) (mPar X i (a))).tdiv ((4))))), (8, .long (zL ((Y (i + 14) (mPar X i (a))).tdiv ((4))))), (6, .long (zL (((4)) * (Y (i + 14) (mPar X i (a)))))), (3, .int (zI (max ((1 : Int)) ((mTim X i (mPar X i (a))) - (mTim X i (mAh X i (mPar X i (a)) ((X (i) 30) - 1).toNat)))))), (2, .int (zI (mPar X i (a)))), (0, .ref (bs + (i))), (1, .int (zI (a)))]) C.1 C.2.1 dX11_workOf_123 hl (by decide) rfl (fun ls hl => ?_)
        refine lv_lload C.1 C.2.1 dX11_workOf_125 (lv_at hl 0 rfl) ?_
        refine lv_lconst (v := zL 1) C.1 C.2.1 dX11_workOf_127 rfl ?_
        refine zd_lcmp C o25 (by decide) dX11_workOf_128 ?_
        refine zd_ifL_ge C 136 dX11_workOf_129 (by decide) (fun c28 => ?_) (fun c28 => ?_)
        · have hF := hF.1 c28
          refine lv_lload C.1 C.2.1 dX11_workOf_136 (lv_at hl 0 rfl) ?_
          exact zd_lret C hr hlk hH hS o25 (⟨hF, rfl⟩) dX11_workOf_138
        · have hF := hF.2 c28
          refine lv_lconst (v := zL 1) C.1 C.2.1 dX11_workOf_132 rfl ?_
          refine lv_goto (tgt := 138) C.1 C.2.1 dX11_workOf_133 (by decide) ?_
          exact zd_lret C hr hlk hH hS (by decide) (⟨hF, rfl⟩) dX11_workOf_138
    · have hF := hF.2 c24
      refine lv_lload C.1 C.2.1 dX11_workOf_103 (lv_at hl 1 rfl) ?_
      refine lv_goto (tgt := 123) C.1 C.2.1 dX11_workOf_105 (by decide) ?_
      refine lv_lstore (lv' := [(4, .long (zL (((4)) * (Y (i + 14) (mPar X i (a)))))), (8, .long (zL ((Y (i + 14) (mPar X i (a))).tdiv ((4))))), (6, .long (zL (((4)) * (Y (i + 14) (mPar X i (a)))))), (3, .int (zI (max ((1 : Int)) ((mTim X i (mPar X i (a))) - (mTim X i (mAh X i (mPar X i (a)) ((X (i) 30) - 1).toNat)))))), (2, .int (zI (mPar X i (a)))), (0, .ref (bs + (i))), (1, .int (zI (a)))]) C.1 C.2.1 dX11_workOf_123 hl (by decide) rfl (fun ls hl => ?_)
      refine lv_lload C.1 C.2.1 dX11_workOf_125 (lv_at hl 0 rfl) ?_
      refine lv_lconst (v := zL 1) C.1 C.2.1 dX11_workOf_127 rfl ?_
      refine zd_lcmp C o23 (by decide) dX11_workOf_128 ?_
      refine zd_ifL_ge C 136 dX11_workOf_129 (by decide) (fun c29 => ?_) (fun c29 => ?_)
      · have hF := hF.1 c29
        refine lv_lload C.1 C.2.1 dX11_workOf_136 (lv_at hl 0 rfl) ?_
        exact zd_lret C hr hlk hH hS o23 (⟨hF, rfl⟩) dX11_workOf_138
      · have hF := hF.2 c29
        refine lv_lconst (v := zL 1) C.1 C.2.1 dX11_workOf_132 rfl ?_
        refine lv_goto (tgt := 138) C.1 C.2.1 dX11_workOf_133 (by decide) ?_
        exact zd_lret C hr hlk hH hS (by decide) (⟨hF, rfl⟩) dX11_workOf_138
  · have hF := hF.2 c5
    refine lv_aload_n C.1 C.2.1 dX11_workOf_20 rfl (lv_at hl 1 rfl) ?_
    refine zg11_32 C hH (zM_n0 hM) (zM_k0 hM) q_1319 (zM_r14 hM) dX11_workOf_21 ?_
    refine lv_iload_n C.1 C.2.1 dX11_workOf_24 rfl (lv_at hl 0 rfl) ?_
    obtain ⟨o30, hF⟩ := hF
    refine zd_lald C hH (zM_n14 hM) (zM_k14 hM) o30.1 (by rw [zM_l14 hM]; exact o30.2) (by rw [zM_l14 hM]; decide) dX11_workOf_25 ?_
    exact zd_lret C hr hlk hH hS (hH.2.2.2 _ _) (⟨hF, rfl⟩) dX11_workOf_26
theorem v_X11_workOf {X Y : Nat → Int → Int} {R : Nat → Int → Option Nat} {i : Nat} (a : Int) (ha : rI a) (hp : mWkP X Y i (a)) : F_X11_workOf i X Y R a := by
  unfold F_X11_workOf
  intro hX hY
  obtain ⟨⟨m, hB, hT, hm⟩, h1, hN, hst, hg, hw, hah⟩ := hp
  have h14 := hB.2.1
  have hpar := hB.2.2 a h1 hm
  have ep : mPar X i a = mC X i a 0 := by
    unfold mPar
    rw [if_neg (by omega)]
  rw [← ep] at hpar
  refine ⟨⟨hB.1, by omega, by omega⟩, fun hr => ⟨⟨by omega, by omega⟩, ⟨by omega, by omega⟩, fun h => ?_, fun h => ?_⟩⟩
  · have ht1 := mTim_b hT (k := mPar X i a) (by omega) (by omega)
    have hq0 := hah h
    have hqb := mAh_b hB (k := mPar X i a) (by omega) (by omega) (X i 30 - 1).toNat
    have ht2 := mTim_b hT (k := mAh X i (mPar X i a) (X i 30 - 1).toNat) hq0 (by omega)
    have e : mWk X Y i a = sStep (Y (i + 14) (mPar X i a)) (mG X i 1) (mTim X i (mPar X i a) - mTim X i (mAh X i (mPar X i a) (X i 30 - 1).toNat)) := by
      unfold mWk
      rw [if_neg (by omega)]
    rw [e, sStep_t (by omega) (by omega)]
    refine ⟨⟨hB.1, by omega, by omega⟩, fun r1 => ⟨⟨by omega, by omega⟩, ⟨⟨m, hB, by omega⟩, by omega⟩, fun r2 => ⟨⟨hB.1, by omega, by omega⟩, fun r3 => ⟨⟨by omega, by omega⟩, fun r4 => ?_⟩⟩⟩⟩
    generalize mTim X i (mPar X i a) - mTim X i (mAh X i (mPar X i a) (X i 30 - 1).toNat) = dt at r4 ⊢
    obtain ⟨b1, b2, b3, b4, b5, b6, b7⟩ := wk_b (dt := dt) hw hg
    refine ⟨⟨by omega, by omega⟩, ⟨hN, by omega, by omega⟩, fun r5 => ⟨b1, ⟨by omega, by omega⟩, ⟨by omega, by omega⟩, ⟨by omega, by omega⟩, b2, b4, ?_⟩⟩
    generalize (Y (i + 14) (mPar X i a) * mG X i 1).tdiv (max 1 dt) = q9 at b2 b3 ⊢
    generalize (Y (i + 14) (mPar X i a)).tdiv 4 = y4 at b5 b6 b7 ⊢
    generalize Y (i + 14) (mPar X i a) = y at b4 b7 hw ⊢
    repeat' first | apply And.intro | intro _
    all_goals omega
  · have e : mWk X Y i a = Y (i + 14) (mPar X i a) := by
      unfold mWk
      rw [if_pos (by omega)]
    exact ⟨⟨by omega, by omega⟩, e.symm⟩
theorem c_X11_workOf {l : Launch} {D : va_G} {cy : Nat → ClassId} {bs N : Nat} {sa : Nat → Nat} {kd len : Nat → Nat} {X Y : Nat → Int → Int} {R : Nat → Int → Option Nat} {i : Nat} (hM : zM N kd len R i) (a : Int) (ha : rI a) (hp : mWkP X Y i (a)) : Met l yX11_workOf (.code yX11_workOf cX11_workOf 10 (some .long) :: zTB) (zRm 3 67) (zPc D cy bs sa N kd len X Y R [.ref (bs + (i)), .int (zI (a))]) (zQl D cy bs N kd len (fun r st => r = mWk X Y i (a) ∧ st = (X, Y, R))) 0 0 (zA bs) := w_X11_workOf hM a ha (v_X11_workOf a ha hp)
/-- the net as told, and the step by which it goes -/
abbrev oG (X : Nat → Int → Int) (i : Nat) : Prop := oN X i ∧ (1 ≤ X i 30 ∧ X i 30 ≤ 9) ∧ (1 ≤ mG X i 1 ∧ mG X i 1 ≤ 99) ∧ (1 ≤ mG X i 2 ∧ mG X i 2 ≤ 99)
abbrev rW (X : Nat → Int → Int) (i : Nat) : Nat → Int := sWk (rP X i) (rT X i) (mG X i 1) (mG X i 2) (X i 30).toNat
abbrev rG (X : Nat → Int → Int) (i : Nat) : Nat → Int := sWg (rP X i) (rT X i) (mG X i 1) (mG X i 2) (X i 30).toNat
/-- heights, works, weights laid for all below k -/
def lW (X Y X1 Y1 : Nat → Int → Int) (i k : Nat) : Prop := (∀ a, a ≠ i + 13 → X1 a = X a) ∧ (∀ a, a ≠ i + 14 → a ≠ i + 15 → Y1 a = Y a) ∧ ∀ j : Nat, j < k → X1 (i + 13) j = sHg (rP X i) j ∧ Y1 (i + 14) j = rW X i j ∧ Y1 (i + 15) j = rG X i j
theorem mC_off {X X1 : Nat → Int → Int} {i : Nat} (h : X1 (i + 7) = X (i + 7)) (h2 : X1 i = X i) (k w : Int) : mC X1 i k w = mC X i k w := by
  unfold mC
  rw [h, h2]
theorem mG_off {X X1 : Nat → Int → Int} {i : Nat} (h : X1 (i + 6) = X (i + 6)) (h2 : X1 i = X i) (t : Int) : mG X1 i t = mG X i t := by
  unfold mG
  rw [h, h2]
theorem oB_off {X X1 : Nat → Int → Int} {i : Nat} {n : Int} (h : X1 (i + 7) = X (i + 7)) (h2 : X1 i = X i) (hb : oB X i n) : oB X1 i n := by
  refine ⟨by show 0 ≤ X1 i 25 ∧ X1 i 25 ≤ 1; rw [h2]; exact hb.1, hb.2.1, fun k h1 h3 => ?_⟩
  rw [mC_off h h2]
  exact hb.2.2 k h1 h3
theorem mAh_off {X X1 : Nat → Int → Int} {i : Nat} {k : Int} (h : X1 (i + 7) = X (i + 7)) (h2 : X1 i = X i) : ∀ n, mAh X1 i k n = mAh X i k n
  | 0 => rfl
  | n + 1 => by
    unfold mAh
    rw [mAh_off h h2 n]
    unfold mPar
    rw [mC_off h h2]
theorem mPar_off {X X1 : Nat → Int → Int} {i : Nat} (h : X1 (i + 7) = X (i + 7)) (h2 : X1 i = X i) (k : Int) : mPar X1 i k = mPar X i k := by
  unfold mPar
  rw [mC_off h h2]
theorem mTim_off {X X1 : Nat → Int → Int} {i : Nat} (h : X1 (i + 7) = X (i + 7)) (h2 : X1 i = X i) (k : Int) : mTim X1 i k = mTim X i k := by
  unfold mTim
  rw [mC_off h h2]
/-- one work by the ones ahead -/
theorem mWk_eq {X X1 Y1 : Nat → Int → Int} {i n q : Nat} (oX : ∀ a, a ≠ i + 13 → X1 a = X a) (hG : oG X i) (hB : oB X i n) (hT : oT X i n) (h1 : 1 ≤ q) (h2 : q ≤ n) (hh : X1 (i + 13) q = sHg (rP X i) q) (hw : Y1 (i + 14) (rP X i q) = rW X i (rP X i q)) :
    mWkP X1 Y1 i q ∧ mWk X1 Y1 i q = rW X i q := by
  have hP := rP_par hB
  have hp := hP q h1 h2
  have hn := hB.2.1
  have o7 : X1 (i + 7) = X (i + 7) := oX _ (by omega)
  have o0 : X1 i = X i := oX _ (by omega)
  have o6 : X1 (i + 6) = X (i + 6) := oX _ (by omega)
  have ep : mPar X1 i q = rP X i q := by rw [mPar_off o7 o0, rP_c hB h1 h2]
  obtain ⟨hN, hst, hg, hs⟩ := hG
  have hw14 := sWk_14 (T := rT X i) (tgt := mG X i 1) (st := (X i 30).toNat) hP (by omega) hs.1 hs.2 (rP X i q) (by omega)
  have hH := sHg_s hp
  have hHl := sHg_le hP (rP X i q) (by omega)
  have em : (X1 (i + 13) q).tmod (X1 i 30) = ((sHg (rP X i) q % (X i 30).toNat : Nat) : Int) := by
    rw [hh, o0]
    obtain ⟨st, hst2⟩ : ∃ st : Nat, X i 30 = st := ⟨(X i 30).toNat, by omega⟩
    rw [hst2, Int.toNat_natCast]
    exact (Int.ofNat_tmod _ _).symm
  have hge : (X1 (i + 13) q).tmod (X1 i 30) = 0 → (X i 30).toNat - 1 ≤ sHg (rP X i) (rP X i q) := by
    rw [em]
    intro h0
    have h3 : sHg (rP X i) q % (X i 30).toNat = 0 := by omega
    have h4 := Nat.le_of_dvd (by omega) (Nat.dvd_of_mod_eq_zero h3)
    omega
  have ea : mAh X1 i (mPar X1 i q) (X1 i 30 - 1).toNat = aN (rP X i) (rP X i q) ((X i 30).toNat - 1) := by
    rw [ep, mAh_off o7 o0, mAh_aN hB (by omega), o0]
    congr 1
    omega
  refine ⟨⟨⟨n, oB_off o7 o0 hB, fun k k1 k2 => by rw [mC_off o7 o0]; exact hT k k1 k2, by omega⟩, by omega, by show 0 ≤ X1 i 24 ∧ X1 i 24 ≤ 1; rw [o0]; exact hN, by rw [o0]; exact hst, by rw [mG_off o6 o0]; exact hg, by rw [ep, hw]; exact hw14, fun h0 => ?_⟩, ?_⟩
  · rw [ea]
    exact (aN_h hP (by omega) _ (hge h0)).1
  · unfold mWk
    show _ = sWk _ _ _ _ _ q
    unfold sWk
    rw [pr_s hp]
    show _ = if sHg (rP X i) q % (X i 30).toNat ≠ 0 then rW X i (rP X i q) else sStep (rW X i (rP X i q)) (mG X i 1) (rT X i (rP X i q) - rT X i (aN (rP X i) (rP X i q) ((X i 30).toNat - 1)).toNat)
    by_cases h0 : sHg (rP X i) q % (X i 30).toNat = 0
    · have h00 : (X1 (i + 13) q).tmod (X1 i 30) = 0 := by rw [em, h0]; rfl
      have hq0 := (aN_h hP (k := rP X i q) (by omega) _ (hge h00)).1
      rw [if_neg (by omega), if_neg (by omega), ea, ep, hw, mG_off o6 o0, mTim_off o7 o0, mTim_off o7 o0]
      unfold rT
      rw [Int.toNat_of_nonneg hq0]
    · rw [if_pos (by rw [em]; omega), if_pos h0, ep, hw]
abbrev cX11_layWorks : ByteArray := prog_13_method_47_code
def yX11_layWorks : MethodName := ⟨RX11, "layWorks", "()V"⟩
theorem dX11_layWorks_0 : decode cX11_layWorks 0 = .ok (.aload_n 0, 1) := by decide +kernel
theorem dX11_layWorks_1 : decode cX11_layWorks 1 = .ok (.getfield 47, 3) := by decide +kernel
theorem dX11_layWorks_4 : decode cX11_layWorks 4 = .ok (.iconst 0, 1) := by decide +kernel
theorem dX11_layWorks_5 : decode cX11_layWorks 5 = .ok (.iconst 0, 1) := by decide +kernel
theorem dX11_layWorks_6 : decode cX11_layWorks 6 = .ok (.iastore, 1) := by decide +kernel
theorem dX11_layWorks_7 : decode cX11_layWorks 7 = .ok (.aload_n 0, 1) := by decide +kernel
theorem dX11_layWorks_8 : decode cX11_layWorks 8 = .ok (.getfield 50, 3) := by decide +kernel
theorem dX11_layWorks_11 : decode cX11_layWorks 11 = .ok (.iconst 0, 1) := by decide +kernel
theorem dX11_layWorks_12 : decode cX11_layWorks 12 = .ok (.aload_n 0, 1) := by decide +kernel
theorem dX11_layWorks_13 : decode cX11_layWorks 13 = .ok (.iconst 2, 1) := by decide +kernel
theorem dX11_layWorks_14 : decode cX11_layWorks 14 = .ok (.invokevirtual 280, 3) := by decide +kernel
theorem dX11_layWorks_17 : decode cX11_layWorks 17 = .ok (.i2l, 1) := by decide +kernel
theorem dX11_layWorks_18 : decode cX11_layWorks 18 = .ok (.lastore, 1) := by decide +kernel
theorem dX11_layWorks_19 : decode cX11_layWorks 19 = .ok (.aload_n 0, 1) := by decide +kernel
theorem dX11_layWorks_20 : decode cX11_layWorks 20 = .ok (.getfield 54, 3) := by decide +kernel
theorem dX11_layWorks_23 : decode cX11_layWorks 23 = .ok (.iconst 0, 1) := by decide +kernel
theorem dX11_layWorks_24 : decode cX11_layWorks 24 = .ok (.aload_n 0, 1) := by decide +kernel
theorem dX11_layWorks_25 : decode cX11_layWorks 25 = .ok (.getfield 50, 3) := by decide +kernel
theorem dX11_layWorks_28 : decode cX11_layWorks 28 = .ok (.iconst 0, 1) := by decide +kernel
theorem dX11_layWorks_29 : decode cX11_layWorks 29 = .ok (.laload, 1) := by decide +kernel
theorem dX11_layWorks_30 : decode cX11_layWorks 30 = .ok (.lastore, 1) := by decide +kernel
theorem dX11_layWorks_31 : decode cX11_layWorks 31 = .ok (.iconst 1, 1) := by decide +kernel
theorem dX11_layWorks_32 : decode cX11_layWorks 32 = .ok (.istore_n 1, 1) := by decide +kernel
theorem dX11_layWorks_33 : decode cX11_layWorks 33 = .ok (.iload_n 1, 1) := by decide +kernel
theorem dX11_layWorks_34 : decode cX11_layWorks 34 = .ok (.aload_n 0, 1) := by decide +kernel
theorem dX11_layWorks_35 : decode cX11_layWorks 35 = .ok (.getfield 255, 3) := by decide +kernel
theorem dX11_layWorks_38 : decode cX11_layWorks 38 = .ok (.if_icmp .ge 59, 3) := by decide +kernel
theorem dX11_layWorks_41 : decode cX11_layWorks 41 = .ok (.aload_n 0, 1) := by decide +kernel
theorem dX11_layWorks_42 : decode cX11_layWorks 42 = .ok (.iload_n 1, 1) := by decide +kernel
theorem dX11_layWorks_43 : decode cX11_layWorks 43 = .ok (.invokevirtual 264, 3) := by decide +kernel
theorem dX11_layWorks_46 : decode cX11_layWorks 46 = .ok (.istore_n 2, 1) := by decide +kernel
theorem dX11_layWorks_47 : decode cX11_layWorks 47 = .ok (.aload_n 0, 1) := by decide +kernel
theorem dX11_layWorks_48 : decode cX11_layWorks 48 = .ok (.getfield 47, 3) := by decide +kernel
theorem dX11_layWorks_51 : decode cX11_layWorks 51 = .ok (.iload_n 1, 1) := by decide +kernel
theorem dX11_layWorks_52 : decode cX11_layWorks 52 = .ok (.aload_n 0, 1) := by decide +kernel
theorem dX11_layWorks_53 : decode cX11_layWorks 53 = .ok (.getfield 47, 3) := by decide +kernel
theorem dX11_layWorks_56 : decode cX11_layWorks 56 = .ok (.iload_n 2, 1) := by decide +kernel
theorem dX11_layWorks_57 : decode cX11_layWorks 57 = .ok (.iaload, 1) := by decide +kernel
theorem dX11_layWorks_58 : decode cX11_layWorks 58 = .ok (.iconst 1, 1) := by decide +kernel
theorem dX11_layWorks_59 : decode cX11_layWorks 59 = .ok (.iadd, 1) := by decide +kernel
theorem dX11_layWorks_60 : decode cX11_layWorks 60 = .ok (.iastore, 1) := by decide +kernel
theorem dX11_layWorks_61 : decode cX11_layWorks 61 = .ok (.aload_n 0, 1) := by decide +kernel
theorem dX11_layWorks_62 : decode cX11_layWorks 62 = .ok (.getfield 50, 3) := by decide +kernel
theorem dX11_layWorks_65 : decode cX11_layWorks 65 = .ok (.iload_n 1, 1) := by decide +kernel
theorem dX11_layWorks_66 : decode cX11_layWorks 66 = .ok (.aload_n 0, 1) := by decide +kernel
theorem dX11_layWorks_67 : decode cX11_layWorks 67 = .ok (.iload_n 1, 1) := by decide +kernel
theorem dX11_layWorks_68 : decode cX11_layWorks 68 = .ok (.invokevirtual 285, 3) := by decide +kernel
theorem dX11_layWorks_71 : decode cX11_layWorks 71 = .ok (.lastore, 1) := by decide +kernel
theorem dX11_layWorks_72 : decode cX11_layWorks 72 = .ok (.aload_n 0, 1) := by decide +kernel
theorem dX11_layWorks_73 : decode cX11_layWorks 73 = .ok (.getfield 54, 3) := by decide +kernel
theorem dX11_layWorks_76 : decode cX11_layWorks 76 = .ok (.iload_n 1, 1) := by decide +kernel
theorem dX11_layWorks_77 : decode cX11_layWorks 77 = .ok (.aload_n 0, 1) := by decide +kernel
theorem dX11_layWorks_78 : decode cX11_layWorks 78 = .ok (.getfield 54, 3) := by decide +kernel
theorem dX11_layWorks_81 : decode cX11_layWorks 81 = .ok (.iload_n 2, 1) := by decide +kernel
theorem dX11_layWorks_82 : decode cX11_layWorks 82 = .ok (.laload, 1) := by decide +kernel
theorem dX11_layWorks_83 : decode cX11_layWorks 83 = .ok (.aload_n 0, 1) := by decide +kernel
theorem dX11_layWorks_84 : decode cX11_layWorks 84 = .ok (.getfield 50, 3) := by decide +kernel
theorem dX11_layWorks_87 : decode cX11_layWorks 87 = .ok (.iload_n 1, 1) := by decide +kernel
theorem dX11_layWorks_88 : decode cX11_layWorks 88 = .ok (.laload, 1) := by decide +kernel
theorem dX11_layWorks_89 : decode cX11_layWorks 89 = .ok (.ladd, 1) := by decide +kernel
theorem dX11_layWorks_90 : decode cX11_layWorks 90 = .ok (.lastore, 1) := by decide +kernel
theorem dX11_layWorks_91 : decode cX11_layWorks 91 = .ok (.iinc 1 1, 3) := by decide +kernel
theorem dX11_layWorks_94 : decode cX11_layWorks 94 = .ok (.goto (-61), 3) := by decide +kernel
theorem dX11_layWorks_97 : decode cX11_layWorks 97 = .ok (.return_, 1) := by decide +kernel
theorem q_1320 : Cond.fieldLink RX11 54 RX11 "weight" "[J" ∈ zTB := zmem 1320 (by decide +kernel) rfl
theorem q_1681 : Cond.methodLink RX11 285 yX11_workOf ∈ zTB := zmem 1681 (by decide +kernel) rfl
theorem q_1683 : Cond.instanceMethod yX11_workOf ∈ zTB := zmem 1683 (by decide +kernel) rfl
theorem q_69 : Cond.selects RX11 yX11_workOf yX11_workOf ∈ zTB := zmem 69 (by decide +kernel) rfl
theorem q_1684 : Cond.code yX11_workOf cX11_workOf 10 (some .long) ∈ zTB := zmem 1684 (by decide +kernel) rfl
theorem k_RX11_285 : zLv RX11 285 RX11 yX11_workOf cX11_workOf 10 (some .long) 1 := ⟨⟨q_1681, q_1683, q_69, q_140, q_1684⟩, rfl, ⟨by decide, by decide⟩, by decide +kernel⟩
def F_X11_layWorks (i : Nat) (X Y : Nat → Int → Int) (R : Nat → Int → Option Nat)  : Prop := (∀ i j, rI (X i j)) → (∀ i j, rL (Y i j)) → ∀ X1 : Nat → Int → Int, X1 = zU X (i + 13) (0) (0) → (∀ i j, rI (X1 i j)) → ((oN X1 i ∧ 0 ≤ (2 : Int) ∧ (2 : Int) ≤ 12) ∧ (rI (mG X1 i ((2 : Int))) → (∀ Y4 : Nat → Int → Int, Y4 = zU Y (i + 14) (0) (mG X1 i ((2 : Int))) → (∀ i j, rL (Y4 i j)) → (∀ Y5 : Nat → Int → Int, Y5 = zU Y4 (i + 15) (0) (Y4 (i + 14) (0)) → (∀ i j, rL (Y5 i j)) → ((∃ q : Nat, (1 : Int) = q ∧ 1 ≤ q ∧ (1 : Int) ≤ X i 27 ∧ lW X Y X1 Y5 i q) ∧ (∀ (k : Int) (X7 : Nat → Int → Int) (Y8 : Nat → Int → Int), rI k → (∀ i j, rI (X7 i j)) → (∀ i j, rL (Y8 i j)) → (∃ q : Nat, k = q ∧ 1 ≤ q ∧ k ≤ X i 27 ∧ lW X Y X7 Y8 i q) → ((((X7 (i) 27) ≤ k) → (lW X Y (X7) (Y8) i (X i 27).toNat)) ∧ ((¬ ((X7 (i) 27) ≤ k)) → ((oC X7 i ∧ 0 ≤ k ∧ k ≤ 14) ∧ (rI (mPar X7 i (k)) → ((0 ≤ (mPar X7 i (k)) ∧ (mPar X7 i (k)) < 15) ∧ ((0 ≤ k ∧ k < 15) ∧ ((rI ((X7 (i + 13) (mPar X7 i (k))) + 1)) ∧ (∀ X15 : Nat → Int → Int, X15 = zU X7 (i + 13) (k) ((X7 (i + 13) (mPar X7 i (k))) + 1) → (∀ i j, rI (X15 i j)) → ((mWkP X15 Y8 i (k)) ∧ (rL (mWk X15 Y8 i (k)) → ((0 ≤ k ∧ k < 15) ∧ (∀ Y19 : Nat → Int → Int, Y19 = zU Y8 (i + 14) (k) (mWk X15 Y8 i (k)) → (∀ i j, rL (Y19 i j)) → ((0 ≤ (mPar X7 i (k)) ∧ (mPar X7 i (k)) < 15) ∧ ((0 ≤ k ∧ k < 15) ∧ ((0 ≤ k ∧ k < 15) ∧ ((rL ((Y19 (i + 15) (mPar X7 i (k))) + (Y19 (i + 14) (k)))) ∧ (∀ Y24 : Nat → Int → Int, Y24 = zU Y19 (i + 15) (k) ((Y19 (i + 15) (mPar X7 i (k))) + (Y19 (i + 14) (k))) → (∀ i j, rL (Y24 i j)) → ((rI (k + 1)) ∧ (∃ q : Nat, k + 1 = q ∧ 1 ≤ q ∧ k + 1 ≤ X i 27 ∧ lW X Y X15 Y24 i q) ∧ (((X i 27 - (k + 1)).toNat) < ((X i 27 - (k)).toNat))))))))))))))))))))))))))
set_option maxHeartbeats 4000000 in
set_option maxRecDepth 100000 in
theorem w_X11_layWorks {l : Launch} {D : va_G} {cy : Nat → ClassId} {bs N : Nat} {sa : Nat → Nat} {kd len : Nat → Nat} {X Y : Nat → Int → Int} {R : Nat → Int → Option Nat} {i : Nat} (hM : zM N kd len R i)  (hF : F_X11_layWorks i X Y R ) : Met l yX11_layWorks (.code yX11_layWorks cX11_layWorks 3 none :: zTB) (zRm 4 96) (zPc D cy bs sa N kd len X Y R [.ref (bs + (i))]) (zQv D cy bs N kd len (fun st => st.2.2 = R ∧ (lW X Y (st.1) (st.2.1) i (X i 27).toNat))) 0 0 (zA bs) := by
  refine zstart (by decide) (Nat.le_of_ble_eq_true rfl) ?_
  intro p e s m args below meth c ls C hE hH hr hlk hnm hl hargs
  have hF := hF hH.2.2.1 hH.2.2.2
  have hS : va_S (zA bs) s.heap s.heap [] := va_S.rf
  have hl : lv_has ls 3 [(0, .ref (bs + (i)))] := hl
  refine lv_aload_n C.1 C.2.1 dX11_layWorks_0 rfl (lv_at hl 0 rfl) ?_
  refine zg11_31 C hH (zM_n0 hM) (zM_k0 hM) q_1318 (zM_r13 hM) dX11_layWorks_1 ?_
  refine zd_iconst C dX11_layWorks_4 ?_
  refine zd_iconst C dX11_layWorks_5 ?_
  refine zd_iast C hH hS (zM_n13 hM) (zM_k13 hM) (by decide) (by rw [zM_l13 hM]; decide) (by rw [zM_l13 hM]; decide) (by decide) dX11_layWorks_6 (fun H locs hH hS => ?_)
  obtain ⟨X1, eX1⟩ : ∃ z, z = zU X (i + 13) (0) (0) := ⟨_, rfl⟩
  rw [← eX1] at hH
  have hF := hF X1 eX1 hH.2.2.1
  refine lv_aload_n C.1 C.2.1 dX11_layWorks_7 rfl (lv_at hl 0 rfl) ?_
  refine zg11_32 C hH (zM_n0 hM) (zM_k0 hM) q_1319 (zM_r14 hM) dX11_layWorks_8 ?_
  refine zd_iconst C dX11_layWorks_11 ?_
  refine lv_aload_n C.1 C.2.1 dX11_layWorks_12 rfl (lv_at hl 0 rfl) ?_
  refine zd_iconst C dX11_layWorks_13 ?_
  obtain ⟨o2, hF⟩ := hF
  refine zgoi (zrunV (As := [.int (zI (2))]) (rest := [.int (zI (0)), .ref (bs + (i + 14))]) C hE hH hS hl.1 (c_X11_ofNet (l := l) hM (2) (by decide) o2) k_RX11_280 ⟨Nat.le_of_ble_eq_true rfl, Nat.le_of_ble_eq_true rfl⟩ (zM_n0 hM) (zM_k0 hM) rfl rfl rfl (Nat.le_of_ble_eq_true rfl) dX11_layWorks_14 ⟨Nat.zero_le _, Nat.zero_le _⟩) hS (fun rq Xq Yq Rq H locs hrq hq hH hS => ?_)
  obtain ⟨h91, h92⟩ := hq
  have h93 : Xq = X1 := congrArg (fun z => z.1) h92
  have h94 : Yq = Y := congrArg (fun z => z.2.1) h92
  have h95 : Rq = R := congrArg (fun z => z.2.2) h92
  rw [h93, h94, h95] at hH
  subst h91
  have hr3 := hrq
  have hF := hF hr3
  refine zd_i2l C hr3 dX11_layWorks_17 ?_
  refine zd_last C hH hS (zM_n14 hM) (zM_k14 hM) (by decide) (by rw [zM_l14 hM]; decide) (by rw [zM_l14 hM]; decide) (rI_rL hr3) dX11_layWorks_18 (fun H locs hH hS => ?_)
  obtain ⟨Y4, eY4⟩ : ∃ z, z = zU Y (i + 14) (0) (mG X1 i ((2 : Int))) := ⟨_, rfl⟩
  rw [← eY4] at hH
  have hF := hF Y4 eY4 hH.2.2.2
  refine lv_aload_n C.1 C.2.1 dX11_layWorks_19 rfl (lv_at hl 0 rfl) ?_
  refine zg11_33 C hH (zM_n0 hM) (zM_k0 hM) q_1320 (zM_r15 hM) dX11_layWorks_20 ?_
  refine zd_iconst C dX11_layWorks_23 ?_
  refine lv_aload_n C.1 C.2.1 dX11_layWorks_24 rfl (lv_at hl 0 rfl) ?_
  refine zg11_32 C hH (zM_n0 hM) (zM_k0 hM) q_1319 (zM_r14 hM) dX11_layWorks_25 ?_
  refine zd_iconst C dX11_layWorks_28 ?_
  refine zd_lald C hH (zM_n14 hM) (zM_k14 hM) (by decide) (by rw [zM_l14 hM]; decide) (by rw [zM_l14 hM]; decide) dX11_layWorks_29 ?_
  refine zd_last C hH hS (zM_n15 hM) (zM_k15 hM) (by decide) (by rw [zM_l15 hM]; decide) (by rw [zM_l15 hM]; decide) (hH.2.2.2 _ _) dX11_layWorks_30 (fun H locs hH hS => ?_)
  obtain ⟨Y5, eY5⟩ : ∃ z, z = zU Y4 (i + 15) (0) (Y4 (i + 14) (0)) := ⟨_, rfl⟩
  rw [← eY5] at hH
  have hF := hF Y5 eY5 hH.2.2.2
  refine zd_iconst C dX11_layWorks_31 ?_
  refine lv_istore_n (lv' := [(1, .int (zI (1))), (0, .ref (bs + (i)))]) C.1 C.2.1 dX11_layWorks_32 rfl hl (by decide) rfl (fun ls hl => ?_)
  obtain ⟨hI6, hF⟩ := hF
  have L6 : ∀ (fu : Nat) (k : Int) (X7 : Nat → Int → Int) (Y8 : Nat → Int → Int), rI k → (∃ q : Nat, k = q ∧ 1 ≤ q ∧ k ≤ X i 27 ∧ lW X Y X7 Y8 i q) → ((X i 27 - (k)).toNat) < fu → ∀ (H : Heap) (locs : List Loc) (ls : Array Slot), zH D cy bs N kd len X7 Y8 R H → va_S (zA bs) s.heap H locs → lv_has ls 3 [(1, .int (zI (k))), (0, .ref (bs + (i)))] → W p l e (zRm 4 96) s m args below meth c H locs 0 0 (MQ below (zQv D cy bs N kd len (fun st => st.2.2 = R ∧ (lW X Y (st.1) (st.2.1) i (X i 27).toNat))) args s 0 0 (zA bs)) (F0 m 33 ls []) := by
    intro fu
    induction fu with
    | zero => intro k X7 Y8 _ _ hmu; exact absurd hmu (Nat.not_lt_zero _)
    | succ fu ih6 =>
      intro k X7 Y8 hk hI hmu6 H locs ls hH hS hl
      have hF := hF k X7 Y8 hk hH.2.2.1 hH.2.2.2 hI
      refine lv_iload_n C.1 C.2.1 dX11_layWorks_33 rfl (lv_at hl 0 rfl) ?_
      refine lv_aload_n C.1 C.2.1 dX11_layWorks_34 rfl (lv_at hl 1 rfl) ?_
      refine zg11_27 C hH (zM_n0 hM) (zM_k0 hM) q_1314 dX11_layWorks_35 ?_
      refine zd_icmp_ge C hk (hH.2.2.1 _ _) 97 dX11_layWorks_38 (by decide) (fun c9 => ?_) (fun c9 => ?_)
      · have hF := hF.1 c9
        exact zd_vret C hr hlk hH hS (⟨rfl, hF⟩) dX11_layWorks_97
      · have hF := hF.2 c9
        refine lv_aload_n C.1 C.2.1 dX11_layWorks_41 rfl (lv_at hl 1 rfl) ?_
        refine lv_iload_n C.1 C.2.1 dX11_layWorks_42 rfl (lv_at hl 0 rfl) ?_
        obtain ⟨o10, hF⟩ := hF
        refine zgoi (zrunV (As := [.int (zI (k))]) (rest := []) C hE hH hS hl.1 (c_X11_parentOf (l := l) hM (k) hk o10) k_RX11_264 ⟨Nat.le_of_ble_eq_true rfl, Nat.le_of_ble_eq_true rfl⟩ (zM_n0 hM) (zM_k0 hM) rfl rfl rfl (Nat.le_of_ble_eq_true rfl) dX11_layWorks_43 ⟨Nat.zero_le _, Nat.zero_le _⟩) hS (fun rq Xq Yq Rq H locs hrq hq hH hS => ?_)
        obtain ⟨h91, h92⟩ := hq
        have h93 : Xq = X7 := congrArg (fun z => z.1) h92
        have h94 : Yq = Y8 := congrArg (fun z => z.2.1) h92
        have h95 : Rq = R := congrArg (fun z => z.2.2) h92
        rw [h93, h94, h95] at hH
        subst h91
        have hr11 := hrq
        have hF := hF hr11
        refine lv_istore_n (lv' := [(2, .int (zI (mPar X7 i (k)))), (1, .int (zI (k))), (0, .ref (bs + (i)))]) C.1 C.2.1 dX11_layWorks_46 rfl hl (by decide) rfl (fun ls hl => ?_)
        refine lv_aload_n C.1 C.2.1 dX11_layWorks_47 rfl (lv_at hl 2 rfl) ?_
        refine zg11_31 C hH (zM_n0 hM) (zM_k0 hM) q_1318 (zM_r13 hM) dX11_layWorks_48 ?_
        refine lv_iload_n C.1 C.2.1 dX11_layWorks_51 rfl (lv_at hl 1 rfl) ?_
        refine lv_aload_n C.1 C.2.1 dX11_layWorks_52 rfl (lv_at hl 2 rfl) ?_
        refine zg11_31 C hH (zM_n0 hM) (zM_k0 hM) q_1318 (zM_r13 hM) dX11_layWorks_53 ?_
        refine lv_iload_n C.1 C.2.1 dX11_layWorks_56 rfl (lv_at hl 0 rfl) ?_
        obtain ⟨o12, hF⟩ := hF
        refine zd_iald C hH (zM_n13 hM) (zM_k13 hM) o12.1 (by rw [zM_l13 hM]; exact o12.2) (by rw [zM_l13 hM]; decide) dX11_layWorks_57 ?_
        refine zd_iconst C dX11_layWorks_58 ?_
        refine zd_iadd C dX11_layWorks_59 ?_
        obtain ⟨o13, hF⟩ := hF
        obtain ⟨o14, hF⟩ := hF
        refine zd_iast C hH hS (zM_n13 hM) (zM_k13 hM) o13.1 (by rw [zM_l13 hM]; exact o13.2) (by rw [zM_l13 hM]; decide) o14 dX11_layWorks_60 (fun H locs hH hS => ?_)
        obtain ⟨X15, eX15⟩ : ∃ z, z = zU X7 (i + 13) (k) ((X7 (i + 13) (mPar X7 i (k))) + 1) := ⟨_, rfl⟩
        rw [← eX15] at hH
        have hF := hF X15 eX15 hH.2.2.1
        refine lv_aload_n C.1 C.2.1 dX11_layWorks_61 rfl (lv_at hl 2 rfl) ?_
        refine zg11_32 C hH (zM_n0 hM) (zM_k0 hM) q_1319 (zM_r14 hM) dX11_layWorks_62 ?_
        refine lv_iload_n C.1 C.2.1 dX11_layWorks_65 rfl (lv_at hl 1 rfl) ?_
        refine lv_aload_n C.1 C.2.1 dX11_layWorks_66 rfl (lv_at hl 2 rfl) ?_
        refine lv_iload_n C.1 C.2.1 dX11_layWorks_67 rfl (lv_at hl 1 rfl) ?_
        obtain ⟨o16, hF⟩ := hF
        refine zgol (zrunV (As := [.int (zI (k))]) (rest := [.int (zI (k)), .ref (bs + (i + 14))]) C hE hH hS hl.1 (c_X11_workOf (l := l) hM (k) hk o16) k_RX11_285 ⟨Nat.le_of_ble_eq_true rfl, Nat.le_of_ble_eq_true rfl⟩ (zM_n0 hM) (zM_k0 hM) rfl rfl rfl (Nat.le_of_ble_eq_true rfl) dX11_layWorks_68 ⟨Nat.zero_le _, Nat.zero_le _⟩) hS (fun rq Xq Yq Rq H locs hrq hq hH hS => ?_)
        obtain ⟨h91, h92⟩ := hq
        have h93 : Xq = X15 := congrArg (fun z => z.1) h92
        have h94 : Yq = Y8 := congrArg (fun z => z.2.1) h92
        have h95 : Rq = R := congrArg (fun z => z.2.2) h92
        rw [h93, h94, h95] at hH
        subst h91
        have hr17 := hrq
        have hF := hF hr17
        obtain ⟨o18, hF⟩ := hF
        refine zd_last C hH hS (zM_n14 hM) (zM_k14 hM) o18.1 (by rw [zM_l14 hM]; exact o18.2) (by rw [zM_l14 hM]; decide) hr17 dX11_layWorks_71 (fun H locs hH hS => ?_)
        obtain ⟨Y19, eY19⟩ : ∃ z, z = zU Y8 (i + 14) (k) (mWk X15 Y8 i (k)) := ⟨_, rfl⟩
        rw [← eY19] at hH
        have hF := hF Y19 eY19 hH.2.2.2
        refine lv_aload_n C.1 C.2.1 dX11_layWorks_72 rfl (lv_at hl 2 rfl) ?_
        refine zg11_33 C hH (zM_n0 hM) (zM_k0 hM) q_1320 (zM_r15 hM) dX11_layWorks_73 ?_
        refine lv_iload_n C.1 C.2.1 dX11_layWorks_76 rfl (lv_at hl 1 rfl) ?_
        refine lv_aload_n C.1 C.2.1 dX11_layWorks_77 rfl (lv_at hl 2 rfl) ?_
        refine zg11_33 C hH (zM_n0 hM) (zM_k0 hM) q_1320 (zM_r15 hM) dX11_layWorks_78 ?_
        refine lv_iload_n C.1 C.2.1 dX11_layWorks_81 rfl (lv_at hl 0 rfl) ?_
        obtain ⟨o20, hF⟩ := hF
        refine zd_lald C hH (zM_n15 hM) (zM_k15 hM) o20.1 (by rw [zM_l15 hM]; exact o20.2) (by rw [zM_l15 hM]; decide) dX11_layWorks_82 ?_
        refine lv_aload_n C.1 C.2.1 dX11_layWorks_83 rfl (lv_at hl 2 rfl) ?_
        refine zg11_32 C hH (zM_n0 hM) (zM_k0 hM) q_1319 (zM_r14 hM) dX11_layWorks_84 ?_
        refine lv_iload_n C.1 C.2.1 dX11_layWorks_87 rfl (lv_at hl 1 rfl) ?_
        obtain ⟨o21, hF⟩ := hF
        refine zd_lald C hH (zM_n14 hM) (zM_k14 hM) o21.1 (by rw [zM_l14 hM]; exact o21.2) (by rw [zM_l14 hM]; decide) dX11_layWorks_88 ?_
        refine zd_ladd C dX11_layWorks_89 ?_
        obtain ⟨o22, hF⟩ := hF
        obtain ⟨o23, hF⟩ := hF
        refine zd_last C hH hS (zM_n15 hM) (zM_k15 hM) o22.1 (by rw [zM_l15 hM]; exact o22.2) (by rw [zM_l15 hM]; decide) o23 dX11_layWorks_90 (fun H locs hH hS => ?_)
        obtain ⟨Y24, eY24⟩ : ∃ z, z = zU Y19 (i + 15) (k) ((Y19 (i + 15) (mPar X7 i (k))) + (Y19 (i + 14) (k))) := ⟨_, rfl⟩
        rw [← eY24] at hH
        have hF := hF Y24 eY24 hH.2.2.2
        refine zd_iinc (k := 1) (lv' := [(1, .int (zI (k + 1))), (2, .int (zI (mPar X7 i (k)))), (0, .ref (bs + (i)))]) C hl rfl dX11_layWorks_91 (by decide) rfl (fun ls hl => ?_)
        refine lv_goto (tgt := 33) C.1 C.2.1 dX11_layWorks_94 (by decide) ?_
        obtain ⟨o25, hF⟩ := hF
        exact ih6 (k + 1) X15 Y24 o25 hF.1 (Nat.lt_of_lt_of_le hF.2 (Nat.le_of_lt_succ hmu6)) _ _ _ hH hS (lv_sub hl [0, 2] rfl)
  exact L6 (((X i 27 - ((1 : Int))).toNat) + 1) ((1 : Int)) X1 Y5 (by decide) hI6 (Nat.lt_succ_self _) _ _ _ hH hS (lv_sub hl [0, 1] rfl)
theorem v_X11_layWorks {X Y : Nat → Int → Int} {R : Nat → Int → Option Nat} {i : Nat}  (hp : oG X i ∧ 1 ≤ X i 27 ∧ oB X i (X i 27 - 1) ∧ oT X i (X i 27 - 1)) : F_X11_layWorks i X Y R  := by
  unfold F_X11_layWorks
  intro hX hY X1 e1 r1
  obtain ⟨hG, hb1, hB, hT⟩ := hp
  obtain ⟨n, hn⟩ : ∃ n : Nat, X i 27 - 1 = n := ⟨(X i 27 - 1).toNat, by omega⟩
  rw [hn] at hB hT
  have hn14 := hB.2.1
  have o1 : ∀ a, a ≠ i + 13 → X1 a = X a := fun a ha => by rw [e1]; exact zU_o ha
  have o0 : X1 i = X i := o1 _ (by omega)
  refine ⟨⟨by show 0 ≤ X1 i 24 ∧ X1 i 24 ≤ 1; rw [o0]; exact hG.1, by decide, by decide⟩, fun rg Y4 e4 r4 Y5 e5 r5 => ⟨⟨1, rfl, by decide, by omega, o1, fun a h1 h2 => by rw [e5, zU_o h2, e4, zU_o h1], fun j hj => ?_⟩, ?_⟩⟩
  · have e : j = 0 := by omega
    subst e
    have g2 : mG X1 i 2 = mG X i 2 := mG_off (o1 _ (by omega)) o0 2
    refine ⟨?_, ?_, ?_⟩
    · rw [e1, sHg_0]
      exact zU_s
    · rw [e5, zU_o (by omega), e4]
      show zU Y (i + 14) 0 _ (i + 14) 0 = sWk _ _ _ _ _ 0
      rw [zU_s, g2]
      exact pr_0.symm
    · rw [e5]
      show zU Y4 (i + 15) 0 _ (i + 15) 0 = sWg _ _ _ _ _ 0
      rw [zU_s, e4, zU_s, g2]
      exact pr_0.symm
  · rintro k X7 Y8 rk rX7 rY8 ⟨q, rfl, hq1, hq2, oX, oY, hj⟩
    have p0 : X7 i = X i := oX _ (by omega)
    have p7 : X7 (i + 7) = X (i + 7) := oX _ (by omega)
    rw [p0]
    refine ⟨fun h => ?_, fun h => ?_⟩
    · rw [show (X i 27).toNat = q by omega]
      exact ⟨oX, oY, hj⟩
    · have hP := rP_par hB
      have hp := hP q hq1 (by omega)
      have ep : mPar X7 i q = rP X i q := by rw [mPar_off p7 p0, rP_c hB hq1 (by omega)]
      rw [ep]
      obtain ⟨j1, j2, j3⟩ := hj (rP X i q) hp
      have hHl := sHg_le hP (rP X i q) (by omega)
      rw [j1]
      refine ⟨⟨by show 0 ≤ X7 i 25 ∧ X7 i 25 ≤ 1; rw [p0]; exact hB.1, by omega, by omega⟩, fun rr => ⟨⟨by omega, by omega⟩, ⟨by omega, by omega⟩, ⟨by omega, by omega⟩, fun X15 e15 r15 => ?_⟩⟩
      have o15 : ∀ a, a ≠ i + 13 → X15 a = X a := fun a ha => by rw [e15, zU_o ha]; exact oX a ha
      have h15 : X15 (i + 13) q = sHg (rP X i) q := by
        rw [e15, zU_s, sHg_s hp]
        omega
      obtain ⟨w1, w2⟩ := mWk_eq o15 hG hB hT hq1 (by omega) h15 j2
      have b1 := sWk_14 (T := rT X i) (tgt := mG X i 1) (st := (X i 30).toNat) hP (by omega) hG.2.2.2.1 hG.2.2.2.2 q (by omega)
      have b2 := sWg_14 (T := rT X i) (tgt := mG X i 1) (st := (X i 30).toNat) hP (by omega) hG.2.2.2.1 hG.2.2.2.2 (rP X i q) (by omega)
      rw [w2]
      refine ⟨w1, fun rw9 => ⟨⟨by omega, by omega⟩, fun Y19 e19 r19 => ?_⟩⟩
      have y1 : Y19 (i + 15) (rP X i q) = rG X i (rP X i q) := by rw [e19, zU_o (by omega)]; exact j3
      have y2 : Y19 (i + 14) q = rW X i q := by rw [e19, zU_s]
      rw [y1, y2]
      refine ⟨⟨by omega, by omega⟩, ⟨by omega, by omega⟩, ⟨by omega, by omega⟩, ⟨by show -9223372036854775808 ≤ sWg _ _ _ _ _ _ + sWk _ _ _ _ _ _; omega, by show sWg _ _ _ _ _ _ + sWk _ _ _ _ _ _ ≤ 9223372036854775807; omega⟩, fun Y24 e24 r24 => ⟨⟨by omega, by omega⟩, ⟨q + 1, by omega, by omega, by omega, o15, fun a h1 h2 => by rw [e24, zU_o h2, e19, zU_o h1]; exact oY a h1 h2, fun j hj2 => ?_⟩, by omega⟩⟩
      by_cases e : j = q
      · subst e
        refine ⟨h15, ?_, ?_⟩
        · rw [e24, zU_o (by omega)]
          exact y2
        · rw [e24, zU_s]
          show _ = sWg _ _ _ _ _ j
          unfold sWg
          rw [pr_s hp]
          rfl
      · obtain ⟨a1, a2, a3⟩ := hj j (by omega)
        refine ⟨?_, ?_, ?_⟩
        · rw [e15, zU_n (by omega)]
          exact a1
        · rw [e24, zU_o (by omega), e19, zU_n (by omega)]
          exact a2
        · rw [e24, zU_n (by omega), e19, zU_o (by omega)]
          exact a3
theorem c_X11_layWorks {l : Launch} {D : va_G} {cy : Nat → ClassId} {bs N : Nat} {sa : Nat → Nat} {kd len : Nat → Nat} {X Y : Nat → Int → Int} {R : Nat → Int → Option Nat} {i : Nat} (hM : zM N kd len R i)  (hp : oG X i ∧ 1 ≤ X i 27 ∧ oB X i (X i 27 - 1) ∧ oT X i (X i 27 - 1)) : Met l yX11_layWorks (.code yX11_layWorks cX11_layWorks 3 none :: zTB) (zRm 4 96) (zPc D cy bs sa N kd len X Y R [.ref (bs + (i))]) (zQv D cy bs N kd len (fun st => st.2.2 = R ∧ (lW X Y (st.1) (st.2.1) i (X i 27).toNat))) 0 0 (zA bs) := w_X11_layWorks hM  (v_X11_layWorks  hp)
