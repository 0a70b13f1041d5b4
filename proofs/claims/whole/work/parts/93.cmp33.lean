/-! WHAT IS OWN -/
theorem wy_has {P : Nat → Nat} {k j : Nat} (h : j < 15) : mHas (wyP P k) j = onW P k j := by
  unfold wyP
  exact bS_has _ (by decide) h
theorem onW_me {P : Nat → Nat} {k : Nat} (h : 1 ≤ k → P k < k) : onW P k k = true := by
  by_cases c : k = 0
  · subst c
    rw [onW_0]
    rfl
  · rw [onW_s (h (by omega)), decide_eq_true rfl]
    rfl
theorem sWi_cg {W : Nat → Int} {s t : Int} : ∀ n, (∀ j : Nat, j < n → mHas s j = mHas t j) → sWi W s n = sWi W t n
  | 0, _ => rfl
  | n + 1, h => by
    unfold sWi
    rw [h n (by omega), sWi_cg n (fun j hj => h j (by omega))]
theorem sWi_cut {W : Nat → Int} {s : Int} {k : Nat} : ∀ d, (∀ j : Nat, k ≤ j → j < k + d → mHas s j = false) → sWi W s (k + d) = sWi W s k
  | 0, _ => rfl
  | d + 1, h => by
    show sWi W s (k + d + 1) = _
    unfold sWi
    rw [h (k + d) (by omega) (by omega), sWi_cut d (fun j h1 h2 => h j h1 (by omega))]
    cases k <;> simp [sWi]
theorem swA_i {W : Nat → Int} {s : Int} (h0 : mHas s 0 = false) : ∀ n, swA W s n = sWi W s n
  | 0 => rfl
  | n + 1 => by
    unfold swA sWi
    rw [swA_i h0 n]
    by_cases c : n = 0
    · subst c
      have h0 : mHas s ((0 : Nat) : Int) = false := h0
      rw [h0]
      simp
    · rw [decide_eq_true (show 1 ≤ n by omega), Bool.true_and]
theorem sWi_wy {P : Nat → Nat} {W G : Nat → Int} {m : Nat} (hm : m ≤ 15) (hP : ∀ k, 1 ≤ k → k < m → P k < k) (hG : ∀ k, 1 ≤ k → k < m → G k = G (P k) + W k) : ∀ (d k : Nat), k ≤ d → k < m → sWi W (wyP P k) (k + 1) = G k - G 0
  | d, k, hd, hk => by
    by_cases c : k = 0
    · subst c
      unfold sWi sWi
      simp
    · cases d with
      | zero => omega
      | succ d =>
        have hp := hP k (by omega) hk
        have ih := sWi_wy hm hP hG d (P k) (by omega) (by omega)
        have hw : mHas (wyP P k) k = true := wyP_me hp (by omega)
        unfold sWi
        rw [hw, decide_eq_true (show 1 ≤ k by omega), hG k (by omega) hk, sWi_cg (t := wyP P (P k)) k (fun j hj => by rw [wy_has (by omega), wy_has (by omega), onW_s hp, decide_eq_false (show ¬ j = k by omega), Bool.false_or])]
        obtain ⟨z, hz⟩ : ∃ z, k = P k + 1 + z := ⟨k - (P k + 1), by omega⟩
        have hs : sWi W (wyP P (P k)) k = sWi W (wyP P (P k)) (P k + 1) := by
          have := sWi_cut (W := W) (s := wyP P (P k)) (k := P k + 1) z (fun j h1 h2 => by
            rw [wy_has (by omega)]
            cases e : onW P (P k) j
            · rfl
            · exact absurd (onW_le (n := m - 1) (fun a a1 a2 => hP a a1 (by omega)) (P k) (by omega) j e) (by omega))
          rw [← hz] at this
          exact this
        rw [hs, ih]
        simp
        omega
theorem sWi_wyn {P : Nat → Nat} {W G : Nat → Int} {m : Nat} (hm : m ≤ 15) (hP : ∀ k, 1 ≤ k → k < m → P k < k) (hG : ∀ k, 1 ≤ k → k < m → G k = G (P k) + W k) {k : Nat} (hk : k < m) : sWi W (wyP P k) m = G k - G 0 := by
  obtain ⟨z, hz⟩ : ∃ z, m = k + 1 + z := ⟨m - (k + 1), by omega⟩
  have := sWi_cut (W := W) (s := wyP P k) (k := k + 1) z (fun j h1 h2 => by
    rw [wy_has (by omega)]
    cases e : onW P k j
    · rfl
    · exact absurd (onW_le (n := m - 1) (fun a a1 a2 => hP a a1 (by omega)) k (by omega) j e) (by omega))
  rw [← hz] at this
  rw [this]
  exact sWi_wy hm hP hG k k (Nat.le_refl _) hk
theorem wyP_one {P : Nat → Nat} {k : Nat} (h : 1 ≤ k → P k < k) (hk : k < 15) : wyP P k = 1 ↔ k = 0 := by
  constructor
  · intro e
    by_cases c : k = 0
    · exact c
    · have := wyP_me (P := P) (h (by omega)) hk
      rw [e] at this
      exact absurd (mHas_1 k hk this) c
  · intro e
    subst e
    exact wyP_0
abbrev cX10_own : ByteArray := prog_1_method_29_code
def yX10_own : MethodName := ⟨RX10, "own", "(IIII)J"⟩
theorem dX10_own_0 : decode cX10_own 0 = .ok (.aload_n 0, 1) := by decide +kernel
theorem dX10_own_1 : decode cX10_own 1 = .ok (.iload_n 1, 1) := by decide +kernel
theorem dX10_own_2 : decode cX10_own 2 = .ok (.iload_n 2, 1) := by decide +kernel
theorem dX10_own_3 : decode cX10_own 3 = .ok (.iload_n 3, 1) := by decide +kernel
theorem dX10_own_4 : decode cX10_own 4 = .ok (.invokevirtual 326, 3) := by decide +kernel
theorem dX10_own_7 : decode cX10_own 7 = .ok (.ifCond .ne 7, 3) := by decide +kernel
theorem dX10_own_10 : decode cX10_own 10 = .ok (.ldc2_w 329, 3) := by decide +kernel
theorem dX10_own_13 : decode cX10_own 13 = .ok (.lreturn, 1) := by decide +kernel
theorem dX10_own_14 : decode cX10_own 14 = .ok (.aload_n 0, 1) := by decide +kernel
theorem dX10_own_15 : decode cX10_own 15 = .ok (.getfield 34, 3) := by decide +kernel
theorem dX10_own_18 : decode cX10_own 18 = .ok (.aload_n 0, 1) := by decide +kernel
theorem dX10_own_19 : decode cX10_own 19 = .ok (.getfield 34, 3) := by decide +kernel
theorem dX10_own_22 : decode cX10_own 22 = .ok (.getfield 302, 3) := by decide +kernel
theorem dX10_own_25 : decode cX10_own 25 = .ok (.invokevirtual 305, 3) := by decide +kernel
theorem dX10_own_28 : decode cX10_own 28 = .ok (.istore 5, 2) := by decide +kernel
theorem dX10_own_30 : decode cX10_own 30 = .ok (.aload_n 0, 1) := by decide +kernel
theorem dX10_own_31 : decode cX10_own 31 = .ok (.getfield 34, 3) := by decide +kernel
theorem dX10_own_34 : decode cX10_own 34 = .ok (.iload_n 3, 1) := by decide +kernel
theorem dX10_own_35 : decode cX10_own 35 = .ok (.invokevirtual 331, 3) := by decide +kernel
theorem dX10_own_38 : decode cX10_own 38 = .ok (.istore 6, 2) := by decide +kernel
theorem dX10_own_40 : decode cX10_own 40 = .ok (.aload_n 0, 1) := by decide +kernel
theorem dX10_own_41 : decode cX10_own 41 = .ok (.getfield 34, 3) := by decide +kernel
theorem dX10_own_44 : decode cX10_own 44 = .ok (.getfield 292, 3) := by decide +kernel
theorem dX10_own_47 : decode cX10_own 47 = .ok (.iload 5, 2) := by decide +kernel
theorem dX10_own_49 : decode cX10_own 49 = .ok (.laload, 1) := by decide +kernel
theorem dX10_own_50 : decode cX10_own 50 = .ok (.aload_n 0, 1) := by decide +kernel
theorem dX10_own_51 : decode cX10_own 51 = .ok (.getfield 34, 3) := by decide +kernel
theorem dX10_own_54 : decode cX10_own 54 = .ok (.getfield 292, 3) := by decide +kernel
theorem dX10_own_57 : decode cX10_own 57 = .ok (.iconst 0, 1) := by decide +kernel
theorem dX10_own_58 : decode cX10_own 58 = .ok (.laload, 1) := by decide +kernel
theorem dX10_own_59 : decode cX10_own 59 = .ok (.lsub, 1) := by decide +kernel
theorem dX10_own_60 : decode cX10_own 60 = .ok (.lstore 7, 2) := by decide +kernel
theorem dX10_own_62 : decode cX10_own 62 = .ok (.aload_n 0, 1) := by decide +kernel
theorem dX10_own_63 : decode cX10_own 63 = .ok (.getfield 34, 3) := by decide +kernel
theorem dX10_own_66 : decode cX10_own 66 = .ok (.aload_n 0, 1) := by decide +kernel
theorem dX10_own_67 : decode cX10_own 67 = .ok (.getfield 34, 3) := by decide +kernel
theorem dX10_own_70 : decode cX10_own 70 = .ok (.getfield 334, 3) := by decide +kernel
theorem dX10_own_73 : decode cX10_own 73 = .ok (.iload 5, 2) := by decide +kernel
theorem dX10_own_75 : decode cX10_own 75 = .ok (.iaload, 1) := by decide +kernel
theorem dX10_own_76 : decode cX10_own 76 = .ok (.iload 6, 2) := by decide +kernel
theorem dX10_own_78 : decode cX10_own 78 = .ok (.iand, 1) := by decide +kernel
theorem dX10_own_79 : decode cX10_own 79 = .ok (.invokevirtual 337, 3) := by decide +kernel
theorem dX10_own_82 : decode cX10_own 82 = .ok (.lstore 9, 2) := by decide +kernel
theorem dX10_own_84 : decode cX10_own 84 = .ok (.iload 4, 2) := by decide +kernel
theorem dX10_own_86 : decode cX10_own 86 = .ok (.tableswitch 106 0 3 #[30, 48, 66, 86], 30) := by decide +kernel
theorem dX10_own_116 : decode cX10_own 116 = .ok (.aload_n 0, 1) := by decide +kernel
theorem dX10_own_117 : decode cX10_own 117 = .ok (.getfield 34, 3) := by decide +kernel
theorem dX10_own_120 : decode cX10_own 120 = .ok (.aload_n 0, 1) := by decide +kernel
theorem dX10_own_121 : decode cX10_own 121 = .ok (.getfield 34, 3) := by decide +kernel
theorem dX10_own_124 : decode cX10_own 124 = .ok (.iload 6, 2) := by decide +kernel
theorem dX10_own_126 : decode cX10_own 126 = .ok (.invokevirtual 323, 3) := by decide +kernel
theorem dX10_own_129 : decode cX10_own 129 = .ok (.invokevirtual 305, 3) := by decide +kernel
theorem dX10_own_132 : decode cX10_own 132 = .ok (.i2l, 1) := by decide +kernel
theorem dX10_own_133 : decode cX10_own 133 = .ok (.lreturn, 1) := by decide +kernel
theorem dX10_own_134 : decode cX10_own 134 = .ok (.aload_n 0, 1) := by decide +kernel
theorem dX10_own_135 : decode cX10_own 135 = .ok (.getfield 34, 3) := by decide +kernel
theorem dX10_own_138 : decode cX10_own 138 = .ok (.getfield 334, 3) := by decide +kernel
theorem dX10_own_141 : decode cX10_own 141 = .ok (.iload 5, 2) := by decide +kernel
theorem dX10_own_143 : decode cX10_own 143 = .ok (.iaload, 1) := by decide +kernel
theorem dX10_own_144 : decode cX10_own 144 = .ok (.iload 6, 2) := by decide +kernel
theorem dX10_own_146 : decode cX10_own 146 = .ok (.iand, 1) := by decide +kernel
theorem dX10_own_147 : decode cX10_own 147 = .ok (.invokestatic 317, 3) := by decide +kernel
theorem dX10_own_150 : decode cX10_own 150 = .ok (.i2l, 1) := by decide +kernel
theorem dX10_own_151 : decode cX10_own 151 = .ok (.lreturn, 1) := by decide +kernel
theorem dX10_own_152 : decode cX10_own 152 = .ok (.iload 5, 2) := by decide +kernel
theorem dX10_own_154 : decode cX10_own 154 = .ok (.ifCond .ne 9, 3) := by decide +kernel
theorem dX10_own_157 : decode cX10_own 157 = .ok (.ldc2_w 286, 3) := by decide +kernel
theorem dX10_own_160 : decode cX10_own 160 = .ok (.goto 11, 3) := by decide +kernel
theorem dX10_own_163 : decode cX10_own 163 = .ok (.lload 9, 2) := by decide +kernel
theorem dX10_own_165 : decode cX10_own 165 = .ok (.lload 7, 2) := by decide +kernel
theorem dX10_own_167 : decode cX10_own 167 = .ok (.iconst 0, 1) := by decide +kernel
theorem dX10_own_168 : decode cX10_own 168 = .ok (.invokestatic 340, 3) := by decide +kernel
theorem dX10_own_171 : decode cX10_own 171 = .ok (.lreturn, 1) := by decide +kernel
theorem dX10_own_172 : decode cX10_own 172 = .ok (.iload 5, 2) := by decide +kernel
theorem dX10_own_174 : decode cX10_own 174 = .ok (.ifCond .ne 9, 3) := by decide +kernel
theorem dX10_own_177 : decode cX10_own 177 = .ok (.ldc2_w 286, 3) := by decide +kernel
theorem dX10_own_180 : decode cX10_own 180 = .ok (.goto 11, 3) := by decide +kernel
theorem dX10_own_183 : decode cX10_own 183 = .ok (.lload 9, 2) := by decide +kernel
theorem dX10_own_185 : decode cX10_own 185 = .ok (.lload 7, 2) := by decide +kernel
theorem dX10_own_187 : decode cX10_own 187 = .ok (.iconst 1, 1) := by decide +kernel
theorem dX10_own_188 : decode cX10_own 188 = .ok (.invokestatic 340, 3) := by decide +kernel
theorem dX10_own_191 : decode cX10_own 191 = .ok (.lreturn, 1) := by decide +kernel
theorem dX10_own_192 : decode cX10_own 192 = .ok (.ldc2_w 329, 3) := by decide +kernel
theorem dX10_own_195 : decode cX10_own 195 = .ok (.lreturn, 1) := by decide +kernel
theorem q_1098 : Cond.methodLink RX10 337 yX1_workOf ∈ zTB := zmem 1098 (by decide +kernel) rfl
theorem q_1099 : Cond.instanceMethod yX1_workOf ∈ zTB := zmem 1099 (by decide +kernel) rfl
theorem q_1100 : Cond.selects RX1 yX1_workOf yX1_workOf ∈ zTB := zmem 1100 (by decide +kernel) rfl
theorem q_1101 : Cond.code yX1_workOf cX1_workOf 5 (some .long) ∈ zTB := zmem 1101 (by decide +kernel) rfl
theorem k_RX10_337 : zLv RX10 337 RX1 yX1_workOf cX1_workOf 5 (some .long) 1 := ⟨⟨q_1098, q_1099, q_1100, q_135, q_1101⟩, rfl, ⟨by decide, by decide⟩, by decide +kernel⟩
theorem q_1103 : Cond.static yX10_inLeastTerms ∈ zTB := zmem 1103 (by decide +kernel) rfl
theorem q_1104 : Cond.code yX10_inLeastTerms cX10_inLeastTerms 12 (some .long) ∈ zTB := zmem 1104 (by decide +kernel) rfl
theorem q_1102 : Cond.methodLink RX10 340 yX10_inLeastTerms ∈ zTB := zmem 1102 (by decide +kernel) rfl
theorem k_RX10_340 : zLs RX10 340 yX10_inLeastTerms cX10_inLeastTerms 12 (some .long) 3 := ⟨⟨q_1102, q_1103, q_129, q_1104⟩, ⟨by decide, by decide⟩, by decide +kernel⟩
theorem q_1093 : Cond.constantLong RX10 329 (zL (-2)) ∈ zTB := zmem 1093 (by decide +kernel) rfl
def F_X10_own (i : Nat) (Z : Nat → Int → Int) (q : Nat) (X Y : Nat → Int → Int) (R : Nat → Int → Option Nat) (a : Int) (b : Int) (g : Int) (d : Int) : Prop := (∀ i j, rI (X i j)) → (∀ i j, rL (Y i j)) → (wcQ Z q X i) ∧ (∀ r5 : Bool, ∀ X2 : Nat → Int → Int, (∀ i j, rI (X2 i j)) → ∀ Y3 : Nat → Int → Int, (∀ i j, rL (Y3 i j)) → ∀ R4 : Nat → Int → Option Nat, (((R4) = wgR Z q R i (a) (b)) ∧ r5 = (rOk Z q (a) (b) && mIn (g) 0 (Z (q + 6) (13 * (a) + 6) - 1)) ∧ qK X (X2) i ∧ (r5 = true → cA (hZ Z q (a) (b) 0) q (X2) (Y3) (R4) (i + 157) ∧ (X2) (cn (R4) (i + 157)) 3 = hZ Z q (a) (b) 0 q 28)) → (((r5 = true) → ((cA (hZ Z q a b 0) q X2 Y3 R4 (i + 157) ∧ clF (hZ Z q a b 0) q ((X2 (i + 157) 3))) ∧ (∀ r10 : Int, rI r10 → ∀ X8 : Nat → Int → Int, (∀ i j, rI (X8 i j)) → ∀ Y9 : Nat → Int → Int, (∀ i j, rL (Y9 i j)) → (r10 = ((sTip (X2 (cn R4 (i + 157)) 3) (rP (hZ Z q a b 0) q) (rW (hZ Z q a b 0) q) (rG (hZ Z q a b 0) q) (fun e => mHas ((X2 (i + 157) 3)) e) (fun x y : Nat => decide (x < y)) ((hZ Z q a b 0) q 27).toNat : Nat) : Int) ∧ fvK X2 (X8) Y3 (Y9) (i + 157)) → ((cA (hZ Z q a b 0) q X8 Y9 R4 (i + 157)) ∧ (rI (bS (fMd (hZ Z q a b 0) q (g)) ((hZ Z q a b 0) q 27).toNat) → ((0 ≤ r10 ∧ r10 < 15) ∧ ((0 ≤ r10 ∧ r10 < 15) ∧ ((cA (hZ Z q a b 0) q X8 Y9 R4 (i + 157)) ∧ (rL (swA (rW (hZ Z q a b 0) q) ((zAnd (X8 (i + 167) (r10)) (bS (fMd (hZ Z q a b 0) q (g)) ((hZ Z q a b 0) q 27).toNat))) ((hZ Z q a b 0) q 27).toNat) → ((d = 0 → ((cA (hZ Z q a b 0) q X8 Y9 R4 (i + 157) ∧ mHas ((bS (fMd (hZ Z q a b 0) q (g)) ((hZ Z q a b 0) q 27).toNat)) 0 = false) ∧ (rI (bS (mWo (hZ Z q a b 0) q ((bS (fMd (hZ Z q a b 0) q (g)) ((hZ Z q a b 0) q 27).toNat))) ((hZ Z q a b 0) q 27).toNat) → ((cA (hZ Z q a b 0) q X8 Y9 R4 (i + 157) ∧ clF (hZ Z q a b 0) q ((bS (mWo (hZ Z q a b 0) q ((bS (fMd (hZ Z q a b 0) q (g)) ((hZ Z q a b 0) q 27).toNat))) ((hZ Z q a b 0) q 27).toNat))) ∧ (∀ r23 : Int, rI r23 → ∀ X21 : Nat → Int → Int, (∀ i j, rI (X21 i j)) → ∀ Y22 : Nat → Int → Int, (∀ i j, rL (Y22 i j)) → (r23 = ((sTip (X8 (cn R4 (i + 157)) 3) (rP (hZ Z q a b 0) q) (rW (hZ Z q a b 0) q) (rG (hZ Z q a b 0) q) (fun e => mHas ((bS (mWo (hZ Z q a b 0) q ((bS (fMd (hZ Z q a b 0) q (g)) ((hZ Z q a b 0) q 27).toNat))) ((hZ Z q a b 0) q 27).toNat)) e) (fun x y : Nat => decide (x < y)) ((hZ Z q a b 0) q 27).toNat : Nat) : Int) ∧ fvK X8 (X21) Y9 (Y22) (i + 157)) → (((R4) = wgR Z q R i (a) (b)) ∧ r23 = rOwn Z q (a) (b) (g) (d) ∧ qK X (X21) i)))))) ∧ (d = 1 → ((0 ≤ r10 ∧ r10 < 15) ∧ (rI (mBc (zAnd (X8 (i + 167) (r10)) (bS (fMd (hZ Z q a b 0) q (g)) ((hZ Z q a b 0) q 27).toNat))) → (((R4) = wgR Z q R i (a) (b)) ∧ (mBc (zAnd (X8 (i + 167) (r10)) (bS (fMd (hZ Z q a b 0) q (g)) ((hZ Z q a b 0) q 27).toNat))) = rOwn Z q (a) (b) (g) (d) ∧ qK X (X8) i)))) ∧ (d = 2 → (((¬ r10 = 0) → ((rL ((Y9 (i + 170) (r10)) - (Y9 (i + 170) (0)))) ∧ (((0 ≤ (swA (rW (hZ Z q a b 0) q) ((zAnd (X8 (i + 167) (r10)) (bS (fMd (hZ Z q a b 0) q (g)) ((hZ Z q a b 0) q 27).toNat))) ((hZ Z q a b 0) q 27).toNat) ∧ (swA (rW (hZ Z q a b 0) q) ((zAnd (X8 (i + 167) (r10)) (bS (fMd (hZ Z q a b 0) q (g)) ((hZ Z q a b 0) q 27).toNat))) ((hZ Z q a b 0) q 27).toNat) ≤ 4000000000000) ∧ 1 ≤ ((Y9 (i + 170) (r10)) - (Y9 (i + 170) (0))) ∧ ((Y9 (i + 170) (r10)) - (Y9 (i + 170) (0))) ≤ 4000000000000) ∧ (rL (mPt (swA (rW (hZ Z q a b 0) q) ((zAnd (X8 (i + 167) (r10)) (bS (fMd (hZ Z q a b 0) q (g)) ((hZ Z q a b 0) q 27).toNat))) ((hZ Z q a b 0) q 27).toNat) ((Y9 (i + 170) (r10)) - (Y9 (i + 170) (0))) (false)) → (((R4) = wgR Z q R i (a) (b)) ∧ (mPt (swA (rW (hZ Z q a b 0) q) ((zAnd (X8 (i + 167) (r10)) (bS (fMd (hZ Z q a b 0) q (g)) ((hZ Z q a b 0) q 27).toNat))) ((hZ Z q a b 0) q 27).toNat) ((Y9 (i + 170) (r10)) - (Y9 (i + 170) (0))) (false)) = rOwn Z q (a) (b) (g) (d) ∧ qK X (X8) i))))) ∧ ((¬ (¬ r10 = 0)) → (((R4) = wgR Z q R i (a) (b)) ∧ (-1) = rOwn Z q (a) (b) (g) (d) ∧ qK X (X8) i)))) ∧ (d = 3 → (((¬ r10 = 0) → ((rL ((Y9 (i + 170) (r10)) - (Y9 (i + 170) (0)))) ∧ (((0 ≤ (swA (rW (hZ Z q a b 0) q) ((zAnd (X8 (i + 167) (r10)) (bS (fMd (hZ Z q a b 0) q (g)) ((hZ Z q a b 0) q 27).toNat))) ((hZ Z q a b 0) q 27).toNat) ∧ (swA (rW (hZ Z q a b 0) q) ((zAnd (X8 (i + 167) (r10)) (bS (fMd (hZ Z q a b 0) q (g)) ((hZ Z q a b 0) q 27).toNat))) ((hZ Z q a b 0) q 27).toNat) ≤ 4000000000000) ∧ 1 ≤ ((Y9 (i + 170) (r10)) - (Y9 (i + 170) (0))) ∧ ((Y9 (i + 170) (r10)) - (Y9 (i + 170) (0))) ≤ 4000000000000) ∧ (rL (mPt (swA (rW (hZ Z q a b 0) q) ((zAnd (X8 (i + 167) (r10)) (bS (fMd (hZ Z q a b 0) q (g)) ((hZ Z q a b 0) q 27).toNat))) ((hZ Z q a b 0) q 27).toNat) ((Y9 (i + 170) (r10)) - (Y9 (i + 170) (0))) (true)) → (((R4) = wgR Z q R i (a) (b)) ∧ (mPt (swA (rW (hZ Z q a b 0) q) ((zAnd (X8 (i + 167) (r10)) (bS (fMd (hZ Z q a b 0) q (g)) ((hZ Z q a b 0) q 27).toNat))) ((hZ Z q a b 0) q 27).toNat) ((Y9 (i + 170) (r10)) - (Y9 (i + 170) (0))) (true)) = rOwn Z q (a) (b) (g) (d) ∧ qK X (X8) i))))) ∧ ((¬ (¬ r10 = 0)) → (((R4) = wgR Z q R i (a) (b)) ∧ (-1) = rOwn Z q (a) (b) (g) (d) ∧ qK X (X8) i)))) ∧ ((d < 0 ∨ 3 < d) → (((R4) = wgR Z q R i (a) (b)) ∧ (-2) = rOwn Z q (a) (b) (g) (d) ∧ qK X (X8) i)))))))))))) ∧ ((r5 = false) → (((R4) = wgR Z q R i (a) (b)) ∧ (-2) = rOwn Z q (a) (b) (g) (d) ∧ qK X (X2) i))))
set_option maxHeartbeats 4000000 in
set_option maxRecDepth 100000 in
theorem w_X10_own {l : Launch} {D : va_G} {cy : Nat → ClassId} {bs N : Nat} {sa : Nat → Nat} {kd len : Nat → Nat} {X Y : Nat → Int → Int} {R : Nat → Int → Option Nat} {i : Nat} {Z : Nat → Int → Int} {q : Nat} (hC : zWC N kd len R i) (a : Int) (ha : rI a) (b : Int) (hb : rI b) (g : Int) (hg : rI g) (d : Int) (hd : rI d) (hF : F_X10_own i Z q X Y R a b g d) : Met l yX10_own (.code yX10_own cX10_own 11 (some .long) :: zTB) (zRm 6 157) (zPc D cy bs sa N kd len X Y R [.ref (bs + (i)), .int (zI (a)), .int (zI (b)), .int (zI (g)), .int (zI (d))]) (zQl D cy bs N kd len (fun r st => (((st.2.2) = wgR Z q R i (a) (b)) ∧ r = rOwn Z q (a) (b) (g) (d) ∧ qK X (st.1) i))) 0 0 (zA bs) := by
  refine zstart (by decide) (Nat.le_of_ble_eq_true rfl) ?_
  intro p e s m args below meth c ls C hE hH hr hlk hnm hl hargs
  have hF := hF hH.2.2.1 hH.2.2.2
  have hS : va_S (zA bs) s.heap s.heap [] := va_S.rf
  have hl : lv_has ls 11 [(0, .ref (bs + (i))), (1, .int (zI (a))), (2, .int (zI (b))), (3, .int (zI (g))), (4, .int (zI (d)))] := hl
  refine lv_aload_n C.1 C.2.1 dX10_own_0 rfl (lv_at hl 0 rfl) ?_
  refine lv_iload_n C.1 C.2.1 dX10_own_1 rfl (lv_at hl 1 rfl) ?_
  refine lv_iload_n C.1 C.2.1 dX10_own_2 rfl (lv_at hl 2 rfl) ?_
  refine lv_iload_n C.1 C.2.1 dX10_own_3 rfl (lv_at hl 3 rfl) ?_
  obtain ⟨o1, hF⟩ := hF
  refine zgoi (zrunV (As := [.int (zI (a)), .int (zI (b)), .int (zI (g))]) (rest := []) C hE hH hS hl.1 (c_X10_weighFor (l := l) hC (a) ha (b) hb (g) hg o1) k_RX10_326 ⟨Nat.le_of_ble_eq_true rfl, Nat.le_of_ble_eq_true rfl⟩ (zW_n hC) (zW_k hC) rfl rfl rfl (Nat.le_of_ble_eq_true rfl) dX10_own_4 ⟨Nat.zero_le _, Nat.zero_le _⟩) hS (fun rq X2 Y3 R4 H locs hrq hq hH hS => ?_)
  obtain ⟨r5, h91, hq⟩ := hq
  subst h91
  have hF := hF r5 X2 hH.2.2.1 Y3 hH.2.2.2 R4 hq
  have hC := zWC_wg hC hq.1
  refine zd_ifB_ne C 14 dX10_own_7 (by decide) (fun c6 => ?_) (fun c6 => ?_)
  · have hF := hF.1 c6
    refine lv_aload_n C.1 C.2.1 dX10_own_14 rfl (lv_at hl 0 rfl) ?_
    refine zg10_4 C hH (zW_n hC) (zW_k hC) q_573 (zW_lw hC).1 dX10_own_15 ?_
    refine lv_aload_n C.1 C.2.1 dX10_own_18 rfl (lv_at hl 0 rfl) ?_
    refine zg10_4 C hH (zW_n hC) (zW_k hC) q_573 (zW_lw hC).1 dX10_own_19 ?_
    refine zg1_3 C hH (zChart_n0 (zW_lw hC).2.2.2.1.1) (zChart_k0 (zW_lw hC).2.2.2.1.1) q_401 dX10_own_22 ?_
    obtain ⟨o7, hF⟩ := hF
    refine zgoi (zrunV (As := [.int (zI (X2 (i + 157) 3))]) (rest := []) C hE hH hS hl.1 (c_X1_tipOf (l := l) (zW_lw hC).2.2.2.1.1 (X2 (i + 157) 3) (hH.2.2.1 _ _) o7) k_RX10_305 ⟨Nat.le_of_ble_eq_true rfl, Nat.le_of_ble_eq_true rfl⟩ (zChart_n0 (zW_lw hC).2.2.2.1.1) (zChart_k0 (zW_lw hC).2.2.2.1.1) rfl rfl rfl (Nat.le_of_ble_eq_true rfl) dX10_own_25 ⟨Nat.zero_le _, Nat.zero_le _⟩) hS (fun r10 X8 Y9 Rq H locs hrq hq hH hS => ?_)
    obtain ⟨h9R, hq⟩ := hq
    dsimp only at h9R
    rw [h9R] at hH
    have hr10 := hrq
    have hF := hF r10 hrq X8 hH.2.2.1 Y9 hH.2.2.2 hq
    refine lv_istore (lv' := [(5, .int (zI (r10))), (0, .ref (bs + (i))), (1, .int (zI (a))), (2, .int (zI (b))), (3, .int (zI (g))), (4, .int (zI (d)))]) C.1 C.2.1 dX10_own_28 hl (by decide) rfl (fun ls hl => ?_)
    refine lv_aload_n C.1 C.2.1 dX10_own_30 rfl (lv_at hl 1 rfl) ?_
    refine zg10_4 C hH (zW_n hC) (zW_k hC) q_573 (zW_lw hC).1 dX10_own_31 ?_
    refine lv_iload_n C.1 C.2.1 dX10_own_34 rfl (lv_at hl 4 rfl) ?_
    obtain ⟨o11, hF⟩ := hF
    refine zgoi (zrunV (As := [.int (zI (g))]) (rest := []) C hE hH hS hl.1 (c_X1_madeBy (l := l) (zW_lw hC).2.2.2.1.1 (g) hg o11) k_RX10_331 ⟨Nat.le_of_ble_eq_true rfl, Nat.le_of_ble_eq_true rfl⟩ (zChart_n0 (zW_lw hC).2.2.2.1.1) (zChart_k0 (zW_lw hC).2.2.2.1.1) rfl rfl rfl (Nat.le_of_ble_eq_true rfl) dX10_own_35 ⟨Nat.zero_le _, Nat.zero_le _⟩) hS (fun rq Xq Yq Rq H locs hrq hq hH hS => ?_)
    obtain ⟨h91, h92⟩ := hq
    have h93 : Xq = X8 := congrArg (fun z => z.1) h92
    have h94 : Yq = Y9 := congrArg (fun z => z.2.1) h92
    have h95 : Rq = R4 := congrArg (fun z => z.2.2) h92
    rw [h93, h94, h95] at hH
    subst h91
    have hr12 := hrq
    have hF := hF hr12
    refine lv_istore (lv' := [(6, .int (zI (bS (fMd (hZ Z q a b 0) q (g)) ((hZ Z q a b 0) q 27).toNat))), (5, .int (zI (r10))), (0, .ref (bs + (i))), (1, .int (zI (a))), (2, .int (zI (b))), (3, .int (zI (g))), (4, .int (zI (d)))]) C.1 C.2.1 dX10_own_38 hl (by decide) rfl (fun ls hl => ?_)
    refine lv_aload_n C.1 C.2.1 dX10_own_40 rfl (lv_at hl 2 rfl) ?_
    refine zg10_4 C hH (zW_n hC) (zW_k hC) q_573 (zW_lw hC).1 dX10_own_41 ?_
    refine zg1_8 C hH (zChart_n0 (zW_lw hC).2.2.2.1.1) (zChart_k0 (zW_lw hC).2.2.2.1.1) q_412 (zChart_r13 (zW_lw hC).2.2.2.1.1) dX10_own_44 ?_
    refine lv_iload C.1 C.2.1 dX10_own_47 (lv_at hl 1 rfl) ?_
    obtain ⟨o13, hF⟩ := hF
    refine zd_lald C hH (zChart_n13 (zW_lw hC).2.2.2.1.1) (zChart_k13 (zW_lw hC).2.2.2.1.1) o13.1 (by rw [zChart_l13 (zW_lw hC).2.2.2.1.1]; exact o13.2) (by rw [zChart_l13 (zW_lw hC).2.2.2.1.1]; decide) dX10_own_49 ?_
    refine lv_aload_n C.1 C.2.1 dX10_own_50 rfl (lv_at hl 2 rfl) ?_
    refine zg10_4 C hH (zW_n hC) (zW_k hC) q_573 (zW_lw hC).1 dX10_own_51 ?_
    refine zg1_8 C hH (zChart_n0 (zW_lw hC).2.2.2.1.1) (zChart_k0 (zW_lw hC).2.2.2.1.1) q_412 (zChart_r13 (zW_lw hC).2.2.2.1.1) dX10_own_54 ?_
    refine zd_iconst C dX10_own_57 ?_
    refine zd_lald C hH (zChart_n13 (zW_lw hC).2.2.2.1.1) (zChart_k13 (zW_lw hC).2.2.2.1.1) (by decide) (by rw [zChart_l13 (zW_lw hC).2.2.2.1.1]; decide) (by rw [zChart_l13 (zW_lw hC).2.2.2.1.1]; decide) dX10_own_58 ?_
    refine zd_lsub C dX10_own_59 ?_
    refine lv_lstore (lv' := [(7, .long (zL ((Y9 (i + 170) (r10)) - (Y9 (i + 170) (0))))), (6, .int (zI (bS (fMd (hZ Z q a b 0) q (g)) ((hZ Z q a b 0) q 27).toNat))), (5, .int (zI (r10))), (0, .ref (bs + (i))), (1, .int (zI (a))), (2, .int (zI (b))), (3, .int (zI (g))), (4, .int (zI (d)))]) C.1 C.2.1 dX10_own_60 hl (by decide) rfl (fun ls hl => ?_)
    refine lv_aload_n C.1 C.2.1 dX10_own_62 rfl (lv_at hl 3 rfl) ?_
    refine zg10_4 C hH (zW_n hC) (zW_k hC) q_573 (zW_lw hC).1 dX10_own_63 ?_
    refine lv_aload_n C.1 C.2.1 dX10_own_66 rfl (lv_at hl 3 rfl) ?_
    refine zg10_4 C hH (zW_n hC) (zW_k hC) q_573 (zW_lw hC).1 dX10_own_67 ?_
    refine zg1_5 C hH (zChart_n0 (zW_lw hC).2.2.2.1.1) (zChart_k0 (zW_lw hC).2.2.2.1.1) q_406 (zChart_r10 (zW_lw hC).2.2.2.1.1) dX10_own_70 ?_
    refine lv_iload C.1 C.2.1 dX10_own_73 (lv_at hl 2 rfl) ?_
    obtain ⟨o14, hF⟩ := hF
    refine zd_iald C hH (zChart_n10 (zW_lw hC).2.2.2.1.1) (zChart_k10 (zW_lw hC).2.2.2.1.1) o14.1 (by rw [zChart_l10 (zW_lw hC).2.2.2.1.1]; exact o14.2) (by rw [zChart_l10 (zW_lw hC).2.2.2.1.1]; decide) dX10_own_75 ?_
    refine lv_iload C.1 C.2.1 dX10_own_76 (lv_at hl 1 rfl) ?_
    refine zd_iand C dX10_own_78 ?_
    obtain ⟨o15, hF⟩ := hF
    refine zgol (zrunV (As := [.int (zI (zAnd (X8 (i + 167) (r10)) (bS (fMd (hZ Z q a b 0) q (g)) ((hZ Z q a b 0) q 27).toNat)))]) (rest := []) C hE hH hS hl.1 (c_X1_workOf (l := l) (zW_lw hC).2.2.2.1.1 (zAnd (X8 (i + 167) (r10)) (bS (fMd (hZ Z q a b 0) q (g)) ((hZ Z q a b 0) q 27).toNat)) (zI_rg _) o15) k_RX10_337 ⟨Nat.le_of_ble_eq_true rfl, Nat.le_of_ble_eq_true rfl⟩ (zChart_n0 (zW_lw hC).2.2.2.1.1) (zChart_k0 (zW_lw hC).2.2.2.1.1) rfl rfl rfl (Nat.le_of_ble_eq_true rfl) dX10_own_79 ⟨Nat.zero_le _, Nat.zero_le _⟩) hS (fun rq Xq Yq Rq H locs hrq hq hH hS => ?_)
    obtain ⟨h91, h92⟩ := hq
    have h93 : Xq = X8 := congrArg (fun z => z.1) h92
    have h94 : Yq = Y9 := congrArg (fun z => z.2.1) h92
    have h95 : Rq = R4 := congrArg (fun z => z.2.2) h92
    rw [h93, h94, h95] at hH
    subst h91
    have hr16 := hrq
    have hF := hF hr16
    refine lv_lstore (lv' := [(9, .long (zL (swA (rW (hZ Z q a b 0) q) ((zAnd (X8 (i + 167) (r10)) (bS (fMd (hZ Z q a b 0) q (g)) ((hZ Z q a b 0) q 27).toNat))) ((hZ Z q a b 0) q 27).toNat))), (7, .long (zL ((Y9 (i + 170) (r10)) - (Y9 (i + 170) (0))))), (6, .int (zI (bS (fMd (hZ Z q a b 0) q (g)) ((hZ Z q a b 0) q 27).toNat))), (5, .int (zI (r10))), (0, .ref (bs + (i))), (1, .int (zI (a))), (2, .int (zI (b))), (3, .int (zI (g))), (4, .int (zI (d)))]) C.1 C.2.1 dX10_own_82 hl (by decide) rfl (fun ls hl => ?_)
    refine lv_iload C.1 C.2.1 dX10_own_84 (lv_at hl 8 rfl) ?_
    by_cases c17_0 : d = 0
    · have hF := hF.1 c17_0
      refine zd_tabI C hd 116 (0) c17_0 dX10_own_86 (by decide) (by decide) rfl (by decide) ?_
      refine lv_aload_n C.1 C.2.1 dX10_own_116 rfl (lv_at hl 4 rfl) ?_
      refine zg10_4 C hH (zW_n hC) (zW_k hC) q_573 (zW_lw hC).1 dX10_own_117 ?_
      refine lv_aload_n C.1 C.2.1 dX10_own_120 rfl (lv_at hl 4 rfl) ?_
      refine zg10_4 C hH (zW_n hC) (zW_k hC) q_573 (zW_lw hC).1 dX10_own_121 ?_
      refine lv_iload C.1 C.2.1 dX10_own_124 (lv_at hl 2 rfl) ?_
      obtain ⟨o18, hF⟩ := hF
      refine zgoi (zrunV (As := [.int (zI (bS (fMd (hZ Z q a b 0) q (g)) ((hZ Z q a b 0) q 27).toNat))]) (rest := [.ref (bs + (i + 157))]) C hE hH hS hl.1 (c_X1_soundWithout (l := l) (zW_lw hC).2.2.2.1.1 (bS (fMd (hZ Z q a b 0) q (g)) ((hZ Z q a b 0) q 27).toNat) hr12 o18) k_RX10_323 ⟨Nat.le_of_ble_eq_true rfl, Nat.le_of_ble_eq_true rfl⟩ (zChart_n0 (zW_lw hC).2.2.2.1.1) (zChart_k0 (zW_lw hC).2.2.2.1.1) rfl rfl rfl (Nat.le_of_ble_eq_true rfl) dX10_own_126 ⟨Nat.zero_le _, Nat.zero_le _⟩) hS (fun rq Xq Yq Rq H locs hrq hq hH hS => ?_)
      obtain ⟨h91, h92⟩ := hq
      have h93 : Xq = X8 := congrArg (fun z => z.1) h92
      have h94 : Yq = Y9 := congrArg (fun z => z.2.1) h92
      have h95 : Rq = R4 := congrArg (fun z => z.2.2) h92
      rw [h93, h94, h95] at hH
      subst h91
      have hr19 := hrq
      have hF := hF hr19
      obtain ⟨o20, hF⟩ := hF
      refine zgoi (zrunV (As := [.int (zI (bS (mWo (hZ Z q a b 0) q ((bS (fMd (hZ Z q a b 0) q (g)) ((hZ Z q a b 0) q 27).toNat))) ((hZ Z q a b 0) q 27).toNat))]) (rest := []) C hE hH hS hl.1 (c_X1_tipOf (l := l) (zW_lw hC).2.2.2.1.1 (bS (mWo (hZ Z q a b 0) q ((bS (fMd (hZ Z q a b 0) q (g)) ((hZ Z q a b 0) q 27).toNat))) ((hZ Z q a b 0) q 27).toNat) hr19 o20) k_RX10_305 ⟨Nat.le_of_ble_eq_true rfl, Nat.le_of_ble_eq_true rfl⟩ (zChart_n0 (zW_lw hC).2.2.2.1.1) (zChart_k0 (zW_lw hC).2.2.2.1.1) rfl rfl rfl (Nat.le_of_ble_eq_true rfl) dX10_own_129 ⟨Nat.zero_le _, Nat.zero_le _⟩) hS (fun r23 X21 Y22 Rq H locs hrq hq hH hS => ?_)
      obtain ⟨h9R, hq⟩ := hq
      dsimp only at h9R
      rw [h9R] at hH
      have hr23 := hrq
      have hF := hF r23 hrq X21 hH.2.2.1 Y22 hH.2.2.2 hq
      refine zd_i2l C hr23 dX10_own_132 ?_
      exact zd_lret C hr hlk hH hS (rI_rL hr23) (hF) dX10_own_133
    · have hF := hF.2
      by_cases c17_1 : d = 1
      · have hF := hF.1 c17_1
        refine zd_tabI C hd 134 (1) c17_1 dX10_own_86 (by decide) (by decide) rfl (by decide) ?_
        refine lv_aload_n C.1 C.2.1 dX10_own_134 rfl (lv_at hl 4 rfl) ?_
        refine zg10_4 C hH (zW_n hC) (zW_k hC) q_573 (zW_lw hC).1 dX10_own_135 ?_
        refine zg1_5 C hH (zChart_n0 (zW_lw hC).2.2.2.1.1) (zChart_k0 (zW_lw hC).2.2.2.1.1) q_406 (zChart_r10 (zW_lw hC).2.2.2.1.1) dX10_own_138 ?_
        refine lv_iload C.1 C.2.1 dX10_own_141 (lv_at hl 3 rfl) ?_
        obtain ⟨o24, hF⟩ := hF
        refine zd_iald C hH (zChart_n10 (zW_lw hC).2.2.2.1.1) (zChart_k10 (zW_lw hC).2.2.2.1.1) o24.1 (by rw [zChart_l10 (zW_lw hC).2.2.2.1.1]; exact o24.2) (by rw [zChart_l10 (zW_lw hC).2.2.2.1.1]; decide) dX10_own_143 ?_
        refine lv_iload C.1 C.2.1 dX10_own_144 (lv_at hl 2 rfl) ?_
        refine zd_iand C dX10_own_146 ?_
        refine zgoi (zrunS (As := [.int (zI (zAnd (X8 (i + 167) (r10)) (bS (fMd (hZ Z q a b 0) q (g)) ((hZ Z q a b 0) q 27).toNat)))]) (rest := []) C hE hH hS hl.1 (c_J6_bitCount_0f7a4 (l := l)  (zAnd (X8 (i + 167) (r10)) (bS (fMd (hZ Z q a b 0) q (g)) ((hZ Z q a b 0) q 27).toNat)) (zI_rg _)) k_RX10_317 ⟨Nat.le_of_ble_eq_true rfl, Nat.le_of_ble_eq_true rfl⟩ rfl (Nat.le_of_ble_eq_true rfl) dX10_own_147 ⟨Nat.zero_le _, Nat.zero_le _⟩) hS (fun rq Xq Yq Rq H locs hrq hq hH hS => ?_)
        obtain ⟨h91, h92⟩ := hq
        have h93 : Xq = X8 := congrArg (fun z => z.1) h92
        have h94 : Yq = Y9 := congrArg (fun z => z.2.1) h92
        have h95 : Rq = R4 := congrArg (fun z => z.2.2) h92
        rw [h93, h94, h95] at hH
        subst h91
        have hr25 := hrq
        have hF := hF hr25
        refine zd_i2l C hr25 dX10_own_150 ?_
        exact zd_lret C hr hlk hH hS (rI_rL hr25) (hF) dX10_own_151
      · have hF := hF.2
        by_cases c17_2 : d = 2
        · have hF := hF.1 c17_2
          refine zd_tabI C hd 152 (2) c17_2 dX10_own_86 (by decide) (by decide) rfl (by decide) ?_
          refine lv_iload C.1 C.2.1 dX10_own_152 (lv_at hl 3 rfl) ?_
          refine zd_if_ne C hr10 163 dX10_own_154 (by decide) (fun c26 => ?_) (fun c26 => ?_)
          · have hF := hF.1 c26
            refine lv_lload C.1 C.2.1 dX10_own_163 (lv_at hl 0 rfl) ?_
            refine lv_lload C.1 C.2.1 dX10_own_165 (lv_at hl 1 rfl) ?_
            refine zd_iconst C dX10_own_167 ?_
            obtain ⟨o27, hF⟩ := hF
            obtain ⟨o28, hF⟩ := hF
            refine zgol (zrunS (As := [.long (zL (swA (rW (hZ Z q a b 0) q) ((zAnd (X8 (i + 167) (r10)) (bS (fMd (hZ Z q a b 0) q (g)) ((hZ Z q a b 0) q 27).toNat))) ((hZ Z q a b 0) q 27).toNat)), .long (zL ((Y9 (i + 170) (r10)) - (Y9 (i + 170) (0)))), .int (zI (bz (false)))]) (rest := []) C hE hH hS hl.1 (c_X10_inLeastTerms (l := l)  (swA (rW (hZ Z q a b 0) q) ((zAnd (X8 (i + 167) (r10)) (bS (fMd (hZ Z q a b 0) q (g)) ((hZ Z q a b 0) q 27).toNat))) ((hZ Z q a b 0) q 27).toNat) hr16 ((Y9 (i + 170) (r10)) - (Y9 (i + 170) (0))) o27 false o28) k_RX10_340 ⟨Nat.le_of_ble_eq_true rfl, Nat.le_of_ble_eq_true rfl⟩ rfl (Nat.le_of_ble_eq_true rfl) dX10_own_168 ⟨Nat.zero_le _, Nat.zero_le _⟩) hS (fun rq Xq Yq Rq H locs hrq hq hH hS => ?_)
            obtain ⟨h91, h92⟩ := hq
            have h93 : Xq = X8 := congrArg (fun z => z.1) h92
            have h94 : Yq = Y9 := congrArg (fun z => z.2.1) h92
            have h95 : Rq = R4 := congrArg (fun z => z.2.2) h92
            rw [h93, h94, h95] at hH
            subst h91
            have hr29 := hrq
            have hF := hF hr29
            exact zd_lret C hr hlk hH hS hr29 (hF) dX10_own_171
          · have hF := hF.2 c26
            refine lv_ldc2 (v := zL (-1)) C.1 C.2.1 C.2.2.2.1 (C.2.2.2.2.1 _ q_1048) dX10_own_157 ?_
            refine lv_goto (tgt := 171) C.1 C.2.1 dX10_own_160 (by decide) ?_
            exact zd_lret C hr hlk hH hS (by decide) (hF) dX10_own_171
        · have hF := hF.2
          by_cases c17_3 : d = 3
          · have hF := hF.1 c17_3
            refine zd_tabI C hd 172 (3) c17_3 dX10_own_86 (by decide) (by decide) rfl (by decide) ?_
            refine lv_iload C.1 C.2.1 dX10_own_172 (lv_at hl 3 rfl) ?_
            refine zd_if_ne C hr10 183 dX10_own_174 (by decide) (fun c30 => ?_) (fun c30 => ?_)
            · have hF := hF.1 c30
              refine lv_lload C.1 C.2.1 dX10_own_183 (lv_at hl 0 rfl) ?_
              refine lv_lload C.1 C.2.1 dX10_own_185 (lv_at hl 1 rfl) ?_
              refine zd_iconst C dX10_own_187 ?_
              obtain ⟨o31, hF⟩ := hF
              obtain ⟨o32, hF⟩ := hF
              refine zgol (zrunS (As := [.long (zL (swA (rW (hZ Z q a b 0) q) ((zAnd (X8 (i + 167) (r10)) (bS (fMd (hZ Z q a b 0) q (g)) ((hZ Z q a b 0) q 27).toNat))) ((hZ Z q a b 0) q 27).toNat)), .long (zL ((Y9 (i + 170) (r10)) - (Y9 (i + 170) (0)))), .int (zI (bz (true)))]) (rest := []) C hE hH hS hl.1 (c_X10_inLeastTerms (l := l)  (swA (rW (hZ Z q a b 0) q) ((zAnd (X8 (i + 167) (r10)) (bS (fMd (hZ Z q a b 0) q (g)) ((hZ Z q a b 0) q 27).toNat))) ((hZ Z q a b 0) q 27).toNat) hr16 ((Y9 (i + 170) (r10)) - (Y9 (i + 170) (0))) o31 true o32) k_RX10_340 ⟨Nat.le_of_ble_eq_true rfl, Nat.le_of_ble_eq_true rfl⟩ rfl (Nat.le_of_ble_eq_true rfl) dX10_own_188 ⟨Nat.zero_le _, Nat.zero_le _⟩) hS (fun rq Xq Yq Rq H locs hrq hq hH hS => ?_)
              obtain ⟨h91, h92⟩ := hq
              have h93 : Xq = X8 := congrArg (fun z => z.1) h92
              have h94 : Yq = Y9 := congrArg (fun z => z.2.1) h92
              have h95 : Rq = R4 := congrArg (fun z => z.2.2) h92
              rw [h93, h94, h95] at hH
              subst h91
              have hr33 := hrq
              have hF := hF hr33
              exact zd_lret C hr hlk hH hS hr33 (hF) dX10_own_191
            · have hF := hF.2 c30
              refine lv_ldc2 (v := zL (-1)) C.1 C.2.1 C.2.2.2.1 (C.2.2.2.2.1 _ q_1048) dX10_own_177 ?_
              refine lv_goto (tgt := 191) C.1 C.2.1 dX10_own_180 (by decide) ?_
              exact zd_lret C hr hlk hH hS (by decide) (hF) dX10_own_191
          · have hF := hF.2
            have c17 := tsw_0_3 (d) c17_0 c17_1 c17_2 c17_3
            have hF := hF c17
            refine zd_tabO C hd 192 c17 dX10_own_86 (by decide) ?_
            refine lv_ldc2 (v := zL (-2)) C.1 C.2.1 C.2.2.2.1 (C.2.2.2.2.1 _ q_1093) dX10_own_192 ?_
            exact zd_lret C hr hlk hH hS (by decide) (hF) dX10_own_195
  · have hF := hF.2 c6
    refine lv_ldc2 (v := zL (-2)) C.1 C.2.1 C.2.2.2.1 (C.2.2.2.2.1 _ q_1093) dX10_own_10 ?_
    exact zd_lret C hr hlk hH hS (by decide) (hF) dX10_own_13
theorem v_X10_own {X Y : Nat → Int → Int} {R : Nat → Int → Option Nat} {i : Nat} {Z : Nat → Int → Int} {q : Nat} (a : Int) (ha : rI a) (b : Int) (hb : rI b) (g : Int) (hg : rI g) (d : Int) (hd : rI d) (hp : wcQ Z q X i) : F_X10_own i Z q X Y R a b g d := by
  unfold F_X10_own
  intro hX hY
  refine ⟨?_, ?_⟩
  · exact hp
  intro r5
  intro X2
  intro rX2
  intro Y3
  intro rY3
  intro R4
  intro h1
  obtain ⟨eR, er, hk, ht⟩ := h1
  refine ⟨?_, ?_⟩
  · intro c1
    obtain ⟨hA, h3⟩ := ht c1
    have e := er.symm.trans c1
    have l := cA_l hA
    have a6 := cA_a hA
    have e27 := hz_27 (Z := Z) (q := q) (n := a) (c := b) (f := 0)
    have e26 := hz_26 (Z := Z) (q := q) (n := a) (c := b) (f := 0)
    have e9 := e
    rw [Bool.and_eq_true, mIn_t] at e
    have E : rOwn Z q a b g d = owOf (hZ Z q a b 0) q g d := by
      unfold rOwn
      rw [e9]
      rfl
    have vz := hA.1.1.1
    have hn := vZ_n vz
    have h39 := h3
    refine ⟨?_, ?_⟩
    · exact ⟨hA, cl_sdf hA⟩
    intro r10
    intro _
    intro X8
    intro rX8
    intro Y9
    intro rY9
    intro h2
    obtain ⟨hr, f2⟩ := h2
    rw [h3, tw_0 hA] at hr
    obtain ⟨T, eT⟩ : ∃ T : Nat, T = rTip (hZ Z q a b 0) q (mWo (hZ Z q a b 0) q 0) := ⟨_, rfl⟩
    rw [← eT] at hr
    have tb : T < (hZ Z q a b 0 q 27).toNat := by rw [eT]; exact sTip_b (by omega)
    have tl : (T : Int) < hZ Z q a b 0 q 27 := by omega
    have hA8 := cA_k f2 hA
    have hk8 := qK_fv f2 hk
    have b0 : mHas (bS (fMd (hZ Z q a b 0) q g) (hZ Z q a b 0 q 27).toNat) 0 = false := bS_has _ (n := (hZ Z q a b 0 q 27).toNat) (k := 0) (by omega) (by omega)
    have hP : ∀ k, 1 ≤ k → k < (hZ Z q a b 0 q 27).toNat → rP (hZ Z q a b 0) q k < k := fun k k1 k2 => vZ_P vz k1 (by omega)
    have one := wyP_one (P := rP (hZ Z q a b 0) q) (k := T) (fun z => hP T z tb) (by omega)
    have tn : ((T : Nat) : Int).toNat = T := by omega
    rw [hr] at *
    have vw : X8 (i + 167) T = wyP (rP (hZ Z q a b 0) q) T := cA_w hA8 tl
    have vg : Y9 (i + 170) T = rG (hZ Z q a b 0) q T := (cA_W hA8 tl).2
    have vg0 : Y9 (i + 170) 0 = rG (hZ Z q a b 0) q 0 := (cA_W hA8 (k := 0) (by omega)).2
    rw [vw, vg, vg0]
    have wa : ∀ j : Nat, j < 15 → mHas (zAnd (wyP (rP (hZ Z q a b 0) q) T) (bS (fMd (hZ Z q a b 0) q g) (hZ Z q a b 0 q 27).toNat)) j = (mHas (wyP (rP (hZ Z q a b 0) q) T) j && mHas (bS (fMd (hZ Z q a b 0) q g) (hZ Z q a b 0 q 27).toNat) j) := fun j hj => by
      rw [mHas_zb _ (by omega), zb_and, ← mHas_zb _ (by omega), ← mHas_zb _ (by omega)]
    have w0 : mHas (zAnd (wyP (rP (hZ Z q a b 0) q) T) (bS (fMd (hZ Z q a b 0) q g) (hZ Z q a b 0 q 27).toNat)) 0 = false := by
      have := wa 0 (by omega)
      rw [show ((0 : Nat) : Int) = 0 from rfl] at this
      rw [this, b0, Bool.and_false]
    have sW := swA_i (W := rW (hZ Z q a b 0) q) w0 (hZ Z q a b 0 q 27).toNat
    have WB : ∀ k, k < (hZ Z q a b 0 q 27).toNat → 1 ≤ rW (hZ Z q a b 0) q k ∧ rW (hZ Z q a b 0) q k ≤ 26575110144 := fun k hk => (rW_b vz hA.2.1 k (by omega)).1
    have ws := sWi_wyn (P := rP (hZ Z q a b 0) q) (W := rW (hZ Z q a b 0) q) (G := rG (hZ Z q a b 0) q) (m := (hZ Z q a b 0 q 27).toNat) (by omega) hP (fun k k1 k2 => rG_s (hP k k1 k2)) tb
    have sb := sWi_b (s := wyP (rP (hZ Z q a b 0) q) T) WB
    have sa9 := swA_b (s := zAnd (wyP (rP (hZ Z q a b 0) q) T) (bS (fMd (hZ Z q a b 0) q g) (hZ Z q a b 0 q 27).toNat)) WB
    rw [ws] at sb
    have g1 : T ≠ 0 → 1 ≤ rG (hZ Z q a b 0) q T - rG (hZ Z q a b 0) q 0 := fun z => by
      rw [← ws]
      exact sWi_1 (k := T) (by omega) (wyP_me (hP T (by omega) tb) (by omega)) _ (fun j hj => (WB j hj).1) tb
    refine ⟨?_, ?_⟩
    · exact hA8
    intro _
    refine ⟨?_, ?_⟩
    · omega
    refine ⟨?_, ?_⟩
    · omega
    refine ⟨?_, ?_⟩
    · exact hA8
    intro _
    refine ⟨?_, ?_⟩
    · intro c2
      refine ⟨?_, ?_⟩
      · exact ⟨hA8, b0⟩
      intro _
      refine ⟨?_, ?_⟩
      · exact ⟨hA8, tw_cl hA8 _⟩
      intro r23
      intro _
      intro X21
      intro rX21
      intro Y22
      intro rY22
      intro h3
      obtain ⟨hr3, f3⟩ := h3
      refine ⟨eR, ?_, qK_fv f3 hk8⟩
      rw [E]
      unfold owOf
      rw [if_pos (show d = 0 by omega), hr3]
      have h38 : X8 (cn R4 (i + 157)) 3 = hZ Z q a b 0 q 28 := by rw [f2.1 _ (by have := hA.2.2.1.2; omega)]; exact h39
      rw [h38, tw_e hA8]
    refine ⟨?_, ?_⟩
    · intro c3
      refine ⟨?_, ?_⟩
      · omega
      intro _
      refine ⟨eR, ?_, hk8⟩
      rw [E]
      unfold owOf
      rw [if_neg (show ¬ d = 0 by omega), if_pos (show d = 1 by omega), ← eT]
      rw [mBc_ones (and_sm wy_sm).1 (and_sm wy_sm).2]
    refine ⟨?_, ?_⟩
    · intro c4
      refine ⟨?_, ?_⟩
      · intro c5
        refine ⟨?_, ?_⟩
        · exact ⟨by omega, by omega⟩
        refine ⟨?_, ?_⟩
        · exact ⟨⟨by omega, by omega⟩, g1 (by omega), by omega⟩
        intro _
        refine ⟨eR, ?_, hk8⟩
        rw [E]
        unfold owOf
        rw [if_neg (show ¬ d = 0 by omega), if_neg (show ¬ d = 1 by omega), if_pos (show d = 2 ∨ d = 3 by omega), ← eT]
        rw [if_neg (fun z => c5 (by have := one.mp z; omega)), ws, sW, decide_eq_false (show ¬ d = 3 by omega)]
      intro c6
      refine ⟨eR, ?_, hk8⟩
      rw [E]
      unfold owOf
      rw [if_neg (show ¬ d = 0 by omega), if_neg (show ¬ d = 1 by omega), if_pos (show d = 2 ∨ d = 3 by omega), ← eT]
      rw [if_pos (one.mpr (by omega))]
    refine ⟨?_, ?_⟩
    · intro c7
      refine ⟨?_, ?_⟩
      · intro c8
        refine ⟨?_, ?_⟩
        · exact ⟨by omega, by omega⟩
        refine ⟨?_, ?_⟩
        · exact ⟨⟨by omega, by omega⟩, g1 (by omega), by omega⟩
        intro _
        refine ⟨eR, ?_, hk8⟩
        rw [E]
        unfold owOf
        rw [if_neg (show ¬ d = 0 by omega), if_neg (show ¬ d = 1 by omega), if_pos (show d = 2 ∨ d = 3 by omega), ← eT]
        rw [if_neg (fun z => c8 (by have := one.mp z; omega)), ws, sW, decide_eq_true (show d = 3 by omega)]
      intro c9
      refine ⟨eR, ?_, hk8⟩
      rw [E]
      unfold owOf
      rw [if_neg (show ¬ d = 0 by omega), if_neg (show ¬ d = 1 by omega), if_pos (show d = 2 ∨ d = 3 by omega), ← eT]
      rw [if_pos (one.mpr (by omega))]
    intro c10
    refine ⟨eR, ?_, hk8⟩
    rw [E]
    unfold owOf
    rw [if_neg (show ¬ d = 0 by omega), if_neg (show ¬ d = 1 by omega), if_neg (show ¬ (d = 2 ∨ d = 3) by omega)]
  intro c11
  refine ⟨eR, ?_, hk⟩
  have e := er.symm.trans c11
  unfold rOwn
  rw [e]
  rfl
theorem c_X10_own {l : Launch} {D : va_G} {cy : Nat → ClassId} {bs N : Nat} {sa : Nat → Nat} {kd len : Nat → Nat} {X Y : Nat → Int → Int} {R : Nat → Int → Option Nat} {i : Nat} {Z : Nat → Int → Int} {q : Nat} (hC : zWC N kd len R i) (a : Int) (ha : rI a) (b : Int) (hb : rI b) (g : Int) (hg : rI g) (d : Int) (hd : rI d) (hp : wcQ Z q X i) : Met l yX10_own (.code yX10_own cX10_own 11 (some .long) :: zTB) (zRm 6 157) (zPc D cy bs sa N kd len X Y R [.ref (bs + (i)), .int (zI (a)), .int (zI (b)), .int (zI (g)), .int (zI (d))]) (zQl D cy bs N kd len (fun r st => (((st.2.2) = wgR Z q R i (a) (b)) ∧ r = rOwn Z q (a) (b) (g) (d) ∧ qK X (st.1) i))) 0 0 (zA bs) := w_X10_own hC a ha b hb g hg d hd (v_X10_own a ha b hb g hg d hd hp)
