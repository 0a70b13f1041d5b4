/-! LAWS -/
section LW
variable {N : Nat} {kd len : Nat → Nat} {R : Nat → Int → Option Nat} {i : Nat}
theorem zLw_n0 (h : zLaws N kd len R i) : i + 49 < N := by have := h.2.1; omega
theorem zLw_k0 (h : zLaws N kd len R i) : kd (i + 49) = 4 := h.2.2.1
theorem zLw_r0 (h : zLaws N kd len R i) : R (i + 49) 0 = some i := h.2.2.2.1
theorem zLw_r1 (h : zLaws N kd len R i) : R (i + 49) 1 = some (i + 47) := h.2.2.2.2.1
theorem zLw_nt (h : zLaws N kd len R i) : i + 50 < N := by have := h.2.1; omega
theorem zLw_t (h : zLaws N kd len R i) : kd (i + 50) = 21 ∧ len (i + 50) = 36 ∧ R (i + 49) 2 = some (i + 50) := h.2.2.2.2.2.1
theorem zLw_lt (h : zLaws N kd len R i) : len (i + 50) = 36 := h.2.2.2.2.2.1.2.1
theorem zLw_ng (h : zLaws N kd len R i) : i + 87 < N := by have := h.2.1; omega
theorem zLw_g (h : zLaws N kd len R i) : kd (i + 87) = 13 ∧ len (i + 87) = 16 ∧ R (i + 49) 3 = some (i + 87) := h.2.2.2.2.2.2.1
theorem zLw_lg (h : zLaws N kd len R i) : len (i + 87) = 16 := h.2.2.2.2.2.2.1.2.1
theorem zLw_nn (h : zLaws N kd len R i) : i + 88 < N := h.2.1
theorem zLw_m (h : zLaws N kd len R i) : kd (i + 88) = 13 ∧ len (i + 88) = 36 ∧ R (i + 49) 4 = some (i + 88) := h.2.2.2.2.2.2.2.1
theorem zLw_lm (h : zLaws N kd len R i) : len (i + 88) = 36 := h.2.2.2.2.2.2.2.1.2.1
theorem zLw_z (h : zLaws N kd len R i) {z : Int} (h0 : 0 ≤ z) (h1 : z < 36) : R (i + 50) z = some (i + 51 + z.toNat) ∧ i + 51 + z.toNat < N ∧ kd (i + 51 + z.toNat) = 13 ∧ len (i + 51 + z.toNat) = 41 := h.2.2.2.2.2.2.2.2 z h0 h1
end LW
/-- a row of tips -/
def zRw (N : Nat) (kd len : Nat → Nat) (v : Nat) : Prop := v < N ∧ kd v = 13 ∧ len v = 41
theorem zRw_l {N : Nat} {kd len : Nat → Nat} {v : Nat} (h : zRw N kd len v) : len v = 41 := h.2.2
/-- a log's rows -/
def lgR (Z : Nat → Int → Int) (q : Nat) (X : Nat → Int → Int) (j nn : Nat) : Prop := (oRw X j nn ∧ X j 0 = 2 ∧ X j 1 = 8) ∧ X j 2 = mLn Z q ∧ ∀ k : Nat, (k : Int) < mLn Z q → X (j + 1) (k * 2 + 0) = mLf Z q k 0 ∧ X (j + 1) (k * 2 + 1) = mLf Z q k 1 ∧ 0 ≤ mLf Z q k 0 ∧ mLf Z q k 0 ≤ 40
abbrev cX4_goThrough : ByteArray := prog_6_method_3_code
def yX4_goThrough : MethodName := ⟨RX4, "goThrough", "(LWorkChains$Rows;[I)V"⟩
theorem dX4_goThrough_0 : decode cX4_goThrough 0 = .ok (.iconst 1, 1) := by decide +kernel
theorem dX4_goThrough_1 : decode cX4_goThrough 1 = .ok (.istore_n 3, 1) := by decide +kernel
theorem dX4_goThrough_2 : decode cX4_goThrough 2 = .ok (.iconst 0, 1) := by decide +kernel
theorem dX4_goThrough_3 : decode cX4_goThrough 3 = .ok (.istore 4, 2) := by decide +kernel
theorem dX4_goThrough_5 : decode cX4_goThrough 5 = .ok (.iload 4, 2) := by decide +kernel
theorem dX4_goThrough_7 : decode cX4_goThrough 7 = .ok (.aload_n 2, 1) := by decide +kernel
theorem dX4_goThrough_8 : decode cX4_goThrough 8 = .ok (.arraylength, 1) := by decide +kernel
theorem dX4_goThrough_9 : decode cX4_goThrough 9 = .ok (.if_icmp .ge 80, 3) := by decide +kernel
theorem dX4_goThrough_12 : decode cX4_goThrough 12 = .ok (.iload 4, 2) := by decide +kernel
theorem dX4_goThrough_14 : decode cX4_goThrough 14 = .ok (.ifCond .le 50, 3) := by decide +kernel
theorem dX4_goThrough_17 : decode cX4_goThrough 17 = .ok (.iload_n 3, 1) := by decide +kernel
theorem dX4_goThrough_18 : decode cX4_goThrough 18 = .ok (.ifCond .eq 44, 3) := by decide +kernel
theorem dX4_goThrough_21 : decode cX4_goThrough 21 = .ok (.iload 4, 2) := by decide +kernel
theorem dX4_goThrough_23 : decode cX4_goThrough 23 = .ok (.aload_n 1, 1) := by decide +kernel
theorem dX4_goThrough_24 : decode cX4_goThrough 24 = .ok (.getfield 62, 3) := by decide +kernel
theorem dX4_goThrough_27 : decode cX4_goThrough 27 = .ok (.if_icmp .gt 35, 3) := by decide +kernel
theorem dX4_goThrough_30 : decode cX4_goThrough 30 = .ok (.aload_n 0, 1) := by decide +kernel
theorem dX4_goThrough_31 : decode cX4_goThrough 31 = .ok (.getfield 27, 3) := by decide +kernel
theorem dX4_goThrough_34 : decode cX4_goThrough 34 = .ok (.aload_n 1, 1) := by decide +kernel
theorem dX4_goThrough_35 : decode cX4_goThrough 35 = .ok (.iload 4, 2) := by decide +kernel
theorem dX4_goThrough_37 : decode cX4_goThrough 37 = .ok (.iconst 1, 1) := by decide +kernel
theorem dX4_goThrough_38 : decode cX4_goThrough 38 = .ok (.isub, 1) := by decide +kernel
theorem dX4_goThrough_39 : decode cX4_goThrough 39 = .ok (.iconst 0, 1) := by decide +kernel
theorem dX4_goThrough_40 : decode cX4_goThrough 40 = .ok (.invokevirtual 65, 3) := by decide +kernel
theorem dX4_goThrough_43 : decode cX4_goThrough 43 = .ok (.aload_n 1, 1) := by decide +kernel
theorem dX4_goThrough_44 : decode cX4_goThrough 44 = .ok (.iload 4, 2) := by decide +kernel
theorem dX4_goThrough_46 : decode cX4_goThrough 46 = .ok (.iconst 1, 1) := by decide +kernel
theorem dX4_goThrough_47 : decode cX4_goThrough 47 = .ok (.isub, 1) := by decide +kernel
theorem dX4_goThrough_48 : decode cX4_goThrough 48 = .ok (.iconst 1, 1) := by decide +kernel
theorem dX4_goThrough_49 : decode cX4_goThrough 49 = .ok (.invokevirtual 65, 3) := by decide +kernel
theorem dX4_goThrough_52 : decode cX4_goThrough 52 = .ok (.invokevirtual 69, 3) := by decide +kernel
theorem dX4_goThrough_55 : decode cX4_goThrough 55 = .ok (.ifCond .eq 7, 3) := by decide +kernel
theorem dX4_goThrough_58 : decode cX4_goThrough 58 = .ok (.iconst 1, 1) := by decide +kernel
theorem dX4_goThrough_59 : decode cX4_goThrough 59 = .ok (.goto 4, 3) := by decide +kernel
theorem dX4_goThrough_62 : decode cX4_goThrough 62 = .ok (.iconst 0, 1) := by decide +kernel
theorem dX4_goThrough_63 : decode cX4_goThrough 63 = .ok (.istore_n 3, 1) := by decide +kernel
theorem dX4_goThrough_64 : decode cX4_goThrough 64 = .ok (.aload_n 2, 1) := by decide +kernel
theorem dX4_goThrough_65 : decode cX4_goThrough 65 = .ok (.iload 4, 2) := by decide +kernel
theorem dX4_goThrough_67 : decode cX4_goThrough 67 = .ok (.iload_n 3, 1) := by decide +kernel
theorem dX4_goThrough_68 : decode cX4_goThrough 68 = .ok (.ifCond .eq 13, 3) := by decide +kernel
theorem dX4_goThrough_71 : decode cX4_goThrough 71 = .ok (.aload_n 0, 1) := by decide +kernel
theorem dX4_goThrough_72 : decode cX4_goThrough 72 = .ok (.getfield 27, 3) := by decide +kernel
theorem dX4_goThrough_75 : decode cX4_goThrough 75 = .ok (.getfield 73, 3) := by decide +kernel
theorem dX4_goThrough_78 : decode cX4_goThrough 78 = .ok (.goto 4, 3) := by decide +kernel
theorem dX4_goThrough_81 : decode cX4_goThrough 81 = .ok (.iconst (-1), 1) := by decide +kernel
theorem dX4_goThrough_82 : decode cX4_goThrough 82 = .ok (.iastore, 1) := by decide +kernel
theorem dX4_goThrough_83 : decode cX4_goThrough 83 = .ok (.iinc 4 1, 3) := by decide +kernel
theorem dX4_goThrough_86 : decode cX4_goThrough 86 = .ok (.goto (-81), 3) := by decide +kernel
theorem dX4_goThrough_89 : decode cX4_goThrough 89 = .ok (.return_, 1) := by decide +kernel
theorem q_515 : Cond.fieldLink RX4 27 RX4 "course" "LWorkChains$Course;" ∈ zTB := zmem 515 (by decide +kernel) rfl
theorem q_461 : Cond.fieldLink RX4 73 RX2 "tip" "I" ∈ zTB := zmem 461 (by decide +kernel) rfl
theorem q_266 : Cond.fieldLink RX4 62 RX8 "size" "I" ∈ zTB := zmem 266 (by decide +kernel) rfl
theorem q_1258 : Cond.methodLink RX4 65 yX8_part ∈ zTB := zmem 1258 (by decide +kernel) rfl
theorem k_RX4_65 : zLv RX4 65 RX8 yX8_part cX8_part 4 (some .int) 2 := ⟨⟨q_1258, q_874, q_875, q_133, q_876⟩, rfl, ⟨by decide, by decide⟩, by decide +kernel⟩
theorem q_1259 : Cond.methodLink RX4 69 yX2_act ∈ zTB := zmem 1259 (by decide +kernel) rfl
theorem k_RX4_69 : zLv RX4 69 RX2 yX2_act cX2_act 3 (some .boolean) 2 := ⟨⟨q_1259, q_966, q_967, q_137, q_968⟩, rfl, ⟨by decide, by decide⟩, by decide +kernel⟩
def F_X4_goThrough (i : Nat) (Z : Nat → Int → Int) (q : Nat) (j nn v : Nat) (X Y : Nat → Int → Int) (R : Nat → Int → Option Nat)  : Prop := (∀ i j, rI (X i j)) → (∀ i j, rL (Y i j)) → (∃ kn : Nat, (0 : Int) = kn ∧ kn ≤ 41 ∧ (∀ z, z ≠ i + 16 → z ≠ i + 47 → z ≠ i + 48 → z ≠ v → X z = X z) ∧ (X (i + 47) 1 = X (i + 47) 1 ∧ 0 ≤ X (i + 47) 9 ∧ X (i + 47) 9 ≤ kn) ∧ (∀ z, z ≠ i + 15 → Y z = Y z) ∧ ∀ t, coS Z q X i 1 t → true = (csSq (cx9 Z q (X (i + 47) 1)) (fW Z q) (fV Z q) (mDn Z q) t (kn - 1)).1 ∧ coS Z q X i (1 + 15 * (kn : Int)) (csSq (cx9 Z q (X (i + 47) 1)) (fW Z q) (fV Z q) (mDn Z q) t (kn - 1)).2 ∧ ∀ y : Nat, y < kn → X v y = csTa (cx9 Z q (X (i + 47) 1)) (fW Z q) (fV Z q) (mDn Z q) t y) ∧ (∀ (ok : Bool) (k : Int) (X2 : Nat → Int → Int) (Y3 : Nat → Int → Int), rI k → (∀ i j, rI (X2 i j)) → (∀ i j, rL (Y3 i j)) → (∃ kn : Nat, k = kn ∧ kn ≤ 41 ∧ (∀ z, z ≠ i + 16 → z ≠ i + 47 → z ≠ i + 48 → z ≠ v → X2 z = X z) ∧ (X2 (i + 47) 1 = X (i + 47) 1 ∧ 0 ≤ X2 (i + 47) 9 ∧ X2 (i + 47) 9 ≤ kn) ∧ (∀ z, z ≠ i + 15 → Y3 z = Y z) ∧ ∀ t, coS Z q X i 1 t → ok = (csSq (cx9 Z q (X (i + 47) 1)) (fW Z q) (fV Z q) (mDn Z q) t (kn - 1)).1 ∧ coS Z q X2 i (1 + 15 * (kn : Int)) (csSq (cx9 Z q (X (i + 47) 1)) (fW Z q) (fV Z q) (mDn Z q) t (kn - 1)).2 ∧ ∀ y : Nat, y < kn → X2 v y = csTa (cx9 Z q (X (i + 47) 1)) (fW Z q) (fV Z q) (mDn Z q) t y) → (((((41 : Nat) : Int) ≤ k) → ((∀ z, z ≠ i + 16 → z ≠ i + 47 → z ≠ i + 48 → z ≠ v → (X2) z = X z) ∧ (∀ z, z ≠ i + 15 → (Y3) z = Y z) ∧ ∀ t, coS Z q X i 1 t → ∀ y : Nat, y < 41 → (X2) v y = csTa (cx9 Z q (X (i + 47) 1)) (fW Z q) (fV Z q) (mDn Z q) t y)) ∧ ((¬ (((41 : Nat) : Int) ≤ k)) → ((∀ (ok2 : Bool) (X5 : Nat → Int → Int) (Y6 : Nat → Int → Int), (∀ i j, rI (X5 i j)) → (∀ i j, rL (Y6 i j)) → ((∀ z, z ≠ i + 16 → z ≠ i + 47 → z ≠ i + 48 → z ≠ v → X5 z = X z) ∧ (X5 (i + 47) 1 = X (i + 47) 1 ∧ 0 ≤ X5 (i + 47) 9 ∧ X5 (i + 47) 9 ≤ k + 1) ∧ (∀ z, z ≠ i + 15 → Y6 z = Y z) ∧ X5 v = X2 v ∧ ∀ t, coS Z q X i 1 t → ok2 = (csSq (cx9 Z q (X (i + 47) 1)) (fW Z q) (fV Z q) (mDn Z q) t k.toNat).1 ∧ coS Z q X5 i (1 + 15 * (k + 1)) (csSq (cx9 Z q (X (i + 47) 1)) (fW Z q) (fV Z q) (mDn Z q) t k.toNat).2) → (((ok2 = false) → ((0 ≤ k ∧ k < 41) ∧ (∀ X9 : Nat → Int → Int, X9 = zU X5 (v) (k) ((-1)) → (∀ i j, rI (X9 i j)) → ((rI (k + 1)) ∧ (∃ kn : Nat, (k + 1) = kn ∧ kn ≤ 41 ∧ (∀ z, z ≠ i + 16 → z ≠ i + 47 → z ≠ i + 48 → z ≠ v → X9 z = X z) ∧ (X9 (i + 47) 1 = X (i + 47) 1 ∧ 0 ≤ X9 (i + 47) 9 ∧ X9 (i + 47) 9 ≤ kn) ∧ (∀ z, z ≠ i + 15 → Y6 z = Y z) ∧ ∀ t, coS Z q X i 1 t → ok2 = (csSq (cx9 Z q (X (i + 47) 1)) (fW Z q) (fV Z q) (mDn Z q) t (kn - 1)).1 ∧ coS Z q X9 i (1 + 15 * (kn : Int)) (csSq (cx9 Z q (X (i + 47) 1)) (fW Z q) (fV Z q) (mDn Z q) t (kn - 1)).2 ∧ ∀ y : Nat, y < kn → X9 v y = csTa (cx9 Z q (X (i + 47) 1)) (fW Z q) (fV Z q) (mDn Z q) t y) ∧ (((50 - (k + 1)).toNat) < ((50 - k).toNat)))))) ∧ ((ok2 = true) → ((0 ≤ k ∧ k < 41) ∧ (∀ X12 : Nat → Int → Int, X12 = zU X5 (v) (k) (X5 (i + 47) 8) → (∀ i j, rI (X12 i j)) → ((rI (k + 1)) ∧ (∃ kn : Nat, (k + 1) = kn ∧ kn ≤ 41 ∧ (∀ z, z ≠ i + 16 → z ≠ i + 47 → z ≠ i + 48 → z ≠ v → X12 z = X z) ∧ (X12 (i + 47) 1 = X (i + 47) 1 ∧ 0 ≤ X12 (i + 47) 9 ∧ X12 (i + 47) 9 ≤ kn) ∧ (∀ z, z ≠ i + 15 → Y6 z = Y z) ∧ ∀ t, coS Z q X i 1 t → ok2 = (csSq (cx9 Z q (X (i + 47) 1)) (fW Z q) (fV Z q) (mDn Z q) t (kn - 1)).1 ∧ coS Z q X12 i (1 + 15 * (kn : Int)) (csSq (cx9 Z q (X (i + 47) 1)) (fW Z q) (fV Z q) (mDn Z q) t (kn - 1)).2 ∧ ∀ y : Nat, y < kn → X12 v y = csTa (cx9 Z q (X (i + 47) 1)) (fW Z q) (fV Z q) (mDn Z q) t y) ∧ (((50 - (k + 1)).toNat) < ((50 - k).toNat)))))))) ∧ (((k ≤ 0) → ((∀ z, z ≠ i + 16 → z ≠ i + 47 → z ≠ i + 48 → z ≠ v → X2 z = X z) ∧ (X2 (i + 47) 1 = X (i + 47) 1 ∧ 0 ≤ X2 (i + 47) 9 ∧ X2 (i + 47) 9 ≤ k + 1) ∧ (∀ z, z ≠ i + 15 → Y3 z = Y z) ∧ X2 v = X2 v ∧ ∀ t, coS Z q X i 1 t → ok = (csSq (cx9 Z q (X (i + 47) 1)) (fW Z q) (fV Z q) (mDn Z q) t k.toNat).1 ∧ coS Z q X2 i (1 + 15 * (k + 1)) (csSq (cx9 Z q (X (i + 47) 1)) (fW Z q) (fV Z q) (mDn Z q) t k.toNat).2)) ∧ ((¬ (k ≤ 0)) → (((ok = false) → ((∀ z, z ≠ i + 16 → z ≠ i + 47 → z ≠ i + 48 → z ≠ v → X2 z = X z) ∧ (X2 (i + 47) 1 = X (i + 47) 1 ∧ 0 ≤ X2 (i + 47) 9 ∧ X2 (i + 47) 9 ≤ k + 1) ∧ (∀ z, z ≠ i + 15 → Y3 z = Y z) ∧ X2 v = X2 v ∧ ∀ t, coS Z q X i 1 t → false = (csSq (cx9 Z q (X (i + 47) 1)) (fW Z q) (fV Z q) (mDn Z q) t k.toNat).1 ∧ coS Z q X2 i (1 + 15 * (k + 1)) (csSq (cx9 Z q (X (i + 47) 1)) (fW Z q) (fV Z q) (mDn Z q) t k.toNat).2)) ∧ ((ok = true) → ((((X2 (j) 2) < k) → ((∀ z, z ≠ i + 16 → z ≠ i + 47 → z ≠ i + 48 → z ≠ v → X2 z = X z) ∧ (X2 (i + 47) 1 = X (i + 47) 1 ∧ 0 ≤ X2 (i + 47) 9 ∧ X2 (i + 47) 9 ≤ k + 1) ∧ (∀ z, z ≠ i + 15 → Y3 z = Y z) ∧ X2 v = X2 v ∧ ∀ t, coS Z q X i 1 t → false = (csSq (cx9 Z q (X (i + 47) 1)) (fW Z q) (fV Z q) (mDn Z q) t k.toNat).1 ∧ coS Z q X2 i (1 + 15 * (k + 1)) (csSq (cx9 Z q (X (i + 47) 1)) (fW Z q) (fV Z q) (mDn Z q) t k.toNat).2)) ∧ ((¬ ((X2 (j) 2) < k)) → ((rI (k - 1)) ∧ ((oRw X2 j nn ∧ (0 ≤ (k - 1) ∧ (k - 1) < X2 j 1) ∧ 0 ≤ (0 : Int) ∧ (0 : Int) < X2 j 0) ∧ (rI (X2 (j + 1) (((k - 1)) * X2 j 0 + ((0 : Int)))) → ((oRw X2 j nn ∧ (0 ≤ (k - 1) ∧ (k - 1) < X2 j 1) ∧ 0 ≤ (1 : Int) ∧ (1 : Int) < X2 j 0) ∧ (rI (X2 (j + 1) (((k - 1)) * X2 j 0 + ((1 : Int)))) → (((cA Z q X2 Y3 R i ∧ (0 ≤ X2 (i + 47) 9 ∧ X2 (i + 47) 9 ≤ 100000)) ∧ ((0 ≤ ((X2 (j + 1) (((k - 1)) * X2 j 0 + ((0 : Int))))) ∧ ((X2 (j + 1) (((k - 1)) * X2 j 0 + ((0 : Int))))) ≤ 3) ∧ (((X2 (j + 1) (((k - 1)) * X2 j 0 + ((0 : Int))))) = 3 → 0 ≤ ((X2 (j + 1) (((k - 1)) * X2 j 0 + ((1 : Int))))) ∧ ((X2 (j + 1) (((k - 1)) * X2 j 0 + ((1 : Int))))) ≤ 1)) ∧ ∃ bb t, bb ≤ 900000 ∧ coS Z q X2 i bb t) ∧ (∀ r25 : Bool, ∀ X23 : Nat → Int → Int, (∀ i j, rI (X23 i j)) → ∀ Y24 : Nat → Int → Int, (∀ i j, rL (Y24 i j)) → (r25 = csOk (Z q 27).toNat (coX X2 i) ((X2 (j + 1) (((k - 1)) * X2 j 0 + ((0 : Int))))) ((X2 (j + 1) (((k - 1)) * X2 j 0 + ((1 : Int))))) ∧ (r25 = false → (X23) = X2 ∧ (Y24) = Y3) ∧ (r25 = true → cfK X2 (X23) Y3 (Y24) i ∧ ac14 X2 (X23) i ∧ ∀ bb t, coS Z q X2 i bb t → coS Z q (X23) i (bb + 15) (csDo (cx9 Z q (X2 (i + 47) 1)) t ((X2 (j + 1) (((k - 1)) * X2 j 0 + ((0 : Int))))) ((X2 (j + 1) (((k - 1)) * X2 j 0 + ((1 : Int)))))))) → (((r25 = false) → ((∀ z, z ≠ i + 16 → z ≠ i + 47 → z ≠ i + 48 → z ≠ v → X23 z = X z) ∧ (X23 (i + 47) 1 = X (i + 47) 1 ∧ 0 ≤ X23 (i + 47) 9 ∧ X23 (i + 47) 9 ≤ k + 1) ∧ (∀ z, z ≠ i + 15 → Y24 z = Y z) ∧ X23 v = X2 v ∧ ∀ t, coS Z q X i 1 t → false = (csSq (cx9 Z q (X (i + 47) 1)) (fW Z q) (fV Z q) (mDn Z q) t k.toNat).1 ∧ coS Z q X23 i (1 + 15 * (k + 1)) (csSq (cx9 Z q (X (i + 47) 1)) (fW Z q) (fV Z q) (mDn Z q) t k.toNat).2)) ∧ ((r25 = true) → ((∀ z, z ≠ i + 16 → z ≠ i + 47 → z ≠ i + 48 → z ≠ v → X23 z = X z) ∧ (X23 (i + 47) 1 = X (i + 47) 1 ∧ 0 ≤ X23 (i + 47) 9 ∧ X23 (i + 47) 9 ≤ k + 1) ∧ (∀ z, z ≠ i + 15 → Y24 z = Y z) ∧ X23 v = X2 v ∧ ∀ t, coS Z q X i 1 t → true = (csSq (cx9 Z q (X (i + 47) 1)) (fW Z q) (fV Z q) (mDn Z q) t k.toNat).1 ∧ coS Z q X23 i (1 + 15 * (k + 1)) (csSq (cx9 Z q (X (i + 47) 1)) (fW Z q) (fV Z q) (mDn Z q) t k.toNat).2))))))))))))))))))))
set_option maxHeartbeats 4000000 in
set_option maxRecDepth 100000 in
theorem w_X4_goThrough {l : Launch} {D : va_G} {cy : Nat → ClassId} {bs N : Nat} {sa : Nat → Nat} {kd len : Nat → Nat} {X Y : Nat → Int → Int} {R : Nat → Int → Option Nat} {i : Nat} {Z : Nat → Int → Int} {q : Nat} (hC : zLaws N kd len R i) {j nn v : Nat} (hR : zRows N kd len R j nn) (hsm : len (j + 1) < 2147483648) (hv : zRw N kd len v)  (hF : F_X4_goThrough i Z q j nn v X Y R ) : Met l yX4_goThrough (.code yX4_goThrough cX4_goThrough 5 none :: zTB) (zRm 3 104) (zPc D cy bs sa N kd len X Y R [.ref (bs + (i + 49)), .ref (bs + (j)), .ref (bs + (v))]) (zQv D cy bs N kd len (fun st => st.2.2 = R ∧ ((∀ z, z ≠ i + 16 → z ≠ i + 47 → z ≠ i + 48 → z ≠ v → (st.1) z = X z) ∧ (∀ z, z ≠ i + 15 → (st.2.1) z = Y z) ∧ ∀ t, coS Z q X i 1 t → ∀ y : Nat, y < 41 → (st.1) v y = csTa (cx9 Z q (X (i + 47) 1)) (fW Z q) (fV Z q) (mDn Z q) t y))) 0 0 (zA bs) := by
  refine zstart (by decide) (Nat.le_of_ble_eq_true rfl) ?_
  intro p e s m args below meth c ls C hE hH hr hlk hnm hl hargs
  have hF := hF hH.2.2.1 hH.2.2.2
  have hS : va_S (zA bs) s.heap s.heap [] := va_S.rf
  have hl : lv_has ls 5 [(0, .ref (bs + (i + 49))), (1, .ref (bs + (j))), (2, .ref (bs + (v)))] := hl
  refine zd_iconst C dX4_goThrough_0 ?_
  refine lv_istore_n (lv' := [(3, .int (zI (1))), (0, .ref (bs + (i + 49))), (1, .ref (bs + (j))), (2, .ref (bs + (v)))]) C.1 C.2.1 dX4_goThrough_1 rfl hl (by decide) rfl (fun ls hl => ?_)
  refine zd_iconst C dX4_goThrough_2 ?_
  refine lv_istore (lv' := [(4, .int (zI (0))), (3, .int (zI (1))), (0, .ref (bs + (i + 49))), (1, .ref (bs + (j))), (2, .ref (bs + (v)))]) C.1 C.2.1 dX4_goThrough_3 hl (by decide) rfl (fun ls hl => ?_)
  obtain ⟨hI1, hF⟩ := hF
  have L1 : ∀ (fu : Nat) (ok : Bool) (k : Int) (X2 : Nat → Int → Int) (Y3 : Nat → Int → Int), rI k → (∃ kn : Nat, k = kn ∧ kn ≤ 41 ∧ (∀ z, z ≠ i + 16 → z ≠ i + 47 → z ≠ i + 48 → z ≠ v → X2 z = X z) ∧ (X2 (i + 47) 1 = X (i + 47) 1 ∧ 0 ≤ X2 (i + 47) 9 ∧ X2 (i + 47) 9 ≤ kn) ∧ (∀ z, z ≠ i + 15 → Y3 z = Y z) ∧ ∀ t, coS Z q X i 1 t → ok = (csSq (cx9 Z q (X (i + 47) 1)) (fW Z q) (fV Z q) (mDn Z q) t (kn - 1)).1 ∧ coS Z q X2 i (1 + 15 * (kn : Int)) (csSq (cx9 Z q (X (i + 47) 1)) (fW Z q) (fV Z q) (mDn Z q) t (kn - 1)).2 ∧ ∀ y : Nat, y < kn → X2 v y = csTa (cx9 Z q (X (i + 47) 1)) (fW Z q) (fV Z q) (mDn Z q) t y) → ((50 - k).toNat) < fu → ∀ (H : Heap) (locs : List Loc) (ls : Array Slot), zH D cy bs N kd len X2 Y3 R H → va_S (zA bs) s.heap H locs → lv_has ls 5 [(3, .int (zI (bz (ok)))), (4, .int (zI (k))), (0, .ref (bs + (i + 49))), (1, .ref (bs + (j))), (2, .ref (bs + (v)))] → W p l e (zRm 3 104) s m args below meth c H locs 0 0 (MQ below (zQv D cy bs N kd len (fun st => st.2.2 = R ∧ ((∀ z, z ≠ i + 16 → z ≠ i + 47 → z ≠ i + 48 → z ≠ v → (st.1) z = X z) ∧ (∀ z, z ≠ i + 15 → (st.2.1) z = Y z) ∧ ∀ t, coS Z q X i 1 t → ∀ y : Nat, y < 41 → (st.1) v y = csTa (cx9 Z q (X (i + 47) 1)) (fW Z q) (fV Z q) (mDn Z q) t y))) args s 0 0 (zA bs)) (F0 m 5 ls []) := by
    intro fu
    induction fu with
    | zero => intro ok k X2 Y3 _ _ hmu; exact absurd hmu (Nat.not_lt_zero _)
    | succ fu ih1 =>
      intro ok k X2 Y3 hk hI hmu1 H locs ls hH hS hl
      have hF := hF ok k X2 Y3 hk hH.2.2.1 hH.2.2.2 hI
      refine lv_iload C.1 C.2.1 dX4_goThrough_5 (lv_at hl 1 rfl) ?_
      refine lv_aload_n C.1 C.2.1 dX4_goThrough_7 rfl (lv_at hl 4 rfl) ?_
      refine zd_alen C hH hv.1 (t0 := 1) (by rw [hv.2.1]; rfl) rfl rfl dX4_goThrough_8 ?_
      rw [zRw_l hv]
      refine zd_icmp_ge C hk (by decide) 89 dX4_goThrough_9 (by decide) (fun c4 => ?_) (fun c4 => ?_)
      · have hF := hF.1 c4
        exact zd_vret C hr hlk hH hS (⟨rfl, hF⟩) dX4_goThrough_89
      · have hF := hF.2 c4
        have J1 : ∀ (ok2 : Bool) (X5 : Nat → Int → Int) (Y6 : Nat → Int → Int), ((∀ z, z ≠ i + 16 → z ≠ i + 47 → z ≠ i + 48 → z ≠ v → X5 z = X z) ∧ (X5 (i + 47) 1 = X (i + 47) 1 ∧ 0 ≤ X5 (i + 47) 9 ∧ X5 (i + 47) 9 ≤ k + 1) ∧ (∀ z, z ≠ i + 15 → Y6 z = Y z) ∧ X5 v = X2 v ∧ ∀ t, coS Z q X i 1 t → ok2 = (csSq (cx9 Z q (X (i + 47) 1)) (fW Z q) (fV Z q) (mDn Z q) t k.toNat).1 ∧ coS Z q X5 i (1 + 15 * (k + 1)) (csSq (cx9 Z q (X (i + 47) 1)) (fW Z q) (fV Z q) (mDn Z q) t k.toNat).2) → ∀ (H : Heap) (locs : List Loc) (ls : Array Slot), zH D cy bs N kd len X5 Y6 R H → va_S (zA bs) s.heap H locs → lv_has ls 5 [(3, .int (zI (bz (ok2)))), (4, .int (zI (k))), (0, .ref (bs + (i + 49))), (1, .ref (bs + (j))), (2, .ref (bs + (v)))] → W p l e (zRm 3 104) s m args below meth c H locs 0 0 (MQ below (zQv D cy bs N kd len (fun st => st.2.2 = R ∧ ((∀ z, z ≠ i + 16 → z ≠ i + 47 → z ≠ i + 48 → z ≠ v → (st.1) z = X z) ∧ (∀ z, z ≠ i + 15 → (st.2.1) z = Y z) ∧ ∀ t, coS Z q X i 1 t → ∀ y : Nat, y < 41 → (st.1) v y = csTa (cx9 Z q (X (i + 47) 1)) (fW Z q) (fV Z q) (mDn Z q) t y))) args s 0 0 (zA bs)) (F0 m 64 ls []) := by
          intro ok2 X5 Y6  hI H locs ls hH hS hl
          have hF := hF.1 ok2 X5 Y6  hH.2.2.1 hH.2.2.2 hI
          refine lv_aload_n C.1 C.2.1 dX4_goThrough_64 rfl (lv_at hl 4 rfl) ?_
          refine lv_iload C.1 C.2.1 dX4_goThrough_65 (lv_at hl 1 rfl) ?_
          refine lv_iload_n C.1 C.2.1 dX4_goThrough_67 rfl (lv_at hl 0 rfl) ?_
          refine zd_ifB_eq C 81 dX4_goThrough_68 (by decide) (fun c7 => ?_) (fun c7 => ?_)
          · have hF := hF.1 c7
            refine zd_iconst C dX4_goThrough_81 ?_
            obtain ⟨o8, hF⟩ := hF
            refine zd_iast C hH hS hv.1 hv.2.1 o8.1 (by rw [zRw_l hv]; exact o8.2) (by rw [zRw_l hv]; decide) (by decide) dX4_goThrough_82 (fun H locs hH hS => ?_)
            obtain ⟨X9, eX9⟩ : ∃ z, z = zU X5 (v) (k) ((-1)) := ⟨_, rfl⟩
            rw [← eX9] at hH
            have hF := hF X9 eX9 hH.2.2.1
            refine zd_iinc (k := 1) (lv' := [(4, .int (zI (k + 1))), (3, .int (zI (bz (ok2)))), (0, .ref (bs + (i + 49))), (1, .ref (bs + (j))), (2, .ref (bs + (v)))]) C hl rfl dX4_goThrough_83 (by decide) rfl (fun ls hl => ?_)
            refine lv_goto (tgt := 5) C.1 C.2.1 dX4_goThrough_86 (by decide) ?_
            obtain ⟨o10, hF⟩ := hF
            exact ih1 (ok2) (k + 1) X9 Y6 o10 hF.1 (Nat.lt_of_lt_of_le hF.2 (Nat.le_of_lt_succ hmu1)) _ _ _ hH hS (lv_sub hl [1, 0, 2, 3, 4] rfl)
          · have hF := hF.2 c7
            refine lv_aload_n C.1 C.2.1 dX4_goThrough_71 rfl (lv_at hl 2 rfl) ?_
            refine zg4_1 C hH (zLw_n0 hC) (zLw_k0 hC) q_515 (zLw_r1 hC) dX4_goThrough_72 ?_
            refine zg2_8 C hH (zCo_n hC.1) (zCo_k hC.1) q_461 dX4_goThrough_75 ?_
            refine lv_goto (tgt := 82) C.1 C.2.1 dX4_goThrough_78 (by decide) ?_
            obtain ⟨o11, hF⟩ := hF
            refine zd_iast C hH hS hv.1 hv.2.1 o11.1 (by rw [zRw_l hv]; exact o11.2) (by rw [zRw_l hv]; decide) (hH.2.2.1 _ _) dX4_goThrough_82 (fun H locs hH hS => ?_)
            obtain ⟨X12, eX12⟩ : ∃ z, z = zU X5 (v) (k) (X5 (i + 47) 8) := ⟨_, rfl⟩
            rw [← eX12] at hH
            have hF := hF X12 eX12 hH.2.2.1
            refine zd_iinc (k := 1) (lv' := [(4, .int (zI (k + 1))), (3, .int (zI (bz (ok2)))), (0, .ref (bs + (i + 49))), (1, .ref (bs + (j))), (2, .ref (bs + (v)))]) C hl rfl dX4_goThrough_83 (by decide) rfl (fun ls hl => ?_)
            refine lv_goto (tgt := 5) C.1 C.2.1 dX4_goThrough_86 (by decide) ?_
            obtain ⟨o13, hF⟩ := hF
            exact ih1 (ok2) (k + 1) X12 Y6 o13 hF.1 (Nat.lt_of_lt_of_le hF.2 (Nat.le_of_lt_succ hmu1)) _ _ _ hH hS (lv_sub hl [1, 0, 2, 3, 4] rfl)
        have hF := hF.2
        refine lv_iload C.1 C.2.1 dX4_goThrough_12 (lv_at hl 1 rfl) ?_
        refine zd_if_le C hk 64 dX4_goThrough_14 (by decide) (fun c14 => ?_) (fun c14 => ?_)
        · have hF := hF.1 c14
          exact J1 (ok) X2 Y3  hF _ _ _ hH hS (lv_sub hl [0, 1, 2, 3, 4] rfl)
        · have hF := hF.2 c14
          refine lv_iload_n C.1 C.2.1 dX4_goThrough_17 rfl (lv_at hl 0 rfl) ?_
          refine zd_ifB_eq C 62 dX4_goThrough_18 (by decide) (fun c15 => ?_) (fun c15 => ?_)
          · have hF := hF.1 c15
            refine zd_iconst C dX4_goThrough_62 ?_
            refine lv_istore_n (lv' := [(3, .int (zI (0))), (4, .int (zI (k))), (0, .ref (bs + (i + 49))), (1, .ref (bs + (j))), (2, .ref (bs + (v)))]) C.1 C.2.1 dX4_goThrough_63 rfl hl (by decide) rfl (fun ls hl => ?_)
            exact J1 (false) X2 Y3  hF _ _ _ hH hS (lv_sub hl [0, 1, 2, 3, 4] rfl)
          · have hF := hF.2 c15
            refine lv_iload C.1 C.2.1 dX4_goThrough_21 (lv_at hl 1 rfl) ?_
            refine lv_aload_n C.1 C.2.1 dX4_goThrough_23 rfl (lv_at hl 3 rfl) ?_
            refine zg8_2 C hH (zRows_n0 hR) (zRows_k0 hR) q_266 dX4_goThrough_24 ?_
            refine zd_icmp_gt C hk (hH.2.2.1 _ _) 62 dX4_goThrough_27 (by decide) (fun c16 => ?_) (fun c16 => ?_)
            · have hF := hF.1 c16
              refine zd_iconst C dX4_goThrough_62 ?_
              refine lv_istore_n (lv' := [(3, .int (zI (0))), (4, .int (zI (k))), (0, .ref (bs + (i + 49))), (1, .ref (bs + (j))), (2, .ref (bs + (v)))]) C.1 C.2.1 dX4_goThrough_63 rfl hl (by decide) rfl (fun ls hl => ?_)
              exact J1 (false) X2 Y3  hF _ _ _ hH hS (lv_sub hl [0, 1, 2, 3, 4] rfl)
            · have hF := hF.2 c16
              refine lv_aload_n C.1 C.2.1 dX4_goThrough_30 rfl (lv_at hl 2 rfl) ?_
              refine zg4_1 C hH (zLw_n0 hC) (zLw_k0 hC) q_515 (zLw_r1 hC) dX4_goThrough_31 ?_
              refine lv_aload_n C.1 C.2.1 dX4_goThrough_34 rfl (lv_at hl 3 rfl) ?_
              refine lv_iload C.1 C.2.1 dX4_goThrough_35 (lv_at hl 1 rfl) ?_
              refine zd_iconst C dX4_goThrough_37 ?_
              refine zd_isub C dX4_goThrough_38 ?_
              refine zd_iconst C dX4_goThrough_39 ?_
              obtain ⟨o17, hF⟩ := hF
              obtain ⟨o18, hF⟩ := hF
              refine zgoi (zrunV (As := [.int (zI (k - 1)), .int (zI (0))]) (rest := [.ref (bs + (i + 47))]) C hE hH hS hl.1 (c_X8_part (l := l) hR hsm (k - 1) o17 (0) (by decide) o18) k_RX4_65 ⟨Nat.le_of_ble_eq_true rfl, Nat.le_of_ble_eq_true rfl⟩ (zRows_n0 hR) (zRows_k0 hR) rfl rfl rfl (Nat.le_of_ble_eq_true rfl) dX4_goThrough_40 ⟨Nat.zero_le _, Nat.zero_le _⟩) hS (fun rq Xq Yq Rq H locs hrq hq hH hS => ?_)
              obtain ⟨h91, h92⟩ := hq
              have h93 : Xq = X2 := congrArg (fun z => z.1) h92
              have h94 : Yq = Y3 := congrArg (fun z => z.2.1) h92
              have h95 : Rq = R := congrArg (fun z => z.2.2) h92
              rw [h93, h94, h95] at hH
              subst h91
              have hr19 := hrq
              have hF := hF hr19
              refine lv_aload_n C.1 C.2.1 dX4_goThrough_43 rfl (lv_at hl 3 rfl) ?_
              refine lv_iload C.1 C.2.1 dX4_goThrough_44 (lv_at hl 1 rfl) ?_
              refine zd_iconst C dX4_goThrough_46 ?_
              refine zd_isub C dX4_goThrough_47 ?_
              refine zd_iconst C dX4_goThrough_48 ?_
              obtain ⟨o20, hF⟩ := hF
              refine zgoi (zrunV (As := [.int (zI (k - 1)), .int (zI (1))]) (rest := [.int (zI (X2 (j + 1) (((k - 1)) * X2 j 0 + ((0 : Int))))), .ref (bs + (i + 47))]) C hE hH hS hl.1 (c_X8_part (l := l) hR hsm (k - 1) o17 (1) (by decide) o20) k_RX4_65 ⟨Nat.le_of_ble_eq_true rfl, Nat.le_of_ble_eq_true rfl⟩ (zRows_n0 hR) (zRows_k0 hR) rfl rfl rfl (Nat.le_of_ble_eq_true rfl) dX4_goThrough_49 ⟨Nat.zero_le _, Nat.zero_le _⟩) hS (fun rq Xq Yq Rq H locs hrq hq hH hS => ?_)
              obtain ⟨h91, h92⟩ := hq
              have h93 : Xq = X2 := congrArg (fun z => z.1) h92
              have h94 : Yq = Y3 := congrArg (fun z => z.2.1) h92
              have h95 : Rq = R := congrArg (fun z => z.2.2) h92
              rw [h93, h94, h95] at hH
              subst h91
              have hr21 := hrq
              have hF := hF hr21
              obtain ⟨o22, hF⟩ := hF
              refine zgoi (zrunV (As := [.int (zI (X2 (j + 1) (((k - 1)) * X2 j 0 + ((0 : Int))))), .int (zI (X2 (j + 1) (((k - 1)) * X2 j 0 + ((1 : Int)))))]) (rest := []) C hE hH hS hl.1 (c_X2_act (l := l) hC.1 (X2 (j + 1) (((k - 1)) * X2 j 0 + ((0 : Int)))) hr19 (X2 (j + 1) (((k - 1)) * X2 j 0 + ((1 : Int)))) hr21 o22) k_RX4_69 ⟨Nat.le_of_ble_eq_true rfl, Nat.le_of_ble_eq_true rfl⟩ (zCo_n hC.1) (zCo_k hC.1) rfl rfl rfl (Nat.le_of_ble_eq_true rfl) dX4_goThrough_52 ⟨Nat.zero_le _, Nat.zero_le _⟩) hS (fun rq X23 Y24 Rq H locs hrq hq hH hS => ?_)
              obtain ⟨h9R, hq⟩ := hq
              dsimp only at h9R
              rw [h9R] at hH
              obtain ⟨r25, h91, hq⟩ := hq
              subst h91
              have hF := hF r25 X23 hH.2.2.1 Y24 hH.2.2.2 hq
              refine zd_ifB_eq C 62 dX4_goThrough_55 (by decide) (fun c26 => ?_) (fun c26 => ?_)
              · have hF := hF.1 c26
                refine zd_iconst C dX4_goThrough_62 ?_
                refine lv_istore_n (lv' := [(3, .int (zI (0))), (4, .int (zI (k))), (0, .ref (bs + (i + 49))), (1, .ref (bs + (j))), (2, .ref (bs + (v)))]) C.1 C.2.1 dX4_goThrough_63 rfl hl (by decide) rfl (fun ls hl => ?_)
                exact J1 (false) X23 Y24  hF _ _ _ hH hS (lv_sub hl [0, 1, 2, 3, 4] rfl)
              · have hF := hF.2 c26
                refine zd_iconst C dX4_goThrough_58 ?_
                refine lv_goto (tgt := 63) C.1 C.2.1 dX4_goThrough_59 (by decide) ?_
                refine lv_istore_n (lv' := [(3, .int (zI (1))), (4, .int (zI (k))), (0, .ref (bs + (i + 49))), (1, .ref (bs + (j))), (2, .ref (bs + (v)))]) C.1 C.2.1 dX4_goThrough_63 rfl hl (by decide) rfl (fun ls hl => ?_)
                exact J1 (true) X23 Y24  hF _ _ _ hH hS (lv_sub hl [0, 1, 2, 3, 4] rfl)
  exact L1 (((50 - (0 : Int)).toNat) + 1) (true) ((0 : Int)) X Y (by decide) hI1 (Nat.lt_succ_self _) _ _ _ hH hS (lv_sub hl [1, 0, 2, 3, 4] rfl)
theorem coS_c {Z : Nat → Int → Int} {q : Nat} {X X1 : Nat → Int → Int} {i : Nat} {b : Int} {t : Cs} (h1 : X1 (i + 47) = X (i + 47)) (h2 : X1 (i + 48) = X (i + 48)) (h : coS Z q X i b t) : coS Z q X1 i b t := by
  have e : coT X1 i = coT X i := by
    unfold coT coX
    rw [h1, h2]
  unfold coS
  rw [e, h1]
  exact h
theorem v_X4_goThrough {X Y : Nat → Int → Int} {R : Nat → Int → Option Nat} {i : Nat} {Z : Nat → Int → Int} {q : Nat} {j nn v : Nat}  (hp : cA Z q X Y R i ∧ (feR Z q X j nn ∧ j + 1 < i) ∧ (i + 51 ≤ v ∧ v < i + 87) ∧ X (i + 47) 9 = 0 ∧ ∃ t, coS Z q X i 1 t) : F_X4_goThrough i Z q j nn v X Y R  := by
  unfold F_X4_goThrough
  intro hX hY
  obtain ⟨hq, ⟨hf, hj⟩, ⟨v1, v2⟩, h90, t0, ht0⟩ := hp
  obtain ⟨l27, r27, e27⟩ := cA_l hq
  refine ⟨?_, ?_⟩
  · exact ⟨0, rfl, by decide, fun _ _ _ _ _ => rfl, ⟨rfl, by omega, by omega⟩, fun _ _ => rfl, fun t ht => ⟨rfl, coS_up (by omega) ht, fun y hy => absurd hy (Nat.not_lt_zero _)⟩⟩
  intro ok k X2 Y3
  intro _
  intro rX2
  intro rY3
  intro h1
  obtain ⟨kn, rfl, k41, fx, ⟨x1, n0, n1⟩, fy, hg⟩ := h1
  have oj : ∀ z, z < i → X2 z = X z := fun z hz => fx z (by omega) (by omega) (by omega) (by omega)
  refine ⟨?_, ?_⟩
  · intro c1
    exact ⟨fx, fy, fun t ht y hy => (hg t ht).2.2 y (by omega)⟩
  intro c2
  refine ⟨?_, ?_⟩
  · intro ok2 X5 Y6
    intro rX5
    intro rY6
    intro h2
    obtain ⟨fx5, ⟨a5, b5, d5⟩, fy6, ev, hg5⟩ := h2
    refine ⟨?_, ?_⟩
    · intro c3
      refine ⟨?_, ?_⟩
      · first | omega | exact ⟨by omega, by omega⟩ | decide | assumption | exact ⟨by omega, by omega, by omega⟩ | exact ⟨by decide, by decide⟩
      intro X9
      intro eX9
      intro rX9
      refine ⟨?_, ?_⟩
      · first | omega | exact ⟨by omega, by omega⟩ | decide | assumption | exact ⟨by omega, by omega, by omega⟩ | exact ⟨by decide, by decide⟩
      refine ⟨?_, ?_⟩
      · refine ⟨kn + 1, by omega, by omega, fun z z1 z2 z3 z4 => by rw [eX9, zU_o z4]; exact fx5 z z1 z2 z3 z4, ⟨by rw [eX9, zU_o (by omega)]; exact a5, by rw [eX9, zU_o (by omega)]; exact b5, by rw [eX9, zU_o (by omega)]; omega⟩, fy6, fun t ht => ?_⟩
        obtain ⟨g1, g2⟩ := hg5 t ht
        have g1 : ok2 = (csSq (cx9 Z q (X (i + 47) 1)) (fW Z q) (fV Z q) (mDn Z q) t kn).1 := g1
        refine ⟨g1, coS_c (by rw [eX9, zU_o (by omega)]) (by rw [eX9, zU_o (by omega)]) (coS_up (by omega) g2), fun y hy => ?_⟩
        by_cases e : y = kn
        · rw [e, eX9, zU_s]
          unfold csTa
          rw [← g1, c3]
          rfl
        · rw [eX9, zU_n (by omega), ev]
          exact (hg t ht).2.2 y (by omega)
      first | omega | exact ⟨by omega, by omega⟩ | decide | assumption | exact ⟨by omega, by omega, by omega⟩ | exact ⟨by decide, by decide⟩
    intro c4
    refine ⟨?_, ?_⟩
    · first | omega | exact ⟨by omega, by omega⟩ | decide | assumption | exact ⟨by omega, by omega, by omega⟩ | exact ⟨by decide, by decide⟩
    intro X12
    intro eX12
    intro rX12
    refine ⟨?_, ?_⟩
    · first | omega | exact ⟨by omega, by omega⟩ | decide | assumption | exact ⟨by omega, by omega, by omega⟩ | exact ⟨by decide, by decide⟩
    refine ⟨?_, ?_⟩
    · refine ⟨kn + 1, by omega, by omega, fun z z1 z2 z3 z4 => by rw [eX12, zU_o z4]; exact fx5 z z1 z2 z3 z4, ⟨by rw [eX12, zU_o (by omega)]; exact a5, by rw [eX12, zU_o (by omega)]; exact b5, by rw [eX12, zU_o (by omega)]; omega⟩, fy6, fun t ht => ?_⟩
      obtain ⟨g1, g2⟩ := hg5 t ht
      have g1 : ok2 = (csSq (cx9 Z q (X (i + 47) 1)) (fW Z q) (fV Z q) (mDn Z q) t kn).1 := g1
      have g2 : coS Z q X5 i (1 + 15 * ((kn : Int) + 1)) (csSq (cx9 Z q (X (i + 47) 1)) (fW Z q) (fV Z q) (mDn Z q) t kn).2 := g2
      refine ⟨g1, coS_c (by rw [eX12, zU_o (by omega)]) (by rw [eX12, zU_o (by omega)]) (coS_up (by omega) g2), fun y hy => ?_⟩
      by_cases e : y = kn
      · rw [e, eX12, zU_s]
        unfold csTa
        rw [← g1, c4, if_pos rfl]
        exact congrFun g2.1.1 5
      · rw [eX12, zU_n (by omega), ev]
        exact (hg t ht).2.2 y (by omega)
    first | omega | exact ⟨by omega, by omega⟩ | decide | assumption | exact ⟨by omega, by omega, by omega⟩ | exact ⟨by decide, by decide⟩
  refine ⟨?_, ?_⟩
  · intro c5
    obtain rfl : kn = 0 := by omega
    exact ⟨fx, ⟨x1, n0, by omega⟩, fy, rfl, fun t ht => ⟨(hg t ht).1, coS_up (by omega) (hg t ht).2.1⟩⟩
  intro c6
  obtain ⟨m, rfl⟩ : ∃ m, kn = m + 1 := ⟨kn - 1, by omega⟩
  have em : ((m + 1 : Nat) : Int).toNat = m + 1 := rfl
  have hsf : ∀ t, coS Z q X i 1 t → ((csSq (cx9 Z q (X (i + 47) 1)) (fW Z q) (fV Z q) (mDn Z q) t m).1 = false ∨ mDn Z q ≤ (m : Int) ∨ csOk (xN (cx9 Z q (X (i + 47) 1))) (csSq (cx9 Z q (X (i + 47) 1)) (fW Z q) (fV Z q) (mDn Z q) t m).2.1 (fW Z q m) (fV Z q m) = false) → false = (csSq (cx9 Z q (X (i + 47) 1)) (fW Z q) (fV Z q) (mDn Z q) t (m + 1)).1 ∧ coS Z q X2 i (1 + 15 * (((m + 1 : Nat) : Int) + 1)) (csSq (cx9 Z q (X (i + 47) 1)) (fW Z q) (fV Z q) (mDn Z q) t (m + 1)).2 := fun t ht hh => by
    rw [csSq_f hh]
    exact ⟨rfl, coS_up (by omega) (hg t ht).2.1⟩
  refine ⟨?_, ?_⟩
  · intro c7
    exact ⟨fx, ⟨x1, n0, by omega⟩, fy, rfl, fun t ht => hsf t ht (Or.inl ((hg t ht).1.symm.trans c7))⟩
  intro c8
  refine ⟨?_, ?_⟩
  · intro c9
    rw [oj j (by omega), hf.2.1] at c9
    exact ⟨fx, ⟨x1, n0, by omega⟩, fy, rfl, fun t ht => hsf t ht (Or.inr (Or.inl (by omega)))⟩
  intro c10
  rw [oj j (by omega), hf.2.1] at c10
  have fk := hf.2.2 m (by omega)
  have fr := hf.1
  rw [show (((m + 1 : Nat) : Int) - 1) = (m : Int) by omega, oj (j + 1) (by omega), oj j (by omega), fr.2.1, fk.1, fk.2.1]
  have hOr : oRw X2 j nn := by
    unfold oRw
    rw [oj j (by omega)]
    exact fr.1
  refine ⟨?_, ?_⟩
  · first | omega | exact ⟨by omega, by omega⟩ | decide | assumption | exact ⟨by omega, by omega, by omega⟩ | exact ⟨by decide, by decide⟩
  refine ⟨?_, ?_⟩
  · refine ⟨hOr, ?_⟩
    rw [fr.2.2]
    have := hf.1.1.2.1
    have h41 := fr.2.2
    have h42 := hf.2.1
    omega
  intro _
  refine ⟨?_, ?_⟩
  · refine ⟨hOr, ?_⟩
    rw [fr.2.2]
    have := hf.1.1.2.1
    have h41 := fr.2.2
    have h42 := hf.2.1
    omega
  intro _
  refine ⟨?_, ?_⟩
  · refine ⟨⟨cA_f (fun z a b => fx z b (by omega) (by omega) (by omega)) fy hq, by omega⟩, ⟨fk.2.2.1, fk.2.2.2⟩, _, _, ?_, (hg t0 ht0).2.1⟩
    omega
  intro r25
  intro X23
  intro rX23
  intro Y24
  intro rY24
  intro h3
  rw [x1] at h3
  refine ⟨?_, ?_⟩
  · intro c11
    obtain ⟨rfl, rfl⟩ := h3.2.1 c11
    exact ⟨fx, ⟨x1, n0, by omega⟩, fy, rfl, fun t ht => hsf t ht (Or.inr (Or.inr (by
      have e : coX X23 i = _ := (hg t ht).2.1.1.1
      have g := h3.1.symm.trans c11
      rw [e] at g
      exact g)))⟩
  intro c12
  obtain ⟨r1, r2, r3⟩ := h3.2.2 c12
  refine ⟨fun z z1 z2 z3 z4 => (r1.1 z z1 z2 z3).trans (fx z z1 z2 z3 z4), ⟨r1.2.1.trans x1, by rw [r2.1]; omega, by rw [r2.1]; omega⟩, fun z hz => (r1.2.2 z hz).trans (fy z hz), r1.1 v (by omega) (by omega) (by omega), fun t ht => ?_⟩
  have g := hg t ht
  have hok : csOk (xN (cx9 Z q (X (i + 47) 1))) (csSq (cx9 Z q (X (i + 47) 1)) (fW Z q) (fV Z q) (mDn Z q) t m).2.1 (fW Z q m) (fV Z q m) = true := by
    have e : coX X2 i = _ := g.2.1.1.1
    have g9 := h3.1.symm.trans c12
    rw [e] at g9
    exact g9
  rw [em, csSq_t (k := m) (g.1.symm.trans c8) (by omega) hok]
  exact ⟨rfl, coS_up (by omega) (r3 _ _ g.2.1)⟩
theorem c_X4_goThrough {l : Launch} {D : va_G} {cy : Nat → ClassId} {bs N : Nat} {sa : Nat → Nat} {kd len : Nat → Nat} {X Y : Nat → Int → Int} {R : Nat → Int → Option Nat} {i : Nat} {Z : Nat → Int → Int} {q : Nat} (hC : zLaws N kd len R i) {j nn v : Nat} (hR : zRows N kd len R j nn) (hsm : len (j + 1) < 2147483648) (hv : zRw N kd len v)  (hp : cA Z q X Y R i ∧ (feR Z q X j nn ∧ j + 1 < i) ∧ (i + 51 ≤ v ∧ v < i + 87) ∧ X (i + 47) 9 = 0 ∧ ∃ t, coS Z q X i 1 t) : Met l yX4_goThrough (.code yX4_goThrough cX4_goThrough 5 none :: zTB) (zRm 3 104) (zPc D cy bs sa N kd len X Y R [.ref (bs + (i + 49)), .ref (bs + (j)), .ref (bs + (v))]) (zQv D cy bs N kd len (fun st => st.2.2 = R ∧ ((∀ z, z ≠ i + 16 → z ≠ i + 47 → z ≠ i + 48 → z ≠ v → (st.1) z = X z) ∧ (∀ z, z ≠ i + 15 → (st.2.1) z = Y z) ∧ ∀ t, coS Z q X i 1 t → ∀ y : Nat, y < 41 → (st.1) v y = csTa (cx9 Z q (X (i + 47) 1)) (fW Z q) (fV Z q) (mDn Z q) t y))) 0 0 (zA bs) := w_X4_goThrough hC hR hsm hv  (v_X4_goThrough  hp)
/-- the part that all have in common, so far -/
def srN (f : Nat → Int) : Nat → Bool × Int
  | 0 => (true, -1)
  | k + 1 => if (srN f k).1 && (decide ((srN f k).2 = -1) || decide ((srN f k).2 = f k)) then (true, f k) else (false, -1)
theorem srN_t {f : Nat → Int} {k : Nat} {v : Int} (h : srN f k = (true, v)) (hv : v = -1 ∨ v = f k) : srN f (k + 1) = (true, f k) := by
  show (if (srN f k).1 && (decide ((srN f k).2 = -1) || decide ((srN f k).2 = f k)) then _ else _) = _
  rw [h, if_pos]
  rcases hv with hv | hv
  · show (true && (decide (v = -1) || _)) = true
    rw [decide_eq_true hv]
    rfl
  · show (true && (_ || decide (v = f k))) = true
    rw [decide_eq_true hv, Bool.or_true]
    rfl
theorem srN_n {f : Nat → Int} {k : Nat} (h : (srN f k).1 = false ∨ ((srN f k).2 ≠ -1 ∧ (srN f k).2 ≠ f k)) : srN f (k + 1) = (false, -1) := by
  show (if (srN f k).1 && (decide ((srN f k).2 = -1) || decide ((srN f k).2 = f k)) then _ else _) = _
  rw [if_neg]
  intro q
  rw [Bool.and_eq_true, Bool.or_eq_true, decide_eq_true_eq, decide_eq_true_eq] at q
  rcases h with h | h
  · rw [h] at q
    exact absurd q.1 (by decide)
  · rcases q.2 with e | e
    · exact h.1 e
    · exact h.2 e
theorem srN_f {f : Nat → Int} {k : Nat} (h : srN f k = (false, -1)) : ∀ d, srN f (k + d) = (false, -1)
  | 0 => h
  | d + 1 => srN_n (k := k + d) (Or.inl (by rw [srN_f h d]))
def gcN (T : Nat → Int) (m v : Nat) : Int := cN (fun k => decide (T k = v)) m
theorem mxN_le {g : Nat → Int} {k : Nat} : ∀ {n : Nat}, k < n → g k ≤ mxN g n
  | 0, h => absurd h (Nat.not_lt_zero _)
  | n + 1, h => by
    show _ ≤ max (mxN g n) (g n)
    by_cases e : k = n
    · subst e
      omega
    · have := mxN_le (g := g) (k := k) (n := n) (by omega)
      omega
theorem mxN_ub {g : Nat → Int} {B : Int} (hB : 0 ≤ B) : ∀ {n : Nat}, (∀ k, k < n → g k ≤ B) → mxN g n ≤ B
  | 0, _ => hB
  | n + 1, h => by
    show max (mxN g n) (g n) ≤ B
    have := mxN_ub hB (n := n) (fun k hk => h k (by omega))
    have := h n (by omega)
    omega
theorem mxN_0 (g : Nat → Int) : ∀ n, 0 ≤ mxN g n
  | 0 => Int.le_refl _
  | n + 1 => by
    show 0 ≤ max (mxN g n) (g n)
    have := mxN_0 g n
    omega
theorem mxN_up {g h : Nat → Int} {w : Nat} (hw : h w = g w + 1) (ho : ∀ v, v ≠ w → h v = g v) : ∀ n, w < n → mxN h n = max (mxN g n) (g w + 1)
  | 0, q => absurd q (Nat.not_lt_zero _)
  | n + 1, q => by
    show max (mxN h n) (h n) = max (max (mxN g n) (g n)) (g w + 1)
    by_cases e : w = n
    · subst e
      rw [mxN_cong (fun k hk => ho k (by omega)), hw]
      omega
    · rw [mxN_up hw ho n (by omega), ho n (fun z => e z.symm)]
      omega
def ggN (X : Nat → Int → Int) (i : Nat) (y : Int) : Int := mxN (gcN (fun k => X (i + 51 + k) y + 1) (X (i + 49) 5).toNat) 16
/-- rows of tips that are there -/
def lwV (X : Nat → Int → Int) (i : Nat) : Prop := (0 ≤ X (i + 49) 5 ∧ X (i + 49) 5 ≤ 36) ∧ ∀ k y : Nat, (k : Int) < X (i + 49) 5 → y ≤ 40 → -1 ≤ X (i + 51 + k) y ∧ X (i + 51 + k) y ≤ 14
theorem cN_cg {f g : Nat → Bool} : ∀ {n : Nat}, (∀ k, k < n → f k = g k) → cN f n = cN g n
  | 0, _ => rfl
  | n + 1, h => by
    unfold cN
    rw [cN_cg (fun k hk => h k (by omega)), h n (by omega)]
theorem lwV_k {X X1 : Nat → Int → Int} {i : Nat} (h : ∀ z, z ≠ i + 87 → X1 z = X z) (hv : lwV X i) : lwV X1 i ∧ ∀ y, ggN X1 i y = ggN X i y := by
  unfold lwV at hv ⊢
  have e : X1 (i + 49) 5 = X (i + 49) 5 := by rw [h _ (by omega)]
  rw [e]
  refine ⟨⟨hv.1, fun k y hk hy => by rw [h _ (by omega)]; exact hv.2 k y hk hy⟩, fun y => ?_⟩
  unfold ggN
  rw [e]
  refine mxN_cong (fun v _ => ?_)
  unfold gcN
  refine cN_cg (fun k hk => ?_)
  show decide (X1 (i + 51 + k) y + 1 = (v : Int)) = decide (X (i + 51 + k) y + 1 = (v : Int))
  rw [h (i + 51 + k) (by have := hv.1; omega)]
theorem gcN_b (T : Nat → Int) (m v : Nat) : 0 ≤ gcN T m v ∧ gcN T m v ≤ m := cN_b _ m
abbrev cX4_isSo : ByteArray := prog_6_method_4_code
def yX4_isSo : MethodName := ⟨RX4, "isSo", "(LWorkChains$Rows;[I)Z"⟩
theorem dX4_isSo_0 : decode cX4_isSo 0 = .ok (.iconst 0, 1) := by decide +kernel
theorem dX4_isSo_1 : decode cX4_isSo 1 = .ok (.istore_n 2, 1) := by decide +kernel
theorem dX4_isSo_2 : decode cX4_isSo 2 = .ok (.iload_n 2, 1) := by decide +kernel
theorem dX4_isSo_3 : decode cX4_isSo 3 = .ok (.aload_n 0, 1) := by decide +kernel
theorem dX4_isSo_4 : decode cX4_isSo 4 = .ok (.getfield 62, 3) := by decide +kernel
theorem dX4_isSo_7 : decode cX4_isSo 7 = .ok (.if_icmp .ge 40, 3) := by decide +kernel
theorem dX4_isSo_10 : decode cX4_isSo 10 = .ok (.aload_n 0, 1) := by decide +kernel
theorem dX4_isSo_11 : decode cX4_isSo 11 = .ok (.iload_n 2, 1) := by decide +kernel
theorem dX4_isSo_12 : decode cX4_isSo 12 = .ok (.iconst 0, 1) := by decide +kernel
theorem dX4_isSo_13 : decode cX4_isSo 13 = .ok (.invokevirtual 65, 3) := by decide +kernel
theorem dX4_isSo_16 : decode cX4_isSo 16 = .ok (.istore_n 3, 1) := by decide +kernel
theorem dX4_isSo_17 : decode cX4_isSo 17 = .ok (.iload_n 3, 1) := by decide +kernel
theorem dX4_isSo_18 : decode cX4_isSo 18 = .ok (.ifCond .lt 21, 3) := by decide +kernel
theorem dX4_isSo_21 : decode cX4_isSo 21 = .ok (.iload_n 3, 1) := by decide +kernel
theorem dX4_isSo_22 : decode cX4_isSo 22 = .ok (.aload_n 1, 1) := by decide +kernel
theorem dX4_isSo_23 : decode cX4_isSo 23 = .ok (.arraylength, 1) := by decide +kernel
theorem dX4_isSo_24 : decode cX4_isSo 24 = .ok (.if_icmp .ge 15, 3) := by decide +kernel
theorem dX4_isSo_27 : decode cX4_isSo 27 = .ok (.aload_n 1, 1) := by decide +kernel
theorem dX4_isSo_28 : decode cX4_isSo 28 = .ok (.iload_n 3, 1) := by decide +kernel
theorem dX4_isSo_29 : decode cX4_isSo 29 = .ok (.iaload, 1) := by decide +kernel
theorem dX4_isSo_30 : decode cX4_isSo 30 = .ok (.aload_n 0, 1) := by decide +kernel
theorem dX4_isSo_31 : decode cX4_isSo 31 = .ok (.iload_n 2, 1) := by decide +kernel
theorem dX4_isSo_32 : decode cX4_isSo 32 = .ok (.iconst 1, 1) := by decide +kernel
theorem dX4_isSo_33 : decode cX4_isSo 33 = .ok (.invokevirtual 65, 3) := by decide +kernel
theorem dX4_isSo_36 : decode cX4_isSo 36 = .ok (.if_icmp .eq 5, 3) := by decide +kernel
theorem dX4_isSo_39 : decode cX4_isSo 39 = .ok (.iconst 0, 1) := by decide +kernel
theorem dX4_isSo_40 : decode cX4_isSo 40 = .ok (.ireturn, 1) := by decide +kernel
theorem dX4_isSo_41 : decode cX4_isSo 41 = .ok (.iinc 2 1, 3) := by decide +kernel
theorem dX4_isSo_44 : decode cX4_isSo 44 = .ok (.goto (-42), 3) := by decide +kernel
theorem dX4_isSo_47 : decode cX4_isSo 47 = .ok (.iconst 1, 1) := by decide +kernel
theorem dX4_isSo_48 : decode cX4_isSo 48 = .ok (.ireturn, 1) := by decide +kernel
def F_X4_isSo (j nn v : Nat) (X Y : Nat → Int → Int) (R : Nat → Int → Option Nat)  : Prop := (∀ i j, rI (X i j)) → (∀ i j, rL (Y i j)) → (∃ m : Nat, (0 : Int) = m ∧ m ≤ (X j 2).toNat ∧ alN (fun k : Nat => decide (X v (X (j + 1) (k * 2 + 0)) = X (j + 1) (k * 2 + 1))) m = true) ∧ (∀ (k : Int), rI k → (∃ m : Nat, k = m ∧ m ≤ (X j 2).toNat ∧ alN (fun k : Nat => decide (X v (X (j + 1) (k * 2 + 0)) = X (j + 1) (k * 2 + 1))) m = true) → ((((X (j) 2) ≤ k) → (1 = bz (alN (fun k : Nat => decide (X v (X (j + 1) (k * 2 + 0)) = X (j + 1) (k * 2 + 1))) (X j 2).toNat))) ∧ ((¬ ((X (j) 2) ≤ k)) → ((oRw X j nn ∧ (0 ≤ k ∧ k < X j 1) ∧ 0 ≤ (0 : Int) ∧ (0 : Int) < X j 0) ∧ (rI (X (j + 1) ((k) * X j 0 + ((0 : Int)))) → ((((X (j + 1) ((k) * X j 0 + ((0 : Int)))) < 0) → (0 = bz (alN (fun k : Nat => decide (X v (X (j + 1) (k * 2 + 0)) = X (j + 1) (k * 2 + 1))) (X j 2).toNat))) ∧ ((¬ ((X (j + 1) ((k) * X j 0 + ((0 : Int)))) < 0)) → (((((41 : Nat) : Int) ≤ (X (j + 1) ((k) * X j 0 + ((0 : Int))))) → (0 = bz (alN (fun k : Nat => decide (X v (X (j + 1) (k * 2 + 0)) = X (j + 1) (k * 2 + 1))) (X j 2).toNat))) ∧ ((¬ (((41 : Nat) : Int) ≤ (X (j + 1) ((k) * X j 0 + ((0 : Int)))))) → ((0 ≤ (X (j + 1) ((k) * X j 0 + ((0 : Int)))) ∧ (X (j + 1) ((k) * X j 0 + ((0 : Int)))) < 41) ∧ ((oRw X j nn ∧ (0 ≤ k ∧ k < X j 1) ∧ 0 ≤ (1 : Int) ∧ (1 : Int) < X j 0) ∧ (rI (X (j + 1) ((k) * X j 0 + ((1 : Int)))) → ((((X (v) (X (j + 1) ((k) * X j 0 + ((0 : Int))))) = (X (j + 1) ((k) * X j 0 + ((1 : Int))))) → ((rI (k + 1)) ∧ (∃ m : Nat, (k + 1) = m ∧ m ≤ (X j 2).toNat ∧ alN (fun k : Nat => decide (X v (X (j + 1) (k * 2 + 0)) = X (j + 1) (k * 2 + 1))) m = true) ∧ (((X j 2 - (k + 1)).toNat) < ((X j 2 - k).toNat)))) ∧ ((¬ ((X (v) (X (j + 1) ((k) * X j 0 + ((0 : Int))))) = (X (j + 1) ((k) * X j 0 + ((1 : Int)))))) → (0 = bz (alN (fun k : Nat => decide (X v (X (j + 1) (k * 2 + 0)) = X (j + 1) (k * 2 + 1))) (X j 2).toNat))))))))))))))))
set_option maxHeartbeats 4000000 in
set_option maxRecDepth 100000 in
theorem w_X4_isSo {l : Launch} {D : va_G} {cy : Nat → ClassId} {bs N : Nat} {sa : Nat → Nat} {kd len : Nat → Nat} {X Y : Nat → Int → Int} {R : Nat → Int → Option Nat} {j nn v : Nat} (hR : zRows N kd len R j nn) (hsm : len (j + 1) < 2147483648) (hv : zRw N kd len v)  (hF : F_X4_isSo j nn v X Y R ) : Met l yX4_isSo (.code yX4_isSo cX4_isSo 4 (some .boolean) :: zTB) (zRm 1 23) (zPc D cy bs sa N kd len X Y R [.ref (bs + (j)), .ref (bs + (v))]) (zQi D cy bs N kd len (fun r st => r = bz (alN (fun k : Nat => decide (X v (X (j + 1) (k * 2 + 0)) = X (j + 1) (k * 2 + 1))) (X j 2).toNat) ∧ st = (X, Y, R))) 0 0 (zA bs) := by
  refine zstart (by decide) (Nat.le_of_ble_eq_true rfl) ?_
  intro p e s m args below meth c ls C hE hH hr hlk hnm hl hargs
  have hF := hF hH.2.2.1 hH.2.2.2
  have hS : va_S (zA bs) s.heap s.heap [] := va_S.rf
  have hl : lv_has ls 4 [(0, .ref (bs + (j))), (1, .ref (bs + (v)))] := hl
  refine zd_iconst C dX4_isSo_0 ?_
  refine lv_istore_n (lv' := [(2, .int (zI (0))), (0, .ref (bs + (j))), (1, .ref (bs + (v)))]) C.1 C.2.1 dX4_isSo_1 rfl hl (by decide) rfl (fun ls hl => ?_)
  obtain ⟨hI1, hF⟩ := hF
  have L1 : ∀ (fu : Nat) (k : Int), rI k → (∃ m : Nat, k = m ∧ m ≤ (X j 2).toNat ∧ alN (fun k : Nat => decide (X v (X (j + 1) (k * 2 + 0)) = X (j + 1) (k * 2 + 1))) m = true) → ((X j 2 - k).toNat) < fu → ∀ (H : Heap) (locs : List Loc) (ls : Array Slot), zH D cy bs N kd len X Y R H → va_S (zA bs) s.heap H locs → lv_has ls 4 [(2, .int (zI (k))), (0, .ref (bs + (j))), (1, .ref (bs + (v)))] → W p l e (zRm 1 23) s m args below meth c H locs 0 0 (MQ below (zQi D cy bs N kd len (fun r st => r = bz (alN (fun k : Nat => decide (X v (X (j + 1) (k * 2 + 0)) = X (j + 1) (k * 2 + 1))) (X j 2).toNat) ∧ st = (X, Y, R))) args s 0 0 (zA bs)) (F0 m 2 ls []) := by
    intro fu
    induction fu with
    | zero => intro k _ _ hmu; exact absurd hmu (Nat.not_lt_zero _)
    | succ fu ih1 =>
      intro k hk hI hmu1 H locs ls hH hS hl
      have hF := hF k hk  hI
      refine lv_iload_n C.1 C.2.1 dX4_isSo_2 rfl (lv_at hl 0 rfl) ?_
      refine lv_aload_n C.1 C.2.1 dX4_isSo_3 rfl (lv_at hl 1 rfl) ?_
      refine zg8_2 C hH (zRows_n0 hR) (zRows_k0 hR) q_266 dX4_isSo_4 ?_
      refine zd_icmp_ge C hk (hH.2.2.1 _ _) 47 dX4_isSo_7 (by decide) (fun c2 => ?_) (fun c2 => ?_)
      · have hF := hF.1 c2
        refine zd_iconst C dX4_isSo_47 ?_
        exact zd_zret C hr hlk hH hS (by decide) (⟨hF, rfl⟩) dX4_isSo_48
      · have hF := hF.2 c2
        refine lv_aload_n C.1 C.2.1 dX4_isSo_10 rfl (lv_at hl 1 rfl) ?_
        refine lv_iload_n C.1 C.2.1 dX4_isSo_11 rfl (lv_at hl 0 rfl) ?_
        refine zd_iconst C dX4_isSo_12 ?_
        obtain ⟨o3, hF⟩ := hF
        refine zgoi (zrunV (As := [.int (zI (k)), .int (zI (0))]) (rest := []) C hE hH hS hl.1 (c_X8_part (l := l) hR hsm (k) hk (0) (by decide) o3) k_RX4_65 ⟨Nat.le_of_ble_eq_true rfl, Nat.le_of_ble_eq_true rfl⟩ (zRows_n0 hR) (zRows_k0 hR) rfl rfl rfl (Nat.le_of_ble_eq_true rfl) dX4_isSo_13 ⟨Nat.zero_le _, Nat.zero_le _⟩) hS (fun rq Xq Yq Rq H locs hrq hq hH hS => ?_)
        obtain ⟨h91, h92⟩ := hq
        have h93 : Xq = X := congrArg (fun z => z.1) h92
        have h94 : Yq = Y := congrArg (fun z => z.2.1) h92
        have h95 : Rq = R := congrArg (fun z => z.2.2) h92
        rw [h93, h94, h95] at hH
        subst h91
        have hr4 := hrq
        have hF := hF hr4
        refine lv_istore_n (lv' := [(3, .int (zI (X (j + 1) ((k) * X j 0 + ((0 : Int)))))), (2, .int (zI (k))), (0, .ref (bs + (j))), (1, .ref (bs + (v)))]) C.1 C.2.1 dX4_isSo_16 rfl hl (by decide) rfl (fun ls hl => ?_)
        refine lv_iload_n C.1 C.2.1 dX4_isSo_17 rfl (lv_at hl 0 rfl) ?_
        refine zd_if_lt C hr4 39 dX4_isSo_18 (by decide) (fun c5 => ?_) (fun c5 => ?_)
        · have hF := hF.1 c5
          refine zd_iconst C dX4_isSo_39 ?_
          exact zd_zret C hr hlk hH hS (by decide) (⟨hF, rfl⟩) dX4_isSo_40
        · have hF := hF.2 c5
          refine lv_iload_n C.1 C.2.1 dX4_isSo_21 rfl (lv_at hl 0 rfl) ?_
          refine lv_aload_n C.1 C.2.1 dX4_isSo_22 rfl (lv_at hl 3 rfl) ?_
          refine zd_alen C hH hv.1 (t0 := 1) (by rw [hv.2.1]; rfl) rfl rfl dX4_isSo_23 ?_
          rw [zRw_l hv]
          refine zd_icmp_ge C hr4 (by decide) 39 dX4_isSo_24 (by decide) (fun c6 => ?_) (fun c6 => ?_)
          · have hF := hF.1 c6
            refine zd_iconst C dX4_isSo_39 ?_
            exact zd_zret C hr hlk hH hS (by decide) (⟨hF, rfl⟩) dX4_isSo_40
          · have hF := hF.2 c6
            refine lv_aload_n C.1 C.2.1 dX4_isSo_27 rfl (lv_at hl 3 rfl) ?_
            refine lv_iload_n C.1 C.2.1 dX4_isSo_28 rfl (lv_at hl 0 rfl) ?_
            obtain ⟨o7, hF⟩ := hF
            refine zd_iald C hH hv.1 hv.2.1 o7.1 (by rw [zRw_l hv]; exact o7.2) (by rw [zRw_l hv]; decide) dX4_isSo_29 ?_
            refine lv_aload_n C.1 C.2.1 dX4_isSo_30 rfl (lv_at hl 2 rfl) ?_
            refine lv_iload_n C.1 C.2.1 dX4_isSo_31 rfl (lv_at hl 1 rfl) ?_
            refine zd_iconst C dX4_isSo_32 ?_
            obtain ⟨o8, hF⟩ := hF
            refine zgoi (zrunV (As := [.int (zI (k)), .int (zI (1))]) (rest := [.int (zI (X (v) (X (j + 1) ((k) * X j 0 + ((0 : Int))))))]) C hE hH hS hl.1 (c_X8_part (l := l) hR hsm (k) hk (1) (by decide) o8) k_RX4_65 ⟨Nat.le_of_ble_eq_true rfl, Nat.le_of_ble_eq_true rfl⟩ (zRows_n0 hR) (zRows_k0 hR) rfl rfl rfl (Nat.le_of_ble_eq_true rfl) dX4_isSo_33 ⟨Nat.zero_le _, Nat.zero_le _⟩) hS (fun rq Xq Yq Rq H locs hrq hq hH hS => ?_)
            obtain ⟨h91, h92⟩ := hq
            have h93 : Xq = X := congrArg (fun z => z.1) h92
            have h94 : Yq = Y := congrArg (fun z => z.2.1) h92
            have h95 : Rq = R := congrArg (fun z => z.2.2) h92
            rw [h93, h94, h95] at hH
            subst h91
            have hr9 := hrq
            have hF := hF hr9
            refine zd_icmp_eq C (hH.2.2.1 _ _) hr9 41 dX4_isSo_36 (by decide) (fun c10 => ?_) (fun c10 => ?_)
            · have hF := hF.1 c10
              refine zd_iinc (k := 1) (lv' := [(2, .int (zI (k + 1))), (3, .int (zI (X (j + 1) ((k) * X j 0 + ((0 : Int)))))), (0, .ref (bs + (j))), (1, .ref (bs + (v)))]) C hl rfl dX4_isSo_41 (by decide) rfl (fun ls hl => ?_)
              refine lv_goto (tgt := 2) C.1 C.2.1 dX4_isSo_44 (by decide) ?_
              obtain ⟨o11, hF⟩ := hF
              exact ih1 (k + 1) o11 hF.1 (Nat.lt_of_lt_of_le hF.2 (Nat.le_of_lt_succ hmu1)) _ _ _ hH hS (lv_sub hl [0, 2, 3] rfl)
            · have hF := hF.2 c10
              refine zd_iconst C dX4_isSo_39 ?_
              exact zd_zret C hr hlk hH hS (by decide) (⟨hF, rfl⟩) dX4_isSo_40
  exact L1 (((X j 2 - (0 : Int)).toNat) + 1) ((0 : Int)) (by decide) hI1 (Nat.lt_succ_self _) _ _ _ hH hS (lv_sub hl [0, 1, 2] rfl)
theorem v_X4_isSo {X Y : Nat → Int → Int} {R : Nat → Int → Option Nat} {j nn v : Nat}  (hp : (oRw X j nn ∧ X j 0 = 2) ∧ ∀ k : Nat, (k : Int) < X j 2 → 0 ≤ X (j + 1) (k * 2 + 0) ∧ X (j + 1) (k * 2 + 0) ≤ 40) : F_X4_isSo j nn v X Y R  := by
  unfold F_X4_isSo
  intro hX hY
  obtain ⟨⟨hr, h2⟩, hk⟩ := hp
  have hr2 := hr.2.1
  have hr3 := hr.2.2.1
  refine ⟨?_, ?_⟩
  · exact ⟨0, rfl, Nat.zero_le _, rfl⟩
  intro k
  intro _
  intro h1
  obtain ⟨m, rfl, hm, ha⟩ := h1
  refine ⟨?_, ?_⟩
  · intro c1
    rw [show (X j 2).toNat = m by omega, ha]
    rfl
  intro c2
  have k2 := hk m (by omega)
  rw [h2]
  refine ⟨?_, ?_⟩
  · exact ⟨hr, ⟨by omega, by omega⟩, by decide, by decide⟩
  intro _
  refine ⟨?_, ?_⟩
  · intro c3
    exfalso
    omega
  intro c4
  refine ⟨?_, ?_⟩
  · intro c5
    exfalso
    omega
  intro c6
  refine ⟨?_, ?_⟩
  · first | omega | exact ⟨by omega, by omega⟩ | decide | assumption | exact ⟨by omega, by omega, by omega⟩ | exact ⟨by decide, by decide⟩
  refine ⟨?_, ?_⟩
  · exact ⟨hr, ⟨by omega, by omega⟩, by decide, by decide⟩
  intro _
  refine ⟨?_, ?_⟩
  · intro c7
    refine ⟨?_, ?_⟩
    · first | omega | exact ⟨by omega, by omega⟩ | decide | assumption | exact ⟨by omega, by omega, by omega⟩ | exact ⟨by decide, by decide⟩
    refine ⟨?_, ?_⟩
    · refine ⟨m + 1, by omega, by omega, ?_⟩
      show (alN _ m && _) = true
      rw [ha, Bool.true_and]
      exact decide_eq_true c7
    first | omega | exact ⟨by omega, by omega⟩ | decide | assumption | exact ⟨by omega, by omega, by omega⟩ | exact ⟨by decide, by decide⟩
  intro c8
  rw [alN_f (q := m) (decide_eq_false c8) _ (by omega)]
  rfl
theorem c_X4_isSo {l : Launch} {D : va_G} {cy : Nat → ClassId} {bs N : Nat} {sa : Nat → Nat} {kd len : Nat → Nat} {X Y : Nat → Int → Int} {R : Nat → Int → Option Nat} {j nn v : Nat} (hR : zRows N kd len R j nn) (hsm : len (j + 1) < 2147483648) (hv : zRw N kd len v)  (hp : (oRw X j nn ∧ X j 0 = 2) ∧ ∀ k : Nat, (k : Int) < X j 2 → 0 ≤ X (j + 1) (k * 2 + 0) ∧ X (j + 1) (k * 2 + 0) ≤ 40) : Met l yX4_isSo (.code yX4_isSo cX4_isSo 4 (some .boolean) :: zTB) (zRm 1 23) (zPc D cy bs sa N kd len X Y R [.ref (bs + (j)), .ref (bs + (v))]) (zQi D cy bs N kd len (fun r st => r = bz (alN (fun k : Nat => decide (X v (X (j + 1) (k * 2 + 0)) = X (j + 1) (k * 2 + 1))) (X j 2).toNat) ∧ st = (X, Y, R))) 0 0 (zA bs) := w_X4_isSo hR hsm hv  (v_X4_isSo  hp)
abbrev cX4_sure : ByteArray := prog_6_method_5_code
def yX4_sure : MethodName := ⟨RX4, "sure", "(II)I"⟩
theorem dX4_sure_0 : decode cX4_sure 0 = .ok (.iconst (-1), 1) := by decide +kernel
theorem dX4_sure_1 : decode cX4_sure 1 = .ok (.istore_n 3, 1) := by decide +kernel
theorem dX4_sure_2 : decode cX4_sure 2 = .ok (.iload_n 1, 1) := by decide +kernel
theorem dX4_sure_3 : decode cX4_sure 3 = .ok (.ifCond .le 7, 3) := by decide +kernel
theorem dX4_sure_6 : decode cX4_sure 6 = .ok (.iload_n 2, 1) := by decide +kernel
theorem dX4_sure_7 : decode cX4_sure 7 = .ok (.ifCond .gt 5, 3) := by decide +kernel
theorem dX4_sure_10 : decode cX4_sure 10 = .ok (.iconst (-1), 1) := by decide +kernel
theorem dX4_sure_11 : decode cX4_sure 11 = .ok (.ireturn, 1) := by decide +kernel
theorem dX4_sure_12 : decode cX4_sure 12 = .ok (.iconst 0, 1) := by decide +kernel
theorem dX4_sure_13 : decode cX4_sure 13 = .ok (.istore 4, 2) := by decide +kernel
theorem dX4_sure_15 : decode cX4_sure 15 = .ok (.iload 4, 2) := by decide +kernel
theorem dX4_sure_17 : decode cX4_sure 17 = .ok (.aload_n 0, 1) := by decide +kernel
theorem dX4_sure_18 : decode cX4_sure 18 = .ok (.getfield 31, 3) := by decide +kernel
theorem dX4_sure_21 : decode cX4_sure 21 = .ok (.if_icmp .ge 45, 3) := by decide +kernel
theorem dX4_sure_24 : decode cX4_sure 24 = .ok (.iload 4, 2) := by decide +kernel
theorem dX4_sure_26 : decode cX4_sure 26 = .ok (.bipush 36, 2) := by decide +kernel
theorem dX4_sure_28 : decode cX4_sure 28 = .ok (.if_icmp .ge 38, 3) := by decide +kernel
theorem dX4_sure_31 : decode cX4_sure 31 = .ok (.aload_n 0, 1) := by decide +kernel
theorem dX4_sure_32 : decode cX4_sure 32 = .ok (.getfield 20, 3) := by decide +kernel
theorem dX4_sure_35 : decode cX4_sure 35 = .ok (.iload 4, 2) := by decide +kernel
theorem dX4_sure_37 : decode cX4_sure 37 = .ok (.iaload, 1) := by decide +kernel
theorem dX4_sure_38 : decode cX4_sure 38 = .ok (.iload_n 1, 1) := by decide +kernel
theorem dX4_sure_39 : decode cX4_sure 39 = .ok (.idiv, 1) := by decide +kernel
theorem dX4_sure_40 : decode cX4_sure 40 = .ok (.iload_n 2, 1) := by decide +kernel
theorem dX4_sure_41 : decode cX4_sure 41 = .ok (.irem, 1) := by decide +kernel
theorem dX4_sure_42 : decode cX4_sure 42 = .ok (.istore 5, 2) := by decide +kernel
theorem dX4_sure_44 : decode cX4_sure 44 = .ok (.iload_n 3, 1) := by decide +kernel
theorem dX4_sure_45 : decode cX4_sure 45 = .ok (.iconst (-1), 1) := by decide +kernel
theorem dX4_sure_46 : decode cX4_sure 46 = .ok (.if_icmp .eq 11, 3) := by decide +kernel
theorem dX4_sure_49 : decode cX4_sure 49 = .ok (.iload_n 3, 1) := by decide +kernel
theorem dX4_sure_50 : decode cX4_sure 50 = .ok (.iload 5, 2) := by decide +kernel
theorem dX4_sure_52 : decode cX4_sure 52 = .ok (.if_icmp .eq 5, 3) := by decide +kernel
theorem dX4_sure_55 : decode cX4_sure 55 = .ok (.iconst (-1), 1) := by decide +kernel
theorem dX4_sure_56 : decode cX4_sure 56 = .ok (.ireturn, 1) := by decide +kernel
theorem dX4_sure_57 : decode cX4_sure 57 = .ok (.iload 5, 2) := by decide +kernel
theorem dX4_sure_59 : decode cX4_sure 59 = .ok (.istore_n 3, 1) := by decide +kernel
theorem dX4_sure_60 : decode cX4_sure 60 = .ok (.iinc 4 1, 3) := by decide +kernel
theorem dX4_sure_63 : decode cX4_sure 63 = .ok (.goto (-48), 3) := by decide +kernel
theorem dX4_sure_66 : decode cX4_sure 66 = .ok (.iload_n 3, 1) := by decide +kernel
theorem dX4_sure_67 : decode cX4_sure 67 = .ok (.ireturn, 1) := by decide +kernel
theorem q_520 : Cond.fieldLink RX4 31 RX4 "size" "I" ∈ zTB := zmem 520 (by decide +kernel) rfl
theorem q_518 : Cond.fieldLink RX4 20 RX4 "number" "[I" ∈ zTB := zmem 518 (by decide +kernel) rfl
def F_X4_sure (i : Nat) (X Y : Nat → Int → Int) (R : Nat → Int → Option Nat) (a : Int) (b : Int) : Prop := (∀ i j, rI (X i j)) → (∀ i j, rL (Y i j)) → ((a ≤ 0) → ((-1) = (srN (fun k : Nat => ((X (i + 88) k).tdiv (a)).tmod (b)) (X (i + 49) 5).toNat).2)) ∧ ((¬ (a ≤ 0)) → (((0 < b) → ((∃ m : Nat, (0 : Int) = m ∧ m ≤ (X (i + 49) 5).toNat ∧ srN (fun k : Nat => ((X (i + 88) k).tdiv (a)).tmod (b)) m = (true, (-1 : Int))) ∧ (∀ (pa : Int) (k : Int), rI pa → rI k → (∃ m : Nat, k = m ∧ m ≤ (X (i + 49) 5).toNat ∧ srN (fun k : Nat => ((X (i + 88) k).tdiv (a)).tmod (b)) m = (true, pa)) → ((((X (i + 49) 5) ≤ k) → (pa = (srN (fun k : Nat => ((X (i + 88) k).tdiv (a)).tmod (b)) (X (i + 49) 5).toNat).2)) ∧ ((¬ ((X (i + 49) 5) ≤ k)) → (((36 ≤ k) → (pa = (srN (fun k : Nat => ((X (i + 88) k).tdiv (a)).tmod (b)) (X (i + 49) 5).toNat).2)) ∧ ((¬ (36 ≤ k)) → ((0 ≤ k ∧ k < 36) ∧ ((a ≠ 0 ∧ a ≠ -1) ∧ ((b ≠ 0 ∧ b ≠ -1) ∧ (((pa = (-1)) → ((rI (k + 1)) ∧ (∃ m : Nat, (k + 1) = m ∧ m ≤ (X (i + 49) 5).toNat ∧ srN (fun k : Nat => ((X (i + 88) k).tdiv (a)).tmod (b)) m = (true, ((X (i + 88) (k)).tdiv (a)).tmod (b))) ∧ (((X (i + 49) 5 - (k + 1)).toNat) < ((X (i + 49) 5 - k).toNat)))) ∧ ((¬ (pa = (-1))) → (((pa = (((X (i + 88) (k)).tdiv (a)).tmod (b))) → ((rI (k + 1)) ∧ (∃ m : Nat, (k + 1) = m ∧ m ≤ (X (i + 49) 5).toNat ∧ srN (fun k : Nat => ((X (i + 88) k).tdiv (a)).tmod (b)) m = (true, ((X (i + 88) (k)).tdiv (a)).tmod (b))) ∧ (((X (i + 49) 5 - (k + 1)).toNat) < ((X (i + 49) 5 - k).toNat)))) ∧ ((¬ (pa = (((X (i + 88) (k)).tdiv (a)).tmod (b)))) → ((-1) = (srN (fun k : Nat => ((X (i + 88) k).tdiv (a)).tmod (b)) (X (i + 49) 5).toNat).2))))))))))))))) ∧ ((¬ (0 < b)) → ((-1) = (srN (fun k : Nat => ((X (i + 88) k).tdiv (a)).tmod (b)) (X (i + 49) 5).toNat).2))))
set_option maxHeartbeats 4000000 in
set_option maxRecDepth 100000 in
theorem w_X4_sure {l : Launch} {D : va_G} {cy : Nat → ClassId} {bs N : Nat} {sa : Nat → Nat} {kd len : Nat → Nat} {X Y : Nat → Int → Int} {R : Nat → Int → Option Nat} {i : Nat} (hC : zLaws N kd len R i) (a : Int) (ha : rI a) (b : Int) (hb : rI b) (hF : F_X4_sure i X Y R a b) : Met l yX4_sure (.code yX4_sure cX4_sure 6 (some .int) :: zTB) (zRm 0 0) (zPc D cy bs sa N kd len X Y R [.ref (bs + (i + 49)), .int (zI (a)), .int (zI (b))]) (zQi D cy bs N kd len (fun r st => r = (srN (fun k : Nat => ((X (i + 88) k).tdiv (a)).tmod (b)) (X (i + 49) 5).toNat).2 ∧ st = (X, Y, R))) 0 0 (zA bs) := by
  refine zstart (by decide) (Nat.le_of_ble_eq_true rfl) ?_
  intro p e s m args below meth c ls C hE hH hr hlk hnm hl hargs
  have hF := hF hH.2.2.1 hH.2.2.2
  have hS : va_S (zA bs) s.heap s.heap [] := va_S.rf
  have hl : lv_has ls 6 [(0, .ref (bs + (i + 49))), (1, .int (zI (a))), (2, .int (zI (b)))] := hl
  refine zd_iconst C dX4_sure_0 ?_
  refine lv_istore_n (lv' := [(3, .int (zI ((-1)))), (0, .ref (bs + (i + 49))), (1, .int (zI (a))), (2, .int (zI (b)))]) C.1 C.2.1 dX4_sure_1 rfl hl (by decide) rfl (fun ls hl => ?_)
  refine lv_iload_n C.1 C.2.1 dX4_sure_2 rfl (lv_at hl 2 rfl) ?_
  refine zd_if_le C ha 10 dX4_sure_3 (by decide) (fun c1 => ?_) (fun c1 => ?_)
  · have hF := hF.1 c1
    refine zd_iconst C dX4_sure_10 ?_
    exact zd_iret C hr hlk hH hS (by decide) (⟨hF, rfl⟩) dX4_sure_11
  · have hF := hF.2 c1
    refine lv_iload_n C.1 C.2.1 dX4_sure_6 rfl (lv_at hl 3 rfl) ?_
    refine zd_if_gt C hb 12 dX4_sure_7 (by decide) (fun c2 => ?_) (fun c2 => ?_)
    · have hF := hF.1 c2
      refine zd_iconst C dX4_sure_12 ?_
      refine lv_istore (lv' := [(4, .int (zI (0))), (3, .int (zI ((-1)))), (0, .ref (bs + (i + 49))), (1, .int (zI (a))), (2, .int (zI (b)))]) C.1 C.2.1 dX4_sure_13 hl (by decide) rfl (fun ls hl => ?_)
      obtain ⟨hI3, hF⟩ := hF
      have L3 : ∀ (fu : Nat) (pa : Int) (k : Int), rI pa → rI k → (∃ m : Nat, k = m ∧ m ≤ (X (i + 49) 5).toNat ∧ srN (fun k : Nat => ((X (i + 88) k).tdiv (a)).tmod (b)) m = (true, pa)) → ((X (i + 49) 5 - k).toNat) < fu → ∀ (H : Heap) (locs : List Loc) (ls : Array Slot), zH D cy bs N kd len X Y R H → va_S (zA bs) s.heap H locs → lv_has ls 6 [(3, .int (zI (pa))), (4, .int (zI (k))), (0, .ref (bs + (i + 49))), (1, .int (zI (a))), (2, .int (zI (b)))] → W p l e (zRm 0 0) s m args below meth c H locs 0 0 (MQ below (zQi D cy bs N kd len (fun r st => r = (srN (fun k : Nat => ((X (i + 88) k).tdiv (a)).tmod (b)) (X (i + 49) 5).toNat).2 ∧ st = (X, Y, R))) args s 0 0 (zA bs)) (F0 m 15 ls []) := by
        intro fu
        induction fu with
        | zero => intro pa k _ _ _ hmu; exact absurd hmu (Nat.not_lt_zero _)
        | succ fu ih3 =>
          intro pa k hpa hk hI hmu3 H locs ls hH hS hl
          have hF := hF pa k hpa hk  hI
          refine lv_iload C.1 C.2.1 dX4_sure_15 (lv_at hl 1 rfl) ?_
          refine lv_aload_n C.1 C.2.1 dX4_sure_17 rfl (lv_at hl 2 rfl) ?_
          refine zg4_5 C hH (zLw_n0 hC) (zLw_k0 hC) q_520 dX4_sure_18 ?_
          refine zd_icmp_ge C hk (hH.2.2.1 _ _) 66 dX4_sure_21 (by decide) (fun c4 => ?_) (fun c4 => ?_)
          · have hF := hF.1 c4
            refine lv_iload_n C.1 C.2.1 dX4_sure_66 rfl (lv_at hl 0 rfl) ?_
            exact zd_iret C hr hlk hH hS hpa (⟨hF, rfl⟩) dX4_sure_67
          · have hF := hF.2 c4
            refine lv_iload C.1 C.2.1 dX4_sure_24 (lv_at hl 1 rfl) ?_
            refine zd_bipush C (by decide) dX4_sure_26 ?_
            refine zd_icmp_ge C hk (by decide) 66 dX4_sure_28 (by decide) (fun c5 => ?_) (fun c5 => ?_)
            · have hF := hF.1 c5
              refine lv_iload_n C.1 C.2.1 dX4_sure_66 rfl (lv_at hl 0 rfl) ?_
              exact zd_iret C hr hlk hH hS hpa (⟨hF, rfl⟩) dX4_sure_67
            · have hF := hF.2 c5
              refine lv_aload_n C.1 C.2.1 dX4_sure_31 rfl (lv_at hl 2 rfl) ?_
              refine zg4_4 C hH (zLw_n0 hC) (zLw_k0 hC) q_518 (zLw_m hC).2.2 dX4_sure_32 ?_
              refine lv_iload C.1 C.2.1 dX4_sure_35 (lv_at hl 1 rfl) ?_
              obtain ⟨o6, hF⟩ := hF
              refine zd_iald C hH (zLw_nn hC) (zLw_m hC).1 o6.1 (by rw [zLw_lm hC]; exact o6.2) (by rw [zLw_lm hC]; decide) dX4_sure_37 ?_
              refine lv_iload_n C.1 C.2.1 dX4_sure_38 rfl (lv_at hl 3 rfl) ?_
              obtain ⟨o7, hF⟩ := hF
              refine zd_idiv C (hH.2.2.1 _ _) ha o7.1 o7.2 dX4_sure_39 ?_
              refine lv_iload_n C.1 C.2.1 dX4_sure_40 rfl (lv_at hl 4 rfl) ?_
              obtain ⟨o8, hF⟩ := hF
              refine zd_irem C (tdiv_rI (hH.2.2.1 _ _) (show (a : Int) ≠ -1 from o7.2)) hb o8.1 o8.2 dX4_sure_41 ?_
              refine lv_istore (lv' := [(5, .int (zI (((X (i + 88) (k)).tdiv (a)).tmod (b)))), (3, .int (zI (pa))), (4, .int (zI (k))), (0, .ref (bs + (i + 49))), (1, .int (zI (a))), (2, .int (zI (b)))]) C.1 C.2.1 dX4_sure_42 hl (by decide) rfl (fun ls hl => ?_)
              refine lv_iload_n C.1 C.2.1 dX4_sure_44 rfl (lv_at hl 1 rfl) ?_
              refine zd_iconst C dX4_sure_45 ?_
              refine zd_icmp_eq C hpa (by decide) 57 dX4_sure_46 (by decide) (fun c9 => ?_) (fun c9 => ?_)
              · have hF := hF.1 c9
                refine lv_iload C.1 C.2.1 dX4_sure_57 (lv_at hl 0 rfl) ?_
                refine lv_istore_n (lv' := [(3, .int (zI (((X (i + 88) (k)).tdiv (a)).tmod (b)))), (5, .int (zI (((X (i + 88) (k)).tdiv (a)).tmod (b)))), (4, .int (zI (k))), (0, .ref (bs + (i + 49))), (1, .int (zI (a))), (2, .int (zI (b)))]) C.1 C.2.1 dX4_sure_59 rfl hl (by decide) rfl (fun ls hl => ?_)
                refine zd_iinc (k := 2) (lv' := [(4, .int (zI (k + 1))), (3, .int (zI (((X (i + 88) (k)).tdiv (a)).tmod (b)))), (5, .int (zI (((X (i + 88) (k)).tdiv (a)).tmod (b)))), (0, .ref (bs + (i + 49))), (1, .int (zI (a))), (2, .int (zI (b)))]) C hl rfl dX4_sure_60 (by decide) rfl (fun ls hl => ?_)
                refine lv_goto (tgt := 15) C.1 C.2.1 dX4_sure_63 (by decide) ?_
                obtain ⟨o10, hF⟩ := hF
                exact ih3 (((X (i + 88) (k)).tdiv (a)).tmod (b)) (k + 1) (tmod_rI (tdiv_rI (hH.2.2.1 _ _) (show (a : Int) ≠ -1 from o7.2)) (show (b : Int) ≠ -1 from o8.2)) o10 hF.1 (Nat.lt_of_lt_of_le hF.2 (Nat.le_of_lt_succ hmu3)) _ _ _ hH hS (lv_sub hl [1, 0, 3, 4, 5] rfl)
              · have hF := hF.2 c9
                refine lv_iload_n C.1 C.2.1 dX4_sure_49 rfl (lv_at hl 1 rfl) ?_
                refine lv_iload C.1 C.2.1 dX4_sure_50 (lv_at hl 0 rfl) ?_
                refine zd_icmp_eq C hpa (tmod_rI (tdiv_rI (hH.2.2.1 _ _) (show (a : Int) ≠ -1 from o7.2)) (show (b : Int) ≠ -1 from o8.2)) 57 dX4_sure_52 (by decide) (fun c11 => ?_) (fun c11 => ?_)
                · have hF := hF.1 c11
                  refine lv_iload C.1 C.2.1 dX4_sure_57 (lv_at hl 0 rfl) ?_
                  refine lv_istore_n (lv' := [(3, .int (zI (((X (i + 88) (k)).tdiv (a)).tmod (b)))), (5, .int (zI (((X (i + 88) (k)).tdiv (a)).tmod (b)))), (4, .int (zI (k))), (0, .ref (bs + (i + 49))), (1, .int (zI (a))), (2, .int (zI (b)))]) C.1 C.2.1 dX4_sure_59 rfl hl (by decide) rfl (fun ls hl => ?_)
                  refine zd_iinc (k := 2) (lv' := [(4, .int (zI (k + 1))), (3, .int (zI (((X (i + 88) (k)).tdiv (a)).tmod (b)))), (5, .int (zI (((X (i + 88) (k)).tdiv (a)).tmod (b)))), (0, .ref (bs + (i + 49))), (1, .int (zI (a))), (2, .int (zI (b)))]) C hl rfl dX4_sure_60 (by decide) rfl (fun ls hl => ?_)
                  refine lv_goto (tgt := 15) C.1 C.2.1 dX4_sure_63 (by decide) ?_
                  obtain ⟨o12, hF⟩ := hF
                  exact ih3 (((X (i + 88) (k)).tdiv (a)).tmod (b)) (k + 1) (tmod_rI (tdiv_rI (hH.2.2.1 _ _) (show (a : Int) ≠ -1 from o7.2)) (show (b : Int) ≠ -1 from o8.2)) o12 hF.1 (Nat.lt_of_lt_of_le hF.2 (Nat.le_of_lt_succ hmu3)) _ _ _ hH hS (lv_sub hl [1, 0, 3, 4, 5] rfl)
                · have hF := hF.2 c11
                  refine zd_iconst C dX4_sure_55 ?_
                  exact zd_iret C hr hlk hH hS (by decide) (⟨hF, rfl⟩) dX4_sure_56
      exact L3 (((X (i + 49) 5 - (0 : Int)).toNat) + 1) ((-1 : Int)) ((0 : Int)) (by decide) (by decide) hI3 (Nat.lt_succ_self _) _ _ _ hH hS (lv_sub hl [1, 0, 2, 3, 4] rfl)
    · have hF := hF.2 c2
      refine zd_iconst C dX4_sure_10 ?_
      exact zd_iret C hr hlk hH hS (by decide) (⟨hF, rfl⟩) dX4_sure_11
theorem v_X4_sure {X Y : Nat → Int → Int} {R : Nat → Int → Option Nat} {i : Nat} (a : Int) (ha : rI a) (b : Int) (hb : rI b) (hp : (1 ≤ a ∧ a ≤ 100) ∧ (1 ≤ b ∧ b ≤ 100) ∧ (0 ≤ X (i + 49) 5 ∧ X (i + 49) 5 ≤ 36) ∧ ∀ k : Nat, (k : Int) < X (i + 49) 5 → 0 ≤ X (i + 88) k) : F_X4_sure i X Y R a b := by
  unfold F_X4_sure
  intro hX hY
  obtain ⟨ha, hb, h5, hk⟩ := hp
  refine ⟨?_, ?_⟩
  · intro c1
    exfalso
    omega
  intro c2
  refine ⟨?_, ?_⟩
  · intro c3
    refine ⟨?_, ?_⟩
    · exact ⟨0, rfl, Nat.zero_le _, rfl⟩
    intro pa k
    intro _
    intro _
    intro h1
    obtain ⟨m, rfl, hm, hs⟩ := h1
    refine ⟨?_, ?_⟩
    · intro c4
      rw [show (X (i + 49) 5).toNat = m by omega, hs]
    intro c5
    refine ⟨?_, ?_⟩
    · intro c6
      exfalso
      omega
    intro c7
    refine ⟨?_, ?_⟩
    · first | omega | exact ⟨by omega, by omega⟩ | decide | assumption | exact ⟨by omega, by omega, by omega⟩ | exact ⟨by decide, by decide⟩
    refine ⟨?_, ?_⟩
    · first | omega | exact ⟨by omega, by omega⟩ | decide | assumption | exact ⟨by omega, by omega, by omega⟩ | exact ⟨by decide, by decide⟩
    refine ⟨?_, ?_⟩
    · first | omega | exact ⟨by omega, by omega⟩ | decide | assumption | exact ⟨by omega, by omega, by omega⟩ | exact ⟨by decide, by decide⟩
    refine ⟨?_, ?_⟩
    · intro c8
      refine ⟨?_, ?_⟩
      · first | omega | exact ⟨by omega, by omega⟩ | decide | assumption | exact ⟨by omega, by omega, by omega⟩ | exact ⟨by decide, by decide⟩
      refine ⟨?_, ?_⟩
      · exact ⟨m + 1, by omega, by omega, srN_t hs (Or.inl c8)⟩
      first | omega | exact ⟨by omega, by omega⟩ | decide | assumption | exact ⟨by omega, by omega, by omega⟩ | exact ⟨by decide, by decide⟩
    intro c9
    refine ⟨?_, ?_⟩
    · intro c10
      refine ⟨?_, ?_⟩
      · first | omega | exact ⟨by omega, by omega⟩ | decide | assumption | exact ⟨by omega, by omega, by omega⟩ | exact ⟨by decide, by decide⟩
      refine ⟨?_, ?_⟩
      · exact ⟨m + 1, by omega, by omega, srN_t hs (Or.inr c10)⟩
      first | omega | exact ⟨by omega, by omega⟩ | decide | assumption | exact ⟨by omega, by omega, by omega⟩ | exact ⟨by decide, by decide⟩
    intro c11
    have e := srN_n (f := (fun k : Nat => ((X (i + 88) k).tdiv (a)).tmod (b))) (k := m) (Or.inr (by rw [hs]; exact ⟨c9, c11⟩))
    have g := srN_f e ((X (i + 49) 5).toNat - (m + 1))
    rw [show m + 1 + ((X (i + 49) 5).toNat - (m + 1)) = (X (i + 49) 5).toNat by omega] at g
    rw [g]
  intro c12
  exfalso
  omega
theorem c_X4_sure {l : Launch} {D : va_G} {cy : Nat → ClassId} {bs N : Nat} {sa : Nat → Nat} {kd len : Nat → Nat} {X Y : Nat → Int → Int} {R : Nat → Int → Option Nat} {i : Nat} (hC : zLaws N kd len R i) (a : Int) (ha : rI a) (b : Int) (hb : rI b) (hp : (1 ≤ a ∧ a ≤ 100) ∧ (1 ≤ b ∧ b ≤ 100) ∧ (0 ≤ X (i + 49) 5 ∧ X (i + 49) 5 ≤ 36) ∧ ∀ k : Nat, (k : Int) < X (i + 49) 5 → 0 ≤ X (i + 88) k) : Met l yX4_sure (.code yX4_sure cX4_sure 6 (some .int) :: zTB) (zRm 0 0) (zPc D cy bs sa N kd len X Y R [.ref (bs + (i + 49)), .int (zI (a)), .int (zI (b))]) (zQi D cy bs N kd len (fun r st => r = (srN (fun k : Nat => ((X (i + 88) k).tdiv (a)).tmod (b)) (X (i + 49) 5).toNat).2 ∧ st = (X, Y, R))) 0 0 (zA bs) := w_X4_sure hC a ha b hb (v_X4_sure a ha b hb hp)
abbrev cX4_greatestGroup : ByteArray := prog_6_method_7_code
def yX4_greatestGroup : MethodName := ⟨RX4, "greatestGroup", "(I)I"⟩
theorem dX4_greatestGroup_0 : decode cX4_greatestGroup 0 = .ok (.iconst 0, 1) := by decide +kernel
theorem dX4_greatestGroup_1 : decode cX4_greatestGroup 1 = .ok (.istore_n 2, 1) := by decide +kernel
theorem dX4_greatestGroup_2 : decode cX4_greatestGroup 2 = .ok (.iconst 0, 1) := by decide +kernel
theorem dX4_greatestGroup_3 : decode cX4_greatestGroup 3 = .ok (.istore_n 3, 1) := by decide +kernel
theorem dX4_greatestGroup_4 : decode cX4_greatestGroup 4 = .ok (.iload_n 3, 1) := by decide +kernel
theorem dX4_greatestGroup_5 : decode cX4_greatestGroup 5 = .ok (.aload_n 0, 1) := by decide +kernel
theorem dX4_greatestGroup_6 : decode cX4_greatestGroup 6 = .ok (.getfield 16, 3) := by decide +kernel
theorem dX4_greatestGroup_9 : decode cX4_greatestGroup 9 = .ok (.arraylength, 1) := by decide +kernel
theorem dX4_greatestGroup_10 : decode cX4_greatestGroup 10 = .ok (.if_icmp .ge 16, 3) := by decide +kernel
theorem dX4_greatestGroup_13 : decode cX4_greatestGroup 13 = .ok (.aload_n 0, 1) := by decide +kernel
theorem dX4_greatestGroup_14 : decode cX4_greatestGroup 14 = .ok (.getfield 16, 3) := by decide +kernel
theorem dX4_greatestGroup_17 : decode cX4_greatestGroup 17 = .ok (.iload_n 3, 1) := by decide +kernel
theorem dX4_greatestGroup_18 : decode cX4_greatestGroup 18 = .ok (.iconst 0, 1) := by decide +kernel
theorem dX4_greatestGroup_19 : decode cX4_greatestGroup 19 = .ok (.iastore, 1) := by decide +kernel
theorem dX4_greatestGroup_20 : decode cX4_greatestGroup 20 = .ok (.iinc 3 1, 3) := by decide +kernel
theorem dX4_greatestGroup_23 : decode cX4_greatestGroup 23 = .ok (.goto (-19), 3) := by decide +kernel
theorem dX4_greatestGroup_26 : decode cX4_greatestGroup 26 = .ok (.iconst 0, 1) := by decide +kernel
theorem dX4_greatestGroup_27 : decode cX4_greatestGroup 27 = .ok (.istore_n 3, 1) := by decide +kernel
theorem dX4_greatestGroup_28 : decode cX4_greatestGroup 28 = .ok (.iload_n 3, 1) := by decide +kernel
theorem dX4_greatestGroup_29 : decode cX4_greatestGroup 29 = .ok (.aload_n 0, 1) := by decide +kernel
theorem dX4_greatestGroup_30 : decode cX4_greatestGroup 30 = .ok (.getfield 31, 3) := by decide +kernel
theorem dX4_greatestGroup_33 : decode cX4_greatestGroup 33 = .ok (.if_icmp .ge 68, 3) := by decide +kernel
theorem dX4_greatestGroup_36 : decode cX4_greatestGroup 36 = .ok (.iload_n 3, 1) := by decide +kernel
theorem dX4_greatestGroup_37 : decode cX4_greatestGroup 37 = .ok (.bipush 36, 2) := by decide +kernel
theorem dX4_greatestGroup_39 : decode cX4_greatestGroup 39 = .ok (.if_icmp .ge 62, 3) := by decide +kernel
theorem dX4_greatestGroup_42 : decode cX4_greatestGroup 42 = .ok (.aload_n 0, 1) := by decide +kernel
theorem dX4_greatestGroup_43 : decode cX4_greatestGroup 43 = .ok (.getfield 11, 3) := by decide +kernel
theorem dX4_greatestGroup_46 : decode cX4_greatestGroup 46 = .ok (.iload_n 3, 1) := by decide +kernel
theorem dX4_greatestGroup_47 : decode cX4_greatestGroup 47 = .ok (.aaload, 1) := by decide +kernel
theorem dX4_greatestGroup_48 : decode cX4_greatestGroup 48 = .ok (.iload_n 1, 1) := by decide +kernel
theorem dX4_greatestGroup_49 : decode cX4_greatestGroup 49 = .ok (.iaload, 1) := by decide +kernel
theorem dX4_greatestGroup_50 : decode cX4_greatestGroup 50 = .ok (.iconst 1, 1) := by decide +kernel
theorem dX4_greatestGroup_51 : decode cX4_greatestGroup 51 = .ok (.iadd, 1) := by decide +kernel
theorem dX4_greatestGroup_52 : decode cX4_greatestGroup 52 = .ok (.istore 4, 2) := by decide +kernel
theorem dX4_greatestGroup_54 : decode cX4_greatestGroup 54 = .ok (.iload 4, 2) := by decide +kernel
theorem dX4_greatestGroup_56 : decode cX4_greatestGroup 56 = .ok (.ifCond .lt 39, 3) := by decide +kernel
theorem dX4_greatestGroup_59 : decode cX4_greatestGroup 59 = .ok (.iload 4, 2) := by decide +kernel
theorem dX4_greatestGroup_61 : decode cX4_greatestGroup 61 = .ok (.aload_n 0, 1) := by decide +kernel
theorem dX4_greatestGroup_62 : decode cX4_greatestGroup 62 = .ok (.getfield 16, 3) := by decide +kernel
theorem dX4_greatestGroup_65 : decode cX4_greatestGroup 65 = .ok (.arraylength, 1) := by decide +kernel
theorem dX4_greatestGroup_66 : decode cX4_greatestGroup 66 = .ok (.if_icmp .lt 6, 3) := by decide +kernel
theorem dX4_greatestGroup_69 : decode cX4_greatestGroup 69 = .ok (.goto 26, 3) := by decide +kernel
theorem dX4_greatestGroup_72 : decode cX4_greatestGroup 72 = .ok (.aload_n 0, 1) := by decide +kernel
theorem dX4_greatestGroup_73 : decode cX4_greatestGroup 73 = .ok (.getfield 16, 3) := by decide +kernel
theorem dX4_greatestGroup_76 : decode cX4_greatestGroup 76 = .ok (.iload 4, 2) := by decide +kernel
theorem dX4_greatestGroup_78 : decode cX4_greatestGroup 78 = .ok (.dup2, 1) := by decide +kernel
theorem dX4_greatestGroup_79 : decode cX4_greatestGroup 79 = .ok (.iaload, 1) := by decide +kernel
theorem dX4_greatestGroup_80 : decode cX4_greatestGroup 80 = .ok (.iconst 1, 1) := by decide +kernel
theorem dX4_greatestGroup_81 : decode cX4_greatestGroup 81 = .ok (.iadd, 1) := by decide +kernel
theorem dX4_greatestGroup_82 : decode cX4_greatestGroup 82 = .ok (.iastore, 1) := by decide +kernel
theorem dX4_greatestGroup_83 : decode cX4_greatestGroup 83 = .ok (.iload_n 2, 1) := by decide +kernel
theorem dX4_greatestGroup_84 : decode cX4_greatestGroup 84 = .ok (.aload_n 0, 1) := by decide +kernel
theorem dX4_greatestGroup_85 : decode cX4_greatestGroup 85 = .ok (.getfield 16, 3) := by decide +kernel
theorem dX4_greatestGroup_88 : decode cX4_greatestGroup 88 = .ok (.iload 4, 2) := by decide +kernel
theorem dX4_greatestGroup_90 : decode cX4_greatestGroup 90 = .ok (.iaload, 1) := by decide +kernel
theorem dX4_greatestGroup_91 : decode cX4_greatestGroup 91 = .ok (.invokestatic 80, 3) := by decide +kernel
theorem dX4_greatestGroup_94 : decode cX4_greatestGroup 94 = .ok (.istore_n 2, 1) := by decide +kernel
theorem dX4_greatestGroup_95 : decode cX4_greatestGroup 95 = .ok (.iinc 3 1, 3) := by decide +kernel
theorem dX4_greatestGroup_98 : decode cX4_greatestGroup 98 = .ok (.goto (-70), 3) := by decide +kernel
theorem dX4_greatestGroup_101 : decode cX4_greatestGroup 101 = .ok (.iload_n 2, 1) := by decide +kernel
theorem dX4_greatestGroup_102 : decode cX4_greatestGroup 102 = .ok (.ireturn, 1) := by decide +kernel
theorem q_517 : Cond.fieldLink RX4 16 RX4 "groups" "[I" ∈ zTB := zmem 517 (by decide +kernel) rfl
theorem q_516 : Cond.fieldLink RX4 11 RX4 "tips" "[[I" ∈ zTB := zmem 516 (by decide +kernel) rfl
theorem q_1275 : Cond.methodLink RX4 80 Lib.Math.max.name ∈ zTB := zmem 1275 (by decide +kernel) rfl
def F_X4_greatestGroup (i : Nat) (X Y : Nat → Int → Int) (R : Nat → Int → Option Nat) (a : Int) : Prop := (∀ i j, rI (X i j)) → (∀ i j, rL (Y i j)) → (∃ m : Nat, (0 : Int) = m ∧ m ≤ 16 ∧ (∀ z, z ≠ i + 87 → X z = X z) ∧ ∀ y : Nat, y < m → X (i + 87) y = 0) ∧ (∀ (k : Int) (X2 : Nat → Int → Int), rI k → (∀ i j, rI (X2 i j)) → (∃ m : Nat, k = m ∧ m ≤ 16 ∧ (∀ z, z ≠ i + 87 → X2 z = X z) ∧ ∀ y : Nat, y < m → X2 (i + 87) y = 0) → (((((16 : Nat) : Int) ≤ k) → ((∃ m : Nat, (0 : Int) = m ∧ m ≤ (X (i + 49) 5).toNat ∧ (∀ z, z ≠ i + 87 → X2 z = X z) ∧ (∀ y : Nat, y < 16 → X2 (i + 87) y = gcN (fun k => X (i + 51 + k) a + 1) m y) ∧ (0 : Int) = mxN (gcN (fun k => X (i + 51 + k) a + 1) m) 16) ∧ (∀ (g2 : Int) (k : Int) (X5 : Nat → Int → Int), rI g2 → rI k → (∀ i j, rI (X5 i j)) → (∃ m : Nat, k = m ∧ m ≤ (X (i + 49) 5).toNat ∧ (∀ z, z ≠ i + 87 → X5 z = X z) ∧ (∀ y : Nat, y < 16 → X5 (i + 87) y = gcN (fun k => X (i + 51 + k) a + 1) m y) ∧ g2 = mxN (gcN (fun k => X (i + 51 + k) a + 1) m) 16) → ((((X5 (i + 49) 5) ≤ k) → (g2 = ggN X i (a) ∧ ∀ z, z ≠ i + 87 → (X5) z = X z)) ∧ ((¬ ((X5 (i + 49) 5) ≤ k)) → (((36 ≤ k) → (g2 = ggN X i (a) ∧ ∀ z, z ≠ i + 87 → (X5) z = X z)) ∧ ((¬ (36 ≤ k)) → ((0 ≤ k ∧ k < 36) ∧ ((0 ≤ a ∧ a < 41) ∧ ((rI ((X5 (i + 51 + (k : Int).toNat) (a)) + 1)) ∧ (((((X5 (i + 51 + (k : Int).toNat) (a)) + 1) < 0) → ((rI (k + 1)) ∧ (∃ m : Nat, (k + 1) = m ∧ m ≤ (X (i + 49) 5).toNat ∧ (∀ z, z ≠ i + 87 → X5 z = X z) ∧ (∀ y : Nat, y < 16 → X5 (i + 87) y = gcN (fun k => X (i + 51 + k) a + 1) m y) ∧ g2 = mxN (gcN (fun k => X (i + 51 + k) a + 1) m) 16) ∧ (((X (i + 49) 5 - (k + 1)).toNat) < ((X (i + 49) 5 - k).toNat)))) ∧ ((¬ (((X5 (i + 51 + (k : Int).toNat) (a)) + 1) < 0)) → (((((X5 (i + 51 + (k : Int).toNat) (a)) + 1) < ((16 : Nat) : Int)) → ((0 ≤ ((X5 (i + 51 + (k : Int).toNat) (a)) + 1) ∧ ((X5 (i + 51 + (k : Int).toNat) (a)) + 1) < 16) ∧ ((0 ≤ ((X5 (i + 51 + (k : Int).toNat) (a)) + 1) ∧ ((X5 (i + 51 + (k : Int).toNat) (a)) + 1) < 16) ∧ ((rI ((X5 (i + 87) ((X5 (i + 51 + (k : Int).toNat) (a)) + 1)) + 1)) ∧ (∀ X17 : Nat → Int → Int, X17 = zU X5 (i + 87) ((X5 (i + 51 + (k : Int).toNat) (a)) + 1) ((X5 (i + 87) ((X5 (i + 51 + (k : Int).toNat) (a)) + 1)) + 1) → (∀ i j, rI (X17 i j)) → ((0 ≤ ((X5 (i + 51 + (k : Int).toNat) (a)) + 1) ∧ ((X5 (i + 51 + (k : Int).toNat) (a)) + 1) < 16) ∧ ((rI (k + 1)) ∧ (∃ m : Nat, (k + 1) = m ∧ m ≤ (X (i + 49) 5).toNat ∧ (∀ z, z ≠ i + 87 → X17 z = X z) ∧ (∀ y : Nat, y < 16 → X17 (i + 87) y = gcN (fun k => X (i + 51 + k) a + 1) m y) ∧ (max (g2) (X17 (i + 87) ((X5 (i + 51 + (k : Int).toNat) (a)) + 1))) = mxN (gcN (fun k => X (i + 51 + k) a + 1) m) 16) ∧ (((X (i + 49) 5 - (k + 1)).toNat) < ((X (i + 49) 5 - k).toNat))))))))) ∧ ((¬ (((X5 (i + 51 + (k : Int).toNat) (a)) + 1) < ((16 : Nat) : Int))) → ((rI (k + 1)) ∧ (∃ m : Nat, (k + 1) = m ∧ m ≤ (X (i + 49) 5).toNat ∧ (∀ z, z ≠ i + 87 → X5 z = X z) ∧ (∀ y : Nat, y < 16 → X5 (i + 87) y = gcN (fun k => X (i + 51 + k) a + 1) m y) ∧ g2 = mxN (gcN (fun k => X (i + 51 + k) a + 1) m) 16) ∧ (((X (i + 49) 5 - (k + 1)).toNat) < ((X (i + 49) 5 - k).toNat))))))))))))))))) ∧ ((¬ (((16 : Nat) : Int) ≤ k)) → ((0 ≤ k ∧ k < 16) ∧ (∀ X22 : Nat → Int → Int, X22 = zU X2 (i + 87) (k) (0) → (∀ i j, rI (X22 i j)) → ((rI (k + 1)) ∧ (∃ m : Nat, (k + 1) = m ∧ m ≤ 16 ∧ (∀ z, z ≠ i + 87 → X22 z = X z) ∧ ∀ y : Nat, y < m → X22 (i + 87) y = 0) ∧ (((16 - (k + 1)).toNat) < ((16 - k).toNat))))))))
set_option maxHeartbeats 4000000 in
set_option maxRecDepth 100000 in
theorem w_X4_greatestGroup {l : Launch} {D : va_G} {cy : Nat → ClassId} {bs N : Nat} {sa : Nat → Nat} {kd len : Nat → Nat} {X Y : Nat → Int → Int} {R : Nat → Int → Option Nat} {i : Nat} (hC : zLaws N kd len R i) (a : Int) (ha : rI a) (hF : F_X4_greatestGroup i X Y R a) : Met l yX4_greatestGroup (.code yX4_greatestGroup cX4_greatestGroup 5 (some .int) :: zTB) (zRm 1 60) (zPc D cy bs sa N kd len X Y R [.ref (bs + (i + 49)), .int (zI (a))]) (zQi D cy bs N kd len (fun r st => st.2.1 = Y ∧ st.2.2 = R ∧ (r = ggN X i (a) ∧ ∀ z, z ≠ i + 87 → (st.1) z = X z))) 0 0 (zA bs) := by
  refine zstart (by decide) (Nat.le_of_ble_eq_true rfl) ?_
  intro p e s m args below meth c ls C hE hH hr hlk hnm hl hargs
  have hF := hF hH.2.2.1 hH.2.2.2
  have hS : va_S (zA bs) s.heap s.heap [] := va_S.rf
  have hl : lv_has ls 5 [(0, .ref (bs + (i + 49))), (1, .int (zI (a)))] := hl
  refine zd_iconst C dX4_greatestGroup_0 ?_
  refine lv_istore_n (lv' := [(2, .int (zI (0))), (0, .ref (bs + (i + 49))), (1, .int (zI (a)))]) C.1 C.2.1 dX4_greatestGroup_1 rfl hl (by decide) rfl (fun ls hl => ?_)
  refine zd_iconst C dX4_greatestGroup_2 ?_
  refine lv_istore_n (lv' := [(3, .int (zI (0))), (2, .int (zI (0))), (0, .ref (bs + (i + 49))), (1, .int (zI (a)))]) C.1 C.2.1 dX4_greatestGroup_3 rfl hl (by decide) rfl (fun ls hl => ?_)
  obtain ⟨hI1, hF⟩ := hF
  have L1 : ∀ (fu : Nat) (k : Int) (X2 : Nat → Int → Int), rI k → (∃ m : Nat, k = m ∧ m ≤ 16 ∧ (∀ z, z ≠ i + 87 → X2 z = X z) ∧ ∀ y : Nat, y < m → X2 (i + 87) y = 0) → ((16 - k).toNat) < fu → ∀ (H : Heap) (locs : List Loc) (ls : Array Slot), zH D cy bs N kd len X2 Y R H → va_S (zA bs) s.heap H locs → lv_has ls 5 [(3, .int (zI (k))), (2, .int (zI (0))), (0, .ref (bs + (i + 49))), (1, .int (zI (a)))] → W p l e (zRm 1 60) s m args below meth c H locs 0 0 (MQ below (zQi D cy bs N kd len (fun r st => st.2.1 = Y ∧ st.2.2 = R ∧ (r = ggN X i (a) ∧ ∀ z, z ≠ i + 87 → (st.1) z = X z))) args s 0 0 (zA bs)) (F0 m 4 ls []) := by
    intro fu
    induction fu with
    | zero => intro k X2 _ _ hmu; exact absurd hmu (Nat.not_lt_zero _)
    | succ fu ih1 =>
      intro k X2 hk hI hmu1 H locs ls hH hS hl
      have hF := hF k X2 hk hH.2.2.1 hI
      refine lv_iload_n C.1 C.2.1 dX4_greatestGroup_4 rfl (lv_at hl 0 rfl) ?_
      refine lv_aload_n C.1 C.2.1 dX4_greatestGroup_5 rfl (lv_at hl 2 rfl) ?_
      refine zg4_3 C hH (zLw_n0 hC) (zLw_k0 hC) q_517 (zLw_g hC).2.2 dX4_greatestGroup_6 ?_
      refine zd_alen C hH (zLw_ng hC) (t0 := 1) (by rw [(zLw_g hC).1]; rfl) rfl rfl dX4_greatestGroup_9 ?_
      rw [zLw_lg hC]
      refine zd_icmp_ge C hk (by decide) 26 dX4_greatestGroup_10 (by decide) (fun c3 => ?_) (fun c3 => ?_)
      · have hF := hF.1 c3
        refine zd_iconst C dX4_greatestGroup_26 ?_
        refine lv_istore_n (lv' := [(3, .int (zI (0))), (2, .int (zI (0))), (0, .ref (bs + (i + 49))), (1, .int (zI (a)))]) C.1 C.2.1 dX4_greatestGroup_27 rfl hl (by decide) rfl (fun ls hl => ?_)
        obtain ⟨hI4, hF⟩ := hF
        have L4 : ∀ (fu : Nat) (g2 : Int) (k : Int) (X5 : Nat → Int → Int), rI g2 → rI k → (∃ m : Nat, k = m ∧ m ≤ (X (i + 49) 5).toNat ∧ (∀ z, z ≠ i + 87 → X5 z = X z) ∧ (∀ y : Nat, y < 16 → X5 (i + 87) y = gcN (fun k => X (i + 51 + k) a + 1) m y) ∧ g2 = mxN (gcN (fun k => X (i + 51 + k) a + 1) m) 16) → ((X (i + 49) 5 - k).toNat) < fu → ∀ (H : Heap) (locs : List Loc) (ls : Array Slot), zH D cy bs N kd len X5 Y R H → va_S (zA bs) s.heap H locs → lv_has ls 5 [(2, .int (zI (g2))), (3, .int (zI (k))), (0, .ref (bs + (i + 49))), (1, .int (zI (a)))] → W p l e (zRm 1 60) s m args below meth c H locs 0 0 (MQ below (zQi D cy bs N kd len (fun r st => st.2.1 = Y ∧ st.2.2 = R ∧ (r = ggN X i (a) ∧ ∀ z, z ≠ i + 87 → (st.1) z = X z))) args s 0 0 (zA bs)) (F0 m 28 ls []) := by
          intro fu
          induction fu with
          | zero => intro g2 k X5 _ _ _ hmu; exact absurd hmu (Nat.not_lt_zero _)
          | succ fu ih4 =>
            intro g2 k X5 hg2 hk hI hmu4 H locs ls hH hS hl
            have hF := hF g2 k X5 hg2 hk hH.2.2.1 hI
            refine lv_iload_n C.1 C.2.1 dX4_greatestGroup_28 rfl (lv_at hl 1 rfl) ?_
            refine lv_aload_n C.1 C.2.1 dX4_greatestGroup_29 rfl (lv_at hl 2 rfl) ?_
            refine zg4_5 C hH (zLw_n0 hC) (zLw_k0 hC) q_520 dX4_greatestGroup_30 ?_
            refine zd_icmp_ge C hk (hH.2.2.1 _ _) 101 dX4_greatestGroup_33 (by decide) (fun c6 => ?_) (fun c6 => ?_)
            · have hF := hF.1 c6
              refine lv_iload_n C.1 C.2.1 dX4_greatestGroup_101 rfl (lv_at hl 0 rfl) ?_
              exact zd_iret C hr hlk hH hS hg2 (⟨rfl, rfl, hF⟩) dX4_greatestGroup_102
            · have hF := hF.2 c6
              refine lv_iload_n C.1 C.2.1 dX4_greatestGroup_36 rfl (lv_at hl 1 rfl) ?_
              refine zd_bipush C (by decide) dX4_greatestGroup_37 ?_
              refine zd_icmp_ge C hk (by decide) 101 dX4_greatestGroup_39 (by decide) (fun c7 => ?_) (fun c7 => ?_)
              · have hF := hF.1 c7
                refine lv_iload_n C.1 C.2.1 dX4_greatestGroup_101 rfl (lv_at hl 0 rfl) ?_
                exact zd_iret C hr hlk hH hS hg2 (⟨rfl, rfl, hF⟩) dX4_greatestGroup_102
              · have hF := hF.2 c7
                refine lv_aload_n C.1 C.2.1 dX4_greatestGroup_42 rfl (lv_at hl 2 rfl) ?_
                refine zg4_2 C hH (zLw_n0 hC) (zLw_k0 hC) q_516 (zLw_t hC).2.2 dX4_greatestGroup_43 ?_
                refine lv_iload_n C.1 C.2.1 dX4_greatestGroup_46 rfl (lv_at hl 1 rfl) ?_
                obtain ⟨o8, hF⟩ := hF
                refine zd_aaldr C hH (zLw_nt hC) 9 rfl rfl (by rw [(zLw_t hC).1]; rfl) o8.1 (by rw [zLw_lt hC]; exact o8.2) (by rw [zLw_lt hC]; decide) (zLw_z hC o8.1 o8.2).1 dX4_greatestGroup_47 ?_
                refine lv_iload_n C.1 C.2.1 dX4_greatestGroup_48 rfl (lv_at hl 3 rfl) ?_
                obtain ⟨o9, hF⟩ := hF
                refine zd_iald C hH (zLw_z hC o8.1 o8.2).2.1 (zLw_z hC o8.1 o8.2).2.2.1 o9.1 (by rw [(zLw_z hC o8.1 o8.2).2.2.2]; exact o9.2) (by rw [(zLw_z hC o8.1 o8.2).2.2.2]; decide) dX4_greatestGroup_49 ?_
                refine zd_iconst C dX4_greatestGroup_50 ?_
                refine zd_iadd C dX4_greatestGroup_51 ?_
                refine lv_istore (lv' := [(4, .int (zI ((X5 (i + 51 + (k : Int).toNat) (a)) + 1))), (2, .int (zI (g2))), (3, .int (zI (k))), (0, .ref (bs + (i + 49))), (1, .int (zI (a)))]) C.1 C.2.1 dX4_greatestGroup_52 hl (by decide) rfl (fun ls hl => ?_)
                refine lv_iload C.1 C.2.1 dX4_greatestGroup_54 (lv_at hl 0 rfl) ?_
                obtain ⟨o11, hF⟩ := hF
                refine zd_if_lt C o11 95 dX4_greatestGroup_56 (by decide) (fun c10 => ?_) (fun c10 => ?_)
                · have hF := hF.1 c10
                  refine zd_iinc (k := 2) (lv' := [(3, .int (zI (k + 1))), (4, .int (zI ((X5 (i + 51 + (k : Int).toNat) (a)) + 1))), (2, .int (zI (g2))), (0, .ref (bs + (i + 49))), (1, .int (zI (a)))]) C hl rfl dX4_greatestGroup_95 (by decide) rfl (fun ls hl => ?_)
                  refine lv_goto (tgt := 28) C.1 C.2.1 dX4_greatestGroup_98 (by decide) ?_
                  obtain ⟨o12, hF⟩ := hF
                  exact ih4 (g2) (k + 1) X5 hg2 o12 hF.1 (Nat.lt_of_lt_of_le hF.2 (Nat.le_of_lt_succ hmu4)) _ _ _ hH hS (lv_sub hl [2, 0, 3, 4] rfl)
                · have hF := hF.2 c10
                  refine lv_iload C.1 C.2.1 dX4_greatestGroup_59 (lv_at hl 0 rfl) ?_
                  refine lv_aload_n C.1 C.2.1 dX4_greatestGroup_61 rfl (lv_at hl 3 rfl) ?_
                  refine zg4_3 C hH (zLw_n0 hC) (zLw_k0 hC) q_517 (zLw_g hC).2.2 dX4_greatestGroup_62 ?_
                  refine zd_alen C hH (zLw_ng hC) (t0 := 1) (by rw [(zLw_g hC).1]; rfl) rfl rfl dX4_greatestGroup_65 ?_
                  rw [zLw_lg hC]
                  refine zd_icmp_lt C o11 (by decide) 72 dX4_greatestGroup_66 (by decide) (fun c13 => ?_) (fun c13 => ?_)
                  · have hF := hF.1 c13
                    refine lv_aload_n C.1 C.2.1 dX4_greatestGroup_72 rfl (lv_at hl 3 rfl) ?_
                    refine zg4_3 C hH (zLw_n0 hC) (zLw_k0 hC) q_517 (zLw_g hC).2.2 dX4_greatestGroup_73 ?_
                    refine lv_iload C.1 C.2.1 dX4_greatestGroup_76 (lv_at hl 0 rfl) ?_
                    refine lv_dup2_11 C.1 C.2.1 dX4_greatestGroup_78 rfl rfl ?_
                    obtain ⟨o14, hF⟩ := hF
                    refine zd_iald C hH (zLw_ng hC) (zLw_g hC).1 o14.1 (by rw [zLw_lg hC]; exact o14.2) (by rw [zLw_lg hC]; decide) dX4_greatestGroup_79 ?_
                    refine zd_iconst C dX4_greatestGroup_80 ?_
                    refine zd_iadd C dX4_greatestGroup_81 ?_
                    obtain ⟨o15, hF⟩ := hF
                    obtain ⟨o16, hF⟩ := hF
                    refine zd_iast C hH hS (zLw_ng hC) (zLw_g hC).1 o15.1 (by rw [zLw_lg hC]; exact o15.2) (by rw [zLw_lg hC]; decide) o16 dX4_greatestGroup_82 (fun H locs hH hS => ?_)
                    obtain ⟨X17, eX17⟩ : ∃ z, z = zU X5 (i + 87) ((X5 (i + 51 + (k : Int).toNat) (a)) + 1) ((X5 (i + 87) ((X5 (i + 51 + (k : Int).toNat) (a)) + 1)) + 1) := ⟨_, rfl⟩
                    rw [← eX17] at hH
                    have hF := hF X17 eX17 hH.2.2.1
                    refine lv_iload_n C.1 C.2.1 dX4_greatestGroup_83 rfl (lv_at hl 1 rfl) ?_
                    refine lv_aload_n C.1 C.2.1 dX4_greatestGroup_84 rfl (lv_at hl 3 rfl) ?_
                    refine zg4_3 C hH (zLw_n0 hC) (zLw_k0 hC) q_517 (zLw_g hC).2.2 dX4_greatestGroup_85 ?_
                    refine lv_iload C.1 C.2.1 dX4_greatestGroup_88 (lv_at hl 0 rfl) ?_
                    obtain ⟨o18, hF⟩ := hF
                    refine zd_iald C hH (zLw_ng hC) (zLw_g hC).1 o18.1 (by rw [zLw_lg hC]; exact o18.2) (by rw [zLw_lg hC]; decide) dX4_greatestGroup_90 ?_
                    refine zd_mmax C hl.1 q_1275 q_805 q_141 q_806 (Nat.le_of_ble_eq_true rfl) (Nat.le_of_ble_eq_true rfl) (Nat.zero_le _) (Nat.zero_le _) hg2 (hH.2.2.1 _ _) dX4_greatestGroup_91 ?_
                    refine lv_istore_n (lv' := [(2, .int (zI (max (g2) (X17 (i + 87) ((X5 (i + 51 + (k : Int).toNat) (a)) + 1))))), (4, .int (zI ((X5 (i + 51 + (k : Int).toNat) (a)) + 1))), (3, .int (zI (k))), (0, .ref (bs + (i + 49))), (1, .int (zI (a)))]) C.1 C.2.1 dX4_greatestGroup_94 rfl hl (by decide) rfl (fun ls hl => ?_)
                    refine zd_iinc (k := 2) (lv' := [(3, .int (zI (k + 1))), (2, .int (zI (max (g2) (X17 (i + 87) ((X5 (i + 51 + (k : Int).toNat) (a)) + 1))))), (4, .int (zI ((X5 (i + 51 + (k : Int).toNat) (a)) + 1))), (0, .ref (bs + (i + 49))), (1, .int (zI (a)))]) C hl rfl dX4_greatestGroup_95 (by decide) rfl (fun ls hl => ?_)
                    refine lv_goto (tgt := 28) C.1 C.2.1 dX4_greatestGroup_98 (by decide) ?_
                    obtain ⟨o19, hF⟩ := hF
                    exact ih4 (max (g2) (X17 (i + 87) ((X5 (i + 51 + (k : Int).toNat) (a)) + 1))) (k + 1) X17 (mx_rI hg2 (hH.2.2.1 _ _)) o19 hF.1 (Nat.lt_of_lt_of_le hF.2 (Nat.le_of_lt_succ hmu4)) _ _ _ hH hS (lv_sub hl [1, 0, 3, 4] rfl)
                  · have hF := hF.2 c13
                    refine lv_goto (tgt := 95) C.1 C.2.1 dX4_greatestGroup_69 (by decide) ?_
                    refine zd_iinc (k := 2) (lv' := [(3, .int (zI (k + 1))), (4, .int (zI ((X5 (i + 51 + (k : Int).toNat) (a)) + 1))), (2, .int (zI (g2))), (0, .ref (bs + (i + 49))), (1, .int (zI (a)))]) C hl rfl dX4_greatestGroup_95 (by decide) rfl (fun ls hl => ?_)
                    refine lv_goto (tgt := 28) C.1 C.2.1 dX4_greatestGroup_98 (by decide) ?_
                    obtain ⟨o20, hF⟩ := hF
                    exact ih4 (g2) (k + 1) X5 hg2 o20 hF.1 (Nat.lt_of_lt_of_le hF.2 (Nat.le_of_lt_succ hmu4)) _ _ _ hH hS (lv_sub hl [2, 0, 3, 4] rfl)
        exact L4 (((X (i + 49) 5 - (0 : Int)).toNat) + 1) ((0 : Int)) ((0 : Int)) X2 (by decide) (by decide) hI4 (Nat.lt_succ_self _) _ _ _ hH hS (lv_sub hl [1, 0, 2, 3] rfl)
      · have hF := hF.2 c3
        refine lv_aload_n C.1 C.2.1 dX4_greatestGroup_13 rfl (lv_at hl 2 rfl) ?_
        refine zg4_3 C hH (zLw_n0 hC) (zLw_k0 hC) q_517 (zLw_g hC).2.2 dX4_greatestGroup_14 ?_
        refine lv_iload_n C.1 C.2.1 dX4_greatestGroup_17 rfl (lv_at hl 0 rfl) ?_
        refine zd_iconst C dX4_greatestGroup_18 ?_
        obtain ⟨o21, hF⟩ := hF
        refine zd_iast C hH hS (zLw_ng hC) (zLw_g hC).1 o21.1 (by rw [zLw_lg hC]; exact o21.2) (by rw [zLw_lg hC]; decide) (by decide) dX4_greatestGroup_19 (fun H locs hH hS => ?_)
        obtain ⟨X22, eX22⟩ : ∃ z, z = zU X2 (i + 87) (k) (0) := ⟨_, rfl⟩
        rw [← eX22] at hH
        have hF := hF X22 eX22 hH.2.2.1
        refine zd_iinc (k := 0) (lv' := [(3, .int (zI (k + 1))), (2, .int (zI (0))), (0, .ref (bs + (i + 49))), (1, .int (zI (a)))]) C hl rfl dX4_greatestGroup_20 (by decide) rfl (fun ls hl => ?_)
        refine lv_goto (tgt := 4) C.1 C.2.1 dX4_greatestGroup_23 (by decide) ?_
        obtain ⟨o23, hF⟩ := hF
        exact ih1 (k + 1) X22 o23 hF.1 (Nat.lt_of_lt_of_le hF.2 (Nat.le_of_lt_succ hmu1)) _ _ _ hH hS (lv_sub hl [0, 1, 2, 3] rfl)
  exact L1 (((16 - (0 : Int)).toNat) + 1) ((0 : Int)) X (by decide) hI1 (Nat.lt_succ_self _) _ _ _ hH hS (lv_sub hl [0, 1, 2, 3] rfl)
theorem v_X4_greatestGroup {X Y : Nat → Int → Int} {R : Nat → Int → Option Nat} {i : Nat} (a : Int) (ha : rI a) (hp : lwV X i ∧ 0 ≤ a ∧ a ≤ 40) : F_X4_greatestGroup i X Y R a := by
  unfold F_X4_greatestGroup
  intro hX hY
  obtain ⟨hv, ha⟩ := hp
  have h5 := hv.1
  refine ⟨?_, ?_⟩
  · exact ⟨0, rfl, by decide, fun _ _ => rfl, fun y hy => absurd hy (Nat.not_lt_zero _)⟩
  intro k X2
  intro _
  intro rX2
  intro h1
  obtain ⟨m, rfl, hm, fx, hz⟩ := h1
  refine ⟨?_, ?_⟩
  · intro c1
    refine ⟨?_, ?_⟩
    · exact ⟨0, rfl, Nat.zero_le _, fx, fun y hy => hz y (by omega), Int.le_antisymm (mxN_0 _ _) (mxN_ub (Int.le_refl _) (fun _ _ => Int.le_refl _))⟩
    intro g2 k X5
    intro _
    intro _
    intro rX5
    intro h2
    obtain ⟨m, rfl, hm, fx2, hc, hg⟩ := h2
    have e5 : X5 (i + 49) 5 = X (i + 49) 5 := by rw [fx2 _ (by omega)]
    refine ⟨?_, ?_⟩
    · intro c2
      rw [e5] at c2
      refine ⟨?_, fx2⟩
      unfold ggN
      rw [show (X (i + 49) 5).toNat = m by omega]
      exact hg
    intro c3
    rw [e5] at c3
    refine ⟨?_, ?_⟩
    · intro c4
      exfalso
      omega
    intro c5
    have ev : X5 (i + 51 + ((m : Nat) : Int).toNat) a = X (i + 51 + m) a := by
      rw [fx2 _ (by omega)]
      rfl
    have hb := hv.2 m a.toNat (by omega) (by omega)
    rw [show ((a.toNat : Nat) : Int) = a by omega] at hb
    obtain ⟨w, hw⟩ : ∃ w : Nat, X (i + 51 + m) a + 1 = w := ⟨(X (i + 51 + m) a + 1).toNat, by omega⟩
    rw [ev, hw]
    refine ⟨?_, ?_⟩
    · first | omega | exact ⟨by omega, by omega⟩ | decide | assumption | exact ⟨by omega, by omega, by omega⟩ | exact ⟨by decide, by decide⟩
    refine ⟨?_, ?_⟩
    · first | omega | exact ⟨by omega, by omega⟩ | decide | assumption | exact ⟨by omega, by omega, by omega⟩ | exact ⟨by decide, by decide⟩
    refine ⟨?_, ?_⟩
    · first | omega | exact ⟨by omega, by omega⟩ | decide | assumption | exact ⟨by omega, by omega, by omega⟩ | exact ⟨by decide, by decide⟩
    refine ⟨?_, ?_⟩
    · intro c6
      exfalso
      omega
    intro c7
    refine ⟨?_, ?_⟩
    · intro c8
      have hcw := hc w (by omega)
      have gb := gcN_b (fun k => X (i + 51 + k) a + 1) m w
      refine ⟨?_, ?_⟩
      · first | omega | exact ⟨by omega, by omega⟩ | decide | assumption | exact ⟨by omega, by omega, by omega⟩ | exact ⟨by decide, by decide⟩
      refine ⟨?_, ?_⟩
      · first | omega | exact ⟨by omega, by omega⟩ | decide | assumption | exact ⟨by omega, by omega, by omega⟩ | exact ⟨by decide, by decide⟩
      refine ⟨?_, ?_⟩
      · rw [hcw]
        exact ⟨by omega, by omega⟩
      intro X17
      intro eX17
      have hA : gcN (fun k => X (i + 51 + k) a + 1) (m + 1) w = gcN (fun k => X (i + 51 + k) a + 1) m w + 1 := by
        show cN _ m + (if decide (X (i + 51 + m) a + 1 = (w : Int)) then 1 else 0) = _
        rw [decide_eq_true hw]
        rfl
      have hB : ∀ v, v ≠ w → gcN (fun k => X (i + 51 + k) a + 1) (m + 1) v = gcN (fun k => X (i + 51 + k) a + 1) m v := fun v hv => by
        show cN _ m + (if decide (X (i + 51 + m) a + 1 = (v : Int)) then 1 else 0) = _
        rw [decide_eq_false (by omega)]
        exact Int.add_zero _
      intro rX17
      refine ⟨?_, ?_⟩
      · first | omega | exact ⟨by omega, by omega⟩ | decide | assumption | exact ⟨by omega, by omega, by omega⟩ | exact ⟨by decide, by decide⟩
      refine ⟨?_, ?_⟩
      · first | omega | exact ⟨by omega, by omega⟩ | decide | assumption | exact ⟨by omega, by omega, by omega⟩ | exact ⟨by decide, by decide⟩
      refine ⟨?_, ?_⟩
      · refine ⟨m + 1, by omega, by omega, fun z hz => by rw [eX17, zU_o hz]; exact fx2 z hz, fun y hy => ?_, ?_⟩
        · by_cases e : y = w
          · rw [e, eX17, zU_s, hcw, hA]
          · rw [eX17, zU_n (by omega), hc y hy, hB y e]
        · rw [eX17, zU_s, hcw, hg]
          exact (mxN_up hA hB 16 (by omega)).symm
      first | omega | exact ⟨by omega, by omega⟩ | decide | assumption | exact ⟨by omega, by omega, by omega⟩ | exact ⟨by decide, by decide⟩
    intro c9
    exfalso
    omega
  intro c10
  refine ⟨?_, ?_⟩
  · first | omega | exact ⟨by omega, by omega⟩ | decide | assumption | exact ⟨by omega, by omega, by omega⟩ | exact ⟨by decide, by decide⟩
  intro X22
  intro eX22
  intro rX22
  refine ⟨?_, ?_⟩
  · first | omega | exact ⟨by omega, by omega⟩ | decide | assumption | exact ⟨by omega, by omega, by omega⟩ | exact ⟨by decide, by decide⟩
  refine ⟨?_, ?_⟩
  · refine ⟨m + 1, by omega, by omega, fun z hz' => by rw [eX22, zU_o hz']; exact fx z hz', fun y hy => ?_⟩
    by_cases e : y = m
    · rw [e, eX22, zU_s]
    · rw [eX22, zU_n (by omega)]
      exact hz y (by omega)
  first | omega | exact ⟨by omega, by omega⟩ | decide | assumption | exact ⟨by omega, by omega, by omega⟩ | exact ⟨by decide, by decide⟩
theorem c_X4_greatestGroup {l : Launch} {D : va_G} {cy : Nat → ClassId} {bs N : Nat} {sa : Nat → Nat} {kd len : Nat → Nat} {X Y : Nat → Int → Int} {R : Nat → Int → Option Nat} {i : Nat} (hC : zLaws N kd len R i) (a : Int) (ha : rI a) (hp : lwV X i ∧ 0 ≤ a ∧ a ≤ 40) : Met l yX4_greatestGroup (.code yX4_greatestGroup cX4_greatestGroup 5 (some .int) :: zTB) (zRm 1 60) (zPc D cy bs sa N kd len X Y R [.ref (bs + (i + 49)), .int (zI (a))]) (zQi D cy bs N kd len (fun r st => st.2.1 = Y ∧ st.2.2 = R ∧ (r = ggN X i (a) ∧ ∀ z, z ≠ i + 87 → (st.1) z = X z))) 0 0 (zA bs) := w_X4_greatestGroup hC a ha (v_X4_greatestGroup a ha hp)
theorem ggN_b {X : Nat → Int → Int} {i : Nat} (h : lwV X i) (y : Int) : 0 ≤ ggN X i y ∧ ggN X i y ≤ 36 := by
  refine ⟨mxN_0 _ _, mxN_ub (by decide) (fun v _ => ?_)⟩
  have := (gcN_b (fun k => X (i + 51 + k) y + 1) (X (i + 49) 5).toNat v).2
  have := h.1
  omega
theorem akW_s (G : Nat → Int) (m : Nat) : akW G (m + 1) = (if G m < (akW G m).2 then (m : Int) else (akW G m).1, min (akW G m).2 (G m)) := rfl
abbrev cX4_ask : ByteArray := prog_6_method_6_code
def yX4_ask : MethodName := ⟨RX4, "ask", "()I"⟩
theorem dX4_ask_0 : decode cX4_ask 0 = .ok (.aload_n 0, 1) := by decide +kernel
theorem dX4_ask_1 : decode cX4_ask 1 = .ok (.getfield 31, 3) := by decide +kernel
theorem dX4_ask_4 : decode cX4_ask 4 = .ok (.ifCond .ne 5, 3) := by decide +kernel
theorem dX4_ask_7 : decode cX4_ask 7 = .ok (.iconst (-1), 1) := by decide +kernel
theorem dX4_ask_8 : decode cX4_ask 8 = .ok (.ireturn, 1) := by decide +kernel
theorem dX4_ask_9 : decode cX4_ask 9 = .ok (.iconst 0, 1) := by decide +kernel
theorem dX4_ask_10 : decode cX4_ask 10 = .ok (.istore_n 1, 1) := by decide +kernel
theorem dX4_ask_11 : decode cX4_ask 11 = .ok (.iconst 1, 1) := by decide +kernel
theorem dX4_ask_12 : decode cX4_ask 12 = .ok (.istore_n 2, 1) := by decide +kernel
theorem dX4_ask_13 : decode cX4_ask 13 = .ok (.iload_n 2, 1) := by decide +kernel
theorem dX4_ask_14 : decode cX4_ask 14 = .ok (.bipush 40, 2) := by decide +kernel
theorem dX4_ask_16 : decode cX4_ask 16 = .ok (.if_icmp .gt 24, 3) := by decide +kernel
theorem dX4_ask_19 : decode cX4_ask 19 = .ok (.aload_n 0, 1) := by decide +kernel
theorem dX4_ask_20 : decode cX4_ask 20 = .ok (.iload_n 2, 1) := by decide +kernel
theorem dX4_ask_21 : decode cX4_ask 21 = .ok (.invokevirtual 76, 3) := by decide +kernel
theorem dX4_ask_24 : decode cX4_ask 24 = .ok (.aload_n 0, 1) := by decide +kernel
theorem dX4_ask_25 : decode cX4_ask 25 = .ok (.iload_n 1, 1) := by decide +kernel
theorem dX4_ask_26 : decode cX4_ask 26 = .ok (.invokevirtual 76, 3) := by decide +kernel
theorem dX4_ask_29 : decode cX4_ask 29 = .ok (.if_icmp .ge 5, 3) := by decide +kernel
theorem dX4_ask_32 : decode cX4_ask 32 = .ok (.iload_n 2, 1) := by decide +kernel
theorem dX4_ask_33 : decode cX4_ask 33 = .ok (.istore_n 1, 1) := by decide +kernel
theorem dX4_ask_34 : decode cX4_ask 34 = .ok (.iinc 2 1, 3) := by decide +kernel
theorem dX4_ask_37 : decode cX4_ask 37 = .ok (.goto (-24), 3) := by decide +kernel
theorem dX4_ask_40 : decode cX4_ask 40 = .ok (.iload_n 1, 1) := by decide +kernel
theorem dX4_ask_41 : decode cX4_ask 41 = .ok (.ireturn, 1) := by decide +kernel
theorem q_1271 : Cond.methodLink RX4 76 yX4_greatestGroup ∈ zTB := zmem 1271 (by decide +kernel) rfl
theorem q_1273 : Cond.instanceMethod yX4_greatestGroup ∈ zTB := zmem 1273 (by decide +kernel) rfl
theorem q_32 : Cond.selects RX4 yX4_greatestGroup yX4_greatestGroup ∈ zTB := zmem 32 (by decide +kernel) rfl
theorem q_138 : Cond.initialized RX4 ∈ zTB := zmem 138 (by decide +kernel) rfl
theorem q_1274 : Cond.code yX4_greatestGroup cX4_greatestGroup 5 (some .int) ∈ zTB := zmem 1274 (by decide +kernel) rfl
theorem k_RX4_76 : zLv RX4 76 RX4 yX4_greatestGroup cX4_greatestGroup 5 (some .int) 1 := ⟨⟨q_1271, q_1273, q_32, q_138, q_1274⟩, rfl, ⟨by decide, by decide⟩, by decide +kernel⟩
def F_X4_ask (i : Nat) (X Y : Nat → Int → Int) (R : Nat → Int → Option Nat)  : Prop := (∀ i j, rI (X i j)) → (∀ i j, rL (Y i j)) → ((¬ (X (i + 49) 5) = 0) → ((∃ m : Nat, (1 : Int) = m ∧ (1 ≤ m ∧ m ≤ 41) ∧ (∀ z, z ≠ i + 87 → X z = X z) ∧ ∃ w : Nat, (0 : Int) = w ∧ w < m ∧ akW (fun y => ggN X i y) m = ((w : Int), ggN X i w)) ∧ (∀ (b1 : Int) (k : Int) (X3 : Nat → Int → Int), rI b1 → rI k → (∀ i j, rI (X3 i j)) → (∃ m : Nat, k = m ∧ (1 ≤ m ∧ m ≤ 41) ∧ (∀ z, z ≠ i + 87 → X3 z = X z) ∧ ∃ w : Nat, b1 = w ∧ w < m ∧ akW (fun y => ggN X i y) m = ((w : Int), ggN X i w)) → (((40 < k) → (b1 = (if X (i + 49) 5 = 0 then -1 else (akW (fun y => ggN X i y) 41).1) ∧ ∀ z, z ≠ i + 87 → (X3) z = X z)) ∧ ((¬ (40 < k)) → ((lwV X3 i ∧ 0 ≤ (k) ∧ (k) ≤ 40) ∧ (∀ r7 : Int, rI r7 → ∀ X6 : Nat → Int → Int, (∀ i j, rI (X6 i j)) → (r7 = ggN X3 i (k) ∧ ∀ z, z ≠ i + 87 → (X6) z = X3 z) → ((lwV X6 i ∧ 0 ≤ (b1) ∧ (b1) ≤ 40) ∧ (∀ r10 : Int, rI r10 → ∀ X9 : Nat → Int → Int, (∀ i j, rI (X9 i j)) → (r10 = ggN X6 i (b1) ∧ ∀ z, z ≠ i + 87 → (X9) z = X6 z) → (((r10 ≤ r7) → ((rI (k + 1)) ∧ (∃ m : Nat, (k + 1) = m ∧ (1 ≤ m ∧ m ≤ 41) ∧ (∀ z, z ≠ i + 87 → X9 z = X z) ∧ ∃ w : Nat, b1 = w ∧ w < m ∧ akW (fun y => ggN X i y) m = ((w : Int), ggN X i w)) ∧ (((41 - (k + 1)).toNat) < ((41 - k).toNat)))) ∧ ((¬ (r10 ≤ r7)) → ((rI (k + 1)) ∧ (∃ m : Nat, (k + 1) = m ∧ (1 ≤ m ∧ m ≤ 41) ∧ (∀ z, z ≠ i + 87 → X9 z = X z) ∧ ∃ w : Nat, k = w ∧ w < m ∧ akW (fun y => ggN X i y) m = ((w : Int), ggN X i w)) ∧ (((41 - (k + 1)).toNat) < ((41 - k).toNat)))))))))))))) ∧ ((¬ (¬ (X (i + 49) 5) = 0)) → ((-1) = (if X (i + 49) 5 = 0 then -1 else (akW (fun y => ggN X i y) 41).1) ∧ ∀ z, z ≠ i + 87 → (X) z = X z))
set_option maxHeartbeats 4000000 in
set_option maxRecDepth 100000 in
theorem w_X4_ask {l : Launch} {D : va_G} {cy : Nat → ClassId} {bs N : Nat} {sa : Nat → Nat} {kd len : Nat → Nat} {X Y : Nat → Int → Int} {R : Nat → Int → Option Nat} {i : Nat} (hC : zLaws N kd len R i)  (hF : F_X4_ask i X Y R ) : Met l yX4_ask (.code yX4_ask cX4_ask 3 (some .int) :: zTB) (zRm 2 84) (zPc D cy bs sa N kd len X Y R [.ref (bs + (i + 49))]) (zQi D cy bs N kd len (fun r st => st.2.1 = Y ∧ st.2.2 = R ∧ (r = (if X (i + 49) 5 = 0 then -1 else (akW (fun y => ggN X i y) 41).1) ∧ ∀ z, z ≠ i + 87 → (st.1) z = X z))) 0 0 (zA bs) := by
  refine zstart (by decide) (Nat.le_of_ble_eq_true rfl) ?_
  intro p e s m args below meth c ls C hE hH hr hlk hnm hl hargs
  have hF := hF hH.2.2.1 hH.2.2.2
  have hS : va_S (zA bs) s.heap s.heap [] := va_S.rf
  have hl : lv_has ls 3 [(0, .ref (bs + (i + 49)))] := hl
  refine lv_aload_n C.1 C.2.1 dX4_ask_0 rfl (lv_at hl 0 rfl) ?_
  refine zg4_5 C hH (zLw_n0 hC) (zLw_k0 hC) q_520 dX4_ask_1 ?_
  refine zd_if_ne C (hH.2.2.1 _ _) 9 dX4_ask_4 (by decide) (fun c1 => ?_) (fun c1 => ?_)
  · have hF := hF.1 c1
    refine zd_iconst C dX4_ask_9 ?_
    refine lv_istore_n (lv' := [(1, .int (zI (0))), (0, .ref (bs + (i + 49)))]) C.1 C.2.1 dX4_ask_10 rfl hl (by decide) rfl (fun ls hl => ?_)
    refine zd_iconst C dX4_ask_11 ?_
    refine lv_istore_n (lv' := [(2, .int (zI (1))), (1, .int (zI (0))), (0, .ref (bs + (i + 49)))]) C.1 C.2.1 dX4_ask_12 rfl hl (by decide) rfl (fun ls hl => ?_)
    obtain ⟨hI2, hF⟩ := hF
    have L2 : ∀ (fu : Nat) (b1 : Int) (k : Int) (X3 : Nat → Int → Int), rI b1 → rI k → (∃ m : Nat, k = m ∧ (1 ≤ m ∧ m ≤ 41) ∧ (∀ z, z ≠ i + 87 → X3 z = X z) ∧ ∃ w : Nat, b1 = w ∧ w < m ∧ akW (fun y => ggN X i y) m = ((w : Int), ggN X i w)) → ((41 - k).toNat) < fu → ∀ (H : Heap) (locs : List Loc) (ls : Array Slot), zH D cy bs N kd len X3 Y R H → va_S (zA bs) s.heap H locs → lv_has ls 3 [(1, .int (zI (b1))), (2, .int (zI (k))), (0, .ref (bs + (i + 49)))] → W p l e (zRm 2 84) s m args below meth c H locs 0 0 (MQ below (zQi D cy bs N kd len (fun r st => st.2.1 = Y ∧ st.2.2 = R ∧ (r = (if X (i + 49) 5 = 0 then -1 else (akW (fun y => ggN X i y) 41).1) ∧ ∀ z, z ≠ i + 87 → (st.1) z = X z))) args s 0 0 (zA bs)) (F0 m 13 ls []) := by
      intro fu
      induction fu with
      | zero => intro b1 k X3 _ _ _ hmu; exact absurd hmu (Nat.not_lt_zero _)
      | succ fu ih2 =>
        intro b1 k X3 hb1 hk hI hmu2 H locs ls hH hS hl
        have hF := hF b1 k X3 hb1 hk hH.2.2.1 hI
        refine lv_iload_n C.1 C.2.1 dX4_ask_13 rfl (lv_at hl 1 rfl) ?_
        refine zd_bipush C (by decide) dX4_ask_14 ?_
        refine zd_icmp_gt C hk (by decide) 40 dX4_ask_16 (by decide) (fun c4 => ?_) (fun c4 => ?_)
        · have hF := hF.1 c4
          refine lv_iload_n C.1 C.2.1 dX4_ask_40 rfl (lv_at hl 0 rfl) ?_
          exact zd_iret C hr hlk hH hS hb1 (⟨rfl, rfl, hF⟩) dX4_ask_41
        · have hF := hF.2 c4
          refine lv_aload_n C.1 C.2.1 dX4_ask_19 rfl (lv_at hl 2 rfl) ?_
          refine lv_iload_n C.1 C.2.1 dX4_ask_20 rfl (lv_at hl 1 rfl) ?_
          obtain ⟨o5, hF⟩ := hF
          refine zgoi (zrunV (As := [.int (zI (k))]) (rest := []) C hE hH hS hl.1 (c_X4_greatestGroup (l := l) hC (k) hk o5) k_RX4_76 ⟨Nat.le_of_ble_eq_true rfl, Nat.le_of_ble_eq_true rfl⟩ (zLw_n0 hC) (zLw_k0 hC) rfl rfl rfl (Nat.le_of_ble_eq_true rfl) dX4_ask_21 ⟨Nat.zero_le _, Nat.zero_le _⟩) hS (fun r7 X6 Yq Rq H locs hrq hq hH hS => ?_)
          obtain ⟨h9Y, h9R, hq⟩ := hq
          dsimp only at h9Y h9R
          rw [h9Y, h9R] at hH
          have hr7 := hrq
          have hF := hF r7 hrq X6 hH.2.2.1 hq
          refine lv_aload_n C.1 C.2.1 dX4_ask_24 rfl (lv_at hl 2 rfl) ?_
          refine lv_iload_n C.1 C.2.1 dX4_ask_25 rfl (lv_at hl 0 rfl) ?_
          obtain ⟨o8, hF⟩ := hF
          refine zgoi (zrunV (As := [.int (zI (b1))]) (rest := [.int (zI (r7))]) C hE hH hS hl.1 (c_X4_greatestGroup (l := l) hC (b1) hb1 o8) k_RX4_76 ⟨Nat.le_of_ble_eq_true rfl, Nat.le_of_ble_eq_true rfl⟩ (zLw_n0 hC) (zLw_k0 hC) rfl rfl rfl (Nat.le_of_ble_eq_true rfl) dX4_ask_26 ⟨Nat.zero_le _, Nat.zero_le _⟩) hS (fun r10 X9 Yq Rq H locs hrq hq hH hS => ?_)
          obtain ⟨h9Y, h9R, hq⟩ := hq
          dsimp only at h9Y h9R
          rw [h9Y, h9R] at hH
          have hr10 := hrq
          have hF := hF r10 hrq X9 hH.2.2.1 hq
          refine zd_icmp_ge C hr7 hr10 34 dX4_ask_29 (by decide) (fun c11 => ?_) (fun c11 => ?_)
          · have hF := hF.1 c11
            refine zd_iinc (k := 1) (lv' := [(2, .int (zI (k + 1))), (1, .int (zI (b1))), (0, .ref (bs + (i + 49)))]) C hl rfl dX4_ask_34 (by decide) rfl (fun ls hl => ?_)
            refine lv_goto (tgt := 13) C.1 C.2.1 dX4_ask_37 (by decide) ?_
            obtain ⟨o12, hF⟩ := hF
            exact ih2 (b1) (k + 1) X9 hb1 o12 hF.1 (Nat.lt_of_lt_of_le hF.2 (Nat.le_of_lt_succ hmu2)) _ _ _ hH hS (lv_sub hl [1, 0, 2] rfl)
          · have hF := hF.2 c11
            refine lv_iload_n C.1 C.2.1 dX4_ask_32 rfl (lv_at hl 1 rfl) ?_
            refine lv_istore_n (lv' := [(1, .int (zI (k))), (2, .int (zI (k))), (0, .ref (bs + (i + 49)))]) C.1 C.2.1 dX4_ask_33 rfl hl (by decide) rfl (fun ls hl => ?_)
            refine zd_iinc (k := 1) (lv' := [(2, .int (zI (k + 1))), (1, .int (zI (k))), (0, .ref (bs + (i + 49)))]) C hl rfl dX4_ask_34 (by decide) rfl (fun ls hl => ?_)
            refine lv_goto (tgt := 13) C.1 C.2.1 dX4_ask_37 (by decide) ?_
            obtain ⟨o13, hF⟩ := hF
            exact ih2 (k) (k + 1) X9 hk o13 hF.1 (Nat.lt_of_lt_of_le hF.2 (Nat.le_of_lt_succ hmu2)) _ _ _ hH hS (lv_sub hl [1, 0, 2] rfl)
    exact L2 (((41 - (1 : Int)).toNat) + 1) ((0 : Int)) ((1 : Int)) X (by decide) (by decide) hI2 (Nat.lt_succ_self _) _ _ _ hH hS (lv_sub hl [1, 0, 2] rfl)
  · have hF := hF.2 c1
    refine zd_iconst C dX4_ask_7 ?_
    exact zd_iret C hr hlk hH hS (by decide) (⟨rfl, rfl, hF⟩) dX4_ask_8
theorem v_X4_ask {X Y : Nat → Int → Int} {R : Nat → Int → Option Nat} {i : Nat}  (hp : lwV X i) : F_X4_ask i X Y R  := by
  unfold F_X4_ask
  intro hX hY
  have hv := hp
  refine ⟨?_, ?_⟩
  · intro c1
    refine ⟨?_, ?_⟩
    · have b0 := ggN_b hv ((0 : Nat) : Int)
      refine ⟨1, rfl, by decide, fun _ _ => rfl, 0, rfl, by decide, ?_⟩
      show (if ggN X i ((0 : Nat) : Int) < 1000000 then ((0 : Nat) : Int) else -1, min 1000000 (ggN X i ((0 : Nat) : Int))) = _
      rw [if_pos (by omega), show min 1000000 (ggN X i ((0 : Nat) : Int)) = ggN X i ((0 : Nat) : Int) by omega]
    intro b1 k X3
    intro _
    intro _
    intro rX3
    intro h1
    obtain ⟨m, rfl, hm, fx, w, rfl, hw, hk⟩ := h1
    refine ⟨?_, ?_⟩
    · intro c2
      obtain rfl : m = 41 := by omega
      exact ⟨by rw [if_neg c1, hk], fx⟩
    intro c3
    refine ⟨?_, ?_⟩
    · exact ⟨(lwV_k fx hv).1, by omega, by omega⟩
    intro r7
    intro _
    intro X6
    intro rX6
    intro h2
    obtain ⟨h2, fr6⟩ := h2
    rw [(lwV_k fx hv).2] at h2
    have fx6 : ∀ z, z ≠ i + 87 → X6 z = X z := fun z hz => (fr6 z hz).trans (fx z hz)
    refine ⟨?_, ?_⟩
    · exact ⟨(lwV_k fx6 hv).1, by omega, by omega⟩
    intro r10
    intro _
    intro X9
    intro rX9
    intro h3
    obtain ⟨h3, fr9⟩ := h3
    rw [(lwV_k fx6 hv).2] at h3
    have fx9 : ∀ z, z ≠ i + 87 → X9 z = X z := fun z hz => (fr9 z hz).trans (fx6 z hz)
    have st := akW_s (fun y => ggN X i y) m
    rw [hk] at st
    refine ⟨?_, ?_⟩
    · intro c4
      refine ⟨?_, ?_⟩
      · first | omega | exact ⟨by omega, by omega⟩ | decide | assumption | exact ⟨by omega, by omega, by omega⟩ | exact ⟨by decide, by decide⟩
      refine ⟨?_, ?_⟩
      · refine ⟨m + 1, by omega, by omega, fx9, w, rfl, by omega, ?_⟩
        rw [st, if_neg (by show ¬ ggN X i (m : Int) < ggN X i (w : Int); omega)]
        show (_, min (ggN X i (w : Int)) (ggN X i (m : Int))) = _
        rw [show min (ggN X i (w : Int)) (ggN X i (m : Int)) = ggN X i (w : Int) by omega]
      first | omega | exact ⟨by omega, by omega⟩ | decide | assumption | exact ⟨by omega, by omega, by omega⟩ | exact ⟨by decide, by decide⟩
    intro c5
    refine ⟨?_, ?_⟩
    · first | omega | exact ⟨by omega, by omega⟩ | decide | assumption | exact ⟨by omega, by omega, by omega⟩ | exact ⟨by decide, by decide⟩
    refine ⟨?_, ?_⟩
    · refine ⟨m + 1, by omega, by omega, fx9, m, rfl, by omega, ?_⟩
      rw [st, if_pos (by show ggN X i (m : Int) < ggN X i (w : Int); omega)]
      show (_, min (ggN X i (w : Int)) (ggN X i (m : Int))) = _
      rw [show min (ggN X i (w : Int)) (ggN X i (m : Int)) = ggN X i (m : Int) by omega]
    first | omega | exact ⟨by omega, by omega⟩ | decide | assumption | exact ⟨by omega, by omega, by omega⟩ | exact ⟨by decide, by decide⟩
  intro c6
  exact ⟨by rw [if_pos (Classical.not_not.mp c6)], fun _ _ => rfl⟩
theorem c_X4_ask {l : Launch} {D : va_G} {cy : Nat → ClassId} {bs N : Nat} {sa : Nat → Nat} {kd len : Nat → Nat} {X Y : Nat → Int → Int} {R : Nat → Int → Option Nat} {i : Nat} (hC : zLaws N kd len R i)  (hp : lwV X i) : Met l yX4_ask (.code yX4_ask cX4_ask 3 (some .int) :: zTB) (zRm 2 84) (zPc D cy bs sa N kd len X Y R [.ref (bs + (i + 49))]) (zQi D cy bs N kd len (fun r st => st.2.1 = Y ∧ st.2.2 = R ∧ (r = (if X (i + 49) 5 = 0 then -1 else (akW (fun y => ggN X i y) 41).1) ∧ ∀ z, z ≠ i + 87 → (st.1) z = X z))) 0 0 (zA bs) := w_X4_ask hC  (v_X4_ask  hp)
