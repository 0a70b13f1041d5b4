/-! CATCHING UP -/
/-- in how many of all one catches up, from so far behind -/
def gvN (u d : Int) : Nat → Nat → Int
  | 0, y => if y = 0 then 1 else 0
  | t + 1, y => if y = 0 then gvN u d t 0 * (u + d) else if y < 19 then u * gvN u d t (y - 1) + d * gvN u d t (y + 1) else 0
theorem gvN_0 (u d : Int) (t : Nat) : gvN u d (t + 1) 0 = gvN u d t 0 * (u + d) := if_pos rfl
theorem gvN_s (u d : Int) (t : Nat) {y : Nat} (h : y ≠ 0) (h1 : y < 19) : gvN u d (t + 1) y = u * gvN u d t (y - 1) + d * gvN u d t (y + 1) := by
  show (if y = 0 then _ else if y < 19 then _ else _) = _
  rw [if_neg h, if_pos h1]
theorem gvN_e (u d : Int) : ∀ (t : Nat) {y : Nat}, 19 ≤ y → gvN u d t y = 0
  | 0, y, h => if_neg (by omega)
  | t + 1, y, h => by
    show (if y = 0 then _ else if y < 19 then _ else _) = _
    rw [if_neg (by omega), if_neg (by omega)]
theorem gvN_b {u d : Int} (hu : 0 ≤ u) (hd : 0 ≤ d) : ∀ t y, 0 ≤ gvN u d t y ∧ gvN u d t y ≤ (u + d) ^ t
  | 0, y => by
    unfold gvN
    rw [Int.pow_zero]
    split <;> decide
  | t + 1, y => by
    have hM : 0 ≤ (u + d) ^ t := Int.pow_nonneg (by omega)
    rw [Int.pow_succ]
    by_cases h : y = 0
    · subst h
      have b := gvN_b hu hd t 0
      rw [gvN_0]
      exact ⟨Int.mul_nonneg b.1 (by omega), Int.mul_le_mul_of_nonneg_right b.2 (by omega)⟩
    · by_cases h1 : y < 19
      · have b := gvN_b hu hd t (y - 1)
        have b1 := gvN_b hu hd t (y + 1)
        rw [gvN_s u d t h h1]
        refine ⟨Int.add_nonneg (Int.mul_nonneg hu b.1) (Int.mul_nonneg hd b1.1), ?_⟩
        rw [Int.mul_comm ((u + d) ^ t), Int.add_mul]
        exact Int.add_le_add (Int.mul_le_mul_of_nonneg_left b.2 hu) (Int.mul_le_mul_of_nonneg_left b1.2 hd)
      · rw [gvN_e u d (t + 1) (by omega)]
        exact ⟨Int.le_refl _, Int.mul_nonneg hM (by omega)⟩
theorem p2k : ∀ t : Nat, t ≤ 12 → (2 : Int) ^ t ≤ 4096 := by decide
theorem p2m : ∀ t : Nat, t ≤ 6 → (2 : Int) ^ t ≤ 64 := by decide
theorem gvN_c {u d : Int} (hu : 0 ≤ u) (hd : 0 ≤ d) (h : u + d = 10 ∨ u + d = 2) {t : Nat} (ht : t ≤ 12) (y : Nat) : 0 ≤ gvN u d t y ∧ gvN u d t y ≤ 1000000000000 := by
  have b := gvN_b hu hd t y
  rcases h with h | h
  · rw [h] at b
    have := (p10 t ht).2
    exact ⟨b.1, by omega⟩
  · rw [h] at b
    have := p2k t ht
    exact ⟨b.1, by omega⟩
def dsN (f g : Nat → Int) : Nat → Int
  | 0 => 0
  | k + 1 => dsN f g k + f k * g k
theorem dsN_t (u d : Int) (z t s : Nat) : ∀ k, k ≤ 17 → dsN (fwN u d z (t + 1)) (gvN u d s) (k + 2) = dsN (fwN u d z t) (gvN u d (s + 1)) (k + 2) + u * (fwN u d z t (k + 2) * gvN u d s (k + 1)) - d * (fwN u d z t (k + 1) * gvN u d s (k + 2))
  | 0, _ => by
    show 0 + fwN u d z (t + 1) 0 * gvN u d s 0 + fwN u d z (t + 1) 1 * gvN u d s 1 = 0 + fwN u d z t 0 * gvN u d (s + 1) 0 + fwN u d z t 1 * gvN u d (s + 1) 1 + u * (fwN u d z t 2 * gvN u d s 1) - d * (fwN u d z t 1 * gvN u d s 2)
    rw [fwN_s u d z t 0, fwN_s u d z t 1, gvN_0, gvN_s u d s (y := 1) (by decide) (by decide)]
    simp only [if_true, if_false, show (0 : Nat) < 19 by decide, show (1 : Nat) < 19 by decide, show ¬ (1 : Nat) = 0 by decide, show ¬ (1 : Nat) < 0 by decide, show ¬ (1 : Nat) < 1 by decide, Nat.sub_self, Nat.zero_add, show 1 + 1 = 2 by rfl]
    generalize fwN u d z t 0 = F0
    generalize fwN u d z t 1 = F1
    generalize fwN u d z t 2 = F2
    generalize gvN u d s 0 = G0
    generalize gvN u d s 1 = G1
    generalize gvN u d s 2 = G2
    grind
  | k + 1, h => by
    have e := dsN_t u d z t s k (by omega)
    show dsN (fwN u d z (t + 1)) (gvN u d s) (k + 2) + fwN u d z (t + 1) (k + 2) * gvN u d s (k + 2) = dsN (fwN u d z t) (gvN u d (s + 1)) (k + 2) + fwN u d z t (k + 2) * gvN u d (s + 1) (k + 2) + u * (fwN u d z t (k + 3) * gvN u d s (k + 2)) - d * (fwN u d z t (k + 2) * gvN u d s (k + 3))
    rw [e, fwN_s u d z t (k + 2), gvN_s u d s (y := k + 2) (by omega) (by omega), if_neg (by omega), if_pos (by omega), if_pos (by omega)]
    show dsN (fwN u d z t) (gvN u d (s + 1)) (k + 2) + u * (fwN u d z t (k + 2) * gvN u d s (k + 1)) - d * (fwN u d z t (k + 1) * gvN u d s (k + 2)) + (0 + fwN u d z t (k + 3) * u + fwN u d z t (k + 1) * d) * gvN u d s (k + 2) = dsN (fwN u d z t) (gvN u d (s + 1)) (k + 2) + fwN u d z t (k + 2) * (u * gvN u d s (k + 1) + d * gvN u d s (k + 3)) + u * (fwN u d z t (k + 3) * gvN u d s (k + 2)) - d * (fwN u d z t (k + 2) * gvN u d s (k + 3))
    generalize dsN (fwN u d z t) (gvN u d (s + 1)) (k + 2) = S
    generalize fwN u d z t (k + 1) = F1
    generalize fwN u d z t (k + 2) = F2
    generalize fwN u d z t (k + 3) = F3
    generalize gvN u d s (k + 1) = G1
    generalize gvN u d s (k + 2) = G2
    generalize gvN u d s (k + 3) = G3
    grind
theorem fwN_far (u d : Int) (z : Nat) : ∀ (t : Nat) {y : Nat}, z + t < y → fwN u d z t y = 0
  | 0, y, h => if_neg (by omega)
  | t + 1, y, h => by
    rw [fwN_s, if_neg (by omega), fwN_far u d z t (y := y + 1) (by omega), fwN_far u d z t (y := y - 1) (by omega), Int.zero_mul, Int.zero_mul]
    split <;> split <;> rfl
theorem dsN_u (u d : Int) {z t : Nat} (h : z + t < 19) (s : Nat) : dsN (fwN u d z (t + 1)) (gvN u d s) 19 = dsN (fwN u d z t) (gvN u d (s + 1)) 19 := by
  rw [show (19 : Nat) = 17 + 2 from rfl, dsN_t u d z t s 17 (by decide), fwN_far u d z t (y := 17 + 2) (by omega), gvN_e u d s (y := 17 + 2) (by decide), Int.zero_mul, Int.mul_zero, Int.mul_zero, Int.mul_zero]
  omega
theorem dsN_all (u d : Int) {z : Nat} : ∀ (t : Nat), z + t ≤ 19 → ∀ s, dsN (fwN u d z t) (gvN u d s) 19 = dsN (fwN u d z 0) (gvN u d (s + t)) 19
  | 0, _, s => rfl
  | t + 1, h, s => by
    rw [dsN_u u d (by omega) s, dsN_all u d t (by omega) (s + 1), show s + 1 + t = s + (t + 1) by omega]
theorem dsN_g (u d : Int) (f : Nat → Int) : ∀ k, dsN f (gvN u d 0) (k + 1) = f 0
  | 0 => by
    show 0 + f 0 * gvN u d 0 0 = f 0
    rw [show gvN u d 0 0 = 1 from rfl]
    omega
  | k + 1 => by
    show dsN f (gvN u d 0) (k + 1) + f (k + 1) * gvN u d 0 (k + 1) = f 0
    rw [dsN_g u d f k, show gvN u d 0 (k + 1) = 0 from rfl]
    omega
theorem dsN_f (u d : Int) (z : Nat) (g : Nat → Int) : ∀ k, dsN (fwN u d z 0) g k = if z < k then g z else 0
  | 0 => by rw [if_neg (by omega)]; rfl
  | k + 1 => by
    show dsN (fwN u d z 0) g k + fwN u d z 0 k * g k = _
    rw [dsN_f u d z g k]
    by_cases e : k = z
    · subst e
      rw [show fwN u d k 0 k = 1 from if_pos rfl, if_neg (by omega), if_pos (by omega)]
      omega
    · rw [show fwN u d z 0 k = 0 from if_neg e]
      by_cases q : z < k
      · rw [if_pos q, if_pos (by omega)]
        omega
      · rw [if_neg q, if_neg (by omega)]
        omega
theorem gvN_fw (u d : Int) {z n : Nat} (h : z + n ≤ 18) : gvN u d n z = fwN u d z n 0 := by
  have e := dsN_all u d (z := z) n (by omega) 0
  rw [dsN_g u d _ 18, dsN_f, if_pos (by omega), Nat.zero_add] at e
  exact e.symm

abbrev cX10_caught : ByteArray := prog_1_method_42_code
def yX10_caught : MethodName := ⟨RX10, "caught", "(IIII)J"⟩
theorem dX10_caught_0 : decode cX10_caught 0 = .ok (.bipush 20, 2) := by decide +kernel
theorem dX10_caught_2 : decode cX10_caught 2 = .ok (.newarray .long, 2) := by decide +kernel
theorem dX10_caught_4 : decode cX10_caught 4 = .ok (.astore 4, 2) := by decide +kernel
theorem dX10_caught_6 : decode cX10_caught 6 = .ok (.aload 4, 2) := by decide +kernel
theorem dX10_caught_8 : decode cX10_caught 8 = .ok (.iconst 0, 1) := by decide +kernel
theorem dX10_caught_9 : decode cX10_caught 9 = .ok (.lconst 1, 1) := by decide +kernel
theorem dX10_caught_10 : decode cX10_caught 10 = .ok (.lastore, 1) := by decide +kernel
theorem dX10_caught_11 : decode cX10_caught 11 = .ok (.iconst 0, 1) := by decide +kernel
theorem dX10_caught_12 : decode cX10_caught 12 = .ok (.istore 5, 2) := by decide +kernel
theorem dX10_caught_14 : decode cX10_caught 14 = .ok (.iload 5, 2) := by decide +kernel
theorem dX10_caught_16 : decode cX10_caught 16 = .ok (.iload_n 1, 1) := by decide +kernel
theorem dX10_caught_17 : decode cX10_caught 17 = .ok (.if_icmp .ge 84, 3) := by decide +kernel
theorem dX10_caught_20 : decode cX10_caught 20 = .ok (.iload 5, 2) := by decide +kernel
theorem dX10_caught_22 : decode cX10_caught 22 = .ok (.bipush 12, 2) := by decide +kernel
theorem dX10_caught_24 : decode cX10_caught 24 = .ok (.if_icmp .ge 77, 3) := by decide +kernel
theorem dX10_caught_27 : decode cX10_caught 27 = .ok (.aload 4, 2) := by decide +kernel
theorem dX10_caught_29 : decode cX10_caught 29 = .ok (.iconst 0, 1) := by decide +kernel
theorem dX10_caught_30 : decode cX10_caught 30 = .ok (.laload, 1) := by decide +kernel
theorem dX10_caught_31 : decode cX10_caught 31 = .ok (.lstore 6, 2) := by decide +kernel
theorem dX10_caught_33 : decode cX10_caught 33 = .ok (.aload 4, 2) := by decide +kernel
theorem dX10_caught_35 : decode cX10_caught 35 = .ok (.iconst 0, 1) := by decide +kernel
theorem dX10_caught_36 : decode cX10_caught 36 = .ok (.dup2, 1) := by decide +kernel
theorem dX10_caught_37 : decode cX10_caught 37 = .ok (.laload, 1) := by decide +kernel
theorem dX10_caught_38 : decode cX10_caught 38 = .ok (.iload_n 2, 1) := by decide +kernel
theorem dX10_caught_39 : decode cX10_caught 39 = .ok (.iload_n 3, 1) := by decide +kernel
theorem dX10_caught_40 : decode cX10_caught 40 = .ok (.iadd, 1) := by decide +kernel
theorem dX10_caught_41 : decode cX10_caught 41 = .ok (.i2l, 1) := by decide +kernel
theorem dX10_caught_42 : decode cX10_caught 42 = .ok (.lmul, 1) := by decide +kernel
theorem dX10_caught_43 : decode cX10_caught 43 = .ok (.lastore, 1) := by decide +kernel
theorem dX10_caught_44 : decode cX10_caught 44 = .ok (.iconst 1, 1) := by decide +kernel
theorem dX10_caught_45 : decode cX10_caught 45 = .ok (.istore 8, 2) := by decide +kernel
theorem dX10_caught_47 : decode cX10_caught 47 = .ok (.iload 8, 2) := by decide +kernel
theorem dX10_caught_49 : decode cX10_caught 49 = .ok (.iconst 1, 1) := by decide +kernel
theorem dX10_caught_50 : decode cX10_caught 50 = .ok (.iadd, 1) := by decide +kernel
theorem dX10_caught_51 : decode cX10_caught 51 = .ok (.aload 4, 2) := by decide +kernel
theorem dX10_caught_53 : decode cX10_caught 53 = .ok (.arraylength, 1) := by decide +kernel
theorem dX10_caught_54 : decode cX10_caught 54 = .ok (.if_icmp .ge 41, 3) := by decide +kernel
theorem dX10_caught_57 : decode cX10_caught 57 = .ok (.aload 4, 2) := by decide +kernel
theorem dX10_caught_59 : decode cX10_caught 59 = .ok (.iload 8, 2) := by decide +kernel
theorem dX10_caught_61 : decode cX10_caught 61 = .ok (.laload, 1) := by decide +kernel
theorem dX10_caught_62 : decode cX10_caught 62 = .ok (.lstore 9, 2) := by decide +kernel
theorem dX10_caught_64 : decode cX10_caught 64 = .ok (.aload 4, 2) := by decide +kernel
theorem dX10_caught_66 : decode cX10_caught 66 = .ok (.iload 8, 2) := by decide +kernel
theorem dX10_caught_68 : decode cX10_caught 68 = .ok (.iload_n 2, 1) := by decide +kernel
theorem dX10_caught_69 : decode cX10_caught 69 = .ok (.i2l, 1) := by decide +kernel
theorem dX10_caught_70 : decode cX10_caught 70 = .ok (.lload 6, 2) := by decide +kernel
theorem dX10_caught_72 : decode cX10_caught 72 = .ok (.lmul, 1) := by decide +kernel
theorem dX10_caught_73 : decode cX10_caught 73 = .ok (.iload_n 3, 1) := by decide +kernel
theorem dX10_caught_74 : decode cX10_caught 74 = .ok (.i2l, 1) := by decide +kernel
theorem dX10_caught_75 : decode cX10_caught 75 = .ok (.aload 4, 2) := by decide +kernel
theorem dX10_caught_77 : decode cX10_caught 77 = .ok (.iload 8, 2) := by decide +kernel
theorem dX10_caught_79 : decode cX10_caught 79 = .ok (.iconst 1, 1) := by decide +kernel
theorem dX10_caught_80 : decode cX10_caught 80 = .ok (.iadd, 1) := by decide +kernel
theorem dX10_caught_81 : decode cX10_caught 81 = .ok (.laload, 1) := by decide +kernel
theorem dX10_caught_82 : decode cX10_caught 82 = .ok (.lmul, 1) := by decide +kernel
theorem dX10_caught_83 : decode cX10_caught 83 = .ok (.ladd, 1) := by decide +kernel
theorem dX10_caught_84 : decode cX10_caught 84 = .ok (.lastore, 1) := by decide +kernel
theorem dX10_caught_85 : decode cX10_caught 85 = .ok (.lload 9, 2) := by decide +kernel
theorem dX10_caught_87 : decode cX10_caught 87 = .ok (.lstore 6, 2) := by decide +kernel
theorem dX10_caught_89 : decode cX10_caught 89 = .ok (.iinc 8 1, 3) := by decide +kernel
theorem dX10_caught_92 : decode cX10_caught 92 = .ok (.goto (-45), 3) := by decide +kernel
theorem dX10_caught_95 : decode cX10_caught 95 = .ok (.iinc 5 1, 3) := by decide +kernel
theorem dX10_caught_98 : decode cX10_caught 98 = .ok (.goto (-84), 3) := by decide +kernel
theorem dX10_caught_101 : decode cX10_caught 101 = .ok (.iload_n 0, 1) := by decide +kernel
theorem dX10_caught_102 : decode cX10_caught 102 = .ok (.ifCond .lt 17, 3) := by decide +kernel
theorem dX10_caught_105 : decode cX10_caught 105 = .ok (.iload_n 0, 1) := by decide +kernel
theorem dX10_caught_106 : decode cX10_caught 106 = .ok (.aload 4, 2) := by decide +kernel
theorem dX10_caught_108 : decode cX10_caught 108 = .ok (.arraylength, 1) := by decide +kernel
theorem dX10_caught_109 : decode cX10_caught 109 = .ok (.if_icmp .ge 10, 3) := by decide +kernel
theorem dX10_caught_112 : decode cX10_caught 112 = .ok (.aload 4, 2) := by decide +kernel
theorem dX10_caught_114 : decode cX10_caught 114 = .ok (.iload_n 0, 1) := by decide +kernel
theorem dX10_caught_115 : decode cX10_caught 115 = .ok (.laload, 1) := by decide +kernel
theorem dX10_caught_116 : decode cX10_caught 116 = .ok (.goto 4, 3) := by decide +kernel
theorem dX10_caught_119 : decode cX10_caught 119 = .ok (.lconst 0, 1) := by decide +kernel
theorem dX10_caught_120 : decode cX10_caught 120 = .ok (.lreturn, 1) := by decide +kernel
theorem q_391 : Cond.arrayClass .long ∈ zTB := zmem 391 (by decide +kernel) rfl
def F_X10_caught (N : Nat) (X Y : Nat → Int → Int) (R : Nat → Int → Option Nat) (a : Int) (b : Int) (g : Int) (d : Int) : Prop := (∀ i j, rI (X i j)) → (∀ i j, rL (Y i j)) → ∀ Y1 : Nat → Int → Int, Y1 = zZ Y N 0 → (∀ i j, rL (Y1 i j)) → (∀ Y2 : Nat → Int → Int, Y2 = zU Y1 (N) (0) (1) → (∀ i j, rL (Y2 i j)) → ((∃ t : Nat, (0 : Int) = t ∧ (0 : Int) ≤ b ∧ (∀ z, z ≠ N → Y2 z = Y z) ∧ ∀ y : Nat, y < 20 → Y2 N y = gvN g d t y) ∧ (∀ (k : Int) (Y4 : Nat → Int → Int), rI k → (∀ i j, rL (Y4 i j)) → (∃ t : Nat, k = t ∧ k ≤ b ∧ (∀ z, z ≠ N → Y4 z = Y z) ∧ ∀ y : Nat, y < 20 → Y4 N y = gvN g d t y) → (((b ≤ k) → (((a < 0) → (0 = fwN (g) (d) (a).toNat (b).toNat 0 ∧ ∀ z, z < N → Y4 z = Y z)) ∧ ((¬ (a < 0)) → (((((20 : Nat) : Int) ≤ a) → (0 = fwN (g) (d) (a).toNat (b).toNat 0 ∧ ∀ z, z < N → Y4 z = Y z)) ∧ ((¬ (((20 : Nat) : Int) ≤ a)) → ((0 ≤ a ∧ a < 20) ∧ ((Y4 (N) (a)) = fwN (g) (d) (a).toNat (b).toNat 0 ∧ ∀ z, z < N → Y4 z = Y z))))))) ∧ ((¬ (b ≤ k)) → (((12 ≤ k) → (((a < 0) → (0 = fwN (g) (d) (a).toNat (b).toNat 0 ∧ ∀ z, z < N → Y4 z = Y z)) ∧ ((¬ (a < 0)) → (((((20 : Nat) : Int) ≤ a) → (0 = fwN (g) (d) (a).toNat (b).toNat 0 ∧ ∀ z, z < N → Y4 z = Y z)) ∧ ((¬ (((20 : Nat) : Int) ≤ a)) → ((0 ≤ a ∧ a < 20) ∧ ((Y4 (N) (a)) = fwN (g) (d) (a).toNat (b).toNat 0 ∧ ∀ z, z < N → Y4 z = Y z))))))) ∧ ((¬ (12 ≤ k)) → ((rI (g + d)) ∧ ((rL ((Y4 (N) (0)) * (g + d))) ∧ (∀ Y15 : Nat → Int → Int, Y15 = zU Y4 (N) (0) ((Y4 (N) (0)) * (g + d)) → (∀ i j, rL (Y15 i j)) → ((∃ t x : Nat, k = t ∧ (1 : Int) = x ∧ (1 ≤ x ∧ x ≤ 19) ∧ (Y4 (N) (0)) = gvN g d t (x - 1) ∧ (∀ z, z ≠ N → Y15 z = Y z) ∧ (∀ y : Nat, y < x → Y15 N y = gvN g d (t + 1) y) ∧ ∀ y : Nat, x ≤ y → y < 20 → Y15 N y = gvN g d t y) ∧ (∀ (j : Int) (w : Int) (Y17 : Nat → Int → Int), rI j → rL w → (∀ i j, rL (Y17 i j)) → (∃ t x : Nat, k = t ∧ j = x ∧ (1 ≤ x ∧ x ≤ 19) ∧ w = gvN g d t (x - 1) ∧ (∀ z, z ≠ N → Y17 z = Y z) ∧ (∀ y : Nat, y < x → Y17 N y = gvN g d (t + 1) y) ∧ ∀ y : Nat, x ≤ y → y < 20 → Y17 N y = gvN g d t y) → ((rI (j + 1)) ∧ (((((20 : Nat) : Int) ≤ (j + 1)) → ((rI (k + 1)) ∧ (∃ t : Nat, (k + 1) = t ∧ (k + 1) ≤ b ∧ (∀ z, z ≠ N → Y17 z = Y z) ∧ ∀ y : Nat, y < 20 → Y17 N y = gvN g d t y) ∧ (((b - (k + 1)).toNat) < ((b - k).toNat)))) ∧ ((¬ (((20 : Nat) : Int) ≤ (j + 1))) → ((0 ≤ j ∧ j < 20) ∧ ((0 ≤ (j + 1) ∧ (j + 1) < 20) ∧ ((0 ≤ j ∧ j < 20) ∧ ((rL (((g) * (w)) + ((d) * (Y17 (N) (j + 1))))) ∧ (∀ Y25 : Nat → Int → Int, Y25 = zU Y17 (N) (j) (((g) * (w)) + ((d) * (Y17 (N) (j + 1)))) → (∀ i j, rL (Y25 i j)) → ((∃ t x : Nat, k = t ∧ (j + 1) = x ∧ (1 ≤ x ∧ x ≤ 19) ∧ (Y17 (N) (j)) = gvN g d t (x - 1) ∧ (∀ z, z ≠ N → Y25 z = Y z) ∧ (∀ y : Nat, y < x → Y25 N y = gvN g d (t + 1) y) ∧ ∀ y : Nat, x ≤ y → y < 20 → Y25 N y = gvN g d t y) ∧ (((20 - (j + 1)).toNat) < ((20 - j).toNat)))))))))))))))))))))))
set_option maxHeartbeats 4000000 in
set_option maxRecDepth 100000 in
theorem w_X10_caught {l : Launch} {D : va_G} {cy : Nat → ClassId} {bs N : Nat} {sa : Nat → Nat} {kd len : Nat → Nat} {X Y : Nat → Int → Int} {R : Nat → Int → Option Nat} (hk14 : kd N = 14) (hl20 : len N = 20) (a : Int) (ha : rI a) (b : Int) (hb : rI b) (g : Int) (hg : rI g) (d : Int) (hd : rI d) (hF : F_X10_caught N X Y R a b g d) : Met l yX10_caught (.code yX10_caught cX10_caught 11 (some .long) :: zTB) (zRmG 0 0 1 20) (zPc D cy bs sa N kd len X Y R [.int (zI (a)), .int (zI (b)), .int (zI (g)), .int (zI (d))]) (zQl D cy bs (N + 1) kd len (fun r st => st.1 = X ∧ st.2.2 = R ∧ (r = fwN (g) (d) (a).toNat (b).toNat 0 ∧ ∀ z, z < N → st.2.1 z = Y z))) 1 20 (zA bs) := by
  refine zstartG (by decide) (Nat.le_of_ble_eq_true rfl) ?_
  intro p e s m args below meth c ls C hE hH hr hlk hnm hl hargs
  have hF := hF hH.2.2.1 hH.2.2.2
  have hS : va_S (zA bs) s.heap s.heap [] := va_S.rf
  have hl : lv_has ls 11 [(0, .int (zI (a))), (1, .int (zI (b))), (2, .int (zI (g))), (3, .int (zI (d)))] := hl
  refine zd_bipush C (by decide) dX10_caught_0 ?_
  refine zd_newJ C hH hS q_391 (n := 20) rfl (by decide) hk14 hl20 (Nat.le_of_ble_eq_true rfl) (Nat.le_of_ble_eq_true rfl) dX10_caught_2 (fun H hH hS => ?_)
  obtain ⟨Y1, eY1⟩ : ∃ z, z = zZ Y N 0 := ⟨_, rfl⟩
  rw [← eY1] at hH
  have hF := hF Y1 eY1 hH.2.2.2
  refine lv_astore (lv' := [(4, .ref (bs + (N))), (0, .int (zI (a))), (1, .int (zI (b))), (2, .int (zI (g))), (3, .int (zI (d)))]) C.1 C.2.1 dX10_caught_4 hl (by decide) rfl (fun ls hl => ?_)
  refine lv_aload C.1 C.2.1 dX10_caught_6 (lv_at hl 0 rfl) ?_
  refine zd_iconst C dX10_caught_8 ?_
  refine lv_lconst (v := zL 1) C.1 C.2.1 dX10_caught_9 rfl ?_
  refine zd_last C hH hS (by omega) hk14 (by decide) (by rw [hl20]; decide) (by rw [hl20]; decide) (by decide) dX10_caught_10 (fun H locs hH hS => ?_)
  obtain ⟨Y2, eY2⟩ : ∃ z, z = zU Y1 (N) (0) (1) := ⟨_, rfl⟩
  rw [← eY2] at hH
  have hF := hF Y2 eY2 hH.2.2.2
  refine zd_iconst C dX10_caught_11 ?_
  refine lv_istore (lv' := [(5, .int (zI (0))), (4, .ref (bs + (N))), (0, .int (zI (a))), (1, .int (zI (b))), (2, .int (zI (g))), (3, .int (zI (d)))]) C.1 C.2.1 dX10_caught_12 hl (by decide) rfl (fun ls hl => ?_)
  obtain ⟨hI3, hF⟩ := hF
  have L3 : ∀ (fu : Nat) (k : Int) (Y4 : Nat → Int → Int), rI k → (∃ t : Nat, k = t ∧ k ≤ b ∧ (∀ z, z ≠ N → Y4 z = Y z) ∧ ∀ y : Nat, y < 20 → Y4 N y = gvN g d t y) → ((b - k).toNat) < fu → ∀ (H : Heap) (locs : List Loc) (ls : Array Slot), zH D cy bs (N + 1) kd len X Y4 R H → va_S (zA bs) s.heap H locs → lv_has ls 11 [(5, .int (zI (k))), (4, .ref (bs + (N))), (0, .int (zI (a))), (1, .int (zI (b))), (2, .int (zI (g))), (3, .int (zI (d)))] → W p l e (zRmG 0 0 1 20) s m args below meth c H locs 1 20 (MQ below (zQl D cy bs (N + 1) kd len (fun r st => st.1 = X ∧ st.2.2 = R ∧ (r = fwN (g) (d) (a).toNat (b).toNat 0 ∧ ∀ z, z < N → st.2.1 z = Y z))) args s 1 20 (zA bs)) (F0 m 14 ls []) := by
    intro fu
    induction fu with
    | zero => intro k Y4 _ _ hmu; exact absurd hmu (Nat.not_lt_zero _)
    | succ fu ih3 =>
      intro k Y4 hk hI hmu3 H locs ls hH hS hl
      have hF := hF k Y4 hk hH.2.2.2 hI
      refine lv_iload C.1 C.2.1 dX10_caught_14 (lv_at hl 0 rfl) ?_
      refine lv_iload_n C.1 C.2.1 dX10_caught_16 rfl (lv_at hl 3 rfl) ?_
      refine zd_icmp_ge C hk hb 101 dX10_caught_17 (by decide) (fun c5 => ?_) (fun c5 => ?_)
      · have hF := hF.1 c5
        refine lv_iload_n C.1 C.2.1 dX10_caught_101 rfl (lv_at hl 2 rfl) ?_
        refine zd_if_lt C ha 119 dX10_caught_102 (by decide) (fun c6 => ?_) (fun c6 => ?_)
        · have hF := hF.1 c6
          refine lv_lconst (v := zL 0) C.1 C.2.1 dX10_caught_119 rfl ?_
          refine W_raise (cells := 1) (slots := 20) (Nat.le_of_ble_eq_true rfl) (Nat.le_of_ble_eq_true rfl) ?_
          exact zd_lretG C hr hlk hH hS (by decide) (⟨rfl, rfl, hF⟩) dX10_caught_120
        · have hF := hF.2 c6
          refine lv_iload_n C.1 C.2.1 dX10_caught_105 rfl (lv_at hl 2 rfl) ?_
          refine lv_aload C.1 C.2.1 dX10_caught_106 (lv_at hl 1 rfl) ?_
          refine zd_alen C hH (by omega) (t0 := 2) (by rw [hk14]; rfl) rfl rfl dX10_caught_108 ?_
          rw [hl20]
          refine zd_icmp_ge C ha (by decide) 119 dX10_caught_109 (by decide) (fun c7 => ?_) (fun c7 => ?_)
          · have hF := hF.1 c7
            refine lv_lconst (v := zL 0) C.1 C.2.1 dX10_caught_119 rfl ?_
            refine W_raise (cells := 1) (slots := 20) (Nat.le_of_ble_eq_true rfl) (Nat.le_of_ble_eq_true rfl) ?_
            exact zd_lretG C hr hlk hH hS (by decide) (⟨rfl, rfl, hF⟩) dX10_caught_120
          · have hF := hF.2 c7
            refine lv_aload C.1 C.2.1 dX10_caught_112 (lv_at hl 1 rfl) ?_
            refine lv_iload_n C.1 C.2.1 dX10_caught_114 rfl (lv_at hl 2 rfl) ?_
            obtain ⟨o8, hF⟩ := hF
            refine zd_lald C hH (by omega) hk14 o8.1 (by rw [hl20]; exact o8.2) (by rw [hl20]; decide) dX10_caught_115 ?_
            refine lv_goto (tgt := 120) C.1 C.2.1 dX10_caught_116 (by decide) ?_
            refine W_raise (cells := 1) (slots := 20) (Nat.le_of_ble_eq_true rfl) (Nat.le_of_ble_eq_true rfl) ?_
            exact zd_lretG C hr hlk hH hS (hH.2.2.2 _ _) (⟨rfl, rfl, hF⟩) dX10_caught_120
      · have hF := hF.2 c5
        refine lv_iload C.1 C.2.1 dX10_caught_20 (lv_at hl 0 rfl) ?_
        refine zd_bipush C (by decide) dX10_caught_22 ?_
        refine zd_icmp_ge C hk (by decide) 101 dX10_caught_24 (by decide) (fun c9 => ?_) (fun c9 => ?_)
        · have hF := hF.1 c9
          refine lv_iload_n C.1 C.2.1 dX10_caught_101 rfl (lv_at hl 2 rfl) ?_
          refine zd_if_lt C ha 119 dX10_caught_102 (by decide) (fun c10 => ?_) (fun c10 => ?_)
          · have hF := hF.1 c10
            refine lv_lconst (v := zL 0) C.1 C.2.1 dX10_caught_119 rfl ?_
            refine W_raise (cells := 1) (slots := 20) (Nat.le_of_ble_eq_true rfl) (Nat.le_of_ble_eq_true rfl) ?_
            exact zd_lretG C hr hlk hH hS (by decide) (⟨rfl, rfl, hF⟩) dX10_caught_120
          · have hF := hF.2 c10
            refine lv_iload_n C.1 C.2.1 dX10_caught_105 rfl (lv_at hl 2 rfl) ?_
            refine lv_aload C.1 C.2.1 dX10_caught_106 (lv_at hl 1 rfl) ?_
            refine zd_alen C hH (by omega) (t0 := 2) (by rw [hk14]; rfl) rfl rfl dX10_caught_108 ?_
            rw [hl20]
            refine zd_icmp_ge C ha (by decide) 119 dX10_caught_109 (by decide) (fun c11 => ?_) (fun c11 => ?_)
            · have hF := hF.1 c11
              refine lv_lconst (v := zL 0) C.1 C.2.1 dX10_caught_119 rfl ?_
              refine W_raise (cells := 1) (slots := 20) (Nat.le_of_ble_eq_true rfl) (Nat.le_of_ble_eq_true rfl) ?_
              exact zd_lretG C hr hlk hH hS (by decide) (⟨rfl, rfl, hF⟩) dX10_caught_120
            · have hF := hF.2 c11
              refine lv_aload C.1 C.2.1 dX10_caught_112 (lv_at hl 1 rfl) ?_
              refine lv_iload_n C.1 C.2.1 dX10_caught_114 rfl (lv_at hl 2 rfl) ?_
              obtain ⟨o12, hF⟩ := hF
              refine zd_lald C hH (by omega) hk14 o12.1 (by rw [hl20]; exact o12.2) (by rw [hl20]; decide) dX10_caught_115 ?_
              refine lv_goto (tgt := 120) C.1 C.2.1 dX10_caught_116 (by decide) ?_
              refine W_raise (cells := 1) (slots := 20) (Nat.le_of_ble_eq_true rfl) (Nat.le_of_ble_eq_true rfl) ?_
              exact zd_lretG C hr hlk hH hS (hH.2.2.2 _ _) (⟨rfl, rfl, hF⟩) dX10_caught_120
        · have hF := hF.2 c9
          refine lv_aload C.1 C.2.1 dX10_caught_27 (lv_at hl 1 rfl) ?_
          refine zd_iconst C dX10_caught_29 ?_
          refine zd_lald C hH (by omega) hk14 (by decide) (by rw [hl20]; decide) (by rw [hl20]; decide) dX10_caught_30 ?_
          refine lv_lstore (lv' := [(6, .long (zL (Y4 (N) (0)))), (5, .int (zI (k))), (4, .ref (bs + (N))), (0, .int (zI (a))), (1, .int (zI (b))), (2, .int (zI (g))), (3, .int (zI (d)))]) C.1 C.2.1 dX10_caught_31 hl (by decide) rfl (fun ls hl => ?_)
          refine lv_aload C.1 C.2.1 dX10_caught_33 (lv_at hl 2 rfl) ?_
          refine zd_iconst C dX10_caught_35 ?_
          refine lv_dup2_11 C.1 C.2.1 dX10_caught_36 rfl rfl ?_
          refine zd_lald C hH (by omega) hk14 (by decide) (by rw [hl20]; decide) (by rw [hl20]; decide) dX10_caught_37 ?_
          refine lv_iload_n C.1 C.2.1 dX10_caught_38 rfl (lv_at hl 5 rfl) ?_
          refine lv_iload_n C.1 C.2.1 dX10_caught_39 rfl (lv_at hl 6 rfl) ?_
          refine zd_iadd C dX10_caught_40 ?_
          obtain ⟨o13, hF⟩ := hF
          refine zd_i2l C o13 dX10_caught_41 ?_
          refine zd_lmul C dX10_caught_42 ?_
          obtain ⟨o14, hF⟩ := hF
          have gg1 := hH.2.2.2
          refine zd_last C hH hS (by omega) hk14 (by decide) (by rw [hl20]; decide) (by rw [hl20]; decide) o14 dX10_caught_43 (fun H locs hH hS => ?_)
          obtain ⟨Y15, eY15⟩ : ∃ z, z = zU Y4 (N) (0) ((Y4 (N) (0)) * (g + d)) := ⟨_, rfl⟩
          rw [← eY15] at hH
          have hF := hF Y15 eY15 hH.2.2.2
          refine zd_iconst C dX10_caught_44 ?_
          refine lv_istore (lv' := [(8, .int (zI (1))), (6, .long (zL (Y4 (N) (0)))), (5, .int (zI (k))), (4, .ref (bs + (N))), (0, .int (zI (a))), (1, .int (zI (b))), (2, .int (zI (g))), (3, .int (zI (d)))]) C.1 C.2.1 dX10_caught_45 hl (by decide) rfl (fun ls hl => ?_)
          obtain ⟨hI16, hF⟩ := hF
          have L16 : ∀ (fu : Nat) (j : Int) (w : Int) (Y17 : Nat → Int → Int), rI j → rL w → (∃ t x : Nat, k = t ∧ j = x ∧ (1 ≤ x ∧ x ≤ 19) ∧ w = gvN g d t (x - 1) ∧ (∀ z, z ≠ N → Y17 z = Y z) ∧ (∀ y : Nat, y < x → Y17 N y = gvN g d (t + 1) y) ∧ ∀ y : Nat, x ≤ y → y < 20 → Y17 N y = gvN g d t y) → ((20 - j).toNat) < fu → ∀ (H : Heap) (locs : List Loc) (ls : Array Slot), zH D cy bs (N + 1) kd len X Y17 R H → va_S (zA bs) s.heap H locs → lv_has ls 11 [(8, .int (zI (j))), (6, .long (zL (w))), (5, .int (zI (k))), (4, .ref (bs + (N))), (0, .int (zI (a))), (1, .int (zI (b))), (2, .int (zI (g))), (3, .int (zI (d)))] → W p l e (zRmG 0 0 1 20) s m args below meth c H locs 1 20 (MQ below (zQl D cy bs (N + 1) kd len (fun r st => st.1 = X ∧ st.2.2 = R ∧ (r = fwN (g) (d) (a).toNat (b).toNat 0 ∧ ∀ z, z < N → st.2.1 z = Y z))) args s 1 20 (zA bs)) (F0 m 47 ls []) := by
            intro fu
            induction fu with
            | zero => intro j w Y17 _ _ _ hmu; exact absurd hmu (Nat.not_lt_zero _)
            | succ fu ih16 =>
              intro j w Y17 hj hw hI hmu16 H locs ls hH hS hl
              have hF := hF j w Y17 hj hw hH.2.2.2 hI
              refine lv_iload C.1 C.2.1 dX10_caught_47 (lv_at hl 0 rfl) ?_
              refine zd_iconst C dX10_caught_49 ?_
              refine zd_iadd C dX10_caught_50 ?_
              refine lv_aload C.1 C.2.1 dX10_caught_51 (lv_at hl 3 rfl) ?_
              refine zd_alen C hH (by omega) (t0 := 2) (by rw [hk14]; rfl) rfl rfl dX10_caught_53 ?_
              rw [hl20]
              obtain ⟨o19, hF⟩ := hF
              refine zd_icmp_ge C o19 (by decide) 95 dX10_caught_54 (by decide) (fun c18 => ?_) (fun c18 => ?_)
              · have hF := hF.1 c18
                refine zd_iinc (k := 2) (lv' := [(5, .int (zI (k + 1))), (8, .int (zI (j))), (6, .long (zL (w))), (4, .ref (bs + (N))), (0, .int (zI (a))), (1, .int (zI (b))), (2, .int (zI (g))), (3, .int (zI (d)))]) C hl rfl dX10_caught_95 (by decide) rfl (fun ls hl => ?_)
                refine lv_goto (tgt := 14) C.1 C.2.1 dX10_caught_98 (by decide) ?_
                obtain ⟨o20, hF⟩ := hF
                exact ih3 (k + 1) Y17 o20 hF.1 (Nat.lt_of_lt_of_le hF.2 (Nat.le_of_lt_succ hmu3)) _ _ _ hH hS (lv_sub hl [0, 3, 4, 5, 6, 7] rfl)
              · have hF := hF.2 c18
                refine lv_aload C.1 C.2.1 dX10_caught_57 (lv_at hl 3 rfl) ?_
                refine lv_iload C.1 C.2.1 dX10_caught_59 (lv_at hl 0 rfl) ?_
                obtain ⟨o21, hF⟩ := hF
                refine zd_lald C hH (by omega) hk14 o21.1 (by rw [hl20]; exact o21.2) (by rw [hl20]; decide) dX10_caught_61 ?_
                refine lv_lstore (lv' := [(9, .long (zL (Y17 (N) (j)))), (8, .int (zI (j))), (6, .long (zL (w))), (5, .int (zI (k))), (4, .ref (bs + (N))), (0, .int (zI (a))), (1, .int (zI (b))), (2, .int (zI (g))), (3, .int (zI (d)))]) C.1 C.2.1 dX10_caught_62 hl (by decide) rfl (fun ls hl => ?_)
                refine lv_aload C.1 C.2.1 dX10_caught_64 (lv_at hl 4 rfl) ?_
                refine lv_iload C.1 C.2.1 dX10_caught_66 (lv_at hl 1 rfl) ?_
                refine lv_iload_n C.1 C.2.1 dX10_caught_68 rfl (lv_at hl 7 rfl) ?_
                refine zd_i2l C hg dX10_caught_69 ?_
                refine lv_lload C.1 C.2.1 dX10_caught_70 (lv_at hl 2 rfl) ?_
                refine zd_lmul C dX10_caught_72 ?_
                refine lv_iload_n C.1 C.2.1 dX10_caught_73 rfl (lv_at hl 8 rfl) ?_
                refine zd_i2l C hd dX10_caught_74 ?_
                refine lv_aload C.1 C.2.1 dX10_caught_75 (lv_at hl 4 rfl) ?_
                refine lv_iload C.1 C.2.1 dX10_caught_77 (lv_at hl 1 rfl) ?_
                refine zd_iconst C dX10_caught_79 ?_
                refine zd_iadd C dX10_caught_80 ?_
                obtain ⟨o22, hF⟩ := hF
                refine zd_lald C hH (by omega) hk14 o22.1 (by rw [hl20]; exact o22.2) (by rw [hl20]; decide) dX10_caught_81 ?_
                refine zd_lmul C dX10_caught_82 ?_
                refine zd_ladd C dX10_caught_83 ?_
                obtain ⟨o23, hF⟩ := hF
                obtain ⟨o24, hF⟩ := hF
                have gg2 := hH.2.2.2
                refine zd_last C hH hS (by omega) hk14 o23.1 (by rw [hl20]; exact o23.2) (by rw [hl20]; decide) o24 dX10_caught_84 (fun H locs hH hS => ?_)
                obtain ⟨Y25, eY25⟩ : ∃ z, z = zU Y17 (N) (j) (((g) * (w)) + ((d) * (Y17 (N) (j + 1)))) := ⟨_, rfl⟩
                rw [← eY25] at hH
                have hF := hF Y25 eY25 hH.2.2.2
                refine lv_lload C.1 C.2.1 dX10_caught_85 (lv_at hl 0 rfl) ?_
                refine lv_lstore (lv' := [(6, .long (zL (Y17 (N) (j)))), (9, .long (zL (Y17 (N) (j)))), (8, .int (zI (j))), (5, .int (zI (k))), (4, .ref (bs + (N))), (0, .int (zI (a))), (1, .int (zI (b))), (2, .int (zI (g))), (3, .int (zI (d)))]) C.1 C.2.1 dX10_caught_87 hl (by decide) rfl (fun ls hl => ?_)
                refine zd_iinc (k := 2) (lv' := [(8, .int (zI (j + 1))), (6, .long (zL (Y17 (N) (j)))), (9, .long (zL (Y17 (N) (j)))), (5, .int (zI (k))), (4, .ref (bs + (N))), (0, .int (zI (a))), (1, .int (zI (b))), (2, .int (zI (g))), (3, .int (zI (d)))]) C hl rfl dX10_caught_89 (by decide) rfl (fun ls hl => ?_)
                refine lv_goto (tgt := 47) C.1 C.2.1 dX10_caught_92 (by decide) ?_
                exact ih16 (j + 1) (Y17 (N) (j)) Y25 o19 (gg2 _ _) hF.1 (Nat.lt_of_lt_of_le hF.2 (Nat.le_of_lt_succ hmu16)) _ _ _ hH hS (lv_sub hl [0, 1, 3, 4, 5, 6, 7, 8] rfl)
          exact L16 (((20 - (1 : Int)).toNat) + 1) ((1 : Int)) (Y4 (N) (0)) Y15 (by decide) (gg1 _ _) hI16 (Nat.lt_succ_self _) _ _ _ hH hS (lv_sub hl [0, 1, 2, 3, 4, 5, 6, 7] rfl)
  exact L3 (((b - (0 : Int)).toNat) + 1) ((0 : Int)) Y2 (by decide) hI3 (Nat.lt_succ_self _) _ _ _ hH hS (lv_sub hl [0, 1, 2, 3, 4, 5] rfl)
theorem v_X10_caught {X Y : Nat → Int → Int} {R : Nat → Int → Option Nat} {N : Nat} (a : Int) (ha : rI a) (b : Int) (hb : rI b) (g : Int) (hg : rI g) (d : Int) (hd : rI d) (hp : (0 ≤ a ∧ a ≤ 6) ∧ (0 ≤ b ∧ b ≤ 12) ∧ 0 ≤ g ∧ 0 ≤ d ∧ (g + d = 10 ∨ g + d = 2)) : F_X10_caught N X Y R a b g d := by
  unfold F_X10_caught
  intro hX hY
  obtain ⟨ha, hb, hg, hd, hgd⟩ := hp
  intro Y1
  intro eY1
  intro rY1
  intro Y2
  intro eY2
  intro rY2
  refine ⟨?_, ?_⟩
  · refine ⟨0, rfl, hb.1, fun z hz => by rw [eY2, zU_o hz, eY1, zZ_o hz], fun y hy => ?_⟩
    rw [eY2]
    by_cases e : y = 0
    · subst e
      exact zU_s
    · rw [zU_n (by omega), eY1, zZ_at]
      exact (if_neg e).symm
  intro k Y4
  intro _
  intro rY4
  intro h1
  obtain ⟨t, ht, tb, fk, hr⟩ := h1
  subst ht
  have bz := gvN_c hg hd hgd (t := t) (by omega)
  refine ⟨?_, ?_⟩
  · intro c1
    refine ⟨?_, ?_⟩
    · intro c2
      exfalso
      omega
    intro c3
    refine ⟨?_, ?_⟩
    · intro c4
      exfalso
      omega
    intro c5
    refine ⟨?_, ?_⟩
    · first | omega | exact ⟨by omega, by omega⟩ | decide | assumption | exact ⟨by omega, by omega, by omega⟩ | exact ⟨by decide, by decide⟩
    have v := hr a.toNat (by omega)
    rw [show ((a.toNat : Nat) : Int) = a by omega, gvN_fw g d (by omega), show t = b.toNat by omega] at v
    exact ⟨v, fun z hz => fk z (by omega)⟩
  intro c6
  refine ⟨?_, ?_⟩
  · intro c7
    exfalso
    omega
  intro c12
  have v0 : Y4 N 0 = gvN g d t 0 := hr 0 (by decide)
  have m0 := mulb (bz 0).1 (bz 0).2 (show 0 ≤ g + d by omega) (by omega)
  rw [← v0] at m0
  refine ⟨?_, ?_⟩
  · first | omega | exact ⟨by omega, by omega⟩ | decide | assumption | exact ⟨by omega, by omega, by omega⟩ | exact ⟨by decide, by decide⟩
  refine ⟨?_, ?_⟩
  · first | omega | exact ⟨by omega, by omega⟩ | decide | assumption | exact ⟨by omega, by omega, by omega⟩ | exact ⟨by decide, by decide⟩
  intro Y15
  intro eY15
  intro rY15
  refine ⟨?_, ?_⟩
  · refine ⟨t, 1, rfl, rfl, by decide, v0, fun z hz => by rw [eY15, zU_o hz]; exact fk z hz, fun y hy => ?_, fun y h1 h2 => by rw [eY15, zU_n (by omega)]; exact hr y h2⟩
    obtain rfl : y = 0 := by omega
    rw [gvN_0, ← v0, eY15]
    exact zU_s
  intro j w Y17
  intro _
  intro _
  intro rY17
  intro h2
  obtain ⟨t', x, ht', hx, hx1, hw, fk2, hr1, hr2⟩ := h2
  obtain rfl : t = t' := by omega
  subst hx
  refine ⟨?_, ?_⟩
  · first | omega | exact ⟨by omega, by omega⟩ | decide | assumption | exact ⟨by omega, by omega, by omega⟩ | exact ⟨by decide, by decide⟩
  refine ⟨?_, ?_⟩
  · intro c13
    refine ⟨?_, ?_⟩
    · first | omega | exact ⟨by omega, by omega⟩ | decide | assumption | exact ⟨by omega, by omega, by omega⟩ | exact ⟨by decide, by decide⟩
    refine ⟨?_, ?_⟩
    · refine ⟨t + 1, rfl, by omega, fk2, fun y hy => ?_⟩
      by_cases e : y < x
      · exact hr1 y e
      · have v := hr2 y (by omega) hy
        rw [v, gvN_e g d t (by omega), gvN_e g d (t + 1) (by omega)]
    first | omega | exact ⟨by omega, by omega⟩ | decide | assumption | exact ⟨by omega, by omega, by omega⟩ | exact ⟨by decide, by decide⟩
  intro c14
  have v1 := hr2 (x + 1) (by omega) (by omega)
  have v1 : Y17 N ((x : Int) + 1) = gvN g d t (x + 1) := v1
  have m1 := mulb (bz (x - 1)).1 (bz (x - 1)).2 hg (by omega)
  have m2 := mulb (bz (x + 1)).1 (bz (x + 1)).2 hd (by omega)
  rw [Int.mul_comm] at m1 m2
  rw [← hw] at m1
  rw [← v1] at m2
  refine ⟨?_, ?_⟩
  · first | omega | exact ⟨by omega, by omega⟩ | decide | assumption | exact ⟨by omega, by omega, by omega⟩ | exact ⟨by decide, by decide⟩
  refine ⟨?_, ?_⟩
  · first | omega | exact ⟨by omega, by omega⟩ | decide | assumption | exact ⟨by omega, by omega, by omega⟩ | exact ⟨by decide, by decide⟩
  refine ⟨?_, ?_⟩
  · first | omega | exact ⟨by omega, by omega⟩ | decide | assumption | exact ⟨by omega, by omega, by omega⟩ | exact ⟨by decide, by decide⟩
  refine ⟨?_, ?_⟩
  · first | omega | exact ⟨by omega, by omega⟩ | decide | assumption | exact ⟨by omega, by omega, by omega⟩ | exact ⟨by decide, by decide⟩
  intro Y25
  intro eY25
  intro rY25
  refine ⟨?_, ?_⟩
  · refine ⟨t, x + 1, rfl, rfl, by omega, hr2 x (by omega) (by omega), fun z hz => by rw [eY25, zU_o hz]; exact fk2 z hz, fun y hy => ?_, fun y h1 h2 => by rw [eY25, zU_n (by omega)]; exact hr2 y (by omega) h2⟩
    by_cases e : y = x
    · rw [e, gvN_s g d t (by omega) (by omega), ← hw, ← v1, eY25]
      exact zU_s
    · rw [eY25, zU_n (by omega)]
      exact hr1 y (by omega)
  first | omega | exact ⟨by omega, by omega⟩ | decide | assumption | exact ⟨by omega, by omega, by omega⟩ | exact ⟨by decide, by decide⟩
theorem c_X10_caught {l : Launch} {D : va_G} {cy : Nat → ClassId} {bs N : Nat} {sa : Nat → Nat} {kd len : Nat → Nat} {X Y : Nat → Int → Int} {R : Nat → Int → Option Nat} (hk14 : kd N = 14) (hl20 : len N = 20) (a : Int) (ha : rI a) (b : Int) (hb : rI b) (g : Int) (hg : rI g) (d : Int) (hd : rI d) (hp : (0 ≤ a ∧ a ≤ 6) ∧ (0 ≤ b ∧ b ≤ 12) ∧ 0 ≤ g ∧ 0 ≤ d ∧ (g + d = 10 ∨ g + d = 2)) : Met l yX10_caught (.code yX10_caught cX10_caught 11 (some .long) :: zTB) (zRmG 0 0 1 20) (zPc D cy bs sa N kd len X Y R [.int (zI (a)), .int (zI (b)), .int (zI (g)), .int (zI (d))]) (zQl D cy bs (N + 1) kd len (fun r st => st.1 = X ∧ st.2.2 = R ∧ (r = fwN (g) (d) (a).toNat (b).toNat 0 ∧ ∀ z, z < N → st.2.1 z = Y z))) 1 20 (zA bs) := w_X10_caught hk14 hl20 a ha b hb g hg d hd (v_X10_caught a ha b hb g hg d hd hp)
