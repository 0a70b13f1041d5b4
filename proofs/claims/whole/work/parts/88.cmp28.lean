/-! MORE QUESTIONS -/
theorem fsN_a {f : Nat → Bool} : ∀ m e, fsN f (m + 1) e = if fsN f m e = -1 then (if f (e + m) = true then ((e + m : Nat) : Int) else -1) else fsN f m e
  | 0, e => by
    show (if f e then (e : Int) else fsN f 0 (e + 1)) = if (-1 : Int) = -1 then _ else _
    rw [if_pos rfl]
    rfl
  | m + 1, e => by
    show (if f e then (e : Int) else fsN f (m + 1) (e + 1)) = if (if f e then (e : Int) else fsN f m (e + 1)) = -1 then _ else (if f e then (e : Int) else fsN f m (e + 1))
    cases c : f e
    · show fsN f (m + 1) (e + 1) = if fsN f m (e + 1) = -1 then (if f (e + (m + 1)) = true then ((e + (m + 1) : Nat) : Int) else -1) else fsN f m (e + 1)
      rw [fsN_a m (e + 1), show e + 1 + m = e + (m + 1) by omega]
    · rw [if_pos rfl, if_pos rfl, if_neg (show ¬ (e : Int) = -1 by omega)]
theorem fsN_z {f : Nat → Bool} : ∀ m, fsN f m 0 = -1 ↔ ∀ j, j < m → f j = false
  | 0 => ⟨fun _ j hj => absurd hj (Nat.not_lt_zero _), fun _ => rfl⟩
  | m + 1 => by
    have ih := fsN_z (f := f) m
    rw [fsN_a, Nat.zero_add]
    constructor
    · intro h j hj
      by_cases g : fsN f m 0 = -1
      · rw [if_pos g] at h
        by_cases e : j = m
        · subst e
          cases c : f j
          · rfl
          · rw [c, if_pos rfl] at h
            omega
        · exact ih.mp g j (by omega)
      · rw [if_neg g] at h
        exact absurd h g
    · intro h
      rw [if_pos (ih.mpr (fun j hj => h j (by omega))), h m (by omega)]
      rfl
theorem mOnes_z {s : Int} : ∀ m : Nat, mOnesN s m = 0 ↔ ∀ j : Nat, j < m → mHas s j = false
  | 0 => ⟨fun _ j hj => absurd hj (Nat.not_lt_zero _), fun _ => rfl⟩
  | m + 1 => by
    have ih := mOnes_z (s := s) m
    have b := (mOnesN_b s m).1
    show mOnesN s m + bz (mHas s m) = 0 ↔ _
    constructor
    · intro h j hj
      cases c : mHas s m
      · rw [c] at h
        by_cases e : j = m
        · rw [e]
          exact c
        · exact ih.mp (by have : bz false = 0 := rfl; omega) j (by omega)
      · rw [c] at h
        have : bz true = 1 := rfl
        omega
    · intro h
      rw [ih.mpr (fun j hj => h j (by omega)), h m (by omega)]
      rfl
theorem nb_low {s : Int} {f : Nat → Bool} : ∀ m : Nat, (∀ j : Nat, j < m → mHas s j = f j) → nbN s 0 m = fsN f m 0
  | 0, _ => rfl
  | m + 1, h => by
    have ih := nb_low (s := s) (f := f) m (fun j hj => h j (by omega))
    rw [fsN_a, Nat.zero_add]
    show (if nbN s 0 m = -1 then (if mHas s m = true ∧ mOnesN s m = 0 then (m : Int) else -1) else nbN s 0 m) = _
    rw [ih, h m (by omega)]
    by_cases g : fsN f m 0 = -1
    · have z : mOnesN s m = 0 := (mOnes_z m).mpr fun j hj => by rw [h j (by omega)]; exact (fsN_z m).mp g j hj
      rw [if_pos g, if_pos g, z]
      cases f m <;> rfl
    · rw [if_neg g, if_neg g]
theorem fsN_cut {f : Nat → Bool} {k : Nat} : ∀ d, (∀ j, k ≤ j → j < k + d → f j = false) → fsN f (k + d) 0 = fsN f k 0
  | 0, _ => rfl
  | d + 1, h => by
    show fsN f (k + d + 1) 0 = _
    rw [fsN_a, Nat.zero_add, fsN_cut d (fun j h1 h2 => h j h1 (by omega)), h (k + d) (by omega) (by omega)]
    split
    · rename_i g
      rw [g]
      rfl
    · rfl
theorem fsN_cong {f g : Nat → Bool} : ∀ m e, (∀ j, e ≤ j → j < e + m → f j = g j) → fsN f m e = fsN g m e
  | 0, _, _ => rfl
  | m + 1, e, h => by
    show (if f e then (e : Int) else fsN f m (e + 1)) = if g e then (e : Int) else fsN g m (e + 1)
    rw [h e (by omega) (by omega), fsN_cong m (e + 1) (fun j h1 h2 => h j (by omega) (by omega))]
theorem gaN_k {w : Nat → Bool} {L : Nat → Int} (h0 : w 0 = true) : ∀ q, (gaN w L q).1 ≤ q - 1 ∧ w (gaN w L q).1 = true ∧ 0 ≤ (gaN w L q).2 ∧ (gaN w L q).2 ≤ q
  | 0 => ⟨Nat.le_refl _, h0, Int.le_refl _, Int.le_refl _⟩
  | q + 1 => by
    obtain ⟨a, b, c, d⟩ := gaN_k (L := L) h0 q
    show (if w q then (if L (gaN w L q).1 < L q then (q, 1) else if L q = L (gaN w L q).1 then ((gaN w L q).1, (gaN w L q).2 + 1) else gaN w L q) else gaN w L q : Nat × Int).1 ≤ _ ∧ w (if w q then (if L (gaN w L q).1 < L q then (q, 1) else if L q = L (gaN w L q).1 then ((gaN w L q).1, (gaN w L q).2 + 1) else gaN w L q) else gaN w L q : Nat × Int).1 = true ∧ 0 ≤ (if w q then (if L (gaN w L q).1 < L q then (q, 1) else if L q = L (gaN w L q).1 then ((gaN w L q).1, (gaN w L q).2 + 1) else gaN w L q) else gaN w L q : Nat × Int).2 ∧ (if w q then (if L (gaN w L q).1 < L q then (q, 1) else if L q = L (gaN w L q).1 then ((gaN w L q).1, (gaN w L q).2 + 1) else gaN w L q) else gaN w L q : Nat × Int).2 ≤ _
    cases e : w q
    · rw [if_neg (by decide)]
      exact ⟨by omega, b, c, by omega⟩
    · rw [if_pos rfl]
      split
      · exact ⟨by show q ≤ _; omega, e, by show (0 : Int) ≤ 1; decide, by show (1 : Int) ≤ _; omega⟩
      · split
        · exact ⟨by show (gaN w L q).1 ≤ _; omega, b, by show 0 ≤ (gaN w L q).2 + 1; omega, by show (gaN w L q).2 + 1 ≤ _; omega⟩
        · exact ⟨by omega, b, c, by omega⟩
theorem gaN_s {w : Nat → Bool} {L : Nat → Int} {q : Nat} : gaN w L (q + 1) = if w q then (if L (gaN w L q).1 < L q then (q, 1) else if L q = L (gaN w L q).1 then ((gaN w L q).1, (gaN w L q).2 + 1) else gaN w L q) else gaN w L q := rfl
abbrev cX10_root : ByteArray := prog_1_method_31_code
def yX10_root : MethodName := ⟨RX10, "root", "(IIII)I"⟩
theorem dX10_root_0 : decode cX10_root 0 = .ok (.aload_n 0, 1) := by decide +kernel
theorem dX10_root_1 : decode cX10_root 1 = .ok (.iload_n 1, 1) := by decide +kernel
theorem dX10_root_2 : decode cX10_root 2 = .ok (.iload_n 2, 1) := by decide +kernel
theorem dX10_root_3 : decode cX10_root 3 = .ok (.invokevirtual 202, 3) := by decide +kernel
theorem dX10_root_6 : decode cX10_root 6 = .ok (.ifCond .eq 17, 3) := by decide +kernel
theorem dX10_root_9 : decode cX10_root 9 = .ok (.aload_n 0, 1) := by decide +kernel
theorem dX10_root_10 : decode cX10_root 10 = .ok (.getfield 34, 3) := by decide +kernel
theorem dX10_root_13 : decode cX10_root 13 = .ok (.getfield 282, 3) := by decide +kernel
theorem dX10_root_16 : decode cX10_root 16 = .ok (.iload_n 3, 1) := by decide +kernel
theorem dX10_root_17 : decode cX10_root 17 = .ok (.invokevirtual 153, 3) := by decide +kernel
theorem dX10_root_20 : decode cX10_root 20 = .ok (.ifCond .ne 6, 3) := by decide +kernel
theorem dX10_root_23 : decode cX10_root 23 = .ok (.bipush (-2), 2) := by decide +kernel
theorem dX10_root_25 : decode cX10_root 25 = .ok (.ireturn, 1) := by decide +kernel
theorem dX10_root_26 : decode cX10_root 26 = .ok (.iload 4, 2) := by decide +kernel
theorem dX10_root_28 : decode cX10_root 28 = .ok (.ifCond .ne 26, 3) := by decide +kernel
theorem dX10_root_31 : decode cX10_root 31 = .ok (.aload_n 0, 1) := by decide +kernel
theorem dX10_root_32 : decode cX10_root 32 = .ok (.getfield 34, 3) := by decide +kernel
theorem dX10_root_35 : decode cX10_root 35 = .ok (.getfield 334, 3) := by decide +kernel
theorem dX10_root_38 : decode cX10_root 38 = .ok (.iload_n 3, 1) := by decide +kernel
theorem dX10_root_39 : decode cX10_root 39 = .ok (.iaload, 1) := by decide +kernel
theorem dX10_root_40 : decode cX10_root 40 = .ok (.aload_n 0, 1) := by decide +kernel
theorem dX10_root_41 : decode cX10_root 41 = .ok (.getfield 34, 3) := by decide +kernel
theorem dX10_root_44 : decode cX10_root 44 = .ok (.getfield 302, 3) := by decide +kernel
theorem dX10_root_47 : decode cX10_root 47 = .ok (.iconst (-1), 1) := by decide +kernel
theorem dX10_root_48 : decode cX10_root 48 = .ok (.ixor, 1) := by decide +kernel
theorem dX10_root_49 : decode cX10_root 49 = .ok (.iand, 1) := by decide +kernel
theorem dX10_root_50 : decode cX10_root 50 = .ok (.invokestatic 378, 3) := by decide +kernel
theorem dX10_root_53 : decode cX10_root 53 = .ok (.ireturn, 1) := by decide +kernel
theorem dX10_root_54 : decode cX10_root 54 = .ok (.aload_n 0, 1) := by decide +kernel
theorem dX10_root_55 : decode cX10_root 55 = .ok (.getfield 34, 3) := by decide +kernel
theorem dX10_root_58 : decode cX10_root 58 = .ok (.iload_n 3, 1) := by decide +kernel
theorem dX10_root_59 : decode cX10_root 59 = .ok (.invokevirtual 295, 3) := by decide +kernel
theorem dX10_root_62 : decode cX10_root 62 = .ok (.ifCond .ne 6, 3) := by decide +kernel
theorem dX10_root_65 : decode cX10_root 65 = .ok (.bipush (-2), 2) := by decide +kernel
theorem dX10_root_67 : decode cX10_root 67 = .ok (.ireturn, 1) := by decide +kernel
theorem dX10_root_68 : decode cX10_root 68 = .ok (.iload 4, 2) := by decide +kernel
theorem dX10_root_70 : decode cX10_root 70 = .ok (.iconst 1, 1) := by decide +kernel
theorem dX10_root_71 : decode cX10_root 71 = .ok (.if_icmp .ne 12, 3) := by decide +kernel
theorem dX10_root_74 : decode cX10_root 74 = .ok (.aload_n 0, 1) := by decide +kernel
theorem dX10_root_75 : decode cX10_root 75 = .ok (.getfield 34, 3) := by decide +kernel
theorem dX10_root_78 : decode cX10_root 78 = .ok (.iload_n 3, 1) := by decide +kernel
theorem dX10_root_79 : decode cX10_root 79 = .ok (.invokevirtual 381, 3) := by decide +kernel
theorem dX10_root_82 : decode cX10_root 82 = .ok (.ireturn, 1) := by decide +kernel
theorem dX10_root_83 : decode cX10_root 83 = .ok (.iload 4, 2) := by decide +kernel
theorem dX10_root_85 : decode cX10_root 85 = .ok (.iconst 2, 1) := by decide +kernel
theorem dX10_root_86 : decode cX10_root 86 = .ok (.if_icmp .ne 16, 3) := by decide +kernel
theorem dX10_root_89 : decode cX10_root 89 = .ok (.aload_n 0, 1) := by decide +kernel
theorem dX10_root_90 : decode cX10_root 90 = .ok (.getfield 34, 3) := by decide +kernel
theorem dX10_root_93 : decode cX10_root 93 = .ok (.getfield 251, 3) := by decide +kernel
theorem dX10_root_96 : decode cX10_root 96 = .ok (.iload_n 3, 1) := by decide +kernel
theorem dX10_root_97 : decode cX10_root 97 = .ok (.aaload, 1) := by decide +kernel
theorem dX10_root_98 : decode cX10_root 98 = .ok (.invokevirtual 384, 3) := by decide +kernel
theorem dX10_root_101 : decode cX10_root 101 = .ok (.ireturn, 1) := by decide +kernel
theorem dX10_root_102 : decode cX10_root 102 = .ok (.aload_n 0, 1) := by decide +kernel
theorem dX10_root_103 : decode cX10_root 103 = .ok (.getfield 34, 3) := by decide +kernel
theorem dX10_root_106 : decode cX10_root 106 = .ok (.getfield 206, 3) := by decide +kernel
theorem dX10_root_109 : decode cX10_root 109 = .ok (.iload 4, 2) := by decide +kernel
theorem dX10_root_111 : decode cX10_root 111 = .ok (.invokestatic 137, 3) := by decide +kernel
theorem dX10_root_114 : decode cX10_root 114 = .ok (.ifCond .ne 6, 3) := by decide +kernel
theorem dX10_root_117 : decode cX10_root 117 = .ok (.bipush (-2), 2) := by decide +kernel
theorem dX10_root_119 : decode cX10_root 119 = .ok (.ireturn, 1) := by decide +kernel
theorem dX10_root_120 : decode cX10_root 120 = .ok (.aload_n 0, 1) := by decide +kernel
theorem dX10_root_121 : decode cX10_root 121 = .ok (.getfield 34, 3) := by decide +kernel
theorem dX10_root_124 : decode cX10_root 124 = .ok (.getfield 334, 3) := by decide +kernel
theorem dX10_root_127 : decode cX10_root 127 = .ok (.iload_n 3, 1) := by decide +kernel
theorem dX10_root_128 : decode cX10_root 128 = .ok (.iaload, 1) := by decide +kernel
theorem dX10_root_129 : decode cX10_root 129 = .ok (.aload_n 0, 1) := by decide +kernel
theorem dX10_root_130 : decode cX10_root 130 = .ok (.getfield 34, 3) := by decide +kernel
theorem dX10_root_133 : decode cX10_root 133 = .ok (.iload 4, 2) := by decide +kernel
theorem dX10_root_135 : decode cX10_root 135 = .ok (.bipush 10, 2) := by decide +kernel
theorem dX10_root_137 : decode cX10_root 137 = .ok (.isub, 1) := by decide +kernel
theorem dX10_root_138 : decode cX10_root 138 = .ok (.invokevirtual 331, 3) := by decide +kernel
theorem dX10_root_141 : decode cX10_root 141 = .ok (.iand, 1) := by decide +kernel
theorem dX10_root_142 : decode cX10_root 142 = .ok (.invokestatic 317, 3) := by decide +kernel
theorem dX10_root_145 : decode cX10_root 145 = .ok (.ireturn, 1) := by decide +kernel
theorem q_406 : Cond.fieldLink RX10 334 RX1 "way" "[I" ∈ zTB := zmem 406 (by decide +kernel) rfl
theorem q_1094 : Cond.methodLink RX10 331 yX1_madeBy ∈ zTB := zmem 1094 (by decide +kernel) rfl
theorem q_1095 : Cond.instanceMethod yX1_madeBy ∈ zTB := zmem 1095 (by decide +kernel) rfl
theorem q_1096 : Cond.selects RX1 yX1_madeBy yX1_madeBy ∈ zTB := zmem 1096 (by decide +kernel) rfl
theorem q_1097 : Cond.code yX1_madeBy cX1_madeBy 4 (some .int) ∈ zTB := zmem 1097 (by decide +kernel) rfl
theorem k_RX10_331 : zLv RX10 331 RX1 yX1_madeBy cX1_madeBy 4 (some .int) 1 := ⟨⟨q_1094, q_1095, q_1096, q_135, q_1097⟩, rfl, ⟨by decide, by decide⟩, by decide +kernel⟩
theorem q_1168 : Cond.methodLink RX10 384 yX5_richest ∈ zTB := zmem 1168 (by decide +kernel) rfl
theorem q_1169 : Cond.instanceMethod yX5_richest ∈ zTB := zmem 1169 (by decide +kernel) rfl
theorem q_1170 : Cond.selects RX5 yX5_richest yX5_richest ∈ zTB := zmem 1170 (by decide +kernel) rfl
theorem q_1171 : Cond.code yX5_richest cX5_richest 3 (some .int) ∈ zTB := zmem 1171 (by decide +kernel) rfl
theorem k_RX10_384 : zLv RX10 384 RX5 yX5_richest cX5_richest 3 (some .int) 0 := ⟨⟨q_1168, q_1169, q_1170, q_136, q_1171⟩, rfl, ⟨by decide, by decide⟩, by decide +kernel⟩
theorem q_1164 : Cond.methodLink RX10 381 yX1_uncles ∈ zTB := zmem 1164 (by decide +kernel) rfl
theorem q_1165 : Cond.instanceMethod yX1_uncles ∈ zTB := zmem 1165 (by decide +kernel) rfl
theorem q_1166 : Cond.selects RX1 yX1_uncles yX1_uncles ∈ zTB := zmem 1166 (by decide +kernel) rfl
theorem q_1167 : Cond.code yX1_uncles cX1_uncles 5 (some .int) ∈ zTB := zmem 1167 (by decide +kernel) rfl
theorem k_RX10_381 : zLv RX10 381 RX1 yX1_uncles cX1_uncles 5 (some .int) 1 := ⟨⟨q_1164, q_1165, q_1166, q_135, q_1167⟩, rfl, ⟨by decide, by decide⟩, by decide +kernel⟩
theorem q_401 : Cond.fieldLink RX10 302 RX1 "sound" "I" ∈ zTB := zmem 401 (by decide +kernel) rfl
theorem q_1159 : Cond.static yX10_lowest ∈ zTB := zmem 1159 (by decide +kernel) rfl
theorem q_1160 : Cond.code yX10_lowest cX10_lowest 1 (some .int) ∈ zTB := zmem 1160 (by decide +kernel) rfl
theorem q_1158 : Cond.methodLink RX10 378 yX10_lowest ∈ zTB := zmem 1158 (by decide +kernel) rfl
theorem k_RX10_378 : zLs RX10 378 yX10_lowest cX10_lowest 1 (some .int) 1 := ⟨⟨q_1158, q_1159, q_129, q_1160⟩, ⟨by decide, by decide⟩, by decide +kernel⟩
def F_X10_root (i : Nat) (Z : Nat → Int → Int) (q : Nat) (X Y : Nat → Int → Int) (R : Nat → Int → Option Nat) (a : Int) (b : Int) (g : Int) (d : Int) : Prop := (∀ i j, rI (X i j)) → (∀ i j, rL (Y i j)) → (wcQ Z q X i) ∧ (∀ r5 : Bool, ∀ X2 : Nat → Int → Int, (∀ i j, rI (X2 i j)) → ∀ Y3 : Nat → Int → Int, (∀ i j, rL (Y3 i j)) → ∀ R4 : Nat → Int → Option Nat, (((R4) = wgR Z q R i (a) (b)) ∧ r5 = rOk Z q (a) (b) ∧ (r5 = false → (X2) = X ∧ (Y3) = Y) ∧ (r5 = true → qK X (X2) i ∧ cA (hZ Z q (a) (b) 0) q (X2) (Y3) (R4) (i + 157) ∧ (X2) (cn (R4) (i + 157)) 3 = hZ Z q (a) (b) 0 q 28 ∧ (X2) (cn (R4) (i + 157)) 4 = hZ Z q (a) (b) 0 q 29)) → (((r5 = false) → (((R4) = wgR Z q R i (a) (b)) ∧ (-2) = rRoot Z q (a) (b) (g) (d) ∧ qK X (X2) i)) ∧ ((r5 = true) → ((((decide (0 ≤ (g) ∧ (g) ≤ X2 (cb R4 (i + 157)) 0 ∧ (g) < 15)) = true) → (((¬ d = 0) → ((X2 (i + 157) 2 ≤ 14) ∧ ((((soE X2 (i + 157) (g)) = true) → (((¬ d = 1) → (((¬ d = 2) → ((X2 (cn R4 (i + 157)) 6 ≤ 6) ∧ ((((mIn (d) 10 (10 + X2 (cn R4 (i + 157)) 6 - 1)) = true) → ((0 ≤ g ∧ g < 15) ∧ ((cA (hZ Z q a b 0) q X2 Y3 R4 (i + 157)) ∧ (rI (bS (fMd (hZ Z q a b 0) q ((zW (d - 10)))) ((hZ Z q a b 0) q 27).toNat) → (rI (mBc (zAnd (X2 (i + 167) (g)) (bS (fMd (hZ Z q a b 0) q ((zW (d - 10)))) ((hZ Z q a b 0) q 27).toNat))) → (((R4) = wgR Z q R i (a) (b)) ∧ (mBc (zAnd (X2 (i + 167) (g)) (bS (fMd (hZ Z q a b 0) q ((zW (d - 10)))) ((hZ Z q a b 0) q 27).toNat))) = rRoot Z q (a) (b) (g) (d) ∧ qK X (X2) i)))))) ∧ (((mIn (d) 10 (10 + X2 (cn R4 (i + 157)) 6 - 1)) = false) → (((R4) = wgR Z q R i (a) (b)) ∧ (-2) = rRoot Z q (a) (b) (g) (d) ∧ qK X (X2) i))))) ∧ ((¬ (¬ d = 2)) → ((0 ≤ g ∧ g < 15) ∧ ((0 ≤ X2 (i + 174 + 2 * (g : Int).toNat) 0 ∧ X2 (i + 174 + 2 * (g : Int).toNat) 0 ≤ 6) ∧ (rI (riN (fun z => X2 ((i + 174 + 2 * (g : Int).toNat) + 1) z) (X2 (i + 174 + 2 * (g : Int).toNat) 0).toNat) → (((R4) = wgR Z q R i (a) (b)) ∧ (riN (fun z => X2 ((i + 174 + 2 * (g : Int).toNat) + 1) z) (X2 (i + 174 + 2 * (g : Int).toNat) 0).toNat) = rRoot Z q (a) (b) (g) (d) ∧ qK X (X2) i))))))) ∧ ((¬ (¬ d = 1)) → ((cA (hZ Z q a b 0) q X2 Y3 R4 (i + 157) ∧ 0 ≤ (g) ∧ (g) < (hZ Z q a b 0) q 27) ∧ (rI (bS (fUn (rP (hZ Z q a b 0) q) (sdf (hZ Z q a b 0) q) (g).toNat) ((hZ Z q a b 0) q 27).toNat) → (((R4) = wgR Z q R i (a) (b)) ∧ (bS (fUn (rP (hZ Z q a b 0) q) (sdf (hZ Z q a b 0) q) (g).toNat) ((hZ Z q a b 0) q 27).toNat) = rRoot Z q (a) (b) (g) (d) ∧ qK X (X2) i)))))) ∧ (((soE X2 (i + 157) (g)) = false) → (((R4) = wgR Z q R i (a) (b)) ∧ (-2) = rRoot Z q (a) (b) (g) (d) ∧ qK X (X2) i))))) ∧ ((¬ (¬ d = 0)) → ((0 ≤ g ∧ g < 15) ∧ (rI (nbN (zAnd (X2 (i + 167) (g)) (zXor (X2 (i + 157) 3) ((-1)))) 0 15) → (((R4) = wgR Z q R i (a) (b)) ∧ (nbN (zAnd (X2 (i + 167) (g)) (zXor (X2 (i + 157) 3) ((-1)))) 0 15) = rRoot Z q (a) (b) (g) (d) ∧ qK X (X2) i)))))) ∧ (((decide (0 ≤ (g) ∧ (g) ≤ X2 (cb R4 (i + 157)) 0 ∧ (g) < 15)) = false) → (((R4) = wgR Z q R i (a) (b)) ∧ (-2) = rRoot Z q (a) (b) (g) (d) ∧ qK X (X2) i))))))
set_option maxHeartbeats 4000000 in
set_option maxRecDepth 100000 in
theorem w_X10_root {l : Launch} {D : va_G} {cy : Nat → ClassId} {bs N : Nat} {sa : Nat → Nat} {kd len : Nat → Nat} {X Y : Nat → Int → Int} {R : Nat → Int → Option Nat} {i : Nat} {Z : Nat → Int → Int} {q : Nat} (hC : zWC N kd len R i) (a : Int) (ha : rI a) (b : Int) (hb : rI b) (g : Int) (hg : rI g) (d : Int) (hd : rI d) (hF : F_X10_root i Z q X Y R a b g d) : Met l yX10_root (.code yX10_root cX10_root 5 (some .int) :: zTB) (zRm 5 134) (zPc D cy bs sa N kd len X Y R [.ref (bs + (i)), .int (zI (a)), .int (zI (b)), .int (zI (g)), .int (zI (d))]) (zQi D cy bs N kd len (fun r st => (((st.2.2) = wgR Z q R i (a) (b)) ∧ r = rRoot Z q (a) (b) (g) (d) ∧ qK X (st.1) i))) 0 0 (zA bs) := by
  refine zstart (by decide) (Nat.le_of_ble_eq_true rfl) ?_
  intro p e s m args below meth c ls C hE hH hr hlk hnm hl hargs
  have hF := hF hH.2.2.1 hH.2.2.2
  have hS : va_S (zA bs) s.heap s.heap [] := va_S.rf
  have hl : lv_has ls 5 [(0, .ref (bs + (i))), (1, .int (zI (a))), (2, .int (zI (b))), (3, .int (zI (g))), (4, .int (zI (d)))] := hl
  refine lv_aload_n C.1 C.2.1 dX10_root_0 rfl (lv_at hl 0 rfl) ?_
  refine lv_iload_n C.1 C.2.1 dX10_root_1 rfl (lv_at hl 1 rfl) ?_
  refine lv_iload_n C.1 C.2.1 dX10_root_2 rfl (lv_at hl 2 rfl) ?_
  obtain ⟨o1, hF⟩ := hF
  refine zgoi (zrunV (As := [.int (zI (a)), .int (zI (b))]) (rest := []) C hE hH hS hl.1 (c_X10_weigh (l := l) hC (a) ha (b) hb o1) k_RX10_202 ⟨Nat.le_of_ble_eq_true rfl, Nat.le_of_ble_eq_true rfl⟩ (zW_n hC) (zW_k hC) rfl rfl rfl (Nat.le_of_ble_eq_true rfl) dX10_root_3 ⟨Nat.zero_le _, Nat.zero_le _⟩) hS (fun rq X2 Y3 R4 H locs hrq hq hH hS => ?_)
  obtain ⟨r5, h91, hq⟩ := hq
  subst h91
  have hF := hF r5 X2 hH.2.2.1 Y3 hH.2.2.2 R4 hq
  have hC := zWC_wg hC hq.1
  refine zd_ifB_eq C 23 dX10_root_6 (by decide) (fun c6 => ?_) (fun c6 => ?_)
  · have hF := hF.1 c6
    refine zd_bipush C (by decide) dX10_root_23 ?_
    exact zd_iret C hr hlk hH hS (by decide) (hF) dX10_root_25
  · have hF := hF.2 c6
    refine lv_aload_n C.1 C.2.1 dX10_root_9 rfl (lv_at hl 0 rfl) ?_
    refine zg10_4 C hH (zW_n hC) (zW_k hC) q_573 (zW_lw hC).1 dX10_root_10 ?_
    refine zg1_1 C hH (zChart_n0 (zW_lw hC).2.2.2.1.1) (zChart_k0 (zW_lw hC).2.2.2.1.1) q_395 (zChart_blk (zW_lw hC).2.2.2.1.1).1 dX10_root_13 ?_
    refine lv_iload_n C.1 C.2.1 dX10_root_16 rfl (lv_at hl 3 rfl) ?_
    refine zgoi (zrunV (As := [.int (zI (g))]) (rest := []) C hE hH hS hl.1 (c_X0_has (l := l) (zChart_blk (zW_lw hC).2.2.2.1.1).2 (g) hg) k_RX10_153 ⟨Nat.le_of_ble_eq_true rfl, Nat.le_of_ble_eq_true rfl⟩ (zBlocks_n0 (zChart_blk (zW_lw hC).2.2.2.1.1).2) (zBlocks_k0 (zChart_blk (zW_lw hC).2.2.2.1.1).2) rfl rfl rfl (Nat.le_of_ble_eq_true rfl) dX10_root_17 ⟨Nat.zero_le _, Nat.zero_le _⟩) hS (fun rq Xq Yq Rq H locs hrq hq hH hS => ?_)
    obtain ⟨h91, h92⟩ := hq
    have h93 : Xq = X2 := congrArg (fun z => z.1) h92
    have h94 : Yq = Y3 := congrArg (fun z => z.2.1) h92
    have h95 : Rq = R4 := congrArg (fun z => z.2.2) h92
    rw [h93, h94, h95] at hH
    subst h91
    refine zd_ifB_ne C 26 dX10_root_20 (by decide) (fun c7 => ?_) (fun c7 => ?_)
    · have hF := hF.1 c7
      refine lv_iload C.1 C.2.1 dX10_root_26 (lv_at hl 4 rfl) ?_
      refine zd_if_ne C hd 54 dX10_root_28 (by decide) (fun c8 => ?_) (fun c8 => ?_)
      · have hF := hF.1 c8
        refine lv_aload_n C.1 C.2.1 dX10_root_54 rfl (lv_at hl 0 rfl) ?_
        refine zg10_4 C hH (zW_n hC) (zW_k hC) q_573 (zW_lw hC).1 dX10_root_55 ?_
        refine lv_iload_n C.1 C.2.1 dX10_root_58 rfl (lv_at hl 3 rfl) ?_
        obtain ⟨o9, hF⟩ := hF
        refine zgoi (zrunV (As := [.int (zI (g))]) (rest := []) C hE hH hS hl.1 (c_X1_isSound (l := l) (zW_lw hC).2.2.2.1.1 (g) hg o9) k_RX10_295 ⟨Nat.le_of_ble_eq_true rfl, Nat.le_of_ble_eq_true rfl⟩ (zChart_n0 (zW_lw hC).2.2.2.1.1) (zChart_k0 (zW_lw hC).2.2.2.1.1) rfl rfl rfl (Nat.le_of_ble_eq_true rfl) dX10_root_59 ⟨Nat.zero_le _, Nat.zero_le _⟩) hS (fun rq Xq Yq Rq H locs hrq hq hH hS => ?_)
        obtain ⟨h91, h92⟩ := hq
        have h93 : Xq = X2 := congrArg (fun z => z.1) h92
        have h94 : Yq = Y3 := congrArg (fun z => z.2.1) h92
        have h95 : Rq = R4 := congrArg (fun z => z.2.2) h92
        rw [h93, h94, h95] at hH
        subst h91
        refine zd_ifB_ne C 68 dX10_root_62 (by decide) (fun c10 => ?_) (fun c10 => ?_)
        · have hF := hF.1 c10
          refine lv_iload C.1 C.2.1 dX10_root_68 (lv_at hl 4 rfl) ?_
          refine zd_iconst C dX10_root_70 ?_
          refine zd_icmp_ne C hd (by decide) 83 dX10_root_71 (by decide) (fun c11 => ?_) (fun c11 => ?_)
          · have hF := hF.1 c11
            refine lv_iload C.1 C.2.1 dX10_root_83 (lv_at hl 4 rfl) ?_
            refine zd_iconst C dX10_root_85 ?_
            refine zd_icmp_ne C hd (by decide) 102 dX10_root_86 (by decide) (fun c12 => ?_) (fun c12 => ?_)
            · have hF := hF.1 c12
              refine lv_aload_n C.1 C.2.1 dX10_root_102 rfl (lv_at hl 0 rfl) ?_
              refine zg10_4 C hH (zW_n hC) (zW_k hC) q_573 (zW_lw hC).1 dX10_root_103 ?_
              refine zg1_0 C hH (zChart_n0 (zW_lw hC).2.2.2.1.1) (zChart_k0 (zW_lw hC).2.2.2.1.1) q_393 (zChart_net (zW_lw hC).2.2.2.1.1).1 dX10_root_106 ?_
              refine lv_iload C.1 C.2.1 dX10_root_109 (lv_at hl 4 rfl) ?_
              obtain ⟨o13, hF⟩ := hF
              refine zgoi (zrunS (As := [.ref (bs + (cn R4 (i + 157))), .int (zI (d))]) (rest := []) C hE hH hS hl.1 (c_X10_isAccount (l := l) (zChart_net (zW_lw hC).2.2.2.1.1).2 (d) hd o13) k_RX10_137 ⟨Nat.le_of_ble_eq_true rfl, Nat.le_of_ble_eq_true rfl⟩ rfl (Nat.le_of_ble_eq_true rfl) dX10_root_111 ⟨Nat.zero_le _, Nat.zero_le _⟩) hS (fun rq Xq Yq Rq H locs hrq hq hH hS => ?_)
              obtain ⟨h91, h92⟩ := hq
              have h93 : Xq = X2 := congrArg (fun z => z.1) h92
              have h94 : Yq = Y3 := congrArg (fun z => z.2.1) h92
              have h95 : Rq = R4 := congrArg (fun z => z.2.2) h92
              rw [h93, h94, h95] at hH
              subst h91
              refine zd_ifB_ne C 120 dX10_root_114 (by decide) (fun c14 => ?_) (fun c14 => ?_)
              · have hF := hF.1 c14
                refine lv_aload_n C.1 C.2.1 dX10_root_120 rfl (lv_at hl 0 rfl) ?_
                refine zg10_4 C hH (zW_n hC) (zW_k hC) q_573 (zW_lw hC).1 dX10_root_121 ?_
                refine zg1_5 C hH (zChart_n0 (zW_lw hC).2.2.2.1.1) (zChart_k0 (zW_lw hC).2.2.2.1.1) q_406 (zChart_r10 (zW_lw hC).2.2.2.1.1) dX10_root_124 ?_
                refine lv_iload_n C.1 C.2.1 dX10_root_127 rfl (lv_at hl 3 rfl) ?_
                obtain ⟨o15, hF⟩ := hF
                refine zd_iald C hH (zChart_n10 (zW_lw hC).2.2.2.1.1) (zChart_k10 (zW_lw hC).2.2.2.1.1) o15.1 (by rw [zChart_l10 (zW_lw hC).2.2.2.1.1]; exact o15.2) (by rw [zChart_l10 (zW_lw hC).2.2.2.1.1]; decide) dX10_root_128 ?_
                refine lv_aload_n C.1 C.2.1 dX10_root_129 rfl (lv_at hl 0 rfl) ?_
                refine zg10_4 C hH (zW_n hC) (zW_k hC) q_573 (zW_lw hC).1 dX10_root_130 ?_
                refine lv_iload C.1 C.2.1 dX10_root_133 (lv_at hl 4 rfl) ?_
                refine zd_bipush C (by decide) dX10_root_135 ?_
                refine zd_isub C dX10_root_137 ?_
                rw [show zI (d - 10) = zI (zW (d - 10)) from (zI_zW _).symm]
                obtain ⟨o16, hF⟩ := hF
                refine zgoi (zrunV (As := [.int (zI (zW (d - 10)))]) (rest := [.int (zI (X2 (i + 167) (g)))]) C hE hH hS hl.1 (c_X1_madeBy (l := l) (zW_lw hC).2.2.2.1.1 (zW (d - 10)) (zW_rg _) o16) k_RX10_331 ⟨Nat.le_of_ble_eq_true rfl, Nat.le_of_ble_eq_true rfl⟩ (zChart_n0 (zW_lw hC).2.2.2.1.1) (zChart_k0 (zW_lw hC).2.2.2.1.1) rfl rfl rfl (Nat.le_of_ble_eq_true rfl) dX10_root_138 ⟨Nat.zero_le _, Nat.zero_le _⟩) hS (fun rq Xq Yq Rq H locs hrq hq hH hS => ?_)
                obtain ⟨h91, h92⟩ := hq
                have h93 : Xq = X2 := congrArg (fun z => z.1) h92
                have h94 : Yq = Y3 := congrArg (fun z => z.2.1) h92
                have h95 : Rq = R4 := congrArg (fun z => z.2.2) h92
                rw [h93, h94, h95] at hH
                subst h91
                have hr17 := hrq
                have hF := hF hr17
                refine zd_iand C dX10_root_141 ?_
                refine zgoi (zrunS (As := [.int (zI (zAnd (X2 (i + 167) (g)) (bS (fMd (hZ Z q a b 0) q ((zW (d - 10)))) ((hZ Z q a b 0) q 27).toNat)))]) (rest := []) C hE hH hS hl.1 (c_J6_bitCount_0f7a4 (l := l)  (zAnd (X2 (i + 167) (g)) (bS (fMd (hZ Z q a b 0) q ((zW (d - 10)))) ((hZ Z q a b 0) q 27).toNat)) (zI_rg _)) k_RX10_317 ⟨Nat.le_of_ble_eq_true rfl, Nat.le_of_ble_eq_true rfl⟩ rfl (Nat.le_of_ble_eq_true rfl) dX10_root_142 ⟨Nat.zero_le _, Nat.zero_le _⟩) hS (fun rq Xq Yq Rq H locs hrq hq hH hS => ?_)
                obtain ⟨h91, h92⟩ := hq
                have h93 : Xq = X2 := congrArg (fun z => z.1) h92
                have h94 : Yq = Y3 := congrArg (fun z => z.2.1) h92
                have h95 : Rq = R4 := congrArg (fun z => z.2.2) h92
                rw [h93, h94, h95] at hH
                subst h91
                have hr18 := hrq
                have hF := hF hr18
                exact zd_iret C hr hlk hH hS hr18 (hF) dX10_root_145
              · have hF := hF.2 c14
                refine zd_bipush C (by decide) dX10_root_117 ?_
                exact zd_iret C hr hlk hH hS (by decide) (hF) dX10_root_119
            · have hF := hF.2 c12
              refine lv_aload_n C.1 C.2.1 dX10_root_89 rfl (lv_at hl 0 rfl) ?_
              refine zg10_4 C hH (zW_n hC) (zW_k hC) q_573 (zW_lw hC).1 dX10_root_90 ?_
              refine zg1_9 C hH (zChart_n0 (zW_lw hC).2.2.2.1.1) (zChart_k0 (zW_lw hC).2.2.2.1.1) q_414 (zChart_r14 (zW_lw hC).2.2.2.1.1) dX10_root_93 ?_
              refine lv_iload_n C.1 C.2.1 dX10_root_96 rfl (lv_at hl 3 rfl) ?_
              obtain ⟨o19, hF⟩ := hF
              refine zd_aaldr C hH (zChart_n14 (zW_lw hC).2.2.2.1.1) 5 rfl rfl (by rw [(zChart_k14 (zW_lw hC).2.2.2.1.1)]; rfl) o19.1 (by rw [zChart_l14 (zW_lw hC).2.2.2.1.1]; exact o19.2) (by rw [zChart_l14 (zW_lw hC).2.2.2.1.1]; decide) (zChart_lg (zW_lw hC).2.2.2.1.1 o19.1 o19.2).1 dX10_root_97 ?_
              obtain ⟨o20, hF⟩ := hF
              refine zgoi (zrunV (As := []) (rest := []) C hE hH hS hl.1 (c_X5_richest (l := l) (zChart_lg (zW_lw hC).2.2.2.1.1 o19.1 o19.2).2  o20) k_RX10_384 ⟨Nat.le_of_ble_eq_true rfl, Nat.le_of_ble_eq_true rfl⟩ (zLedger_n0 (zChart_lg (zW_lw hC).2.2.2.1.1 o19.1 o19.2).2) (zLedger_k0 (zChart_lg (zW_lw hC).2.2.2.1.1 o19.1 o19.2).2) rfl rfl rfl (Nat.le_of_ble_eq_true rfl) dX10_root_98 ⟨Nat.zero_le _, Nat.zero_le _⟩) hS (fun rq Xq Yq Rq H locs hrq hq hH hS => ?_)
              obtain ⟨h91, h92⟩ := hq
              have h93 : Xq = X2 := congrArg (fun z => z.1) h92
              have h94 : Yq = Y3 := congrArg (fun z => z.2.1) h92
              have h95 : Rq = R4 := congrArg (fun z => z.2.2) h92
              rw [h93, h94, h95] at hH
              subst h91
              have hr21 := hrq
              have hF := hF hr21
              exact zd_iret C hr hlk hH hS hr21 (hF) dX10_root_101
          · have hF := hF.2 c11
            refine lv_aload_n C.1 C.2.1 dX10_root_74 rfl (lv_at hl 0 rfl) ?_
            refine zg10_4 C hH (zW_n hC) (zW_k hC) q_573 (zW_lw hC).1 dX10_root_75 ?_
            refine lv_iload_n C.1 C.2.1 dX10_root_78 rfl (lv_at hl 3 rfl) ?_
            obtain ⟨o22, hF⟩ := hF
            refine zgoi (zrunV (As := [.int (zI (g))]) (rest := []) C hE hH hS hl.1 (c_X1_uncles (l := l) (zW_lw hC).2.2.2.1.1 (g) hg o22) k_RX10_381 ⟨Nat.le_of_ble_eq_true rfl, Nat.le_of_ble_eq_true rfl⟩ (zChart_n0 (zW_lw hC).2.2.2.1.1) (zChart_k0 (zW_lw hC).2.2.2.1.1) rfl rfl rfl (Nat.le_of_ble_eq_true rfl) dX10_root_79 ⟨Nat.zero_le _, Nat.zero_le _⟩) hS (fun rq Xq Yq Rq H locs hrq hq hH hS => ?_)
            obtain ⟨h91, h92⟩ := hq
            have h93 : Xq = X2 := congrArg (fun z => z.1) h92
            have h94 : Yq = Y3 := congrArg (fun z => z.2.1) h92
            have h95 : Rq = R4 := congrArg (fun z => z.2.2) h92
            rw [h93, h94, h95] at hH
            subst h91
            have hr23 := hrq
            have hF := hF hr23
            exact zd_iret C hr hlk hH hS hr23 (hF) dX10_root_82
        · have hF := hF.2 c10
          refine zd_bipush C (by decide) dX10_root_65 ?_
          exact zd_iret C hr hlk hH hS (by decide) (hF) dX10_root_67
      · have hF := hF.2 c8
        refine lv_aload_n C.1 C.2.1 dX10_root_31 rfl (lv_at hl 0 rfl) ?_
        refine zg10_4 C hH (zW_n hC) (zW_k hC) q_573 (zW_lw hC).1 dX10_root_32 ?_
        refine zg1_5 C hH (zChart_n0 (zW_lw hC).2.2.2.1.1) (zChart_k0 (zW_lw hC).2.2.2.1.1) q_406 (zChart_r10 (zW_lw hC).2.2.2.1.1) dX10_root_35 ?_
        refine lv_iload_n C.1 C.2.1 dX10_root_38 rfl (lv_at hl 3 rfl) ?_
        obtain ⟨o24, hF⟩ := hF
        refine zd_iald C hH (zChart_n10 (zW_lw hC).2.2.2.1.1) (zChart_k10 (zW_lw hC).2.2.2.1.1) o24.1 (by rw [zChart_l10 (zW_lw hC).2.2.2.1.1]; exact o24.2) (by rw [zChart_l10 (zW_lw hC).2.2.2.1.1]; decide) dX10_root_39 ?_
        refine lv_aload_n C.1 C.2.1 dX10_root_40 rfl (lv_at hl 0 rfl) ?_
        refine zg10_4 C hH (zW_n hC) (zW_k hC) q_573 (zW_lw hC).1 dX10_root_41 ?_
        refine zg1_3 C hH (zChart_n0 (zW_lw hC).2.2.2.1.1) (zChart_k0 (zW_lw hC).2.2.2.1.1) q_401 dX10_root_44 ?_
        refine zd_iconst C dX10_root_47 ?_
        refine zd_ixor C dX10_root_48 ?_
        refine zd_iand C dX10_root_49 ?_
        refine zgoi (zrunS (As := [.int (zI (zAnd (X2 (i + 167) (g)) (zXor (X2 (i + 157) 3) ((-1)))))]) (rest := []) C hE hH hS hl.1 (c_X10_lowest (l := l)  (zAnd (X2 (i + 167) (g)) (zXor (X2 (i + 157) 3) ((-1)))) (zI_rg _)) k_RX10_378 ⟨Nat.le_of_ble_eq_true rfl, Nat.le_of_ble_eq_true rfl⟩ rfl (Nat.le_of_ble_eq_true rfl) dX10_root_50 ⟨Nat.zero_le _, Nat.zero_le _⟩) hS (fun rq Xq Yq Rq H locs hrq hq hH hS => ?_)
        obtain ⟨h91, h92⟩ := hq
        have h93 : Xq = X2 := congrArg (fun z => z.1) h92
        have h94 : Yq = Y3 := congrArg (fun z => z.2.1) h92
        have h95 : Rq = R4 := congrArg (fun z => z.2.2) h92
        rw [h93, h94, h95] at hH
        subst h91
        have hr25 := hrq
        have hF := hF hr25
        exact zd_iret C hr hlk hH hS hr25 (hF) dX10_root_53
    · have hF := hF.2 c7
      refine zd_bipush C (by decide) dX10_root_23 ?_
      exact zd_iret C hr hlk hH hS (by decide) (hF) dX10_root_25
theorem v_X10_root {X Y : Nat → Int → Int} {R : Nat → Int → Option Nat} {i : Nat} {Z : Nat → Int → Int} {q : Nat} (a : Int) (ha : rI a) (b : Int) (hb : rI b) (g : Int) (hg : rI g) (d : Int) (hd : rI d) (hp : wcQ Z q X i) : F_X10_root i Z q X Y R a b g d := by
  unfold F_X10_root
  intro hX hY
  refine ⟨?_, ?_⟩
  · exact hp
  intro r5
  intro X2
  intro rX2
  intro Y3
  intro rY3
  intro R4
  intro h1
  obtain ⟨eR, er, hf, ht⟩ := h1
  refine ⟨?_, ?_⟩
  · intro c1
    obtain ⟨rfl, rfl⟩ := hf c1
    have e : rOk Z q a b = false := by rw [← er]; exact c1
    have hk : qK X2 X2 i := ⟨fun _ _ => rfl, hp.2.2⟩
    exact ⟨eR, by unfold rRoot; rw [e]; rfl, hk⟩
  intro c2
  obtain ⟨hk, hA, h3, h4⟩ := ht c2
  have e : rOk Z q a b = true := by rw [← er]; exact c2
  have l := cA_l hA
  have b0 := cA_b hA
  have a6 := cA_a hA
  have e27 := hz_27 (Z := Z) (q := q) (n := a) (c := b) (f := 0)
  have e26 := hz_26 (Z := Z) (q := q) (n := a) (c := b) (f := 0)
  refine ⟨?_, ?_⟩
  · intro c3
    have c3 := of_decide_eq_true c3
    obtain ⟨gn, rfl⟩ := nat_of c3.1
    have eg : ((gn : Nat) : Int).toNat = gn := by omega
    have gl : (gn : Int) < hZ Z q a b 0 q 27 := by omega
    have E : rRoot Z q a b gn d = roOf (hZ Z q a b 0) q gn d := by
      unfold rRoot
      rw [e, mIn_t.mpr (by omega)]
      rfl
    rw [eg]
    refine ⟨?_, ?_⟩
    · intro c4
      refine ⟨?_, ?_⟩
      · first | omega | exact ⟨by omega, by omega⟩ | decide | assumption | exact ⟨by omega, by omega, by omega⟩ | exact ⟨by decide, by decide⟩
      refine ⟨?_, ?_⟩
      · intro c5
        rw [cA_so hA, decide_eq_true (by omega), Bool.true_and, eg] at c5
        refine ⟨?_, ?_⟩
        · intro c6
          refine ⟨?_, ?_⟩
          · intro c7
            refine ⟨?_, ?_⟩
            · first | omega | exact ⟨by omega, by omega⟩ | decide | assumption | exact ⟨by omega, by omega, by omega⟩ | exact ⟨by decide, by decide⟩
            refine ⟨?_, ?_⟩
            · intro c8
              refine ⟨?_, ?_⟩
              · first | omega | exact ⟨by omega, by omega⟩ | decide | assumption | exact ⟨by omega, by omega, by omega⟩ | exact ⟨by decide, by decide⟩
              refine ⟨?_, ?_⟩
              · exact hA
              intro _
              intro _
              rw [mIn_t] at c8
              have ew : zW (d - 10) = d - 10 := zI_toInt ⟨by omega, by omega⟩
              refine ⟨eR, ?_, hk⟩
              rw [E]
              unfold roOf
              rw [if_neg c4, if_pos c5, if_pos (by omega), mIn_t.mpr (by omega), if_pos rfl, ew, show X2 (i + 167) gn = _ from cA_w hA gl, mBc_ones (and_sm wy_sm).1 (and_sm wy_sm).2]
            intro c9
            rw [mIn_f] at c9
            refine ⟨eR, ?_, hk⟩
            rw [E]
            unfold roOf
            rw [if_neg c4, if_pos c5]
            by_cases g10 : 10 ≤ d
            · rw [if_pos g10, mIn_f.mpr (by omega)]
              rfl
            · rw [if_neg g10, if_neg c6, if_neg c7]
          intro c10
          refine ⟨?_, ?_⟩
          · first | omega | exact ⟨by omega, by omega⟩ | decide | assumption | exact ⟨by omega, by omega, by omega⟩ | exact ⟨by decide, by decide⟩
          refine ⟨?_, ?_⟩
          · rw [show X2 (i + 174 + 2 * gn) 0 = _ from (cA_ld hA gl c5).1]
            omega
          intro _
          have ld := cA_ld hA gl c5
          refine ⟨eR, ?_, hk⟩
          rw [E]
          unfold roOf
          rw [if_neg c4, if_pos c5, if_neg (show ¬ 10 ≤ d by omega), if_neg c6, if_pos (by omega), show X2 (i + 174 + 2 * gn) 0 = _ from ld.1]
          exact riN_cong _ (fun z hz => ld.2.1 z (by omega) (by omega))
        intro c11
        refine ⟨?_, ?_⟩
        · exact ⟨hA, by omega, gl⟩
        intro _
        refine ⟨eR, ?_, hk⟩
        rw [E]
        unfold roOf
        rw [if_neg c4, if_pos c5, if_neg (show ¬ 10 ≤ d by omega), if_pos (by omega)]
      intro c12
      rw [cA_so hA, decide_eq_true (by omega), Bool.true_and, eg] at c12
      refine ⟨eR, ?_, hk⟩
      rw [E]
      unfold roOf
      rw [if_neg c4, c12]
      rfl
    intro c13
    refine ⟨?_, ?_⟩
    · first | omega | exact ⟨by omega, by omega⟩ | decide | assumption | exact ⟨by omega, by omega, by omega⟩ | exact ⟨by decide, by decide⟩
    intro _
    refine ⟨eR, ?_, hk⟩
    rw [E]
    unfold roOf
    rw [if_pos (by omega), show X2 (i + 167) gn = _ from cA_w hA gl]
    have hb : ∀ j : Nat, j < 15 → mHas (zAnd (wyP (rP (hZ Z q a b 0) q) gn) (zXor (X2 (i + 157) 3) (-1))) j = (mHas (wyP (rP (hZ Z q a b 0) q) gn) j && !sdf (hZ Z q a b 0) q j) := fun j hj => by
      rw [mHas_zb _ (by omega), zb_and, zb_not _ (by omega), ← mHas_zb _ (by omega), ← mHas_zb _ (by omega)]
      by_cases g : (j : Int) < hZ Z q a b 0 q 27
      · rw [cA_s hA g]
      · have z : mHas (wyP (rP (hZ Z q a b 0) q) gn) j = false := by
          rw [mHas_zb _ (by omega)]
          unfold wyP
          rw [zb_bS _ _ _ (by decide) (by omega)]
          cases c : onW (rP (hZ Z q a b 0) q) gn j
          · exact Bool.and_false _
          · exact absurd (onW_le (vZ_p hA.1.1.1) gn (by omega) j c) (by omega)
        rw [z, Bool.false_and, Bool.false_and]
    rw [nb_low 15 hb, show (15 : Nat) = gn + 1 + (14 - gn) by omega]
    exact fsN_cut _ (fun j hj hj2 => by
      have z : mHas (wyP (rP (hZ Z q a b 0) q) gn) j = false := by
        rw [mHas_zb _ (by omega)]
        unfold wyP
        rw [zb_bS _ _ _ (by decide) (by omega)]
        cases c : onW (rP (hZ Z q a b 0) q) gn j
        · exact Bool.and_false _
        · exact absurd (onW_le (vZ_p hA.1.1.1) gn (by omega) j c) (by omega)
      rw [z, Bool.false_and])
  intro c14
  have c14 := of_decide_eq_false c14
  exact ⟨eR, by unfold rRoot; rw [e, mIn_f.mpr (by omega)]; rfl, hk⟩
theorem c_X10_root {l : Launch} {D : va_G} {cy : Nat → ClassId} {bs N : Nat} {sa : Nat → Nat} {kd len : Nat → Nat} {X Y : Nat → Int → Int} {R : Nat → Int → Option Nat} {i : Nat} {Z : Nat → Int → Int} {q : Nat} (hC : zWC N kd len R i) (a : Int) (ha : rI a) (b : Int) (hb : rI b) (g : Int) (hg : rI g) (d : Int) (hd : rI d) (hp : wcQ Z q X i) : Met l yX10_root (.code yX10_root cX10_root 5 (some .int) :: zTB) (zRm 5 134) (zPc D cy bs sa N kd len X Y R [.ref (bs + (i)), .int (zI (a)), .int (zI (b)), .int (zI (g)), .int (zI (d))]) (zQi D cy bs N kd len (fun r st => (((st.2.2) = wgR Z q R i (a) (b)) ∧ r = rRoot Z q (a) (b) (g) (d) ∧ qK X (st.1) i))) 0 0 (zA bs) := w_X10_root hC a ha b hb g hg d hd (v_X10_root a ha b hb g hg d hd hp)
abbrev cX10_twice : ByteArray := prog_1_method_33_code
def yX10_twice : MethodName := ⟨RX10, "twice", "(IIIII)I"⟩
theorem dX10_twice_0 : decode cX10_twice 0 = .ok (.aload_n 0, 1) := by decide +kernel
theorem dX10_twice_1 : decode cX10_twice 1 = .ok (.iload_n 1, 1) := by decide +kernel
theorem dX10_twice_2 : decode cX10_twice 2 = .ok (.iload_n 2, 1) := by decide +kernel
theorem dX10_twice_3 : decode cX10_twice 3 = .ok (.iload_n 3, 1) := by decide +kernel
theorem dX10_twice_4 : decode cX10_twice 4 = .ok (.invokevirtual 326, 3) := by decide +kernel
theorem dX10_twice_7 : decode cX10_twice 7 = .ok (.ifCond .ne 7, 3) := by decide +kernel
theorem dX10_twice_10 : decode cX10_twice 10 = .ok (.sipush (-9999), 3) := by decide +kernel
theorem dX10_twice_13 : decode cX10_twice 13 = .ok (.ireturn, 1) := by decide +kernel
theorem dX10_twice_14 : decode cX10_twice 14 = .ok (.aload_n 0, 1) := by decide +kernel
theorem dX10_twice_15 : decode cX10_twice 15 = .ok (.getfield 34, 3) := by decide +kernel
theorem dX10_twice_18 : decode cX10_twice 18 = .ok (.iload 4, 2) := by decide +kernel
theorem dX10_twice_20 : decode cX10_twice 20 = .ok (.invokevirtual 295, 3) := by decide +kernel
theorem dX10_twice_23 : decode cX10_twice 23 = .ok (.ifCond .eq 15, 3) := by decide +kernel
theorem dX10_twice_26 : decode cX10_twice 26 = .ok (.aload_n 0, 1) := by decide +kernel
theorem dX10_twice_27 : decode cX10_twice 27 = .ok (.getfield 34, 3) := by decide +kernel
theorem dX10_twice_30 : decode cX10_twice 30 = .ok (.iload 5, 2) := by decide +kernel
theorem dX10_twice_32 : decode cX10_twice 32 = .ok (.invokevirtual 295, 3) := by decide +kernel
theorem dX10_twice_35 : decode cX10_twice 35 = .ok (.ifCond .ne 7, 3) := by decide +kernel
theorem dX10_twice_38 : decode cX10_twice 38 = .ok (.sipush (-9999), 3) := by decide +kernel
theorem dX10_twice_41 : decode cX10_twice 41 = .ok (.ireturn, 1) := by decide +kernel
theorem dX10_twice_42 : decode cX10_twice 42 = .ok (.aload_n 0, 1) := by decide +kernel
theorem dX10_twice_43 : decode cX10_twice 43 = .ok (.getfield 34, 3) := by decide +kernel
theorem dX10_twice_46 : decode cX10_twice 46 = .ok (.getfield 251, 3) := by decide +kernel
theorem dX10_twice_49 : decode cX10_twice 49 = .ok (.iload 4, 2) := by decide +kernel
theorem dX10_twice_51 : decode cX10_twice 51 = .ok (.aaload, 1) := by decide +kernel
theorem dX10_twice_52 : decode cX10_twice 52 = .ok (.getfield 255, 3) := by decide +kernel
theorem dX10_twice_55 : decode cX10_twice 55 = .ok (.iload_n 3, 1) := by decide +kernel
theorem dX10_twice_56 : decode cX10_twice 56 = .ok (.iaload, 1) := by decide +kernel
theorem dX10_twice_57 : decode cX10_twice 57 = .ok (.aload_n 0, 1) := by decide +kernel
theorem dX10_twice_58 : decode cX10_twice 58 = .ok (.getfield 34, 3) := by decide +kernel
theorem dX10_twice_61 : decode cX10_twice 61 = .ok (.getfield 251, 3) := by decide +kernel
theorem dX10_twice_64 : decode cX10_twice 64 = .ok (.iload 5, 2) := by decide +kernel
theorem dX10_twice_66 : decode cX10_twice 66 = .ok (.aaload, 1) := by decide +kernel
theorem dX10_twice_67 : decode cX10_twice 67 = .ok (.getfield 255, 3) := by decide +kernel
theorem dX10_twice_70 : decode cX10_twice 70 = .ok (.iload_n 3, 1) := by decide +kernel
theorem dX10_twice_71 : decode cX10_twice 71 = .ok (.iaload, 1) := by decide +kernel
theorem dX10_twice_72 : decode cX10_twice 72 = .ok (.isub, 1) := by decide +kernel
theorem dX10_twice_73 : decode cX10_twice 73 = .ok (.ireturn, 1) := by decide +kernel
theorem q_1089 : Cond.methodLink RX10 326 yX10_weighFor ∈ zTB := zmem 1089 (by decide +kernel) rfl
theorem q_1091 : Cond.instanceMethod yX10_weighFor ∈ zTB := zmem 1091 (by decide +kernel) rfl
theorem q_26 : Cond.selects RX10 yX10_weighFor yX10_weighFor ∈ zTB := zmem 26 (by decide +kernel) rfl
theorem q_1092 : Cond.code yX10_weighFor cX10_weighFor 4 (some .boolean) ∈ zTB := zmem 1092 (by decide +kernel) rfl
theorem k_RX10_326 : zLv RX10 326 RX10 yX10_weighFor cX10_weighFor 4 (some .boolean) 3 := ⟨⟨q_1089, q_1091, q_26, q_129, q_1092⟩, rfl, ⟨by decide, by decide⟩, by decide +kernel⟩
def F_X10_twice (i : Nat) (Z : Nat → Int → Int) (q : Nat) (X Y : Nat → Int → Int) (R : Nat → Int → Option Nat) (a : Int) (b : Int) (g : Int) (d : Int) (f : Int) : Prop := (∀ i j, rI (X i j)) → (∀ i j, rL (Y i j)) → (wcQ Z q X i) ∧ (∀ r5 : Bool, ∀ X2 : Nat → Int → Int, (∀ i j, rI (X2 i j)) → ∀ Y3 : Nat → Int → Int, (∀ i j, rL (Y3 i j)) → ∀ R4 : Nat → Int → Option Nat, (((R4) = wgR Z q R i (a) (b)) ∧ r5 = (rOk Z q (a) (b) && mIn (g) 0 (Z (q + 6) (13 * (a) + 6) - 1)) ∧ qK X (X2) i ∧ (r5 = true → cA (hZ Z q (a) (b) 0) q (X2) (Y3) (R4) (i + 157) ∧ (X2) (cn (R4) (i + 157)) 3 = hZ Z q (a) (b) 0 q 28)) → (((r5 = true) → ((X2 (i + 157) 2 ≤ 14) ∧ ((((soE X2 (i + 157) (d)) = false) → (((R4) = wgR Z q R i (a) (b)) ∧ (-9999) = rTwice Z q (a) (b) (g) (d) (f) ∧ qK X (X2) i)) ∧ (((soE X2 (i + 157) (d)) = true) → ((X2 (i + 157) 2 ≤ 14) ∧ ((((soE X2 (i + 157) (f)) = true) → ((0 ≤ d ∧ d < 15) ∧ ((0 ≤ g ∧ g < 6) ∧ ((0 ≤ f ∧ f < 15) ∧ ((0 ≤ g ∧ g < 6) ∧ ((rI ((X2 (i + 174 + 2 * (d : Int).toNat + 1) (g)) - (X2 (i + 174 + 2 * (f : Int).toNat + 1) (g)))) ∧ (((R4) = wgR Z q R i (a) (b)) ∧ ((X2 (i + 174 + 2 * (d : Int).toNat + 1) (g)) - (X2 (i + 174 + 2 * (f : Int).toNat + 1) (g))) = rTwice Z q (a) (b) (g) (d) (f) ∧ qK X (X2) i))))))) ∧ (((soE X2 (i + 157) (f)) = false) → (((R4) = wgR Z q R i (a) (b)) ∧ (-9999) = rTwice Z q (a) (b) (g) (d) (f) ∧ qK X (X2) i)))))))) ∧ ((r5 = false) → (((R4) = wgR Z q R i (a) (b)) ∧ (-9999) = rTwice Z q (a) (b) (g) (d) (f) ∧ qK X (X2) i))))
set_option maxHeartbeats 4000000 in
set_option maxRecDepth 100000 in
theorem w_X10_twice {l : Launch} {D : va_G} {cy : Nat → ClassId} {bs N : Nat} {sa : Nat → Nat} {kd len : Nat → Nat} {X Y : Nat → Int → Int} {R : Nat → Int → Option Nat} {i : Nat} {Z : Nat → Int → Int} {q : Nat} (hC : zWC N kd len R i) (a : Int) (ha : rI a) (b : Int) (hb : rI b) (g : Int) (hg : rI g) (d : Int) (hd : rI d) (f : Int) (hf : rI f) (hF : F_X10_twice i Z q X Y R a b g d f) : Met l yX10_twice (.code yX10_twice cX10_twice 6 (some .int) :: zTB) (zRm 6 157) (zPc D cy bs sa N kd len X Y R [.ref (bs + (i)), .int (zI (a)), .int (zI (b)), .int (zI (g)), .int (zI (d)), .int (zI (f))]) (zQi D cy bs N kd len (fun r st => (((st.2.2) = wgR Z q R i (a) (b)) ∧ r = rTwice Z q (a) (b) (g) (d) (f) ∧ qK X (st.1) i))) 0 0 (zA bs) := by
  refine zstart (by decide) (Nat.le_of_ble_eq_true rfl) ?_
  intro p e s m args below meth c ls C hE hH hr hlk hnm hl hargs
  have hF := hF hH.2.2.1 hH.2.2.2
  have hS : va_S (zA bs) s.heap s.heap [] := va_S.rf
  have hl : lv_has ls 6 [(0, .ref (bs + (i))), (1, .int (zI (a))), (2, .int (zI (b))), (3, .int (zI (g))), (4, .int (zI (d))), (5, .int (zI (f)))] := hl
  refine lv_aload_n C.1 C.2.1 dX10_twice_0 rfl (lv_at hl 0 rfl) ?_
  refine lv_iload_n C.1 C.2.1 dX10_twice_1 rfl (lv_at hl 1 rfl) ?_
  refine lv_iload_n C.1 C.2.1 dX10_twice_2 rfl (lv_at hl 2 rfl) ?_
  refine lv_iload_n C.1 C.2.1 dX10_twice_3 rfl (lv_at hl 3 rfl) ?_
  obtain ⟨o1, hF⟩ := hF
  refine zgoi (zrunV (As := [.int (zI (a)), .int (zI (b)), .int (zI (g))]) (rest := []) C hE hH hS hl.1 (c_X10_weighFor (l := l) hC (a) ha (b) hb (g) hg o1) k_RX10_326 ⟨Nat.le_of_ble_eq_true rfl, Nat.le_of_ble_eq_true rfl⟩ (zW_n hC) (zW_k hC) rfl rfl rfl (Nat.le_of_ble_eq_true rfl) dX10_twice_4 ⟨Nat.zero_le _, Nat.zero_le _⟩) hS (fun rq X2 Y3 R4 H locs hrq hq hH hS => ?_)
  obtain ⟨r5, h91, hq⟩ := hq
  subst h91
  have hF := hF r5 X2 hH.2.2.1 Y3 hH.2.2.2 R4 hq
  have hC := zWC_wg hC hq.1
  refine zd_ifB_ne C 14 dX10_twice_7 (by decide) (fun c6 => ?_) (fun c6 => ?_)
  · have hF := hF.1 c6
    refine lv_aload_n C.1 C.2.1 dX10_twice_14 rfl (lv_at hl 0 rfl) ?_
    refine zg10_4 C hH (zW_n hC) (zW_k hC) q_573 (zW_lw hC).1 dX10_twice_15 ?_
    refine lv_iload C.1 C.2.1 dX10_twice_18 (lv_at hl 4 rfl) ?_
    obtain ⟨o7, hF⟩ := hF
    refine zgoi (zrunV (As := [.int (zI (d))]) (rest := []) C hE hH hS hl.1 (c_X1_isSound (l := l) (zW_lw hC).2.2.2.1.1 (d) hd o7) k_RX10_295 ⟨Nat.le_of_ble_eq_true rfl, Nat.le_of_ble_eq_true rfl⟩ (zChart_n0 (zW_lw hC).2.2.2.1.1) (zChart_k0 (zW_lw hC).2.2.2.1.1) rfl rfl rfl (Nat.le_of_ble_eq_true rfl) dX10_twice_20 ⟨Nat.zero_le _, Nat.zero_le _⟩) hS (fun rq Xq Yq Rq H locs hrq hq hH hS => ?_)
    obtain ⟨h91, h92⟩ := hq
    have h93 : Xq = X2 := congrArg (fun z => z.1) h92
    have h94 : Yq = Y3 := congrArg (fun z => z.2.1) h92
    have h95 : Rq = R4 := congrArg (fun z => z.2.2) h92
    rw [h93, h94, h95] at hH
    subst h91
    refine zd_ifB_eq C 38 dX10_twice_23 (by decide) (fun c8 => ?_) (fun c8 => ?_)
    · have hF := hF.1 c8
      refine zd_sipush C (by decide) dX10_twice_38 ?_
      exact zd_iret C hr hlk hH hS (by decide) (hF) dX10_twice_41
    · have hF := hF.2 c8
      refine lv_aload_n C.1 C.2.1 dX10_twice_26 rfl (lv_at hl 0 rfl) ?_
      refine zg10_4 C hH (zW_n hC) (zW_k hC) q_573 (zW_lw hC).1 dX10_twice_27 ?_
      refine lv_iload C.1 C.2.1 dX10_twice_30 (lv_at hl 5 rfl) ?_
      obtain ⟨o9, hF⟩ := hF
      refine zgoi (zrunV (As := [.int (zI (f))]) (rest := []) C hE hH hS hl.1 (c_X1_isSound (l := l) (zW_lw hC).2.2.2.1.1 (f) hf o9) k_RX10_295 ⟨Nat.le_of_ble_eq_true rfl, Nat.le_of_ble_eq_true rfl⟩ (zChart_n0 (zW_lw hC).2.2.2.1.1) (zChart_k0 (zW_lw hC).2.2.2.1.1) rfl rfl rfl (Nat.le_of_ble_eq_true rfl) dX10_twice_32 ⟨Nat.zero_le _, Nat.zero_le _⟩) hS (fun rq Xq Yq Rq H locs hrq hq hH hS => ?_)
      obtain ⟨h91, h92⟩ := hq
      have h93 : Xq = X2 := congrArg (fun z => z.1) h92
      have h94 : Yq = Y3 := congrArg (fun z => z.2.1) h92
      have h95 : Rq = R4 := congrArg (fun z => z.2.2) h92
      rw [h93, h94, h95] at hH
      subst h91
      refine zd_ifB_ne C 42 dX10_twice_35 (by decide) (fun c10 => ?_) (fun c10 => ?_)
      · have hF := hF.1 c10
        refine lv_aload_n C.1 C.2.1 dX10_twice_42 rfl (lv_at hl 0 rfl) ?_
        refine zg10_4 C hH (zW_n hC) (zW_k hC) q_573 (zW_lw hC).1 dX10_twice_43 ?_
        refine zg1_9 C hH (zChart_n0 (zW_lw hC).2.2.2.1.1) (zChart_k0 (zW_lw hC).2.2.2.1.1) q_414 (zChart_r14 (zW_lw hC).2.2.2.1.1) dX10_twice_46 ?_
        refine lv_iload C.1 C.2.1 dX10_twice_49 (lv_at hl 4 rfl) ?_
        obtain ⟨o11, hF⟩ := hF
        refine zd_aaldr C hH (zChart_n14 (zW_lw hC).2.2.2.1.1) 5 rfl rfl (by rw [(zChart_k14 (zW_lw hC).2.2.2.1.1)]; rfl) o11.1 (by rw [zChart_l14 (zW_lw hC).2.2.2.1.1]; exact o11.2) (by rw [zChart_l14 (zW_lw hC).2.2.2.1.1]; decide) (zChart_lg (zW_lw hC).2.2.2.1.1 o11.1 o11.2).1 dX10_twice_51 ?_
        refine zg5_1 C hH (zLedger_n0 (zChart_lg (zW_lw hC).2.2.2.1.1 o11.1 o11.2).2) (zLedger_k0 (zChart_lg (zW_lw hC).2.2.2.1.1 o11.1 o11.2).2) q_385 (zLedger_r1 (zChart_lg (zW_lw hC).2.2.2.1.1 o11.1 o11.2).2) dX10_twice_52 ?_
        refine lv_iload_n C.1 C.2.1 dX10_twice_55 rfl (lv_at hl 3 rfl) ?_
        obtain ⟨o12, hF⟩ := hF
        refine zd_iald C hH (zLedger_n1 (zChart_lg (zW_lw hC).2.2.2.1.1 o11.1 o11.2).2) (zLedger_k1 (zChart_lg (zW_lw hC).2.2.2.1.1 o11.1 o11.2).2) o12.1 (by rw [zLedger_l1 (zChart_lg (zW_lw hC).2.2.2.1.1 o11.1 o11.2).2]; exact o12.2) (by rw [zLedger_l1 (zChart_lg (zW_lw hC).2.2.2.1.1 o11.1 o11.2).2]; decide) dX10_twice_56 ?_
        refine lv_aload_n C.1 C.2.1 dX10_twice_57 rfl (lv_at hl 0 rfl) ?_
        refine zg10_4 C hH (zW_n hC) (zW_k hC) q_573 (zW_lw hC).1 dX10_twice_58 ?_
        refine zg1_9 C hH (zChart_n0 (zW_lw hC).2.2.2.1.1) (zChart_k0 (zW_lw hC).2.2.2.1.1) q_414 (zChart_r14 (zW_lw hC).2.2.2.1.1) dX10_twice_61 ?_
        refine lv_iload C.1 C.2.1 dX10_twice_64 (lv_at hl 5 rfl) ?_
        obtain ⟨o13, hF⟩ := hF
        refine zd_aaldr C hH (zChart_n14 (zW_lw hC).2.2.2.1.1) 5 rfl rfl (by rw [(zChart_k14 (zW_lw hC).2.2.2.1.1)]; rfl) o13.1 (by rw [zChart_l14 (zW_lw hC).2.2.2.1.1]; exact o13.2) (by rw [zChart_l14 (zW_lw hC).2.2.2.1.1]; decide) (zChart_lg (zW_lw hC).2.2.2.1.1 o13.1 o13.2).1 dX10_twice_66 ?_
        refine zg5_1 C hH (zLedger_n0 (zChart_lg (zW_lw hC).2.2.2.1.1 o13.1 o13.2).2) (zLedger_k0 (zChart_lg (zW_lw hC).2.2.2.1.1 o13.1 o13.2).2) q_385 (zLedger_r1 (zChart_lg (zW_lw hC).2.2.2.1.1 o13.1 o13.2).2) dX10_twice_67 ?_
        refine lv_iload_n C.1 C.2.1 dX10_twice_70 rfl (lv_at hl 3 rfl) ?_
        obtain ⟨o14, hF⟩ := hF
        refine zd_iald C hH (zLedger_n1 (zChart_lg (zW_lw hC).2.2.2.1.1 o13.1 o13.2).2) (zLedger_k1 (zChart_lg (zW_lw hC).2.2.2.1.1 o13.1 o13.2).2) o14.1 (by rw [zLedger_l1 (zChart_lg (zW_lw hC).2.2.2.1.1 o13.1 o13.2).2]; exact o14.2) (by rw [zLedger_l1 (zChart_lg (zW_lw hC).2.2.2.1.1 o13.1 o13.2).2]; decide) dX10_twice_71 ?_
        refine zd_isub C dX10_twice_72 ?_
        obtain ⟨o15, hF⟩ := hF
        exact zd_iret C hr hlk hH hS o15 (hF) dX10_twice_73
      · have hF := hF.2 c10
        refine zd_sipush C (by decide) dX10_twice_38 ?_
        exact zd_iret C hr hlk hH hS (by decide) (hF) dX10_twice_41
  · have hF := hF.2 c6
    refine zd_sipush C (by decide) dX10_twice_10 ?_
    exact zd_iret C hr hlk hH hS (by decide) (hF) dX10_twice_13
theorem v_X10_twice {X Y : Nat → Int → Int} {R : Nat → Int → Option Nat} {i : Nat} {Z : Nat → Int → Int} {q : Nat} (a : Int) (ha : rI a) (b : Int) (hb : rI b) (g : Int) (hg : rI g) (d : Int) (hd : rI d) (f : Int) (hf : rI f) (hp : wcQ Z q X i) : F_X10_twice i Z q X Y R a b g d f := by
  unfold F_X10_twice
  intro hX hY
  refine ⟨?_, ?_⟩
  · exact hp
  intro r5
  intro X2
  intro rX2
  intro Y3
  intro rY3
  intro R4
  intro h1
  obtain ⟨eR, er, hk, ht⟩ := h1
  refine ⟨?_, ?_⟩
  · intro c1
    obtain ⟨hA, h3⟩ := ht c1
    have e := er.symm.trans c1
    have l := cA_l hA
    have a6 := cA_a hA
    have e27 := hz_27 (Z := Z) (q := q) (n := a) (c := b) (f := 0)
    have e26 := hz_26 (Z := Z) (q := q) (n := a) (c := b) (f := 0)
    rw [Bool.and_eq_true, mIn_t] at e
    have cT := cA_so hA d
    have cF := cA_so hA f
    refine ⟨?_, ?_⟩
    · first | omega | exact ⟨by omega, by omega⟩ | decide | assumption | exact ⟨by omega, by omega, by omega⟩ | exact ⟨by decide, by decide⟩
    refine ⟨?_, ?_⟩
    · intro c2
      rw [cT] at c2
      refine ⟨eR, ?_, hk⟩
      unfold rTwice
      rw [if_neg]
      intro z
      simp only [Bool.and_eq_true, mIn_t] at z
      rw [z.2.2.2.2.1, decide_eq_true (show 0 ≤ d ∧ d < hZ Z q a b 0 q 27 by omega)] at c2
      exact absurd c2 (by decide)
    intro c3
    rw [cT, Bool.and_eq_true, decide_eq_true_eq] at c3
    obtain ⟨dn, rfl⟩ := nat_of c3.1.1
    have ed : ((dn : Nat) : Int).toNat = dn := by omega
    refine ⟨?_, ?_⟩
    · first | omega | exact ⟨by omega, by omega⟩ | decide | assumption | exact ⟨by omega, by omega, by omega⟩ | exact ⟨by decide, by decide⟩
    refine ⟨?_, ?_⟩
    · intro c4
      rw [cF, Bool.and_eq_true, decide_eq_true_eq] at c4
      obtain ⟨fn, rfl⟩ := nat_of c4.1.1
      have ef : ((fn : Nat) : Int).toNat = fn := by omega
      rw [ed, ef]
      rw [ed] at c3
      rw [ef] at c4
      have l1 := cA_ld hA c3.1.2 c3.2
      have l2 := cA_ld hA c4.1.2 c4.2
      have v1 : X2 (i + 174 + 2 * dn + 1) g = rLd (hZ Z q a b 0) q dn g := l1.2.1 g e.2.1 (by omega)
      have v2 : X2 (i + 174 + 2 * fn + 1) g = rLd (hZ Z q a b 0) q fn g := l2.2.1 g e.2.1 (by omega)
      have w1 := l1.2.2 g e.2.1 (by omega)
      have w2 := l2.2.2 g e.2.1 (by omega)
      have w1 : 0 ≤ X2 (i + 174 + 2 * dn + 1) g ∧ X2 (i + 174 + 2 * dn + 1) g ≤ 99 + 396 * dn := w1
      have w2 : 0 ≤ X2 (i + 174 + 2 * fn + 1) g ∧ X2 (i + 174 + 2 * fn + 1) g ≤ 99 + 396 * fn := w2
      refine ⟨?_, ?_⟩
      · first | omega | exact ⟨by omega, by omega⟩ | decide | assumption | exact ⟨by omega, by omega, by omega⟩ | exact ⟨by decide, by decide⟩
      refine ⟨?_, ?_⟩
      · first | omega | exact ⟨by omega, by omega⟩ | decide | assumption | exact ⟨by omega, by omega, by omega⟩ | exact ⟨by decide, by decide⟩
      refine ⟨?_, ?_⟩
      · first | omega | exact ⟨by omega, by omega⟩ | decide | assumption | exact ⟨by omega, by omega, by omega⟩ | exact ⟨by decide, by decide⟩
      refine ⟨?_, ?_⟩
      · first | omega | exact ⟨by omega, by omega⟩ | decide | assumption | exact ⟨by omega, by omega, by omega⟩ | exact ⟨by decide, by decide⟩
      refine ⟨?_, ?_⟩
      · exact ⟨by omega, by omega⟩
      refine ⟨eR, ?_, hk⟩
      unfold rTwice
      rw [e.1, mIn_t.mpr (show 0 ≤ g ∧ g ≤ Z (q + 6) (13 * a + 6) - 1 by omega), mIn_t.mpr (show 0 ≤ (dn : Int) ∧ (dn : Int) ≤ qN Z q b by omega), mIn_t.mpr (show 0 ≤ (fn : Int) ∧ (fn : Int) ≤ qN Z q b by omega), ed, ef, c3.2, c4.2, v1, v2]
      rfl
    intro c5
    rw [cF] at c5
    refine ⟨eR, ?_, hk⟩
    unfold rTwice
    rw [if_neg]
    intro z
    simp only [Bool.and_eq_true, mIn_t] at z
    rw [z.2.2.2.2.2, decide_eq_true (show 0 ≤ f ∧ f < hZ Z q a b 0 q 27 by omega)] at c5
    exact absurd c5 (by decide)
  intro c6
  refine ⟨eR, ?_, hk⟩
  have e := er.symm.trans c6
  unfold rTwice
  rw [if_neg]
  intro z
  have z1 : rOk Z q a b = true := (Bool.and_eq_true_iff.mp z).1
  have z2 := (Bool.and_eq_true_iff.mp (Bool.and_eq_true_iff.mp z).2).1
  rw [z1, z2] at e
  exact absurd e (by decide)
theorem c_X10_twice {l : Launch} {D : va_G} {cy : Nat → ClassId} {bs N : Nat} {sa : Nat → Nat} {kd len : Nat → Nat} {X Y : Nat → Int → Int} {R : Nat → Int → Option Nat} {i : Nat} {Z : Nat → Int → Int} {q : Nat} (hC : zWC N kd len R i) (a : Int) (ha : rI a) (b : Int) (hb : rI b) (g : Int) (hg : rI g) (d : Int) (hd : rI d) (f : Int) (hf : rI f) (hp : wcQ Z q X i) : Met l yX10_twice (.code yX10_twice cX10_twice 6 (some .int) :: zTB) (zRm 6 157) (zPc D cy bs sa N kd len X Y R [.ref (bs + (i)), .int (zI (a)), .int (zI (b)), .int (zI (g)), .int (zI (d)), .int (zI (f))]) (zQi D cy bs N kd len (fun r st => (((st.2.2) = wgR Z q R i (a) (b)) ∧ r = rTwice Z q (a) (b) (g) (d) (f) ∧ qK X (st.1) i))) 0 0 (zA bs) := w_X10_twice hC a ha b hb g hg d hd f hf (v_X10_twice a ha b hb g hg d hd f hf hp)
abbrev cX10_gain : ByteArray := prog_1_method_32_code
def yX10_gain : MethodName := ⟨RX10, "gain", "(IIII)I"⟩
theorem dX10_gain_0 : decode cX10_gain 0 = .ok (.aload_n 0, 1) := by decide +kernel
theorem dX10_gain_1 : decode cX10_gain 1 = .ok (.iload_n 1, 1) := by decide +kernel
theorem dX10_gain_2 : decode cX10_gain 2 = .ok (.iload_n 2, 1) := by decide +kernel
theorem dX10_gain_3 : decode cX10_gain 3 = .ok (.iload_n 3, 1) := by decide +kernel
theorem dX10_gain_4 : decode cX10_gain 4 = .ok (.invokevirtual 326, 3) := by decide +kernel
theorem dX10_gain_7 : decode cX10_gain 7 = .ok (.ifCond .ne 5, 3) := by decide +kernel
theorem dX10_gain_10 : decode cX10_gain 10 = .ok (.iconst (-1), 1) := by decide +kernel
theorem dX10_gain_11 : decode cX10_gain 11 = .ok (.ireturn, 1) := by decide +kernel
theorem dX10_gain_12 : decode cX10_gain 12 = .ok (.iconst 0, 1) := by decide +kernel
theorem dX10_gain_13 : decode cX10_gain 13 = .ok (.istore 5, 2) := by decide +kernel
theorem dX10_gain_15 : decode cX10_gain 15 = .ok (.iconst 0, 1) := by decide +kernel
theorem dX10_gain_16 : decode cX10_gain 16 = .ok (.istore 6, 2) := by decide +kernel
theorem dX10_gain_18 : decode cX10_gain 18 = .ok (.iconst 0, 1) := by decide +kernel
theorem dX10_gain_19 : decode cX10_gain 19 = .ok (.istore 7, 2) := by decide +kernel
theorem dX10_gain_21 : decode cX10_gain 21 = .ok (.iload 7, 2) := by decide +kernel
theorem dX10_gain_23 : decode cX10_gain 23 = .ok (.aload_n 0, 1) := by decide +kernel
theorem dX10_gain_24 : decode cX10_gain 24 = .ok (.getfield 34, 3) := by decide +kernel
theorem dX10_gain_27 : decode cX10_gain 27 = .ok (.getfield 322, 3) := by decide +kernel
theorem dX10_gain_30 : decode cX10_gain 30 = .ok (.if_icmp .gt 77, 3) := by decide +kernel
theorem dX10_gain_33 : decode cX10_gain 33 = .ok (.aload_n 0, 1) := by decide +kernel
theorem dX10_gain_34 : decode cX10_gain 34 = .ok (.getfield 34, 3) := by decide +kernel
theorem dX10_gain_37 : decode cX10_gain 37 = .ok (.iload 7, 2) := by decide +kernel
theorem dX10_gain_39 : decode cX10_gain 39 = .ok (.invokevirtual 295, 3) := by decide +kernel
theorem dX10_gain_42 : decode cX10_gain 42 = .ok (.ifCond .ne 6, 3) := by decide +kernel
theorem dX10_gain_45 : decode cX10_gain 45 = .ok (.goto 56, 3) := by decide +kernel
theorem dX10_gain_48 : decode cX10_gain 48 = .ok (.aload_n 0, 1) := by decide +kernel
theorem dX10_gain_49 : decode cX10_gain 49 = .ok (.getfield 34, 3) := by decide +kernel
theorem dX10_gain_52 : decode cX10_gain 52 = .ok (.getfield 251, 3) := by decide +kernel
theorem dX10_gain_55 : decode cX10_gain 55 = .ok (.iload 7, 2) := by decide +kernel
theorem dX10_gain_57 : decode cX10_gain 57 = .ok (.aaload, 1) := by decide +kernel
theorem dX10_gain_58 : decode cX10_gain 58 = .ok (.getfield 255, 3) := by decide +kernel
theorem dX10_gain_61 : decode cX10_gain 61 = .ok (.iload_n 3, 1) := by decide +kernel
theorem dX10_gain_62 : decode cX10_gain 62 = .ok (.iaload, 1) := by decide +kernel
theorem dX10_gain_63 : decode cX10_gain 63 = .ok (.aload_n 0, 1) := by decide +kernel
theorem dX10_gain_64 : decode cX10_gain 64 = .ok (.getfield 34, 3) := by decide +kernel
theorem dX10_gain_67 : decode cX10_gain 67 = .ok (.getfield 251, 3) := by decide +kernel
theorem dX10_gain_70 : decode cX10_gain 70 = .ok (.iload 5, 2) := by decide +kernel
theorem dX10_gain_72 : decode cX10_gain 72 = .ok (.aaload, 1) := by decide +kernel
theorem dX10_gain_73 : decode cX10_gain 73 = .ok (.getfield 255, 3) := by decide +kernel
theorem dX10_gain_76 : decode cX10_gain 76 = .ok (.iload_n 3, 1) := by decide +kernel
theorem dX10_gain_77 : decode cX10_gain 77 = .ok (.iaload, 1) := by decide +kernel
theorem dX10_gain_78 : decode cX10_gain 78 = .ok (.isub, 1) := by decide +kernel
theorem dX10_gain_79 : decode cX10_gain 79 = .ok (.istore 8, 2) := by decide +kernel
theorem dX10_gain_81 : decode cX10_gain 81 = .ok (.iload 8, 2) := by decide +kernel
theorem dX10_gain_83 : decode cX10_gain 83 = .ok (.ifCond .le 10, 3) := by decide +kernel
theorem dX10_gain_86 : decode cX10_gain 86 = .ok (.iload 7, 2) := by decide +kernel
theorem dX10_gain_88 : decode cX10_gain 88 = .ok (.istore 5, 2) := by decide +kernel
theorem dX10_gain_90 : decode cX10_gain 90 = .ok (.iconst 0, 1) := by decide +kernel
theorem dX10_gain_91 : decode cX10_gain 91 = .ok (.istore 6, 2) := by decide +kernel
theorem dX10_gain_93 : decode cX10_gain 93 = .ok (.iload 8, 2) := by decide +kernel
theorem dX10_gain_95 : decode cX10_gain 95 = .ok (.ifCond .lt 6, 3) := by decide +kernel
theorem dX10_gain_98 : decode cX10_gain 98 = .ok (.iinc 6 1, 3) := by decide +kernel
theorem dX10_gain_101 : decode cX10_gain 101 = .ok (.iinc 7 1, 3) := by decide +kernel
theorem dX10_gain_104 : decode cX10_gain 104 = .ok (.goto (-83), 3) := by decide +kernel
theorem dX10_gain_107 : decode cX10_gain 107 = .ok (.iload 4, 2) := by decide +kernel
theorem dX10_gain_109 : decode cX10_gain 109 = .ok (.tableswitch 49 0 2 #[27, 30, 46], 27) := by decide +kernel
theorem dX10_gain_136 : decode cX10_gain 136 = .ok (.iload 5, 2) := by decide +kernel
theorem dX10_gain_138 : decode cX10_gain 138 = .ok (.ireturn, 1) := by decide +kernel
theorem dX10_gain_139 : decode cX10_gain 139 = .ok (.aload_n 0, 1) := by decide +kernel
theorem dX10_gain_140 : decode cX10_gain 140 = .ok (.getfield 34, 3) := by decide +kernel
theorem dX10_gain_143 : decode cX10_gain 143 = .ok (.getfield 251, 3) := by decide +kernel
theorem dX10_gain_146 : decode cX10_gain 146 = .ok (.iload 5, 2) := by decide +kernel
theorem dX10_gain_148 : decode cX10_gain 148 = .ok (.aaload, 1) := by decide +kernel
theorem dX10_gain_149 : decode cX10_gain 149 = .ok (.getfield 255, 3) := by decide +kernel
theorem dX10_gain_152 : decode cX10_gain 152 = .ok (.iload_n 3, 1) := by decide +kernel
theorem dX10_gain_153 : decode cX10_gain 153 = .ok (.iaload, 1) := by decide +kernel
theorem dX10_gain_154 : decode cX10_gain 154 = .ok (.ireturn, 1) := by decide +kernel
theorem dX10_gain_155 : decode cX10_gain 155 = .ok (.iload 6, 2) := by decide +kernel
theorem dX10_gain_157 : decode cX10_gain 157 = .ok (.ireturn, 1) := by decide +kernel
theorem dX10_gain_158 : decode cX10_gain 158 = .ok (.iconst (-1), 1) := by decide +kernel
theorem dX10_gain_159 : decode cX10_gain 159 = .ok (.ireturn, 1) := by decide +kernel
theorem q_398 : Cond.fieldLink RX10 322 RX1 "last" "I" ∈ zTB := zmem 398 (by decide +kernel) rfl
def F_X10_gain (i : Nat) (Z : Nat → Int → Int) (q : Nat) (X Y : Nat → Int → Int) (R : Nat → Int → Option Nat) (a : Int) (b : Int) (g : Int) (d : Int) : Prop := (∀ i j, rI (X i j)) → (∀ i j, rL (Y i j)) → (wcQ Z q X i) ∧ (∀ r5 : Bool, ∀ X2 : Nat → Int → Int, (∀ i j, rI (X2 i j)) → ∀ Y3 : Nat → Int → Int, (∀ i j, rL (Y3 i j)) → ∀ R4 : Nat → Int → Option Nat, (((R4) = wgR Z q R i (a) (b)) ∧ r5 = (rOk Z q (a) (b) && mIn (g) 0 (Z (q + 6) (13 * (a) + 6) - 1)) ∧ qK X (X2) i ∧ (r5 = true → cA (hZ Z q (a) (b) 0) q (X2) (Y3) (R4) (i + 157) ∧ (X2) (cn (R4) (i + 157)) 3 = hZ Z q (a) (b) 0 q 28)) → (((r5 = true) → (((0 ≤ (0 : Int) ∧ (0 : Int) ≤ hZ Z q a b 0 q 27) ∧ (((0 : Int), (0 : Int)) : Int × Int) = ((((gaN (sdf (hZ Z q a b 0) q) (fun e => rLd (hZ Z q a b 0) q e g) ((0 : Int)).toNat).1 : Nat) : Int), (gaN (sdf (hZ Z q a b 0) q) (fun e => rLd (hZ Z q a b 0) q e g) ((0 : Int)).toNat).2)) ∧ (∀ (u : Int) (v : Int) (k : Int), rI u → rI v → rI k → ((0 ≤ k ∧ k ≤ hZ Z q a b 0 q 27) ∧ ((u, v) : Int × Int) = ((((gaN (sdf (hZ Z q a b 0) q) (fun e => rLd (hZ Z q a b 0) q e g) (k).toNat).1 : Nat) : Int), (gaN (sdf (hZ Z q a b 0) q) (fun e => rLd (hZ Z q a b 0) q e g) (k).toNat).2)) → ((((X2 (i + 157) 2) < k) → ((d = 0 → (((R4) = wgR Z q R i (a) (b)) ∧ u = rGain Z q (a) (b) (g) (d) ∧ qK X (X2) i)) ∧ (d = 1 → ((0 ≤ u ∧ u < 15) ∧ ((0 ≤ g ∧ g < 6) ∧ (((R4) = wgR Z q R i (a) (b)) ∧ (X2 (i + 174 + 2 * (u : Int).toNat + 1) (g)) = rGain Z q (a) (b) (g) (d) ∧ qK X (X2) i)))) ∧ (d = 2 → (((R4) = wgR Z q R i (a) (b)) ∧ v = rGain Z q (a) (b) (g) (d) ∧ qK X (X2) i)) ∧ ((d < 0 ∨ 2 < d) → (((R4) = wgR Z q R i (a) (b)) ∧ (-1) = rGain Z q (a) (b) (g) (d) ∧ qK X (X2) i)))) ∧ ((¬ ((X2 (i + 157) 2) < k)) → ((X2 (i + 157) 2 ≤ 14) ∧ ((((soE X2 (i + 157) (k)) = true) → ((0 ≤ k ∧ k < 15) ∧ ((0 ≤ g ∧ g < 6) ∧ ((0 ≤ u ∧ u < 15) ∧ ((0 ≤ g ∧ g < 6) ∧ ((rI ((X2 (i + 174 + 2 * (k : Int).toNat + 1) (g)) - (X2 (i + 174 + 2 * (u : Int).toNat + 1) (g)))) ∧ (((((X2 (i + 174 + 2 * (k : Int).toNat + 1) (g)) - (X2 (i + 174 + 2 * (u : Int).toNat + 1) (g))) ≤ 0) → (((((X2 (i + 174 + 2 * (k : Int).toNat + 1) (g)) - (X2 (i + 174 + 2 * (u : Int).toNat + 1) (g))) < 0) → ((rI (k + 1)) ∧ ((0 ≤ (k + 1) ∧ (k + 1) ≤ hZ Z q a b 0 q 27) ∧ ((u, v) : Int × Int) = ((((gaN (sdf (hZ Z q a b 0) q) (fun e => rLd (hZ Z q a b 0) q e g) ((k + 1)).toNat).1 : Nat) : Int), (gaN (sdf (hZ Z q a b 0) q) (fun e => rLd (hZ Z q a b 0) q e g) ((k + 1)).toNat).2)) ∧ (((20 - (k + 1)).toNat) < ((20 - (k)).toNat)))) ∧ ((¬ (((X2 (i + 174 + 2 * (k : Int).toNat + 1) (g)) - (X2 (i + 174 + 2 * (u : Int).toNat + 1) (g))) < 0)) → ((rI (v + 1)) ∧ (rI (k + 1)) ∧ ((0 ≤ (k + 1) ∧ (k + 1) ≤ hZ Z q a b 0 q 27) ∧ ((u, (v + 1)) : Int × Int) = ((((gaN (sdf (hZ Z q a b 0) q) (fun e => rLd (hZ Z q a b 0) q e g) ((k + 1)).toNat).1 : Nat) : Int), (gaN (sdf (hZ Z q a b 0) q) (fun e => rLd (hZ Z q a b 0) q e g) ((k + 1)).toNat).2)) ∧ (((20 - (k + 1)).toNat) < ((20 - (k)).toNat)))))) ∧ ((¬ (((X2 (i + 174 + 2 * (k : Int).toNat + 1) (g)) - (X2 (i + 174 + 2 * (u : Int).toNat + 1) (g))) ≤ 0)) → (((((X2 (i + 174 + 2 * (k : Int).toNat + 1) (g)) - (X2 (i + 174 + 2 * (u : Int).toNat + 1) (g))) < 0) → ((rI (k + 1)) ∧ ((0 ≤ (k + 1) ∧ (k + 1) ≤ hZ Z q a b 0 q 27) ∧ ((k, (0 : Int)) : Int × Int) = ((((gaN (sdf (hZ Z q a b 0) q) (fun e => rLd (hZ Z q a b 0) q e g) ((k + 1)).toNat).1 : Nat) : Int), (gaN (sdf (hZ Z q a b 0) q) (fun e => rLd (hZ Z q a b 0) q e g) ((k + 1)).toNat).2)) ∧ (((20 - (k + 1)).toNat) < ((20 - (k)).toNat)))) ∧ ((¬ (((X2 (i + 174 + 2 * (k : Int).toNat + 1) (g)) - (X2 (i + 174 + 2 * (u : Int).toNat + 1) (g))) < 0)) → ((rI (0 + 1)) ∧ (rI (k + 1)) ∧ ((0 ≤ (k + 1) ∧ (k + 1) ≤ hZ Z q a b 0 q 27) ∧ ((k, (0 + 1)) : Int × Int) = ((((gaN (sdf (hZ Z q a b 0) q) (fun e => rLd (hZ Z q a b 0) q e g) ((k + 1)).toNat).1 : Nat) : Int), (gaN (sdf (hZ Z q a b 0) q) (fun e => rLd (hZ Z q a b 0) q e g) ((k + 1)).toNat).2)) ∧ (((20 - (k + 1)).toNat) < ((20 - (k)).toNat))))))))))))) ∧ (((soE X2 (i + 157) (k)) = false) → ((rI (k + 1)) ∧ ((0 ≤ (k + 1) ∧ (k + 1) ≤ hZ Z q a b 0 q 27) ∧ ((u, v) : Int × Int) = ((((gaN (sdf (hZ Z q a b 0) q) (fun e => rLd (hZ Z q a b 0) q e g) ((k + 1)).toNat).1 : Nat) : Int), (gaN (sdf (hZ Z q a b 0) q) (fun e => rLd (hZ Z q a b 0) q e g) ((k + 1)).toNat).2)) ∧ (((20 - (k + 1)).toNat) < ((20 - (k)).toNat))))))))))) ∧ ((r5 = false) → (((R4) = wgR Z q R i (a) (b)) ∧ (-1) = rGain Z q (a) (b) (g) (d) ∧ qK X (X2) i))))
set_option maxHeartbeats 4000000 in
set_option maxRecDepth 100000 in
theorem w_X10_gain {l : Launch} {D : va_G} {cy : Nat → ClassId} {bs N : Nat} {sa : Nat → Nat} {kd len : Nat → Nat} {X Y : Nat → Int → Int} {R : Nat → Int → Option Nat} {i : Nat} {Z : Nat → Int → Int} {q : Nat} (hC : zWC N kd len R i) (a : Int) (ha : rI a) (b : Int) (hb : rI b) (g : Int) (hg : rI g) (d : Int) (hd : rI d) (hF : F_X10_gain i Z q X Y R a b g d) : Met l yX10_gain (.code yX10_gain cX10_gain 9 (some .int) :: zTB) (zRm 6 157) (zPc D cy bs sa N kd len X Y R [.ref (bs + (i)), .int (zI (a)), .int (zI (b)), .int (zI (g)), .int (zI (d))]) (zQi D cy bs N kd len (fun r st => (((st.2.2) = wgR Z q R i (a) (b)) ∧ r = rGain Z q (a) (b) (g) (d) ∧ qK X (st.1) i))) 0 0 (zA bs) := by
  refine zstart (by decide) (Nat.le_of_ble_eq_true rfl) ?_
  intro p e s m args below meth c ls C hE hH hr hlk hnm hl hargs
  have hF := hF hH.2.2.1 hH.2.2.2
  have hS : va_S (zA bs) s.heap s.heap [] := va_S.rf
  have hl : lv_has ls 9 [(0, .ref (bs + (i))), (1, .int (zI (a))), (2, .int (zI (b))), (3, .int (zI (g))), (4, .int (zI (d)))] := hl
  refine lv_aload_n C.1 C.2.1 dX10_gain_0 rfl (lv_at hl 0 rfl) ?_
  refine lv_iload_n C.1 C.2.1 dX10_gain_1 rfl (lv_at hl 1 rfl) ?_
  refine lv_iload_n C.1 C.2.1 dX10_gain_2 rfl (lv_at hl 2 rfl) ?_
  refine lv_iload_n C.1 C.2.1 dX10_gain_3 rfl (lv_at hl 3 rfl) ?_
  obtain ⟨o1, hF⟩ := hF
  refine zgoi (zrunV (As := [.int (zI (a)), .int (zI (b)), .int (zI (g))]) (rest := []) C hE hH hS hl.1 (c_X10_weighFor (l := l) hC (a) ha (b) hb (g) hg o1) k_RX10_326 ⟨Nat.le_of_ble_eq_true rfl, Nat.le_of_ble_eq_true rfl⟩ (zW_n hC) (zW_k hC) rfl rfl rfl (Nat.le_of_ble_eq_true rfl) dX10_gain_4 ⟨Nat.zero_le _, Nat.zero_le _⟩) hS (fun rq X2 Y3 R4 H locs hrq hq hH hS => ?_)
  obtain ⟨r5, h91, hq⟩ := hq
  subst h91
  have hF := hF r5 X2 hH.2.2.1 Y3 hH.2.2.2 R4 hq
  have hC := zWC_wg hC hq.1
  refine zd_ifB_ne C 12 dX10_gain_7 (by decide) (fun c6 => ?_) (fun c6 => ?_)
  · have hF := hF.1 c6
    refine zd_iconst C dX10_gain_12 ?_
    refine lv_istore (lv' := [(5, .int (zI (0))), (0, .ref (bs + (i))), (1, .int (zI (a))), (2, .int (zI (b))), (3, .int (zI (g))), (4, .int (zI (d)))]) C.1 C.2.1 dX10_gain_13 hl (by decide) rfl (fun ls hl => ?_)
    refine zd_iconst C dX10_gain_15 ?_
    refine lv_istore (lv' := [(6, .int (zI (0))), (5, .int (zI (0))), (0, .ref (bs + (i))), (1, .int (zI (a))), (2, .int (zI (b))), (3, .int (zI (g))), (4, .int (zI (d)))]) C.1 C.2.1 dX10_gain_16 hl (by decide) rfl (fun ls hl => ?_)
    refine zd_iconst C dX10_gain_18 ?_
    refine lv_istore (lv' := [(7, .int (zI (0))), (6, .int (zI (0))), (5, .int (zI (0))), (0, .ref (bs + (i))), (1, .int (zI (a))), (2, .int (zI (b))), (3, .int (zI (g))), (4, .int (zI (d)))]) C.1 C.2.1 dX10_gain_19 hl (by decide) rfl (fun ls hl => ?_)
    obtain ⟨hI7, hF⟩ := hF
    have L7 : ∀ (fu : Nat) (u : Int) (v : Int) (k : Int), rI u → rI v → rI k → ((0 ≤ k ∧ k ≤ hZ Z q a b 0 q 27) ∧ ((u, v) : Int × Int) = ((((gaN (sdf (hZ Z q a b 0) q) (fun e => rLd (hZ Z q a b 0) q e g) (k).toNat).1 : Nat) : Int), (gaN (sdf (hZ Z q a b 0) q) (fun e => rLd (hZ Z q a b 0) q e g) (k).toNat).2)) → ((20 - (k)).toNat) < fu → ∀ (H : Heap) (locs : List Loc) (ls : Array Slot), zH D cy bs N kd len X2 Y3 R4 H → va_S (zA bs) s.heap H locs → lv_has ls 9 [(5, .int (zI (u))), (6, .int (zI (v))), (7, .int (zI (k))), (0, .ref (bs + (i))), (1, .int (zI (a))), (2, .int (zI (b))), (3, .int (zI (g))), (4, .int (zI (d)))] → W p l e (zRm 6 157) s m args below meth c H locs 0 0 (MQ below (zQi D cy bs N kd len (fun r st => (((st.2.2) = wgR Z q R i (a) (b)) ∧ r = rGain Z q (a) (b) (g) (d) ∧ qK X (st.1) i))) args s 0 0 (zA bs)) (F0 m 21 ls []) := by
      intro fu
      induction fu with
      | zero => intro u v k _ _ _ _ hmu; exact absurd hmu (Nat.not_lt_zero _)
      | succ fu ih7 =>
        intro u v k hu hv hk hI hmu7 H locs ls hH hS hl
        have hF := hF u v k hu hv hk  hI
        refine lv_iload C.1 C.2.1 dX10_gain_21 (lv_at hl 2 rfl) ?_
        refine lv_aload_n C.1 C.2.1 dX10_gain_23 rfl (lv_at hl 3 rfl) ?_
        refine zg10_4 C hH (zW_n hC) (zW_k hC) q_573 (zW_lw hC).1 dX10_gain_24 ?_
        refine zg1_2 C hH (zChart_n0 (zW_lw hC).2.2.2.1.1) (zChart_k0 (zW_lw hC).2.2.2.1.1) q_398 dX10_gain_27 ?_
        refine zd_icmp_gt C hk (hH.2.2.1 _ _) 107 dX10_gain_30 (by decide) (fun c8 => ?_) (fun c8 => ?_)
        · have hF := hF.1 c8
          refine lv_iload C.1 C.2.1 dX10_gain_107 (lv_at hl 7 rfl) ?_
          by_cases c9_0 : d = 0
          · have hF := hF.1 c9_0
            refine zd_tabI C hd 136 (0) c9_0 dX10_gain_109 (by decide) (by decide) rfl (by decide) ?_
            refine lv_iload C.1 C.2.1 dX10_gain_136 (lv_at hl 0 rfl) ?_
            exact zd_iret C hr hlk hH hS hu (hF) dX10_gain_138
          · have hF := hF.2
            by_cases c9_1 : d = 1
            · have hF := hF.1 c9_1
              refine zd_tabI C hd 139 (1) c9_1 dX10_gain_109 (by decide) (by decide) rfl (by decide) ?_
              refine lv_aload_n C.1 C.2.1 dX10_gain_139 rfl (lv_at hl 3 rfl) ?_
              refine zg10_4 C hH (zW_n hC) (zW_k hC) q_573 (zW_lw hC).1 dX10_gain_140 ?_
              refine zg1_9 C hH (zChart_n0 (zW_lw hC).2.2.2.1.1) (zChart_k0 (zW_lw hC).2.2.2.1.1) q_414 (zChart_r14 (zW_lw hC).2.2.2.1.1) dX10_gain_143 ?_
              refine lv_iload C.1 C.2.1 dX10_gain_146 (lv_at hl 0 rfl) ?_
              obtain ⟨o10, hF⟩ := hF
              refine zd_aaldr C hH (zChart_n14 (zW_lw hC).2.2.2.1.1) 5 rfl rfl (by rw [(zChart_k14 (zW_lw hC).2.2.2.1.1)]; rfl) o10.1 (by rw [zChart_l14 (zW_lw hC).2.2.2.1.1]; exact o10.2) (by rw [zChart_l14 (zW_lw hC).2.2.2.1.1]; decide) (zChart_lg (zW_lw hC).2.2.2.1.1 o10.1 o10.2).1 dX10_gain_148 ?_
              refine zg5_1 C hH (zLedger_n0 (zChart_lg (zW_lw hC).2.2.2.1.1 o10.1 o10.2).2) (zLedger_k0 (zChart_lg (zW_lw hC).2.2.2.1.1 o10.1 o10.2).2) q_385 (zLedger_r1 (zChart_lg (zW_lw hC).2.2.2.1.1 o10.1 o10.2).2) dX10_gain_149 ?_
              refine lv_iload_n C.1 C.2.1 dX10_gain_152 rfl (lv_at hl 6 rfl) ?_
              obtain ⟨o11, hF⟩ := hF
              refine zd_iald C hH (zLedger_n1 (zChart_lg (zW_lw hC).2.2.2.1.1 o10.1 o10.2).2) (zLedger_k1 (zChart_lg (zW_lw hC).2.2.2.1.1 o10.1 o10.2).2) o11.1 (by rw [zLedger_l1 (zChart_lg (zW_lw hC).2.2.2.1.1 o10.1 o10.2).2]; exact o11.2) (by rw [zLedger_l1 (zChart_lg (zW_lw hC).2.2.2.1.1 o10.1 o10.2).2]; decide) dX10_gain_153 ?_
              exact zd_iret C hr hlk hH hS (hH.2.2.1 _ _) (hF) dX10_gain_154
            · have hF := hF.2
              by_cases c9_2 : d = 2
              · have hF := hF.1 c9_2
                refine zd_tabI C hd 155 (2) c9_2 dX10_gain_109 (by decide) (by decide) rfl (by decide) ?_
                refine lv_iload C.1 C.2.1 dX10_gain_155 (lv_at hl 1 rfl) ?_
                exact zd_iret C hr hlk hH hS hv (hF) dX10_gain_157
              · have hF := hF.2
                have c9 := tsw_0_2 (d) c9_0 c9_1 c9_2
                have hF := hF c9
                refine zd_tabO C hd 158 c9 dX10_gain_109 (by decide) ?_
                refine zd_iconst C dX10_gain_158 ?_
                exact zd_iret C hr hlk hH hS (by decide) (hF) dX10_gain_159
        · have hF := hF.2 c8
          refine lv_aload_n C.1 C.2.1 dX10_gain_33 rfl (lv_at hl 3 rfl) ?_
          refine zg10_4 C hH (zW_n hC) (zW_k hC) q_573 (zW_lw hC).1 dX10_gain_34 ?_
          refine lv_iload C.1 C.2.1 dX10_gain_37 (lv_at hl 2 rfl) ?_
          obtain ⟨o12, hF⟩ := hF
          refine zgoi (zrunV (As := [.int (zI (k))]) (rest := []) C hE hH hS hl.1 (c_X1_isSound (l := l) (zW_lw hC).2.2.2.1.1 (k) hk o12) k_RX10_295 ⟨Nat.le_of_ble_eq_true rfl, Nat.le_of_ble_eq_true rfl⟩ (zChart_n0 (zW_lw hC).2.2.2.1.1) (zChart_k0 (zW_lw hC).2.2.2.1.1) rfl rfl rfl (Nat.le_of_ble_eq_true rfl) dX10_gain_39 ⟨Nat.zero_le _, Nat.zero_le _⟩) hS (fun rq Xq Yq Rq H locs hrq hq hH hS => ?_)
          obtain ⟨h91, h92⟩ := hq
          have h93 : Xq = X2 := congrArg (fun z => z.1) h92
          have h94 : Yq = Y3 := congrArg (fun z => z.2.1) h92
          have h95 : Rq = R4 := congrArg (fun z => z.2.2) h92
          rw [h93, h94, h95] at hH
          subst h91
          refine zd_ifB_ne C 48 dX10_gain_42 (by decide) (fun c13 => ?_) (fun c13 => ?_)
          · have hF := hF.1 c13
            refine lv_aload_n C.1 C.2.1 dX10_gain_48 rfl (lv_at hl 3 rfl) ?_
            refine zg10_4 C hH (zW_n hC) (zW_k hC) q_573 (zW_lw hC).1 dX10_gain_49 ?_
            refine zg1_9 C hH (zChart_n0 (zW_lw hC).2.2.2.1.1) (zChart_k0 (zW_lw hC).2.2.2.1.1) q_414 (zChart_r14 (zW_lw hC).2.2.2.1.1) dX10_gain_52 ?_
            refine lv_iload C.1 C.2.1 dX10_gain_55 (lv_at hl 2 rfl) ?_
            obtain ⟨o14, hF⟩ := hF
            refine zd_aaldr C hH (zChart_n14 (zW_lw hC).2.2.2.1.1) 5 rfl rfl (by rw [(zChart_k14 (zW_lw hC).2.2.2.1.1)]; rfl) o14.1 (by rw [zChart_l14 (zW_lw hC).2.2.2.1.1]; exact o14.2) (by rw [zChart_l14 (zW_lw hC).2.2.2.1.1]; decide) (zChart_lg (zW_lw hC).2.2.2.1.1 o14.1 o14.2).1 dX10_gain_57 ?_
            refine zg5_1 C hH (zLedger_n0 (zChart_lg (zW_lw hC).2.2.2.1.1 o14.1 o14.2).2) (zLedger_k0 (zChart_lg (zW_lw hC).2.2.2.1.1 o14.1 o14.2).2) q_385 (zLedger_r1 (zChart_lg (zW_lw hC).2.2.2.1.1 o14.1 o14.2).2) dX10_gain_58 ?_
            refine lv_iload_n C.1 C.2.1 dX10_gain_61 rfl (lv_at hl 6 rfl) ?_
            obtain ⟨o15, hF⟩ := hF
            refine zd_iald C hH (zLedger_n1 (zChart_lg (zW_lw hC).2.2.2.1.1 o14.1 o14.2).2) (zLedger_k1 (zChart_lg (zW_lw hC).2.2.2.1.1 o14.1 o14.2).2) o15.1 (by rw [zLedger_l1 (zChart_lg (zW_lw hC).2.2.2.1.1 o14.1 o14.2).2]; exact o15.2) (by rw [zLedger_l1 (zChart_lg (zW_lw hC).2.2.2.1.1 o14.1 o14.2).2]; decide) dX10_gain_62 ?_
            refine lv_aload_n C.1 C.2.1 dX10_gain_63 rfl (lv_at hl 3 rfl) ?_
            refine zg10_4 C hH (zW_n hC) (zW_k hC) q_573 (zW_lw hC).1 dX10_gain_64 ?_
            refine zg1_9 C hH (zChart_n0 (zW_lw hC).2.2.2.1.1) (zChart_k0 (zW_lw hC).2.2.2.1.1) q_414 (zChart_r14 (zW_lw hC).2.2.2.1.1) dX10_gain_67 ?_
            refine lv_iload C.1 C.2.1 dX10_gain_70 (lv_at hl 0 rfl) ?_
            obtain ⟨o16, hF⟩ := hF
            refine zd_aaldr C hH (zChart_n14 (zW_lw hC).2.2.2.1.1) 5 rfl rfl (by rw [(zChart_k14 (zW_lw hC).2.2.2.1.1)]; rfl) o16.1 (by rw [zChart_l14 (zW_lw hC).2.2.2.1.1]; exact o16.2) (by rw [zChart_l14 (zW_lw hC).2.2.2.1.1]; decide) (zChart_lg (zW_lw hC).2.2.2.1.1 o16.1 o16.2).1 dX10_gain_72 ?_
            refine zg5_1 C hH (zLedger_n0 (zChart_lg (zW_lw hC).2.2.2.1.1 o16.1 o16.2).2) (zLedger_k0 (zChart_lg (zW_lw hC).2.2.2.1.1 o16.1 o16.2).2) q_385 (zLedger_r1 (zChart_lg (zW_lw hC).2.2.2.1.1 o16.1 o16.2).2) dX10_gain_73 ?_
            refine lv_iload_n C.1 C.2.1 dX10_gain_76 rfl (lv_at hl 6 rfl) ?_
            obtain ⟨o17, hF⟩ := hF
            refine zd_iald C hH (zLedger_n1 (zChart_lg (zW_lw hC).2.2.2.1.1 o16.1 o16.2).2) (zLedger_k1 (zChart_lg (zW_lw hC).2.2.2.1.1 o16.1 o16.2).2) o17.1 (by rw [zLedger_l1 (zChart_lg (zW_lw hC).2.2.2.1.1 o16.1 o16.2).2]; exact o17.2) (by rw [zLedger_l1 (zChart_lg (zW_lw hC).2.2.2.1.1 o16.1 o16.2).2]; decide) dX10_gain_77 ?_
            refine zd_isub C dX10_gain_78 ?_
            refine lv_istore (lv' := [(8, .int (zI ((X2 (i + 174 + 2 * (k : Int).toNat + 1) (g)) - (X2 (i + 174 + 2 * (u : Int).toNat + 1) (g))))), (5, .int (zI (u))), (6, .int (zI (v))), (7, .int (zI (k))), (0, .ref (bs + (i))), (1, .int (zI (a))), (2, .int (zI (b))), (3, .int (zI (g))), (4, .int (zI (d)))]) C.1 C.2.1 dX10_gain_79 hl (by decide) rfl (fun ls hl => ?_)
            refine lv_iload C.1 C.2.1 dX10_gain_81 (lv_at hl 0 rfl) ?_
            obtain ⟨o19, hF⟩ := hF
            refine zd_if_le C o19 93 dX10_gain_83 (by decide) (fun c18 => ?_) (fun c18 => ?_)
            · have hF := hF.1 c18
              refine lv_iload C.1 C.2.1 dX10_gain_93 (lv_at hl 0 rfl) ?_
              refine zd_if_lt C o19 101 dX10_gain_95 (by decide) (fun c20 => ?_) (fun c20 => ?_)
              · have hF := hF.1 c20
                refine zd_iinc (k := 3) (lv' := [(7, .int (zI (k + 1))), (8, .int (zI ((X2 (i + 174 + 2 * (k : Int).toNat + 1) (g)) - (X2 (i + 174 + 2 * (u : Int).toNat + 1) (g))))), (5, .int (zI (u))), (6, .int (zI (v))), (0, .ref (bs + (i))), (1, .int (zI (a))), (2, .int (zI (b))), (3, .int (zI (g))), (4, .int (zI (d)))]) C hl rfl dX10_gain_101 (by decide) rfl (fun ls hl => ?_)
                refine lv_goto (tgt := 21) C.1 C.2.1 dX10_gain_104 (by decide) ?_
                obtain ⟨o21, hF⟩ := hF
                exact ih7 (u) (v) (k + 1) hu hv o21 hF.1 (Nat.lt_of_lt_of_le hF.2 (Nat.le_of_lt_succ hmu7)) _ _ _ hH hS (lv_sub hl [2, 3, 0, 4, 5, 6, 7, 8] rfl)
              · have hF := hF.2 c20
                refine zd_iinc (k := 2) (lv' := [(6, .int (zI (v + 1))), (8, .int (zI ((X2 (i + 174 + 2 * (k : Int).toNat + 1) (g)) - (X2 (i + 174 + 2 * (u : Int).toNat + 1) (g))))), (5, .int (zI (u))), (7, .int (zI (k))), (0, .ref (bs + (i))), (1, .int (zI (a))), (2, .int (zI (b))), (3, .int (zI (g))), (4, .int (zI (d)))]) C hl rfl dX10_gain_98 (by decide) rfl (fun ls hl => ?_)
                refine zd_iinc (k := 3) (lv' := [(7, .int (zI (k + 1))), (6, .int (zI (v + 1))), (8, .int (zI ((X2 (i + 174 + 2 * (k : Int).toNat + 1) (g)) - (X2 (i + 174 + 2 * (u : Int).toNat + 1) (g))))), (5, .int (zI (u))), (0, .ref (bs + (i))), (1, .int (zI (a))), (2, .int (zI (b))), (3, .int (zI (g))), (4, .int (zI (d)))]) C hl rfl dX10_gain_101 (by decide) rfl (fun ls hl => ?_)
                refine lv_goto (tgt := 21) C.1 C.2.1 dX10_gain_104 (by decide) ?_
                obtain ⟨o22, hF⟩ := hF
                obtain ⟨o23, hF⟩ := hF
                exact ih7 (u) (v + 1) (k + 1) hu o22 o23 hF.1 (Nat.lt_of_lt_of_le hF.2 (Nat.le_of_lt_succ hmu7)) _ _ _ hH hS (lv_sub hl [3, 1, 0, 4, 5, 6, 7, 8] rfl)
            · have hF := hF.2 c18
              refine lv_iload C.1 C.2.1 dX10_gain_86 (lv_at hl 3 rfl) ?_
              refine lv_istore (lv' := [(5, .int (zI (k))), (8, .int (zI ((X2 (i + 174 + 2 * (k : Int).toNat + 1) (g)) - (X2 (i + 174 + 2 * (u : Int).toNat + 1) (g))))), (6, .int (zI (v))), (7, .int (zI (k))), (0, .ref (bs + (i))), (1, .int (zI (a))), (2, .int (zI (b))), (3, .int (zI (g))), (4, .int (zI (d)))]) C.1 C.2.1 dX10_gain_88 hl (by decide) rfl (fun ls hl => ?_)
              refine zd_iconst C dX10_gain_90 ?_
              refine lv_istore (lv' := [(6, .int (zI (0))), (5, .int (zI (k))), (8, .int (zI ((X2 (i + 174 + 2 * (k : Int).toNat + 1) (g)) - (X2 (i + 174 + 2 * (u : Int).toNat + 1) (g))))), (7, .int (zI (k))), (0, .ref (bs + (i))), (1, .int (zI (a))), (2, .int (zI (b))), (3, .int (zI (g))), (4, .int (zI (d)))]) C.1 C.2.1 dX10_gain_91 hl (by decide) rfl (fun ls hl => ?_)
              refine lv_iload C.1 C.2.1 dX10_gain_93 (lv_at hl 2 rfl) ?_
              refine zd_if_lt C o19 101 dX10_gain_95 (by decide) (fun c24 => ?_) (fun c24 => ?_)
              · have hF := hF.1 c24
                refine zd_iinc (k := 3) (lv' := [(7, .int (zI (k + 1))), (6, .int (zI (0))), (5, .int (zI (k))), (8, .int (zI ((X2 (i + 174 + 2 * (k : Int).toNat + 1) (g)) - (X2 (i + 174 + 2 * (u : Int).toNat + 1) (g))))), (0, .ref (bs + (i))), (1, .int (zI (a))), (2, .int (zI (b))), (3, .int (zI (g))), (4, .int (zI (d)))]) C hl rfl dX10_gain_101 (by decide) rfl (fun ls hl => ?_)
                refine lv_goto (tgt := 21) C.1 C.2.1 dX10_gain_104 (by decide) ?_
                obtain ⟨o25, hF⟩ := hF
                exact ih7 (k) ((0 : Int)) (k + 1) hk (by decide) o25 hF.1 (Nat.lt_of_lt_of_le hF.2 (Nat.le_of_lt_succ hmu7)) _ _ _ hH hS (lv_sub hl [2, 1, 0, 4, 5, 6, 7, 8] rfl)
              · have hF := hF.2 c24
                refine zd_iinc (k := 0) (lv' := [(6, .int (zI (0 + 1))), (5, .int (zI (k))), (8, .int (zI ((X2 (i + 174 + 2 * (k : Int).toNat + 1) (g)) - (X2 (i + 174 + 2 * (u : Int).toNat + 1) (g))))), (7, .int (zI (k))), (0, .ref (bs + (i))), (1, .int (zI (a))), (2, .int (zI (b))), (3, .int (zI (g))), (4, .int (zI (d)))]) C hl rfl dX10_gain_98 (by decide) rfl (fun ls hl => ?_)
                refine zd_iinc (k := 3) (lv' := [(7, .int (zI (k + 1))), (6, .int (zI (0 + 1))), (5, .int (zI (k))), (8, .int (zI ((X2 (i + 174 + 2 * (k : Int).toNat + 1) (g)) - (X2 (i + 174 + 2 * (u : Int).toNat + 1) (g))))), (0, .ref (bs + (i))), (1, .int (zI (a))), (2, .int (zI (b))), (3, .int (zI (g))), (4, .int (zI (d)))]) C hl rfl dX10_gain_101 (by decide) rfl (fun ls hl => ?_)
                refine lv_goto (tgt := 21) C.1 C.2.1 dX10_gain_104 (by decide) ?_
                obtain ⟨o26, hF⟩ := hF
                obtain ⟨o27, hF⟩ := hF
                exact ih7 (k) (0 + 1) (k + 1) hk o26 o27 hF.1 (Nat.lt_of_lt_of_le hF.2 (Nat.le_of_lt_succ hmu7)) _ _ _ hH hS (lv_sub hl [2, 1, 0, 4, 5, 6, 7, 8] rfl)
          · have hF := hF.2 c13
            refine lv_goto (tgt := 101) C.1 C.2.1 dX10_gain_45 (by decide) ?_
            refine zd_iinc (k := 2) (lv' := [(7, .int (zI (k + 1))), (5, .int (zI (u))), (6, .int (zI (v))), (0, .ref (bs + (i))), (1, .int (zI (a))), (2, .int (zI (b))), (3, .int (zI (g))), (4, .int (zI (d)))]) C hl rfl dX10_gain_101 (by decide) rfl (fun ls hl => ?_)
            refine lv_goto (tgt := 21) C.1 C.2.1 dX10_gain_104 (by decide) ?_
            obtain ⟨o28, hF⟩ := hF
            exact ih7 (u) (v) (k + 1) hu hv o28 hF.1 (Nat.lt_of_lt_of_le hF.2 (Nat.le_of_lt_succ hmu7)) _ _ _ hH hS (lv_sub hl [1, 2, 0, 3, 4, 5, 6, 7] rfl)
    exact L7 (((20 - ((0 : Int))).toNat) + 1) ((0 : Int)) ((0 : Int)) ((0 : Int)) (by decide) (by decide) (by decide) hI7 (Nat.lt_succ_self _) _ _ _ hH hS (lv_sub hl [2, 1, 0, 3, 4, 5, 6, 7] rfl)
  · have hF := hF.2 c6
    refine zd_iconst C dX10_gain_10 ?_
    exact zd_iret C hr hlk hH hS (by decide) (hF) dX10_gain_11
theorem v_X10_gain {X Y : Nat → Int → Int} {R : Nat → Int → Option Nat} {i : Nat} {Z : Nat → Int → Int} {q : Nat} (a : Int) (ha : rI a) (b : Int) (hb : rI b) (g : Int) (hg : rI g) (d : Int) (hd : rI d) (hp : wcQ Z q X i) : F_X10_gain i Z q X Y R a b g d := by
  unfold F_X10_gain
  intro hX hY
  refine ⟨?_, ?_⟩
  · exact hp
  intro r5
  intro X2
  intro rX2
  intro Y3
  intro rY3
  intro R4
  intro h1
  obtain ⟨eR, er, hk, ht⟩ := h1
  refine ⟨?_, ?_⟩
  · intro c1
    obtain ⟨hA, h3⟩ := ht c1
    have e := er.symm.trans c1
    have l := cA_l hA
    have a6 := cA_a hA
    have e27 := hz_27 (Z := Z) (q := q) (n := a) (c := b) (f := 0)
    have e26 := hz_26 (Z := Z) (q := q) (n := a) (c := b) (f := 0)
    rw [Bool.and_eq_true, mIn_t] at e
    refine ⟨?_, ?_⟩
    · exact ⟨by omega, rfl⟩
    intro u v k
    intro _
    intro _
    intro _
    intro h2
    obtain ⟨⟨k1, k2⟩, hr⟩ := h2
    obtain ⟨kn, rfl⟩ := nat_of (show 0 ≤ k by omega)
    have e0 : ((kn : Nat) : Int).toNat = kn := by omega
    rw [e0] at hr
    have hu : u = ((gaN (sdf (hZ Z q a b 0) q) (fun e => rLd (hZ Z q a b 0) q e g)  kn).1 : Nat) := congrArg Prod.fst hr
    have hv9 : v = (gaN (sdf (hZ Z q a b 0) q) (fun e => rLd (hZ Z q a b 0) q e g)  kn).2 := congrArg Prod.snd hr
    have gk := gaN_k (L := fun e => rLd (hZ Z q a b 0) q e g) (sdf_0 (X := hZ Z q a b 0) (i := q)) kn
    refine ⟨?_, ?_⟩
    · intro c2
      refine ⟨?_, ?_⟩
      · intro c3
        have E : rGain Z q a b g d = (if d = 0 then ((gaN (sdf (hZ Z q a b 0) q) (fun e => rLd (hZ Z q a b 0) q e g)  kn).1 : Int) else if d = 1 then rLd (hZ Z q a b 0) q (gaN (sdf (hZ Z q a b 0) q) (fun e => rLd (hZ Z q a b 0) q e g)  kn).1 g else (gaN (sdf (hZ Z q a b 0) q) (fun e => rLd (hZ Z q a b 0) q e g)  kn).2) := by
          unfold rGain
          rw [e.1, mIn_t.mpr (show 0 ≤ g ∧ g ≤ Z (q + 6) (13 * a + 6) - 1 by omega), mIn_t.mpr (show 0 ≤ d ∧ d ≤ 2 by omega), show (hZ Z q a b 0 q 27).toNat = kn by omega]
          rfl
        exact ⟨eR, by rw [E, if_pos c3]; exact hu, hk⟩
      refine ⟨?_, ?_⟩
      · intro c4
        refine ⟨?_, ?_⟩
        · first | omega | exact ⟨by omega, by omega⟩ | decide | assumption | exact ⟨by omega, by omega, by omega⟩ | exact ⟨by decide, by decide⟩
        refine ⟨?_, ?_⟩
        · first | omega | exact ⟨by omega, by omega⟩ | decide | assumption | exact ⟨by omega, by omega, by omega⟩ | exact ⟨by decide, by decide⟩
        have E : rGain Z q a b g d = (if d = 0 then ((gaN (sdf (hZ Z q a b 0) q) (fun e => rLd (hZ Z q a b 0) q e g)  kn).1 : Int) else if d = 1 then rLd (hZ Z q a b 0) q (gaN (sdf (hZ Z q a b 0) q) (fun e => rLd (hZ Z q a b 0) q e g)  kn).1 g else (gaN (sdf (hZ Z q a b 0) q) (fun e => rLd (hZ Z q a b 0) q e g)  kn).2) := by
          unfold rGain
          rw [e.1, mIn_t.mpr (show 0 ≤ g ∧ g ≤ Z (q + 6) (13 * a + 6) - 1 by omega), mIn_t.mpr (show 0 ≤ d ∧ d ≤ 2 by omega), show (hZ Z q a b 0 q 27).toNat = kn by omega]
          rfl
        have l2 := cA_ld hA (k := (gaN (sdf (hZ Z q a b 0) q) (fun e => rLd (hZ Z q a b 0) q e g)  kn).1) (by omega) gk.2.1
        refine ⟨eR, ?_, hk⟩
        rw [E, if_neg (by omega), if_pos c4, hu, show ((((gaN (sdf (hZ Z q a b 0) q) (fun e => rLd (hZ Z q a b 0) q e g)  kn).1 : Nat)) : Int).toNat = (gaN (sdf (hZ Z q a b 0) q) (fun e => rLd (hZ Z q a b 0) q e g)  kn).1 by omega]
        exact l2.2.1 g e.2.1 (by omega)
      refine ⟨?_, ?_⟩
      · intro c5
        have E : rGain Z q a b g d = (if d = 0 then ((gaN (sdf (hZ Z q a b 0) q) (fun e => rLd (hZ Z q a b 0) q e g)  kn).1 : Int) else if d = 1 then rLd (hZ Z q a b 0) q (gaN (sdf (hZ Z q a b 0) q) (fun e => rLd (hZ Z q a b 0) q e g)  kn).1 g else (gaN (sdf (hZ Z q a b 0) q) (fun e => rLd (hZ Z q a b 0) q e g)  kn).2) := by
          unfold rGain
          rw [e.1, mIn_t.mpr (show 0 ≤ g ∧ g ≤ Z (q + 6) (13 * a + 6) - 1 by omega), mIn_t.mpr (show 0 ≤ d ∧ d ≤ 2 by omega), show (hZ Z q a b 0 q 27).toNat = kn by omega]
          rfl
        exact ⟨eR, by rw [E, if_neg (by omega), if_neg (by omega)]; exact hv9, hk⟩
      intro c6
      exact ⟨eR, by unfold rGain; rw [mIn_f.mpr (show ¬ (0 ≤ d ∧ d ≤ 2) by omega), Bool.and_false, Bool.and_false]; rfl, hk⟩
    intro c7
    have kl : (kn : Int) < hZ Z q a b 0 q 27 := by omega
    have es : ((kn : Int) + 1).toNat = kn + 1 := by omega
    have st := gaN_s (w := sdf (hZ Z q a b 0) q) (L := fun e => rLd (hZ Z q a b 0) q e g) (q := kn)
    refine ⟨?_, ?_⟩
    · first | omega | exact ⟨by omega, by omega⟩ | decide | assumption | exact ⟨by omega, by omega, by omega⟩ | exact ⟨by decide, by decide⟩
    refine ⟨?_, ?_⟩
    · intro c8
      rw [cA_so hA, Bool.and_eq_true, e0] at c8
      have l1 := cA_ld hA kl c8.2
      have l2 := cA_ld hA (k := (gaN (sdf (hZ Z q a b 0) q) (fun e => rLd (hZ Z q a b 0) q e g)  kn).1) (by omega) gk.2.1
      have v1 : X2 (i + 174 + 2 * kn + 1) g = rLd (hZ Z q a b 0) q kn g := l1.2.1 g e.2.1 (by omega)
      have v2 : X2 (i + 174 + 2 * (gaN (sdf (hZ Z q a b 0) q) (fun e => rLd (hZ Z q a b 0) q e g)  kn).1 + 1) g = rLd (hZ Z q a b 0) q (gaN (sdf (hZ Z q a b 0) q) (fun e => rLd (hZ Z q a b 0) q e g)  kn).1 g := l2.2.1 g e.2.1 (by omega)
      have w1 := l1.2.2 g e.2.1 (by omega)
      have w2 := l2.2.2 g e.2.1 (by omega)
      rw [show i + 157 + 17 + 2 * kn + 1 = i + 174 + 2 * kn + 1 by omega, v1] at w1
      rw [show i + 157 + 17 + 2 * (gaN (sdf (hZ Z q a b 0) q) (fun e => rLd (hZ Z q a b 0) q e g)  kn).1 + 1 = i + 174 + 2 * (gaN (sdf (hZ Z q a b 0) q) (fun e => rLd (hZ Z q a b 0) q e g)  kn).1 + 1 by omega, v2] at w2
      rw [c8.2, if_pos rfl] at st
      rw [hu, hv9, e0, show ((((gaN (sdf (hZ Z q a b 0) q) (fun e => rLd (hZ Z q a b 0) q e g)  kn).1 : Nat)) : Int).toNat = (gaN (sdf (hZ Z q a b 0) q) (fun e => rLd (hZ Z q a b 0) q e g)  kn).1 by omega, v1, v2]
      refine ⟨?_, ?_⟩
      · first | omega | exact ⟨by omega, by omega⟩ | decide | assumption | exact ⟨by omega, by omega, by omega⟩ | exact ⟨by decide, by decide⟩
      refine ⟨?_, ?_⟩
      · first | omega | exact ⟨by omega, by omega⟩ | decide | assumption | exact ⟨by omega, by omega, by omega⟩ | exact ⟨by decide, by decide⟩
      refine ⟨?_, ?_⟩
      · first | omega | exact ⟨by omega, by omega⟩ | decide | assumption | exact ⟨by omega, by omega, by omega⟩ | exact ⟨by decide, by decide⟩
      refine ⟨?_, ?_⟩
      · first | omega | exact ⟨by omega, by omega⟩ | decide | assumption | exact ⟨by omega, by omega, by omega⟩ | exact ⟨by decide, by decide⟩
      refine ⟨?_, ?_⟩
      · exact ⟨by omega, by omega⟩
      refine ⟨?_, ?_⟩
      · intro c9
        refine ⟨?_, ?_⟩
        · intro c10
          rw [if_neg (by omega), if_neg (by omega)] at st
          refine ⟨?_, ?_⟩
          · first | omega | exact ⟨by omega, by omega⟩ | decide | assumption | exact ⟨by omega, by omega, by omega⟩ | exact ⟨by decide, by decide⟩
          refine ⟨?_, ?_⟩
          · exact ⟨by omega, by rw [es, st]⟩
          first | omega | exact ⟨by omega, by omega⟩ | decide | assumption | exact ⟨by omega, by omega, by omega⟩ | exact ⟨by decide, by decide⟩
        intro c11
        rw [if_neg (by omega), if_pos (by omega)] at st
        refine ⟨?_, ?_⟩
        · exact ⟨by omega, by omega⟩
        refine ⟨?_, ?_⟩
        · first | omega | exact ⟨by omega, by omega⟩ | decide | assumption | exact ⟨by omega, by omega, by omega⟩ | exact ⟨by decide, by decide⟩
        refine ⟨?_, ?_⟩
        · exact ⟨by omega, by rw [es, st]⟩
        first | omega | exact ⟨by omega, by omega⟩ | decide | assumption | exact ⟨by omega, by omega, by omega⟩ | exact ⟨by decide, by decide⟩
      intro c12
      refine ⟨?_, ?_⟩
      · intro c13
        exfalso
        omega
      intro c14
      rw [if_pos (by omega)] at st
      refine ⟨?_, ?_⟩
      · first | omega | exact ⟨by omega, by omega⟩ | decide | assumption | exact ⟨by omega, by omega, by omega⟩ | exact ⟨by decide, by decide⟩
      refine ⟨?_, ?_⟩
      · first | omega | exact ⟨by omega, by omega⟩ | decide | assumption | exact ⟨by omega, by omega, by omega⟩ | exact ⟨by decide, by decide⟩
      refine ⟨?_, ?_⟩
      · exact ⟨by omega, by rw [es, st]; rfl⟩
      first | omega | exact ⟨by omega, by omega⟩ | decide | assumption | exact ⟨by omega, by omega, by omega⟩ | exact ⟨by decide, by decide⟩
    intro c15
    rw [cA_so hA, decide_eq_true (show 0 ≤ (kn : Int) ∧ (kn : Int) < hZ Z q a b 0 q 27 by omega), Bool.true_and, e0] at c15
    rw [c15, if_neg (by decide)] at st
    refine ⟨?_, ?_⟩
    · first | omega | exact ⟨by omega, by omega⟩ | decide | assumption | exact ⟨by omega, by omega, by omega⟩ | exact ⟨by decide, by decide⟩
    refine ⟨?_, ?_⟩
    · exact ⟨by omega, by rw [es, st]; exact hr⟩
    first | omega | exact ⟨by omega, by omega⟩ | decide | assumption | exact ⟨by omega, by omega, by omega⟩ | exact ⟨by decide, by decide⟩
  intro c16
  have e := er.symm.trans c16
  refine ⟨eR, ?_, hk⟩
  unfold rGain
  rw [if_neg]
  intro z
  have z1 : rOk Z q a b = true := (Bool.and_eq_true_iff.mp z).1
  have z2 := (Bool.and_eq_true_iff.mp (Bool.and_eq_true_iff.mp z).2).1
  rw [z1, z2] at e
  exact absurd e (by decide)
theorem c_X10_gain {l : Launch} {D : va_G} {cy : Nat → ClassId} {bs N : Nat} {sa : Nat → Nat} {kd len : Nat → Nat} {X Y : Nat → Int → Int} {R : Nat → Int → Option Nat} {i : Nat} {Z : Nat → Int → Int} {q : Nat} (hC : zWC N kd len R i) (a : Int) (ha : rI a) (b : Int) (hb : rI b) (g : Int) (hg : rI g) (d : Int) (hd : rI d) (hp : wcQ Z q X i) : Met l yX10_gain (.code yX10_gain cX10_gain 9 (some .int) :: zTB) (zRm 6 157) (zPc D cy bs sa N kd len X Y R [.ref (bs + (i)), .int (zI (a)), .int (zI (b)), .int (zI (g)), .int (zI (d))]) (zQi D cy bs N kd len (fun r st => (((st.2.2) = wgR Z q R i (a) (b)) ∧ r = rGain Z q (a) (b) (g) (d) ∧ qK X (st.1) i))) 0 0 (zA bs) := w_X10_gain hC a ha b hb g hg d hd (v_X10_gain a ha b hb g hg d hd hp)
