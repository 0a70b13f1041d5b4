/-! LEAVES, ROOT -/
theorem riN_cong {L L' : Int → Int} : ∀ n : Nat, (∀ z : Nat, z < n → L z = L' z) → riN L n = riN L' n
  | 0, _ => rfl
  | q + 1, h => by
    have ih := riN_cong q (fun z hz => h z (by omega))
    have b := riN_b L q
    unfold riN
    rw [← ih, ← h q (by omega)]
    by_cases e : riN L q = -1
    · rw [if_pos (Or.inl e), if_pos (Or.inl e)]
    · have g := h (riN L q).toNat (by omega)
      rw [show (((riN L q).toNat : Nat) : Int) = riN L q by omega] at g
      rw [g]
def lvOf (Z : Nat → Int → Int) (i : Nat) (w : Int) : Int :=
  if w = 0 then bS (fLv (rP Z i) (sdf Z i) (Z i 27).toNat) (Z i 27).toNat else if w = 1 then cN (fFk (rP Z i) (sdf Z i) (Z i 27).toNat) (Z i 27).toNat
  else if w = 2 then ((grN (sdf Z i) (grV Z i false) (Z i 27).toNat : Nat) : Int) else if w = 3 then ((grN (sdf Z i) (grV Z i true) (Z i 27).toNat : Nat) : Int)
  else if w = 4 then zAnd (zShl 1 (Z i 27) - 1) (zXor (bS (sdf Z i) (Z i 27).toNat) (-1)) else if w = 5 then (if flTip Z i (1 - Z i 28) = flTip Z i (Z i 28) then 0 else 1)
  else if w = 6 then (csLt (rCx Z i) (csI (Z i 28)) (Z i 27).toNat).1 9 else if w = 7 then evN (fEv (fLv (rP Z i) (sdf Z i) (Z i 27).toNat) (rG Z i)) (Z i 27).toNat
  else if w = 8 then bS (fTu (rP Z i) (sdf Z i) (rW Z i)) (Z i 27).toNat else if w = 9 then (stN (sdf Z i) (rP Z i) (rW Z i) (Z i 27).toNat).1 else -2
theorem flTip_s {Z X : Nat → Int → Int} {i : Nat} (h : sZ Z X i) (rho : Int) : flTip X i rho = flTip Z i rho := by
  have t := h.1
  unfold flTip mWo
  rw [rP_t t, rW_t t, rG_t t, sdf_t t, t.2.2.2.2.2.1]
theorem grV_s {Z X : Nat → Int → Int} {i : Nat} (h : sZ Z X i) (b : Bool) : grV X i b = grV Z i b := by
  unfold grV
  rw [rW_t h.1, rP_t h.1]
theorem lvOf_s {Z X : Nat → Int → Int} {i : Nat} (h : sZ Z X i) (w : Int) : lvOf X i w = lvOf Z i w := by
  have t := h.1
  unfold lvOf
  rw [rCx_s h, flTip_s h, flTip_s h, grV_s h, grV_s h, h.2.1, rP_t t, rW_t t, rG_t t, sdf_t t, t.2.2.2.2.2.1]
def rLeaves (X : Nat → Int → Int) (i : Nat) (n c w : Int) : Int := if rOk X i n c then lvOf (hZ X i n c 0) i w else -2
def roOf (Z : Nat → Int → Int) (i k : Nat) (w : Int) : Int :=
  if w = 0 then fsN (fun e => mHas (wyP (rP Z i) k) e && !sdf Z i e) (k + 1) 0 else if sdf Z i k then (if 10 ≤ w then (if mIn (w - 10) 0 (Z i 26 - 1) then mOnes (zAnd (wyP (rP Z i) k) (bS (fMd Z i (w - 10)) (Z i 27).toNat)) else -2) else if w = 1 then bS (fUn (rP Z i) (sdf Z i) k) (Z i 27).toNat else if w = 2 then riN (rLd Z i k) (Z i 26).toNat else -2) else -2
theorem roOf_s {Z X : Nat → Int → Int} {i : Nat} (h : sZ Z X i) (k : Nat) (w : Int) : roOf X i k w = roOf Z i k w := by
  have t := h.1
  have e : ∀ a, fMd X i a = fMd Z i a := fun a => by
    funext k
    unfold fMd
    rw [mC_t t]
  unfold roOf
  rw [e, rLd_s h, rP_t t, sdf_t t, t.2.2.2.2.2.1, t.2.2.2.2.1]
def rRoot (X : Nat → Int → Int) (i : Nat) (n c k w : Int) : Int := if rOk X i n c && mIn k 0 (qN X i c) then roOf (hZ X i n c 0) i k.toNat w else -2
abbrev cX11_leaves : ByteArray := prog_13_method_127_code
def yX11_leaves : MethodName := ⟨RX11, "leaves", "(III)I"⟩
theorem dX11_leaves_0 : decode cX11_leaves 0 = .ok (.aload_n 0, 1) := by decide +kernel
theorem dX11_leaves_1 : decode cX11_leaves 1 = .ok (.iconst 0, 1) := by decide +kernel
theorem dX11_leaves_2 : decode cX11_leaves 2 = .ok (.putfield 88, 3) := by decide +kernel
theorem dX11_leaves_5 : decode cX11_leaves 5 = .ok (.aload_n 0, 1) := by decide +kernel
theorem dX11_leaves_6 : decode cX11_leaves 6 = .ok (.iload_n 1, 1) := by decide +kernel
theorem dX11_leaves_7 : decode cX11_leaves 7 = .ok (.iload_n 2, 1) := by decide +kernel
theorem dX11_leaves_8 : decode cX11_leaves 8 = .ok (.invokevirtual 397, 3) := by decide +kernel
theorem dX11_leaves_11 : decode cX11_leaves 11 = .ok (.ifCond .ne 6, 3) := by decide +kernel
theorem dX11_leaves_14 : decode cX11_leaves 14 = .ok (.bipush (-2), 2) := by decide +kernel
theorem dX11_leaves_16 : decode cX11_leaves 16 = .ok (.ireturn, 1) := by decide +kernel
theorem dX11_leaves_17 : decode cX11_leaves 17 = .ok (.iload_n 3, 1) := by decide +kernel
theorem dX11_leaves_18 : decode cX11_leaves 18 = .ok (.tableswitch 120 0 9 #[54, 59, 64, 64, 79, 95, 100, 105, 110, 115], 54) := by decide +kernel
theorem dX11_leaves_72 : decode cX11_leaves 72 = .ok (.aload_n 0, 1) := by decide +kernel
theorem dX11_leaves_73 : decode cX11_leaves 73 = .ok (.invokevirtual 550, 3) := by decide +kernel
theorem dX11_leaves_76 : decode cX11_leaves 76 = .ok (.ireturn, 1) := by decide +kernel
theorem dX11_leaves_77 : decode cX11_leaves 77 = .ok (.aload_n 0, 1) := by decide +kernel
theorem dX11_leaves_78 : decode cX11_leaves 78 = .ok (.invokevirtual 553, 3) := by decide +kernel
theorem dX11_leaves_81 : decode cX11_leaves 81 = .ok (.ireturn, 1) := by decide +kernel
theorem dX11_leaves_82 : decode cX11_leaves 82 = .ok (.aload_n 0, 1) := by decide +kernel
theorem dX11_leaves_83 : decode cX11_leaves 83 = .ok (.iload_n 3, 1) := by decide +kernel
theorem dX11_leaves_84 : decode cX11_leaves 84 = .ok (.iconst 3, 1) := by decide +kernel
theorem dX11_leaves_85 : decode cX11_leaves 85 = .ok (.if_icmp .ne 7, 3) := by decide +kernel
theorem dX11_leaves_88 : decode cX11_leaves 88 = .ok (.iconst 1, 1) := by decide +kernel
theorem dX11_leaves_89 : decode cX11_leaves 89 = .ok (.goto 4, 3) := by decide +kernel
theorem dX11_leaves_92 : decode cX11_leaves 92 = .ok (.iconst 0, 1) := by decide +kernel
theorem dX11_leaves_93 : decode cX11_leaves 93 = .ok (.invokevirtual 556, 3) := by decide +kernel
theorem dX11_leaves_96 : decode cX11_leaves 96 = .ok (.ireturn, 1) := by decide +kernel
theorem dX11_leaves_97 : decode cX11_leaves 97 = .ok (.iconst 1, 1) := by decide +kernel
theorem dX11_leaves_98 : decode cX11_leaves 98 = .ok (.aload_n 0, 1) := by decide +kernel
theorem dX11_leaves_99 : decode cX11_leaves 99 = .ok (.getfield 255, 3) := by decide +kernel
theorem dX11_leaves_102 : decode cX11_leaves 102 = .ok (.ishl, 1) := by decide +kernel
theorem dX11_leaves_103 : decode cX11_leaves 103 = .ok (.iconst 1, 1) := by decide +kernel
theorem dX11_leaves_104 : decode cX11_leaves 104 = .ok (.isub, 1) := by decide +kernel
theorem dX11_leaves_105 : decode cX11_leaves 105 = .ok (.aload_n 0, 1) := by decide +kernel
theorem dX11_leaves_106 : decode cX11_leaves 106 = .ok (.getfield 292, 3) := by decide +kernel
theorem dX11_leaves_109 : decode cX11_leaves 109 = .ok (.iconst (-1), 1) := by decide +kernel
theorem dX11_leaves_110 : decode cX11_leaves 110 = .ok (.ixor, 1) := by decide +kernel
theorem dX11_leaves_111 : decode cX11_leaves 111 = .ok (.iand, 1) := by decide +kernel
theorem dX11_leaves_112 : decode cX11_leaves 112 = .ok (.ireturn, 1) := by decide +kernel
theorem dX11_leaves_113 : decode cX11_leaves 113 = .ok (.aload_n 0, 1) := by decide +kernel
theorem dX11_leaves_114 : decode cX11_leaves 114 = .ok (.invokevirtual 560, 3) := by decide +kernel
theorem dX11_leaves_117 : decode cX11_leaves 117 = .ok (.ireturn, 1) := by decide +kernel
theorem dX11_leaves_118 : decode cX11_leaves 118 = .ok (.aload_n 0, 1) := by decide +kernel
theorem dX11_leaves_119 : decode cX11_leaves 119 = .ok (.invokevirtual 563, 3) := by decide +kernel
theorem dX11_leaves_122 : decode cX11_leaves 122 = .ok (.ireturn, 1) := by decide +kernel
theorem dX11_leaves_123 : decode cX11_leaves 123 = .ok (.aload_n 0, 1) := by decide +kernel
theorem dX11_leaves_124 : decode cX11_leaves 124 = .ok (.invokevirtual 566, 3) := by decide +kernel
theorem dX11_leaves_127 : decode cX11_leaves 127 = .ok (.ireturn, 1) := by decide +kernel
theorem dX11_leaves_128 : decode cX11_leaves 128 = .ok (.aload_n 0, 1) := by decide +kernel
theorem dX11_leaves_129 : decode cX11_leaves 129 = .ok (.invokevirtual 569, 3) := by decide +kernel
theorem dX11_leaves_132 : decode cX11_leaves 132 = .ok (.ireturn, 1) := by decide +kernel
theorem dX11_leaves_133 : decode cX11_leaves 133 = .ok (.aload_n 0, 1) := by decide +kernel
theorem dX11_leaves_134 : decode cX11_leaves 134 = .ok (.invokevirtual 572, 3) := by decide +kernel
theorem dX11_leaves_137 : decode cX11_leaves 137 = .ok (.ireturn, 1) := by decide +kernel
theorem dX11_leaves_138 : decode cX11_leaves 138 = .ok (.bipush (-2), 2) := by decide +kernel
theorem dX11_leaves_140 : decode cX11_leaves 140 = .ok (.ireturn, 1) := by decide +kernel
theorem q_1960 : Cond.methodLink RX11 553 yX11_forks ∈ zTB := zmem 1960 (by decide +kernel) rfl
theorem q_1962 : Cond.instanceMethod yX11_forks ∈ zTB := zmem 1962 (by decide +kernel) rfl
theorem q_117 : Cond.selects RX11 yX11_forks yX11_forks ∈ zTB := zmem 117 (by decide +kernel) rfl
theorem q_1963 : Cond.code yX11_forks cX11_forks 3 (some .int) ∈ zTB := zmem 1963 (by decide +kernel) rfl
theorem k_RX11_553 : zLv RX11 553 RX11 yX11_forks cX11_forks 3 (some .int) 0 := ⟨⟨q_1960, q_1962, q_117, q_140, q_1963⟩, rfl, ⟨by decide, by decide⟩, by decide +kernel⟩
theorem q_1964 : Cond.methodLink RX11 556 yX11_greatest ∈ zTB := zmem 1964 (by decide +kernel) rfl
theorem q_1966 : Cond.instanceMethod yX11_greatest ∈ zTB := zmem 1966 (by decide +kernel) rfl
theorem q_118 : Cond.selects RX11 yX11_greatest yX11_greatest ∈ zTB := zmem 118 (by decide +kernel) rfl
theorem q_1967 : Cond.code yX11_greatest cX11_greatest 5 (some .int) ∈ zTB := zmem 1967 (by decide +kernel) rfl
theorem k_RX11_556 : zLv RX11 556 RX11 yX11_greatest cX11_greatest 5 (some .int) 1 := ⟨⟨q_1964, q_1966, q_118, q_140, q_1967⟩, rfl, ⟨by decide, by decide⟩, by decide +kernel⟩
theorem q_1968 : Cond.methodLink RX11 560 yX11_flip ∈ zTB := zmem 1968 (by decide +kernel) rfl
theorem q_1970 : Cond.instanceMethod yX11_flip ∈ zTB := zmem 1970 (by decide +kernel) rfl
theorem q_119 : Cond.selects RX11 yX11_flip yX11_flip ∈ zTB := zmem 119 (by decide +kernel) rfl
theorem q_1971 : Cond.code yX11_flip cX11_flip 2 (some .int) ∈ zTB := zmem 1971 (by decide +kernel) rfl
theorem k_RX11_560 : zLv RX11 560 RX11 yX11_flip cX11_flip 2 (some .int) 0 := ⟨⟨q_1968, q_1970, q_119, q_140, q_1971⟩, rfl, ⟨by decide, by decide⟩, by decide +kernel⟩
theorem q_1972 : Cond.methodLink RX11 563 yX11_late ∈ zTB := zmem 1972 (by decide +kernel) rfl
theorem q_1974 : Cond.instanceMethod yX11_late ∈ zTB := zmem 1974 (by decide +kernel) rfl
theorem q_120 : Cond.selects RX11 yX11_late yX11_late ∈ zTB := zmem 120 (by decide +kernel) rfl
theorem q_1975 : Cond.code yX11_late cX11_late 2 (some .int) ∈ zTB := zmem 1975 (by decide +kernel) rfl
theorem k_RX11_563 : zLv RX11 563 RX11 yX11_late cX11_late 2 (some .int) 0 := ⟨⟨q_1972, q_1974, q_120, q_140, q_1975⟩, rfl, ⟨by decide, by decide⟩, by decide +kernel⟩
theorem q_1976 : Cond.methodLink RX11 566 yX11_even ∈ zTB := zmem 1976 (by decide +kernel) rfl
theorem q_1978 : Cond.instanceMethod yX11_even ∈ zTB := zmem 1978 (by decide +kernel) rfl
theorem q_121 : Cond.selects RX11 yX11_even yX11_even ∈ zTB := zmem 121 (by decide +kernel) rfl
theorem q_1979 : Cond.code yX11_even cX11_even 5 (some .int) ∈ zTB := zmem 1979 (by decide +kernel) rfl
theorem k_RX11_566 : zLv RX11 566 RX11 yX11_even cX11_even 5 (some .int) 0 := ⟨⟨q_1976, q_1978, q_121, q_140, q_1979⟩, rfl, ⟨by decide, by decide⟩, by decide +kernel⟩
theorem q_1980 : Cond.methodLink RX11 569 yX11_turns ∈ zTB := zmem 1980 (by decide +kernel) rfl
theorem q_1982 : Cond.instanceMethod yX11_turns ∈ zTB := zmem 1982 (by decide +kernel) rfl
theorem q_122 : Cond.selects RX11 yX11_turns yX11_turns ∈ zTB := zmem 122 (by decide +kernel) rfl
theorem q_1983 : Cond.code yX11_turns cX11_turns 3 (some .int) ∈ zTB := zmem 1983 (by decide +kernel) rfl
theorem k_RX11_569 : zLv RX11 569 RX11 yX11_turns cX11_turns 3 (some .int) 0 := ⟨⟨q_1980, q_1982, q_122, q_140, q_1983⟩, rfl, ⟨by decide, by decide⟩, by decide +kernel⟩
theorem q_1984 : Cond.methodLink RX11 572 yX11_steepest ∈ zTB := zmem 1984 (by decide +kernel) rfl
theorem q_1986 : Cond.instanceMethod yX11_steepest ∈ zTB := zmem 1986 (by decide +kernel) rfl
theorem q_123 : Cond.selects RX11 yX11_steepest yX11_steepest ∈ zTB := zmem 123 (by decide +kernel) rfl
theorem q_1987 : Cond.code yX11_steepest cX11_steepest 7 (some .int) ∈ zTB := zmem 1987 (by decide +kernel) rfl
theorem k_RX11_572 : zLv RX11 572 RX11 yX11_steepest cX11_steepest 7 (some .int) 0 := ⟨⟨q_1984, q_1986, q_123, q_140, q_1987⟩, rfl, ⟨by decide, by decide⟩, by decide +kernel⟩
theorem tsw_0_9 (z : Int) (h0 : ¬ z = 0) (h1 : ¬ z = 1) (h2 : ¬ z = 2) (h3 : ¬ z = 3) (h4 : ¬ z = 4) (h5 : ¬ z = 5) (h6 : ¬ z = 6) (h7 : ¬ z = 7) (h8 : ¬ z = 8) (h9 : ¬ z = 9) : z < 0 ∨ 9 < z := by omega
def F_X11_leaves (i : Nat) (X Y : Nat → Int → Int) (R : Nat → Int → Option Nat) (a : Int) (b : Int) (g : Int) : Prop := (∀ i j, rI (X i j)) → (∀ i j, rL (Y i j)) → ∀ X1 : Nat → Int → Int, X1 = zU X (i) 0 (0) → (∀ i j, rI (X1 i j)) → ((oTN X1 i) ∧ (∀ r5 : Bool, ∀ X3 : Nat → Int → Int, (∀ i j, rI (X3 i j)) → ∀ Y4 : Nat → Int → Int, (∀ i j, rL (Y4 i j)) → (r5 = (mIs i X1 1 (b) && mIs i X1 0 (a)) ∧ hK X1 (X3) Y (Y4) i ∧ (r5 = true → hS9 X1 (X3) i (a) (b) ∧ oH (X3) (Y4) i)) → (((r5 = true) → ((g = 0 → ((oH X3 Y4 i) ∧ (rI (bS (fLv (rP X3 i) (sdf X3 i) (X3 i 27).toNat) (X3 i 27).toNat) → (bS (fLv (rP X3 i) (sdf X3 i) (X3 i 27).toNat) (X3 i 27).toNat = rLeaves X i (a) (b) (g) ∧ pK X (X3) i)))) ∧ (g = 1 → ((oH X3 Y4 i) ∧ (rI (cN (fFk (rP X3 i) (sdf X3 i) (X3 i 27).toNat) (X3 i 27).toNat) → (cN (fFk (rP X3 i) (sdf X3 i) (X3 i 27).toNat) (X3 i 27).toNat = rLeaves X i (a) (b) (g) ∧ pK X (X3) i)))) ∧ (g = 2 → (((¬ g = 3) → ((oH X3 Y4 i) ∧ (rI (((grN (sdf X3 i) (grV X3 i (false)) (X3 i 27).toNat : Nat) : Int)) → (((grN (sdf X3 i) (grV X3 i (false)) (X3 i 27).toNat : Nat) : Int) = rLeaves X i (a) (b) (g) ∧ pK X (X3) i)))) ∧ ((¬ (¬ g = 3)) → ((oH X3 Y4 i) ∧ (rI (((grN (sdf X3 i) (grV X3 i (true)) (X3 i 27).toNat : Nat) : Int)) → (((grN (sdf X3 i) (grV X3 i (true)) (X3 i 27).toNat : Nat) : Int) = rLeaves X i (a) (b) (g) ∧ pK X (X3) i)))))) ∧ (g = 3 → (((¬ g = 3) → ((oH X3 Y4 i) ∧ (rI (((grN (sdf X3 i) (grV X3 i (false)) (X3 i 27).toNat : Nat) : Int)) → (((grN (sdf X3 i) (grV X3 i (false)) (X3 i 27).toNat : Nat) : Int) = rLeaves X i (a) (b) (g) ∧ pK X (X3) i)))) ∧ ((¬ (¬ g = 3)) → ((oH X3 Y4 i) ∧ (rI (((grN (sdf X3 i) (grV X3 i (true)) (X3 i 27).toNat : Nat) : Int)) → (((grN (sdf X3 i) (grV X3 i (true)) (X3 i 27).toNat : Nat) : Int) = rLeaves X i (a) (b) (g) ∧ pK X (X3) i)))))) ∧ (g = 4 → (zAnd ((zShl (1) (X3 (i) 27)) - 1) (zXor (X3 (i) 35) ((-1))) = rLeaves X i (a) (b) (g) ∧ pK X (X3) i)) ∧ (g = 5 → ((oH X3 Y4 i) ∧ (∀ r25 : Int, rI r25 → ∀ X23 : Nat → Int → Int, (∀ i j, rI (X23 i j)) → ∀ Y24 : Nat → Int → Int, (∀ i j, rL (Y24 i j)) → (r25 = (if flTip X3 i (1 - X3 i 28) = flTip X3 i (X3 i 28) then (0 : Int) else 1) ∧ fK X3 (X23) Y4 (Y24) i) → (r25 = rLeaves X i (a) (b) (g) ∧ pK X (X23) i)))) ∧ (g = 6 → ((oH X3 Y4 i) ∧ (∀ r29 : Int, rI r29 → ∀ X27 : Nat → Int → Int, (∀ i j, rI (X27 i j)) → ∀ Y28 : Nat → Int → Int, (∀ i j, rL (Y28 i j)) → (r29 = (csLt (rCx X3 i) (csI (X3 i 28)) (X3 i 27).toNat).1 9 ∧ fK X3 (X27) Y4 (Y28) i) → (r29 = rLeaves X i (a) (b) (g) ∧ pK X (X27) i)))) ∧ (g = 7 → ((oH X3 Y4 i) ∧ (rI (evN (fEv (fLv (rP X3 i) (sdf X3 i) (X3 i 27).toNat) (rG X3 i)) (X3 i 27).toNat) → (evN (fEv (fLv (rP X3 i) (sdf X3 i) (X3 i 27).toNat) (rG X3 i)) (X3 i 27).toNat = rLeaves X i (a) (b) (g) ∧ pK X (X3) i)))) ∧ (g = 8 → ((oH X3 Y4 i) ∧ (rI (bS (fTu (rP X3 i) (sdf X3 i) (rW X3 i)) (X3 i 27).toNat) → (bS (fTu (rP X3 i) (sdf X3 i) (rW X3 i)) (X3 i 27).toNat = rLeaves X i (a) (b) (g) ∧ pK X (X3) i)))) ∧ (g = 9 → ((oH X3 Y4 i) ∧ (rI ((stN (sdf X3 i) (rP X3 i) (rW X3 i) (X3 i 27).toNat).1) → ((stN (sdf X3 i) (rP X3 i) (rW X3 i) (X3 i 27).toNat).1 = rLeaves X i (a) (b) (g) ∧ pK X (X3) i)))) ∧ ((g < 0 ∨ 9 < g) → ((-2) = rLeaves X i (a) (b) (g) ∧ pK X (X3) i)))) ∧ ((r5 = false) → ((-2) = rLeaves X i (a) (b) (g) ∧ pK X (X3) i)))))
set_option maxHeartbeats 4000000 in
set_option maxRecDepth 100000 in
theorem w_X11_leaves {l : Launch} {D : va_G} {cy : Nat → ClassId} {bs N : Nat} {sa : Nat → Nat} {kd len : Nat → Nat} {X Y : Nat → Int → Int} {R : Nat → Int → Option Nat} {i : Nat} (hM : zM N kd len R i) (a : Int) (ha : rI a) (b : Int) (hb : rI b) (g : Int) (hg : rI g) (hF : F_X11_leaves i X Y R a b g) : Met l yX11_leaves (.code yX11_leaves cX11_leaves 4 (some .int) :: zTB) (zRm 6 140) (zPc D cy bs sa N kd len X Y R [.ref (bs + (i)), .int (zI (a)), .int (zI (b)), .int (zI (g))]) (zQi D cy bs N kd len (fun r st => st.2.2 = R ∧ (r = rLeaves X i (a) (b) (g) ∧ pK X (st.1) i))) 0 0 (zA bs) := by
  refine zstart (by decide) (Nat.le_of_ble_eq_true rfl) ?_
  intro p e s m args below meth c ls C hE hH hr hlk hnm hl hargs
  have hF := hF hH.2.2.1 hH.2.2.2
  have hS : va_S (zA bs) s.heap s.heap [] := va_S.rf
  have hl : lv_has ls 4 [(0, .ref (bs + (i))), (1, .int (zI (a))), (2, .int (zI (b))), (3, .int (zI (g)))] := hl
  refine lv_aload_n C.1 C.2.1 dX11_leaves_0 rfl (lv_at hl 0 rfl) ?_
  refine zd_iconst C dX11_leaves_1 ?_
  refine zp11_0 C hH hS (zM_n0 hM) (zM_k0 hM) q_1287 (by decide) dX11_leaves_2 (fun H locs hH hS => ?_)
  obtain ⟨X1, eX1⟩ : ∃ z, z = zU X (i) 0 (0) := ⟨_, rfl⟩
  rw [← eX1] at hH
  have hF := hF X1 eX1 hH.2.2.1
  refine lv_aload_n C.1 C.2.1 dX11_leaves_5 rfl (lv_at hl 0 rfl) ?_
  refine lv_iload_n C.1 C.2.1 dX11_leaves_6 rfl (lv_at hl 1 rfl) ?_
  refine lv_iload_n C.1 C.2.1 dX11_leaves_7 rfl (lv_at hl 2 rfl) ?_
  obtain ⟨o2, hF⟩ := hF
  refine zgoi (zrunV (As := [.int (zI (a)), .int (zI (b))]) (rest := []) C hE hH hS hl.1 (c_X11_hand (l := l) hM (a) ha (b) hb o2) k_RX11_397 ⟨Nat.le_of_ble_eq_true rfl, Nat.le_of_ble_eq_true rfl⟩ (zM_n0 hM) (zM_k0 hM) rfl rfl rfl (Nat.le_of_ble_eq_true rfl) dX11_leaves_8 ⟨Nat.zero_le _, Nat.zero_le _⟩) hS (fun rq X3 Y4 Rq H locs hrq hq hH hS => ?_)
  obtain ⟨h9R, hq⟩ := hq
  dsimp only at h9R
  rw [h9R] at hH
  obtain ⟨r5, h91, hq⟩ := hq
  subst h91
  have hF := hF r5 X3 hH.2.2.1 Y4 hH.2.2.2 hq
  refine zd_ifB_ne C 17 dX11_leaves_11 (by decide) (fun c6 => ?_) (fun c6 => ?_)
  · have hF := hF.1 c6
    refine lv_iload_n C.1 C.2.1 dX11_leaves_17 rfl (lv_at hl 3 rfl) ?_
    by_cases c7_0 : g = 0
    · have hF := hF.1 c7_0
      refine zd_tabI C hg 72 (0) c7_0 dX11_leaves_18 (by decide) (by decide) rfl (by decide) ?_
      refine lv_aload_n C.1 C.2.1 dX11_leaves_72 rfl (lv_at hl 0 rfl) ?_
      obtain ⟨o8, hF⟩ := hF
      refine zgoi (zrunV (As := []) (rest := []) C hE hH hS hl.1 (c_X11_leavesOf (l := l) hM  o8) k_RX11_550 ⟨Nat.le_of_ble_eq_true rfl, Nat.le_of_ble_eq_true rfl⟩ (zM_n0 hM) (zM_k0 hM) rfl rfl rfl (Nat.le_of_ble_eq_true rfl) dX11_leaves_73 ⟨Nat.zero_le _, Nat.zero_le _⟩) hS (fun rq Xq Yq Rq H locs hrq hq hH hS => ?_)
      obtain ⟨h91, h92⟩ := hq
      have h93 : Xq = X3 := congrArg (fun z => z.1) h92
      have h94 : Yq = Y4 := congrArg (fun z => z.2.1) h92
      have h95 : Rq = R := congrArg (fun z => z.2.2) h92
      rw [h93, h94, h95] at hH
      subst h91
      have hr9 := hrq
      have hF := hF hr9
      exact zd_iret C hr hlk hH hS hr9 (⟨rfl, hF⟩) dX11_leaves_76
    · have hF := hF.2
      by_cases c7_1 : g = 1
      · have hF := hF.1 c7_1
        refine zd_tabI C hg 77 (1) c7_1 dX11_leaves_18 (by decide) (by decide) rfl (by decide) ?_
        refine lv_aload_n C.1 C.2.1 dX11_leaves_77 rfl (lv_at hl 0 rfl) ?_
        obtain ⟨o10, hF⟩ := hF
        refine zgoi (zrunV (As := []) (rest := []) C hE hH hS hl.1 (c_X11_forks (l := l) hM  o10) k_RX11_553 ⟨Nat.le_of_ble_eq_true rfl, Nat.le_of_ble_eq_true rfl⟩ (zM_n0 hM) (zM_k0 hM) rfl rfl rfl (Nat.le_of_ble_eq_true rfl) dX11_leaves_78 ⟨Nat.zero_le _, Nat.zero_le _⟩) hS (fun rq Xq Yq Rq H locs hrq hq hH hS => ?_)
        obtain ⟨h91, h92⟩ := hq
        have h93 : Xq = X3 := congrArg (fun z => z.1) h92
        have h94 : Yq = Y4 := congrArg (fun z => z.2.1) h92
        have h95 : Rq = R := congrArg (fun z => z.2.2) h92
        rw [h93, h94, h95] at hH
        subst h91
        have hr11 := hrq
        have hF := hF hr11
        exact zd_iret C hr hlk hH hS hr11 (⟨rfl, hF⟩) dX11_leaves_81
      · have hF := hF.2
        by_cases c7_2 : g = 2
        · have hF := hF.1 c7_2
          refine zd_tabI C hg 82 (2) c7_2 dX11_leaves_18 (by decide) (by decide) rfl (by decide) ?_
          refine lv_aload_n C.1 C.2.1 dX11_leaves_82 rfl (lv_at hl 0 rfl) ?_
          refine lv_iload_n C.1 C.2.1 dX11_leaves_83 rfl (lv_at hl 3 rfl) ?_
          refine zd_iconst C dX11_leaves_84 ?_
          refine zd_icmp_ne C hg (by decide) 92 dX11_leaves_85 (by decide) (fun c12 => ?_) (fun c12 => ?_)
          · have hF := hF.1 c12
            refine zd_iconst C dX11_leaves_92 ?_
            obtain ⟨o13, hF⟩ := hF
            refine zgoi (zrunV (As := [.int (zI (bz (false)))]) (rest := []) C hE hH hS hl.1 (c_X11_greatest (l := l) hM false o13) k_RX11_556 ⟨Nat.le_of_ble_eq_true rfl, Nat.le_of_ble_eq_true rfl⟩ (zM_n0 hM) (zM_k0 hM) rfl rfl rfl (Nat.le_of_ble_eq_true rfl) dX11_leaves_93 ⟨Nat.zero_le _, Nat.zero_le _⟩) hS (fun rq Xq Yq Rq H locs hrq hq hH hS => ?_)
            obtain ⟨h91, h92⟩ := hq
            have h93 : Xq = X3 := congrArg (fun z => z.1) h92
            have h94 : Yq = Y4 := congrArg (fun z => z.2.1) h92
            have h95 : Rq = R := congrArg (fun z => z.2.2) h92
            rw [h93, h94, h95] at hH
            subst h91
            have hr14 := hrq
            have hF := hF hr14
            exact zd_iret C hr hlk hH hS hr14 (⟨rfl, hF⟩) dX11_leaves_96
          · have hF := hF.2 c12
            refine zd_iconst C dX11_leaves_88 ?_
            refine lv_goto (tgt := 93) C.1 C.2.1 dX11_leaves_89 (by decide) ?_
            obtain ⟨o15, hF⟩ := hF
            refine zgoi (zrunV (As := [.int (zI (bz (true)))]) (rest := []) C hE hH hS hl.1 (c_X11_greatest (l := l) hM true o15) k_RX11_556 ⟨Nat.le_of_ble_eq_true rfl, Nat.le_of_ble_eq_true rfl⟩ (zM_n0 hM) (zM_k0 hM) rfl rfl rfl (Nat.le_of_ble_eq_true rfl) dX11_leaves_93 ⟨Nat.zero_le _, Nat.zero_le _⟩) hS (fun rq Xq Yq Rq H locs hrq hq hH hS => ?_)
            obtain ⟨h91, h92⟩ := hq
            have h93 : Xq = X3 := congrArg (fun z => z.1) h92
            have h94 : Yq = Y4 := congrArg (fun z => z.2.1) h92
            have h95 : Rq = R := congrArg (fun z => z.2.2) h92
            rw [h93, h94, h95] at hH
            subst h91
            have hr16 := hrq
            have hF := hF hr16
            exact zd_iret C hr hlk hH hS hr16 (⟨rfl, hF⟩) dX11_leaves_96
        · have hF := hF.2
          by_cases c7_3 : g = 3
          · have hF := hF.1 c7_3
            refine zd_tabI C hg 82 (3) c7_3 dX11_leaves_18 (by decide) (by decide) rfl (by decide) ?_
            refine lv_aload_n C.1 C.2.1 dX11_leaves_82 rfl (lv_at hl 0 rfl) ?_
            refine lv_iload_n C.1 C.2.1 dX11_leaves_83 rfl (lv_at hl 3 rfl) ?_
            refine zd_iconst C dX11_leaves_84 ?_
            refine zd_icmp_ne C hg (by decide) 92 dX11_leaves_85 (by decide) (fun c17 => ?_) (fun c17 => ?_)
            · have hF := hF.1 c17
              refine zd_iconst C dX11_leaves_92 ?_
              obtain ⟨o18, hF⟩ := hF
              refine zgoi (zrunV (As := [.int (zI (bz (false)))]) (rest := []) C hE hH hS hl.1 (c_X11_greatest (l := l) hM false o18) k_RX11_556 ⟨Nat.le_of_ble_eq_true rfl, Nat.le_of_ble_eq_true rfl⟩ (zM_n0 hM) (zM_k0 hM) rfl rfl rfl (Nat.le_of_ble_eq_true rfl) dX11_leaves_93 ⟨Nat.zero_le _, Nat.zero_le _⟩) hS (fun rq Xq Yq Rq H locs hrq hq hH hS => ?_)
              obtain ⟨h91, h92⟩ := hq
              have h93 : Xq = X3 := congrArg (fun z => z.1) h92
              have h94 : Yq = Y4 := congrArg (fun z => z.2.1) h92
              have h95 : Rq = R := congrArg (fun z => z.2.2) h92
              rw [h93, h94, h95] at hH
              subst h91
              have hr19 := hrq
              have hF := hF hr19
              exact zd_iret C hr hlk hH hS hr19 (⟨rfl, hF⟩) dX11_leaves_96
            · have hF := hF.2 c17
              refine zd_iconst C dX11_leaves_88 ?_
              refine lv_goto (tgt := 93) C.1 C.2.1 dX11_leaves_89 (by decide) ?_
              obtain ⟨o20, hF⟩ := hF
              refine zgoi (zrunV (As := [.int (zI (bz (true)))]) (rest := []) C hE hH hS hl.1 (c_X11_greatest (l := l) hM true o20) k_RX11_556 ⟨Nat.le_of_ble_eq_true rfl, Nat.le_of_ble_eq_true rfl⟩ (zM_n0 hM) (zM_k0 hM) rfl rfl rfl (Nat.le_of_ble_eq_true rfl) dX11_leaves_93 ⟨Nat.zero_le _, Nat.zero_le _⟩) hS (fun rq Xq Yq Rq H locs hrq hq hH hS => ?_)
              obtain ⟨h91, h92⟩ := hq
              have h93 : Xq = X3 := congrArg (fun z => z.1) h92
              have h94 : Yq = Y4 := congrArg (fun z => z.2.1) h92
              have h95 : Rq = R := congrArg (fun z => z.2.2) h92
              rw [h93, h94, h95] at hH
              subst h91
              have hr21 := hrq
              have hF := hF hr21
              exact zd_iret C hr hlk hH hS hr21 (⟨rfl, hF⟩) dX11_leaves_96
          · have hF := hF.2
            by_cases c7_4 : g = 4
            · have hF := hF.1 c7_4
              refine zd_tabI C hg 97 (4) c7_4 dX11_leaves_18 (by decide) (by decide) rfl (by decide) ?_
              refine zd_iconst C dX11_leaves_97 ?_
              refine lv_aload_n C.1 C.2.1 dX11_leaves_98 rfl (lv_at hl 0 rfl) ?_
              refine zg11_27 C hH (zM_n0 hM) (zM_k0 hM) q_1314 dX11_leaves_99 ?_
              refine zd_ishl C dX11_leaves_102 ?_
              refine zd_iconst C dX11_leaves_103 ?_
              refine zd_isub C dX11_leaves_104 ?_
              refine lv_aload_n C.1 C.2.1 dX11_leaves_105 rfl (lv_at hl 0 rfl) ?_
              refine zg11_35 C hH (zM_n0 hM) (zM_k0 hM) q_1322 dX11_leaves_106 ?_
              refine zd_iconst C dX11_leaves_109 ?_
              refine zd_ixor C dX11_leaves_110 ?_
              refine zd_iand C dX11_leaves_111 ?_
              exact zd_iret C hr hlk hH hS (zI_rg _) (⟨rfl, hF⟩) dX11_leaves_112
            · have hF := hF.2
              by_cases c7_5 : g = 5
              · have hF := hF.1 c7_5
                refine zd_tabI C hg 113 (5) c7_5 dX11_leaves_18 (by decide) (by decide) rfl (by decide) ?_
                refine lv_aload_n C.1 C.2.1 dX11_leaves_113 rfl (lv_at hl 0 rfl) ?_
                obtain ⟨o22, hF⟩ := hF
                refine zgoi (zrunV (As := []) (rest := []) C hE hH hS hl.1 (c_X11_flip (l := l) hM  o22) k_RX11_560 ⟨Nat.le_of_ble_eq_true rfl, Nat.le_of_ble_eq_true rfl⟩ (zM_n0 hM) (zM_k0 hM) rfl rfl rfl (Nat.le_of_ble_eq_true rfl) dX11_leaves_114 ⟨Nat.zero_le _, Nat.zero_le _⟩) hS (fun r25 X23 Y24 Rq H locs hrq hq hH hS => ?_)
                obtain ⟨h9R, hq⟩ := hq
                dsimp only at h9R
                rw [h9R] at hH
                have hr25 := hrq
                have hF := hF r25 hrq X23 hH.2.2.1 Y24 hH.2.2.2 hq
                exact zd_iret C hr hlk hH hS hr25 (⟨rfl, hF⟩) dX11_leaves_117
              · have hF := hF.2
                by_cases c7_6 : g = 6
                · have hF := hF.1 c7_6
                  refine zd_tabI C hg 118 (6) c7_6 dX11_leaves_18 (by decide) (by decide) rfl (by decide) ?_
                  refine lv_aload_n C.1 C.2.1 dX11_leaves_118 rfl (lv_at hl 0 rfl) ?_
                  obtain ⟨o26, hF⟩ := hF
                  refine zgoi (zrunV (As := []) (rest := []) C hE hH hS hl.1 (c_X11_late (l := l) hM  o26) k_RX11_563 ⟨Nat.le_of_ble_eq_true rfl, Nat.le_of_ble_eq_true rfl⟩ (zM_n0 hM) (zM_k0 hM) rfl rfl rfl (Nat.le_of_ble_eq_true rfl) dX11_leaves_119 ⟨Nat.zero_le _, Nat.zero_le _⟩) hS (fun r29 X27 Y28 Rq H locs hrq hq hH hS => ?_)
                  obtain ⟨h9R, hq⟩ := hq
                  dsimp only at h9R
                  rw [h9R] at hH
                  have hr29 := hrq
                  have hF := hF r29 hrq X27 hH.2.2.1 Y28 hH.2.2.2 hq
                  exact zd_iret C hr hlk hH hS hr29 (⟨rfl, hF⟩) dX11_leaves_122
                · have hF := hF.2
                  by_cases c7_7 : g = 7
                  · have hF := hF.1 c7_7
                    refine zd_tabI C hg 123 (7) c7_7 dX11_leaves_18 (by decide) (by decide) rfl (by decide) ?_
                    refine lv_aload_n C.1 C.2.1 dX11_leaves_123 rfl (lv_at hl 0 rfl) ?_
                    obtain ⟨o30, hF⟩ := hF
                    refine zgoi (zrunV (As := []) (rest := []) C hE hH hS hl.1 (c_X11_even (l := l) hM  o30) k_RX11_566 ⟨Nat.le_of_ble_eq_true rfl, Nat.le_of_ble_eq_true rfl⟩ (zM_n0 hM) (zM_k0 hM) rfl rfl rfl (Nat.le_of_ble_eq_true rfl) dX11_leaves_124 ⟨Nat.zero_le _, Nat.zero_le _⟩) hS (fun rq Xq Yq Rq H locs hrq hq hH hS => ?_)
                    obtain ⟨h91, h92⟩ := hq
                    have h93 : Xq = X3 := congrArg (fun z => z.1) h92
                    have h94 : Yq = Y4 := congrArg (fun z => z.2.1) h92
                    have h95 : Rq = R := congrArg (fun z => z.2.2) h92
                    rw [h93, h94, h95] at hH
                    subst h91
                    have hr31 := hrq
                    have hF := hF hr31
                    exact zd_iret C hr hlk hH hS hr31 (⟨rfl, hF⟩) dX11_leaves_127
                  · have hF := hF.2
                    by_cases c7_8 : g = 8
                    · have hF := hF.1 c7_8
                      refine zd_tabI C hg 128 (8) c7_8 dX11_leaves_18 (by decide) (by decide) rfl (by decide) ?_
                      refine lv_aload_n C.1 C.2.1 dX11_leaves_128 rfl (lv_at hl 0 rfl) ?_
                      obtain ⟨o32, hF⟩ := hF
                      refine zgoi (zrunV (As := []) (rest := []) C hE hH hS hl.1 (c_X11_turns (l := l) hM  o32) k_RX11_569 ⟨Nat.le_of_ble_eq_true rfl, Nat.le_of_ble_eq_true rfl⟩ (zM_n0 hM) (zM_k0 hM) rfl rfl rfl (Nat.le_of_ble_eq_true rfl) dX11_leaves_129 ⟨Nat.zero_le _, Nat.zero_le _⟩) hS (fun rq Xq Yq Rq H locs hrq hq hH hS => ?_)
                      obtain ⟨h91, h92⟩ := hq
                      have h93 : Xq = X3 := congrArg (fun z => z.1) h92
                      have h94 : Yq = Y4 := congrArg (fun z => z.2.1) h92
                      have h95 : Rq = R := congrArg (fun z => z.2.2) h92
                      rw [h93, h94, h95] at hH
                      subst h91
                      have hr33 := hrq
                      have hF := hF hr33
                      exact zd_iret C hr hlk hH hS hr33 (⟨rfl, hF⟩) dX11_leaves_132
                    · have hF := hF.2
                      by_cases c7_9 : g = 9
                      · have hF := hF.1 c7_9
                        refine zd_tabI C hg 133 (9) c7_9 dX11_leaves_18 (by decide) (by decide) rfl (by decide) ?_
                        refine lv_aload_n C.1 C.2.1 dX11_leaves_133 rfl (lv_at hl 0 rfl) ?_
                        obtain ⟨o34, hF⟩ := hF
                        refine zgoi (zrunV (As := []) (rest := []) C hE hH hS hl.1 (c_X11_steepest (l := l) hM  o34) k_RX11_572 ⟨Nat.le_of_ble_eq_true rfl, Nat.le_of_ble_eq_true rfl⟩ (zM_n0 hM) (zM_k0 hM) rfl rfl rfl (Nat.le_of_ble_eq_true rfl) dX11_leaves_134 ⟨Nat.zero_le _, Nat.zero_le _⟩) hS (fun rq Xq Yq Rq H locs hrq hq hH hS => ?_)
                        obtain ⟨h91, h92⟩ := hq
                        have h93 : Xq = X3 := congrArg (fun z => z.1) h92
                        have h94 : Yq = Y4 := congrArg (fun z => z.2.1) h92
                        have h95 : Rq = R := congrArg (fun z => z.2.2) h92
                        rw [h93, h94, h95] at hH
                        subst h91
                        have hr35 := hrq
                        have hF := hF hr35
                        exact zd_iret C hr hlk hH hS hr35 (⟨rfl, hF⟩) dX11_leaves_137
                      · have hF := hF.2
                        have c7 := tsw_0_9 (g) c7_0 c7_1 c7_2 c7_3 c7_4 c7_5 c7_6 c7_7 c7_8 c7_9
                        have hF := hF c7
                        refine zd_tabO C hg 138 c7 dX11_leaves_18 (by decide) ?_
                        refine zd_bipush C (by decide) dX11_leaves_138 ?_
                        exact zd_iret C hr hlk hH hS (by decide) (⟨rfl, hF⟩) dX11_leaves_140
  · have hF := hF.2 c6
    refine zd_bipush C (by decide) dX11_leaves_14 ?_
    exact zd_iret C hr hlk hH hS (by decide) (⟨rfl, hF⟩) dX11_leaves_16
theorem v_X11_leaves {X Y : Nat → Int → Int} {R : Nat → Int → Option Nat} {i : Nat} (a : Int) (ha : rI a) (b : Int) (hb : rI b) (g : Int) (hg : rI g) (hp : oTN X i) : F_X11_leaves i X Y R a b g := by
  unfold F_X11_leaves
  intro hX hY X1 e1 xr1
  have hT := hp
  have o1 : ∀ z, z ≠ i → X1 z = X z := fun z h => by rw [e1, zU_o h]
  have em : ∀ s k, mIs i X1 s k = mIs i X s k := fun s k => by
    unfold mIs
    rw [o1 _ (by omega)]
  refine ⟨oTN_k (o1 _ (by omega)) (o1 _ (by omega)) (o1 _ (by omega)) hT, fun r5 X3 xr3 Y4 yr4 h5 => ?_⟩
  obtain ⟨e5, hk, h5⟩ := h5
  rw [em, em] at e5
  obtain ⟨p3, hz⟩ := hd_ok (n := a) (c := b) e1 hk
  refine ⟨fun c => ?_, fun c => ⟨by unfold rLeaves rOk; rw [← e5, c]; rfl, p3⟩⟩
  rw [c] at e5
  obtain ⟨h9, h⟩ := h5 c
  obtain ⟨z, h27⟩ := hz h9
  have hb := h.1.2.2.1
  have hA := h.1.2.1
  have hBs := h.1.2.2.2
  have en : X3 i 27 - 1 = qN X i b := by
    rw [h27]
    show 1 + X (i + 7) (183 * b) - 1 = X (i + 7) (183 * b)
    omega
  have h0 : 0 ≤ X3 i 27 := by omega
  have h35 := h.2.2.2.1
  have h26 : X3 i 26 = X (i + 6) (13 * a + 6) := z.1.2.2.2.2.1.trans hZ_26
  have hx : ∀ k, mIn k 0 (qN X i b) = true → (0 ≤ k ∧ k < X3 i 27) ∧ mHas (X3 i 35) k = sdf (hZ X i a b 0) i k.toNat := fun k hk => by
    have hm := mIn_t.mp hk
    have h2 : k ≤ X (i + 7) (183 * b) := hm.2
    have h3 : k < X3 i 27 := by rw [h27]; show k < 1 + X (i + 7) (183 * b); omega
    refine ⟨⟨hm.1, h3⟩, ?_⟩
    rw [← sdf_s z, h35]
    have q := bS_has (sdf X3 i) (n := (X3 i 27).toNat) (k := k.toNat) (by omega) (by omega)
    rw [show ((k.toNat : Nat) : Int) = k by omega] at q
    exact q
  have ld : ∀ k w, mIn k 0 (qN X i b) = true → mHas (X3 i 35) k = true → 0 ≤ w → w < 6 → X3 (i + 16) (6 * k + w) = rLd (hZ X i a b 0) i k.toNat w ∧ 0 ≤ X3 (i + 16) (6 * k + w) ∧ X3 (i + 16) (6 * k + w) ≤ 100000 := fun k w hk hs w0 w1 => by
    obtain ⟨⟨k0, k1⟩, k2⟩ := hx k hk
    rw [k2, ← sdf_s z] at hs
    have q := led_k h (k := k.toNat) (a := w) (by omega) hs w0 w1
    rw [show ((k.toNat : Nat) : Int) = k by omega] at q
    unfold sdf at hs
    obtain ⟨M, hM⟩ := Option.isSome_iff_exists.mp hs
    have b := rS_b hA hBs k.toNat (by omega) M hM w w0 w1
    have e : rLd X3 i k.toNat w = M w := by
      unfold rLd
      rw [hM]
      rfl
    rw [q, ← rLd_s z, e]
    exact ⟨rfl, b.1, by omega⟩
  have u : ∀ y X9, pK X X9 i → y = lvOf X3 i g → y = rLeaves X i a b g ∧ pK X X9 i := fun y X9 hp9 hy => by
    refine ⟨?_, hp9⟩
    unfold rLeaves rOk
    rw [← e5, if_pos rfl, ← lvOf_s z]
    exact hy
  have p9 : ∀ {X9 Y9 : Nat → Int → Int}, fK X3 X9 Y4 Y9 i → pK X X9 i := fun f => ⟨fun a h1 h2 => (f.1 a h1 (by omega)).trans (p3.1 a h1 h2), (f.2.1 0 (by omega)).trans p3.2⟩
  have neg : ∀ {k : Int} {A B : Int}, g ≠ k → (if g = k then A else B) = B := fun h => if_neg h
  refine ⟨fun e => ⟨h, fun _ => u _ _ p3 ?_⟩, fun e => ⟨h, fun _ => u _ _ p3 ?_⟩, fun e => ⟨fun _ => ⟨h, fun _ => u _ _ p3 ?_⟩, fun q => by omega⟩, fun e => ⟨fun q => absurd e q, fun _ => ⟨h, fun _ => u _ _ p3 ?_⟩⟩, fun e => u _ _ p3 ?_, fun e => ⟨h, fun r25 _ X23 _ Y24 _ hq => u _ _ (p9 hq.2) ?_⟩, fun e => ⟨h, fun r29 _ X27 _ Y28 _ hq => u _ _ (p9 hq.2) ?_⟩, fun e => ⟨h, fun _ => u _ _ p3 ?_⟩, fun e => ⟨h, fun _ => u _ _ p3 ?_⟩, fun e => ⟨h, fun _ => u _ _ p3 ?_⟩, fun e => u _ _ p3 ?_⟩
  · rw [e]
    rfl
  · rw [e]
    rfl
  · rw [e]
    rfl
  · rw [e]
    rfl
  · rw [e, h35]
    rfl
  · rw [e, hq.1]
    rfl
  · rw [e, hq.1]
    rfl
  · rw [e]
    rfl
  · rw [e]
    rfl
  · rw [e]
    rfl
  · unfold lvOf
    rw [neg (by omega), neg (by omega), neg (by omega), neg (by omega), neg (by omega), neg (by omega), neg (by omega), neg (by omega), neg (by omega), neg (by omega)]
theorem c_X11_leaves {l : Launch} {D : va_G} {cy : Nat → ClassId} {bs N : Nat} {sa : Nat → Nat} {kd len : Nat → Nat} {X Y : Nat → Int → Int} {R : Nat → Int → Option Nat} {i : Nat} (hM : zM N kd len R i) (a : Int) (ha : rI a) (b : Int) (hb : rI b) (g : Int) (hg : rI g) (hp : oTN X i) : Met l yX11_leaves (.code yX11_leaves cX11_leaves 4 (some .int) :: zTB) (zRm 6 140) (zPc D cy bs sa N kd len X Y R [.ref (bs + (i)), .int (zI (a)), .int (zI (b)), .int (zI (g))]) (zQi D cy bs N kd len (fun r st => st.2.2 = R ∧ (r = rLeaves X i (a) (b) (g) ∧ pK X (st.1) i))) 0 0 (zA bs) := w_X11_leaves hM a ha b hb g hg (v_X11_leaves a ha b hb g hg hp)
abbrev cX11_root : ByteArray := prog_13_method_131_code
def yX11_root : MethodName := ⟨RX11, "root", "(IIII)I"⟩
theorem dX11_root_0 : decode cX11_root 0 = .ok (.aload_n 0, 1) := by decide +kernel
theorem dX11_root_1 : decode cX11_root 1 = .ok (.iconst 0, 1) := by decide +kernel
theorem dX11_root_2 : decode cX11_root 2 = .ok (.putfield 88, 3) := by decide +kernel
theorem dX11_root_5 : decode cX11_root 5 = .ok (.aload_n 0, 1) := by decide +kernel
theorem dX11_root_6 : decode cX11_root 6 = .ok (.iload_n 1, 1) := by decide +kernel
theorem dX11_root_7 : decode cX11_root 7 = .ok (.iload_n 2, 1) := by decide +kernel
theorem dX11_root_8 : decode cX11_root 8 = .ok (.invokevirtual 397, 3) := by decide +kernel
theorem dX11_root_11 : decode cX11_root 11 = .ok (.ifCond .eq 11, 3) := by decide +kernel
theorem dX11_root_14 : decode cX11_root 14 = .ok (.aload_n 0, 1) := by decide +kernel
theorem dX11_root_15 : decode cX11_root 15 = .ok (.iload_n 3, 1) := by decide +kernel
theorem dX11_root_16 : decode cX11_root 16 = .ok (.invokevirtual 319, 3) := by decide +kernel
theorem dX11_root_19 : decode cX11_root 19 = .ok (.ifCond .ne 6, 3) := by decide +kernel
theorem dX11_root_22 : decode cX11_root 22 = .ok (.bipush (-2), 2) := by decide +kernel
theorem dX11_root_24 : decode cX11_root 24 = .ok (.ireturn, 1) := by decide +kernel
theorem dX11_root_25 : decode cX11_root 25 = .ok (.iload 4, 2) := by decide +kernel
theorem dX11_root_27 : decode cX11_root 27 = .ok (.ifCond .ne 9, 3) := by decide +kernel
theorem dX11_root_30 : decode cX11_root 30 = .ok (.aload_n 0, 1) := by decide +kernel
theorem dX11_root_31 : decode cX11_root 31 = .ok (.iload_n 3, 1) := by decide +kernel
theorem dX11_root_32 : decode cX11_root 32 = .ok (.invokevirtual 575, 3) := by decide +kernel
theorem dX11_root_35 : decode cX11_root 35 = .ok (.ireturn, 1) := by decide +kernel
theorem dX11_root_36 : decode cX11_root 36 = .ok (.aload_n 0, 1) := by decide +kernel
theorem dX11_root_37 : decode cX11_root 37 = .ok (.getfield 292, 3) := by decide +kernel
theorem dX11_root_40 : decode cX11_root 40 = .ok (.iload_n 3, 1) := by decide +kernel
theorem dX11_root_41 : decode cX11_root 41 = .ok (.invokestatic 92, 3) := by decide +kernel
theorem dX11_root_44 : decode cX11_root 44 = .ok (.ifCond .ne 6, 3) := by decide +kernel
theorem dX11_root_47 : decode cX11_root 47 = .ok (.bipush (-2), 2) := by decide +kernel
theorem dX11_root_49 : decode cX11_root 49 = .ok (.ireturn, 1) := by decide +kernel
theorem dX11_root_50 : decode cX11_root 50 = .ok (.iload 4, 2) := by decide +kernel
theorem dX11_root_52 : decode cX11_root 52 = .ok (.bipush 10, 2) := by decide +kernel
theorem dX11_root_54 : decode cX11_root 54 = .ok (.if_icmp .lt 39, 3) := by decide +kernel
theorem dX11_root_57 : decode cX11_root 57 = .ok (.aload_n 0, 1) := by decide +kernel
theorem dX11_root_58 : decode cX11_root 58 = .ok (.iload 4, 2) := by decide +kernel
theorem dX11_root_60 : decode cX11_root 60 = .ok (.bipush 10, 2) := by decide +kernel
theorem dX11_root_62 : decode cX11_root 62 = .ok (.isub, 1) := by decide +kernel
theorem dX11_root_63 : decode cX11_root 63 = .ok (.invokevirtual 289, 3) := by decide +kernel
theorem dX11_root_66 : decode cX11_root 66 = .ok (.ifCond .eq 24, 3) := by decide +kernel
theorem dX11_root_69 : decode cX11_root 69 = .ok (.aload_n 0, 1) := by decide +kernel
theorem dX11_root_70 : decode cX11_root 70 = .ok (.iload_n 3, 1) := by decide +kernel
theorem dX11_root_71 : decode cX11_root 71 = .ok (.invokevirtual 382, 3) := by decide +kernel
theorem dX11_root_74 : decode cX11_root 74 = .ok (.aload_n 0, 1) := by decide +kernel
theorem dX11_root_75 : decode cX11_root 75 = .ok (.iload 4, 2) := by decide +kernel
theorem dX11_root_77 : decode cX11_root 77 = .ok (.bipush 10, 2) := by decide +kernel
theorem dX11_root_79 : decode cX11_root 79 = .ok (.isub, 1) := by decide +kernel
theorem dX11_root_80 : decode cX11_root 80 = .ok (.invokevirtual 466, 3) := by decide +kernel
theorem dX11_root_83 : decode cX11_root 83 = .ok (.iand, 1) := by decide +kernel
theorem dX11_root_84 : decode cX11_root 84 = .ok (.invokestatic 385, 3) := by decide +kernel
theorem dX11_root_87 : decode cX11_root 87 = .ok (.goto 5, 3) := by decide +kernel
theorem dX11_root_90 : decode cX11_root 90 = .ok (.bipush (-2), 2) := by decide +kernel
theorem dX11_root_92 : decode cX11_root 92 = .ok (.ireturn, 1) := by decide +kernel
theorem dX11_root_93 : decode cX11_root 93 = .ok (.iload 4, 2) := by decide +kernel
theorem dX11_root_95 : decode cX11_root 95 = .ok (.iconst 1, 1) := by decide +kernel
theorem dX11_root_96 : decode cX11_root 96 = .ok (.if_icmp .ne 11, 3) := by decide +kernel
theorem dX11_root_99 : decode cX11_root 99 = .ok (.aload_n 0, 1) := by decide +kernel
theorem dX11_root_100 : decode cX11_root 100 = .ok (.iload_n 3, 1) := by decide +kernel
theorem dX11_root_101 : decode cX11_root 101 = .ok (.invokevirtual 578, 3) := by decide +kernel
theorem dX11_root_104 : decode cX11_root 104 = .ok (.goto 19, 3) := by decide +kernel
theorem dX11_root_107 : decode cX11_root 107 = .ok (.iload 4, 2) := by decide +kernel
theorem dX11_root_109 : decode cX11_root 109 = .ok (.iconst 2, 1) := by decide +kernel
theorem dX11_root_110 : decode cX11_root 110 = .ok (.if_icmp .ne 11, 3) := by decide +kernel
theorem dX11_root_113 : decode cX11_root 113 = .ok (.aload_n 0, 1) := by decide +kernel
theorem dX11_root_114 : decode cX11_root 114 = .ok (.iload_n 3, 1) := by decide +kernel
theorem dX11_root_115 : decode cX11_root 115 = .ok (.invokevirtual 581, 3) := by decide +kernel
theorem dX11_root_118 : decode cX11_root 118 = .ok (.goto 5, 3) := by decide +kernel
theorem dX11_root_121 : decode cX11_root 121 = .ok (.bipush (-2), 2) := by decide +kernel
theorem dX11_root_123 : decode cX11_root 123 = .ok (.ireturn, 1) := by decide +kernel
theorem q_2000 : Cond.methodLink RX11 581 yX11_rich ∈ zTB := zmem 2000 (by decide +kernel) rfl
theorem q_2002 : Cond.instanceMethod yX11_rich ∈ zTB := zmem 2002 (by decide +kernel) rfl
theorem q_126 : Cond.selects RX11 yX11_rich yX11_rich ∈ zTB := zmem 126 (by decide +kernel) rfl
theorem q_2003 : Cond.code yX11_rich cX11_rich 4 (some .int) ∈ zTB := zmem 2003 (by decide +kernel) rfl
theorem k_RX11_581 : zLv RX11 581 RX11 yX11_rich cX11_rich 4 (some .int) 1 := ⟨⟨q_2000, q_2002, q_126, q_140, q_2003⟩, rfl, ⟨by decide, by decide⟩, by decide +kernel⟩
theorem q_1996 : Cond.methodLink RX11 578 yX11_uncles ∈ zTB := zmem 1996 (by decide +kernel) rfl
theorem q_1998 : Cond.instanceMethod yX11_uncles ∈ zTB := zmem 1998 (by decide +kernel) rfl
theorem q_125 : Cond.selects RX11 yX11_uncles yX11_uncles ∈ zTB := zmem 125 (by decide +kernel) rfl
theorem q_1999 : Cond.code yX11_uncles cX11_uncles 6 (some .int) ∈ zTB := zmem 1999 (by decide +kernel) rfl
theorem k_RX11_578 : zLv RX11 578 RX11 yX11_uncles cX11_uncles 6 (some .int) 1 := ⟨⟨q_1996, q_1998, q_125, q_140, q_1999⟩, rfl, ⟨by decide, by decide⟩, by decide +kernel⟩
theorem q_1853 : Cond.methodLink RX11 466 yX11_madeBy ∈ zTB := zmem 1853 (by decide +kernel) rfl
theorem q_1855 : Cond.instanceMethod yX11_madeBy ∈ zTB := zmem 1855 (by decide +kernel) rfl
theorem q_101 : Cond.selects RX11 yX11_madeBy yX11_madeBy ∈ zTB := zmem 101 (by decide +kernel) rfl
theorem q_1856 : Cond.code yX11_madeBy cX11_madeBy 4 (some .int) ∈ zTB := zmem 1856 (by decide +kernel) rfl
theorem k_RX11_466 : zLv RX11 466 RX11 yX11_madeBy cX11_madeBy 4 (some .int) 1 := ⟨⟨q_1853, q_1855, q_101, q_140, q_1856⟩, rfl, ⟨by decide, by decide⟩, by decide +kernel⟩
theorem q_1992 : Cond.methodLink RX11 575 yX11_rootOf ∈ zTB := zmem 1992 (by decide +kernel) rfl
theorem q_1994 : Cond.instanceMethod yX11_rootOf ∈ zTB := zmem 1994 (by decide +kernel) rfl
theorem q_124 : Cond.selects RX11 yX11_rootOf yX11_rootOf ∈ zTB := zmem 124 (by decide +kernel) rfl
theorem q_1995 : Cond.code yX11_rootOf cX11_rootOf 3 (some .int) ∈ zTB := zmem 1995 (by decide +kernel) rfl
theorem k_RX11_575 : zLv RX11 575 RX11 yX11_rootOf cX11_rootOf 3 (some .int) 1 := ⟨⟨q_1992, q_1994, q_124, q_140, q_1995⟩, rfl, ⟨by decide, by decide⟩, by decide +kernel⟩
def F_X11_root (i : Nat) (X Y : Nat → Int → Int) (R : Nat → Int → Option Nat) (a : Int) (b : Int) (g : Int) (d : Int) : Prop := (∀ i j, rI (X i j)) → (∀ i j, rL (Y i j)) → ∀ X1 : Nat → Int → Int, X1 = zU X (i) 0 (0) → (∀ i j, rI (X1 i j)) → ((oTN X1 i) ∧ (∀ r5 : Bool, ∀ X3 : Nat → Int → Int, (∀ i j, rI (X3 i j)) → ∀ Y4 : Nat → Int → Int, (∀ i j, rL (Y4 i j)) → (r5 = (mIs i X1 1 (b) && mIs i X1 0 (a)) ∧ hK X1 (X3) Y (Y4) i ∧ (r5 = true → hS9 X1 (X3) i (a) (b) ∧ oH (X3) (Y4) i)) → (((r5 = false) → ((-2) = rRoot X i (a) (b) (g) (d) ∧ pK X (X3) i)) ∧ ((r5 = true) → ((0 ≤ X3 i 27) ∧ ((((mIn (g) 0 (X3 i 27 - 1)) = true) → (((¬ d = 0) → ((((mHas (X3 (i) 35) (g)) = true) → (((d < 10) → (((¬ d = 1) → (((¬ d = 2) → ((-2) = rRoot X i (a) (b) (g) (d) ∧ pK X (X3) i)) ∧ ((¬ (¬ d = 2)) → ((oH X3 Y4 i ∧ 0 ≤ g ∧ g < X3 i 27) ∧ (rI (riN (fun z => X3 (i + 16) (6 * (g) + z)) (X3 i 26).toNat) → (riN (fun z => X3 (i + 16) (6 * (g) + z)) (X3 i 26).toNat = rRoot X i (a) (b) (g) (d) ∧ pK X (X3) i)))))) ∧ ((¬ (¬ d = 1)) → ((oH X3 Y4 i ∧ 0 ≤ g ∧ g < X3 i 27) ∧ (rI (bS (fUn (rP X3 i) (sdf X3 i) (g).toNat) (X3 i 27).toNat) → (bS (fUn (rP X3 i) (sdf X3 i) (g).toNat) (X3 i 27).toNat = rRoot X i (a) (b) (g) (d) ∧ pK X (X3) i)))))) ∧ ((¬ (d < 10)) → ((rI (d - 10)) ∧ ((0 ≤ X3 i 26) ∧ ((((mIn (d - 10) 0 (X3 i 26 - 1)) = false) → ((-2) = rRoot X i (a) (b) (g) (d) ∧ pK X (X3) i)) ∧ (((mIn (d - 10) 0 (X3 i 26 - 1)) = true) → ((∃ n : Nat, oB X3 i n ∧ 0 ≤ g ∧ g ≤ n) ∧ (rI (rWy X3 i (g).toNat) → ((oH X3 Y4 i) ∧ (rI (bS (fMd X3 i (d - 10)) (X3 i 27).toNat) → (rI (mOnes (zAnd (rWy X3 i (g).toNat) (bS (fMd X3 i (d - 10)) (X3 i 27).toNat))) → (mOnes (zAnd (rWy X3 i (g).toNat) (bS (fMd X3 i (d - 10)) (X3 i 27).toNat)) = rRoot X i (a) (b) (g) (d) ∧ pK X (X3) i))))))))))))) ∧ (((mHas (X3 (i) 35) (g)) = false) → ((-2) = rRoot X i (a) (b) (g) (d) ∧ pK X (X3) i)))) ∧ ((¬ (¬ d = 0)) → ((oH X3 Y4 i ∧ 0 ≤ g ∧ g < X3 i 27) ∧ (rI (fsN (fun e => mHas (rWy X3 i (g).toNat) e && !sdf X3 i e) ((g).toNat + 1) 0) → (fsN (fun e => mHas (rWy X3 i (g).toNat) e && !sdf X3 i e) ((g).toNat + 1) 0 = rRoot X i (a) (b) (g) (d) ∧ pK X (X3) i)))))) ∧ (((mIn (g) 0 (X3 i 27 - 1)) = false) → ((-2) = rRoot X i (a) (b) (g) (d) ∧ pK X (X3) i))))))))
set_option maxHeartbeats 4000000 in
set_option maxRecDepth 100000 in
theorem w_X11_root {l : Launch} {D : va_G} {cy : Nat → ClassId} {bs N : Nat} {sa : Nat → Nat} {kd len : Nat → Nat} {X Y : Nat → Int → Int} {R : Nat → Int → Option Nat} {i : Nat} (hM : zM N kd len R i) (a : Int) (ha : rI a) (b : Int) (hb : rI b) (g : Int) (hg : rI g) (d : Int) (hd : rI d) (hF : F_X11_root i X Y R a b g d) : Met l yX11_root (.code yX11_root cX11_root 5 (some .int) :: zTB) (zRm 6 140) (zPc D cy bs sa N kd len X Y R [.ref (bs + (i)), .int (zI (a)), .int (zI (b)), .int (zI (g)), .int (zI (d))]) (zQi D cy bs N kd len (fun r st => st.2.2 = R ∧ (r = rRoot X i (a) (b) (g) (d) ∧ pK X (st.1) i))) 0 0 (zA bs) := by
  refine zstart (by decide) (Nat.le_of_ble_eq_true rfl) ?_
  intro p e s m args below meth c ls C hE hH hr hlk hnm hl hargs
  have hF := hF hH.2.2.1 hH.2.2.2
  have hS : va_S (zA bs) s.heap s.heap [] := va_S.rf
  have hl : lv_has ls 5 [(0, .ref (bs + (i))), (1, .int (zI (a))), (2, .int (zI (b))), (3, .int (zI (g))), (4, .int (zI (d)))] := hl
  refine lv_aload_n C.1 C.2.1 dX11_root_0 rfl (lv_at hl 0 rfl) ?_
  refine zd_iconst C dX11_root_1 ?_
  refine zp11_0 C hH hS (zM_n0 hM) (zM_k0 hM) q_1287 (by decide) dX11_root_2 (fun H locs hH hS => ?_)
  obtain ⟨X1, eX1⟩ : ∃ z, z = zU X (i) 0 (0) := ⟨_, rfl⟩
  rw [← eX1] at hH
  have hF := hF X1 eX1 hH.2.2.1
  refine lv_aload_n C.1 C.2.1 dX11_root_5 rfl (lv_at hl 0 rfl) ?_
  refine lv_iload_n C.1 C.2.1 dX11_root_6 rfl (lv_at hl 1 rfl) ?_
  refine lv_iload_n C.1 C.2.1 dX11_root_7 rfl (lv_at hl 2 rfl) ?_
  obtain ⟨o2, hF⟩ := hF
  refine zgoi (zrunV (As := [.int (zI (a)), .int (zI (b))]) (rest := []) C hE hH hS hl.1 (c_X11_hand (l := l) hM (a) ha (b) hb o2) k_RX11_397 ⟨Nat.le_of_ble_eq_true rfl, Nat.le_of_ble_eq_true rfl⟩ (zM_n0 hM) (zM_k0 hM) rfl rfl rfl (Nat.le_of_ble_eq_true rfl) dX11_root_8 ⟨Nat.zero_le _, Nat.zero_le _⟩) hS (fun rq X3 Y4 Rq H locs hrq hq hH hS => ?_)
  obtain ⟨h9R, hq⟩ := hq
  dsimp only at h9R
  rw [h9R] at hH
  obtain ⟨r5, h91, hq⟩ := hq
  subst h91
  have hF := hF r5 X3 hH.2.2.1 Y4 hH.2.2.2 hq
  refine zd_ifB_eq C 22 dX11_root_11 (by decide) (fun c6 => ?_) (fun c6 => ?_)
  · have hF := hF.1 c6
    refine zd_bipush C (by decide) dX11_root_22 ?_
    exact zd_iret C hr hlk hH hS (by decide) (⟨rfl, hF⟩) dX11_root_24
  · have hF := hF.2 c6
    refine lv_aload_n C.1 C.2.1 dX11_root_14 rfl (lv_at hl 0 rfl) ?_
    refine lv_iload_n C.1 C.2.1 dX11_root_15 rfl (lv_at hl 3 rfl) ?_
    obtain ⟨o7, hF⟩ := hF
    refine zgoi (zrunV (As := [.int (zI (g))]) (rest := []) C hE hH hS hl.1 (c_X11_isBlock (l := l) hM (g) hg o7) k_RX11_319 ⟨Nat.le_of_ble_eq_true rfl, Nat.le_of_ble_eq_true rfl⟩ (zM_n0 hM) (zM_k0 hM) rfl rfl rfl (Nat.le_of_ble_eq_true rfl) dX11_root_16 ⟨Nat.zero_le _, Nat.zero_le _⟩) hS (fun rq Xq Yq Rq H locs hrq hq hH hS => ?_)
    obtain ⟨h91, h92⟩ := hq
    have h93 : Xq = X3 := congrArg (fun z => z.1) h92
    have h94 : Yq = Y4 := congrArg (fun z => z.2.1) h92
    have h95 : Rq = R := congrArg (fun z => z.2.2) h92
    rw [h93, h94, h95] at hH
    subst h91
    refine zd_ifB_ne C 25 dX11_root_19 (by decide) (fun c8 => ?_) (fun c8 => ?_)
    · have hF := hF.1 c8
      refine lv_iload C.1 C.2.1 dX11_root_25 (lv_at hl 4 rfl) ?_
      refine zd_if_ne C hd 36 dX11_root_27 (by decide) (fun c9 => ?_) (fun c9 => ?_)
      · have hF := hF.1 c9
        refine lv_aload_n C.1 C.2.1 dX11_root_36 rfl (lv_at hl 0 rfl) ?_
        refine zg11_35 C hH (zM_n0 hM) (zM_k0 hM) q_1322 dX11_root_37 ?_
        refine lv_iload_n C.1 C.2.1 dX11_root_40 rfl (lv_at hl 3 rfl) ?_
        refine zgoi (zrunS (As := [.int (zI (X3 (i) 35)), .int (zI (g))]) (rest := []) C hE hH hS hl.1 (c_X11_has (l := l)  (X3 (i) 35) (hH.2.2.1 _ _) (g) hg) k_RX11_92 ⟨Nat.le_of_ble_eq_true rfl, Nat.le_of_ble_eq_true rfl⟩ rfl (Nat.le_of_ble_eq_true rfl) dX11_root_41 ⟨Nat.zero_le _, Nat.zero_le _⟩) hS (fun rq Xq Yq Rq H locs hrq hq hH hS => ?_)
        obtain ⟨h91, h92⟩ := hq
        have h93 : Xq = X3 := congrArg (fun z => z.1) h92
        have h94 : Yq = Y4 := congrArg (fun z => z.2.1) h92
        have h95 : Rq = R := congrArg (fun z => z.2.2) h92
        rw [h93, h94, h95] at hH
        subst h91
        refine zd_ifB_ne C 50 dX11_root_44 (by decide) (fun c10 => ?_) (fun c10 => ?_)
        · have hF := hF.1 c10
          refine lv_iload C.1 C.2.1 dX11_root_50 (lv_at hl 4 rfl) ?_
          refine zd_bipush C (by decide) dX11_root_52 ?_
          refine zd_icmp_lt C hd (by decide) 93 dX11_root_54 (by decide) (fun c11 => ?_) (fun c11 => ?_)
          · have hF := hF.1 c11
            refine lv_iload C.1 C.2.1 dX11_root_93 (lv_at hl 4 rfl) ?_
            refine zd_iconst C dX11_root_95 ?_
            refine zd_icmp_ne C hd (by decide) 107 dX11_root_96 (by decide) (fun c12 => ?_) (fun c12 => ?_)
            · have hF := hF.1 c12
              refine lv_iload C.1 C.2.1 dX11_root_107 (lv_at hl 4 rfl) ?_
              refine zd_iconst C dX11_root_109 ?_
              refine zd_icmp_ne C hd (by decide) 121 dX11_root_110 (by decide) (fun c13 => ?_) (fun c13 => ?_)
              · have hF := hF.1 c13
                refine zd_bipush C (by decide) dX11_root_121 ?_
                exact zd_iret C hr hlk hH hS (by decide) (⟨rfl, hF⟩) dX11_root_123
              · have hF := hF.2 c13
                refine lv_aload_n C.1 C.2.1 dX11_root_113 rfl (lv_at hl 0 rfl) ?_
                refine lv_iload_n C.1 C.2.1 dX11_root_114 rfl (lv_at hl 3 rfl) ?_
                obtain ⟨o14, hF⟩ := hF
                refine zgoi (zrunV (As := [.int (zI (g))]) (rest := []) C hE hH hS hl.1 (c_X11_rich (l := l) hM (g) hg o14) k_RX11_581 ⟨Nat.le_of_ble_eq_true rfl, Nat.le_of_ble_eq_true rfl⟩ (zM_n0 hM) (zM_k0 hM) rfl rfl rfl (Nat.le_of_ble_eq_true rfl) dX11_root_115 ⟨Nat.zero_le _, Nat.zero_le _⟩) hS (fun rq Xq Yq Rq H locs hrq hq hH hS => ?_)
                obtain ⟨h91, h92⟩ := hq
                have h93 : Xq = X3 := congrArg (fun z => z.1) h92
                have h94 : Yq = Y4 := congrArg (fun z => z.2.1) h92
                have h95 : Rq = R := congrArg (fun z => z.2.2) h92
                rw [h93, h94, h95] at hH
                subst h91
                have hr15 := hrq
                have hF := hF hr15
                refine lv_goto (tgt := 123) C.1 C.2.1 dX11_root_118 (by decide) ?_
                exact zd_iret C hr hlk hH hS hr15 (⟨rfl, hF⟩) dX11_root_123
            · have hF := hF.2 c12
              refine lv_aload_n C.1 C.2.1 dX11_root_99 rfl (lv_at hl 0 rfl) ?_
              refine lv_iload_n C.1 C.2.1 dX11_root_100 rfl (lv_at hl 3 rfl) ?_
              obtain ⟨o16, hF⟩ := hF
              refine zgoi (zrunV (As := [.int (zI (g))]) (rest := []) C hE hH hS hl.1 (c_X11_uncles (l := l) hM (g) hg o16) k_RX11_578 ⟨Nat.le_of_ble_eq_true rfl, Nat.le_of_ble_eq_true rfl⟩ (zM_n0 hM) (zM_k0 hM) rfl rfl rfl (Nat.le_of_ble_eq_true rfl) dX11_root_101 ⟨Nat.zero_le _, Nat.zero_le _⟩) hS (fun rq Xq Yq Rq H locs hrq hq hH hS => ?_)
              obtain ⟨h91, h92⟩ := hq
              have h93 : Xq = X3 := congrArg (fun z => z.1) h92
              have h94 : Yq = Y4 := congrArg (fun z => z.2.1) h92
              have h95 : Rq = R := congrArg (fun z => z.2.2) h92
              rw [h93, h94, h95] at hH
              subst h91
              have hr17 := hrq
              have hF := hF hr17
              refine lv_goto (tgt := 123) C.1 C.2.1 dX11_root_104 (by decide) ?_
              exact zd_iret C hr hlk hH hS hr17 (⟨rfl, hF⟩) dX11_root_123
          · have hF := hF.2 c11
            refine lv_aload_n C.1 C.2.1 dX11_root_57 rfl (lv_at hl 0 rfl) ?_
            refine lv_iload C.1 C.2.1 dX11_root_58 (lv_at hl 4 rfl) ?_
            refine zd_bipush C (by decide) dX11_root_60 ?_
            refine zd_isub C dX11_root_62 ?_
            obtain ⟨o18, hF⟩ := hF
            obtain ⟨o19, hF⟩ := hF
            refine zgoi (zrunV (As := [.int (zI (d - 10))]) (rest := []) C hE hH hS hl.1 (c_X11_isAccount (l := l) hM (d - 10) o18 o19) k_RX11_289 ⟨Nat.le_of_ble_eq_true rfl, Nat.le_of_ble_eq_true rfl⟩ (zM_n0 hM) (zM_k0 hM) rfl rfl rfl (Nat.le_of_ble_eq_true rfl) dX11_root_63 ⟨Nat.zero_le _, Nat.zero_le _⟩) hS (fun rq Xq Yq Rq H locs hrq hq hH hS => ?_)
            obtain ⟨h91, h92⟩ := hq
            have h93 : Xq = X3 := congrArg (fun z => z.1) h92
            have h94 : Yq = Y4 := congrArg (fun z => z.2.1) h92
            have h95 : Rq = R := congrArg (fun z => z.2.2) h92
            rw [h93, h94, h95] at hH
            subst h91
            refine zd_ifB_eq C 90 dX11_root_66 (by decide) (fun c20 => ?_) (fun c20 => ?_)
            · have hF := hF.1 c20
              refine zd_bipush C (by decide) dX11_root_90 ?_
              exact zd_iret C hr hlk hH hS (by decide) (⟨rfl, hF⟩) dX11_root_92
            · have hF := hF.2 c20
              refine lv_aload_n C.1 C.2.1 dX11_root_69 rfl (lv_at hl 0 rfl) ?_
              refine lv_iload_n C.1 C.2.1 dX11_root_70 rfl (lv_at hl 3 rfl) ?_
              obtain ⟨o21, hF⟩ := hF
              refine zgoi (zrunV (As := [.int (zI (g))]) (rest := []) C hE hH hS hl.1 (c_X11_wayTo (l := l) hM (g) hg o21) k_RX11_382 ⟨Nat.le_of_ble_eq_true rfl, Nat.le_of_ble_eq_true rfl⟩ (zM_n0 hM) (zM_k0 hM) rfl rfl rfl (Nat.le_of_ble_eq_true rfl) dX11_root_71 ⟨Nat.zero_le _, Nat.zero_le _⟩) hS (fun rq Xq Yq Rq H locs hrq hq hH hS => ?_)
              obtain ⟨h91, h92⟩ := hq
              have h93 : Xq = X3 := congrArg (fun z => z.1) h92
              have h94 : Yq = Y4 := congrArg (fun z => z.2.1) h92
              have h95 : Rq = R := congrArg (fun z => z.2.2) h92
              rw [h93, h94, h95] at hH
              subst h91
              have hr22 := hrq
              have hF := hF hr22
              refine lv_aload_n C.1 C.2.1 dX11_root_74 rfl (lv_at hl 0 rfl) ?_
              refine lv_iload C.1 C.2.1 dX11_root_75 (lv_at hl 4 rfl) ?_
              refine zd_bipush C (by decide) dX11_root_77 ?_
              refine zd_isub C dX11_root_79 ?_
              obtain ⟨o23, hF⟩ := hF
              refine zgoi (zrunV (As := [.int (zI (d - 10))]) (rest := [.int (zI (rWy X3 i (g).toNat))]) C hE hH hS hl.1 (c_X11_madeBy (l := l) hM (d - 10) o18 o23) k_RX11_466 ⟨Nat.le_of_ble_eq_true rfl, Nat.le_of_ble_eq_true rfl⟩ (zM_n0 hM) (zM_k0 hM) rfl rfl rfl (Nat.le_of_ble_eq_true rfl) dX11_root_80 ⟨Nat.zero_le _, Nat.zero_le _⟩) hS (fun rq Xq Yq Rq H locs hrq hq hH hS => ?_)
              obtain ⟨h91, h92⟩ := hq
              have h93 : Xq = X3 := congrArg (fun z => z.1) h92
              have h94 : Yq = Y4 := congrArg (fun z => z.2.1) h92
              have h95 : Rq = R := congrArg (fun z => z.2.2) h92
              rw [h93, h94, h95] at hH
              subst h91
              have hr24 := hrq
              have hF := hF hr24
              refine zd_iand C dX11_root_83 ?_
              refine zgoi (zrunS (As := [.int (zI (zAnd (rWy X3 i (g).toNat) (bS (fMd X3 i (d - 10)) (X3 i 27).toNat)))]) (rest := []) C hE hH hS hl.1 (c_X11_ones (l := l)  (zAnd (rWy X3 i (g).toNat) (bS (fMd X3 i (d - 10)) (X3 i 27).toNat)) (zI_rg _)) k_RX11_385 ⟨Nat.le_of_ble_eq_true rfl, Nat.le_of_ble_eq_true rfl⟩ rfl (Nat.le_of_ble_eq_true rfl) dX11_root_84 ⟨Nat.zero_le _, Nat.zero_le _⟩) hS (fun rq Xq Yq Rq H locs hrq hq hH hS => ?_)
              obtain ⟨h91, h92⟩ := hq
              have h93 : Xq = X3 := congrArg (fun z => z.1) h92
              have h94 : Yq = Y4 := congrArg (fun z => z.2.1) h92
              have h95 : Rq = R := congrArg (fun z => z.2.2) h92
              rw [h93, h94, h95] at hH
              subst h91
              have hr25 := hrq
              have hF := hF hr25
              refine lv_goto (tgt := 92) C.1 C.2.1 dX11_root_87 (by decide) ?_
              exact zd_iret C hr hlk hH hS hr25 (⟨rfl, hF⟩) dX11_root_92
        · have hF := hF.2 c10
          refine zd_bipush C (by decide) dX11_root_47 ?_
          exact zd_iret C hr hlk hH hS (by decide) (⟨rfl, hF⟩) dX11_root_49
      · have hF := hF.2 c9
        refine lv_aload_n C.1 C.2.1 dX11_root_30 rfl (lv_at hl 0 rfl) ?_
        refine lv_iload_n C.1 C.2.1 dX11_root_31 rfl (lv_at hl 3 rfl) ?_
        obtain ⟨o26, hF⟩ := hF
        refine zgoi (zrunV (As := [.int (zI (g))]) (rest := []) C hE hH hS hl.1 (c_X11_rootOf (l := l) hM (g) hg o26) k_RX11_575 ⟨Nat.le_of_ble_eq_true rfl, Nat.le_of_ble_eq_true rfl⟩ (zM_n0 hM) (zM_k0 hM) rfl rfl rfl (Nat.le_of_ble_eq_true rfl) dX11_root_32 ⟨Nat.zero_le _, Nat.zero_le _⟩) hS (fun rq Xq Yq Rq H locs hrq hq hH hS => ?_)
        obtain ⟨h91, h92⟩ := hq
        have h93 : Xq = X3 := congrArg (fun z => z.1) h92
        have h94 : Yq = Y4 := congrArg (fun z => z.2.1) h92
        have h95 : Rq = R := congrArg (fun z => z.2.2) h92
        rw [h93, h94, h95] at hH
        subst h91
        have hr27 := hrq
        have hF := hF hr27
        exact zd_iret C hr hlk hH hS hr27 (⟨rfl, hF⟩) dX11_root_35
    · have hF := hF.2 c8
      refine zd_bipush C (by decide) dX11_root_22 ?_
      exact zd_iret C hr hlk hH hS (by decide) (⟨rfl, hF⟩) dX11_root_24
theorem v_X11_root {X Y : Nat → Int → Int} {R : Nat → Int → Option Nat} {i : Nat} (a : Int) (ha : rI a) (b : Int) (hb : rI b) (g : Int) (hg : rI g) (d : Int) (hd : rI d) (hp : oTN X i) : F_X11_root i X Y R a b g d := by
  unfold F_X11_root
  intro hX hY X1 e1 xr1
  have hT := hp
  have o1 : ∀ z, z ≠ i → X1 z = X z := fun z h => by rw [e1, zU_o h]
  have em : ∀ s k, mIs i X1 s k = mIs i X s k := fun s k => by
    unfold mIs
    rw [o1 _ (by omega)]
  refine ⟨oTN_k (o1 _ (by omega)) (o1 _ (by omega)) (o1 _ (by omega)) hT, fun r5 X3 xr3 Y4 yr4 h5 => ?_⟩
  obtain ⟨e5, hk, h5⟩ := h5
  rw [em, em] at e5
  obtain ⟨p3, hz⟩ := hd_ok (n := a) (c := b) e1 hk
  refine ⟨fun c => ⟨by unfold rRoot rOk; rw [← e5, c]; rfl, p3⟩, fun c => ?_⟩
  rw [c] at e5
  obtain ⟨h9, h⟩ := h5 c
  obtain ⟨z, h27⟩ := hz h9
  have hb := h.1.2.2.1
  have hA := h.1.2.1
  have hBs := h.1.2.2.2
  have en : X3 i 27 - 1 = qN X i b := by
    rw [h27]
    show 1 + X (i + 7) (183 * b) - 1 = X (i + 7) (183 * b)
    omega
  have h0 : 0 ≤ X3 i 27 := by omega
  have h35 := h.2.2.2.1
  have h26 : X3 i 26 = X (i + 6) (13 * a + 6) := z.1.2.2.2.2.1.trans hZ_26
  have hx : ∀ k, mIn k 0 (qN X i b) = true → (0 ≤ k ∧ k < X3 i 27) ∧ mHas (X3 i 35) k = sdf (hZ X i a b 0) i k.toNat := fun k hk => by
    have hm := mIn_t.mp hk
    have h2 : k ≤ X (i + 7) (183 * b) := hm.2
    have h3 : k < X3 i 27 := by rw [h27]; show k < 1 + X (i + 7) (183 * b); omega
    refine ⟨⟨hm.1, h3⟩, ?_⟩
    rw [← sdf_s z, h35]
    have q := bS_has (sdf X3 i) (n := (X3 i 27).toNat) (k := k.toNat) (by omega) (by omega)
    rw [show ((k.toNat : Nat) : Int) = k by omega] at q
    exact q
  have ld : ∀ k w, mIn k 0 (qN X i b) = true → mHas (X3 i 35) k = true → 0 ≤ w → w < 6 → X3 (i + 16) (6 * k + w) = rLd (hZ X i a b 0) i k.toNat w ∧ 0 ≤ X3 (i + 16) (6 * k + w) ∧ X3 (i + 16) (6 * k + w) ≤ 100000 := fun k w hk hs w0 w1 => by
    obtain ⟨⟨k0, k1⟩, k2⟩ := hx k hk
    rw [k2, ← sdf_s z] at hs
    have q := led_k h (k := k.toNat) (a := w) (by omega) hs w0 w1
    rw [show ((k.toNat : Nat) : Int) = k by omega] at q
    unfold sdf at hs
    obtain ⟨M, hM⟩ := Option.isSome_iff_exists.mp hs
    have b := rS_b hA hBs k.toNat (by omega) M hM w w0 w1
    have e : rLd X3 i k.toNat w = M w := by
      unfold rLd
      rw [hM]
      rfl
    rw [q, ← rLd_s z, e]
    exact ⟨rfl, b.1, by omega⟩
  rw [en]
  refine ⟨h0, fun cm => ?_, fun cm => ⟨by unfold rRoot rOk; rw [← e5, cm]; rfl, p3⟩⟩
  obtain ⟨gb, gs⟩ := hx g cm
  have u : ∀ y, y = roOf X3 i g.toNat d → y = rRoot X i a b g d ∧ pK X X3 i := fun y hy => by
    refine ⟨?_, p3⟩
    unfold rRoot rOk
    rw [← e5, cm, ← roOf_s z]
    exact hy
  have gs : mHas (X3 i 35) g = sdf X3 i g.toNat := by rw [gs, sdf_s z]
  refine ⟨fun c0 => ⟨fun cs => ⟨fun cd => ⟨fun c1 => ⟨fun c2 => u _ ?_, fun c2 => ⟨⟨h, gb⟩, fun _ => u _ ?_⟩⟩, fun c1 => ⟨⟨h, gb⟩, fun _ => u _ ?_⟩⟩, fun cd => ⟨by have := ‹rI d›.2; exact ⟨by omega, by omega⟩, hA.1.1, fun cn => u _ ?_, fun cn => ⟨⟨(X3 i 27 - 1).toNat, hBs.1, by omega, by omega⟩, fun _ => ⟨h, fun _ _ => u _ ?_⟩⟩⟩⟩, fun cs => u _ ?_⟩, fun c0 => ⟨⟨h, gb⟩, fun _ => u _ ?_⟩⟩
  · unfold roOf
    rw [if_neg c0, ← gs, cs, if_pos rfl, if_neg (by omega), if_neg c1, if_neg c2]
  · unfold roOf
    rw [if_neg c0, ← gs, cs, if_pos rfl, if_neg (by omega), if_neg c1, if_pos (Classical.not_not.mp c2)]
    refine riN_cong _ (fun y hy => ?_)
    have l := ld g y cm cs (by omega) (by have := hA.1; omega)
    rw [rLd_s z]
    exact l.1
  · unfold roOf
    rw [if_neg c0, ← gs, cs, if_pos rfl, if_neg (by omega), if_pos (Classical.not_not.mp c1)]
  · unfold roOf
    rw [if_neg c0, ← gs, cs, if_pos rfl, if_pos (by omega), cn]
    rfl
  · unfold roOf
    rw [if_neg c0, ← gs, cs, if_pos rfl, if_pos (by omega), cn]
    rfl
  · unfold roOf
    rw [if_neg c0, ← gs, cs]
    rfl
  · unfold roOf
    rw [if_pos (Classical.not_not.mp c0)]
    rfl
theorem c_X11_root {l : Launch} {D : va_G} {cy : Nat → ClassId} {bs N : Nat} {sa : Nat → Nat} {kd len : Nat → Nat} {X Y : Nat → Int → Int} {R : Nat → Int → Option Nat} {i : Nat} (hM : zM N kd len R i) (a : Int) (ha : rI a) (b : Int) (hb : rI b) (g : Int) (hg : rI g) (d : Int) (hd : rI d) (hp : oTN X i) : Met l yX11_root (.code yX11_root cX11_root 5 (some .int) :: zTB) (zRm 6 140) (zPc D cy bs sa N kd len X Y R [.ref (bs + (i)), .int (zI (a)), .int (zI (b)), .int (zI (g)), .int (zI (d))]) (zQi D cy bs N kd len (fun r st => st.2.2 = R ∧ (r = rRoot X i (a) (b) (g) (d) ∧ pK X (st.1) i))) 0 0 (zA bs) := w_X11_root hM a ha b hb g hg d hd (v_X11_root a ha b hb g hg d hd hp)
