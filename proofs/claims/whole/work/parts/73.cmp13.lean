/-! THE CHART OF A PICKED STATE Z AT q OF THE REFERENCE -/
def vZ (Z : Nat → Int → Int) (q : Nat) : Prop := (1 ≤ Z q 27 ∧ Z q 27 ≤ 15) ∧ oBs Z q (Z q 27 - 1).toNat
def vN (Z : Nat → Int → Int) (q : Nat) : Prop := oG Z q ∧ oA Z q
/-- blocks at b are those of Z -/
def bR (Z : Nat → Int → Int) (q : Nat) (X : Nat → Int → Int) (b : Nat) : Prop := X b 0 = Z q 27 - 1 ∧ X (b + 2) 0 = 0 ∧ ∀ k : Int, 1 ≤ k → k < Z q 27 → X (b + 1) k = mC Z q k 0 ∧ X (b + 2) k = mC Z q k 1 ∧ X (b + 3) k = mC Z q k 2 ∧ X (b + 4) k = mC Z q k 3 ∧ ∀ j w : Int, 0 ≤ j → j < mC Z q k 3 → 0 ≤ w → w < 3 → X (b + 5) ((k * 3 + j) * 3 + w) = mC Z q k (4 + 3 * j + w)
def nR (Z : Nat → Int → Int) (q : Nat) (X : Nat → Int → Int) (n : Nat) : Prop := X n 1 = mG Z q 1 ∧ X n 2 = mG Z q 2 ∧ X n 5 = mG Z q 5 ∧ X n 6 = Z q 26 ∧ ∀ a, 0 ≤ a → a < 6 → (a < Z q 26 → X (n + 1) a = mG Z q (7 + a)) ∧ (Z q 26 ≤ a → 0 ≤ X (n + 1) a ∧ X (n + 1) a ≤ 99)
/-- what stands in a chart from its start on -/
def chI (X : Nat → Int → Int) (i : Nat) : Prop := X (i + 9) 0 = 0 ∧ X (i + 11) 0 = 0
def dR (Z : Nat → Int → Int) (q : Nat) (X : Nat → Int → Int) (R : Nat → Int → Option Nat) (i : Nat) : Prop := (vZ Z q ∧ chI X i) ∧ X i 2 = Z q 27 - 1 ∧ (bR Z q X (cb R i) ∧ cb R i + 5 < i) ∧ ∀ k : Nat, (k : Int) < Z q 27 → (1 ≤ k → X (i + 9) k = rP Z q k) ∧ X (i + 10) k = wyP (rP Z q) k ∧ X (i + 11) k = sHg (rP Z q) k
theorem vZ_n {Z : Nat → Int → Int} {q : Nat} (h : vZ Z q) : ((Z q 27).toNat : Int) = Z q 27 ∧ 1 ≤ (Z q 27).toNat ∧ (Z q 27).toNat ≤ 15 := by
  have := h.1
  exact ⟨by omega, by omega, by omega⟩
theorem vZ_p {Z : Nat → Int → Int} {q : Nat} (h : vZ Z q) : sPar (rP Z q) (Z q 27 - 1).toNat := rP_par h.2.1
theorem vZ_P {Z : Nat → Int → Int} {q k : Nat} (h : vZ Z q) (h1 : 1 ≤ k) (h2 : (k : Int) < Z q 27) : rP Z q k < k := vZ_p h k h1 (by omega)
theorem vZ_c {Z : Nat → Int → Int} {q k : Nat} (h : vZ Z q) (h1 : 1 ≤ k) (h2 : (k : Int) < Z q 27) : mC Z q k 0 = rP Z q k := by
  have e := rP_c h.2.1 h1 (show k ≤ (Z q 27 - 1).toNat by omega)
  unfold mPar at e
  rw [if_neg (by omega)] at e
  exact e
theorem wy_s {P : Nat → Nat} {k : Nat} (h : P k < k) (hk : k < 15) : zOr (wyP P (P k)) (zShl 1 k) = wyP P k := by
  refine zb_ext (zI_rg _) (bS_rg _ _) fun j hj => ?_
  unfold wyP
  rw [zb_or, zb_bS _ _ _ (by decide) hj, zb_one (by omega) hj, zb_bS _ _ _ (by decide) hj, onW_s h]
  by_cases e : j = k
  · subst e
    simp [hk]
  · simp [e]
abbrev cX1_draw : ByteArray := prog_3_method_2_code
def yX1_draw : MethodName := ⟨RX1, "draw", "(LWorkChains$Blocks;)V"⟩
theorem dX1_draw_0 : decode cX1_draw 0 = .ok (.aload_n 0, 1) := by decide +kernel
theorem dX1_draw_1 : decode cX1_draw 1 = .ok (.aload_n 1, 1) := by decide +kernel
theorem dX1_draw_2 : decode cX1_draw 2 = .ok (.putfield 21, 3) := by decide +kernel
theorem dX1_draw_5 : decode cX1_draw 5 = .ok (.aload_n 0, 1) := by decide +kernel
theorem dX1_draw_6 : decode cX1_draw 6 = .ok (.iconst 0, 1) := by decide +kernel
theorem dX1_draw_7 : decode cX1_draw 7 = .ok (.aload_n 1, 1) := by decide +kernel
theorem dX1_draw_8 : decode cX1_draw 8 = .ok (.getfield 55, 3) := by decide +kernel
theorem dX1_draw_11 : decode cX1_draw 11 = .ok (.bipush 14, 2) := by decide +kernel
theorem dX1_draw_13 : decode cX1_draw 13 = .ok (.invokestatic 59, 3) := by decide +kernel
theorem dX1_draw_16 : decode cX1_draw 16 = .ok (.invokestatic 65, 3) := by decide +kernel
theorem dX1_draw_19 : decode cX1_draw 19 = .ok (.putfield 68, 3) := by decide +kernel
theorem dX1_draw_22 : decode cX1_draw 22 = .ok (.aload_n 0, 1) := by decide +kernel
theorem dX1_draw_23 : decode cX1_draw 23 = .ok (.iconst 0, 1) := by decide +kernel
theorem dX1_draw_24 : decode cX1_draw 24 = .ok (.putfield 69, 3) := by decide +kernel
theorem dX1_draw_27 : decode cX1_draw 27 = .ok (.aload_n 0, 1) := by decide +kernel
theorem dX1_draw_28 : decode cX1_draw 28 = .ok (.getfield 29, 3) := by decide +kernel
theorem dX1_draw_31 : decode cX1_draw 31 = .ok (.iconst 0, 1) := by decide +kernel
theorem dX1_draw_32 : decode cX1_draw 32 = .ok (.iconst 1, 1) := by decide +kernel
theorem dX1_draw_33 : decode cX1_draw 33 = .ok (.iastore, 1) := by decide +kernel
theorem dX1_draw_34 : decode cX1_draw 34 = .ok (.iconst 1, 1) := by decide +kernel
theorem dX1_draw_35 : decode cX1_draw 35 = .ok (.istore_n 2, 1) := by decide +kernel
theorem dX1_draw_36 : decode cX1_draw 36 = .ok (.iload_n 2, 1) := by decide +kernel
theorem dX1_draw_37 : decode cX1_draw 37 = .ok (.aload_n 0, 1) := by decide +kernel
theorem dX1_draw_38 : decode cX1_draw 38 = .ok (.getfield 68, 3) := by decide +kernel
theorem dX1_draw_41 : decode cX1_draw 41 = .ok (.if_icmp .gt 76, 3) := by decide +kernel
theorem dX1_draw_44 : decode cX1_draw 44 = .ok (.aload_n 1, 1) := by decide +kernel
theorem dX1_draw_45 : decode cX1_draw 45 = .ok (.getfield 72, 3) := by decide +kernel
theorem dX1_draw_48 : decode cX1_draw 48 = .ok (.iload_n 2, 1) := by decide +kernel
theorem dX1_draw_49 : decode cX1_draw 49 = .ok (.iaload, 1) := by decide +kernel
theorem dX1_draw_50 : decode cX1_draw 50 = .ok (.istore_n 3, 1) := by decide +kernel
theorem dX1_draw_51 : decode cX1_draw 51 = .ok (.aload_n 0, 1) := by decide +kernel
theorem dX1_draw_52 : decode cX1_draw 52 = .ok (.getfield 25, 3) := by decide +kernel
theorem dX1_draw_55 : decode cX1_draw 55 = .ok (.iload_n 2, 1) := by decide +kernel
theorem dX1_draw_56 : decode cX1_draw 56 = .ok (.iload_n 3, 1) := by decide +kernel
theorem dX1_draw_57 : decode cX1_draw 57 = .ok (.ifCond .lt 12, 3) := by decide +kernel
theorem dX1_draw_60 : decode cX1_draw 60 = .ok (.iload_n 3, 1) := by decide +kernel
theorem dX1_draw_61 : decode cX1_draw 61 = .ok (.iload_n 2, 1) := by decide +kernel
theorem dX1_draw_62 : decode cX1_draw 62 = .ok (.if_icmp .ge 7, 3) := by decide +kernel
theorem dX1_draw_65 : decode cX1_draw 65 = .ok (.iload_n 3, 1) := by decide +kernel
theorem dX1_draw_66 : decode cX1_draw 66 = .ok (.goto 4, 3) := by decide +kernel
theorem dX1_draw_69 : decode cX1_draw 69 = .ok (.iconst 0, 1) := by decide +kernel
theorem dX1_draw_70 : decode cX1_draw 70 = .ok (.iastore, 1) := by decide +kernel
theorem dX1_draw_71 : decode cX1_draw 71 = .ok (.aload_n 0, 1) := by decide +kernel
theorem dX1_draw_72 : decode cX1_draw 72 = .ok (.getfield 29, 3) := by decide +kernel
theorem dX1_draw_75 : decode cX1_draw 75 = .ok (.iload_n 2, 1) := by decide +kernel
theorem dX1_draw_76 : decode cX1_draw 76 = .ok (.aload_n 0, 1) := by decide +kernel
theorem dX1_draw_77 : decode cX1_draw 77 = .ok (.getfield 29, 3) := by decide +kernel
theorem dX1_draw_80 : decode cX1_draw 80 = .ok (.aload_n 0, 1) := by decide +kernel
theorem dX1_draw_81 : decode cX1_draw 81 = .ok (.getfield 25, 3) := by decide +kernel
theorem dX1_draw_84 : decode cX1_draw 84 = .ok (.iload_n 2, 1) := by decide +kernel
theorem dX1_draw_85 : decode cX1_draw 85 = .ok (.iaload, 1) := by decide +kernel
theorem dX1_draw_86 : decode cX1_draw 86 = .ok (.iaload, 1) := by decide +kernel
theorem dX1_draw_87 : decode cX1_draw 87 = .ok (.iconst 1, 1) := by decide +kernel
theorem dX1_draw_88 : decode cX1_draw 88 = .ok (.iload_n 2, 1) := by decide +kernel
theorem dX1_draw_89 : decode cX1_draw 89 = .ok (.ishl, 1) := by decide +kernel
theorem dX1_draw_90 : decode cX1_draw 90 = .ok (.ior, 1) := by decide +kernel
theorem dX1_draw_91 : decode cX1_draw 91 = .ok (.iastore, 1) := by decide +kernel
theorem dX1_draw_92 : decode cX1_draw 92 = .ok (.aload_n 0, 1) := by decide +kernel
theorem dX1_draw_93 : decode cX1_draw 93 = .ok (.getfield 32, 3) := by decide +kernel
theorem dX1_draw_96 : decode cX1_draw 96 = .ok (.iload_n 2, 1) := by decide +kernel
theorem dX1_draw_97 : decode cX1_draw 97 = .ok (.aload_n 0, 1) := by decide +kernel
theorem dX1_draw_98 : decode cX1_draw 98 = .ok (.getfield 32, 3) := by decide +kernel
theorem dX1_draw_101 : decode cX1_draw 101 = .ok (.aload_n 0, 1) := by decide +kernel
theorem dX1_draw_102 : decode cX1_draw 102 = .ok (.getfield 25, 3) := by decide +kernel
theorem dX1_draw_105 : decode cX1_draw 105 = .ok (.iload_n 2, 1) := by decide +kernel
theorem dX1_draw_106 : decode cX1_draw 106 = .ok (.iaload, 1) := by decide +kernel
theorem dX1_draw_107 : decode cX1_draw 107 = .ok (.iaload, 1) := by decide +kernel
theorem dX1_draw_108 : decode cX1_draw 108 = .ok (.iconst 1, 1) := by decide +kernel
theorem dX1_draw_109 : decode cX1_draw 109 = .ok (.iadd, 1) := by decide +kernel
theorem dX1_draw_110 : decode cX1_draw 110 = .ok (.iastore, 1) := by decide +kernel
theorem dX1_draw_111 : decode cX1_draw 111 = .ok (.iinc 2 1, 3) := by decide +kernel
theorem dX1_draw_114 : decode cX1_draw 114 = .ok (.goto (-78), 3) := by decide +kernel
theorem dX1_draw_117 : decode cX1_draw 117 = .ok (.return_, 1) := by decide +kernel
theorem q_394 : Cond.fieldLink RX1 21 RX1 "blocks" "LWorkChains$Blocks;" ∈ zTB := zmem 394 (by decide +kernel) rfl
theorem q_225 : Cond.fieldLink RX1 55 RX0 "last" "I" ∈ zTB := zmem 225 (by decide +kernel) rfl
theorem q_901 : Cond.methodLink RX1 59 Lib.Math.min.name ∈ zTB := zmem 901 (by decide +kernel) rfl
theorem q_902 : Cond.methodLink RX1 65 Lib.Math.max.name ∈ zTB := zmem 902 (by decide +kernel) rfl
theorem q_396 : Cond.fieldLink RX1 68 RX1 "last" "I" ∈ zTB := zmem 396 (by decide +kernel) rfl
theorem q_399 : Cond.fieldLink RX1 69 RX1 "sound" "I" ∈ zTB := zmem 399 (by decide +kernel) rfl
theorem q_404 : Cond.fieldLink RX1 29 RX1 "way" "[I" ∈ zTB := zmem 404 (by decide +kernel) rfl
theorem q_229 : Cond.fieldLink RX1 72 RX0 "parent" "[I" ∈ zTB := zmem 229 (by decide +kernel) rfl
theorem q_402 : Cond.fieldLink RX1 25 RX1 "parent" "[I" ∈ zTB := zmem 402 (by decide +kernel) rfl
theorem q_407 : Cond.fieldLink RX1 32 RX1 "height" "[I" ∈ zTB := zmem 407 (by decide +kernel) rfl
def F_X1_draw (i : Nat) (Z : Nat → Int → Int) (q : Nat) (j : Nat) (X Y : Nat → Int → Int) (R : Nat → Int → Option Nat)  : Prop := (∀ i j, rI (X i j)) → (∀ i j, rL (Y i j)) → ∀ R1 : Nat → Int → Option Nat, R1 = zU R (i) 1 (some (j)) → (∀ X2 : Nat → Int → Int, X2 = zU X (i) 2 (max (0) (min (X (j) 0) (14))) → (∀ i j, rI (X2 i j)) → (∀ X3 : Nat → Int → Int, X3 = zU X2 (i) 3 (0) → (∀ i j, rI (X3 i j)) → (∀ X4 : Nat → Int → Int, X4 = zU X3 (i + 10) (0) (1) → (∀ i j, rI (X4 i j)) → (((1 ≤ (1 : Int) ∧ (1 : Int) ≤ Z q 27) ∧ (X4 i 2 = Z q 27 - 1 ∧ X4 i 3 = 0 ∧ chI X4 i) ∧ (∀ z, z ≠ i → z ≠ i + 9 → z ≠ i + 10 → z ≠ i + 11 → X4 z = X z) ∧ ∀ e : Nat, (e : Int) < (1 : Int) → (1 ≤ e → X4 (i + 9) e = rP Z q e) ∧ X4 (i + 10) e = wyP (rP Z q) e ∧ X4 (i + 11) e = sHg (rP Z q) e) ∧ (∀ (k : Int) (X6 : Nat → Int → Int), rI k → (∀ i j, rI (X6 i j)) → ((1 ≤ k ∧ k ≤ Z q 27) ∧ (X6 i 2 = Z q 27 - 1 ∧ X6 i 3 = 0 ∧ chI X6 i) ∧ (∀ z, z ≠ i → z ≠ i + 9 → z ≠ i + 10 → z ≠ i + 11 → X6 z = X z) ∧ ∀ e : Nat, (e : Int) < k → (1 ≤ e → X6 (i + 9) e = rP Z q e) ∧ X6 (i + 10) e = wyP (rP Z q) e ∧ X6 (i + 11) e = sHg (rP Z q) e) → ((((X6 (i) 2) < k) → ((R1 = zU R i 1 (some j)) ∧ dR Z q (X6) (R1) i ∧ (∀ z, z ≠ i → z ≠ i + 9 → z ≠ i + 10 → z ≠ i + 11 → (X6) z = X z) ∧ X6 i 3 = 0)) ∧ ((¬ ((X6 (i) 2) < k)) → ((0 ≤ k ∧ k < 15) ∧ ((((X6 (j + 1) (k)) < 0) → ((0 ≤ k ∧ k < 15) ∧ (∀ X11 : Nat → Int → Int, X11 = zU X6 (i + 9) (k) (0) → (∀ i j, rI (X11 i j)) → ((0 ≤ k ∧ k < 15) ∧ ((0 ≤ (X11 (i + 9) (k)) ∧ (X11 (i + 9) (k)) < 15) ∧ ((0 ≤ k ∧ k < 15) ∧ (∀ X15 : Nat → Int → Int, X15 = zU X11 (i + 10) (k) (zOr (X11 (i + 10) (X11 (i + 9) (k))) (zShl (1) (k))) → (∀ i j, rI (X15 i j)) → ((0 ≤ k ∧ k < 15) ∧ ((0 ≤ (X15 (i + 9) (k)) ∧ (X15 (i + 9) (k)) < 15) ∧ ((0 ≤ k ∧ k < 15) ∧ ((rI ((X15 (i + 11) (X15 (i + 9) (k))) + 1)) ∧ (∀ X20 : Nat → Int → Int, X20 = zU X15 (i + 11) (k) ((X15 (i + 11) (X15 (i + 9) (k))) + 1) → (∀ i j, rI (X20 i j)) → ((rI (k + 1)) ∧ ((1 ≤ k + 1 ∧ k + 1 ≤ Z q 27) ∧ (X20 i 2 = Z q 27 - 1 ∧ X20 i 3 = 0 ∧ chI X20 i) ∧ (∀ z, z ≠ i → z ≠ i + 9 → z ≠ i + 10 → z ≠ i + 11 → X20 z = X z) ∧ ∀ e : Nat, (e : Int) < k + 1 → (1 ≤ e → X20 (i + 9) e = rP Z q e) ∧ X20 (i + 10) e = wyP (rP Z q) e ∧ X20 (i + 11) e = sHg (rP Z q) e) ∧ (((20 - (k + 1)).toNat) < ((20 - (k)).toNat))))))))))))))) ∧ ((¬ ((X6 (j + 1) (k)) < 0)) → (((k ≤ (X6 (j + 1) (k))) → ((0 ≤ k ∧ k < 15) ∧ (∀ X24 : Nat → Int → Int, X24 = zU X6 (i + 9) (k) (0) → (∀ i j, rI (X24 i j)) → ((0 ≤ k ∧ k < 15) ∧ ((0 ≤ (X24 (i + 9) (k)) ∧ (X24 (i + 9) (k)) < 15) ∧ ((0 ≤ k ∧ k < 15) ∧ (∀ X28 : Nat → Int → Int, X28 = zU X24 (i + 10) (k) (zOr (X24 (i + 10) (X24 (i + 9) (k))) (zShl (1) (k))) → (∀ i j, rI (X28 i j)) → ((0 ≤ k ∧ k < 15) ∧ ((0 ≤ (X28 (i + 9) (k)) ∧ (X28 (i + 9) (k)) < 15) ∧ ((0 ≤ k ∧ k < 15) ∧ ((rI ((X28 (i + 11) (X28 (i + 9) (k))) + 1)) ∧ (∀ X33 : Nat → Int → Int, X33 = zU X28 (i + 11) (k) ((X28 (i + 11) (X28 (i + 9) (k))) + 1) → (∀ i j, rI (X33 i j)) → ((rI (k + 1)) ∧ ((1 ≤ k + 1 ∧ k + 1 ≤ Z q 27) ∧ (X33 i 2 = Z q 27 - 1 ∧ X33 i 3 = 0 ∧ chI X33 i) ∧ (∀ z, z ≠ i → z ≠ i + 9 → z ≠ i + 10 → z ≠ i + 11 → X33 z = X z) ∧ ∀ e : Nat, (e : Int) < k + 1 → (1 ≤ e → X33 (i + 9) e = rP Z q e) ∧ X33 (i + 10) e = wyP (rP Z q) e ∧ X33 (i + 11) e = sHg (rP Z q) e) ∧ (((20 - (k + 1)).toNat) < ((20 - (k)).toNat))))))))))))))) ∧ ((¬ (k ≤ (X6 (j + 1) (k)))) → ((0 ≤ k ∧ k < 15) ∧ (∀ X36 : Nat → Int → Int, X36 = zU X6 (i + 9) (k) (X6 (j + 1) (k)) → (∀ i j, rI (X36 i j)) → ((0 ≤ k ∧ k < 15) ∧ ((0 ≤ (X36 (i + 9) (k)) ∧ (X36 (i + 9) (k)) < 15) ∧ ((0 ≤ k ∧ k < 15) ∧ (∀ X40 : Nat → Int → Int, X40 = zU X36 (i + 10) (k) (zOr (X36 (i + 10) (X36 (i + 9) (k))) (zShl (1) (k))) → (∀ i j, rI (X40 i j)) → ((0 ≤ k ∧ k < 15) ∧ ((0 ≤ (X40 (i + 9) (k)) ∧ (X40 (i + 9) (k)) < 15) ∧ ((0 ≤ k ∧ k < 15) ∧ ((rI ((X40 (i + 11) (X40 (i + 9) (k))) + 1)) ∧ (∀ X45 : Nat → Int → Int, X45 = zU X40 (i + 11) (k) ((X40 (i + 11) (X40 (i + 9) (k))) + 1) → (∀ i j, rI (X45 i j)) → ((rI (k + 1)) ∧ ((1 ≤ k + 1 ∧ k + 1 ≤ Z q 27) ∧ (X45 i 2 = Z q 27 - 1 ∧ X45 i 3 = 0 ∧ chI X45 i) ∧ (∀ z, z ≠ i → z ≠ i + 9 → z ≠ i + 10 → z ≠ i + 11 → X45 z = X z) ∧ ∀ e : Nat, (e : Int) < k + 1 → (1 ≤ e → X45 (i + 9) e = rP Z q e) ∧ X45 (i + 10) e = wyP (rP Z q) e ∧ X45 (i + 11) e = sHg (rP Z q) e) ∧ (((20 - (k + 1)).toNat) < ((20 - (k)).toNat))))))))))))))))))))))))))
set_option maxHeartbeats 4000000 in
set_option maxRecDepth 100000 in
theorem w_X1_draw {l : Launch} {D : va_G} {cy : Nat → ClassId} {bs N : Nat} {sa : Nat → Nat} {kd len : Nat → Nat} {X Y : Nat → Int → Int} {R : Nat → Int → Option Nat} {i : Nat} {Z : Nat → Int → Int} {q : Nat} (hC : zChart N kd len R i) {j : Nat} (hb : zBlocks N kd len R j)  (hF : F_X1_draw i Z q j X Y R ) : Met l yX1_draw (.code yX1_draw cX1_draw 4 none :: zTB) (zRm 1 60) (zPc D cy bs sa N kd len X Y R [.ref (bs + (i)), .ref (bs + (j))]) (zQv D cy bs N kd len (fun st => st.2.1 = Y ∧ ((st.2.2 = zU R i 1 (some j)) ∧ dR Z q (st.1) (st.2.2) i ∧ (∀ z, z ≠ i → z ≠ i + 9 → z ≠ i + 10 → z ≠ i + 11 → (st.1) z = X z) ∧ st.1 i 3 = 0))) 0 0 (zA bs) := by
  refine zstart (by decide) (Nat.le_of_ble_eq_true rfl) ?_
  intro p e s m args below meth c ls C hE hH hr hlk hnm hl hargs
  have hF := hF hH.2.2.1 hH.2.2.2
  have hS : va_S (zA bs) s.heap s.heap [] := va_S.rf
  have hl : lv_has ls 4 [(0, .ref (bs + (i))), (1, .ref (bs + (j)))] := hl
  refine lv_aload_n C.1 C.2.1 dX1_draw_0 rfl (lv_at hl 0 rfl) ?_
  refine lv_aload_n C.1 C.2.1 dX1_draw_1 rfl (lv_at hl 1 rfl) ?_
  refine zp1_1 C hH hS (zChart_n0 hC) (zChart_k0 hC) q_394 dX1_draw_2 (fun H locs hH hS => ?_)
  obtain ⟨R1, eR1⟩ : ∃ z, z = zU R (i) 1 (some (j)) := ⟨_, rfl⟩
  rw [← eR1] at hH
  have hF := hF R1 eR1
  have hC9 := zChart_putB hC eR1 hb
  have hC := hC9.1
  have hb := hC9.2
  refine lv_aload_n C.1 C.2.1 dX1_draw_5 rfl (lv_at hl 0 rfl) ?_
  refine zd_iconst C dX1_draw_6 ?_
  refine lv_aload_n C.1 C.2.1 dX1_draw_7 rfl (lv_at hl 1 rfl) ?_
  refine zg0_0 C hH (zBlocks_n0 hb) (zBlocks_k0 hb) q_225 dX1_draw_8 ?_
  refine zd_bipush C (by decide) dX1_draw_11 ?_
  refine zd_mmin C hl.1 q_901 q_626 q_141 q_627 (Nat.le_of_ble_eq_true rfl) (Nat.le_of_ble_eq_true rfl) (Nat.zero_le _) (Nat.zero_le _) (hH.2.2.1 _ _) (by decide) dX1_draw_13 ?_
  refine zd_mmax C hl.1 q_902 q_805 q_141 q_806 (Nat.le_of_ble_eq_true rfl) (Nat.le_of_ble_eq_true rfl) (Nat.zero_le _) (Nat.zero_le _) (by decide) (mn_rI (hH.2.2.1 _ _) (by decide)) dX1_draw_16 ?_
  refine zp1_2 C hH hS (zChart_n0 hC) (zChart_k0 hC) q_396 (mx_rI (by decide) (mn_rI (hH.2.2.1 _ _) (by decide))) dX1_draw_19 (fun H locs hH hS => ?_)
  obtain ⟨X2, eX2⟩ : ∃ z, z = zU X (i) 2 (max (0) (min (X (j) 0) (14))) := ⟨_, rfl⟩
  rw [← eX2] at hH
  have hF := hF X2 eX2 hH.2.2.1
  refine lv_aload_n C.1 C.2.1 dX1_draw_22 rfl (lv_at hl 0 rfl) ?_
  refine zd_iconst C dX1_draw_23 ?_
  refine zp1_3 C hH hS (zChart_n0 hC) (zChart_k0 hC) q_399 (by decide) dX1_draw_24 (fun H locs hH hS => ?_)
  obtain ⟨X3, eX3⟩ : ∃ z, z = zU X2 (i) 3 (0) := ⟨_, rfl⟩
  rw [← eX3] at hH
  have hF := hF X3 eX3 hH.2.2.1
  refine lv_aload_n C.1 C.2.1 dX1_draw_27 rfl (lv_at hl 0 rfl) ?_
  refine zg1_5 C hH (zChart_n0 hC) (zChart_k0 hC) q_404 (zChart_r10 hC) dX1_draw_28 ?_
  refine zd_iconst C dX1_draw_31 ?_
  refine zd_iconst C dX1_draw_32 ?_
  refine zd_iast C hH hS (zChart_n10 hC) (zChart_k10 hC) (by decide) (by rw [zChart_l10 hC]; decide) (by rw [zChart_l10 hC]; decide) (by decide) dX1_draw_33 (fun H locs hH hS => ?_)
  obtain ⟨X4, eX4⟩ : ∃ z, z = zU X3 (i + 10) (0) (1) := ⟨_, rfl⟩
  rw [← eX4] at hH
  have hF := hF X4 eX4 hH.2.2.1
  refine zd_iconst C dX1_draw_34 ?_
  refine lv_istore_n (lv' := [(2, .int (zI (1))), (0, .ref (bs + (i))), (1, .ref (bs + (j)))]) C.1 C.2.1 dX1_draw_35 rfl hl (by decide) rfl (fun ls hl => ?_)
  obtain ⟨hI5, hF⟩ := hF
  have L5 : ∀ (fu : Nat) (k : Int) (X6 : Nat → Int → Int), rI k → ((1 ≤ k ∧ k ≤ Z q 27) ∧ (X6 i 2 = Z q 27 - 1 ∧ X6 i 3 = 0 ∧ chI X6 i) ∧ (∀ z, z ≠ i → z ≠ i + 9 → z ≠ i + 10 → z ≠ i + 11 → X6 z = X z) ∧ ∀ e : Nat, (e : Int) < k → (1 ≤ e → X6 (i + 9) e = rP Z q e) ∧ X6 (i + 10) e = wyP (rP Z q) e ∧ X6 (i + 11) e = sHg (rP Z q) e) → ((20 - (k)).toNat) < fu → ∀ (H : Heap) (locs : List Loc) (ls : Array Slot), zH D cy bs N kd len X6 Y R1 H → va_S (zA bs) s.heap H locs → lv_has ls 4 [(2, .int (zI (k))), (0, .ref (bs + (i))), (1, .ref (bs + (j)))] → W p l e (zRm 1 60) s m args below meth c H locs 0 0 (MQ below (zQv D cy bs N kd len (fun st => st.2.1 = Y ∧ ((st.2.2 = zU R i 1 (some j)) ∧ dR Z q (st.1) (st.2.2) i ∧ (∀ z, z ≠ i → z ≠ i + 9 → z ≠ i + 10 → z ≠ i + 11 → (st.1) z = X z) ∧ st.1 i 3 = 0))) args s 0 0 (zA bs)) (F0 m 36 ls []) := by
    intro fu
    induction fu with
    | zero => intro k X6 _ _ hmu; exact absurd hmu (Nat.not_lt_zero _)
    | succ fu ih5 =>
      intro k X6 hk hI hmu5 H locs ls hH hS hl
      have hF := hF k X6 hk hH.2.2.1 hI
      refine lv_iload_n C.1 C.2.1 dX1_draw_36 rfl (lv_at hl 0 rfl) ?_
      refine lv_aload_n C.1 C.2.1 dX1_draw_37 rfl (lv_at hl 1 rfl) ?_
      refine zg1_2 C hH (zChart_n0 hC) (zChart_k0 hC) q_396 dX1_draw_38 ?_
      refine zd_icmp_gt C hk (hH.2.2.1 _ _) 117 dX1_draw_41 (by decide) (fun c7 => ?_) (fun c7 => ?_)
      · have hF := hF.1 c7
        exact zd_vret C hr hlk hH hS (⟨rfl, hF⟩) dX1_draw_117
      · have hF := hF.2 c7
        refine lv_aload_n C.1 C.2.1 dX1_draw_44 rfl (lv_at hl 2 rfl) ?_
        refine zg0_1 C hH (zBlocks_n0 hb) (zBlocks_k0 hb) q_229 (zBlocks_r1 hb) dX1_draw_45 ?_
        refine lv_iload_n C.1 C.2.1 dX1_draw_48 rfl (lv_at hl 0 rfl) ?_
        obtain ⟨o8, hF⟩ := hF
        refine zd_iald C hH (zBlocks_n1 hb) (zBlocks_k1 hb) o8.1 (by rw [zBlocks_l1 hb]; exact o8.2) (by rw [zBlocks_l1 hb]; decide) dX1_draw_49 ?_
        refine lv_istore_n (lv' := [(3, .int (zI (X6 (j + 1) (k)))), (2, .int (zI (k))), (0, .ref (bs + (i))), (1, .ref (bs + (j)))]) C.1 C.2.1 dX1_draw_50 rfl hl (by decide) rfl (fun ls hl => ?_)
        refine lv_aload_n C.1 C.2.1 dX1_draw_51 rfl (lv_at hl 2 rfl) ?_
        refine zg1_4 C hH (zChart_n0 hC) (zChart_k0 hC) q_402 (zChart_r9 hC) dX1_draw_52 ?_
        refine lv_iload_n C.1 C.2.1 dX1_draw_55 rfl (lv_at hl 1 rfl) ?_
        refine lv_iload_n C.1 C.2.1 dX1_draw_56 rfl (lv_at hl 0 rfl) ?_
        refine zd_if_lt C (hH.2.2.1 _ _) 69 dX1_draw_57 (by decide) (fun c9 => ?_) (fun c9 => ?_)
        · have hF := hF.1 c9
          refine zd_iconst C dX1_draw_69 ?_
          obtain ⟨o10, hF⟩ := hF
          have gg1 := hH.2.2.1
          refine zd_iast C hH hS (zChart_n9 hC) (zChart_k9 hC) o10.1 (by rw [zChart_l9 hC]; exact o10.2) (by rw [zChart_l9 hC]; decide) (by decide) dX1_draw_70 (fun H locs hH hS => ?_)
          obtain ⟨X11, eX11⟩ : ∃ z, z = zU X6 (i + 9) (k) (0) := ⟨_, rfl⟩
          rw [← eX11] at hH
          have hF := hF X11 eX11 hH.2.2.1
          refine lv_aload_n C.1 C.2.1 dX1_draw_71 rfl (lv_at hl 2 rfl) ?_
          refine zg1_5 C hH (zChart_n0 hC) (zChart_k0 hC) q_404 (zChart_r10 hC) dX1_draw_72 ?_
          refine lv_iload_n C.1 C.2.1 dX1_draw_75 rfl (lv_at hl 1 rfl) ?_
          refine lv_aload_n C.1 C.2.1 dX1_draw_76 rfl (lv_at hl 2 rfl) ?_
          refine zg1_5 C hH (zChart_n0 hC) (zChart_k0 hC) q_404 (zChart_r10 hC) dX1_draw_77 ?_
          refine lv_aload_n C.1 C.2.1 dX1_draw_80 rfl (lv_at hl 2 rfl) ?_
          refine zg1_4 C hH (zChart_n0 hC) (zChart_k0 hC) q_402 (zChart_r9 hC) dX1_draw_81 ?_
          refine lv_iload_n C.1 C.2.1 dX1_draw_84 rfl (lv_at hl 1 rfl) ?_
          obtain ⟨o12, hF⟩ := hF
          refine zd_iald C hH (zChart_n9 hC) (zChart_k9 hC) o12.1 (by rw [zChart_l9 hC]; exact o12.2) (by rw [zChart_l9 hC]; decide) dX1_draw_85 ?_
          obtain ⟨o13, hF⟩ := hF
          refine zd_iald C hH (zChart_n10 hC) (zChart_k10 hC) o13.1 (by rw [zChart_l10 hC]; exact o13.2) (by rw [zChart_l10 hC]; decide) dX1_draw_86 ?_
          refine zd_iconst C dX1_draw_87 ?_
          refine lv_iload_n C.1 C.2.1 dX1_draw_88 rfl (lv_at hl 1 rfl) ?_
          refine zd_ishl C dX1_draw_89 ?_
          refine zd_ior C dX1_draw_90 ?_
          obtain ⟨o14, hF⟩ := hF
          refine zd_iast C hH hS (zChart_n10 hC) (zChart_k10 hC) o14.1 (by rw [zChart_l10 hC]; exact o14.2) (by rw [zChart_l10 hC]; decide) (zI_rg _) dX1_draw_91 (fun H locs hH hS => ?_)
          obtain ⟨X15, eX15⟩ : ∃ z, z = zU X11 (i + 10) (k) (zOr (X11 (i + 10) (X11 (i + 9) (k))) (zShl (1) (k))) := ⟨_, rfl⟩
          rw [← eX15] at hH
          have hF := hF X15 eX15 hH.2.2.1
          refine lv_aload_n C.1 C.2.1 dX1_draw_92 rfl (lv_at hl 2 rfl) ?_
          refine zg1_6 C hH (zChart_n0 hC) (zChart_k0 hC) q_407 (zChart_r11 hC) dX1_draw_93 ?_
          refine lv_iload_n C.1 C.2.1 dX1_draw_96 rfl (lv_at hl 1 rfl) ?_
          refine lv_aload_n C.1 C.2.1 dX1_draw_97 rfl (lv_at hl 2 rfl) ?_
          refine zg1_6 C hH (zChart_n0 hC) (zChart_k0 hC) q_407 (zChart_r11 hC) dX1_draw_98 ?_
          refine lv_aload_n C.1 C.2.1 dX1_draw_101 rfl (lv_at hl 2 rfl) ?_
          refine zg1_4 C hH (zChart_n0 hC) (zChart_k0 hC) q_402 (zChart_r9 hC) dX1_draw_102 ?_
          refine lv_iload_n C.1 C.2.1 dX1_draw_105 rfl (lv_at hl 1 rfl) ?_
          obtain ⟨o16, hF⟩ := hF
          refine zd_iald C hH (zChart_n9 hC) (zChart_k9 hC) o16.1 (by rw [zChart_l9 hC]; exact o16.2) (by rw [zChart_l9 hC]; decide) dX1_draw_106 ?_
          obtain ⟨o17, hF⟩ := hF
          refine zd_iald C hH (zChart_n11 hC) (zChart_k11 hC) o17.1 (by rw [zChart_l11 hC]; exact o17.2) (by rw [zChart_l11 hC]; decide) dX1_draw_107 ?_
          refine zd_iconst C dX1_draw_108 ?_
          refine zd_iadd C dX1_draw_109 ?_
          obtain ⟨o18, hF⟩ := hF
          obtain ⟨o19, hF⟩ := hF
          refine zd_iast C hH hS (zChart_n11 hC) (zChart_k11 hC) o18.1 (by rw [zChart_l11 hC]; exact o18.2) (by rw [zChart_l11 hC]; decide) o19 dX1_draw_110 (fun H locs hH hS => ?_)
          obtain ⟨X20, eX20⟩ : ∃ z, z = zU X15 (i + 11) (k) ((X15 (i + 11) (X15 (i + 9) (k))) + 1) := ⟨_, rfl⟩
          rw [← eX20] at hH
          have hF := hF X20 eX20 hH.2.2.1
          refine zd_iinc (k := 1) (lv' := [(2, .int (zI (k + 1))), (3, .int (zI (X6 (j + 1) (k)))), (0, .ref (bs + (i))), (1, .ref (bs + (j)))]) C hl rfl dX1_draw_111 (by decide) rfl (fun ls hl => ?_)
          refine lv_goto (tgt := 36) C.1 C.2.1 dX1_draw_114 (by decide) ?_
          obtain ⟨o21, hF⟩ := hF
          exact ih5 (k + 1) X20 o21 hF.1 (Nat.lt_of_lt_of_le hF.2 (Nat.le_of_lt_succ hmu5)) _ _ _ hH hS (lv_sub hl [0, 2, 3] rfl)
        · have hF := hF.2 c9
          refine lv_iload_n C.1 C.2.1 dX1_draw_60 rfl (lv_at hl 0 rfl) ?_
          refine lv_iload_n C.1 C.2.1 dX1_draw_61 rfl (lv_at hl 1 rfl) ?_
          refine zd_icmp_ge C (hH.2.2.1 _ _) hk 69 dX1_draw_62 (by decide) (fun c22 => ?_) (fun c22 => ?_)
          · have hF := hF.1 c22
            refine zd_iconst C dX1_draw_69 ?_
            obtain ⟨o23, hF⟩ := hF
            have gg2 := hH.2.2.1
            refine zd_iast C hH hS (zChart_n9 hC) (zChart_k9 hC) o23.1 (by rw [zChart_l9 hC]; exact o23.2) (by rw [zChart_l9 hC]; decide) (by decide) dX1_draw_70 (fun H locs hH hS => ?_)
            obtain ⟨X24, eX24⟩ : ∃ z, z = zU X6 (i + 9) (k) (0) := ⟨_, rfl⟩
            rw [← eX24] at hH
            have hF := hF X24 eX24 hH.2.2.1
            refine lv_aload_n C.1 C.2.1 dX1_draw_71 rfl (lv_at hl 2 rfl) ?_
            refine zg1_5 C hH (zChart_n0 hC) (zChart_k0 hC) q_404 (zChart_r10 hC) dX1_draw_72 ?_
            refine lv_iload_n C.1 C.2.1 dX1_draw_75 rfl (lv_at hl 1 rfl) ?_
            refine lv_aload_n C.1 C.2.1 dX1_draw_76 rfl (lv_at hl 2 rfl) ?_
            refine zg1_5 C hH (zChart_n0 hC) (zChart_k0 hC) q_404 (zChart_r10 hC) dX1_draw_77 ?_
            refine lv_aload_n C.1 C.2.1 dX1_draw_80 rfl (lv_at hl 2 rfl) ?_
            refine zg1_4 C hH (zChart_n0 hC) (zChart_k0 hC) q_402 (zChart_r9 hC) dX1_draw_81 ?_
            refine lv_iload_n C.1 C.2.1 dX1_draw_84 rfl (lv_at hl 1 rfl) ?_
            obtain ⟨o25, hF⟩ := hF
            refine zd_iald C hH (zChart_n9 hC) (zChart_k9 hC) o25.1 (by rw [zChart_l9 hC]; exact o25.2) (by rw [zChart_l9 hC]; decide) dX1_draw_85 ?_
            obtain ⟨o26, hF⟩ := hF
            refine zd_iald C hH (zChart_n10 hC) (zChart_k10 hC) o26.1 (by rw [zChart_l10 hC]; exact o26.2) (by rw [zChart_l10 hC]; decide) dX1_draw_86 ?_
            refine zd_iconst C dX1_draw_87 ?_
            refine lv_iload_n C.1 C.2.1 dX1_draw_88 rfl (lv_at hl 1 rfl) ?_
            refine zd_ishl C dX1_draw_89 ?_
            refine zd_ior C dX1_draw_90 ?_
            obtain ⟨o27, hF⟩ := hF
            refine zd_iast C hH hS (zChart_n10 hC) (zChart_k10 hC) o27.1 (by rw [zChart_l10 hC]; exact o27.2) (by rw [zChart_l10 hC]; decide) (zI_rg _) dX1_draw_91 (fun H locs hH hS => ?_)
            obtain ⟨X28, eX28⟩ : ∃ z, z = zU X24 (i + 10) (k) (zOr (X24 (i + 10) (X24 (i + 9) (k))) (zShl (1) (k))) := ⟨_, rfl⟩
            rw [← eX28] at hH
            have hF := hF X28 eX28 hH.2.2.1
            refine lv_aload_n C.1 C.2.1 dX1_draw_92 rfl (lv_at hl 2 rfl) ?_
            refine zg1_6 C hH (zChart_n0 hC) (zChart_k0 hC) q_407 (zChart_r11 hC) dX1_draw_93 ?_
            refine lv_iload_n C.1 C.2.1 dX1_draw_96 rfl (lv_at hl 1 rfl) ?_
            refine lv_aload_n C.1 C.2.1 dX1_draw_97 rfl (lv_at hl 2 rfl) ?_
            refine zg1_6 C hH (zChart_n0 hC) (zChart_k0 hC) q_407 (zChart_r11 hC) dX1_draw_98 ?_
            refine lv_aload_n C.1 C.2.1 dX1_draw_101 rfl (lv_at hl 2 rfl) ?_
            refine zg1_4 C hH (zChart_n0 hC) (zChart_k0 hC) q_402 (zChart_r9 hC) dX1_draw_102 ?_
            refine lv_iload_n C.1 C.2.1 dX1_draw_105 rfl (lv_at hl 1 rfl) ?_
            obtain ⟨o29, hF⟩ := hF
            refine zd_iald C hH (zChart_n9 hC) (zChart_k9 hC) o29.1 (by rw [zChart_l9 hC]; exact o29.2) (by rw [zChart_l9 hC]; decide) dX1_draw_106 ?_
            obtain ⟨o30, hF⟩ := hF
            refine zd_iald C hH (zChart_n11 hC) (zChart_k11 hC) o30.1 (by rw [zChart_l11 hC]; exact o30.2) (by rw [zChart_l11 hC]; decide) dX1_draw_107 ?_
            refine zd_iconst C dX1_draw_108 ?_
            refine zd_iadd C dX1_draw_109 ?_
            obtain ⟨o31, hF⟩ := hF
            obtain ⟨o32, hF⟩ := hF
            refine zd_iast C hH hS (zChart_n11 hC) (zChart_k11 hC) o31.1 (by rw [zChart_l11 hC]; exact o31.2) (by rw [zChart_l11 hC]; decide) o32 dX1_draw_110 (fun H locs hH hS => ?_)
            obtain ⟨X33, eX33⟩ : ∃ z, z = zU X28 (i + 11) (k) ((X28 (i + 11) (X28 (i + 9) (k))) + 1) := ⟨_, rfl⟩
            rw [← eX33] at hH
            have hF := hF X33 eX33 hH.2.2.1
            refine zd_iinc (k := 1) (lv' := [(2, .int (zI (k + 1))), (3, .int (zI (X6 (j + 1) (k)))), (0, .ref (bs + (i))), (1, .ref (bs + (j)))]) C hl rfl dX1_draw_111 (by decide) rfl (fun ls hl => ?_)
            refine lv_goto (tgt := 36) C.1 C.2.1 dX1_draw_114 (by decide) ?_
            obtain ⟨o34, hF⟩ := hF
            exact ih5 (k + 1) X33 o34 hF.1 (Nat.lt_of_lt_of_le hF.2 (Nat.le_of_lt_succ hmu5)) _ _ _ hH hS (lv_sub hl [0, 2, 3] rfl)
          · have hF := hF.2 c22
            refine lv_iload_n C.1 C.2.1 dX1_draw_65 rfl (lv_at hl 0 rfl) ?_
            refine lv_goto (tgt := 70) C.1 C.2.1 dX1_draw_66 (by decide) ?_
            obtain ⟨o35, hF⟩ := hF
            have gg3 := hH.2.2.1
            refine zd_iast C hH hS (zChart_n9 hC) (zChart_k9 hC) o35.1 (by rw [zChart_l9 hC]; exact o35.2) (by rw [zChart_l9 hC]; decide) (hH.2.2.1 _ _) dX1_draw_70 (fun H locs hH hS => ?_)
            obtain ⟨X36, eX36⟩ : ∃ z, z = zU X6 (i + 9) (k) (X6 (j + 1) (k)) := ⟨_, rfl⟩
            rw [← eX36] at hH
            have hF := hF X36 eX36 hH.2.2.1
            refine lv_aload_n C.1 C.2.1 dX1_draw_71 rfl (lv_at hl 2 rfl) ?_
            refine zg1_5 C hH (zChart_n0 hC) (zChart_k0 hC) q_404 (zChart_r10 hC) dX1_draw_72 ?_
            refine lv_iload_n C.1 C.2.1 dX1_draw_75 rfl (lv_at hl 1 rfl) ?_
            refine lv_aload_n C.1 C.2.1 dX1_draw_76 rfl (lv_at hl 2 rfl) ?_
            refine zg1_5 C hH (zChart_n0 hC) (zChart_k0 hC) q_404 (zChart_r10 hC) dX1_draw_77 ?_
            refine lv_aload_n C.1 C.2.1 dX1_draw_80 rfl (lv_at hl 2 rfl) ?_
            refine zg1_4 C hH (zChart_n0 hC) (zChart_k0 hC) q_402 (zChart_r9 hC) dX1_draw_81 ?_
            refine lv_iload_n C.1 C.2.1 dX1_draw_84 rfl (lv_at hl 1 rfl) ?_
            obtain ⟨o37, hF⟩ := hF
            refine zd_iald C hH (zChart_n9 hC) (zChart_k9 hC) o37.1 (by rw [zChart_l9 hC]; exact o37.2) (by rw [zChart_l9 hC]; decide) dX1_draw_85 ?_
            obtain ⟨o38, hF⟩ := hF
            refine zd_iald C hH (zChart_n10 hC) (zChart_k10 hC) o38.1 (by rw [zChart_l10 hC]; exact o38.2) (by rw [zChart_l10 hC]; decide) dX1_draw_86 ?_
            refine zd_iconst C dX1_draw_87 ?_
            refine lv_iload_n C.1 C.2.1 dX1_draw_88 rfl (lv_at hl 1 rfl) ?_
            refine zd_ishl C dX1_draw_89 ?_
            refine zd_ior C dX1_draw_90 ?_
            obtain ⟨o39, hF⟩ := hF
            refine zd_iast C hH hS (zChart_n10 hC) (zChart_k10 hC) o39.1 (by rw [zChart_l10 hC]; exact o39.2) (by rw [zChart_l10 hC]; decide) (zI_rg _) dX1_draw_91 (fun H locs hH hS => ?_)
            obtain ⟨X40, eX40⟩ : ∃ z, z = zU X36 (i + 10) (k) (zOr (X36 (i + 10) (X36 (i + 9) (k))) (zShl (1) (k))) := ⟨_, rfl⟩
            rw [← eX40] at hH
            have hF := hF X40 eX40 hH.2.2.1
            refine lv_aload_n C.1 C.2.1 dX1_draw_92 rfl (lv_at hl 2 rfl) ?_
            refine zg1_6 C hH (zChart_n0 hC) (zChart_k0 hC) q_407 (zChart_r11 hC) dX1_draw_93 ?_
            refine lv_iload_n C.1 C.2.1 dX1_draw_96 rfl (lv_at hl 1 rfl) ?_
            refine lv_aload_n C.1 C.2.1 dX1_draw_97 rfl (lv_at hl 2 rfl) ?_
            refine zg1_6 C hH (zChart_n0 hC) (zChart_k0 hC) q_407 (zChart_r11 hC) dX1_draw_98 ?_
            refine lv_aload_n C.1 C.2.1 dX1_draw_101 rfl (lv_at hl 2 rfl) ?_
            refine zg1_4 C hH (zChart_n0 hC) (zChart_k0 hC) q_402 (zChart_r9 hC) dX1_draw_102 ?_
            refine lv_iload_n C.1 C.2.1 dX1_draw_105 rfl (lv_at hl 1 rfl) ?_
            obtain ⟨o41, hF⟩ := hF
            refine zd_iald C hH (zChart_n9 hC) (zChart_k9 hC) o41.1 (by rw [zChart_l9 hC]; exact o41.2) (by rw [zChart_l9 hC]; decide) dX1_draw_106 ?_
            obtain ⟨o42, hF⟩ := hF
            refine zd_iald C hH (zChart_n11 hC) (zChart_k11 hC) o42.1 (by rw [zChart_l11 hC]; exact o42.2) (by rw [zChart_l11 hC]; decide) dX1_draw_107 ?_
            refine zd_iconst C dX1_draw_108 ?_
            refine zd_iadd C dX1_draw_109 ?_
            obtain ⟨o43, hF⟩ := hF
            obtain ⟨o44, hF⟩ := hF
            refine zd_iast C hH hS (zChart_n11 hC) (zChart_k11 hC) o43.1 (by rw [zChart_l11 hC]; exact o43.2) (by rw [zChart_l11 hC]; decide) o44 dX1_draw_110 (fun H locs hH hS => ?_)
            obtain ⟨X45, eX45⟩ : ∃ z, z = zU X40 (i + 11) (k) ((X40 (i + 11) (X40 (i + 9) (k))) + 1) := ⟨_, rfl⟩
            rw [← eX45] at hH
            have hF := hF X45 eX45 hH.2.2.1
            refine zd_iinc (k := 1) (lv' := [(2, .int (zI (k + 1))), (3, .int (zI (X6 (j + 1) (k)))), (0, .ref (bs + (i))), (1, .ref (bs + (j)))]) C hl rfl dX1_draw_111 (by decide) rfl (fun ls hl => ?_)
            refine lv_goto (tgt := 36) C.1 C.2.1 dX1_draw_114 (by decide) ?_
            obtain ⟨o46, hF⟩ := hF
            exact ih5 (k + 1) X45 o46 hF.1 (Nat.lt_of_lt_of_le hF.2 (Nat.le_of_lt_succ hmu5)) _ _ _ hH hS (lv_sub hl [0, 2, 3] rfl)
  exact L5 (((20 - ((1 : Int))).toNat) + 1) ((1 : Int)) X4 (by decide) hI5 (Nat.lt_succ_self _) _ _ _ hH hS (lv_sub hl [0, 1, 2] rfl)
theorem nat_of {k : Int} (h : 0 ≤ k) : ∃ n : Nat, k = n := ⟨k.toNat, by omega⟩
theorem v_X1_draw {X Y : Nat → Int → Int} {R : Nat → Int → Option Nat} {i : Nat} {Z : Nat → Int → Int} {q : Nat} {j : Nat}  (hp : ((vZ Z q ∧ chI X i) ∧ bR Z q X j) ∧ j + 5 < i) : F_X1_draw i Z q j X Y R  := by
  unfold F_X1_draw
  intro hX hY
  obtain ⟨⟨⟨hv, hch⟩, hb⟩, hj⟩ := hp
  obtain ⟨e27, n1, n15⟩ := vZ_n hv
  have hb0 := hb.1
  intro R1
  intro eR1
  intro X2
  intro eX2
  intro rX2
  intro X3
  intro eX3
  intro rX3
  intro X4
  intro eX4
  have o4 : ∀ z, z ≠ i → z ≠ i + 10 → X4 z = X z := fun z a b => by rw [eX4, zU_o b, eX3, zU_o a, eX2, zU_o a]
  intro rX4
  refine ⟨?_, ?_⟩
  · refine ⟨by omega, ⟨?_, ?_, ?_⟩, fun z a b g d => o4 z a g, fun e he => ?_⟩
    · rw [eX4, zU_o (by omega), eX3, zU_n (by omega), eX2, zU_s]
      omega
    · rw [eX4, zU_o (by omega), eX3, zU_s]
    · unfold chI
      rw [o4 (i + 9) (by omega) (by omega), o4 (i + 11) (by omega) (by omega)]
      exact hch
    · have e0 : e = 0 := by omega
      subst e0
      refine ⟨fun g => absurd g (by decide), ?_, ?_⟩
      · rw [eX4]
        show zU X3 (i + 10) 0 1 (i + 10) 0 = _
        rw [zU_s]
        exact wyP_0.symm
      · rw [o4 (i + 11) (by omega) (by omega), sHg_0]
        exact hch.2
  intro k X6
  intro _
  intro rX6
  intro h1
  obtain ⟨⟨k1, k2⟩, ⟨f2, f3, fc⟩, fo, fk⟩ := h1
  obtain ⟨kn, rfl⟩ := nat_of (show 0 ≤ k by omega)
  refine ⟨?_, ?_⟩
  · intro c1
    have hcb : cb R1 i = j := by
      unfold cb
      rw [eR1, zU_s]
      rfl
    refine ⟨eR1, ⟨⟨hv, fc⟩, f2, ⟨?_, by omega⟩, fun e he => fk e (by omega)⟩, fo, f3⟩
    rw [hcb]
    unfold bR
    rw [fo j (by omega) (by omega) (by omega) (by omega), fo (j + 1) (by omega) (by omega) (by omega) (by omega), fo (j + 2) (by omega) (by omega) (by omega) (by omega), fo (j + 3) (by omega) (by omega) (by omega) (by omega), fo (j + 4) (by omega) (by omega) (by omega) (by omega), fo (j + 5) (by omega) (by omega) (by omega) (by omega)]
    exact hb
  intro c2
  have kl : (kn : Int) < Z q 27 := by omega
  have hpk := vZ_P hv (show 1 ≤ kn by omega) kl
  have hpar : X6 (j + 1) kn = rP Z q kn := by
    rw [fo (j + 1) (by omega) (by omega) (by omega) (by omega), (hb.2.2 kn (by omega) kl).1, vZ_c hv (by omega) kl]
  refine ⟨?_, ?_⟩
  · first | omega | exact ⟨by omega, by omega⟩ | decide | assumption | exact ⟨by omega, by omega, by omega⟩ | exact ⟨by decide, by decide⟩
  refine ⟨?_, ?_⟩
  · intro c3
    omega
  intro c4
  refine ⟨?_, ?_⟩
  · intro c5
    omega
  intro c6
  refine ⟨?_, ?_⟩
  · first | omega | exact ⟨by omega, by omega⟩ | decide | assumption | exact ⟨by omega, by omega, by omega⟩ | exact ⟨by decide, by decide⟩
  intro X36
  intro eX36
  have e9 : X36 (i + 9) kn = rP Z q kn := by rw [eX36, zU_s, hpar]
  have v10 : X36 (i + 10) (rP Z q kn) = wyP (rP Z q) (rP Z q kn) := by
    rw [eX36, zU_o (by omega)]
    exact (fk (rP Z q kn) (by omega)).2.1
  intro rX36
  refine ⟨?_, ?_⟩
  · first | omega | exact ⟨by omega, by omega⟩ | decide | assumption | exact ⟨by omega, by omega, by omega⟩ | exact ⟨by decide, by decide⟩
  refine ⟨?_, ?_⟩
  · rw [e9]
    omega
  refine ⟨?_, ?_⟩
  · first | omega | exact ⟨by omega, by omega⟩ | decide | assumption | exact ⟨by omega, by omega, by omega⟩ | exact ⟨by decide, by decide⟩
  intro X40
  intro eX40
  have e15 : X40 (i + 9) kn = rP Z q kn := by
    rw [eX40, zU_o (by omega)]
    exact e9
  have v11 : X40 (i + 11) (rP Z q kn) = sHg (rP Z q) (rP Z q kn) := by
    rw [eX40, zU_o (by omega), eX36, zU_o (by omega)]
    exact (fk (rP Z q kn) (by omega)).2.2
  have hle := sHg_le (vZ_p hv) (rP Z q kn) (by omega)
  intro rX40
  refine ⟨?_, ?_⟩
  · first | omega | exact ⟨by omega, by omega⟩ | decide | assumption | exact ⟨by omega, by omega, by omega⟩ | exact ⟨by decide, by decide⟩
  refine ⟨?_, ?_⟩
  · rw [e15]
    omega
  refine ⟨?_, ?_⟩
  · first | omega | exact ⟨by omega, by omega⟩ | decide | assumption | exact ⟨by omega, by omega, by omega⟩ | exact ⟨by decide, by decide⟩
  refine ⟨?_, ?_⟩
  · rw [e15, v11]
    exact ⟨by omega, by omega⟩
  intro X45
  intro eX45
  have o45 : ∀ z, z ≠ i + 9 → z ≠ i + 10 → z ≠ i + 11 → X45 z = X6 z := fun z a b g => by rw [eX45, zU_o g, eX40, zU_o b, eX36, zU_o a]
  have w9 : X45 (i + 9) = upI (X6 (i + 9)) kn (rP Z q kn) := by rw [eX45, zU_o (by omega), eX40, zU_o (by omega), eX36, zU_up, hpar]
  have w10 : X45 (i + 10) = upI (X6 (i + 10)) kn (wyP (rP Z q) kn) := by rw [eX45, zU_o (by omega), eX40, zU_up, e9, v10, wy_s hpk (by omega), eX36, zU_o (by omega)]
  have w11 : X45 (i + 11) = upI (X6 (i + 11)) kn (sHg (rP Z q) kn) := by
    rw [eX45, zU_up, e15, v11, eX40, zU_o (by omega), eX36, zU_o (by omega), sHg_s hpk]
    rfl
  intro rX45
  refine ⟨?_, ?_⟩
  · first | omega | exact ⟨by omega, by omega⟩ | decide | assumption | exact ⟨by omega, by omega, by omega⟩ | exact ⟨by decide, by decide⟩
  refine ⟨?_, ?_⟩
  · refine ⟨by omega, ⟨by rw [o45 i (by omega) (by omega) (by omega)]; exact f2, by rw [o45 i (by omega) (by omega) (by omega)]; exact f3, ?_⟩, fun z a b g d => by rw [o45 z b g d]; exact fo z a b g d, fun e he => ?_⟩
    · unfold chI
      rw [w9, w11]
      unfold upI
      rw [if_neg (by omega), if_neg (by omega)]
      exact fc
    · rw [w9, w10, w11]
      unfold upI
      by_cases g : e = kn
      · subst g
        rw [if_pos rfl, if_pos rfl, if_pos rfl]
        exact ⟨fun _ => rfl, rfl, rfl⟩
      · rw [if_neg (by omega), if_neg (by omega), if_neg (by omega)]
        exact fk e (by omega)
  first | omega | exact ⟨by omega, by omega⟩ | decide | assumption | exact ⟨by omega, by omega, by omega⟩ | exact ⟨by decide, by decide⟩
theorem c_X1_draw {l : Launch} {D : va_G} {cy : Nat → ClassId} {bs N : Nat} {sa : Nat → Nat} {kd len : Nat → Nat} {X Y : Nat → Int → Int} {R : Nat → Int → Option Nat} {i : Nat} {Z : Nat → Int → Int} {q : Nat} (hC : zChart N kd len R i) {j : Nat} (hb : zBlocks N kd len R j)  (hp : ((vZ Z q ∧ chI X i) ∧ bR Z q X j) ∧ j + 5 < i) : Met l yX1_draw (.code yX1_draw cX1_draw 4 none :: zTB) (zRm 1 60) (zPc D cy bs sa N kd len X Y R [.ref (bs + (i)), .ref (bs + (j))]) (zQv D cy bs N kd len (fun st => st.2.1 = Y ∧ ((st.2.2 = zU R i 1 (some j)) ∧ dR Z q (st.1) (st.2.2) i ∧ (∀ z, z ≠ i → z ≠ i + 9 → z ≠ i + 10 → z ≠ i + 11 → (st.1) z = X z) ∧ st.1 i 3 = 0))) 0 0 (zA bs) := w_X1_draw hC hb  (v_X1_draw  hp)
