/-! THE COMPONENT'S CELLS -/
/-- a Net at i, its rows behind it -/
def zNet (N : Nat) (kd len : Nat → Nat) (R : Nat → Int → Option Nat) (i : Nat) : Prop := i + 1 < N ∧ kd i = 6 ∧ kd (i + 1) = 13 ∧ len (i + 1) = 6 ∧ R i 7 = some (i + 1)
theorem zNet_n0 {N : Nat} {kd len : Nat → Nat} {R : Nat → Int → Option Nat} {i : Nat} (h : zNet N kd len R i) : i < N := by have := h.1; omega
theorem zNet_k0 {N : Nat} {kd len : Nat → Nat} {R : Nat → Int → Option Nat} {i : Nat} (h : zNet N kd len R i) : kd i = 6 := h.2.1
theorem zNet_n1 {N : Nat} {kd len : Nat → Nat} {R : Nat → Int → Option Nat} {i : Nat} (h : zNet N kd len R i) : i + 1 < N := by have := h.1; omega
theorem zNet_k1 {N : Nat} {kd len : Nat → Nat} {R : Nat → Int → Option Nat} {i : Nat} (h : zNet N kd len R i) : kd (i + 1) = 13 := h.2.2.1
theorem zNet_l1 {N : Nat} {kd len : Nat → Nat} {R : Nat → Int → Option Nat} {i : Nat} (h : zNet N kd len R i) : len (i + 1) = 6 := h.2.2.2.1
theorem zNet_r1 {N : Nat} {kd len : Nat → Nat} {R : Nat → Int → Option Nat} {i : Nat} (h : zNet N kd len R i) : R i 7 = some (i + 1) := h.2.2.2.2
/-- a Blocks at i, its rows behind it -/
def zBlocks (N : Nat) (kd len : Nat → Nat) (R : Nat → Int → Option Nat) (i : Nat) : Prop := i + 5 < N ∧ kd i = 0 ∧ kd (i + 1) = 13 ∧ len (i + 1) = 15 ∧ R i 1 = some (i + 1) ∧ kd (i + 2) = 13 ∧ len (i + 2) = 15 ∧ R i 2 = some (i + 2) ∧ kd (i + 3) = 13 ∧ len (i + 3) = 15 ∧ R i 3 = some (i + 3) ∧ kd (i + 4) = 13 ∧ len (i + 4) = 15 ∧ R i 4 = some (i + 4) ∧ kd (i + 5) = 13 ∧ len (i + 5) = 135 ∧ R i 5 = some (i + 5)
theorem zBlocks_n0 {N : Nat} {kd len : Nat → Nat} {R : Nat → Int → Option Nat} {i : Nat} (h : zBlocks N kd len R i) : i < N := by have := h.1; omega
theorem zBlocks_k0 {N : Nat} {kd len : Nat → Nat} {R : Nat → Int → Option Nat} {i : Nat} (h : zBlocks N kd len R i) : kd i = 0 := h.2.1
theorem zBlocks_n1 {N : Nat} {kd len : Nat → Nat} {R : Nat → Int → Option Nat} {i : Nat} (h : zBlocks N kd len R i) : i + 1 < N := by have := h.1; omega
theorem zBlocks_k1 {N : Nat} {kd len : Nat → Nat} {R : Nat → Int → Option Nat} {i : Nat} (h : zBlocks N kd len R i) : kd (i + 1) = 13 := h.2.2.1
theorem zBlocks_l1 {N : Nat} {kd len : Nat → Nat} {R : Nat → Int → Option Nat} {i : Nat} (h : zBlocks N kd len R i) : len (i + 1) = 15 := h.2.2.2.1
theorem zBlocks_r1 {N : Nat} {kd len : Nat → Nat} {R : Nat → Int → Option Nat} {i : Nat} (h : zBlocks N kd len R i) : R i 1 = some (i + 1) := h.2.2.2.2.1
theorem zBlocks_n2 {N : Nat} {kd len : Nat → Nat} {R : Nat → Int → Option Nat} {i : Nat} (h : zBlocks N kd len R i) : i + 2 < N := by have := h.1; omega
theorem zBlocks_k2 {N : Nat} {kd len : Nat → Nat} {R : Nat → Int → Option Nat} {i : Nat} (h : zBlocks N kd len R i) : kd (i + 2) = 13 := h.2.2.2.2.2.1
theorem zBlocks_l2 {N : Nat} {kd len : Nat → Nat} {R : Nat → Int → Option Nat} {i : Nat} (h : zBlocks N kd len R i) : len (i + 2) = 15 := h.2.2.2.2.2.2.1
theorem zBlocks_r2 {N : Nat} {kd len : Nat → Nat} {R : Nat → Int → Option Nat} {i : Nat} (h : zBlocks N kd len R i) : R i 2 = some (i + 2) := h.2.2.2.2.2.2.2.1
theorem zBlocks_n3 {N : Nat} {kd len : Nat → Nat} {R : Nat → Int → Option Nat} {i : Nat} (h : zBlocks N kd len R i) : i + 3 < N := by have := h.1; omega
theorem zBlocks_k3 {N : Nat} {kd len : Nat → Nat} {R : Nat → Int → Option Nat} {i : Nat} (h : zBlocks N kd len R i) : kd (i + 3) = 13 := h.2.2.2.2.2.2.2.2.1
theorem zBlocks_l3 {N : Nat} {kd len : Nat → Nat} {R : Nat → Int → Option Nat} {i : Nat} (h : zBlocks N kd len R i) : len (i + 3) = 15 := h.2.2.2.2.2.2.2.2.2.1
theorem zBlocks_r3 {N : Nat} {kd len : Nat → Nat} {R : Nat → Int → Option Nat} {i : Nat} (h : zBlocks N kd len R i) : R i 3 = some (i + 3) := h.2.2.2.2.2.2.2.2.2.2.1
theorem zBlocks_n4 {N : Nat} {kd len : Nat → Nat} {R : Nat → Int → Option Nat} {i : Nat} (h : zBlocks N kd len R i) : i + 4 < N := by have := h.1; omega
theorem zBlocks_k4 {N : Nat} {kd len : Nat → Nat} {R : Nat → Int → Option Nat} {i : Nat} (h : zBlocks N kd len R i) : kd (i + 4) = 13 := h.2.2.2.2.2.2.2.2.2.2.2.1
theorem zBlocks_l4 {N : Nat} {kd len : Nat → Nat} {R : Nat → Int → Option Nat} {i : Nat} (h : zBlocks N kd len R i) : len (i + 4) = 15 := h.2.2.2.2.2.2.2.2.2.2.2.2.1
theorem zBlocks_r4 {N : Nat} {kd len : Nat → Nat} {R : Nat → Int → Option Nat} {i : Nat} (h : zBlocks N kd len R i) : R i 4 = some (i + 4) := h.2.2.2.2.2.2.2.2.2.2.2.2.2.1
theorem zBlocks_n5 {N : Nat} {kd len : Nat → Nat} {R : Nat → Int → Option Nat} {i : Nat} (h : zBlocks N kd len R i) : i + 5 < N := by have := h.1; omega
theorem zBlocks_k5 {N : Nat} {kd len : Nat → Nat} {R : Nat → Int → Option Nat} {i : Nat} (h : zBlocks N kd len R i) : kd (i + 5) = 13 := h.2.2.2.2.2.2.2.2.2.2.2.2.2.2.1
theorem zBlocks_l5 {N : Nat} {kd len : Nat → Nat} {R : Nat → Int → Option Nat} {i : Nat} (h : zBlocks N kd len R i) : len (i + 5) = 135 := h.2.2.2.2.2.2.2.2.2.2.2.2.2.2.2.1
theorem zBlocks_r5 {N : Nat} {kd len : Nat → Nat} {R : Nat → Int → Option Nat} {i : Nat} (h : zBlocks N kd len R i) : R i 5 = some (i + 5) := h.2.2.2.2.2.2.2.2.2.2.2.2.2.2.2.2
/-- a Rows at i, its rows behind it -/
def zRows (N : Nat) (kd len : Nat → Nat) (R : Nat → Int → Option Nat) (i : Nat) (nn : Nat) : Prop := i + 1 < N ∧ kd i = 8 ∧ kd (i + 1) = 13 ∧ len (i + 1) = nn ∧ R i 3 = some (i + 1)
theorem zRows_n0 {N : Nat} {kd len : Nat → Nat} {R : Nat → Int → Option Nat} {i : Nat} {nn : Nat} (h : zRows N kd len R i nn) : i < N := by have := h.1; omega
theorem zRows_k0 {N : Nat} {kd len : Nat → Nat} {R : Nat → Int → Option Nat} {i : Nat} {nn : Nat} (h : zRows N kd len R i nn) : kd i = 8 := h.2.1
theorem zRows_n1 {N : Nat} {kd len : Nat → Nat} {R : Nat → Int → Option Nat} {i : Nat} {nn : Nat} (h : zRows N kd len R i nn) : i + 1 < N := by have := h.1; omega
theorem zRows_k1 {N : Nat} {kd len : Nat → Nat} {R : Nat → Int → Option Nat} {i : Nat} {nn : Nat} (h : zRows N kd len R i nn) : kd (i + 1) = 13 := h.2.2.1
theorem zRows_l1 {N : Nat} {kd len : Nat → Nat} {R : Nat → Int → Option Nat} {i : Nat} {nn : Nat} (h : zRows N kd len R i nn) : len (i + 1) = nn := h.2.2.2.1
theorem zRows_r1 {N : Nat} {kd len : Nat → Nat} {R : Nat → Int → Option Nat} {i : Nat} {nn : Nat} (h : zRows N kd len R i nn) : R i 3 = some (i + 1) := h.2.2.2.2
/-- a Ledger at i, its rows behind it -/
def zLedger (N : Nat) (kd len : Nat → Nat) (R : Nat → Int → Option Nat) (i : Nat) : Prop := i + 1 < N ∧ kd i = 5 ∧ kd (i + 1) = 13 ∧ len (i + 1) = 6 ∧ R i 1 = some (i + 1)
theorem zLedger_n0 {N : Nat} {kd len : Nat → Nat} {R : Nat → Int → Option Nat} {i : Nat} (h : zLedger N kd len R i) : i < N := by have := h.1; omega
theorem zLedger_k0 {N : Nat} {kd len : Nat → Nat} {R : Nat → Int → Option Nat} {i : Nat} (h : zLedger N kd len R i) : kd i = 5 := h.2.1
theorem zLedger_n1 {N : Nat} {kd len : Nat → Nat} {R : Nat → Int → Option Nat} {i : Nat} (h : zLedger N kd len R i) : i + 1 < N := by have := h.1; omega
theorem zLedger_k1 {N : Nat} {kd len : Nat → Nat} {R : Nat → Int → Option Nat} {i : Nat} (h : zLedger N kd len R i) : kd (i + 1) = 13 := h.2.2.1
theorem zLedger_l1 {N : Nat} {kd len : Nat → Nat} {R : Nat → Int → Option Nat} {i : Nat} (h : zLedger N kd len R i) : len (i + 1) = 6 := h.2.2.2.1
theorem zLedger_r1 {N : Nat} {kd len : Nat → Nat} {R : Nat → Int → Option Nat} {i : Nat} (h : zLedger N kd len R i) : R i 1 = some (i + 1) := h.2.2.2.2
abbrev cX6_has : ByteArray := prog_8_method_4_code
def yX6_has : MethodName := ⟨RX6, "has", "(I)Z"⟩
theorem dX6_has_0 : decode cX6_has 0 = .ok (.iload_n 1, 1) := by decide +kernel
theorem dX6_has_1 : decode cX6_has 1 = .ok (.ifCond .lt 21, 3) := by decide +kernel
theorem dX6_has_4 : decode cX6_has 4 = .ok (.iload_n 1, 1) := by decide +kernel
theorem dX6_has_5 : decode cX6_has 5 = .ok (.aload_n 0, 1) := by decide +kernel
theorem dX6_has_6 : decode cX6_has 6 = .ok (.getfield 37, 3) := by decide +kernel
theorem dX6_has_9 : decode cX6_has 9 = .ok (.if_icmp .ge 13, 3) := by decide +kernel
theorem dX6_has_12 : decode cX6_has 12 = .ok (.iload_n 1, 1) := by decide +kernel
theorem dX6_has_13 : decode cX6_has 13 = .ok (.bipush 6, 2) := by decide +kernel
theorem dX6_has_15 : decode cX6_has 15 = .ok (.if_icmp .ge 7, 3) := by decide +kernel
theorem dX6_has_18 : decode cX6_has 18 = .ok (.iconst 1, 1) := by decide +kernel
theorem dX6_has_19 : decode cX6_has 19 = .ok (.goto 4, 3) := by decide +kernel
theorem dX6_has_22 : decode cX6_has 22 = .ok (.iconst 0, 1) := by decide +kernel
theorem dX6_has_23 : decode cX6_has 23 = .ok (.ireturn, 1) := by decide +kernel
theorem q_194 : Cond.fieldLink RX6 37 RX6 "accounts" "I" ∈ zTB := zmem 194 (by decide +kernel) rfl
def F_X6_has (i : Nat) (X Y : Nat → Int → Int) (R : Nat → Int → Option Nat) (a : Int) : Prop := (∀ i j, rI (X i j)) → (∀ i j, rL (Y i j)) → ((a < 0) → (0 = bz (decide (0 ≤ a ∧ a < X i 6 ∧ a < 6)))) ∧ ((¬ (a < 0)) → ((((X (i) 6) ≤ a) → (0 = bz (decide (0 ≤ a ∧ a < X i 6 ∧ a < 6)))) ∧ ((¬ ((X (i) 6) ≤ a)) → (((6 ≤ a) → (0 = bz (decide (0 ≤ a ∧ a < X i 6 ∧ a < 6)))) ∧ ((¬ (6 ≤ a)) → (1 = bz (decide (0 ≤ a ∧ a < X i 6 ∧ a < 6))))))))
set_option maxHeartbeats 4000000 in
set_option maxRecDepth 100000 in
theorem w_X6_has {l : Launch} {D : va_G} {cy : Nat → ClassId} {bs N : Nat} {sa : Nat → Nat} {kd len : Nat → Nat} {X Y : Nat → Int → Int} {R : Nat → Int → Option Nat} {i : Nat} (hC : zNet N kd len R i) (a : Int) (ha : rI a) (hF : F_X6_has i X Y R a) : Met l yX6_has (.code yX6_has cX6_has 2 (some .boolean) :: zTB) (zRm 0 0) (zPc D cy bs sa N kd len X Y R [.ref (bs + (i)), .int (zI (a))]) (zQi D cy bs N kd len (fun r st => r = bz (decide (0 ≤ a ∧ a < X i 6 ∧ a < 6)) ∧ st = (X, Y, R))) 0 0 (zA bs) := by
  refine zstart (by decide) (Nat.le_of_ble_eq_true rfl) ?_
  intro p e s m args below meth c ls C hE hH hr hlk hnm hl hargs
  have hF := hF hH.2.2.1 hH.2.2.2
  have hS : va_S (zA bs) s.heap s.heap [] := va_S.rf
  have hl : lv_has ls 2 [(0, .ref (bs + (i))), (1, .int (zI (a)))] := hl
  refine lv_iload_n C.1 C.2.1 dX6_has_0 rfl (lv_at hl 1 rfl) ?_
  refine zd_if_lt C ha 22 dX6_has_1 (by decide) (fun c1 => ?_) (fun c1 => ?_)
  · have hF := hF.1 c1
    refine zd_iconst C dX6_has_22 ?_
    exact zd_zret C hr hlk hH hS (by decide) (⟨hF, rfl⟩) dX6_has_23
  · have hF := hF.2 c1
    refine lv_iload_n C.1 C.2.1 dX6_has_4 rfl (lv_at hl 1 rfl) ?_
    refine lv_aload_n C.1 C.2.1 dX6_has_5 rfl (lv_at hl 0 rfl) ?_
    refine zg6_6 C hH (zNet_n0 hC) (zNet_k0 hC) q_194 dX6_has_6 ?_
    refine zd_icmp_ge C ha (hH.2.2.1 _ _) 22 dX6_has_9 (by decide) (fun c2 => ?_) (fun c2 => ?_)
    · have hF := hF.1 c2
      refine zd_iconst C dX6_has_22 ?_
      exact zd_zret C hr hlk hH hS (by decide) (⟨hF, rfl⟩) dX6_has_23
    · have hF := hF.2 c2
      refine lv_iload_n C.1 C.2.1 dX6_has_12 rfl (lv_at hl 1 rfl) ?_
      refine zd_bipush C (by decide) dX6_has_13 ?_
      refine zd_icmp_ge C ha (by decide) 22 dX6_has_15 (by decide) (fun c3 => ?_) (fun c3 => ?_)
      · have hF := hF.1 c3
        refine zd_iconst C dX6_has_22 ?_
        exact zd_zret C hr hlk hH hS (by decide) (⟨hF, rfl⟩) dX6_has_23
      · have hF := hF.2 c3
        refine zd_iconst C dX6_has_18 ?_
        refine lv_goto (tgt := 23) C.1 C.2.1 dX6_has_19 (by decide) ?_
        exact zd_zret C hr hlk hH hS (by decide) (⟨hF, rfl⟩) dX6_has_23
theorem v_X6_has {X Y : Nat → Int → Int} {R : Nat → Int → Option Nat} {i : Nat} (a : Int) (ha : rI a) : F_X6_has i X Y R a := by
  unfold F_X6_has
  intro hX hY
  refine ⟨?_, ?_⟩
  · intro c1
    rw [decide_eq_false (by omega)]
    rfl
  intro c2
  refine ⟨?_, ?_⟩
  · intro c3
    rw [decide_eq_false (by omega)]
    rfl
  intro c4
  refine ⟨?_, ?_⟩
  · intro c5
    rw [decide_eq_false (by omega)]
    rfl
  intro c6
  rw [decide_eq_true (by omega)]
  rfl
theorem c_X6_has {l : Launch} {D : va_G} {cy : Nat → ClassId} {bs N : Nat} {sa : Nat → Nat} {kd len : Nat → Nat} {X Y : Nat → Int → Int} {R : Nat → Int → Option Nat} {i : Nat} (hC : zNet N kd len R i) (a : Int) (ha : rI a) : Met l yX6_has (.code yX6_has cX6_has 2 (some .boolean) :: zTB) (zRm 0 0) (zPc D cy bs sa N kd len X Y R [.ref (bs + (i)), .int (zI (a))]) (zQi D cy bs N kd len (fun r st => r = bz (decide (0 ≤ a ∧ a < X i 6 ∧ a < 6)) ∧ st = (X, Y, R))) 0 0 (zA bs) := w_X6_has hC a ha (v_X6_has a ha)
abbrev cX6_clear : ByteArray := prog_8_method_2_code
def yX6_clear : MethodName := ⟨RX6, "clear", "()V"⟩
theorem dX6_clear_0 : decode cX6_clear 0 = .ok (.aload_n 0, 1) := by decide +kernel
theorem dX6_clear_1 : decode cX6_clear 1 = .ok (.iconst 2, 1) := by decide +kernel
theorem dX6_clear_2 : decode cX6_clear 2 = .ok (.putfield 18, 3) := by decide +kernel
theorem dX6_clear_5 : decode cX6_clear 5 = .ok (.aload_n 0, 1) := by decide +kernel
theorem dX6_clear_6 : decode cX6_clear 6 = .ok (.bipush 10, 2) := by decide +kernel
theorem dX6_clear_8 : decode cX6_clear 8 = .ok (.putfield 22, 3) := by decide +kernel
theorem dX6_clear_11 : decode cX6_clear 11 = .ok (.aload_n 0, 1) := by decide +kernel
theorem dX6_clear_12 : decode cX6_clear 12 = .ok (.bipush 10, 2) := by decide +kernel
theorem dX6_clear_14 : decode cX6_clear 14 = .ok (.putfield 25, 3) := by decide +kernel
theorem dX6_clear_17 : decode cX6_clear 17 = .ok (.aload_n 0, 1) := by decide +kernel
theorem dX6_clear_18 : decode cX6_clear 18 = .ok (.iconst 0, 1) := by decide +kernel
theorem dX6_clear_19 : decode cX6_clear 19 = .ok (.putfield 28, 3) := by decide +kernel
theorem dX6_clear_22 : decode cX6_clear 22 = .ok (.aload_n 0, 1) := by decide +kernel
theorem dX6_clear_23 : decode cX6_clear 23 = .ok (.iconst 0, 1) := by decide +kernel
theorem dX6_clear_24 : decode cX6_clear 24 = .ok (.putfield 31, 3) := by decide +kernel
theorem dX6_clear_27 : decode cX6_clear 27 = .ok (.aload_n 0, 1) := by decide +kernel
theorem dX6_clear_28 : decode cX6_clear 28 = .ok (.iconst 5, 1) := by decide +kernel
theorem dX6_clear_29 : decode cX6_clear 29 = .ok (.putfield 34, 3) := by decide +kernel
theorem dX6_clear_32 : decode cX6_clear 32 = .ok (.aload_n 0, 1) := by decide +kernel
theorem dX6_clear_33 : decode cX6_clear 33 = .ok (.iconst 0, 1) := by decide +kernel
theorem dX6_clear_34 : decode cX6_clear 34 = .ok (.putfield 37, 3) := by decide +kernel
theorem dX6_clear_37 : decode cX6_clear 37 = .ok (.return_, 1) := by decide +kernel
theorem q_177 : Cond.fieldLink RX6 18 RX6 "step" "I" ∈ zTB := zmem 177 (by decide +kernel) rfl
theorem q_179 : Cond.fieldLink RX6 22 RX6 "target" "I" ∈ zTB := zmem 179 (by decide +kernel) rfl
theorem q_182 : Cond.fieldLink RX6 25 RX6 "start" "I" ∈ zTB := zmem 182 (by decide +kernel) rfl
theorem q_185 : Cond.fieldLink RX6 28 RX6 "rule" "I" ∈ zTB := zmem 185 (by decide +kernel) rfl
theorem q_188 : Cond.fieldLink RX6 31 RX6 "tie" "I" ∈ zTB := zmem 188 (by decide +kernel) rfl
theorem q_190 : Cond.fieldLink RX6 34 RX6 "reward" "I" ∈ zTB := zmem 190 (by decide +kernel) rfl
def F_X6_clear (i : Nat) (X Y : Nat → Int → Int) (R : Nat → Int → Option Nat)  : Prop := (∀ i j, rI (X i j)) → (∀ i j, rL (Y i j)) → ∀ X1 : Nat → Int → Int, X1 = zU X (i) 0 (2) → (∀ i j, rI (X1 i j)) → (∀ X2 : Nat → Int → Int, X2 = zU X1 (i) 1 (10) → (∀ i j, rI (X2 i j)) → (∀ X3 : Nat → Int → Int, X3 = zU X2 (i) 2 (10) → (∀ i j, rI (X3 i j)) → (∀ X4 : Nat → Int → Int, X4 = zU X3 (i) 3 (0) → (∀ i j, rI (X4 i j)) → (∀ X5 : Nat → Int → Int, X5 = zU X4 (i) 4 (0) → (∀ i j, rI (X5 i j)) → (∀ X6 : Nat → Int → Int, X6 = zU X5 (i) 5 (5) → (∀ i j, rI (X6 i j)) → (∀ X7 : Nat → Int → Int, X7 = zU X6 (i) 6 (0) → (∀ i j, rI (X7 i j)) → ((X7) = zU (zU (zU (zU (zU (zU (zU X i 0 2) i 1 10) i 2 10) i 3 0) i 4 0) i 5 5) i 6 0)))))))
set_option maxHeartbeats 4000000 in
set_option maxRecDepth 100000 in
theorem w_X6_clear {l : Launch} {D : va_G} {cy : Nat → ClassId} {bs N : Nat} {sa : Nat → Nat} {kd len : Nat → Nat} {X Y : Nat → Int → Int} {R : Nat → Int → Option Nat} {i : Nat} (hC : zNet N kd len R i)  (hF : F_X6_clear i X Y R ) : Met l yX6_clear (.code yX6_clear cX6_clear 1 none :: zTB) (zRm 0 0) (zPc D cy bs sa N kd len X Y R [.ref (bs + (i))]) (zQv D cy bs N kd len (fun st => st.2.1 = Y ∧ st.2.2 = R ∧ ((st.1) = zU (zU (zU (zU (zU (zU (zU X i 0 2) i 1 10) i 2 10) i 3 0) i 4 0) i 5 5) i 6 0))) 0 0 (zA bs) := by
  refine zstart (by decide) (Nat.le_of_ble_eq_true rfl) ?_
  intro p e s m args below meth c ls C hE hH hr hlk hnm hl hargs
  have hF := hF hH.2.2.1 hH.2.2.2
  have hS : va_S (zA bs) s.heap s.heap [] := va_S.rf
  have hl : lv_has ls 1 [(0, .ref (bs + (i)))] := hl
  refine lv_aload_n C.1 C.2.1 dX6_clear_0 rfl (lv_at hl 0 rfl) ?_
  refine zd_iconst C dX6_clear_1 ?_
  refine zp6_0 C hH hS (zNet_n0 hC) (zNet_k0 hC) q_177 (by decide) dX6_clear_2 (fun H locs hH hS => ?_)
  obtain ⟨X1, eX1⟩ : ∃ z, z = zU X (i) 0 (2) := ⟨_, rfl⟩
  rw [← eX1] at hH
  have hF := hF X1 eX1 hH.2.2.1
  refine lv_aload_n C.1 C.2.1 dX6_clear_5 rfl (lv_at hl 0 rfl) ?_
  refine zd_bipush C (by decide) dX6_clear_6 ?_
  refine zp6_1 C hH hS (zNet_n0 hC) (zNet_k0 hC) q_179 (by decide) dX6_clear_8 (fun H locs hH hS => ?_)
  obtain ⟨X2, eX2⟩ : ∃ z, z = zU X1 (i) 1 (10) := ⟨_, rfl⟩
  rw [← eX2] at hH
  have hF := hF X2 eX2 hH.2.2.1
  refine lv_aload_n C.1 C.2.1 dX6_clear_11 rfl (lv_at hl 0 rfl) ?_
  refine zd_bipush C (by decide) dX6_clear_12 ?_
  refine zp6_2 C hH hS (zNet_n0 hC) (zNet_k0 hC) q_182 (by decide) dX6_clear_14 (fun H locs hH hS => ?_)
  obtain ⟨X3, eX3⟩ : ∃ z, z = zU X2 (i) 2 (10) := ⟨_, rfl⟩
  rw [← eX3] at hH
  have hF := hF X3 eX3 hH.2.2.1
  refine lv_aload_n C.1 C.2.1 dX6_clear_17 rfl (lv_at hl 0 rfl) ?_
  refine zd_iconst C dX6_clear_18 ?_
  refine zp6_3 C hH hS (zNet_n0 hC) (zNet_k0 hC) q_185 (by decide) dX6_clear_19 (fun H locs hH hS => ?_)
  obtain ⟨X4, eX4⟩ : ∃ z, z = zU X3 (i) 3 (0) := ⟨_, rfl⟩
  rw [← eX4] at hH
  have hF := hF X4 eX4 hH.2.2.1
  refine lv_aload_n C.1 C.2.1 dX6_clear_22 rfl (lv_at hl 0 rfl) ?_
  refine zd_iconst C dX6_clear_23 ?_
  refine zp6_4 C hH hS (zNet_n0 hC) (zNet_k0 hC) q_188 (by decide) dX6_clear_24 (fun H locs hH hS => ?_)
  obtain ⟨X5, eX5⟩ : ∃ z, z = zU X4 (i) 4 (0) := ⟨_, rfl⟩
  rw [← eX5] at hH
  have hF := hF X5 eX5 hH.2.2.1
  refine lv_aload_n C.1 C.2.1 dX6_clear_27 rfl (lv_at hl 0 rfl) ?_
  refine zd_iconst C dX6_clear_28 ?_
  refine zp6_5 C hH hS (zNet_n0 hC) (zNet_k0 hC) q_190 (by decide) dX6_clear_29 (fun H locs hH hS => ?_)
  obtain ⟨X6, eX6⟩ : ∃ z, z = zU X5 (i) 5 (5) := ⟨_, rfl⟩
  rw [← eX6] at hH
  have hF := hF X6 eX6 hH.2.2.1
  refine lv_aload_n C.1 C.2.1 dX6_clear_32 rfl (lv_at hl 0 rfl) ?_
  refine zd_iconst C dX6_clear_33 ?_
  refine zp6_6 C hH hS (zNet_n0 hC) (zNet_k0 hC) q_194 (by decide) dX6_clear_34 (fun H locs hH hS => ?_)
  obtain ⟨X7, eX7⟩ : ∃ z, z = zU X6 (i) 6 (0) := ⟨_, rfl⟩
  rw [← eX7] at hH
  have hF := hF X7 eX7 hH.2.2.1
  exact zd_vret C hr hlk hH hS (⟨rfl, rfl, hF⟩) dX6_clear_37
theorem v_X6_clear {X Y : Nat → Int → Int} {R : Nat → Int → Option Nat} {i : Nat}  : F_X6_clear i X Y R  := by
  unfold F_X6_clear
  intro hX hY
  intro X1
  intro eX1
  intro rX1
  intro X2
  intro eX2
  intro rX2
  intro X3
  intro eX3
  intro rX3
  intro X4
  intro eX4
  intro rX4
  intro X5
  intro eX5
  intro rX5
  intro X6
  intro eX6
  intro rX6
  intro X7
  intro eX7
  intro rX7
  rw [eX7, eX6, eX5, eX4, eX3, eX2, eX1]
theorem c_X6_clear {l : Launch} {D : va_G} {cy : Nat → ClassId} {bs N : Nat} {sa : Nat → Nat} {kd len : Nat → Nat} {X Y : Nat → Int → Int} {R : Nat → Int → Option Nat} {i : Nat} (hC : zNet N kd len R i)  : Met l yX6_clear (.code yX6_clear cX6_clear 1 none :: zTB) (zRm 0 0) (zPc D cy bs sa N kd len X Y R [.ref (bs + (i))]) (zQv D cy bs N kd len (fun st => st.2.1 = Y ∧ st.2.2 = R ∧ ((st.1) = zU (zU (zU (zU (zU (zU (zU X i 0 2) i 1 10) i 2 10) i 3 0) i 4 0) i 5 5) i 6 0))) 0 0 (zA bs) := w_X6_clear hC  (v_X6_clear )
/-- a word of a net told -/
def cNt (X : Nat → Int → Int) (i : Nat) (w v : Int) : Nat → Int → Int := if 0 ≤ w ∧ w ≤ 5 then zU X i w v else if X i 6 < 6 then zU (zU X i 6 (X i 6 + 1)) (i + 1) (X i 6) v else X
abbrev cX6_tell : ByteArray := prog_8_method_5_code
def yX6_tell : MethodName := ⟨RX6, "tell", "(II)V"⟩
theorem dX6_tell_0 : decode cX6_tell 0 = .ok (.iload_n 1, 1) := by decide +kernel
theorem dX6_tell_1 : decode cX6_tell 1 = .ok (.tableswitch 87 0 5 #[39, 47, 55, 63, 71, 79], 39) := by decide +kernel
theorem dX6_tell_40 : decode cX6_tell 40 = .ok (.aload_n 0, 1) := by decide +kernel
theorem dX6_tell_41 : decode cX6_tell 41 = .ok (.iload_n 2, 1) := by decide +kernel
theorem dX6_tell_42 : decode cX6_tell 42 = .ok (.putfield 18, 3) := by decide +kernel
theorem dX6_tell_45 : decode cX6_tell 45 = .ok (.goto 69, 3) := by decide +kernel
theorem dX6_tell_48 : decode cX6_tell 48 = .ok (.aload_n 0, 1) := by decide +kernel
theorem dX6_tell_49 : decode cX6_tell 49 = .ok (.iload_n 2, 1) := by decide +kernel
theorem dX6_tell_50 : decode cX6_tell 50 = .ok (.putfield 22, 3) := by decide +kernel
theorem dX6_tell_53 : decode cX6_tell 53 = .ok (.goto 61, 3) := by decide +kernel
theorem dX6_tell_56 : decode cX6_tell 56 = .ok (.aload_n 0, 1) := by decide +kernel
theorem dX6_tell_57 : decode cX6_tell 57 = .ok (.iload_n 2, 1) := by decide +kernel
theorem dX6_tell_58 : decode cX6_tell 58 = .ok (.putfield 25, 3) := by decide +kernel
theorem dX6_tell_61 : decode cX6_tell 61 = .ok (.goto 53, 3) := by decide +kernel
theorem dX6_tell_64 : decode cX6_tell 64 = .ok (.aload_n 0, 1) := by decide +kernel
theorem dX6_tell_65 : decode cX6_tell 65 = .ok (.iload_n 2, 1) := by decide +kernel
theorem dX6_tell_66 : decode cX6_tell 66 = .ok (.putfield 28, 3) := by decide +kernel
theorem dX6_tell_69 : decode cX6_tell 69 = .ok (.goto 45, 3) := by decide +kernel
theorem dX6_tell_72 : decode cX6_tell 72 = .ok (.aload_n 0, 1) := by decide +kernel
theorem dX6_tell_73 : decode cX6_tell 73 = .ok (.iload_n 2, 1) := by decide +kernel
theorem dX6_tell_74 : decode cX6_tell 74 = .ok (.putfield 31, 3) := by decide +kernel
theorem dX6_tell_77 : decode cX6_tell 77 = .ok (.goto 37, 3) := by decide +kernel
theorem dX6_tell_80 : decode cX6_tell 80 = .ok (.aload_n 0, 1) := by decide +kernel
theorem dX6_tell_81 : decode cX6_tell 81 = .ok (.iload_n 2, 1) := by decide +kernel
theorem dX6_tell_82 : decode cX6_tell 82 = .ok (.putfield 34, 3) := by decide +kernel
theorem dX6_tell_85 : decode cX6_tell 85 = .ok (.goto 29, 3) := by decide +kernel
theorem dX6_tell_88 : decode cX6_tell 88 = .ok (.aload_n 0, 1) := by decide +kernel
theorem dX6_tell_89 : decode cX6_tell 89 = .ok (.getfield 37, 3) := by decide +kernel
theorem dX6_tell_92 : decode cX6_tell 92 = .ok (.bipush 6, 2) := by decide +kernel
theorem dX6_tell_94 : decode cX6_tell 94 = .ok (.if_icmp .ge 20, 3) := by decide +kernel
theorem dX6_tell_97 : decode cX6_tell 97 = .ok (.aload_n 0, 1) := by decide +kernel
theorem dX6_tell_98 : decode cX6_tell 98 = .ok (.getfield 9, 3) := by decide +kernel
theorem dX6_tell_101 : decode cX6_tell 101 = .ok (.aload_n 0, 1) := by decide +kernel
theorem dX6_tell_102 : decode cX6_tell 102 = .ok (.dup, 1) := by decide +kernel
theorem dX6_tell_103 : decode cX6_tell 103 = .ok (.getfield 37, 3) := by decide +kernel
theorem dX6_tell_106 : decode cX6_tell 106 = .ok (.dup_x1, 1) := by decide +kernel
theorem dX6_tell_107 : decode cX6_tell 107 = .ok (.iconst 1, 1) := by decide +kernel
theorem dX6_tell_108 : decode cX6_tell 108 = .ok (.iadd, 1) := by decide +kernel
theorem dX6_tell_109 : decode cX6_tell 109 = .ok (.putfield 37, 3) := by decide +kernel
theorem dX6_tell_112 : decode cX6_tell 112 = .ok (.iload_n 2, 1) := by decide +kernel
theorem dX6_tell_113 : decode cX6_tell 113 = .ok (.iastore, 1) := by decide +kernel
theorem dX6_tell_114 : decode cX6_tell 114 = .ok (.return_, 1) := by decide +kernel
theorem q_197 : Cond.fieldLink RX6 9 RX6 "first" "[I" ∈ zTB := zmem 197 (by decide +kernel) rfl
theorem tsw_0_5 (z : Int) (h0 : ¬ z = 0) (h1 : ¬ z = 1) (h2 : ¬ z = 2) (h3 : ¬ z = 3) (h4 : ¬ z = 4) (h5 : ¬ z = 5) : z < 0 ∨ 5 < z := by omega
def F_X6_tell (i : Nat) (X Y : Nat → Int → Int) (R : Nat → Int → Option Nat) (a : Int) (b : Int) : Prop := (∀ i j, rI (X i j)) → (∀ i j, rL (Y i j)) → (a = 0 → (∀ X2 : Nat → Int → Int, X2 = zU X (i) 0 (b) → (∀ i j, rI (X2 i j)) → ((X2) = cNt X i (a) (b)))) ∧ (a = 1 → (∀ X3 : Nat → Int → Int, X3 = zU X (i) 1 (b) → (∀ i j, rI (X3 i j)) → ((X3) = cNt X i (a) (b)))) ∧ (a = 2 → (∀ X4 : Nat → Int → Int, X4 = zU X (i) 2 (b) → (∀ i j, rI (X4 i j)) → ((X4) = cNt X i (a) (b)))) ∧ (a = 3 → (∀ X5 : Nat → Int → Int, X5 = zU X (i) 3 (b) → (∀ i j, rI (X5 i j)) → ((X5) = cNt X i (a) (b)))) ∧ (a = 4 → (∀ X6 : Nat → Int → Int, X6 = zU X (i) 4 (b) → (∀ i j, rI (X6 i j)) → ((X6) = cNt X i (a) (b)))) ∧ (a = 5 → (∀ X7 : Nat → Int → Int, X7 = zU X (i) 5 (b) → (∀ i j, rI (X7 i j)) → ((X7) = cNt X i (a) (b)))) ∧ ((a < 0 ∨ 5 < a) → (((6 ≤ (X (i) 6)) → ((X) = cNt X i (a) (b))) ∧ ((¬ (6 ≤ (X (i) 6))) → ((rI ((X (i) 6) + 1)) ∧ (∀ X10 : Nat → Int → Int, X10 = zU X (i) 6 ((X (i) 6) + 1) → (∀ i j, rI (X10 i j)) → ((0 ≤ (X (i) 6) ∧ (X (i) 6) < 6) ∧ (∀ X12 : Nat → Int → Int, X12 = zU X10 (i + 1) (X (i) 6) (b) → (∀ i j, rI (X12 i j)) → ((X12) = cNt X i (a) (b)))))))))
set_option maxHeartbeats 4000000 in
set_option maxRecDepth 100000 in
theorem w_X6_tell {l : Launch} {D : va_G} {cy : Nat → ClassId} {bs N : Nat} {sa : Nat → Nat} {kd len : Nat → Nat} {X Y : Nat → Int → Int} {R : Nat → Int → Option Nat} {i : Nat} (hC : zNet N kd len R i) (a : Int) (ha : rI a) (b : Int) (hb : rI b) (hF : F_X6_tell i X Y R a b) : Met l yX6_tell (.code yX6_tell cX6_tell 3 none :: zTB) (zRm 0 0) (zPc D cy bs sa N kd len X Y R [.ref (bs + (i)), .int (zI (a)), .int (zI (b))]) (zQv D cy bs N kd len (fun st => st.2.1 = Y ∧ st.2.2 = R ∧ ((st.1) = cNt X i (a) (b)))) 0 0 (zA bs) := by
  refine zstart (by decide) (Nat.le_of_ble_eq_true rfl) ?_
  intro p e s m args below meth c ls C hE hH hr hlk hnm hl hargs
  have hF := hF hH.2.2.1 hH.2.2.2
  have hS : va_S (zA bs) s.heap s.heap [] := va_S.rf
  have hl : lv_has ls 3 [(0, .ref (bs + (i))), (1, .int (zI (a))), (2, .int (zI (b)))] := hl
  refine lv_iload_n C.1 C.2.1 dX6_tell_0 rfl (lv_at hl 1 rfl) ?_
  by_cases c1_0 : a = 0
  · have hF := hF.1 c1_0
    refine zd_tabI C ha 40 (0) c1_0 dX6_tell_1 (by decide) (by decide) rfl (by decide) ?_
    refine lv_aload_n C.1 C.2.1 dX6_tell_40 rfl (lv_at hl 0 rfl) ?_
    refine lv_iload_n C.1 C.2.1 dX6_tell_41 rfl (lv_at hl 2 rfl) ?_
    refine zp6_0 C hH hS (zNet_n0 hC) (zNet_k0 hC) q_177 hb dX6_tell_42 (fun H locs hH hS => ?_)
    obtain ⟨X2, eX2⟩ : ∃ z, z = zU X (i) 0 (b) := ⟨_, rfl⟩
    rw [← eX2] at hH
    have hF := hF X2 eX2 hH.2.2.1
    refine lv_goto (tgt := 114) C.1 C.2.1 dX6_tell_45 (by decide) ?_
    exact zd_vret C hr hlk hH hS (⟨rfl, rfl, hF⟩) dX6_tell_114
  · have hF := hF.2
    by_cases c1_1 : a = 1
    · have hF := hF.1 c1_1
      refine zd_tabI C ha 48 (1) c1_1 dX6_tell_1 (by decide) (by decide) rfl (by decide) ?_
      refine lv_aload_n C.1 C.2.1 dX6_tell_48 rfl (lv_at hl 0 rfl) ?_
      refine lv_iload_n C.1 C.2.1 dX6_tell_49 rfl (lv_at hl 2 rfl) ?_
      refine zp6_1 C hH hS (zNet_n0 hC) (zNet_k0 hC) q_179 hb dX6_tell_50 (fun H locs hH hS => ?_)
      obtain ⟨X3, eX3⟩ : ∃ z, z = zU X (i) 1 (b) := ⟨_, rfl⟩
      rw [← eX3] at hH
      have hF := hF X3 eX3 hH.2.2.1
      refine lv_goto (tgt := 114) C.1 C.2.1 dX6_tell_53 (by decide) ?_
      exact zd_vret C hr hlk hH hS (⟨rfl, rfl, hF⟩) dX6_tell_114
    · have hF := hF.2
      by_cases c1_2 : a = 2
      · have hF := hF.1 c1_2
        refine zd_tabI C ha 56 (2) c1_2 dX6_tell_1 (by decide) (by decide) rfl (by decide) ?_
        refine lv_aload_n C.1 C.2.1 dX6_tell_56 rfl (lv_at hl 0 rfl) ?_
        refine lv_iload_n C.1 C.2.1 dX6_tell_57 rfl (lv_at hl 2 rfl) ?_
        refine zp6_2 C hH hS (zNet_n0 hC) (zNet_k0 hC) q_182 hb dX6_tell_58 (fun H locs hH hS => ?_)
        obtain ⟨X4, eX4⟩ : ∃ z, z = zU X (i) 2 (b) := ⟨_, rfl⟩
        rw [← eX4] at hH
        have hF := hF X4 eX4 hH.2.2.1
        refine lv_goto (tgt := 114) C.1 C.2.1 dX6_tell_61 (by decide) ?_
        exact zd_vret C hr hlk hH hS (⟨rfl, rfl, hF⟩) dX6_tell_114
      · have hF := hF.2
        by_cases c1_3 : a = 3
        · have hF := hF.1 c1_3
          refine zd_tabI C ha 64 (3) c1_3 dX6_tell_1 (by decide) (by decide) rfl (by decide) ?_
          refine lv_aload_n C.1 C.2.1 dX6_tell_64 rfl (lv_at hl 0 rfl) ?_
          refine lv_iload_n C.1 C.2.1 dX6_tell_65 rfl (lv_at hl 2 rfl) ?_
          refine zp6_3 C hH hS (zNet_n0 hC) (zNet_k0 hC) q_185 hb dX6_tell_66 (fun H locs hH hS => ?_)
          obtain ⟨X5, eX5⟩ : ∃ z, z = zU X (i) 3 (b) := ⟨_, rfl⟩
          rw [← eX5] at hH
          have hF := hF X5 eX5 hH.2.2.1
          refine lv_goto (tgt := 114) C.1 C.2.1 dX6_tell_69 (by decide) ?_
          exact zd_vret C hr hlk hH hS (⟨rfl, rfl, hF⟩) dX6_tell_114
        · have hF := hF.2
          by_cases c1_4 : a = 4
          · have hF := hF.1 c1_4
            refine zd_tabI C ha 72 (4) c1_4 dX6_tell_1 (by decide) (by decide) rfl (by decide) ?_
            refine lv_aload_n C.1 C.2.1 dX6_tell_72 rfl (lv_at hl 0 rfl) ?_
            refine lv_iload_n C.1 C.2.1 dX6_tell_73 rfl (lv_at hl 2 rfl) ?_
            refine zp6_4 C hH hS (zNet_n0 hC) (zNet_k0 hC) q_188 hb dX6_tell_74 (fun H locs hH hS => ?_)
            obtain ⟨X6, eX6⟩ : ∃ z, z = zU X (i) 4 (b) := ⟨_, rfl⟩
            rw [← eX6] at hH
            have hF := hF X6 eX6 hH.2.2.1
            refine lv_goto (tgt := 114) C.1 C.2.1 dX6_tell_77 (by decide) ?_
            exact zd_vret C hr hlk hH hS (⟨rfl, rfl, hF⟩) dX6_tell_114
          · have hF := hF.2
            by_cases c1_5 : a = 5
            · have hF := hF.1 c1_5
              refine zd_tabI C ha 80 (5) c1_5 dX6_tell_1 (by decide) (by decide) rfl (by decide) ?_
              refine lv_aload_n C.1 C.2.1 dX6_tell_80 rfl (lv_at hl 0 rfl) ?_
              refine lv_iload_n C.1 C.2.1 dX6_tell_81 rfl (lv_at hl 2 rfl) ?_
              refine zp6_5 C hH hS (zNet_n0 hC) (zNet_k0 hC) q_190 hb dX6_tell_82 (fun H locs hH hS => ?_)
              obtain ⟨X7, eX7⟩ : ∃ z, z = zU X (i) 5 (b) := ⟨_, rfl⟩
              rw [← eX7] at hH
              have hF := hF X7 eX7 hH.2.2.1
              refine lv_goto (tgt := 114) C.1 C.2.1 dX6_tell_85 (by decide) ?_
              exact zd_vret C hr hlk hH hS (⟨rfl, rfl, hF⟩) dX6_tell_114
            · have hF := hF.2
              have c1 := tsw_0_5 (a) c1_0 c1_1 c1_2 c1_3 c1_4 c1_5
              have hF := hF c1
              refine zd_tabO C ha 88 c1 dX6_tell_1 (by decide) ?_
              refine lv_aload_n C.1 C.2.1 dX6_tell_88 rfl (lv_at hl 0 rfl) ?_
              refine zg6_6 C hH (zNet_n0 hC) (zNet_k0 hC) q_194 dX6_tell_89 ?_
              refine zd_bipush C (by decide) dX6_tell_92 ?_
              refine zd_icmp_ge C (hH.2.2.1 _ _) (by decide) 114 dX6_tell_94 (by decide) (fun c8 => ?_) (fun c8 => ?_)
              · have hF := hF.1 c8
                exact zd_vret C hr hlk hH hS (⟨rfl, rfl, hF⟩) dX6_tell_114
              · have hF := hF.2 c8
                refine lv_aload_n C.1 C.2.1 dX6_tell_97 rfl (lv_at hl 0 rfl) ?_
                refine zg6_7 C hH (zNet_n0 hC) (zNet_k0 hC) q_197 (zNet_r1 hC) dX6_tell_98 ?_
                refine lv_aload_n C.1 C.2.1 dX6_tell_101 rfl (lv_at hl 0 rfl) ?_
                refine lv_dup C.1 C.2.1 dX6_tell_102 rfl ?_
                refine zg6_6 C hH (zNet_n0 hC) (zNet_k0 hC) q_194 dX6_tell_103 ?_
                refine lv_dup_x1 C.1 C.2.1 dX6_tell_106 rfl rfl ?_
                refine zd_iconst C dX6_tell_107 ?_
                refine zd_iadd C dX6_tell_108 ?_
                obtain ⟨o9, hF⟩ := hF
                have gg1 := hH.2.2.1
                refine zp6_6 C hH hS (zNet_n0 hC) (zNet_k0 hC) q_194 o9 dX6_tell_109 (fun H locs hH hS => ?_)
                obtain ⟨X10, eX10⟩ : ∃ z, z = zU X (i) 6 ((X (i) 6) + 1) := ⟨_, rfl⟩
                rw [← eX10] at hH
                have hF := hF X10 eX10 hH.2.2.1
                refine lv_iload_n C.1 C.2.1 dX6_tell_112 rfl (lv_at hl 2 rfl) ?_
                obtain ⟨o11, hF⟩ := hF
                refine zd_iast C hH hS (zNet_n1 hC) (zNet_k1 hC) o11.1 (by rw [zNet_l1 hC]; exact o11.2) (by rw [zNet_l1 hC]; decide) hb dX6_tell_113 (fun H locs hH hS => ?_)
                obtain ⟨X12, eX12⟩ : ∃ z, z = zU X10 (i + 1) (X (i) 6) (b) := ⟨_, rfl⟩
                rw [← eX12] at hH
                have hF := hF X12 eX12 hH.2.2.1
                exact zd_vret C hr hlk hH hS (⟨rfl, rfl, hF⟩) dX6_tell_114
theorem v_X6_tell {X Y : Nat → Int → Int} {R : Nat → Int → Option Nat} {i : Nat} (a : Int) (ha : rI a) (b : Int) (hb : rI b) (hp : 0 ≤ X i 6 ∧ X i 6 ≤ 6) : F_X6_tell i X Y R a b := by
  unfold F_X6_tell
  intro hX hY
  unfold cNt
  refine ⟨?_, ?_⟩
  · intro c1
    intro X2
    intro eX2
    intro rX2
    rw [if_pos (by omega), c1, eX2]
  refine ⟨?_, ?_⟩
  · intro c2
    intro X3
    intro eX3
    intro rX3
    rw [if_pos (by omega), c2, eX3]
  refine ⟨?_, ?_⟩
  · intro c3
    intro X4
    intro eX4
    intro rX4
    rw [if_pos (by omega), c3, eX4]
  refine ⟨?_, ?_⟩
  · intro c4
    intro X5
    intro eX5
    intro rX5
    rw [if_pos (by omega), c4, eX5]
  refine ⟨?_, ?_⟩
  · intro c5
    intro X6
    intro eX6
    intro rX6
    rw [if_pos (by omega), c5, eX6]
  refine ⟨?_, ?_⟩
  · intro c6
    intro X7
    intro eX7
    intro rX7
    rw [if_pos (by omega), c6, eX7]
  intro c7
  refine ⟨?_, ?_⟩
  · intro c8
    rw [if_neg (by omega), if_neg (by omega)]
  intro c9
  refine ⟨?_, ?_⟩
  · first | omega | exact ⟨by omega, by omega⟩ | decide | assumption | exact ⟨by omega, by omega, by omega⟩ | exact ⟨by decide, by decide⟩
  intro X10
  intro eX10
  intro rX10
  refine ⟨?_, ?_⟩
  · first | omega | exact ⟨by omega, by omega⟩ | decide | assumption | exact ⟨by omega, by omega, by omega⟩ | exact ⟨by decide, by decide⟩
  intro X12
  intro eX12
  intro rX12
  rw [if_neg (by omega), if_pos (by omega), eX12, eX10]
theorem c_X6_tell {l : Launch} {D : va_G} {cy : Nat → ClassId} {bs N : Nat} {sa : Nat → Nat} {kd len : Nat → Nat} {X Y : Nat → Int → Int} {R : Nat → Int → Option Nat} {i : Nat} (hC : zNet N kd len R i) (a : Int) (ha : rI a) (b : Int) (hb : rI b) (hp : 0 ≤ X i 6 ∧ X i 6 ≤ 6) : Met l yX6_tell (.code yX6_tell cX6_tell 3 none :: zTB) (zRm 0 0) (zPc D cy bs sa N kd len X Y R [.ref (bs + (i)), .int (zI (a)), .int (zI (b))]) (zQv D cy bs N kd len (fun st => st.2.1 = Y ∧ st.2.2 = R ∧ ((st.1) = cNt X i (a) (b)))) 0 0 (zA bs) := w_X6_tell hC a ha b hb (v_X6_tell a ha b hb hp)
abbrev cX0_has : ByteArray := prog_2_method_3_code
def yX0_has : MethodName := ⟨RX0, "has", "(I)Z"⟩
theorem dX0_has_0 : decode cX0_has 0 = .ok (.iload_n 1, 1) := by decide +kernel
theorem dX0_has_1 : decode cX0_has 1 = .ok (.ifCond .lt 21, 3) := by decide +kernel
theorem dX0_has_4 : decode cX0_has 4 = .ok (.iload_n 1, 1) := by decide +kernel
theorem dX0_has_5 : decode cX0_has 5 = .ok (.aload_n 0, 1) := by decide +kernel
theorem dX0_has_6 : decode cX0_has 6 = .ok (.getfield 27, 3) := by decide +kernel
theorem dX0_has_9 : decode cX0_has 9 = .ok (.if_icmp .gt 13, 3) := by decide +kernel
theorem dX0_has_12 : decode cX0_has 12 = .ok (.iload_n 1, 1) := by decide +kernel
theorem dX0_has_13 : decode cX0_has 13 = .ok (.bipush 15, 2) := by decide +kernel
theorem dX0_has_15 : decode cX0_has 15 = .ok (.if_icmp .ge 7, 3) := by decide +kernel
theorem dX0_has_18 : decode cX0_has 18 = .ok (.iconst 1, 1) := by decide +kernel
theorem dX0_has_19 : decode cX0_has 19 = .ok (.goto 4, 3) := by decide +kernel
theorem dX0_has_22 : decode cX0_has 22 = .ok (.iconst 0, 1) := by decide +kernel
theorem dX0_has_23 : decode cX0_has 23 = .ok (.ireturn, 1) := by decide +kernel
theorem q_224 : Cond.fieldLink RX0 27 RX0 "last" "I" ∈ zTB := zmem 224 (by decide +kernel) rfl
def F_X0_has (i : Nat) (X Y : Nat → Int → Int) (R : Nat → Int → Option Nat) (a : Int) : Prop := (∀ i j, rI (X i j)) → (∀ i j, rL (Y i j)) → ((a < 0) → (0 = bz (decide (0 ≤ a ∧ a ≤ X i 0 ∧ a < 15)))) ∧ ((¬ (a < 0)) → ((((X (i) 0) < a) → (0 = bz (decide (0 ≤ a ∧ a ≤ X i 0 ∧ a < 15)))) ∧ ((¬ ((X (i) 0) < a)) → (((15 ≤ a) → (0 = bz (decide (0 ≤ a ∧ a ≤ X i 0 ∧ a < 15)))) ∧ ((¬ (15 ≤ a)) → (1 = bz (decide (0 ≤ a ∧ a ≤ X i 0 ∧ a < 15))))))))
set_option maxHeartbeats 4000000 in
set_option maxRecDepth 100000 in
theorem w_X0_has {l : Launch} {D : va_G} {cy : Nat → ClassId} {bs N : Nat} {sa : Nat → Nat} {kd len : Nat → Nat} {X Y : Nat → Int → Int} {R : Nat → Int → Option Nat} {i : Nat} (hC : zBlocks N kd len R i) (a : Int) (ha : rI a) (hF : F_X0_has i X Y R a) : Met l yX0_has (.code yX0_has cX0_has 2 (some .boolean) :: zTB) (zRm 0 0) (zPc D cy bs sa N kd len X Y R [.ref (bs + (i)), .int (zI (a))]) (zQi D cy bs N kd len (fun r st => r = bz (decide (0 ≤ a ∧ a ≤ X i 0 ∧ a < 15)) ∧ st = (X, Y, R))) 0 0 (zA bs) := by
  refine zstart (by decide) (Nat.le_of_ble_eq_true rfl) ?_
  intro p e s m args below meth c ls C hE hH hr hlk hnm hl hargs
  have hF := hF hH.2.2.1 hH.2.2.2
  have hS : va_S (zA bs) s.heap s.heap [] := va_S.rf
  have hl : lv_has ls 2 [(0, .ref (bs + (i))), (1, .int (zI (a)))] := hl
  refine lv_iload_n C.1 C.2.1 dX0_has_0 rfl (lv_at hl 1 rfl) ?_
  refine zd_if_lt C ha 22 dX0_has_1 (by decide) (fun c1 => ?_) (fun c1 => ?_)
  · have hF := hF.1 c1
    refine zd_iconst C dX0_has_22 ?_
    exact zd_zret C hr hlk hH hS (by decide) (⟨hF, rfl⟩) dX0_has_23
  · have hF := hF.2 c1
    refine lv_iload_n C.1 C.2.1 dX0_has_4 rfl (lv_at hl 1 rfl) ?_
    refine lv_aload_n C.1 C.2.1 dX0_has_5 rfl (lv_at hl 0 rfl) ?_
    refine zg0_0 C hH (zBlocks_n0 hC) (zBlocks_k0 hC) q_224 dX0_has_6 ?_
    refine zd_icmp_gt C ha (hH.2.2.1 _ _) 22 dX0_has_9 (by decide) (fun c2 => ?_) (fun c2 => ?_)
    · have hF := hF.1 c2
      refine zd_iconst C dX0_has_22 ?_
      exact zd_zret C hr hlk hH hS (by decide) (⟨hF, rfl⟩) dX0_has_23
    · have hF := hF.2 c2
      refine lv_iload_n C.1 C.2.1 dX0_has_12 rfl (lv_at hl 1 rfl) ?_
      refine zd_bipush C (by decide) dX0_has_13 ?_
      refine zd_icmp_ge C ha (by decide) 22 dX0_has_15 (by decide) (fun c3 => ?_) (fun c3 => ?_)
      · have hF := hF.1 c3
        refine zd_iconst C dX0_has_22 ?_
        exact zd_zret C hr hlk hH hS (by decide) (⟨hF, rfl⟩) dX0_has_23
      · have hF := hF.2 c3
        refine zd_iconst C dX0_has_18 ?_
        refine lv_goto (tgt := 23) C.1 C.2.1 dX0_has_19 (by decide) ?_
        exact zd_zret C hr hlk hH hS (by decide) (⟨hF, rfl⟩) dX0_has_23
theorem v_X0_has {X Y : Nat → Int → Int} {R : Nat → Int → Option Nat} {i : Nat} (a : Int) (ha : rI a) : F_X0_has i X Y R a := by
  unfold F_X0_has
  intro hX hY
  refine ⟨?_, ?_⟩
  · intro c1
    rw [decide_eq_false (by omega)]
    rfl
  intro c2
  refine ⟨?_, ?_⟩
  · intro c3
    rw [decide_eq_false (by omega)]
    rfl
  intro c4
  refine ⟨?_, ?_⟩
  · intro c5
    rw [decide_eq_false (by omega)]
    rfl
  intro c6
  rw [decide_eq_true (by omega)]
  rfl
theorem c_X0_has {l : Launch} {D : va_G} {cy : Nat → ClassId} {bs N : Nat} {sa : Nat → Nat} {kd len : Nat → Nat} {X Y : Nat → Int → Int} {R : Nat → Int → Option Nat} {i : Nat} (hC : zBlocks N kd len R i) (a : Int) (ha : rI a) : Met l yX0_has (.code yX0_has cX0_has 2 (some .boolean) :: zTB) (zRm 0 0) (zPc D cy bs sa N kd len X Y R [.ref (bs + (i)), .int (zI (a))]) (zQi D cy bs N kd len (fun r st => r = bz (decide (0 ≤ a ∧ a ≤ X i 0 ∧ a < 15)) ∧ st = (X, Y, R))) 0 0 (zA bs) := w_X0_has hC a ha (v_X0_has a ha)
abbrev cX0_takesPay : ByteArray := prog_2_method_5_code
def yX0_takesPay : MethodName := ⟨RX0, "takesPay", "()Z"⟩
theorem dX0_takesPay_0 : decode cX0_takesPay 0 = .ok (.aload_n 0, 1) := by decide +kernel
theorem dX0_takesPay_1 : decode cX0_takesPay 1 = .ok (.getfield 27, 3) := by decide +kernel
theorem dX0_takesPay_4 : decode cX0_takesPay 4 = .ok (.ifCond .le 29, 3) := by decide +kernel
theorem dX0_takesPay_7 : decode cX0_takesPay 7 = .ok (.aload_n 0, 1) := by decide +kernel
theorem dX0_takesPay_8 : decode cX0_takesPay 8 = .ok (.getfield 27, 3) := by decide +kernel
theorem dX0_takesPay_11 : decode cX0_takesPay 11 = .ok (.bipush 15, 2) := by decide +kernel
theorem dX0_takesPay_13 : decode cX0_takesPay 13 = .ok (.if_icmp .ge 20, 3) := by decide +kernel
theorem dX0_takesPay_16 : decode cX0_takesPay 16 = .ok (.aload_n 0, 1) := by decide +kernel
theorem dX0_takesPay_17 : decode cX0_takesPay 17 = .ok (.getfield 21, 3) := by decide +kernel
theorem dX0_takesPay_20 : decode cX0_takesPay 20 = .ok (.aload_n 0, 1) := by decide +kernel
theorem dX0_takesPay_21 : decode cX0_takesPay 21 = .ok (.getfield 27, 3) := by decide +kernel
theorem dX0_takesPay_24 : decode cX0_takesPay 24 = .ok (.iaload, 1) := by decide +kernel
theorem dX0_takesPay_25 : decode cX0_takesPay 25 = .ok (.iconst 3, 1) := by decide +kernel
theorem dX0_takesPay_26 : decode cX0_takesPay 26 = .ok (.if_icmp .ge 7, 3) := by decide +kernel
theorem dX0_takesPay_29 : decode cX0_takesPay 29 = .ok (.iconst 1, 1) := by decide +kernel
theorem dX0_takesPay_30 : decode cX0_takesPay 30 = .ok (.goto 4, 3) := by decide +kernel
theorem dX0_takesPay_33 : decode cX0_takesPay 33 = .ok (.iconst 0, 1) := by decide +kernel
theorem dX0_takesPay_34 : decode cX0_takesPay 34 = .ok (.ireturn, 1) := by decide +kernel
theorem q_237 : Cond.fieldLink RX0 21 RX0 "pays" "[I" ∈ zTB := zmem 237 (by decide +kernel) rfl
def F_X0_takesPay (i : Nat) (X Y : Nat → Int → Int) (R : Nat → Int → Option Nat)  : Prop := (∀ i j, rI (X i j)) → (∀ i j, rL (Y i j)) → (((X (i) 0) ≤ 0) → (0 = bz (decide (0 < X i 0 ∧ X i 0 < 15 ∧ X (i + 4) (X i 0) < 3)))) ∧ ((¬ ((X (i) 0) ≤ 0)) → (((15 ≤ (X (i) 0)) → (0 = bz (decide (0 < X i 0 ∧ X i 0 < 15 ∧ X (i + 4) (X i 0) < 3)))) ∧ ((¬ (15 ≤ (X (i) 0))) → ((0 ≤ (X (i) 0) ∧ (X (i) 0) < 15) ∧ (((3 ≤ (X (i + 4) (X (i) 0))) → (0 = bz (decide (0 < X i 0 ∧ X i 0 < 15 ∧ X (i + 4) (X i 0) < 3)))) ∧ ((¬ (3 ≤ (X (i + 4) (X (i) 0)))) → (1 = bz (decide (0 < X i 0 ∧ X i 0 < 15 ∧ X (i + 4) (X i 0) < 3)))))))))
set_option maxHeartbeats 4000000 in
set_option maxRecDepth 100000 in
theorem w_X0_takesPay {l : Launch} {D : va_G} {cy : Nat → ClassId} {bs N : Nat} {sa : Nat → Nat} {kd len : Nat → Nat} {X Y : Nat → Int → Int} {R : Nat → Int → Option Nat} {i : Nat} (hC : zBlocks N kd len R i)  (hF : F_X0_takesPay i X Y R ) : Met l yX0_takesPay (.code yX0_takesPay cX0_takesPay 1 (some .boolean) :: zTB) (zRm 0 0) (zPc D cy bs sa N kd len X Y R [.ref (bs + (i))]) (zQi D cy bs N kd len (fun r st => r = bz (decide (0 < X i 0 ∧ X i 0 < 15 ∧ X (i + 4) (X i 0) < 3)) ∧ st = (X, Y, R))) 0 0 (zA bs) := by
  refine zstart (by decide) (Nat.le_of_ble_eq_true rfl) ?_
  intro p e s m args below meth c ls C hE hH hr hlk hnm hl hargs
  have hF := hF hH.2.2.1 hH.2.2.2
  have hS : va_S (zA bs) s.heap s.heap [] := va_S.rf
  have hl : lv_has ls 1 [(0, .ref (bs + (i)))] := hl
  refine lv_aload_n C.1 C.2.1 dX0_takesPay_0 rfl (lv_at hl 0 rfl) ?_
  refine zg0_0 C hH (zBlocks_n0 hC) (zBlocks_k0 hC) q_224 dX0_takesPay_1 ?_
  refine zd_if_le C (hH.2.2.1 _ _) 33 dX0_takesPay_4 (by decide) (fun c1 => ?_) (fun c1 => ?_)
  · have hF := hF.1 c1
    refine zd_iconst C dX0_takesPay_33 ?_
    exact zd_zret C hr hlk hH hS (by decide) (⟨hF, rfl⟩) dX0_takesPay_34
  · have hF := hF.2 c1
    refine lv_aload_n C.1 C.2.1 dX0_takesPay_7 rfl (lv_at hl 0 rfl) ?_
    refine zg0_0 C hH (zBlocks_n0 hC) (zBlocks_k0 hC) q_224 dX0_takesPay_8 ?_
    refine zd_bipush C (by decide) dX0_takesPay_11 ?_
    refine zd_icmp_ge C (hH.2.2.1 _ _) (by decide) 33 dX0_takesPay_13 (by decide) (fun c2 => ?_) (fun c2 => ?_)
    · have hF := hF.1 c2
      refine zd_iconst C dX0_takesPay_33 ?_
      exact zd_zret C hr hlk hH hS (by decide) (⟨hF, rfl⟩) dX0_takesPay_34
    · have hF := hF.2 c2
      refine lv_aload_n C.1 C.2.1 dX0_takesPay_16 rfl (lv_at hl 0 rfl) ?_
      refine zg0_4 C hH (zBlocks_n0 hC) (zBlocks_k0 hC) q_237 (zBlocks_r4 hC) dX0_takesPay_17 ?_
      refine lv_aload_n C.1 C.2.1 dX0_takesPay_20 rfl (lv_at hl 0 rfl) ?_
      refine zg0_0 C hH (zBlocks_n0 hC) (zBlocks_k0 hC) q_224 dX0_takesPay_21 ?_
      obtain ⟨o3, hF⟩ := hF
      refine zd_iald C hH (zBlocks_n4 hC) (zBlocks_k4 hC) o3.1 (by rw [zBlocks_l4 hC]; exact o3.2) (by rw [zBlocks_l4 hC]; decide) dX0_takesPay_24 ?_
      refine zd_iconst C dX0_takesPay_25 ?_
      refine zd_icmp_ge C (hH.2.2.1 _ _) (by decide) 33 dX0_takesPay_26 (by decide) (fun c4 => ?_) (fun c4 => ?_)
      · have hF := hF.1 c4
        refine zd_iconst C dX0_takesPay_33 ?_
        exact zd_zret C hr hlk hH hS (by decide) (⟨hF, rfl⟩) dX0_takesPay_34
      · have hF := hF.2 c4
        refine zd_iconst C dX0_takesPay_29 ?_
        refine lv_goto (tgt := 34) C.1 C.2.1 dX0_takesPay_30 (by decide) ?_
        exact zd_zret C hr hlk hH hS (by decide) (⟨hF, rfl⟩) dX0_takesPay_34
theorem v_X0_takesPay {X Y : Nat → Int → Int} {R : Nat → Int → Option Nat} {i : Nat}  (hp : 0 ≤ X i 0) : F_X0_takesPay i X Y R  := by
  unfold F_X0_takesPay
  intro hX hY
  refine ⟨?_, ?_⟩
  · intro c1
    rw [decide_eq_false (by omega)]
    rfl
  intro c2
  refine ⟨?_, ?_⟩
  · intro c3
    rw [decide_eq_false (by omega)]
    rfl
  intro c4
  refine ⟨?_, ?_⟩
  · first | omega | exact ⟨by omega, by omega⟩ | decide | assumption | exact ⟨by omega, by omega, by omega⟩ | exact ⟨by decide, by decide⟩
  refine ⟨?_, ?_⟩
  · intro c5
    rw [decide_eq_false (by omega)]
    rfl
  intro c6
  rw [decide_eq_true (by omega)]
  rfl
theorem c_X0_takesPay {l : Launch} {D : va_G} {cy : Nat → ClassId} {bs N : Nat} {sa : Nat → Nat} {kd len : Nat → Nat} {X Y : Nat → Int → Int} {R : Nat → Int → Option Nat} {i : Nat} (hC : zBlocks N kd len R i)  (hp : 0 ≤ X i 0) : Met l yX0_takesPay (.code yX0_takesPay cX0_takesPay 1 (some .boolean) :: zTB) (zRm 0 0) (zPc D cy bs sa N kd len X Y R [.ref (bs + (i))]) (zQi D cy bs N kd len (fun r st => r = bz (decide (0 < X i 0 ∧ X i 0 < 15 ∧ X (i + 4) (X i 0) < 3)) ∧ st = (X, Y, R))) 0 0 (zA bs) := w_X0_takesPay hC  (v_X0_takesPay  hp)
abbrev cX0_payPart : ByteArray := prog_2_method_7_code
def yX0_payPart : MethodName := ⟨RX0, "payPart", "(III)I"⟩
theorem dX0_payPart_0 : decode cX0_payPart 0 = .ok (.iload_n 1, 1) := by decide +kernel
theorem dX0_payPart_1 : decode cX0_payPart 1 = .ok (.iconst 3, 1) := by decide +kernel
theorem dX0_payPart_2 : decode cX0_payPart 2 = .ok (.imul, 1) := by decide +kernel
theorem dX0_payPart_3 : decode cX0_payPart 3 = .ok (.iload_n 2, 1) := by decide +kernel
theorem dX0_payPart_4 : decode cX0_payPart 4 = .ok (.iadd, 1) := by decide +kernel
theorem dX0_payPart_5 : decode cX0_payPart 5 = .ok (.iconst 3, 1) := by decide +kernel
theorem dX0_payPart_6 : decode cX0_payPart 6 = .ok (.imul, 1) := by decide +kernel
theorem dX0_payPart_7 : decode cX0_payPart 7 = .ok (.iload_n 3, 1) := by decide +kernel
theorem dX0_payPart_8 : decode cX0_payPart 8 = .ok (.iadd, 1) := by decide +kernel
theorem dX0_payPart_9 : decode cX0_payPart 9 = .ok (.istore 4, 2) := by decide +kernel
theorem dX0_payPart_11 : decode cX0_payPart 11 = .ok (.iload 4, 2) := by decide +kernel
theorem dX0_payPart_13 : decode cX0_payPart 13 = .ok (.ifCond .lt 23, 3) := by decide +kernel
theorem dX0_payPart_16 : decode cX0_payPart 16 = .ok (.iload 4, 2) := by decide +kernel
theorem dX0_payPart_18 : decode cX0_payPart 18 = .ok (.aload_n 0, 1) := by decide +kernel
theorem dX0_payPart_19 : decode cX0_payPart 19 = .ok (.getfield 24, 3) := by decide +kernel
theorem dX0_payPart_22 : decode cX0_payPart 22 = .ok (.arraylength, 1) := by decide +kernel
theorem dX0_payPart_23 : decode cX0_payPart 23 = .ok (.if_icmp .ge 13, 3) := by decide +kernel
theorem dX0_payPart_26 : decode cX0_payPart 26 = .ok (.aload_n 0, 1) := by decide +kernel
theorem dX0_payPart_27 : decode cX0_payPart 27 = .ok (.getfield 24, 3) := by decide +kernel
theorem dX0_payPart_30 : decode cX0_payPart 30 = .ok (.iload 4, 2) := by decide +kernel
theorem dX0_payPart_32 : decode cX0_payPart 32 = .ok (.iaload, 1) := by decide +kernel
theorem dX0_payPart_33 : decode cX0_payPart 33 = .ok (.goto 4, 3) := by decide +kernel
theorem dX0_payPart_36 : decode cX0_payPart 36 = .ok (.iconst (-1), 1) := by decide +kernel
theorem dX0_payPart_37 : decode cX0_payPart 37 = .ok (.ireturn, 1) := by decide +kernel
theorem q_240 : Cond.fieldLink RX0 24 RX0 "pay" "[I" ∈ zTB := zmem 240 (by decide +kernel) rfl
def F_X0_payPart (i : Nat) (X Y : Nat → Int → Int) (R : Nat → Int → Option Nat) (a : Int) (b : Int) (g : Int) : Prop := (∀ i j, rI (X i j)) → (∀ i j, rL (Y i j)) → (rI ((((a * 3) + b) * 3) + g)) ∧ (((((((a * 3) + b) * 3) + g) < 0) → ((-1) = X (i + 5) ((a * 3 + b) * 3 + g))) ∧ ((¬ (((((a * 3) + b) * 3) + g) < 0)) → (((((135 : Nat) : Int) ≤ ((((a * 3) + b) * 3) + g)) → ((-1) = X (i + 5) ((a * 3 + b) * 3 + g))) ∧ ((¬ (((135 : Nat) : Int) ≤ ((((a * 3) + b) * 3) + g))) → ((0 ≤ ((((a * 3) + b) * 3) + g) ∧ ((((a * 3) + b) * 3) + g) < 135) ∧ (X (i + 5) ((((a * 3) + b) * 3) + g) = X (i + 5) ((a * 3 + b) * 3 + g)))))))
set_option maxHeartbeats 4000000 in
set_option maxRecDepth 100000 in
theorem w_X0_payPart {l : Launch} {D : va_G} {cy : Nat → ClassId} {bs N : Nat} {sa : Nat → Nat} {kd len : Nat → Nat} {X Y : Nat → Int → Int} {R : Nat → Int → Option Nat} {i : Nat} (hC : zBlocks N kd len R i) (a : Int) (ha : rI a) (b : Int) (hb : rI b) (g : Int) (hg : rI g) (hF : F_X0_payPart i X Y R a b g) : Met l yX0_payPart (.code yX0_payPart cX0_payPart 5 (some .int) :: zTB) (zRm 0 0) (zPc D cy bs sa N kd len X Y R [.ref (bs + (i)), .int (zI (a)), .int (zI (b)), .int (zI (g))]) (zQi D cy bs N kd len (fun r st => r = X (i + 5) ((a * 3 + b) * 3 + g) ∧ st = (X, Y, R))) 0 0 (zA bs) := by
  refine zstart (by decide) (Nat.le_of_ble_eq_true rfl) ?_
  intro p e s m args below meth c ls C hE hH hr hlk hnm hl hargs
  have hF := hF hH.2.2.1 hH.2.2.2
  have hS : va_S (zA bs) s.heap s.heap [] := va_S.rf
  have hl : lv_has ls 5 [(0, .ref (bs + (i))), (1, .int (zI (a))), (2, .int (zI (b))), (3, .int (zI (g)))] := hl
  refine lv_iload_n C.1 C.2.1 dX0_payPart_0 rfl (lv_at hl 1 rfl) ?_
  refine zd_iconst C dX0_payPart_1 ?_
  refine zd_imul C dX0_payPart_2 ?_
  refine lv_iload_n C.1 C.2.1 dX0_payPart_3 rfl (lv_at hl 2 rfl) ?_
  refine zd_iadd C dX0_payPart_4 ?_
  refine zd_iconst C dX0_payPart_5 ?_
  refine zd_imul C dX0_payPart_6 ?_
  refine lv_iload_n C.1 C.2.1 dX0_payPart_7 rfl (lv_at hl 3 rfl) ?_
  refine zd_iadd C dX0_payPart_8 ?_
  refine lv_istore (lv' := [(4, .int (zI ((((a * 3) + b) * 3) + g))), (0, .ref (bs + (i))), (1, .int (zI (a))), (2, .int (zI (b))), (3, .int (zI (g)))]) C.1 C.2.1 dX0_payPart_9 hl (by decide) rfl (fun ls hl => ?_)
  refine lv_iload C.1 C.2.1 dX0_payPart_11 (lv_at hl 0 rfl) ?_
  obtain ⟨o2, hF⟩ := hF
  refine zd_if_lt C o2 36 dX0_payPart_13 (by decide) (fun c1 => ?_) (fun c1 => ?_)
  · have hF := hF.1 c1
    refine zd_iconst C dX0_payPart_36 ?_
    exact zd_iret C hr hlk hH hS (by decide) (⟨hF, rfl⟩) dX0_payPart_37
  · have hF := hF.2 c1
    refine lv_iload C.1 C.2.1 dX0_payPart_16 (lv_at hl 0 rfl) ?_
    refine lv_aload_n C.1 C.2.1 dX0_payPart_18 rfl (lv_at hl 1 rfl) ?_
    refine zg0_5 C hH (zBlocks_n0 hC) (zBlocks_k0 hC) q_240 (zBlocks_r5 hC) dX0_payPart_19 ?_
    refine zd_alen C hH (zBlocks_n5 hC) (t0 := 1) (by rw [(zBlocks_k5 hC)]; rfl) rfl rfl dX0_payPart_22 ?_
    rw [zBlocks_l5 hC]
    refine zd_icmp_ge C o2 (by decide) 36 dX0_payPart_23 (by decide) (fun c3 => ?_) (fun c3 => ?_)
    · have hF := hF.1 c3
      refine zd_iconst C dX0_payPart_36 ?_
      exact zd_iret C hr hlk hH hS (by decide) (⟨hF, rfl⟩) dX0_payPart_37
    · have hF := hF.2 c3
      refine lv_aload_n C.1 C.2.1 dX0_payPart_26 rfl (lv_at hl 1 rfl) ?_
      refine zg0_5 C hH (zBlocks_n0 hC) (zBlocks_k0 hC) q_240 (zBlocks_r5 hC) dX0_payPart_27 ?_
      refine lv_iload C.1 C.2.1 dX0_payPart_30 (lv_at hl 0 rfl) ?_
      obtain ⟨o4, hF⟩ := hF
      refine zd_iald C hH (zBlocks_n5 hC) (zBlocks_k5 hC) o4.1 (by rw [zBlocks_l5 hC]; exact o4.2) (by rw [zBlocks_l5 hC]; decide) dX0_payPart_32 ?_
      refine lv_goto (tgt := 37) C.1 C.2.1 dX0_payPart_33 (by decide) ?_
      exact zd_iret C hr hlk hH hS (hH.2.2.1 _ _) (⟨hF, rfl⟩) dX0_payPart_37
theorem v_X0_payPart {X Y : Nat → Int → Int} {R : Nat → Int → Option Nat} {i : Nat} (a : Int) (ha : rI a) (b : Int) (hb : rI b) (g : Int) (hg : rI g) (hp : (0 ≤ a ∧ a < 15) ∧ (0 ≤ b ∧ b < 3) ∧ 0 ≤ g ∧ g < 3) : F_X0_payPart i X Y R a b g := by
  unfold F_X0_payPart
  intro hX hY
  obtain ⟨⟨a0, a1⟩, ⟨b0, b1⟩, g0, g1⟩ := hp
  refine ⟨?_, ?_⟩
  · first | omega | exact ⟨by omega, by omega⟩ | decide | assumption | exact ⟨by omega, by omega, by omega⟩ | exact ⟨by decide, by decide⟩
  refine ⟨?_, ?_⟩
  · intro c1
    exfalso
    omega
  intro c2
  refine ⟨?_, ?_⟩
  · intro c3
    exfalso
    omega
  intro c4
  refine ⟨?_, ?_⟩
  · first | omega | exact ⟨by omega, by omega⟩ | decide | assumption | exact ⟨by omega, by omega, by omega⟩ | exact ⟨by decide, by decide⟩
  rfl
theorem c_X0_payPart {l : Launch} {D : va_G} {cy : Nat → ClassId} {bs N : Nat} {sa : Nat → Nat} {kd len : Nat → Nat} {X Y : Nat → Int → Int} {R : Nat → Int → Option Nat} {i : Nat} (hC : zBlocks N kd len R i) (a : Int) (ha : rI a) (b : Int) (hb : rI b) (g : Int) (hg : rI g) (hp : (0 ≤ a ∧ a < 15) ∧ (0 ≤ b ∧ b < 3) ∧ 0 ≤ g ∧ g < 3) : Met l yX0_payPart (.code yX0_payPart cX0_payPart 5 (some .int) :: zTB) (zRm 0 0) (zPc D cy bs sa N kd len X Y R [.ref (bs + (i)), .int (zI (a)), .int (zI (b)), .int (zI (g))]) (zQi D cy bs N kd len (fun r st => r = X (i + 5) ((a * 3 + b) * 3 + g) ∧ st = (X, Y, R))) 0 0 (zA bs) := w_X0_payPart hC a ha b hb g hg (v_X0_payPart a ha b hb g hg hp)
/-- a block told -/
def cBk (X : Nat → Int → Int) (i : Nat) (a b g : Int) : Nat → Int → Int := if 15 ≤ X i 0 + 1 then X else zU (zU (zU (zU (zU X i 0 (X i 0 + 1)) (i + 1) (X i 0 + 1) a) (i + 2) (X i 0 + 1) b) (i + 3) (X i 0 + 1) g) (i + 4) (X i 0 + 1) 0
/-- a pay told -/
def cPy (X : Nat → Int → Int) (i : Nat) (a b g : Int) : Nat → Int → Int := if 0 < X i 0 ∧ X i 0 < 15 ∧ X (i + 4) (X i 0) < 3 then zU (zU (zU (zU X (i + 5) ((X i 0 * 3 + X (i + 4) (X i 0)) * 3) a) (i + 5) ((X i 0 * 3 + X (i + 4) (X i 0)) * 3 + 1) b) (i + 5) ((X i 0 * 3 + X (i + 4) (X i 0)) * 3 + 2) g) (i + 4) (X i 0) (X (i + 4) (X i 0) + 1) else X
abbrev cX0_addBlock : ByteArray := prog_2_method_4_code
def yX0_addBlock : MethodName := ⟨RX0, "addBlock", "(III)V"⟩
theorem dX0_addBlock_0 : decode cX0_addBlock 0 = .ok (.aload_n 0, 1) := by decide +kernel
theorem dX0_addBlock_1 : decode cX0_addBlock 1 = .ok (.getfield 27, 3) := by decide +kernel
theorem dX0_addBlock_4 : decode cX0_addBlock 4 = .ok (.iconst 1, 1) := by decide +kernel
theorem dX0_addBlock_5 : decode cX0_addBlock 5 = .ok (.iadd, 1) := by decide +kernel
theorem dX0_addBlock_6 : decode cX0_addBlock 6 = .ok (.bipush 15, 2) := by decide +kernel
theorem dX0_addBlock_8 : decode cX0_addBlock 8 = .ok (.if_icmp .lt 4, 3) := by decide +kernel
theorem dX0_addBlock_11 : decode cX0_addBlock 11 = .ok (.return_, 1) := by decide +kernel
theorem dX0_addBlock_12 : decode cX0_addBlock 12 = .ok (.aload_n 0, 1) := by decide +kernel
theorem dX0_addBlock_13 : decode cX0_addBlock 13 = .ok (.dup, 1) := by decide +kernel
theorem dX0_addBlock_14 : decode cX0_addBlock 14 = .ok (.getfield 27, 3) := by decide +kernel
theorem dX0_addBlock_17 : decode cX0_addBlock 17 = .ok (.iconst 1, 1) := by decide +kernel
theorem dX0_addBlock_18 : decode cX0_addBlock 18 = .ok (.iadd, 1) := by decide +kernel
theorem dX0_addBlock_19 : decode cX0_addBlock 19 = .ok (.putfield 27, 3) := by decide +kernel
theorem dX0_addBlock_22 : decode cX0_addBlock 22 = .ok (.aload_n 0, 1) := by decide +kernel
theorem dX0_addBlock_23 : decode cX0_addBlock 23 = .ok (.getfield 9, 3) := by decide +kernel
theorem dX0_addBlock_26 : decode cX0_addBlock 26 = .ok (.aload_n 0, 1) := by decide +kernel
theorem dX0_addBlock_27 : decode cX0_addBlock 27 = .ok (.getfield 27, 3) := by decide +kernel
theorem dX0_addBlock_30 : decode cX0_addBlock 30 = .ok (.iload_n 1, 1) := by decide +kernel
theorem dX0_addBlock_31 : decode cX0_addBlock 31 = .ok (.iastore, 1) := by decide +kernel
theorem dX0_addBlock_32 : decode cX0_addBlock 32 = .ok (.aload_n 0, 1) := by decide +kernel
theorem dX0_addBlock_33 : decode cX0_addBlock 33 = .ok (.getfield 15, 3) := by decide +kernel
theorem dX0_addBlock_36 : decode cX0_addBlock 36 = .ok (.aload_n 0, 1) := by decide +kernel
theorem dX0_addBlock_37 : decode cX0_addBlock 37 = .ok (.getfield 27, 3) := by decide +kernel
theorem dX0_addBlock_40 : decode cX0_addBlock 40 = .ok (.iload_n 2, 1) := by decide +kernel
theorem dX0_addBlock_41 : decode cX0_addBlock 41 = .ok (.iastore, 1) := by decide +kernel
theorem dX0_addBlock_42 : decode cX0_addBlock 42 = .ok (.aload_n 0, 1) := by decide +kernel
theorem dX0_addBlock_43 : decode cX0_addBlock 43 = .ok (.getfield 18, 3) := by decide +kernel
theorem dX0_addBlock_46 : decode cX0_addBlock 46 = .ok (.aload_n 0, 1) := by decide +kernel
theorem dX0_addBlock_47 : decode cX0_addBlock 47 = .ok (.getfield 27, 3) := by decide +kernel
theorem dX0_addBlock_50 : decode cX0_addBlock 50 = .ok (.iload_n 3, 1) := by decide +kernel
theorem dX0_addBlock_51 : decode cX0_addBlock 51 = .ok (.iastore, 1) := by decide +kernel
theorem dX0_addBlock_52 : decode cX0_addBlock 52 = .ok (.aload_n 0, 1) := by decide +kernel
theorem dX0_addBlock_53 : decode cX0_addBlock 53 = .ok (.getfield 21, 3) := by decide +kernel
theorem dX0_addBlock_56 : decode cX0_addBlock 56 = .ok (.aload_n 0, 1) := by decide +kernel
theorem dX0_addBlock_57 : decode cX0_addBlock 57 = .ok (.getfield 27, 3) := by decide +kernel
theorem dX0_addBlock_60 : decode cX0_addBlock 60 = .ok (.iconst 0, 1) := by decide +kernel
theorem dX0_addBlock_61 : decode cX0_addBlock 61 = .ok (.iastore, 1) := by decide +kernel
theorem dX0_addBlock_62 : decode cX0_addBlock 62 = .ok (.return_, 1) := by decide +kernel
theorem q_228 : Cond.fieldLink RX0 9 RX0 "parent" "[I" ∈ zTB := zmem 228 (by decide +kernel) rfl
theorem q_231 : Cond.fieldLink RX0 15 RX0 "time" "[I" ∈ zTB := zmem 231 (by decide +kernel) rfl
theorem q_234 : Cond.fieldLink RX0 18 RX0 "maker" "[I" ∈ zTB := zmem 234 (by decide +kernel) rfl
def F_X0_addBlock (i : Nat) (X Y : Nat → Int → Int) (R : Nat → Int → Option Nat) (a : Int) (b : Int) (g : Int) : Prop := (∀ i j, rI (X i j)) → (∀ i j, rL (Y i j)) → (rI ((X (i) 0) + 1)) ∧ (((((X (i) 0) + 1) < 15) → (∀ X3 : Nat → Int → Int, X3 = zU X (i) 0 ((X (i) 0) + 1) → (∀ i j, rI (X3 i j)) → ((0 ≤ (X3 (i) 0) ∧ (X3 (i) 0) < 15) ∧ (∀ X5 : Nat → Int → Int, X5 = zU X3 (i + 1) (X3 (i) 0) (a) → (∀ i j, rI (X5 i j)) → ((0 ≤ (X5 (i) 0) ∧ (X5 (i) 0) < 15) ∧ (∀ X7 : Nat → Int → Int, X7 = zU X5 (i + 2) (X5 (i) 0) (b) → (∀ i j, rI (X7 i j)) → ((0 ≤ (X7 (i) 0) ∧ (X7 (i) 0) < 15) ∧ (∀ X9 : Nat → Int → Int, X9 = zU X7 (i + 3) (X7 (i) 0) (g) → (∀ i j, rI (X9 i j)) → ((0 ≤ (X9 (i) 0) ∧ (X9 (i) 0) < 15) ∧ (∀ X11 : Nat → Int → Int, X11 = zU X9 (i + 4) (X9 (i) 0) (0) → (∀ i j, rI (X11 i j)) → ((X11) = cBk X i (a) (b) (g)))))))))))) ∧ ((¬ (((X (i) 0) + 1) < 15)) → ((X) = cBk X i (a) (b) (g))))
set_option maxHeartbeats 4000000 in
set_option maxRecDepth 100000 in
theorem w_X0_addBlock {l : Launch} {D : va_G} {cy : Nat → ClassId} {bs N : Nat} {sa : Nat → Nat} {kd len : Nat → Nat} {X Y : Nat → Int → Int} {R : Nat → Int → Option Nat} {i : Nat} (hC : zBlocks N kd len R i) (a : Int) (ha : rI a) (b : Int) (hb : rI b) (g : Int) (hg : rI g) (hF : F_X0_addBlock i X Y R a b g) : Met l yX0_addBlock (.code yX0_addBlock cX0_addBlock 4 none :: zTB) (zRm 0 0) (zPc D cy bs sa N kd len X Y R [.ref (bs + (i)), .int (zI (a)), .int (zI (b)), .int (zI (g))]) (zQv D cy bs N kd len (fun st => st.2.1 = Y ∧ st.2.2 = R ∧ ((st.1) = cBk X i (a) (b) (g)))) 0 0 (zA bs) := by
  refine zstart (by decide) (Nat.le_of_ble_eq_true rfl) ?_
  intro p e s m args below meth c ls C hE hH hr hlk hnm hl hargs
  have hF := hF hH.2.2.1 hH.2.2.2
  have hS : va_S (zA bs) s.heap s.heap [] := va_S.rf
  have hl : lv_has ls 4 [(0, .ref (bs + (i))), (1, .int (zI (a))), (2, .int (zI (b))), (3, .int (zI (g)))] := hl
  refine lv_aload_n C.1 C.2.1 dX0_addBlock_0 rfl (lv_at hl 0 rfl) ?_
  refine zg0_0 C hH (zBlocks_n0 hC) (zBlocks_k0 hC) q_224 dX0_addBlock_1 ?_
  refine zd_iconst C dX0_addBlock_4 ?_
  refine zd_iadd C dX0_addBlock_5 ?_
  refine zd_bipush C (by decide) dX0_addBlock_6 ?_
  obtain ⟨o2, hF⟩ := hF
  refine zd_icmp_lt C o2 (by decide) 12 dX0_addBlock_8 (by decide) (fun c1 => ?_) (fun c1 => ?_)
  · have hF := hF.1 c1
    refine lv_aload_n C.1 C.2.1 dX0_addBlock_12 rfl (lv_at hl 0 rfl) ?_
    refine lv_dup C.1 C.2.1 dX0_addBlock_13 rfl ?_
    refine zg0_0 C hH (zBlocks_n0 hC) (zBlocks_k0 hC) q_224 dX0_addBlock_14 ?_
    refine zd_iconst C dX0_addBlock_17 ?_
    refine zd_iadd C dX0_addBlock_18 ?_
    refine zp0_0 C hH hS (zBlocks_n0 hC) (zBlocks_k0 hC) q_224 o2 dX0_addBlock_19 (fun H locs hH hS => ?_)
    obtain ⟨X3, eX3⟩ : ∃ z, z = zU X (i) 0 ((X (i) 0) + 1) := ⟨_, rfl⟩
    rw [← eX3] at hH
    have hF := hF X3 eX3 hH.2.2.1
    refine lv_aload_n C.1 C.2.1 dX0_addBlock_22 rfl (lv_at hl 0 rfl) ?_
    refine zg0_1 C hH (zBlocks_n0 hC) (zBlocks_k0 hC) q_228 (zBlocks_r1 hC) dX0_addBlock_23 ?_
    refine lv_aload_n C.1 C.2.1 dX0_addBlock_26 rfl (lv_at hl 0 rfl) ?_
    refine zg0_0 C hH (zBlocks_n0 hC) (zBlocks_k0 hC) q_224 dX0_addBlock_27 ?_
    refine lv_iload_n C.1 C.2.1 dX0_addBlock_30 rfl (lv_at hl 1 rfl) ?_
    obtain ⟨o4, hF⟩ := hF
    refine zd_iast C hH hS (zBlocks_n1 hC) (zBlocks_k1 hC) o4.1 (by rw [zBlocks_l1 hC]; exact o4.2) (by rw [zBlocks_l1 hC]; decide) ha dX0_addBlock_31 (fun H locs hH hS => ?_)
    obtain ⟨X5, eX5⟩ : ∃ z, z = zU X3 (i + 1) (X3 (i) 0) (a) := ⟨_, rfl⟩
    rw [← eX5] at hH
    have hF := hF X5 eX5 hH.2.2.1
    refine lv_aload_n C.1 C.2.1 dX0_addBlock_32 rfl (lv_at hl 0 rfl) ?_
    refine zg0_2 C hH (zBlocks_n0 hC) (zBlocks_k0 hC) q_231 (zBlocks_r2 hC) dX0_addBlock_33 ?_
    refine lv_aload_n C.1 C.2.1 dX0_addBlock_36 rfl (lv_at hl 0 rfl) ?_
    refine zg0_0 C hH (zBlocks_n0 hC) (zBlocks_k0 hC) q_224 dX0_addBlock_37 ?_
    refine lv_iload_n C.1 C.2.1 dX0_addBlock_40 rfl (lv_at hl 2 rfl) ?_
    obtain ⟨o6, hF⟩ := hF
    refine zd_iast C hH hS (zBlocks_n2 hC) (zBlocks_k2 hC) o6.1 (by rw [zBlocks_l2 hC]; exact o6.2) (by rw [zBlocks_l2 hC]; decide) hb dX0_addBlock_41 (fun H locs hH hS => ?_)
    obtain ⟨X7, eX7⟩ : ∃ z, z = zU X5 (i + 2) (X5 (i) 0) (b) := ⟨_, rfl⟩
    rw [← eX7] at hH
    have hF := hF X7 eX7 hH.2.2.1
    refine lv_aload_n C.1 C.2.1 dX0_addBlock_42 rfl (lv_at hl 0 rfl) ?_
    refine zg0_3 C hH (zBlocks_n0 hC) (zBlocks_k0 hC) q_234 (zBlocks_r3 hC) dX0_addBlock_43 ?_
    refine lv_aload_n C.1 C.2.1 dX0_addBlock_46 rfl (lv_at hl 0 rfl) ?_
    refine zg0_0 C hH (zBlocks_n0 hC) (zBlocks_k0 hC) q_224 dX0_addBlock_47 ?_
    refine lv_iload_n C.1 C.2.1 dX0_addBlock_50 rfl (lv_at hl 3 rfl) ?_
    obtain ⟨o8, hF⟩ := hF
    refine zd_iast C hH hS (zBlocks_n3 hC) (zBlocks_k3 hC) o8.1 (by rw [zBlocks_l3 hC]; exact o8.2) (by rw [zBlocks_l3 hC]; decide) hg dX0_addBlock_51 (fun H locs hH hS => ?_)
    obtain ⟨X9, eX9⟩ : ∃ z, z = zU X7 (i + 3) (X7 (i) 0) (g) := ⟨_, rfl⟩
    rw [← eX9] at hH
    have hF := hF X9 eX9 hH.2.2.1
    refine lv_aload_n C.1 C.2.1 dX0_addBlock_52 rfl (lv_at hl 0 rfl) ?_
    refine zg0_4 C hH (zBlocks_n0 hC) (zBlocks_k0 hC) q_237 (zBlocks_r4 hC) dX0_addBlock_53 ?_
    refine lv_aload_n C.1 C.2.1 dX0_addBlock_56 rfl (lv_at hl 0 rfl) ?_
    refine zg0_0 C hH (zBlocks_n0 hC) (zBlocks_k0 hC) q_224 dX0_addBlock_57 ?_
    refine zd_iconst C dX0_addBlock_60 ?_
    obtain ⟨o10, hF⟩ := hF
    refine zd_iast C hH hS (zBlocks_n4 hC) (zBlocks_k4 hC) o10.1 (by rw [zBlocks_l4 hC]; exact o10.2) (by rw [zBlocks_l4 hC]; decide) (by decide) dX0_addBlock_61 (fun H locs hH hS => ?_)
    obtain ⟨X11, eX11⟩ : ∃ z, z = zU X9 (i + 4) (X9 (i) 0) (0) := ⟨_, rfl⟩
    rw [← eX11] at hH
    have hF := hF X11 eX11 hH.2.2.1
    exact zd_vret C hr hlk hH hS (⟨rfl, rfl, hF⟩) dX0_addBlock_62
  · have hF := hF.2 c1
    exact zd_vret C hr hlk hH hS (⟨rfl, rfl, hF⟩) dX0_addBlock_11
theorem v_X0_addBlock {X Y : Nat → Int → Int} {R : Nat → Int → Option Nat} {i : Nat} (a : Int) (ha : rI a) (b : Int) (hb : rI b) (g : Int) (hg : rI g) (hp : 0 ≤ X i 0 ∧ X i 0 < 15) : F_X0_addBlock i X Y R a b g := by
  unfold F_X0_addBlock
  intro hX hY
  obtain ⟨p0, p1⟩ := hp
  unfold cBk
  refine ⟨?_, ?_⟩
  · first | omega | exact ⟨by omega, by omega⟩ | decide | assumption | exact ⟨by omega, by omega, by omega⟩ | exact ⟨by decide, by decide⟩
  refine ⟨?_, ?_⟩
  · intro c1
    intro X3
    intro eX3
    have e3 : X3 i 0 = X i 0 + 1 := by rw [eX3, zU_s]
    intro rX3
    refine ⟨?_, ?_⟩
    · first | omega | exact ⟨by omega, by omega⟩ | decide | assumption | exact ⟨by omega, by omega, by omega⟩ | exact ⟨by decide, by decide⟩
    intro X5
    intro eX5
    have e5 : X5 i 0 = X i 0 + 1 := by rw [eX5, zU_o (by omega), e3]
    intro rX5
    refine ⟨?_, ?_⟩
    · first | omega | exact ⟨by omega, by omega⟩ | decide | assumption | exact ⟨by omega, by omega, by omega⟩ | exact ⟨by decide, by decide⟩
    intro X7
    intro eX7
    have e7 : X7 i 0 = X i 0 + 1 := by rw [eX7, zU_o (by omega), e5]
    intro rX7
    refine ⟨?_, ?_⟩
    · first | omega | exact ⟨by omega, by omega⟩ | decide | assumption | exact ⟨by omega, by omega, by omega⟩ | exact ⟨by decide, by decide⟩
    intro X9
    intro eX9
    have e9 : X9 i 0 = X i 0 + 1 := by rw [eX9, zU_o (by omega), e7]
    intro rX9
    refine ⟨?_, ?_⟩
    · first | omega | exact ⟨by omega, by omega⟩ | decide | assumption | exact ⟨by omega, by omega, by omega⟩ | exact ⟨by decide, by decide⟩
    intro X11
    intro eX11
    intro rX11
    rw [if_neg (by omega), eX11, e9, eX9, e7, eX7, e5, eX5, e3, eX3]
  intro c2
  rw [if_pos (by omega)]
theorem c_X0_addBlock {l : Launch} {D : va_G} {cy : Nat → ClassId} {bs N : Nat} {sa : Nat → Nat} {kd len : Nat → Nat} {X Y : Nat → Int → Int} {R : Nat → Int → Option Nat} {i : Nat} (hC : zBlocks N kd len R i) (a : Int) (ha : rI a) (b : Int) (hb : rI b) (g : Int) (hg : rI g) (hp : 0 ≤ X i 0 ∧ X i 0 < 15) : Met l yX0_addBlock (.code yX0_addBlock cX0_addBlock 4 none :: zTB) (zRm 0 0) (zPc D cy bs sa N kd len X Y R [.ref (bs + (i)), .int (zI (a)), .int (zI (b)), .int (zI (g))]) (zQv D cy bs N kd len (fun st => st.2.1 = Y ∧ st.2.2 = R ∧ ((st.1) = cBk X i (a) (b) (g)))) 0 0 (zA bs) := w_X0_addBlock hC a ha b hb g hg (v_X0_addBlock a ha b hb g hg hp)
abbrev cX0_addPay : ByteArray := prog_2_method_6_code
def yX0_addPay : MethodName := ⟨RX0, "addPay", "(III)V"⟩
theorem dX0_addPay_0 : decode cX0_addPay 0 = .ok (.aload_n 0, 1) := by decide +kernel
theorem dX0_addPay_1 : decode cX0_addPay 1 = .ok (.invokevirtual 37, 3) := by decide +kernel
theorem dX0_addPay_4 : decode cX0_addPay 4 = .ok (.ifCond .ne 4, 3) := by decide +kernel
theorem dX0_addPay_7 : decode cX0_addPay 7 = .ok (.return_, 1) := by decide +kernel
theorem dX0_addPay_8 : decode cX0_addPay 8 = .ok (.aload_n 0, 1) := by decide +kernel
theorem dX0_addPay_9 : decode cX0_addPay 9 = .ok (.getfield 27, 3) := by decide +kernel
theorem dX0_addPay_12 : decode cX0_addPay 12 = .ok (.iconst 3, 1) := by decide +kernel
theorem dX0_addPay_13 : decode cX0_addPay 13 = .ok (.imul, 1) := by decide +kernel
theorem dX0_addPay_14 : decode cX0_addPay 14 = .ok (.aload_n 0, 1) := by decide +kernel
theorem dX0_addPay_15 : decode cX0_addPay 15 = .ok (.getfield 21, 3) := by decide +kernel
theorem dX0_addPay_18 : decode cX0_addPay 18 = .ok (.aload_n 0, 1) := by decide +kernel
theorem dX0_addPay_19 : decode cX0_addPay 19 = .ok (.getfield 27, 3) := by decide +kernel
theorem dX0_addPay_22 : decode cX0_addPay 22 = .ok (.iaload, 1) := by decide +kernel
theorem dX0_addPay_23 : decode cX0_addPay 23 = .ok (.iadd, 1) := by decide +kernel
theorem dX0_addPay_24 : decode cX0_addPay 24 = .ok (.iconst 3, 1) := by decide +kernel
theorem dX0_addPay_25 : decode cX0_addPay 25 = .ok (.imul, 1) := by decide +kernel
theorem dX0_addPay_26 : decode cX0_addPay 26 = .ok (.istore 4, 2) := by decide +kernel
theorem dX0_addPay_28 : decode cX0_addPay 28 = .ok (.iload 4, 2) := by decide +kernel
theorem dX0_addPay_30 : decode cX0_addPay 30 = .ok (.ifCond .lt 15, 3) := by decide +kernel
theorem dX0_addPay_33 : decode cX0_addPay 33 = .ok (.iload 4, 2) := by decide +kernel
theorem dX0_addPay_35 : decode cX0_addPay 35 = .ok (.iconst 2, 1) := by decide +kernel
theorem dX0_addPay_36 : decode cX0_addPay 36 = .ok (.iadd, 1) := by decide +kernel
theorem dX0_addPay_37 : decode cX0_addPay 37 = .ok (.aload_n 0, 1) := by decide +kernel
theorem dX0_addPay_38 : decode cX0_addPay 38 = .ok (.getfield 24, 3) := by decide +kernel
theorem dX0_addPay_41 : decode cX0_addPay 41 = .ok (.arraylength, 1) := by decide +kernel
theorem dX0_addPay_42 : decode cX0_addPay 42 = .ok (.if_icmp .lt 4, 3) := by decide +kernel
theorem dX0_addPay_45 : decode cX0_addPay 45 = .ok (.return_, 1) := by decide +kernel
theorem dX0_addPay_46 : decode cX0_addPay 46 = .ok (.aload_n 0, 1) := by decide +kernel
theorem dX0_addPay_47 : decode cX0_addPay 47 = .ok (.getfield 24, 3) := by decide +kernel
theorem dX0_addPay_50 : decode cX0_addPay 50 = .ok (.iload 4, 2) := by decide +kernel
theorem dX0_addPay_52 : decode cX0_addPay 52 = .ok (.iload_n 1, 1) := by decide +kernel
theorem dX0_addPay_53 : decode cX0_addPay 53 = .ok (.iastore, 1) := by decide +kernel
theorem dX0_addPay_54 : decode cX0_addPay 54 = .ok (.aload_n 0, 1) := by decide +kernel
theorem dX0_addPay_55 : decode cX0_addPay 55 = .ok (.getfield 24, 3) := by decide +kernel
theorem dX0_addPay_58 : decode cX0_addPay 58 = .ok (.iload 4, 2) := by decide +kernel
theorem dX0_addPay_60 : decode cX0_addPay 60 = .ok (.iconst 1, 1) := by decide +kernel
theorem dX0_addPay_61 : decode cX0_addPay 61 = .ok (.iadd, 1) := by decide +kernel
theorem dX0_addPay_62 : decode cX0_addPay 62 = .ok (.iload_n 2, 1) := by decide +kernel
theorem dX0_addPay_63 : decode cX0_addPay 63 = .ok (.iastore, 1) := by decide +kernel
theorem dX0_addPay_64 : decode cX0_addPay 64 = .ok (.aload_n 0, 1) := by decide +kernel
theorem dX0_addPay_65 : decode cX0_addPay 65 = .ok (.getfield 24, 3) := by decide +kernel
theorem dX0_addPay_68 : decode cX0_addPay 68 = .ok (.iload 4, 2) := by decide +kernel
theorem dX0_addPay_70 : decode cX0_addPay 70 = .ok (.iconst 2, 1) := by decide +kernel
theorem dX0_addPay_71 : decode cX0_addPay 71 = .ok (.iadd, 1) := by decide +kernel
theorem dX0_addPay_72 : decode cX0_addPay 72 = .ok (.iload_n 3, 1) := by decide +kernel
theorem dX0_addPay_73 : decode cX0_addPay 73 = .ok (.iastore, 1) := by decide +kernel
theorem dX0_addPay_74 : decode cX0_addPay 74 = .ok (.aload_n 0, 1) := by decide +kernel
theorem dX0_addPay_75 : decode cX0_addPay 75 = .ok (.getfield 21, 3) := by decide +kernel
theorem dX0_addPay_78 : decode cX0_addPay 78 = .ok (.aload_n 0, 1) := by decide +kernel
theorem dX0_addPay_79 : decode cX0_addPay 79 = .ok (.getfield 27, 3) := by decide +kernel
theorem dX0_addPay_82 : decode cX0_addPay 82 = .ok (.dup2, 1) := by decide +kernel
theorem dX0_addPay_83 : decode cX0_addPay 83 = .ok (.iaload, 1) := by decide +kernel
theorem dX0_addPay_84 : decode cX0_addPay 84 = .ok (.iconst 1, 1) := by decide +kernel
theorem dX0_addPay_85 : decode cX0_addPay 85 = .ok (.iadd, 1) := by decide +kernel
theorem dX0_addPay_86 : decode cX0_addPay 86 = .ok (.iastore, 1) := by decide +kernel
theorem dX0_addPay_87 : decode cX0_addPay 87 = .ok (.return_, 1) := by decide +kernel
theorem q_774 : Cond.methodLink RX0 37 yX0_takesPay ∈ zTB := zmem 774 (by decide +kernel) rfl
theorem q_728 : Cond.instanceMethod yX0_takesPay ∈ zTB := zmem 728 (by decide +kernel) rfl
theorem q_729 : Cond.selects RX0 yX0_takesPay yX0_takesPay ∈ zTB := zmem 729 (by decide +kernel) rfl
theorem q_132 : Cond.initialized RX0 ∈ zTB := zmem 132 (by decide +kernel) rfl
theorem q_730 : Cond.code yX0_takesPay cX0_takesPay 1 (some .boolean) ∈ zTB := zmem 730 (by decide +kernel) rfl
theorem k_RX0_37 : zLv RX0 37 RX0 yX0_takesPay cX0_takesPay 1 (some .boolean) 0 := ⟨⟨q_774, q_728, q_729, q_132, q_730⟩, rfl, ⟨by decide, by decide⟩, by decide +kernel⟩
def F_X0_addPay (i : Nat) (X Y : Nat → Int → Int) (R : Nat → Int → Option Nat) (a : Int) (b : Int) (g : Int) : Prop := (∀ i j, rI (X i j)) → (∀ i j, rL (Y i j)) → (0 ≤ X i 0) ∧ ((((decide (0 < X i 0 ∧ X i 0 < 15 ∧ X (i + 4) (X i 0) < 3)) = true) → ((0 ≤ (X (i) 0) ∧ (X (i) 0) < 15) ∧ ((rI ((((X (i) 0) * 3) + (X (i + 4) (X (i) 0))) * 3)) ∧ (((((((X (i) 0) * 3) + (X (i + 4) (X (i) 0))) * 3) < 0) → ((X) = cPy X i (a) (b) (g))) ∧ ((¬ (((((X (i) 0) * 3) + (X (i + 4) (X (i) 0))) * 3) < 0)) → ((rI (((((X (i) 0) * 3) + (X (i + 4) (X (i) 0))) * 3) + 2)) ∧ ((((((((X (i) 0) * 3) + (X (i + 4) (X (i) 0))) * 3) + 2) < ((135 : Nat) : Int)) → ((0 ≤ ((((X (i) 0) * 3) + (X (i + 4) (X (i) 0))) * 3) ∧ ((((X (i) 0) * 3) + (X (i + 4) (X (i) 0))) * 3) < 135) ∧ (∀ X9 : Nat → Int → Int, X9 = zU X (i + 5) ((((X (i) 0) * 3) + (X (i + 4) (X (i) 0))) * 3) (a) → (∀ i j, rI (X9 i j)) → ((0 ≤ (((((X (i) 0) * 3) + (X (i + 4) (X (i) 0))) * 3) + 1) ∧ (((((X (i) 0) * 3) + (X (i + 4) (X (i) 0))) * 3) + 1) < 135) ∧ (∀ X11 : Nat → Int → Int, X11 = zU X9 (i + 5) (((((X (i) 0) * 3) + (X (i + 4) (X (i) 0))) * 3) + 1) (b) → (∀ i j, rI (X11 i j)) → ((0 ≤ (((((X (i) 0) * 3) + (X (i + 4) (X (i) 0))) * 3) + 2) ∧ (((((X (i) 0) * 3) + (X (i + 4) (X (i) 0))) * 3) + 2) < 135) ∧ (∀ X13 : Nat → Int → Int, X13 = zU X11 (i + 5) (((((X (i) 0) * 3) + (X (i + 4) (X (i) 0))) * 3) + 2) (g) → (∀ i j, rI (X13 i j)) → ((0 ≤ (X13 (i) 0) ∧ (X13 (i) 0) < 15) ∧ ((0 ≤ (X13 (i) 0) ∧ (X13 (i) 0) < 15) ∧ ((rI ((X13 (i + 4) (X13 (i) 0)) + 1)) ∧ (∀ X17 : Nat → Int → Int, X17 = zU X13 (i + 4) (X13 (i) 0) ((X13 (i + 4) (X13 (i) 0)) + 1) → (∀ i j, rI (X17 i j)) → ((X17) = cPy X i (a) (b) (g))))))))))))) ∧ ((¬ ((((((X (i) 0) * 3) + (X (i + 4) (X (i) 0))) * 3) + 2) < ((135 : Nat) : Int))) → ((X) = cPy X i (a) (b) (g)))))))))) ∧ (((decide (0 < X i 0 ∧ X i 0 < 15 ∧ X (i + 4) (X i 0) < 3)) = false) → ((X) = cPy X i (a) (b) (g))))
set_option maxHeartbeats 4000000 in
set_option maxRecDepth 100000 in
theorem w_X0_addPay {l : Launch} {D : va_G} {cy : Nat → ClassId} {bs N : Nat} {sa : Nat → Nat} {kd len : Nat → Nat} {X Y : Nat → Int → Int} {R : Nat → Int → Option Nat} {i : Nat} (hC : zBlocks N kd len R i) (a : Int) (ha : rI a) (b : Int) (hb : rI b) (g : Int) (hg : rI g) (hF : F_X0_addPay i X Y R a b g) : Met l yX0_addPay (.code yX0_addPay cX0_addPay 5 none :: zTB) (zRm 1 20) (zPc D cy bs sa N kd len X Y R [.ref (bs + (i)), .int (zI (a)), .int (zI (b)), .int (zI (g))]) (zQv D cy bs N kd len (fun st => st.2.1 = Y ∧ st.2.2 = R ∧ ((st.1) = cPy X i (a) (b) (g)))) 0 0 (zA bs) := by
  refine zstart (by decide) (Nat.le_of_ble_eq_true rfl) ?_
  intro p e s m args below meth c ls C hE hH hr hlk hnm hl hargs
  have hF := hF hH.2.2.1 hH.2.2.2
  have hS : va_S (zA bs) s.heap s.heap [] := va_S.rf
  have hl : lv_has ls 5 [(0, .ref (bs + (i))), (1, .int (zI (a))), (2, .int (zI (b))), (3, .int (zI (g)))] := hl
  refine lv_aload_n C.1 C.2.1 dX0_addPay_0 rfl (lv_at hl 0 rfl) ?_
  obtain ⟨o1, hF⟩ := hF
  refine zgoi (zrunV (As := []) (rest := []) C hE hH hS hl.1 (c_X0_takesPay (l := l) hC  o1) k_RX0_37 ⟨Nat.le_of_ble_eq_true rfl, Nat.le_of_ble_eq_true rfl⟩ (zBlocks_n0 hC) (zBlocks_k0 hC) rfl rfl rfl (Nat.le_of_ble_eq_true rfl) dX0_addPay_1 ⟨Nat.zero_le _, Nat.zero_le _⟩) hS (fun rq Xq Yq Rq H locs hrq hq hH hS => ?_)
  obtain ⟨h91, h92⟩ := hq
  have h93 : Xq = X := congrArg (fun z => z.1) h92
  have h94 : Yq = Y := congrArg (fun z => z.2.1) h92
  have h95 : Rq = R := congrArg (fun z => z.2.2) h92
  rw [h93, h94, h95] at hH
  subst h91
  refine zd_ifB_ne C 8 dX0_addPay_4 (by decide) (fun c2 => ?_) (fun c2 => ?_)
  · have hF := hF.1 c2
    refine lv_aload_n C.1 C.2.1 dX0_addPay_8 rfl (lv_at hl 0 rfl) ?_
    refine zg0_0 C hH (zBlocks_n0 hC) (zBlocks_k0 hC) q_224 dX0_addPay_9 ?_
    refine zd_iconst C dX0_addPay_12 ?_
    refine zd_imul C dX0_addPay_13 ?_
    refine lv_aload_n C.1 C.2.1 dX0_addPay_14 rfl (lv_at hl 0 rfl) ?_
    refine zg0_4 C hH (zBlocks_n0 hC) (zBlocks_k0 hC) q_237 (zBlocks_r4 hC) dX0_addPay_15 ?_
    refine lv_aload_n C.1 C.2.1 dX0_addPay_18 rfl (lv_at hl 0 rfl) ?_
    refine zg0_0 C hH (zBlocks_n0 hC) (zBlocks_k0 hC) q_224 dX0_addPay_19 ?_
    obtain ⟨o3, hF⟩ := hF
    refine zd_iald C hH (zBlocks_n4 hC) (zBlocks_k4 hC) o3.1 (by rw [zBlocks_l4 hC]; exact o3.2) (by rw [zBlocks_l4 hC]; decide) dX0_addPay_22 ?_
    refine zd_iadd C dX0_addPay_23 ?_
    refine zd_iconst C dX0_addPay_24 ?_
    refine zd_imul C dX0_addPay_25 ?_
    refine lv_istore (lv' := [(4, .int (zI ((((X (i) 0) * 3) + (X (i + 4) (X (i) 0))) * 3))), (0, .ref (bs + (i))), (1, .int (zI (a))), (2, .int (zI (b))), (3, .int (zI (g)))]) C.1 C.2.1 dX0_addPay_26 hl (by decide) rfl (fun ls hl => ?_)
    refine lv_iload C.1 C.2.1 dX0_addPay_28 (lv_at hl 0 rfl) ?_
    obtain ⟨o5, hF⟩ := hF
    refine zd_if_lt C o5 45 dX0_addPay_30 (by decide) (fun c4 => ?_) (fun c4 => ?_)
    · have hF := hF.1 c4
      exact zd_vret C hr hlk hH hS (⟨rfl, rfl, hF⟩) dX0_addPay_45
    · have hF := hF.2 c4
      refine lv_iload C.1 C.2.1 dX0_addPay_33 (lv_at hl 0 rfl) ?_
      refine zd_iconst C dX0_addPay_35 ?_
      refine zd_iadd C dX0_addPay_36 ?_
      refine lv_aload_n C.1 C.2.1 dX0_addPay_37 rfl (lv_at hl 1 rfl) ?_
      refine zg0_5 C hH (zBlocks_n0 hC) (zBlocks_k0 hC) q_240 (zBlocks_r5 hC) dX0_addPay_38 ?_
      refine zd_alen C hH (zBlocks_n5 hC) (t0 := 1) (by rw [(zBlocks_k5 hC)]; rfl) rfl rfl dX0_addPay_41 ?_
      rw [zBlocks_l5 hC]
      obtain ⟨o7, hF⟩ := hF
      refine zd_icmp_lt C o7 (by decide) 46 dX0_addPay_42 (by decide) (fun c6 => ?_) (fun c6 => ?_)
      · have hF := hF.1 c6
        refine lv_aload_n C.1 C.2.1 dX0_addPay_46 rfl (lv_at hl 1 rfl) ?_
        refine zg0_5 C hH (zBlocks_n0 hC) (zBlocks_k0 hC) q_240 (zBlocks_r5 hC) dX0_addPay_47 ?_
        refine lv_iload C.1 C.2.1 dX0_addPay_50 (lv_at hl 0 rfl) ?_
        refine lv_iload_n C.1 C.2.1 dX0_addPay_52 rfl (lv_at hl 2 rfl) ?_
        obtain ⟨o8, hF⟩ := hF
        refine zd_iast C hH hS (zBlocks_n5 hC) (zBlocks_k5 hC) o8.1 (by rw [zBlocks_l5 hC]; exact o8.2) (by rw [zBlocks_l5 hC]; decide) ha dX0_addPay_53 (fun H locs hH hS => ?_)
        obtain ⟨X9, eX9⟩ : ∃ z, z = zU X (i + 5) ((((X (i) 0) * 3) + (X (i + 4) (X (i) 0))) * 3) (a) := ⟨_, rfl⟩
        rw [← eX9] at hH
        have hF := hF X9 eX9 hH.2.2.1
        refine lv_aload_n C.1 C.2.1 dX0_addPay_54 rfl (lv_at hl 1 rfl) ?_
        refine zg0_5 C hH (zBlocks_n0 hC) (zBlocks_k0 hC) q_240 (zBlocks_r5 hC) dX0_addPay_55 ?_
        refine lv_iload C.1 C.2.1 dX0_addPay_58 (lv_at hl 0 rfl) ?_
        refine zd_iconst C dX0_addPay_60 ?_
        refine zd_iadd C dX0_addPay_61 ?_
        refine lv_iload_n C.1 C.2.1 dX0_addPay_62 rfl (lv_at hl 3 rfl) ?_
        obtain ⟨o10, hF⟩ := hF
        refine zd_iast C hH hS (zBlocks_n5 hC) (zBlocks_k5 hC) o10.1 (by rw [zBlocks_l5 hC]; exact o10.2) (by rw [zBlocks_l5 hC]; decide) hb dX0_addPay_63 (fun H locs hH hS => ?_)
        obtain ⟨X11, eX11⟩ : ∃ z, z = zU X9 (i + 5) (((((X (i) 0) * 3) + (X (i + 4) (X (i) 0))) * 3) + 1) (b) := ⟨_, rfl⟩
        rw [← eX11] at hH
        have hF := hF X11 eX11 hH.2.2.1
        refine lv_aload_n C.1 C.2.1 dX0_addPay_64 rfl (lv_at hl 1 rfl) ?_
        refine zg0_5 C hH (zBlocks_n0 hC) (zBlocks_k0 hC) q_240 (zBlocks_r5 hC) dX0_addPay_65 ?_
        refine lv_iload C.1 C.2.1 dX0_addPay_68 (lv_at hl 0 rfl) ?_
        refine zd_iconst C dX0_addPay_70 ?_
        refine zd_iadd C dX0_addPay_71 ?_
        refine lv_iload_n C.1 C.2.1 dX0_addPay_72 rfl (lv_at hl 4 rfl) ?_
        obtain ⟨o12, hF⟩ := hF
        refine zd_iast C hH hS (zBlocks_n5 hC) (zBlocks_k5 hC) o12.1 (by rw [zBlocks_l5 hC]; exact o12.2) (by rw [zBlocks_l5 hC]; decide) hg dX0_addPay_73 (fun H locs hH hS => ?_)
        obtain ⟨X13, eX13⟩ : ∃ z, z = zU X11 (i + 5) (((((X (i) 0) * 3) + (X (i + 4) (X (i) 0))) * 3) + 2) (g) := ⟨_, rfl⟩
        rw [← eX13] at hH
        have hF := hF X13 eX13 hH.2.2.1
        refine lv_aload_n C.1 C.2.1 dX0_addPay_74 rfl (lv_at hl 1 rfl) ?_
        refine zg0_4 C hH (zBlocks_n0 hC) (zBlocks_k0 hC) q_237 (zBlocks_r4 hC) dX0_addPay_75 ?_
        refine lv_aload_n C.1 C.2.1 dX0_addPay_78 rfl (lv_at hl 1 rfl) ?_
        refine zg0_0 C hH (zBlocks_n0 hC) (zBlocks_k0 hC) q_224 dX0_addPay_79 ?_
        refine lv_dup2_11 C.1 C.2.1 dX0_addPay_82 rfl rfl ?_
        obtain ⟨o14, hF⟩ := hF
        refine zd_iald C hH (zBlocks_n4 hC) (zBlocks_k4 hC) o14.1 (by rw [zBlocks_l4 hC]; exact o14.2) (by rw [zBlocks_l4 hC]; decide) dX0_addPay_83 ?_
        refine zd_iconst C dX0_addPay_84 ?_
        refine zd_iadd C dX0_addPay_85 ?_
        obtain ⟨o15, hF⟩ := hF
        obtain ⟨o16, hF⟩ := hF
        refine zd_iast C hH hS (zBlocks_n4 hC) (zBlocks_k4 hC) o15.1 (by rw [zBlocks_l4 hC]; exact o15.2) (by rw [zBlocks_l4 hC]; decide) o16 dX0_addPay_86 (fun H locs hH hS => ?_)
        obtain ⟨X17, eX17⟩ : ∃ z, z = zU X13 (i + 4) (X13 (i) 0) ((X13 (i + 4) (X13 (i) 0)) + 1) := ⟨_, rfl⟩
        rw [← eX17] at hH
        have hF := hF X17 eX17 hH.2.2.1
        exact zd_vret C hr hlk hH hS (⟨rfl, rfl, hF⟩) dX0_addPay_87
      · have hF := hF.2 c6
        exact zd_vret C hr hlk hH hS (⟨rfl, rfl, hF⟩) dX0_addPay_45
  · have hF := hF.2 c2
    exact zd_vret C hr hlk hH hS (⟨rfl, rfl, hF⟩) dX0_addPay_7
theorem v_X0_addPay {X Y : Nat → Int → Int} {R : Nat → Int → Option Nat} {i : Nat} (a : Int) (ha : rI a) (b : Int) (hb : rI b) (g : Int) (hg : rI g) (hp : (0 ≤ X i 0 ∧ X i 0 < 15) ∧ 0 ≤ X (i + 4) (X i 0)) : F_X0_addPay i X Y R a b g := by
  unfold F_X0_addPay
  intro hX hY
  obtain ⟨⟨p0, p1⟩, p2⟩ := hp
  unfold cPy
  refine ⟨?_, ?_⟩
  · first | omega | exact ⟨by omega, by omega⟩ | decide | assumption | exact ⟨by omega, by omega, by omega⟩ | exact ⟨by decide, by decide⟩
  refine ⟨?_, ?_⟩
  · intro c1
    have c1 := of_decide_eq_true c1
    refine ⟨?_, ?_⟩
    · first | omega | exact ⟨by omega, by omega⟩ | decide | assumption | exact ⟨by omega, by omega, by omega⟩ | exact ⟨by decide, by decide⟩
    refine ⟨?_, ?_⟩
    · first | omega | exact ⟨by omega, by omega⟩ | decide | assumption | exact ⟨by omega, by omega, by omega⟩ | exact ⟨by decide, by decide⟩
    refine ⟨?_, ?_⟩
    · intro c2
      exfalso
      omega
    intro c3
    refine ⟨?_, ?_⟩
    · first | omega | exact ⟨by omega, by omega⟩ | decide | assumption | exact ⟨by omega, by omega, by omega⟩ | exact ⟨by decide, by decide⟩
    refine ⟨?_, ?_⟩
    · intro c4
      refine ⟨?_, ?_⟩
      · first | omega | exact ⟨by omega, by omega⟩ | decide | assumption | exact ⟨by omega, by omega, by omega⟩ | exact ⟨by decide, by decide⟩
      intro X9
      intro eX9
      intro rX9
      refine ⟨?_, ?_⟩
      · first | omega | exact ⟨by omega, by omega⟩ | decide | assumption | exact ⟨by omega, by omega, by omega⟩ | exact ⟨by decide, by decide⟩
      intro X11
      intro eX11
      intro rX11
      refine ⟨?_, ?_⟩
      · first | omega | exact ⟨by omega, by omega⟩ | decide | assumption | exact ⟨by omega, by omega, by omega⟩ | exact ⟨by decide, by decide⟩
      intro X13
      intro eX13
      have e13 : X13 i 0 = X i 0 := by rw [eX13, zU_o (by omega), eX11, zU_o (by omega), eX9, zU_o (by omega)]
      have m13 : X13 (i + 4) = X (i + 4) := by rw [eX13, zU_o (by omega), eX11, zU_o (by omega), eX9, zU_o (by omega)]
      intro rX13
      refine ⟨?_, ?_⟩
      · first | omega | exact ⟨by omega, by omega⟩ | decide | assumption | exact ⟨by omega, by omega, by omega⟩ | exact ⟨by decide, by decide⟩
      refine ⟨?_, ?_⟩
      · first | omega | exact ⟨by omega, by omega⟩ | decide | assumption | exact ⟨by omega, by omega, by omega⟩ | exact ⟨by decide, by decide⟩
      refine ⟨?_, ?_⟩
      · rw [e13, m13]
        exact ⟨by omega, by omega⟩
      intro X17
      intro eX17
      intro rX17
      rw [if_pos c1, eX17, e13, m13, eX13, eX11, eX9]
    intro c5
    exfalso
    omega
  intro c6
  rw [if_neg (of_decide_eq_false c6)]
theorem c_X0_addPay {l : Launch} {D : va_G} {cy : Nat → ClassId} {bs N : Nat} {sa : Nat → Nat} {kd len : Nat → Nat} {X Y : Nat → Int → Int} {R : Nat → Int → Option Nat} {i : Nat} (hC : zBlocks N kd len R i) (a : Int) (ha : rI a) (b : Int) (hb : rI b) (g : Int) (hg : rI g) (hp : (0 ≤ X i 0 ∧ X i 0 < 15) ∧ 0 ≤ X (i + 4) (X i 0)) : Met l yX0_addPay (.code yX0_addPay cX0_addPay 5 none :: zTB) (zRm 1 20) (zPc D cy bs sa N kd len X Y R [.ref (bs + (i)), .int (zI (a)), .int (zI (b)), .int (zI (g))]) (zQv D cy bs N kd len (fun st => st.2.1 = Y ∧ st.2.2 = R ∧ ((st.1) = cPy X i (a) (b) (g)))) 0 0 (zA bs) := w_X0_addPay hC a ha b hb g hg (v_X0_addPay a ha b hb g hg hp)
abbrev cX5_has : ByteArray := prog_7_method_4_code
def yX5_has : MethodName := ⟨RX5, "has", "(I)Z"⟩
theorem dX5_has_0 : decode cX5_has 0 = .ok (.iload_n 1, 1) := by decide +kernel
theorem dX5_has_1 : decode cX5_has 1 = .ok (.ifCond .lt 21, 3) := by decide +kernel
theorem dX5_has_4 : decode cX5_has 4 = .ok (.iload_n 1, 1) := by decide +kernel
theorem dX5_has_5 : decode cX5_has 5 = .ok (.aload_n 0, 1) := by decide +kernel
theorem dX5_has_6 : decode cX5_has 6 = .ok (.getfield 21, 3) := by decide +kernel
theorem dX5_has_9 : decode cX5_has 9 = .ok (.if_icmp .ge 13, 3) := by decide +kernel
theorem dX5_has_12 : decode cX5_has 12 = .ok (.iload_n 1, 1) := by decide +kernel
theorem dX5_has_13 : decode cX5_has 13 = .ok (.bipush 6, 2) := by decide +kernel
theorem dX5_has_15 : decode cX5_has 15 = .ok (.if_icmp .ge 7, 3) := by decide +kernel
theorem dX5_has_18 : decode cX5_has 18 = .ok (.iconst 1, 1) := by decide +kernel
theorem dX5_has_19 : decode cX5_has 19 = .ok (.goto 4, 3) := by decide +kernel
theorem dX5_has_22 : decode cX5_has 22 = .ok (.iconst 0, 1) := by decide +kernel
theorem dX5_has_23 : decode cX5_has 23 = .ok (.ireturn, 1) := by decide +kernel
theorem q_382 : Cond.fieldLink RX5 21 RX5 "accounts" "I" ∈ zTB := zmem 382 (by decide +kernel) rfl
def F_X5_has (i : Nat) (X Y : Nat → Int → Int) (R : Nat → Int → Option Nat) (a : Int) : Prop := (∀ i j, rI (X i j)) → (∀ i j, rL (Y i j)) → ((a < 0) → (0 = bz (decide (0 ≤ a ∧ a < X i 0 ∧ a < 6)))) ∧ ((¬ (a < 0)) → ((((X (i) 0) ≤ a) → (0 = bz (decide (0 ≤ a ∧ a < X i 0 ∧ a < 6)))) ∧ ((¬ ((X (i) 0) ≤ a)) → (((6 ≤ a) → (0 = bz (decide (0 ≤ a ∧ a < X i 0 ∧ a < 6)))) ∧ ((¬ (6 ≤ a)) → (1 = bz (decide (0 ≤ a ∧ a < X i 0 ∧ a < 6))))))))
set_option maxHeartbeats 4000000 in
set_option maxRecDepth 100000 in
theorem w_X5_has {l : Launch} {D : va_G} {cy : Nat → ClassId} {bs N : Nat} {sa : Nat → Nat} {kd len : Nat → Nat} {X Y : Nat → Int → Int} {R : Nat → Int → Option Nat} {i : Nat} (hC : zLedger N kd len R i) (a : Int) (ha : rI a) (hF : F_X5_has i X Y R a) : Met l yX5_has (.code yX5_has cX5_has 2 (some .boolean) :: zTB) (zRm 0 0) (zPc D cy bs sa N kd len X Y R [.ref (bs + (i)), .int (zI (a))]) (zQi D cy bs N kd len (fun r st => r = bz (decide (0 ≤ a ∧ a < X i 0 ∧ a < 6)) ∧ st = (X, Y, R))) 0 0 (zA bs) := by
  refine zstart (by decide) (Nat.le_of_ble_eq_true rfl) ?_
  intro p e s m args below meth c ls C hE hH hr hlk hnm hl hargs
  have hF := hF hH.2.2.1 hH.2.2.2
  have hS : va_S (zA bs) s.heap s.heap [] := va_S.rf
  have hl : lv_has ls 2 [(0, .ref (bs + (i))), (1, .int (zI (a)))] := hl
  refine lv_iload_n C.1 C.2.1 dX5_has_0 rfl (lv_at hl 1 rfl) ?_
  refine zd_if_lt C ha 22 dX5_has_1 (by decide) (fun c1 => ?_) (fun c1 => ?_)
  · have hF := hF.1 c1
    refine zd_iconst C dX5_has_22 ?_
    exact zd_zret C hr hlk hH hS (by decide) (⟨hF, rfl⟩) dX5_has_23
  · have hF := hF.2 c1
    refine lv_iload_n C.1 C.2.1 dX5_has_4 rfl (lv_at hl 1 rfl) ?_
    refine lv_aload_n C.1 C.2.1 dX5_has_5 rfl (lv_at hl 0 rfl) ?_
    refine zg5_0 C hH (zLedger_n0 hC) (zLedger_k0 hC) q_382 dX5_has_6 ?_
    refine zd_icmp_ge C ha (hH.2.2.1 _ _) 22 dX5_has_9 (by decide) (fun c2 => ?_) (fun c2 => ?_)
    · have hF := hF.1 c2
      refine zd_iconst C dX5_has_22 ?_
      exact zd_zret C hr hlk hH hS (by decide) (⟨hF, rfl⟩) dX5_has_23
    · have hF := hF.2 c2
      refine lv_iload_n C.1 C.2.1 dX5_has_12 rfl (lv_at hl 1 rfl) ?_
      refine zd_bipush C (by decide) dX5_has_13 ?_
      refine zd_icmp_ge C ha (by decide) 22 dX5_has_15 (by decide) (fun c3 => ?_) (fun c3 => ?_)
      · have hF := hF.1 c3
        refine zd_iconst C dX5_has_22 ?_
        exact zd_zret C hr hlk hH hS (by decide) (⟨hF, rfl⟩) dX5_has_23
      · have hF := hF.2 c3
        refine zd_iconst C dX5_has_18 ?_
        refine lv_goto (tgt := 23) C.1 C.2.1 dX5_has_19 (by decide) ?_
        exact zd_zret C hr hlk hH hS (by decide) (⟨hF, rfl⟩) dX5_has_23
theorem v_X5_has {X Y : Nat → Int → Int} {R : Nat → Int → Option Nat} {i : Nat} (a : Int) (ha : rI a) : F_X5_has i X Y R a := by
  unfold F_X5_has
  intro hX hY
  refine ⟨?_, ?_⟩
  · intro c1
    rw [decide_eq_false (by omega)]
    rfl
  intro c2
  refine ⟨?_, ?_⟩
  · intro c3
    rw [decide_eq_false (by omega)]
    rfl
  intro c4
  refine ⟨?_, ?_⟩
  · intro c5
    rw [decide_eq_false (by omega)]
    rfl
  intro c6
  rw [decide_eq_true (by omega)]
  rfl
theorem c_X5_has {l : Launch} {D : va_G} {cy : Nat → ClassId} {bs N : Nat} {sa : Nat → Nat} {kd len : Nat → Nat} {X Y : Nat → Int → Int} {R : Nat → Int → Option Nat} {i : Nat} (hC : zLedger N kd len R i) (a : Int) (ha : rI a) : Met l yX5_has (.code yX5_has cX5_has 2 (some .boolean) :: zTB) (zRm 0 0) (zPc D cy bs sa N kd len X Y R [.ref (bs + (i)), .int (zI (a))]) (zQi D cy bs N kd len (fun r st => r = bz (decide (0 ≤ a ∧ a < X i 0 ∧ a < 6)) ∧ st = (X, Y, R))) 0 0 (zA bs) := w_X5_has hC a ha (v_X5_has a ha)
