/-! WHAT IS TOLD; BITS -/
/-- a Told at i, its rows behind it -/
def zTold (N : Nat) (kd len : Nat → Nat) (R : Nat → Int → Option Nat) (i : Nat) : Prop := i + 2 < N ∧ kd i = 9 ∧ kd (i + 1) = 12 ∧ len (i + 1) = 600 ∧ R i 0 = some (i + 1) ∧ kd (i + 2) = 13 ∧ len (i + 2) = 5 ∧ R i 4 = some (i + 2)
theorem zTold_n0 {N : Nat} {kd len : Nat → Nat} {R : Nat → Int → Option Nat} {i : Nat} (h : zTold N kd len R i) : i < N := by have := h.1; omega
theorem zTold_k0 {N : Nat} {kd len : Nat → Nat} {R : Nat → Int → Option Nat} {i : Nat} (h : zTold N kd len R i) : kd i = 9 := h.2.1
theorem zTold_n1 {N : Nat} {kd len : Nat → Nat} {R : Nat → Int → Option Nat} {i : Nat} (h : zTold N kd len R i) : i + 1 < N := by have := h.1; omega
theorem zTold_k1 {N : Nat} {kd len : Nat → Nat} {R : Nat → Int → Option Nat} {i : Nat} (h : zTold N kd len R i) : kd (i + 1) = 12 := h.2.2.1
theorem zTold_l1 {N : Nat} {kd len : Nat → Nat} {R : Nat → Int → Option Nat} {i : Nat} (h : zTold N kd len R i) : len (i + 1) = 600 := h.2.2.2.1
theorem zTold_r1 {N : Nat} {kd len : Nat → Nat} {R : Nat → Int → Option Nat} {i : Nat} (h : zTold N kd len R i) : R i 0 = some (i + 1) := h.2.2.2.2.1
theorem zTold_n2 {N : Nat} {kd len : Nat → Nat} {R : Nat → Int → Option Nat} {i : Nat} (h : zTold N kd len R i) : i + 2 < N := by have := h.1; omega
theorem zTold_k2 {N : Nat} {kd len : Nat → Nat} {R : Nat → Int → Option Nat} {i : Nat} (h : zTold N kd len R i) : kd (i + 2) = 13 := h.2.2.2.2.2.1
theorem zTold_l2 {N : Nat} {kd len : Nat → Nat} {R : Nat → Int → Option Nat} {i : Nat} (h : zTold N kd len R i) : len (i + 2) = 5 := h.2.2.2.2.2.2.1
theorem zTold_r2 {N : Nat} {kd len : Nat → Nat} {R : Nat → Int → Option Nat} {i : Nat} (h : zTold N kd len R i) : R i 4 = some (i + 2) := h.2.2.2.2.2.2.2
abbrev cX9_has : ByteArray := prog_11_method_4_code
def yX9_has : MethodName := ⟨RX9, "has", "(II)Z"⟩
theorem dX9_has_0 : decode cX9_has 0 = .ok (.iload_n 1, 1) := by decide +kernel
theorem dX9_has_1 : decode cX9_has 1 = .ok (.ifCond .lt 31, 3) := by decide +kernel
theorem dX9_has_4 : decode cX9_has 4 = .ok (.iload_n 1, 1) := by decide +kernel
theorem dX9_has_5 : decode cX9_has 5 = .ok (.iconst 5, 1) := by decide +kernel
theorem dX9_has_6 : decode cX9_has 6 = .ok (.if_icmp .ge 26, 3) := by decide +kernel
theorem dX9_has_9 : decode cX9_has 9 = .ok (.iload_n 2, 1) := by decide +kernel
theorem dX9_has_10 : decode cX9_has 10 = .ok (.ifCond .lt 22, 3) := by decide +kernel
theorem dX9_has_13 : decode cX9_has 13 = .ok (.iload_n 2, 1) := by decide +kernel
theorem dX9_has_14 : decode cX9_has 14 = .ok (.iconst 2, 1) := by decide +kernel
theorem dX9_has_15 : decode cX9_has 15 = .ok (.if_icmp .ge 17, 3) := by decide +kernel
theorem dX9_has_18 : decode cX9_has 18 = .ok (.iload_n 2, 1) := by decide +kernel
theorem dX9_has_19 : decode cX9_has 19 = .ok (.aload_n 0, 1) := by decide +kernel
theorem dX9_has_20 : decode cX9_has 20 = .ok (.getfield 19, 3) := by decide +kernel
theorem dX9_has_23 : decode cX9_has 23 = .ok (.iload_n 1, 1) := by decide +kernel
theorem dX9_has_24 : decode cX9_has 24 = .ok (.iaload, 1) := by decide +kernel
theorem dX9_has_25 : decode cX9_has 25 = .ok (.if_icmp .ge 7, 3) := by decide +kernel
theorem dX9_has_28 : decode cX9_has 28 = .ok (.iconst 1, 1) := by decide +kernel
theorem dX9_has_29 : decode cX9_has 29 = .ok (.goto 4, 3) := by decide +kernel
theorem dX9_has_32 : decode cX9_has 32 = .ok (.iconst 0, 1) := by decide +kernel
theorem dX9_has_33 : decode cX9_has 33 = .ok (.ireturn, 1) := by decide +kernel
theorem q_287 : Cond.fieldLink RX9 19 RX9 "counts" "[I" ∈ zTB := zmem 287 (by decide +kernel) rfl
def F_X9_has (i : Nat) (X Y : Nat → Int → Int) (R : Nat → Int → Option Nat) (a : Int) (b : Int) : Prop := (∀ i j, rI (X i j)) → (∀ i j, rL (Y i j)) → ((a < 0) → (0 = bz (decide ((0 ≤ a ∧ a < 5) ∧ (0 ≤ b ∧ b < 2) ∧ b < X (i + 2) a)))) ∧ ((¬ (a < 0)) → (((5 ≤ a) → (0 = bz (decide ((0 ≤ a ∧ a < 5) ∧ (0 ≤ b ∧ b < 2) ∧ b < X (i + 2) a)))) ∧ ((¬ (5 ≤ a)) → (((b < 0) → (0 = bz (decide ((0 ≤ a ∧ a < 5) ∧ (0 ≤ b ∧ b < 2) ∧ b < X (i + 2) a)))) ∧ ((¬ (b < 0)) → (((2 ≤ b) → (0 = bz (decide ((0 ≤ a ∧ a < 5) ∧ (0 ≤ b ∧ b < 2) ∧ b < X (i + 2) a)))) ∧ ((¬ (2 ≤ b)) → ((0 ≤ a ∧ a < 5) ∧ ((((X (i + 2) (a)) ≤ b) → (0 = bz (decide ((0 ≤ a ∧ a < 5) ∧ (0 ≤ b ∧ b < 2) ∧ b < X (i + 2) a)))) ∧ ((¬ ((X (i + 2) (a)) ≤ b)) → (1 = bz (decide ((0 ≤ a ∧ a < 5) ∧ (0 ≤ b ∧ b < 2) ∧ b < X (i + 2) a)))))))))))))
set_option maxHeartbeats 4000000 in
set_option maxRecDepth 100000 in
theorem w_X9_has {l : Launch} {D : va_G} {cy : Nat → ClassId} {bs N : Nat} {sa : Nat → Nat} {kd len : Nat → Nat} {X Y : Nat → Int → Int} {R : Nat → Int → Option Nat} {i : Nat} (hC : zTold N kd len R i) (a : Int) (ha : rI a) (b : Int) (hb : rI b) (hF : F_X9_has i X Y R a b) : Met l yX9_has (.code yX9_has cX9_has 3 (some .boolean) :: zTB) (zRm 0 0) (zPc D cy bs sa N kd len X Y R [.ref (bs + (i)), .int (zI (a)), .int (zI (b))]) (zQi D cy bs N kd len (fun r st => r = bz (decide ((0 ≤ a ∧ a < 5) ∧ (0 ≤ b ∧ b < 2) ∧ b < X (i + 2) a)) ∧ st = (X, Y, R))) 0 0 (zA bs) := by
  refine zstart (by decide) (Nat.le_of_ble_eq_true rfl) ?_
  intro p e s m args below meth c ls C hE hH hr hlk hnm hl hargs
  have hF := hF hH.2.2.1 hH.2.2.2
  have hS : va_S (zA bs) s.heap s.heap [] := va_S.rf
  have hl : lv_has ls 3 [(0, .ref (bs + (i))), (1, .int (zI (a))), (2, .int (zI (b)))] := hl
  refine lv_iload_n C.1 C.2.1 dX9_has_0 rfl (lv_at hl 1 rfl) ?_
  refine zd_if_lt C ha 32 dX9_has_1 (by decide) (fun c1 => ?_) (fun c1 => ?_)
  · have hF := hF.1 c1
    refine zd_iconst C dX9_has_32 ?_
    exact zd_zret C hr hlk hH hS (by decide) (⟨hF, rfl⟩) dX9_has_33
  · have hF := hF.2 c1
    refine lv_iload_n C.1 C.2.1 dX9_has_4 rfl (lv_at hl 1 rfl) ?_
    refine zd_iconst C dX9_has_5 ?_
    refine zd_icmp_ge C ha (by decide) 32 dX9_has_6 (by decide) (fun c2 => ?_) (fun c2 => ?_)
    · have hF := hF.1 c2
      refine zd_iconst C dX9_has_32 ?_
      exact zd_zret C hr hlk hH hS (by decide) (⟨hF, rfl⟩) dX9_has_33
    · have hF := hF.2 c2
      refine lv_iload_n C.1 C.2.1 dX9_has_9 rfl (lv_at hl 2 rfl) ?_
      refine zd_if_lt C hb 32 dX9_has_10 (by decide) (fun c3 => ?_) (fun c3 => ?_)
      · have hF := hF.1 c3
        refine zd_iconst C dX9_has_32 ?_
        exact zd_zret C hr hlk hH hS (by decide) (⟨hF, rfl⟩) dX9_has_33
      · have hF := hF.2 c3
        refine lv_iload_n C.1 C.2.1 dX9_has_13 rfl (lv_at hl 2 rfl) ?_
        refine zd_iconst C dX9_has_14 ?_
        refine zd_icmp_ge C hb (by decide) 32 dX9_has_15 (by decide) (fun c4 => ?_) (fun c4 => ?_)
        · have hF := hF.1 c4
          refine zd_iconst C dX9_has_32 ?_
          exact zd_zret C hr hlk hH hS (by decide) (⟨hF, rfl⟩) dX9_has_33
        · have hF := hF.2 c4
          refine lv_iload_n C.1 C.2.1 dX9_has_18 rfl (lv_at hl 2 rfl) ?_
          refine lv_aload_n C.1 C.2.1 dX9_has_19 rfl (lv_at hl 0 rfl) ?_
          refine zg9_4 C hH (zTold_n0 hC) (zTold_k0 hC) q_287 (zTold_r2 hC) dX9_has_20 ?_
          refine lv_iload_n C.1 C.2.1 dX9_has_23 rfl (lv_at hl 1 rfl) ?_
          obtain ⟨o5, hF⟩ := hF
          refine zd_iald C hH (zTold_n2 hC) (zTold_k2 hC) o5.1 (by rw [zTold_l2 hC]; exact o5.2) (by rw [zTold_l2 hC]; decide) dX9_has_24 ?_
          refine zd_icmp_ge C hb (hH.2.2.1 _ _) 32 dX9_has_25 (by decide) (fun c6 => ?_) (fun c6 => ?_)
          · have hF := hF.1 c6
            refine zd_iconst C dX9_has_32 ?_
            exact zd_zret C hr hlk hH hS (by decide) (⟨hF, rfl⟩) dX9_has_33
          · have hF := hF.2 c6
            refine zd_iconst C dX9_has_28 ?_
            refine lv_goto (tgt := 33) C.1 C.2.1 dX9_has_29 (by decide) ?_
            exact zd_zret C hr hlk hH hS (by decide) (⟨hF, rfl⟩) dX9_has_33
theorem v_X9_has {X Y : Nat → Int → Int} {R : Nat → Int → Option Nat} {i : Nat} (a : Int) (ha : rI a) (b : Int) (hb : rI b) : F_X9_has i X Y R a b := by
  unfold F_X9_has
  intro hX hY
  refine ⟨?_, ?_⟩
  · intro c1
    rw [decide_eq_false (by omega)]
    rfl
  intro c2
  refine ⟨?_, ?_⟩
  · intro c3
    rw [decide_eq_false (by omega)]
    rfl
  intro c4
  refine ⟨?_, ?_⟩
  · intro c5
    rw [decide_eq_false (by omega)]
    rfl
  intro c6
  refine ⟨?_, ?_⟩
  · intro c7
    rw [decide_eq_false (by omega)]
    rfl
  intro c8
  refine ⟨?_, ?_⟩
  · first | omega | exact ⟨by omega, by omega⟩ | decide | assumption | exact ⟨by omega, by omega, by omega⟩ | exact ⟨by decide, by decide⟩
  refine ⟨?_, ?_⟩
  · intro c9
    rw [decide_eq_false (by omega)]
    rfl
  intro c10
  rw [decide_eq_true (by omega)]
  rfl
theorem c_X9_has {l : Launch} {D : va_G} {cy : Nat → ClassId} {bs N : Nat} {sa : Nat → Nat} {kd len : Nat → Nat} {X Y : Nat → Int → Int} {R : Nat → Int → Option Nat} {i : Nat} (hC : zTold N kd len R i) (a : Int) (ha : rI a) (b : Int) (hb : rI b) : Met l yX9_has (.code yX9_has cX9_has 3 (some .boolean) :: zTB) (zRm 0 0) (zPc D cy bs sa N kd len X Y R [.ref (bs + (i)), .int (zI (a)), .int (zI (b))]) (zQi D cy bs N kd len (fun r st => r = bz (decide ((0 ≤ a ∧ a < 5) ∧ (0 ≤ b ∧ b < 2) ∧ b < X (i + 2) a)) ∧ st = (X, Y, R))) 0 0 (zA bs) := w_X9_has hC a ha b hb (v_X9_has a ha b hb)
def cPf (X : Nat → Int → Int) (i : Nat) (o k : Int) : Int := if 0 ≤ o ∧ o < 5 then (if k = -1 then (if X (i + 2) o < 2 then X (i + 2) o else -1) else if (0 ≤ k ∧ k < 2) ∧ k < X (i + 2) o then k else -1) else -1
abbrev cX9_placeFor : ByteArray := prog_11_method_8_code
def yX9_placeFor : MethodName := ⟨RX9, "placeFor", "(II)I"⟩
theorem dX9_placeFor_0 : decode cX9_placeFor 0 = .ok (.iload_n 1, 1) := by decide +kernel
theorem dX9_placeFor_1 : decode cX9_placeFor 1 = .ok (.ifCond .lt 8, 3) := by decide +kernel
theorem dX9_placeFor_4 : decode cX9_placeFor 4 = .ok (.iload_n 1, 1) := by decide +kernel
theorem dX9_placeFor_5 : decode cX9_placeFor 5 = .ok (.iconst 5, 1) := by decide +kernel
theorem dX9_placeFor_6 : decode cX9_placeFor 6 = .ok (.if_icmp .lt 5, 3) := by decide +kernel
theorem dX9_placeFor_9 : decode cX9_placeFor 9 = .ok (.iconst (-1), 1) := by decide +kernel
theorem dX9_placeFor_10 : decode cX9_placeFor 10 = .ok (.ireturn, 1) := by decide +kernel
theorem dX9_placeFor_11 : decode cX9_placeFor 11 = .ok (.iload_n 2, 1) := by decide +kernel
theorem dX9_placeFor_12 : decode cX9_placeFor 12 = .ok (.iconst (-1), 1) := by decide +kernel
theorem dX9_placeFor_13 : decode cX9_placeFor 13 = .ok (.if_icmp .ne 24, 3) := by decide +kernel
theorem dX9_placeFor_16 : decode cX9_placeFor 16 = .ok (.aload_n 0, 1) := by decide +kernel
theorem dX9_placeFor_17 : decode cX9_placeFor 17 = .ok (.getfield 19, 3) := by decide +kernel
theorem dX9_placeFor_20 : decode cX9_placeFor 20 = .ok (.iload_n 1, 1) := by decide +kernel
theorem dX9_placeFor_21 : decode cX9_placeFor 21 = .ok (.iaload, 1) := by decide +kernel
theorem dX9_placeFor_22 : decode cX9_placeFor 22 = .ok (.iconst 2, 1) := by decide +kernel
theorem dX9_placeFor_23 : decode cX9_placeFor 23 = .ok (.if_icmp .ge 12, 3) := by decide +kernel
theorem dX9_placeFor_26 : decode cX9_placeFor 26 = .ok (.aload_n 0, 1) := by decide +kernel
theorem dX9_placeFor_27 : decode cX9_placeFor 27 = .ok (.getfield 19, 3) := by decide +kernel
theorem dX9_placeFor_30 : decode cX9_placeFor 30 = .ok (.iload_n 1, 1) := by decide +kernel
theorem dX9_placeFor_31 : decode cX9_placeFor 31 = .ok (.iaload, 1) := by decide +kernel
theorem dX9_placeFor_32 : decode cX9_placeFor 32 = .ok (.goto 4, 3) := by decide +kernel
theorem dX9_placeFor_35 : decode cX9_placeFor 35 = .ok (.iconst (-1), 1) := by decide +kernel
theorem dX9_placeFor_36 : decode cX9_placeFor 36 = .ok (.ireturn, 1) := by decide +kernel
theorem dX9_placeFor_37 : decode cX9_placeFor 37 = .ok (.aload_n 0, 1) := by decide +kernel
theorem dX9_placeFor_38 : decode cX9_placeFor 38 = .ok (.iload_n 1, 1) := by decide +kernel
theorem dX9_placeFor_39 : decode cX9_placeFor 39 = .ok (.iload_n 2, 1) := by decide +kernel
theorem dX9_placeFor_40 : decode cX9_placeFor 40 = .ok (.invokevirtual 68, 3) := by decide +kernel
theorem dX9_placeFor_43 : decode cX9_placeFor 43 = .ok (.ifCond .eq 7, 3) := by decide +kernel
theorem dX9_placeFor_46 : decode cX9_placeFor 46 = .ok (.iload_n 2, 1) := by decide +kernel
theorem dX9_placeFor_47 : decode cX9_placeFor 47 = .ok (.goto 4, 3) := by decide +kernel
theorem dX9_placeFor_50 : decode cX9_placeFor 50 = .ok (.iconst (-1), 1) := by decide +kernel
theorem dX9_placeFor_51 : decode cX9_placeFor 51 = .ok (.ireturn, 1) := by decide +kernel
theorem q_617 : Cond.methodLink RX9 68 yX9_has ∈ zTB := zmem 617 (by decide +kernel) rfl
theorem q_618 : Cond.instanceMethod yX9_has ∈ zTB := zmem 618 (by decide +kernel) rfl
theorem q_619 : Cond.selects RX9 yX9_has yX9_has ∈ zTB := zmem 619 (by decide +kernel) rfl
theorem q_130 : Cond.initialized RX9 ∈ zTB := zmem 130 (by decide +kernel) rfl
theorem q_620 : Cond.code yX9_has cX9_has 3 (some .boolean) ∈ zTB := zmem 620 (by decide +kernel) rfl
theorem k_RX9_68 : zLv RX9 68 RX9 yX9_has cX9_has 3 (some .boolean) 2 := ⟨⟨q_617, q_618, q_619, q_130, q_620⟩, rfl, ⟨by decide, by decide⟩, by decide +kernel⟩
def F_X9_placeFor (i : Nat) (X Y : Nat → Int → Int) (R : Nat → Int → Option Nat) (a : Int) (b : Int) : Prop := (∀ i j, rI (X i j)) → (∀ i j, rL (Y i j)) → ((a < 0) → ((-1) = cPf X i (a) (b))) ∧ ((¬ (a < 0)) → (((a < 5) → (((¬ b = (-1)) → ((((decide ((0 ≤ (a) ∧ (a) < 5) ∧ (0 ≤ (b) ∧ (b) < 2) ∧ (b) < X (i + 2) (a))) = false) → ((-1) = cPf X i (a) (b))) ∧ (((decide ((0 ≤ (a) ∧ (a) < 5) ∧ (0 ≤ (b) ∧ (b) < 2) ∧ (b) < X (i + 2) (a))) = true) → (b = cPf X i (a) (b))))) ∧ ((¬ (¬ b = (-1))) → ((0 ≤ a ∧ a < 5) ∧ (((2 ≤ (X (i + 2) (a))) → ((-1) = cPf X i (a) (b))) ∧ ((¬ (2 ≤ (X (i + 2) (a)))) → ((0 ≤ a ∧ a < 5) ∧ (X (i + 2) (a) = cPf X i (a) (b))))))))) ∧ ((¬ (a < 5)) → ((-1) = cPf X i (a) (b)))))
set_option maxHeartbeats 4000000 in
set_option maxRecDepth 100000 in
theorem w_X9_placeFor {l : Launch} {D : va_G} {cy : Nat → ClassId} {bs N : Nat} {sa : Nat → Nat} {kd len : Nat → Nat} {X Y : Nat → Int → Int} {R : Nat → Int → Option Nat} {i : Nat} (hC : zTold N kd len R i) (a : Int) (ha : rI a) (b : Int) (hb : rI b) (hF : F_X9_placeFor i X Y R a b) : Met l yX9_placeFor (.code yX9_placeFor cX9_placeFor 3 (some .int) :: zTB) (zRm 1 22) (zPc D cy bs sa N kd len X Y R [.ref (bs + (i)), .int (zI (a)), .int (zI (b))]) (zQi D cy bs N kd len (fun r st => r = cPf X i (a) (b) ∧ st = (X, Y, R))) 0 0 (zA bs) := by
  refine zstart (by decide) (Nat.le_of_ble_eq_true rfl) ?_
  intro p e s m args below meth c ls C hE hH hr hlk hnm hl hargs
  have hF := hF hH.2.2.1 hH.2.2.2
  have hS : va_S (zA bs) s.heap s.heap [] := va_S.rf
  have hl : lv_has ls 3 [(0, .ref (bs + (i))), (1, .int (zI (a))), (2, .int (zI (b)))] := hl
  refine lv_iload_n C.1 C.2.1 dX9_placeFor_0 rfl (lv_at hl 1 rfl) ?_
  refine zd_if_lt C ha 9 dX9_placeFor_1 (by decide) (fun c1 => ?_) (fun c1 => ?_)
  · have hF := hF.1 c1
    refine zd_iconst C dX9_placeFor_9 ?_
    exact zd_iret C hr hlk hH hS (by decide) (⟨hF, rfl⟩) dX9_placeFor_10
  · have hF := hF.2 c1
    refine lv_iload_n C.1 C.2.1 dX9_placeFor_4 rfl (lv_at hl 1 rfl) ?_
    refine zd_iconst C dX9_placeFor_5 ?_
    refine zd_icmp_lt C ha (by decide) 11 dX9_placeFor_6 (by decide) (fun c2 => ?_) (fun c2 => ?_)
    · have hF := hF.1 c2
      refine lv_iload_n C.1 C.2.1 dX9_placeFor_11 rfl (lv_at hl 2 rfl) ?_
      refine zd_iconst C dX9_placeFor_12 ?_
      refine zd_icmp_ne C hb (by decide) 37 dX9_placeFor_13 (by decide) (fun c3 => ?_) (fun c3 => ?_)
      · have hF := hF.1 c3
        refine lv_aload_n C.1 C.2.1 dX9_placeFor_37 rfl (lv_at hl 0 rfl) ?_
        refine lv_iload_n C.1 C.2.1 dX9_placeFor_38 rfl (lv_at hl 1 rfl) ?_
        refine lv_iload_n C.1 C.2.1 dX9_placeFor_39 rfl (lv_at hl 2 rfl) ?_
        refine zgoi (zrunV (As := [.int (zI (a)), .int (zI (b))]) (rest := []) C hE hH hS hl.1 (c_X9_has (l := l) hC (a) ha (b) hb) k_RX9_68 ⟨Nat.le_of_ble_eq_true rfl, Nat.le_of_ble_eq_true rfl⟩ (zTold_n0 hC) (zTold_k0 hC) rfl rfl rfl (Nat.le_of_ble_eq_true rfl) dX9_placeFor_40 ⟨Nat.zero_le _, Nat.zero_le _⟩) hS (fun rq Xq Yq Rq H locs hrq hq hH hS => ?_)
        obtain ⟨h91, h92⟩ := hq
        have h93 : Xq = X := congrArg (fun z => z.1) h92
        have h94 : Yq = Y := congrArg (fun z => z.2.1) h92
        have h95 : Rq = R := congrArg (fun z => z.2.2) h92
        rw [h93, h94, h95] at hH
        subst h91
        refine zd_ifB_eq C 50 dX9_placeFor_43 (by decide) (fun c4 => ?_) (fun c4 => ?_)
        · have hF := hF.1 c4
          refine zd_iconst C dX9_placeFor_50 ?_
          exact zd_iret C hr hlk hH hS (by decide) (⟨hF, rfl⟩) dX9_placeFor_51
        · have hF := hF.2 c4
          refine lv_iload_n C.1 C.2.1 dX9_placeFor_46 rfl (lv_at hl 2 rfl) ?_
          refine lv_goto (tgt := 51) C.1 C.2.1 dX9_placeFor_47 (by decide) ?_
          exact zd_iret C hr hlk hH hS hb (⟨hF, rfl⟩) dX9_placeFor_51
      · have hF := hF.2 c3
        refine lv_aload_n C.1 C.2.1 dX9_placeFor_16 rfl (lv_at hl 0 rfl) ?_
        refine zg9_4 C hH (zTold_n0 hC) (zTold_k0 hC) q_287 (zTold_r2 hC) dX9_placeFor_17 ?_
        refine lv_iload_n C.1 C.2.1 dX9_placeFor_20 rfl (lv_at hl 1 rfl) ?_
        obtain ⟨o5, hF⟩ := hF
        refine zd_iald C hH (zTold_n2 hC) (zTold_k2 hC) o5.1 (by rw [zTold_l2 hC]; exact o5.2) (by rw [zTold_l2 hC]; decide) dX9_placeFor_21 ?_
        refine zd_iconst C dX9_placeFor_22 ?_
        refine zd_icmp_ge C (hH.2.2.1 _ _) (by decide) 35 dX9_placeFor_23 (by decide) (fun c6 => ?_) (fun c6 => ?_)
        · have hF := hF.1 c6
          refine zd_iconst C dX9_placeFor_35 ?_
          exact zd_iret C hr hlk hH hS (by decide) (⟨hF, rfl⟩) dX9_placeFor_36
        · have hF := hF.2 c6
          refine lv_aload_n C.1 C.2.1 dX9_placeFor_26 rfl (lv_at hl 0 rfl) ?_
          refine zg9_4 C hH (zTold_n0 hC) (zTold_k0 hC) q_287 (zTold_r2 hC) dX9_placeFor_27 ?_
          refine lv_iload_n C.1 C.2.1 dX9_placeFor_30 rfl (lv_at hl 1 rfl) ?_
          obtain ⟨o7, hF⟩ := hF
          refine zd_iald C hH (zTold_n2 hC) (zTold_k2 hC) o7.1 (by rw [zTold_l2 hC]; exact o7.2) (by rw [zTold_l2 hC]; decide) dX9_placeFor_31 ?_
          refine lv_goto (tgt := 36) C.1 C.2.1 dX9_placeFor_32 (by decide) ?_
          exact zd_iret C hr hlk hH hS (hH.2.2.1 _ _) (⟨hF, rfl⟩) dX9_placeFor_36
    · have hF := hF.2 c2
      refine zd_iconst C dX9_placeFor_9 ?_
      exact zd_iret C hr hlk hH hS (by decide) (⟨hF, rfl⟩) dX9_placeFor_10
theorem v_X9_placeFor {X Y : Nat → Int → Int} {R : Nat → Int → Option Nat} {i : Nat} (a : Int) (ha : rI a) (b : Int) (hb : rI b) : F_X9_placeFor i X Y R a b := by
  unfold F_X9_placeFor
  intro hX hY
  unfold cPf
  refine ⟨?_, ?_⟩
  · intro c1
    rw [if_neg (by omega)]
  intro c2
  refine ⟨?_, ?_⟩
  · intro c3
    refine ⟨?_, ?_⟩
    · intro c4
      refine ⟨?_, ?_⟩
      · intro c5
        have c := of_decide_eq_false c5
        rw [if_pos (by omega), if_neg c4, if_neg (fun g => c ⟨by omega, g⟩)]
      intro c6
      have c := of_decide_eq_true c6
      rw [if_pos c.1, if_neg c4, if_pos c.2]
    intro c7
    refine ⟨?_, ?_⟩
    · first | omega | exact ⟨by omega, by omega⟩ | decide | assumption | exact ⟨by omega, by omega, by omega⟩ | exact ⟨by decide, by decide⟩
    refine ⟨?_, ?_⟩
    · intro c8
      rw [if_pos (by omega), if_pos (Classical.not_not.mp c7), if_neg (by omega)]
    intro c9
    refine ⟨?_, ?_⟩
    · first | omega | exact ⟨by omega, by omega⟩ | decide | assumption | exact ⟨by omega, by omega, by omega⟩ | exact ⟨by decide, by decide⟩
    rw [if_pos (by omega), if_pos (Classical.not_not.mp c7), if_pos (by omega)]
  intro c10
  rw [if_neg (by omega)]
theorem c_X9_placeFor {l : Launch} {D : va_G} {cy : Nat → ClassId} {bs N : Nat} {sa : Nat → Nat} {kd len : Nat → Nat} {X Y : Nat → Int → Int} {R : Nat → Int → Option Nat} {i : Nat} (hC : zTold N kd len R i) (a : Int) (ha : rI a) (b : Int) (hb : rI b) : Met l yX9_placeFor (.code yX9_placeFor cX9_placeFor 3 (some .int) :: zTB) (zRm 1 22) (zPc D cy bs sa N kd len X Y R [.ref (bs + (i)), .int (zI (a)), .int (zI (b))]) (zQi D cy bs N kd len (fun r st => r = cPf X i (a) (b) ∧ st = (X, Y, R))) 0 0 (zA bs) := w_X9_placeFor hC a ha b hb (v_X9_placeFor a ha b hb)
def cAp (X X1 : Nat → Int → Int) (i : Nat) (a : Int) (q : Nat) : Prop := (∀ z, z ≠ i → z ≠ i + 1 → X1 z = X z) ∧ (∀ s, s ≠ 1 → X1 i s = X i s) ∧ X1 i 1 = X i 1 + q ∧ X1 (i + 1) = frN (X (i + 1)) (X i 1) a q
abbrev cX9_append : ByteArray := prog_11_method_3_code
def yX9_append : MethodName := ⟨RX9, "append", "(I)V"⟩
theorem dX9_append_0 : decode cX9_append 0 = .ok (.bipush 24, 2) := by decide +kernel
theorem dX9_append_2 : decode cX9_append 2 = .ok (.istore_n 2, 1) := by decide +kernel
theorem dX9_append_3 : decode cX9_append 3 = .ok (.iload_n 2, 1) := by decide +kernel
theorem dX9_append_4 : decode cX9_append 4 = .ok (.ifCond .lt 46, 3) := by decide +kernel
theorem dX9_append_7 : decode cX9_append 7 = .ok (.aload_n 0, 1) := by decide +kernel
theorem dX9_append_8 : decode cX9_append 8 = .ok (.getfield 52, 3) := by decide +kernel
theorem dX9_append_11 : decode cX9_append 11 = .ok (.ifCond .lt 33, 3) := by decide +kernel
theorem dX9_append_14 : decode cX9_append 14 = .ok (.aload_n 0, 1) := by decide +kernel
theorem dX9_append_15 : decode cX9_append 15 = .ok (.getfield 52, 3) := by decide +kernel
theorem dX9_append_18 : decode cX9_append 18 = .ok (.sipush 600, 3) := by decide +kernel
theorem dX9_append_21 : decode cX9_append 21 = .ok (.if_icmp .ge 23, 3) := by decide +kernel
theorem dX9_append_24 : decode cX9_append 24 = .ok (.aload_n 0, 1) := by decide +kernel
theorem dX9_append_25 : decode cX9_append 25 = .ok (.getfield 9, 3) := by decide +kernel
theorem dX9_append_28 : decode cX9_append 28 = .ok (.aload_n 0, 1) := by decide +kernel
theorem dX9_append_29 : decode cX9_append 29 = .ok (.dup, 1) := by decide +kernel
theorem dX9_append_30 : decode cX9_append 30 = .ok (.getfield 52, 3) := by decide +kernel
theorem dX9_append_33 : decode cX9_append 33 = .ok (.dup_x1, 1) := by decide +kernel
theorem dX9_append_34 : decode cX9_append 34 = .ok (.iconst 1, 1) := by decide +kernel
theorem dX9_append_35 : decode cX9_append 35 = .ok (.iadd, 1) := by decide +kernel
theorem dX9_append_36 : decode cX9_append 36 = .ok (.putfield 52, 3) := by decide +kernel
theorem dX9_append_39 : decode cX9_append 39 = .ok (.iload_n 1, 1) := by decide +kernel
theorem dX9_append_40 : decode cX9_append 40 = .ok (.iload_n 2, 1) := by decide +kernel
theorem dX9_append_41 : decode cX9_append 41 = .ok (.ishr, 1) := by decide +kernel
theorem dX9_append_42 : decode cX9_append 42 = .ok (.i2b, 1) := by decide +kernel
theorem dX9_append_43 : decode cX9_append 43 = .ok (.bastore, 1) := by decide +kernel
theorem dX9_append_44 : decode cX9_append 44 = .ok (.iinc 2 (-8), 3) := by decide +kernel
theorem dX9_append_47 : decode cX9_append 47 = .ok (.goto (-44), 3) := by decide +kernel
theorem dX9_append_50 : decode cX9_append 50 = .ok (.return_, 1) := by decide +kernel
theorem q_282 : Cond.fieldLink RX9 52 RX9 "length" "I" ∈ zTB := zmem 282 (by decide +kernel) rfl
theorem q_279 : Cond.fieldLink RX9 9 RX9 "tape" "[B" ∈ zTB := zmem 279 (by decide +kernel) rfl
def F_X9_append (i : Nat) (X Y : Nat → Int → Int) (R : Nat → Int → Option Nat) (a : Int) : Prop := (∀ i j, rI (X i j)) → (∀ i j, rL (Y i j)) → (∃ q : Nat, (24 : Int) = 24 - 8 * (q : Int) ∧ q ≤ 4 ∧ cAp X X i a q) ∧ (∀ (k : Int) (X2 : Nat → Int → Int), rI k → (∀ i j, rI (X2 i j)) → (∃ q : Nat, k = 24 - 8 * (q : Int) ∧ q ≤ 4 ∧ cAp X X2 i a q) → (((k < 0) → (cAp X (X2) i (a) 4)) ∧ ((¬ (k < 0)) → ((((X2 (i) 1) < 0) → ((rI (k + (-8))) ∧ (∃ q : Nat, k + (-8) = 24 - 8 * (q : Int) ∧ q ≤ 4 ∧ cAp X X2 i a q) ∧ (((k + (-8) + 8).toNat) < ((k + 8).toNat)))) ∧ ((¬ ((X2 (i) 1) < 0)) → (((600 ≤ (X2 (i) 1)) → ((rI (k + (-8))) ∧ (∃ q : Nat, k + (-8) = 24 - 8 * (q : Int) ∧ q ≤ 4 ∧ cAp X X2 i a q) ∧ (((k + (-8) + 8).toNat) < ((k + 8).toNat)))) ∧ ((¬ (600 ≤ (X2 (i) 1))) → ((rI ((X2 (i) 1) + 1)) ∧ (∀ X9 : Nat → Int → Int, X9 = zU X2 (i) 1 ((X2 (i) 1) + 1) → (∀ i j, rI (X9 i j)) → ((0 ≤ (X2 (i) 1) ∧ (X2 (i) 1) < 600) ∧ (∀ X11 : Nat → Int → Int, X11 = zU X9 (i + 1) (X2 (i) 1) (zByt (zShr (a) (k))) → (∀ i j, rI (X11 i j)) → ((rI (k + (-8))) ∧ (∃ q : Nat, k + (-8) = 24 - 8 * (q : Int) ∧ q ≤ 4 ∧ cAp X X11 i a q) ∧ (((k + (-8) + 8).toNat) < ((k + 8).toNat))))))))))))))
set_option maxHeartbeats 4000000 in
set_option maxRecDepth 100000 in
theorem w_X9_append {l : Launch} {D : va_G} {cy : Nat → ClassId} {bs N : Nat} {sa : Nat → Nat} {kd len : Nat → Nat} {X Y : Nat → Int → Int} {R : Nat → Int → Option Nat} {i : Nat} (hC : zTold N kd len R i) (a : Int) (ha : rI a) (hF : F_X9_append i X Y R a) : Met l yX9_append (.code yX9_append cX9_append 3 none :: zTB) (zRm 0 0) (zPc D cy bs sa N kd len X Y R [.ref (bs + (i)), .int (zI (a))]) (zQv D cy bs N kd len (fun st => st.2.1 = Y ∧ st.2.2 = R ∧ (cAp X (st.1) i (a) 4))) 0 0 (zA bs) := by
  refine zstart (by decide) (Nat.le_of_ble_eq_true rfl) ?_
  intro p e s m args below meth c ls C hE hH hr hlk hnm hl hargs
  have hF := hF hH.2.2.1 hH.2.2.2
  have hS : va_S (zA bs) s.heap s.heap [] := va_S.rf
  have hl : lv_has ls 3 [(0, .ref (bs + (i))), (1, .int (zI (a)))] := hl
  refine zd_bipush C (by decide) dX9_append_0 ?_
  refine lv_istore_n (lv' := [(2, .int (zI (24))), (0, .ref (bs + (i))), (1, .int (zI (a)))]) C.1 C.2.1 dX9_append_2 rfl hl (by decide) rfl (fun ls hl => ?_)
  obtain ⟨hI1, hF⟩ := hF
  have L1 : ∀ (fu : Nat) (k : Int) (X2 : Nat → Int → Int), rI k → (∃ q : Nat, k = 24 - 8 * (q : Int) ∧ q ≤ 4 ∧ cAp X X2 i a q) → ((k + 8).toNat) < fu → ∀ (H : Heap) (locs : List Loc) (ls : Array Slot), zH D cy bs N kd len X2 Y R H → va_S (zA bs) s.heap H locs → lv_has ls 3 [(2, .int (zI (k))), (0, .ref (bs + (i))), (1, .int (zI (a)))] → W p l e (zRm 0 0) s m args below meth c H locs 0 0 (MQ below (zQv D cy bs N kd len (fun st => st.2.1 = Y ∧ st.2.2 = R ∧ (cAp X (st.1) i (a) 4))) args s 0 0 (zA bs)) (F0 m 3 ls []) := by
    intro fu
    induction fu with
    | zero => intro k X2 _ _ hmu; exact absurd hmu (Nat.not_lt_zero _)
    | succ fu ih1 =>
      intro k X2 hk hI hmu1 H locs ls hH hS hl
      have hF := hF k X2 hk hH.2.2.1 hI
      refine lv_iload_n C.1 C.2.1 dX9_append_3 rfl (lv_at hl 0 rfl) ?_
      refine zd_if_lt C hk 50 dX9_append_4 (by decide) (fun c3 => ?_) (fun c3 => ?_)
      · have hF := hF.1 c3
        exact zd_vret C hr hlk hH hS (⟨rfl, rfl, hF⟩) dX9_append_50
      · have hF := hF.2 c3
        refine lv_aload_n C.1 C.2.1 dX9_append_7 rfl (lv_at hl 1 rfl) ?_
        refine zg9_1 C hH (zTold_n0 hC) (zTold_k0 hC) q_282 dX9_append_8 ?_
        refine zd_if_lt C (hH.2.2.1 _ _) 44 dX9_append_11 (by decide) (fun c4 => ?_) (fun c4 => ?_)
        · have hF := hF.1 c4
          refine zd_iinc (k := 0) (lv' := [(2, .int (zI (k + (-8)))), (0, .ref (bs + (i))), (1, .int (zI (a)))]) C hl rfl dX9_append_44 (by decide) rfl (fun ls hl => ?_)
          refine lv_goto (tgt := 3) C.1 C.2.1 dX9_append_47 (by decide) ?_
          obtain ⟨o5, hF⟩ := hF
          exact ih1 (k + (-8)) X2 o5 hF.1 (Nat.lt_of_lt_of_le hF.2 (Nat.le_of_lt_succ hmu1)) _ _ _ hH hS (lv_sub hl [0, 1, 2] rfl)
        · have hF := hF.2 c4
          refine lv_aload_n C.1 C.2.1 dX9_append_14 rfl (lv_at hl 1 rfl) ?_
          refine zg9_1 C hH (zTold_n0 hC) (zTold_k0 hC) q_282 dX9_append_15 ?_
          refine zd_sipush C (by decide) dX9_append_18 ?_
          refine zd_icmp_ge C (hH.2.2.1 _ _) (by decide) 44 dX9_append_21 (by decide) (fun c6 => ?_) (fun c6 => ?_)
          · have hF := hF.1 c6
            refine zd_iinc (k := 0) (lv' := [(2, .int (zI (k + (-8)))), (0, .ref (bs + (i))), (1, .int (zI (a)))]) C hl rfl dX9_append_44 (by decide) rfl (fun ls hl => ?_)
            refine lv_goto (tgt := 3) C.1 C.2.1 dX9_append_47 (by decide) ?_
            obtain ⟨o7, hF⟩ := hF
            exact ih1 (k + (-8)) X2 o7 hF.1 (Nat.lt_of_lt_of_le hF.2 (Nat.le_of_lt_succ hmu1)) _ _ _ hH hS (lv_sub hl [0, 1, 2] rfl)
          · have hF := hF.2 c6
            refine lv_aload_n C.1 C.2.1 dX9_append_24 rfl (lv_at hl 1 rfl) ?_
            refine zg9_0 C hH (zTold_n0 hC) (zTold_k0 hC) q_279 (zTold_r1 hC) dX9_append_25 ?_
            refine lv_aload_n C.1 C.2.1 dX9_append_28 rfl (lv_at hl 1 rfl) ?_
            refine lv_dup C.1 C.2.1 dX9_append_29 rfl ?_
            refine zg9_1 C hH (zTold_n0 hC) (zTold_k0 hC) q_282 dX9_append_30 ?_
            refine lv_dup_x1 C.1 C.2.1 dX9_append_33 rfl rfl ?_
            refine zd_iconst C dX9_append_34 ?_
            refine zd_iadd C dX9_append_35 ?_
            obtain ⟨o8, hF⟩ := hF
            have gg1 := hH.2.2.1
            refine zp9_1 C hH hS (zTold_n0 hC) (zTold_k0 hC) q_282 o8 dX9_append_36 (fun H locs hH hS => ?_)
            obtain ⟨X9, eX9⟩ : ∃ z, z = zU X2 (i) 1 ((X2 (i) 1) + 1) := ⟨_, rfl⟩
            rw [← eX9] at hH
            have hF := hF X9 eX9 hH.2.2.1
            refine lv_iload_n C.1 C.2.1 dX9_append_39 rfl (lv_at hl 2 rfl) ?_
            refine lv_iload_n C.1 C.2.1 dX9_append_40 rfl (lv_at hl 0 rfl) ?_
            refine zd_ishr C dX9_append_41 ?_
            refine zd_i2b C dX9_append_42 ?_
            obtain ⟨o10, hF⟩ := hF
            refine zd_bast C hH hS (zTold_n1 hC) (zTold_k1 hC) o10.1 (by rw [zTold_l1 hC]; exact o10.2) (by rw [zTold_l1 hC]; decide) (zByt_b _) dX9_append_43 (fun H locs hH hS => ?_)
            obtain ⟨X11, eX11⟩ : ∃ z, z = zU X9 (i + 1) (X2 (i) 1) (zByt (zShr (a) (k))) := ⟨_, rfl⟩
            rw [← eX11] at hH
            have hF := hF X11 eX11 hH.2.2.1
            refine zd_iinc (k := 0) (lv' := [(2, .int (zI (k + (-8)))), (0, .ref (bs + (i))), (1, .int (zI (a)))]) C hl rfl dX9_append_44 (by decide) rfl (fun ls hl => ?_)
            refine lv_goto (tgt := 3) C.1 C.2.1 dX9_append_47 (by decide) ?_
            obtain ⟨o12, hF⟩ := hF
            exact ih1 (k + (-8)) X11 o12 hF.1 (Nat.lt_of_lt_of_le hF.2 (Nat.le_of_lt_succ hmu1)) _ _ _ hH hS (lv_sub hl [0, 1, 2] rfl)
  exact L1 ((((24 : Int) + 8).toNat) + 1) ((24 : Int)) X (by decide) hI1 (Nat.lt_succ_self _) _ _ _ hH hS (lv_sub hl [0, 1, 2] rfl)
theorem v_X9_append {X Y : Nat → Int → Int} {R : Nat → Int → Option Nat} {i : Nat} (a : Int) (ha : rI a) (hp : 0 ≤ X i 1 ∧ X i 1 ≤ 596) : F_X9_append i X Y R a := by
  unfold F_X9_append
  intro hX hY
  obtain ⟨p0, p1⟩ := hp
  refine ⟨?_, ?_⟩
  · exact ⟨0, by decide, by decide, fun _ _ _ => rfl, fun _ _ => rfl, by omega, rfl⟩
  intro k X2
  intro _
  intro rX2
  intro h1
  obtain ⟨q, hq, q4, hz, hs, hl, ht⟩ := h1
  subst hq
  refine ⟨?_, ?_⟩
  · intro c1
    have e : q = 4 := by omega
    subst e
    exact ⟨hz, hs, hl, ht⟩
  intro c2
  refine ⟨?_, ?_⟩
  · intro c3
    omega
  intro c4
  refine ⟨?_, ?_⟩
  · intro c5
    omega
  intro c6
  refine ⟨?_, ?_⟩
  · first | omega | exact ⟨by omega, by omega⟩ | decide | assumption | exact ⟨by omega, by omega, by omega⟩ | exact ⟨by decide, by decide⟩
  intro X9
  intro eX9
  intro rX9
  refine ⟨?_, ?_⟩
  · first | omega | exact ⟨by omega, by omega⟩ | decide | assumption | exact ⟨by omega, by omega, by omega⟩ | exact ⟨by decide, by decide⟩
  intro X11
  intro eX11
  intro rX11
  refine ⟨?_, ?_⟩
  · first | omega | exact ⟨by omega, by omega⟩ | decide | assumption | exact ⟨by omega, by omega, by omega⟩ | exact ⟨by decide, by decide⟩
  refine ⟨?_, ?_⟩
  · refine ⟨q + 1, by omega, by omega, fun z z1 z2 => by rw [eX11, zU_o z2, eX9, zU_o z1]; exact hz z z1 z2, fun s h => by rw [eX11, zU_o (by omega), eX9, zU_n (by omega)]; exact hs s h, by rw [eX11, zU_o (by omega), eX9, zU_s, hl]; omega, ?_⟩
    rw [eX11, zU_up, eX9, zU_o (by omega), ht, hl]
    rfl
  first | omega | exact ⟨by omega, by omega⟩ | decide | assumption | exact ⟨by omega, by omega, by omega⟩ | exact ⟨by decide, by decide⟩
theorem c_X9_append {l : Launch} {D : va_G} {cy : Nat → ClassId} {bs N : Nat} {sa : Nat → Nat} {kd len : Nat → Nat} {X Y : Nat → Int → Int} {R : Nat → Int → Option Nat} {i : Nat} (hC : zTold N kd len R i) (a : Int) (ha : rI a) (hp : 0 ≤ X i 1 ∧ X i 1 ≤ 596) : Met l yX9_append (.code yX9_append cX9_append 3 none :: zTB) (zRm 0 0) (zPc D cy bs sa N kd len X Y R [.ref (bs + (i)), .int (zI (a))]) (zQv D cy bs N kd len (fun st => st.2.1 = Y ∧ st.2.2 = R ∧ (cAp X (st.1) i (a) 4))) 0 0 (zA bs) := w_X9_append hC a ha (v_X9_append a ha hp)
abbrev cX10_isIn : ByteArray := prog_1_method_48_code
def yX10_isIn : MethodName := ⟨RX10, "isIn", "(II)Z"⟩
theorem dX10_isIn_0 : decode cX10_isIn 0 = .ok (.iload_n 1, 1) := by decide +kernel
theorem dX10_isIn_1 : decode cX10_isIn 1 = .ok (.ifCond .lt 21, 3) := by decide +kernel
theorem dX10_isIn_4 : decode cX10_isIn 4 = .ok (.iload_n 1, 1) := by decide +kernel
theorem dX10_isIn_5 : decode cX10_isIn 5 = .ok (.bipush 15, 2) := by decide +kernel
theorem dX10_isIn_7 : decode cX10_isIn 7 = .ok (.if_icmp .ge 15, 3) := by decide +kernel
theorem dX10_isIn_10 : decode cX10_isIn 10 = .ok (.iload_n 0, 1) := by decide +kernel
theorem dX10_isIn_11 : decode cX10_isIn 11 = .ok (.iload_n 1, 1) := by decide +kernel
theorem dX10_isIn_12 : decode cX10_isIn 12 = .ok (.ishr, 1) := by decide +kernel
theorem dX10_isIn_13 : decode cX10_isIn 13 = .ok (.iconst 1, 1) := by decide +kernel
theorem dX10_isIn_14 : decode cX10_isIn 14 = .ok (.iand, 1) := by decide +kernel
theorem dX10_isIn_15 : decode cX10_isIn 15 = .ok (.ifCond .eq 7, 3) := by decide +kernel
theorem dX10_isIn_18 : decode cX10_isIn 18 = .ok (.iconst 1, 1) := by decide +kernel
theorem dX10_isIn_19 : decode cX10_isIn 19 = .ok (.goto 4, 3) := by decide +kernel
theorem dX10_isIn_22 : decode cX10_isIn 22 = .ok (.iconst 0, 1) := by decide +kernel
theorem dX10_isIn_23 : decode cX10_isIn 23 = .ok (.ireturn, 1) := by decide +kernel
def F_X10_isIn (X Y : Nat → Int → Int) (R : Nat → Int → Option Nat) (a : Int) (b : Int) : Prop := (∀ i j, rI (X i j)) → (∀ i j, rL (Y i j)) → ((b < 0) → (0 = bz (decide (0 ≤ b ∧ b < 15) && decide (¬ zAnd (zShr (a) (b)) 1 = 0)))) ∧ ((¬ (b < 0)) → (((15 ≤ b) → (0 = bz (decide (0 ≤ b ∧ b < 15) && decide (¬ zAnd (zShr (a) (b)) 1 = 0)))) ∧ ((¬ (15 ≤ b)) → ((((zAnd (zShr (a) (b)) (1)) = 0) → (0 = bz (decide (0 ≤ b ∧ b < 15) && decide (¬ zAnd (zShr (a) (b)) 1 = 0)))) ∧ ((¬ ((zAnd (zShr (a) (b)) (1)) = 0)) → (1 = bz (decide (0 ≤ b ∧ b < 15) && decide (¬ zAnd (zShr (a) (b)) 1 = 0))))))))
set_option maxHeartbeats 4000000 in
set_option maxRecDepth 100000 in
theorem w_X10_isIn {l : Launch} {D : va_G} {cy : Nat → ClassId} {bs N : Nat} {sa : Nat → Nat} {kd len : Nat → Nat} {X Y : Nat → Int → Int} {R : Nat → Int → Option Nat}  (a : Int) (ha : rI a) (b : Int) (hb : rI b) (hF : F_X10_isIn  X Y R a b) : Met l yX10_isIn (.code yX10_isIn cX10_isIn 2 (some .boolean) :: zTB) (zRm 0 0) (zPc D cy bs sa N kd len X Y R [.int (zI (a)), .int (zI (b))]) (zQi D cy bs N kd len (fun r st => r = bz (decide (0 ≤ b ∧ b < 15) && decide (¬ zAnd (zShr (a) (b)) 1 = 0)) ∧ st = (X, Y, R))) 0 0 (zA bs) := by
  refine zstart (by decide) (Nat.le_of_ble_eq_true rfl) ?_
  intro p e s m args below meth c ls C hE hH hr hlk hnm hl hargs
  have hF := hF hH.2.2.1 hH.2.2.2
  have hS : va_S (zA bs) s.heap s.heap [] := va_S.rf
  have hl : lv_has ls 2 [(0, .int (zI (a))), (1, .int (zI (b)))] := hl
  refine lv_iload_n C.1 C.2.1 dX10_isIn_0 rfl (lv_at hl 1 rfl) ?_
  refine zd_if_lt C hb 22 dX10_isIn_1 (by decide) (fun c1 => ?_) (fun c1 => ?_)
  · have hF := hF.1 c1
    refine zd_iconst C dX10_isIn_22 ?_
    exact zd_zret C hr hlk hH hS (by decide) (⟨hF, rfl⟩) dX10_isIn_23
  · have hF := hF.2 c1
    refine lv_iload_n C.1 C.2.1 dX10_isIn_4 rfl (lv_at hl 1 rfl) ?_
    refine zd_bipush C (by decide) dX10_isIn_5 ?_
    refine zd_icmp_ge C hb (by decide) 22 dX10_isIn_7 (by decide) (fun c2 => ?_) (fun c2 => ?_)
    · have hF := hF.1 c2
      refine zd_iconst C dX10_isIn_22 ?_
      exact zd_zret C hr hlk hH hS (by decide) (⟨hF, rfl⟩) dX10_isIn_23
    · have hF := hF.2 c2
      refine lv_iload_n C.1 C.2.1 dX10_isIn_10 rfl (lv_at hl 0 rfl) ?_
      refine lv_iload_n C.1 C.2.1 dX10_isIn_11 rfl (lv_at hl 1 rfl) ?_
      refine zd_ishr C dX10_isIn_12 ?_
      refine zd_iconst C dX10_isIn_13 ?_
      refine zd_iand C dX10_isIn_14 ?_
      refine zd_if_eq C (zI_rg _) 22 dX10_isIn_15 (by decide) (fun c3 => ?_) (fun c3 => ?_)
      · have hF := hF.1 c3
        refine zd_iconst C dX10_isIn_22 ?_
        exact zd_zret C hr hlk hH hS (by decide) (⟨hF, rfl⟩) dX10_isIn_23
      · have hF := hF.2 c3
        refine zd_iconst C dX10_isIn_18 ?_
        refine lv_goto (tgt := 23) C.1 C.2.1 dX10_isIn_19 (by decide) ?_
        exact zd_zret C hr hlk hH hS (by decide) (⟨hF, rfl⟩) dX10_isIn_23
theorem v_X10_isIn {X Y : Nat → Int → Int} {R : Nat → Int → Option Nat}  (a : Int) (ha : rI a) (b : Int) (hb : rI b) : F_X10_isIn  X Y R a b := by
  unfold F_X10_isIn
  intro hX hY
  refine ⟨?_, ?_⟩
  · intro c1
    rw [decide_eq_false (p := 0 ≤ b ∧ b < 15) (by omega)]
    rfl
  intro c2
  refine ⟨?_, ?_⟩
  · intro c3
    rw [decide_eq_false (p := 0 ≤ b ∧ b < 15) (by omega)]
    rfl
  intro c4
  refine ⟨?_, ?_⟩
  · intro c5
    rw [decide_eq_true (p := 0 ≤ b ∧ b < 15) (by omega), decide_eq_false (fun g => g c5)]
    rfl
  intro c6
  rw [decide_eq_true (p := 0 ≤ b ∧ b < 15) (by omega), decide_eq_true c6]
  rfl
theorem c_X10_isIn {l : Launch} {D : va_G} {cy : Nat → ClassId} {bs N : Nat} {sa : Nat → Nat} {kd len : Nat → Nat} {X Y : Nat → Int → Int} {R : Nat → Int → Option Nat}  (a : Int) (ha : rI a) (b : Int) (hb : rI b) : Met l yX10_isIn (.code yX10_isIn cX10_isIn 2 (some .boolean) :: zTB) (zRm 0 0) (zPc D cy bs sa N kd len X Y R [.int (zI (a)), .int (zI (b))]) (zQi D cy bs N kd len (fun r st => r = bz (decide (0 ≤ b ∧ b < 15) && decide (¬ zAnd (zShr (a) (b)) 1 = 0)) ∧ st = (X, Y, R))) 0 0 (zA bs) := w_X10_isIn  a ha b hb (v_X10_isIn a ha b hb)
abbrev cX7_numbersOf : ByteArray := prog_9_method_8_code
def yX7_numbersOf : MethodName := ⟨RX7, "numbersOf", "(I)I"⟩
theorem dX7_numbersOf_0 : decode cX7_numbersOf 0 = .ok (.iload_n 0, 1) := by decide +kernel
theorem dX7_numbersOf_1 : decode cX7_numbersOf 1 = .ok (.tableswitch 37 1 4 #[31, 37, 33, 35], 31) := by decide +kernel
theorem dX7_numbersOf_32 : decode cX7_numbersOf 32 = .ok (.iconst 3, 1) := by decide +kernel
theorem dX7_numbersOf_33 : decode cX7_numbersOf 33 = .ok (.ireturn, 1) := by decide +kernel
theorem dX7_numbersOf_34 : decode cX7_numbersOf 34 = .ok (.iconst 2, 1) := by decide +kernel
theorem dX7_numbersOf_35 : decode cX7_numbersOf 35 = .ok (.ireturn, 1) := by decide +kernel
theorem dX7_numbersOf_36 : decode cX7_numbersOf 36 = .ok (.iconst 4, 1) := by decide +kernel
theorem dX7_numbersOf_37 : decode cX7_numbersOf 37 = .ok (.ireturn, 1) := by decide +kernel
theorem dX7_numbersOf_38 : decode cX7_numbersOf 38 = .ok (.iconst 1, 1) := by decide +kernel
theorem dX7_numbersOf_39 : decode cX7_numbersOf 39 = .ok (.ireturn, 1) := by decide +kernel
theorem tsw_1_4 (z : Int) (h0 : ¬ z = 1) (h1 : ¬ z = 2) (h2 : ¬ z = 3) (h3 : ¬ z = 4) : z < 1 ∨ 4 < z := by omega
def F_X7_numbersOf (X Y : Nat → Int → Int) (R : Nat → Int → Option Nat) (a : Int) : Prop := (∀ i j, rI (X i j)) → (∀ i j, rL (Y i j)) → (a = 1 → (3 = ((ncN (a) : Nat) : Int))) ∧ (a = 2 → (1 = ((ncN (a) : Nat) : Int))) ∧ (a = 3 → (2 = ((ncN (a) : Nat) : Int))) ∧ (a = 4 → (4 = ((ncN (a) : Nat) : Int))) ∧ ((a < 1 ∨ 4 < a) → (1 = ((ncN (a) : Nat) : Int)))
set_option maxHeartbeats 4000000 in
set_option maxRecDepth 100000 in
theorem w_X7_numbersOf {l : Launch} {D : va_G} {cy : Nat → ClassId} {bs N : Nat} {sa : Nat → Nat} {kd len : Nat → Nat} {X Y : Nat → Int → Int} {R : Nat → Int → Option Nat}  (a : Int) (ha : rI a) (hF : F_X7_numbersOf  X Y R a) : Met l yX7_numbersOf (.code yX7_numbersOf cX7_numbersOf 1 (some .int) :: zTB) (zRm 0 0) (zPc D cy bs sa N kd len X Y R [.int (zI (a))]) (zQi D cy bs N kd len (fun r st => r = ((ncN (a) : Nat) : Int) ∧ st = (X, Y, R))) 0 0 (zA bs) := by
  refine zstart (by decide) (Nat.le_of_ble_eq_true rfl) ?_
  intro p e s m args below meth c ls C hE hH hr hlk hnm hl hargs
  have hF := hF hH.2.2.1 hH.2.2.2
  have hS : va_S (zA bs) s.heap s.heap [] := va_S.rf
  have hl : lv_has ls 1 [(0, .int (zI (a)))] := hl
  refine lv_iload_n C.1 C.2.1 dX7_numbersOf_0 rfl (lv_at hl 0 rfl) ?_
  by_cases c1_0 : a = 1
  · have hF := hF.1 c1_0
    refine zd_tabI C ha 32 (1) c1_0 dX7_numbersOf_1 (by decide) (by decide) rfl (by decide) ?_
    refine zd_iconst C dX7_numbersOf_32 ?_
    exact zd_iret C hr hlk hH hS (by decide) (⟨hF, rfl⟩) dX7_numbersOf_33
  · have hF := hF.2
    by_cases c1_1 : a = 2
    · have hF := hF.1 c1_1
      refine zd_tabI C ha 38 (2) c1_1 dX7_numbersOf_1 (by decide) (by decide) rfl (by decide) ?_
      refine zd_iconst C dX7_numbersOf_38 ?_
      exact zd_iret C hr hlk hH hS (by decide) (⟨hF, rfl⟩) dX7_numbersOf_39
    · have hF := hF.2
      by_cases c1_2 : a = 3
      · have hF := hF.1 c1_2
        refine zd_tabI C ha 34 (3) c1_2 dX7_numbersOf_1 (by decide) (by decide) rfl (by decide) ?_
        refine zd_iconst C dX7_numbersOf_34 ?_
        exact zd_iret C hr hlk hH hS (by decide) (⟨hF, rfl⟩) dX7_numbersOf_35
      · have hF := hF.2
        by_cases c1_3 : a = 4
        · have hF := hF.1 c1_3
          refine zd_tabI C ha 36 (4) c1_3 dX7_numbersOf_1 (by decide) (by decide) rfl (by decide) ?_
          refine zd_iconst C dX7_numbersOf_36 ?_
          exact zd_iret C hr hlk hH hS (by decide) (⟨hF, rfl⟩) dX7_numbersOf_37
        · have hF := hF.2
          have c1 := tsw_1_4 (a) c1_0 c1_1 c1_2 c1_3
          have hF := hF c1
          refine zd_tabO C ha 38 c1 dX7_numbersOf_1 (by decide) ?_
          refine zd_iconst C dX7_numbersOf_38 ?_
          exact zd_iret C hr hlk hH hS (by decide) (⟨hF, rfl⟩) dX7_numbersOf_39
theorem v_X7_numbersOf {X Y : Nat → Int → Int} {R : Nat → Int → Option Nat}  (a : Int) (ha : rI a) : F_X7_numbersOf  X Y R a := by
  unfold F_X7_numbersOf
  intro hX hY
  refine ⟨?_, ?_⟩
  · intro c1
    rw [c1]
    rfl
  refine ⟨?_, ?_⟩
  · intro c2
    rw [c2]
    rfl
  refine ⟨?_, ?_⟩
  · intro c3
    rw [c3]
    rfl
  refine ⟨?_, ?_⟩
  · intro c4
    rw [c4]
    rfl
  intro c5
  unfold ncN
  rw [if_neg (by omega), if_neg (by omega), if_neg (by omega)]
  rfl
theorem c_X7_numbersOf {l : Launch} {D : va_G} {cy : Nat → ClassId} {bs N : Nat} {sa : Nat → Nat} {kd len : Nat → Nat} {X Y : Nat → Int → Int} {R : Nat → Int → Option Nat}  (a : Int) (ha : rI a) : Met l yX7_numbersOf (.code yX7_numbersOf cX7_numbersOf 1 (some .int) :: zTB) (zRm 0 0) (zPc D cy bs sa N kd len X Y R [.int (zI (a))]) (zQi D cy bs N kd len (fun r st => r = ((ncN (a) : Nat) : Int) ∧ st = (X, Y, R))) 0 0 (zA bs) := w_X7_numbersOf  a ha (v_X7_numbersOf a ha)
abbrev cX7_isFrom : ByteArray := prog_9_method_12_code
def yX7_isFrom : MethodName := ⟨RX7, "isFrom", "(II)Z"⟩
theorem dX7_isFrom_0 : decode cX7_isFrom 0 = .ok (.aload_n 0, 1) := by decide +kernel
theorem dX7_isFrom_1 : decode cX7_isFrom 1 = .ok (.getfield 98, 3) := by decide +kernel
theorem dX7_isFrom_4 : decode cX7_isFrom 4 = .ok (.iload_n 1, 1) := by decide +kernel
theorem dX7_isFrom_5 : decode cX7_isFrom 5 = .ok (.if_icmp .lt 15, 3) := by decide +kernel
theorem dX7_isFrom_8 : decode cX7_isFrom 8 = .ok (.aload_n 0, 1) := by decide +kernel
theorem dX7_isFrom_9 : decode cX7_isFrom 9 = .ok (.getfield 98, 3) := by decide +kernel
theorem dX7_isFrom_12 : decode cX7_isFrom 12 = .ok (.iload_n 2, 1) := by decide +kernel
theorem dX7_isFrom_13 : decode cX7_isFrom 13 = .ok (.if_icmp .gt 7, 3) := by decide +kernel
theorem dX7_isFrom_16 : decode cX7_isFrom 16 = .ok (.iconst 1, 1) := by decide +kernel
theorem dX7_isFrom_17 : decode cX7_isFrom 17 = .ok (.goto 4, 3) := by decide +kernel
theorem dX7_isFrom_20 : decode cX7_isFrom 20 = .ok (.iconst 0, 1) := by decide +kernel
theorem dX7_isFrom_21 : decode cX7_isFrom 21 = .ok (.ireturn, 1) := by decide +kernel
def F_X7_isFrom (i j : Nat) (X Y : Nat → Int → Int) (R : Nat → Int → Option Nat) (a : Int) (b : Int) : Prop := (∀ i j, rI (X i j)) → (∀ i j, rL (Y i j)) → (((X (i) 10) < a) → (0 = bz (mIn (X i 10) (a) (b)))) ∧ ((¬ ((X (i) 10) < a)) → (((b < (X (i) 10)) → (0 = bz (mIn (X i 10) (a) (b)))) ∧ ((¬ (b < (X (i) 10))) → (1 = bz (mIn (X i 10) (a) (b))))))
set_option maxHeartbeats 4000000 in
set_option maxRecDepth 100000 in
theorem w_X7_isFrom {l : Launch} {D : va_G} {cy : Nat → ClassId} {bs N : Nat} {sa : Nat → Nat} {kd len : Nat → Nat} {X Y : Nat → Int → Int} {R : Nat → Int → Option Nat} {i j : Nat} (hC : zRd0 N kd len R i j) (a : Int) (ha : rI a) (b : Int) (hb : rI b) (hF : F_X7_isFrom i j X Y R a b) : Met l yX7_isFrom (.code yX7_isFrom cX7_isFrom 3 (some .boolean) :: zTB) (zRm 0 0) (zPc D cy bs sa N kd len X Y R [.ref (bs + (i)), .int (zI (a)), .int (zI (b))]) (zQi D cy bs N kd len (fun r st => r = bz (mIn (X i 10) (a) (b)) ∧ st = (X, Y, R))) 0 0 (zA bs) := by
  refine zstart (by decide) (Nat.le_of_ble_eq_true rfl) ?_
  intro p e s m args below meth c ls C hE hH hr hlk hnm hl hargs
  have hF := hF hH.2.2.1 hH.2.2.2
  have hS : va_S (zA bs) s.heap s.heap [] := va_S.rf
  have hl : lv_has ls 3 [(0, .ref (bs + (i))), (1, .int (zI (a))), (2, .int (zI (b)))] := hl
  refine lv_aload_n C.1 C.2.1 dX7_isFrom_0 rfl (lv_at hl 0 rfl) ?_
  refine zg7_10 C hH (zRd0_n hC) (zRd0_k hC) q_337 dX7_isFrom_1 ?_
  refine lv_iload_n C.1 C.2.1 dX7_isFrom_4 rfl (lv_at hl 1 rfl) ?_
  refine zd_icmp_lt C (hH.2.2.1 _ _) ha 20 dX7_isFrom_5 (by decide) (fun c1 => ?_) (fun c1 => ?_)
  · have hF := hF.1 c1
    refine zd_iconst C dX7_isFrom_20 ?_
    exact zd_zret C hr hlk hH hS (by decide) (⟨hF, rfl⟩) dX7_isFrom_21
  · have hF := hF.2 c1
    refine lv_aload_n C.1 C.2.1 dX7_isFrom_8 rfl (lv_at hl 0 rfl) ?_
    refine zg7_10 C hH (zRd0_n hC) (zRd0_k hC) q_337 dX7_isFrom_9 ?_
    refine lv_iload_n C.1 C.2.1 dX7_isFrom_12 rfl (lv_at hl 2 rfl) ?_
    refine zd_icmp_gt C (hH.2.2.1 _ _) hb 20 dX7_isFrom_13 (by decide) (fun c2 => ?_) (fun c2 => ?_)
    · have hF := hF.1 c2
      refine zd_iconst C dX7_isFrom_20 ?_
      exact zd_zret C hr hlk hH hS (by decide) (⟨hF, rfl⟩) dX7_isFrom_21
    · have hF := hF.2 c2
      refine zd_iconst C dX7_isFrom_16 ?_
      refine lv_goto (tgt := 21) C.1 C.2.1 dX7_isFrom_17 (by decide) ?_
      exact zd_zret C hr hlk hH hS (by decide) (⟨hF, rfl⟩) dX7_isFrom_21
theorem v_X7_isFrom {X Y : Nat → Int → Int} {R : Nat → Int → Option Nat} {i j : Nat} (a : Int) (ha : rI a) (b : Int) (hb : rI b) : F_X7_isFrom i j X Y R a b := by
  unfold F_X7_isFrom
  intro hX hY
  unfold mIn
  refine ⟨?_, ?_⟩
  · intro c1
    rw [decide_eq_false (by omega)]
    rfl
  intro c2
  refine ⟨?_, ?_⟩
  · intro c3
    rw [decide_eq_false (by omega)]
    rfl
  intro c4
  rw [decide_eq_true (by omega)]
  rfl
theorem c_X7_isFrom {l : Launch} {D : va_G} {cy : Nat → ClassId} {bs N : Nat} {sa : Nat → Nat} {kd len : Nat → Nat} {X Y : Nat → Int → Int} {R : Nat → Int → Option Nat} {i j : Nat} (hC : zRd0 N kd len R i j) (a : Int) (ha : rI a) (b : Int) (hb : rI b) : Met l yX7_isFrom (.code yX7_isFrom cX7_isFrom 3 (some .boolean) :: zTB) (zRm 0 0) (zPc D cy bs sa N kd len X Y R [.ref (bs + (i)), .int (zI (a)), .int (zI (b))]) (zQi D cy bs N kd len (fun r st => r = bz (mIn (X i 10) (a) (b)) ∧ st = (X, Y, R))) 0 0 (zA bs) := w_X7_isFrom hC a ha b hb (v_X7_isFrom a ha b hb)
abbrev cX7_noTextGoesOn : ByteArray := prog_9_method_4_code
def yX7_noTextGoesOn : MethodName := ⟨RX7, "noTextGoesOn", "()Z"⟩
theorem dX7_noTextGoesOn_0 : decode cX7_noTextGoesOn 0 = .ok (.aload_n 0, 1) := by decide +kernel
theorem dX7_noTextGoesOn_1 : decode cX7_noTextGoesOn 1 = .ok (.iconst 1, 1) := by decide +kernel
theorem dX7_noTextGoesOn_2 : decode cX7_noTextGoesOn 2 = .ok (.putfield 55, 3) := by decide +kernel
theorem dX7_noTextGoesOn_5 : decode cX7_noTextGoesOn 5 = .ok (.aload_n 0, 1) := by decide +kernel
theorem dX7_noTextGoesOn_6 : decode cX7_noTextGoesOn 6 = .ok (.aload_n 0, 1) := by decide +kernel
theorem dX7_noTextGoesOn_7 : decode cX7_noTextGoesOn 7 = .ok (.getfield 109, 3) := by decide +kernel
theorem dX7_noTextGoesOn_10 : decode cX7_noTextGoesOn 10 = .ok (.putfield 58, 3) := by decide +kernel
theorem dX7_noTextGoesOn_13 : decode cX7_noTextGoesOn 13 = .ok (.iconst 0, 1) := by decide +kernel
theorem dX7_noTextGoesOn_14 : decode cX7_noTextGoesOn 14 = .ok (.ireturn, 1) := by decide +kernel
theorem q_328 : Cond.fieldLink RX7 55 RX7 "fault" "I" ∈ zTB := zmem 328 (by decide +kernel) rfl
theorem q_330 : Cond.fieldLink RX7 58 RX7 "faultPlace" "I" ∈ zTB := zmem 330 (by decide +kernel) rfl
def F_X7_noTextGoesOn (i j : Nat) (X Y : Nat → Int → Int) (R : Nat → Int → Option Nat)  : Prop := (∀ i j, rI (X i j)) → (∀ i j, rL (Y i j)) → ∀ X1 : Nat → Int → Int, X1 = zU X (i) 3 (1) → (∀ i j, rI (X1 i j)) → (∀ X2 : Nat → Int → Int, X2 = zU X1 (i) 4 (X1 (i) 8) → (∀ i j, rI (X2 i j)) → (false = false ∧ (X2) = zU (zU X i 3 1) i 4 (X i 8)))
set_option maxHeartbeats 4000000 in
set_option maxRecDepth 100000 in
theorem w_X7_noTextGoesOn {l : Launch} {D : va_G} {cy : Nat → ClassId} {bs N : Nat} {sa : Nat → Nat} {kd len : Nat → Nat} {X Y : Nat → Int → Int} {R : Nat → Int → Option Nat} {i j : Nat} (hC : zRd0 N kd len R i j)  (hF : F_X7_noTextGoesOn i j X Y R ) : Met l yX7_noTextGoesOn (.code yX7_noTextGoesOn cX7_noTextGoesOn 1 (some .boolean) :: zTB) (zRm 0 0) (zPc D cy bs sa N kd len X Y R [.ref (bs + (i))]) (zQi D cy bs N kd len (fun r st => st.2.1 = Y ∧ st.2.2 = R ∧ ∃ rb : Bool, r = bz rb ∧ (rb = false ∧ (st.1) = zU (zU X i 3 1) i 4 (X i 8)))) 0 0 (zA bs) := by
  refine zstart (by decide) (Nat.le_of_ble_eq_true rfl) ?_
  intro p e s m args below meth c ls C hE hH hr hlk hnm hl hargs
  have hF := hF hH.2.2.1 hH.2.2.2
  have hS : va_S (zA bs) s.heap s.heap [] := va_S.rf
  have hl : lv_has ls 1 [(0, .ref (bs + (i)))] := hl
  refine lv_aload_n C.1 C.2.1 dX7_noTextGoesOn_0 rfl (lv_at hl 0 rfl) ?_
  refine zd_iconst C dX7_noTextGoesOn_1 ?_
  refine zp7_3 C hH hS (zRd0_n hC) (zRd0_k hC) q_328 (by decide) dX7_noTextGoesOn_2 (fun H locs hH hS => ?_)
  obtain ⟨X1, eX1⟩ : ∃ z, z = zU X (i) 3 (1) := ⟨_, rfl⟩
  rw [← eX1] at hH
  have hF := hF X1 eX1 hH.2.2.1
  refine lv_aload_n C.1 C.2.1 dX7_noTextGoesOn_5 rfl (lv_at hl 0 rfl) ?_
  refine lv_aload_n C.1 C.2.1 dX7_noTextGoesOn_6 rfl (lv_at hl 0 rfl) ?_
  refine zg7_8 C hH (zRd0_n hC) (zRd0_k hC) q_335 dX7_noTextGoesOn_7 ?_
  refine zp7_4 C hH hS (zRd0_n hC) (zRd0_k hC) q_330 (hH.2.2.1 _ _) dX7_noTextGoesOn_10 (fun H locs hH hS => ?_)
  obtain ⟨X2, eX2⟩ : ∃ z, z = zU X1 (i) 4 (X1 (i) 8) := ⟨_, rfl⟩
  rw [← eX2] at hH
  have hF := hF X2 eX2 hH.2.2.1
  refine zd_iconst C dX7_noTextGoesOn_13 ?_
  exact zd_zret C hr hlk hH hS (by decide) (⟨rfl, rfl, _, rfl, hF⟩) dX7_noTextGoesOn_14
theorem v_X7_noTextGoesOn {X Y : Nat → Int → Int} {R : Nat → Int → Option Nat} {i j : Nat}  : F_X7_noTextGoesOn i j X Y R  := by
  unfold F_X7_noTextGoesOn
  intro hX hY
  intro X1
  intro eX1
  intro rX1
  intro X2
  intro eX2
  intro rX2
  exact ⟨rfl, by rw [eX2, eX1, zU_n (by omega)]⟩
theorem c_X7_noTextGoesOn {l : Launch} {D : va_G} {cy : Nat → ClassId} {bs N : Nat} {sa : Nat → Nat} {kd len : Nat → Nat} {X Y : Nat → Int → Int} {R : Nat → Int → Option Nat} {i j : Nat} (hC : zRd0 N kd len R i j)  : Met l yX7_noTextGoesOn (.code yX7_noTextGoesOn cX7_noTextGoesOn 1 (some .boolean) :: zTB) (zRm 0 0) (zPc D cy bs sa N kd len X Y R [.ref (bs + (i))]) (zQi D cy bs N kd len (fun r st => st.2.1 = Y ∧ st.2.2 = R ∧ ∃ rb : Bool, r = bz rb ∧ (rb = false ∧ (st.1) = zU (zU X i 3 1) i 4 (X i 8)))) 0 0 (zA bs) := w_X7_noTextGoesOn hC  (v_X7_noTextGoesOn )
abbrev cX7_note : ByteArray := prog_9_method_5_code
def yX7_note : MethodName := ⟨RX7, "note", "(I)V"⟩
theorem dX7_note_0 : decode cX7_note 0 = .ok (.aload_n 0, 1) := by decide +kernel
theorem dX7_note_1 : decode cX7_note 1 = .ok (.getfield 55, 3) := by decide +kernel
theorem dX7_note_4 : decode cX7_note 4 = .ok (.ifCond .eq 4, 3) := by decide +kernel
theorem dX7_note_7 : decode cX7_note 7 = .ok (.return_, 1) := by decide +kernel
theorem dX7_note_8 : decode cX7_note 8 = .ok (.aload_n 0, 1) := by decide +kernel
theorem dX7_note_9 : decode cX7_note 9 = .ok (.iload_n 1, 1) := by decide +kernel
theorem dX7_note_10 : decode cX7_note 10 = .ok (.putfield 55, 3) := by decide +kernel
theorem dX7_note_13 : decode cX7_note 13 = .ok (.aload_n 0, 1) := by decide +kernel
theorem dX7_note_14 : decode cX7_note 14 = .ok (.aload_n 0, 1) := by decide +kernel
theorem dX7_note_15 : decode cX7_note 15 = .ok (.getfield 109, 3) := by decide +kernel
theorem dX7_note_18 : decode cX7_note 18 = .ok (.putfield 58, 3) := by decide +kernel
theorem dX7_note_21 : decode cX7_note 21 = .ok (.return_, 1) := by decide +kernel
def F_X7_note (i j : Nat) (X Y : Nat → Int → Int) (R : Nat → Int → Option Nat) (a : Int) : Prop := (∀ i j, rI (X i j)) → (∀ i j, rL (Y i j)) → (((X (i) 3) = 0) → (∀ X2 : Nat → Int → Int, X2 = zU X (i) 3 (a) → (∀ i j, rI (X2 i j)) → (∀ X3 : Nat → Int → Int, X3 = zU X2 (i) 4 (X2 (i) 8) → (∀ i j, rI (X3 i j)) → ((X3) = if X i 3 = 0 then zU (zU X i 3 (a)) i 4 (X i 8) else X)))) ∧ ((¬ ((X (i) 3) = 0)) → ((X) = if X i 3 = 0 then zU (zU X i 3 (a)) i 4 (X i 8) else X))
set_option maxHeartbeats 4000000 in
set_option maxRecDepth 100000 in
theorem w_X7_note {l : Launch} {D : va_G} {cy : Nat → ClassId} {bs N : Nat} {sa : Nat → Nat} {kd len : Nat → Nat} {X Y : Nat → Int → Int} {R : Nat → Int → Option Nat} {i j : Nat} (hC : zRd0 N kd len R i j) (a : Int) (ha : rI a) (hF : F_X7_note i j X Y R a) : Met l yX7_note (.code yX7_note cX7_note 2 none :: zTB) (zRm 0 0) (zPc D cy bs sa N kd len X Y R [.ref (bs + (i)), .int (zI (a))]) (zQv D cy bs N kd len (fun st => st.2.1 = Y ∧ st.2.2 = R ∧ ((st.1) = if X i 3 = 0 then zU (zU X i 3 (a)) i 4 (X i 8) else X))) 0 0 (zA bs) := by
  refine zstart (by decide) (Nat.le_of_ble_eq_true rfl) ?_
  intro p e s m args below meth c ls C hE hH hr hlk hnm hl hargs
  have hF := hF hH.2.2.1 hH.2.2.2
  have hS : va_S (zA bs) s.heap s.heap [] := va_S.rf
  have hl : lv_has ls 2 [(0, .ref (bs + (i))), (1, .int (zI (a)))] := hl
  refine lv_aload_n C.1 C.2.1 dX7_note_0 rfl (lv_at hl 0 rfl) ?_
  refine zg7_3 C hH (zRd0_n hC) (zRd0_k hC) q_328 dX7_note_1 ?_
  refine zd_if_eq C (hH.2.2.1 _ _) 8 dX7_note_4 (by decide) (fun c1 => ?_) (fun c1 => ?_)
  · have hF := hF.1 c1
    refine lv_aload_n C.1 C.2.1 dX7_note_8 rfl (lv_at hl 0 rfl) ?_
    refine lv_iload_n C.1 C.2.1 dX7_note_9 rfl (lv_at hl 1 rfl) ?_
    refine zp7_3 C hH hS (zRd0_n hC) (zRd0_k hC) q_328 ha dX7_note_10 (fun H locs hH hS => ?_)
    obtain ⟨X2, eX2⟩ : ∃ z, z = zU X (i) 3 (a) := ⟨_, rfl⟩
    rw [← eX2] at hH
    have hF := hF X2 eX2 hH.2.2.1
    refine lv_aload_n C.1 C.2.1 dX7_note_13 rfl (lv_at hl 0 rfl) ?_
    refine lv_aload_n C.1 C.2.1 dX7_note_14 rfl (lv_at hl 0 rfl) ?_
    refine zg7_8 C hH (zRd0_n hC) (zRd0_k hC) q_335 dX7_note_15 ?_
    refine zp7_4 C hH hS (zRd0_n hC) (zRd0_k hC) q_330 (hH.2.2.1 _ _) dX7_note_18 (fun H locs hH hS => ?_)
    obtain ⟨X3, eX3⟩ : ∃ z, z = zU X2 (i) 4 (X2 (i) 8) := ⟨_, rfl⟩
    rw [← eX3] at hH
    have hF := hF X3 eX3 hH.2.2.1
    exact zd_vret C hr hlk hH hS (⟨rfl, rfl, hF⟩) dX7_note_21
  · have hF := hF.2 c1
    exact zd_vret C hr hlk hH hS (⟨rfl, rfl, hF⟩) dX7_note_7
theorem v_X7_note {X Y : Nat → Int → Int} {R : Nat → Int → Option Nat} {i j : Nat} (a : Int) (ha : rI a) : F_X7_note i j X Y R a := by
  unfold F_X7_note
  intro hX hY
  refine ⟨?_, ?_⟩
  · intro c1
    intro X2
    intro eX2
    intro rX2
    intro X3
    intro eX3
    intro rX3
    rw [if_pos c1, eX3, eX2, zU_n (by omega)]
  intro c2
  rw [if_neg c2]
theorem c_X7_note {l : Launch} {D : va_G} {cy : Nat → ClassId} {bs N : Nat} {sa : Nat → Nat} {kd len : Nat → Nat} {X Y : Nat → Int → Int} {R : Nat → Int → Option Nat} {i j : Nat} (hC : zRd0 N kd len R i j) (a : Int) (ha : rI a) : Met l yX7_note (.code yX7_note cX7_note 2 none :: zTB) (zRm 0 0) (zPc D cy bs sa N kd len X Y R [.ref (bs + (i)), .int (zI (a))]) (zQv D cy bs N kd len (fun st => st.2.1 = Y ∧ st.2.2 = R ∧ ((st.1) = if X i 3 = 0 then zU (zU X i 3 (a)) i 4 (X i 8) else X))) 0 0 (zA bs) := w_X7_note hC a ha (v_X7_note a ha)
