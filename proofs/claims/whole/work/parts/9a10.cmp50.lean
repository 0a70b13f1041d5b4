/-! LINES -/
abbrev zRd1 (N : Nat) (kd len : Nat → Nat) (R : Nat → Int → Option Nat) (i j : Nat) : Prop := zRdr N kd len R i ∧ zRd0 N kd len R i j
/-- what the reader holds is in order -/
def rdV (X : Nat → Int → Int) (i : Nat) : Prop := ((0 ≤ X (i + 1) 6 ∧ X (i + 1) 6 ≤ 6) ∧ nV X (i + 1)) ∧ ((0 ≤ X (i + 3) 0 ∧ X (i + 3) 0 ≤ 14) ∧ bV X (i + 3) ∧ ∀ k : Int, 0 ≤ k → k < 15 → 0 ≤ X (i + 7) k ∧ X (i + 7) k ≤ 3) ∧ rowV X (i + 12) 2 40 80 ∧ rowV X (i + 14) 2 8 16 ∧ rowV X (i + 16) 4 6 24
def tmB (X : Nat → Int → Int) (i : Nat) (a b : Int) : Bool := if a = 0 then decide (b = 6 ∧ X (i + 1) 6 = 6) else if a = 1 then (if b = 0 then decide (X (i + 3) 0 + 1 = 15) else !(decide (0 < X (i + 3) 0 ∧ X (i + 3) 0 < 15 ∧ X (i + 7) (X (i + 3) 0) < 3))) else decide (X (i + 12 + 2 * (a - 2).toNat) 2 = X (i + 12 + 2 * (a - 2).toNat) 1)
def cbK (X : Nat → Int → Int) (i : Nat) (g : Int) : Bool := if g = 0 then decide (X i 10 ≤ X (i + 3) 0) else decide (g = 1 ∨ X i 10 < 6)
def cbP (X : Nat → Int → Int) (i : Nat) (g : Int) : Bool := if g = 0 then decide (X i 10 < 6) else if g = 1 then decide (X i 10 < 6 ∧ X i 10 ≠ X (i + 11) 0) else if g = 2 then decide (0 < X i 10) else decide (X i 10 < 10)
def cbB (X : Nat → Int → Int) (i : Nat) (a b g : Int) : Bool := if a = 0 then (if 0 ≤ b ∧ b < 7 then mIn (X i 10) (nlF b.toNat) (nmF b.toNat) else false) else if a = 1 then (if b = 0 then cbK X i g else cbP X i g) else if a = 2 then (if b = 3 then mIn (X i 10) 0 1 else mIn (X i 10) 1 14) else if a = 3 then (if g = 0 then mIn (X i 10) 0 40 else mIn (X i 10) 0 14) else cbP X i g
abbrev cX7_isTooMany : ByteArray := prog_9_method_7_code
def yX7_isTooMany : MethodName := ⟨RX7, "isTooMany", "(II)Z"⟩
theorem dX7_isTooMany_0 : decode cX7_isTooMany 0 = .ok (.iload_n 1, 1) := by decide +kernel
theorem dX7_isTooMany_1 : decode cX7_isTooMany 1 = .ok (.ifCond .ne 27, 3) := by decide +kernel
theorem dX7_isTooMany_4 : decode cX7_isTooMany 4 = .ok (.iload_n 2, 1) := by decide +kernel
theorem dX7_isTooMany_5 : decode cX7_isTooMany 5 = .ok (.bipush 6, 2) := by decide +kernel
theorem dX7_isTooMany_7 : decode cX7_isTooMany 7 = .ok (.if_icmp .ne 19, 3) := by decide +kernel
theorem dX7_isTooMany_10 : decode cX7_isTooMany 10 = .ok (.aload_n 0, 1) := by decide +kernel
theorem dX7_isTooMany_11 : decode cX7_isTooMany 11 = .ok (.getfield 12, 3) := by decide +kernel
theorem dX7_isTooMany_14 : decode cX7_isTooMany 14 = .ok (.getfield 126, 3) := by decide +kernel
theorem dX7_isTooMany_17 : decode cX7_isTooMany 17 = .ok (.bipush 6, 2) := by decide +kernel
theorem dX7_isTooMany_19 : decode cX7_isTooMany 19 = .ok (.if_icmp .ne 7, 3) := by decide +kernel
theorem dX7_isTooMany_22 : decode cX7_isTooMany 22 = .ok (.iconst 1, 1) := by decide +kernel
theorem dX7_isTooMany_23 : decode cX7_isTooMany 23 = .ok (.goto 4, 3) := by decide +kernel
theorem dX7_isTooMany_26 : decode cX7_isTooMany 26 = .ok (.iconst 0, 1) := by decide +kernel
theorem dX7_isTooMany_27 : decode cX7_isTooMany 27 = .ok (.ireturn, 1) := by decide +kernel
theorem dX7_isTooMany_28 : decode cX7_isTooMany 28 = .ok (.iload_n 1, 1) := by decide +kernel
theorem dX7_isTooMany_29 : decode cX7_isTooMany 29 = .ok (.iconst 1, 1) := by decide +kernel
theorem dX7_isTooMany_30 : decode cX7_isTooMany 30 = .ok (.if_icmp .ne 45, 3) := by decide +kernel
theorem dX7_isTooMany_33 : decode cX7_isTooMany 33 = .ok (.iload_n 2, 1) := by decide +kernel
theorem dX7_isTooMany_34 : decode cX7_isTooMany 34 = .ok (.ifCond .ne 25, 3) := by decide +kernel
theorem dX7_isTooMany_37 : decode cX7_isTooMany 37 = .ok (.aload_n 0, 1) := by decide +kernel
theorem dX7_isTooMany_38 : decode cX7_isTooMany 38 = .ok (.getfield 21, 3) := by decide +kernel
theorem dX7_isTooMany_41 : decode cX7_isTooMany 41 = .ok (.getfield 64, 3) := by decide +kernel
theorem dX7_isTooMany_44 : decode cX7_isTooMany 44 = .ok (.iconst 1, 1) := by decide +kernel
theorem dX7_isTooMany_45 : decode cX7_isTooMany 45 = .ok (.iadd, 1) := by decide +kernel
theorem dX7_isTooMany_46 : decode cX7_isTooMany 46 = .ok (.bipush 15, 2) := by decide +kernel
theorem dX7_isTooMany_48 : decode cX7_isTooMany 48 = .ok (.if_icmp .ne 7, 3) := by decide +kernel
theorem dX7_isTooMany_51 : decode cX7_isTooMany 51 = .ok (.iconst 1, 1) := by decide +kernel
theorem dX7_isTooMany_52 : decode cX7_isTooMany 52 = .ok (.goto 22, 3) := by decide +kernel
theorem dX7_isTooMany_55 : decode cX7_isTooMany 55 = .ok (.iconst 0, 1) := by decide +kernel
theorem dX7_isTooMany_56 : decode cX7_isTooMany 56 = .ok (.goto 18, 3) := by decide +kernel
theorem dX7_isTooMany_59 : decode cX7_isTooMany 59 = .ok (.aload_n 0, 1) := by decide +kernel
theorem dX7_isTooMany_60 : decode cX7_isTooMany 60 = .ok (.getfield 21, 3) := by decide +kernel
theorem dX7_isTooMany_63 : decode cX7_isTooMany 63 = .ok (.invokevirtual 129, 3) := by decide +kernel
theorem dX7_isTooMany_66 : decode cX7_isTooMany 66 = .ok (.ifCond .ne 7, 3) := by decide +kernel
theorem dX7_isTooMany_69 : decode cX7_isTooMany 69 = .ok (.iconst 1, 1) := by decide +kernel
theorem dX7_isTooMany_70 : decode cX7_isTooMany 70 = .ok (.goto 4, 3) := by decide +kernel
theorem dX7_isTooMany_73 : decode cX7_isTooMany 73 = .ok (.iconst 0, 1) := by decide +kernel
theorem dX7_isTooMany_74 : decode cX7_isTooMany 74 = .ok (.ireturn, 1) := by decide +kernel
theorem dX7_isTooMany_75 : decode cX7_isTooMany 75 = .ok (.iload_n 1, 1) := by decide +kernel
theorem dX7_isTooMany_76 : decode cX7_isTooMany 76 = .ok (.iconst 2, 1) := by decide +kernel
theorem dX7_isTooMany_77 : decode cX7_isTooMany 77 = .ok (.isub, 1) := by decide +kernel
theorem dX7_isTooMany_78 : decode cX7_isTooMany 78 = .ok (.istore_n 3, 1) := by decide +kernel
theorem dX7_isTooMany_79 : decode cX7_isTooMany 79 = .ok (.iload_n 3, 1) := by decide +kernel
theorem dX7_isTooMany_80 : decode cX7_isTooMany 80 = .ok (.ifCond .lt 33, 3) := by decide +kernel
theorem dX7_isTooMany_83 : decode cX7_isTooMany 83 = .ok (.iload_n 3, 1) := by decide +kernel
theorem dX7_isTooMany_84 : decode cX7_isTooMany 84 = .ok (.aload_n 0, 1) := by decide +kernel
theorem dX7_isTooMany_85 : decode cX7_isTooMany 85 = .ok (.getfield 27, 3) := by decide +kernel
theorem dX7_isTooMany_88 : decode cX7_isTooMany 88 = .ok (.arraylength, 1) := by decide +kernel
theorem dX7_isTooMany_89 : decode cX7_isTooMany 89 = .ok (.if_icmp .ge 24, 3) := by decide +kernel
theorem dX7_isTooMany_92 : decode cX7_isTooMany 92 = .ok (.aload_n 0, 1) := by decide +kernel
theorem dX7_isTooMany_93 : decode cX7_isTooMany 93 = .ok (.getfield 27, 3) := by decide +kernel
theorem dX7_isTooMany_96 : decode cX7_isTooMany 96 = .ok (.iload_n 3, 1) := by decide +kernel
theorem dX7_isTooMany_97 : decode cX7_isTooMany 97 = .ok (.aaload, 1) := by decide +kernel
theorem dX7_isTooMany_98 : decode cX7_isTooMany 98 = .ok (.getfield 67, 3) := by decide +kernel
theorem dX7_isTooMany_101 : decode cX7_isTooMany 101 = .ok (.aload_n 0, 1) := by decide +kernel
theorem dX7_isTooMany_102 : decode cX7_isTooMany 102 = .ok (.getfield 27, 3) := by decide +kernel
theorem dX7_isTooMany_105 : decode cX7_isTooMany 105 = .ok (.iload_n 3, 1) := by decide +kernel
theorem dX7_isTooMany_106 : decode cX7_isTooMany 106 = .ok (.aaload, 1) := by decide +kernel
theorem dX7_isTooMany_107 : decode cX7_isTooMany 107 = .ok (.getfield 132, 3) := by decide +kernel
theorem dX7_isTooMany_110 : decode cX7_isTooMany 110 = .ok (.if_icmp .ne 7, 3) := by decide +kernel
theorem dX7_isTooMany_113 : decode cX7_isTooMany 113 = .ok (.iconst 1, 1) := by decide +kernel
theorem dX7_isTooMany_114 : decode cX7_isTooMany 114 = .ok (.goto 4, 3) := by decide +kernel
theorem dX7_isTooMany_117 : decode cX7_isTooMany 117 = .ok (.iconst 0, 1) := by decide +kernel
theorem dX7_isTooMany_118 : decode cX7_isTooMany 118 = .ok (.ireturn, 1) := by decide +kernel
theorem q_326 : Cond.fieldLink RX7 27 RX7 "rows" "[LWorkChains$Rows;" ∈ zTB := zmem 326 (by decide +kernel) rfl
theorem q_264 : Cond.fieldLink RX7 67 RX8 "size" "I" ∈ zTB := zmem 264 (by decide +kernel) rfl
theorem q_262 : Cond.fieldLink RX7 132 RX8 "most" "I" ∈ zTB := zmem 262 (by decide +kernel) rfl
theorem q_324 : Cond.fieldLink RX7 21 RX7 "blocks" "LWorkChains$Blocks;" ∈ zTB := zmem 324 (by decide +kernel) rfl
theorem q_727 : Cond.methodLink RX7 129 yX0_takesPay ∈ zTB := zmem 727 (by decide +kernel) rfl
theorem k_RX7_129 : zLv RX7 129 RX0 yX0_takesPay cX0_takesPay 1 (some .boolean) 0 := ⟨⟨q_727, q_728, q_729, q_132, q_730⟩, rfl, ⟨by decide, by decide⟩, by decide +kernel⟩
theorem q_226 : Cond.fieldLink RX7 64 RX0 "last" "I" ∈ zTB := zmem 226 (by decide +kernel) rfl
theorem q_322 : Cond.fieldLink RX7 12 RX7 "net" "LWorkChains$Net;" ∈ zTB := zmem 322 (by decide +kernel) rfl
theorem q_195 : Cond.fieldLink RX7 126 RX6 "accounts" "I" ∈ zTB := zmem 195 (by decide +kernel) rfl
def F_X7_isTooMany (i j : Nat) (X Y : Nat → Int → Int) (R : Nat → Int → Option Nat) (a : Int) (b : Int) : Prop := (∀ i j, rI (X i j)) → (∀ i j, rL (Y i j)) → ((¬ a = 0) → (((¬ a = 1) → ((rI (a - 2)) ∧ ((((a - 2) < 0) → (1 = bz (tmB X i (a) (b)))) ∧ ((¬ ((a - 2) < 0)) → (((((3 : Nat) : Int) ≤ (a - 2)) → (1 = bz (tmB X i (a) (b)))) ∧ ((¬ (((3 : Nat) : Int) ≤ (a - 2))) → ((0 ≤ (a - 2) ∧ (a - 2) < 3) ∧ ((0 ≤ (a - 2) ∧ (a - 2) < 3) ∧ (((¬ (X (i + 12 + 2 * (a - 2 : Int).toNat) 2) = (X (i + 12 + 2 * (a - 2 : Int).toNat) 1)) → (0 = bz (tmB X i (a) (b)))) ∧ ((¬ (¬ (X (i + 12 + 2 * (a - 2 : Int).toNat) 2) = (X (i + 12 + 2 * (a - 2 : Int).toNat) 1))) → (1 = bz (tmB X i (a) (b))))))))))))) ∧ ((¬ (¬ a = 1)) → (((¬ b = 0) → ((0 ≤ X (i + 3) 0) ∧ ((((decide (0 < X (i + 3) 0 ∧ X (i + 3) 0 < 15 ∧ X (i + 7) (X (i + 3) 0) < 3)) = true) → (0 = bz (tmB X i (a) (b)))) ∧ (((decide (0 < X (i + 3) 0 ∧ X (i + 3) 0 < 15 ∧ X (i + 7) (X (i + 3) 0) < 3)) = false) → (1 = bz (tmB X i (a) (b))))))) ∧ ((¬ (¬ b = 0)) → ((rI ((X (i + 3) 0) + 1)) ∧ (((¬ ((X (i + 3) 0) + 1) = 15) → (0 = bz (tmB X i (a) (b)))) ∧ ((¬ (¬ ((X (i + 3) 0) + 1) = 15)) → (1 = bz (tmB X i (a) (b))))))))))) ∧ ((¬ (¬ a = 0)) → (((¬ b = 6) → (0 = bz (tmB X i (a) (b)))) ∧ ((¬ (¬ b = 6)) → (((¬ (X (i + 1) 6) = 6) → (0 = bz (tmB X i (a) (b)))) ∧ ((¬ (¬ (X (i + 1) 6) = 6)) → (1 = bz (tmB X i (a) (b))))))))
set_option maxHeartbeats 4000000 in
set_option maxRecDepth 100000 in
theorem w_X7_isTooMany {l : Launch} {D : va_G} {cy : Nat → ClassId} {bs N : Nat} {sa : Nat → Nat} {kd len : Nat → Nat} {X Y : Nat → Int → Int} {R : Nat → Int → Option Nat} {i j : Nat} (hC : zRd1 N kd len R i j) (a : Int) (ha : rI a) (b : Int) (hb : rI b) (hF : F_X7_isTooMany i j X Y R a b) : Met l yX7_isTooMany (.code yX7_isTooMany cX7_isTooMany 4 (some .boolean) :: zTB) (zRm 1 20) (zPc D cy bs sa N kd len X Y R [.ref (bs + (i)), .int (zI (a)), .int (zI (b))]) (zQi D cy bs N kd len (fun r st => r = bz (tmB X i (a) (b)) ∧ st = (X, Y, R))) 0 0 (zA bs) := by
  refine zstart (by decide) (Nat.le_of_ble_eq_true rfl) ?_
  intro p e s m args below meth c ls C hE hH hr hlk hnm hl hargs
  have hF := hF hH.2.2.1 hH.2.2.2
  have hS : va_S (zA bs) s.heap s.heap [] := va_S.rf
  have hl : lv_has ls 4 [(0, .ref (bs + (i))), (1, .int (zI (a))), (2, .int (zI (b)))] := hl
  refine lv_iload_n C.1 C.2.1 dX7_isTooMany_0 rfl (lv_at hl 1 rfl) ?_
  refine zd_if_ne C ha 28 dX7_isTooMany_1 (by decide) (fun c1 => ?_) (fun c1 => ?_)
  · have hF := hF.1 c1
    refine lv_iload_n C.1 C.2.1 dX7_isTooMany_28 rfl (lv_at hl 1 rfl) ?_
    refine zd_iconst C dX7_isTooMany_29 ?_
    refine zd_icmp_ne C ha (by decide) 75 dX7_isTooMany_30 (by decide) (fun c2 => ?_) (fun c2 => ?_)
    · have hF := hF.1 c2
      refine lv_iload_n C.1 C.2.1 dX7_isTooMany_75 rfl (lv_at hl 1 rfl) ?_
      refine zd_iconst C dX7_isTooMany_76 ?_
      refine zd_isub C dX7_isTooMany_77 ?_
      refine lv_istore_n (lv' := [(3, .int (zI (a - 2))), (0, .ref (bs + (i))), (1, .int (zI (a))), (2, .int (zI (b)))]) C.1 C.2.1 dX7_isTooMany_78 rfl hl (by decide) rfl (fun ls hl => ?_)
      refine lv_iload_n C.1 C.2.1 dX7_isTooMany_79 rfl (lv_at hl 0 rfl) ?_
      obtain ⟨o4, hF⟩ := hF
      refine zd_if_lt C o4 113 dX7_isTooMany_80 (by decide) (fun c3 => ?_) (fun c3 => ?_)
      · have hF := hF.1 c3
        refine zd_iconst C dX7_isTooMany_113 ?_
        refine lv_goto (tgt := 118) C.1 C.2.1 dX7_isTooMany_114 (by decide) ?_
        exact zd_zret C hr hlk hH hS (by decide) (⟨hF, rfl⟩) dX7_isTooMany_118
      · have hF := hF.2 c3
        refine lv_iload_n C.1 C.2.1 dX7_isTooMany_83 rfl (lv_at hl 0 rfl) ?_
        refine lv_aload_n C.1 C.2.1 dX7_isTooMany_84 rfl (lv_at hl 1 rfl) ?_
        refine zg7_2 C hH (zRr_n0 hC.1) (zRr_k0 hC.1) q_326 (zRr_9 hC.1).2.2 dX7_isTooMany_85 ?_
        refine zd_alen C hH (zRr_n9 hC.1) (t0 := 7) (by rw [(zRr_9 hC.1).1]; rfl) rfl rfl dX7_isTooMany_88 ?_
        rw [zRr_l9 hC.1]
        refine zd_icmp_ge C o4 (by decide) 113 dX7_isTooMany_89 (by decide) (fun c5 => ?_) (fun c5 => ?_)
        · have hF := hF.1 c5
          refine zd_iconst C dX7_isTooMany_113 ?_
          refine lv_goto (tgt := 118) C.1 C.2.1 dX7_isTooMany_114 (by decide) ?_
          exact zd_zret C hr hlk hH hS (by decide) (⟨hF, rfl⟩) dX7_isTooMany_118
        · have hF := hF.2 c5
          refine lv_aload_n C.1 C.2.1 dX7_isTooMany_92 rfl (lv_at hl 1 rfl) ?_
          refine zg7_2 C hH (zRr_n0 hC.1) (zRr_k0 hC.1) q_326 (zRr_9 hC.1).2.2 dX7_isTooMany_93 ?_
          refine lv_iload_n C.1 C.2.1 dX7_isTooMany_96 rfl (lv_at hl 0 rfl) ?_
          obtain ⟨o6, hF⟩ := hF
          refine zd_aaldr C hH (zRr_n9 hC.1) 7 rfl rfl (by rw [(zRr_9 hC.1).1]; rfl) o6.1 (by rw [zRr_l9 hC.1]; exact o6.2) (by rw [zRr_l9 hC.1]; decide) (zRr_z hC.1 o6.1 o6.2).1.1 dX7_isTooMany_97 ?_
          refine zg8_2 C hH (zRows_n0 (zRr_z hC.1 o6.1 o6.2).1.2) (zRows_k0 (zRr_z hC.1 o6.1 o6.2).1.2) q_264 dX7_isTooMany_98 ?_
          refine lv_aload_n C.1 C.2.1 dX7_isTooMany_101 rfl (lv_at hl 1 rfl) ?_
          refine zg7_2 C hH (zRr_n0 hC.1) (zRr_k0 hC.1) q_326 (zRr_9 hC.1).2.2 dX7_isTooMany_102 ?_
          refine lv_iload_n C.1 C.2.1 dX7_isTooMany_105 rfl (lv_at hl 0 rfl) ?_
          obtain ⟨o7, hF⟩ := hF
          refine zd_aaldr C hH (zRr_n9 hC.1) 7 rfl rfl (by rw [(zRr_9 hC.1).1]; rfl) o7.1 (by rw [zRr_l9 hC.1]; exact o7.2) (by rw [zRr_l9 hC.1]; decide) (zRr_z hC.1 o7.1 o7.2).1.1 dX7_isTooMany_106 ?_
          refine zg8_1 C hH (zRows_n0 (zRr_z hC.1 o7.1 o7.2).1.2) (zRows_k0 (zRr_z hC.1 o7.1 o7.2).1.2) q_262 dX7_isTooMany_107 ?_
          refine zd_icmp_ne C (hH.2.2.1 _ _) (hH.2.2.1 _ _) 117 dX7_isTooMany_110 (by decide) (fun c8 => ?_) (fun c8 => ?_)
          · have hF := hF.1 c8
            refine zd_iconst C dX7_isTooMany_117 ?_
            exact zd_zret C hr hlk hH hS (by decide) (⟨hF, rfl⟩) dX7_isTooMany_118
          · have hF := hF.2 c8
            refine zd_iconst C dX7_isTooMany_113 ?_
            refine lv_goto (tgt := 118) C.1 C.2.1 dX7_isTooMany_114 (by decide) ?_
            exact zd_zret C hr hlk hH hS (by decide) (⟨hF, rfl⟩) dX7_isTooMany_118
    · have hF := hF.2 c2
      refine lv_iload_n C.1 C.2.1 dX7_isTooMany_33 rfl (lv_at hl 2 rfl) ?_
      refine zd_if_ne C hb 59 dX7_isTooMany_34 (by decide) (fun c9 => ?_) (fun c9 => ?_)
      · have hF := hF.1 c9
        refine lv_aload_n C.1 C.2.1 dX7_isTooMany_59 rfl (lv_at hl 0 rfl) ?_
        refine zg7_1 C hH (zRr_n0 hC.1) (zRr_k0 hC.1) q_324 (zRr_bl hC.1).1 dX7_isTooMany_60 ?_
        obtain ⟨o10, hF⟩ := hF
        refine zgoi (zrunV (As := []) (rest := []) C hE hH hS hl.1 (c_X0_takesPay (l := l) (zRr_bl hC.1).2  o10) k_RX7_129 ⟨Nat.le_of_ble_eq_true rfl, Nat.le_of_ble_eq_true rfl⟩ (zBlocks_n0 (zRr_bl hC.1).2) (zBlocks_k0 (zRr_bl hC.1).2) rfl rfl rfl (Nat.le_of_ble_eq_true rfl) dX7_isTooMany_63 ⟨Nat.zero_le _, Nat.zero_le _⟩) hS (fun rq Xq Yq Rq H locs hrq hq hH hS => ?_)
        obtain ⟨h91, h92⟩ := hq
        have h93 : Xq = X := congrArg (fun z => z.1) h92
        have h94 : Yq = Y := congrArg (fun z => z.2.1) h92
        have h95 : Rq = R := congrArg (fun z => z.2.2) h92
        rw [h93, h94, h95] at hH
        subst h91
        refine zd_ifB_ne C 73 dX7_isTooMany_66 (by decide) (fun c11 => ?_) (fun c11 => ?_)
        · have hF := hF.1 c11
          refine zd_iconst C dX7_isTooMany_73 ?_
          exact zd_zret C hr hlk hH hS (by decide) (⟨hF, rfl⟩) dX7_isTooMany_74
        · have hF := hF.2 c11
          refine zd_iconst C dX7_isTooMany_69 ?_
          refine lv_goto (tgt := 74) C.1 C.2.1 dX7_isTooMany_70 (by decide) ?_
          exact zd_zret C hr hlk hH hS (by decide) (⟨hF, rfl⟩) dX7_isTooMany_74
      · have hF := hF.2 c9
        refine lv_aload_n C.1 C.2.1 dX7_isTooMany_37 rfl (lv_at hl 0 rfl) ?_
        refine zg7_1 C hH (zRr_n0 hC.1) (zRr_k0 hC.1) q_324 (zRr_bl hC.1).1 dX7_isTooMany_38 ?_
        refine zg0_0 C hH (zBlocks_n0 (zRr_bl hC.1).2) (zBlocks_k0 (zRr_bl hC.1).2) q_226 dX7_isTooMany_41 ?_
        refine zd_iconst C dX7_isTooMany_44 ?_
        refine zd_iadd C dX7_isTooMany_45 ?_
        refine zd_bipush C (by decide) dX7_isTooMany_46 ?_
        obtain ⟨o13, hF⟩ := hF
        refine zd_icmp_ne C o13 (by decide) 55 dX7_isTooMany_48 (by decide) (fun c12 => ?_) (fun c12 => ?_)
        · have hF := hF.1 c12
          refine zd_iconst C dX7_isTooMany_55 ?_
          refine lv_goto (tgt := 74) C.1 C.2.1 dX7_isTooMany_56 (by decide) ?_
          exact zd_zret C hr hlk hH hS (by decide) (⟨hF, rfl⟩) dX7_isTooMany_74
        · have hF := hF.2 c12
          refine zd_iconst C dX7_isTooMany_51 ?_
          refine lv_goto (tgt := 74) C.1 C.2.1 dX7_isTooMany_52 (by decide) ?_
          exact zd_zret C hr hlk hH hS (by decide) (⟨hF, rfl⟩) dX7_isTooMany_74
  · have hF := hF.2 c1
    refine lv_iload_n C.1 C.2.1 dX7_isTooMany_4 rfl (lv_at hl 2 rfl) ?_
    refine zd_bipush C (by decide) dX7_isTooMany_5 ?_
    refine zd_icmp_ne C hb (by decide) 26 dX7_isTooMany_7 (by decide) (fun c14 => ?_) (fun c14 => ?_)
    · have hF := hF.1 c14
      refine zd_iconst C dX7_isTooMany_26 ?_
      exact zd_zret C hr hlk hH hS (by decide) (⟨hF, rfl⟩) dX7_isTooMany_27
    · have hF := hF.2 c14
      refine lv_aload_n C.1 C.2.1 dX7_isTooMany_10 rfl (lv_at hl 0 rfl) ?_
      refine zg7_0 C hH (zRr_n0 hC.1) (zRr_k0 hC.1) q_322 (zRr_nt hC.1).1 dX7_isTooMany_11 ?_
      refine zg6_6 C hH (zNet_n0 (zRr_nt hC.1).2) (zNet_k0 (zRr_nt hC.1).2) q_195 dX7_isTooMany_14 ?_
      refine zd_bipush C (by decide) dX7_isTooMany_17 ?_
      refine zd_icmp_ne C (hH.2.2.1 _ _) (by decide) 26 dX7_isTooMany_19 (by decide) (fun c15 => ?_) (fun c15 => ?_)
      · have hF := hF.1 c15
        refine zd_iconst C dX7_isTooMany_26 ?_
        exact zd_zret C hr hlk hH hS (by decide) (⟨hF, rfl⟩) dX7_isTooMany_27
      · have hF := hF.2 c15
        refine zd_iconst C dX7_isTooMany_22 ?_
        refine lv_goto (tgt := 27) C.1 C.2.1 dX7_isTooMany_23 (by decide) ?_
        exact zd_zret C hr hlk hH hS (by decide) (⟨hF, rfl⟩) dX7_isTooMany_27
theorem v_X7_isTooMany {X Y : Nat → Int → Int} {R : Nat → Int → Option Nat} {i j : Nat} (a : Int) (ha : rI a) (b : Int) (hb : rI b) (hp : (0 ≤ a ∧ a ≤ 4) ∧ rdV X i) : F_X7_isTooMany i j X Y R a b := by
  unfold F_X7_isTooMany
  intro hX hY
  obtain ⟨ha, hv⟩ := hp
  have h30 := hv.2.1.1
  refine ⟨?_, ?_⟩
  · intro c1
    refine ⟨?_, ?_⟩
    · intro c2
      refine ⟨?_, ?_⟩
      · first | omega | exact ⟨by omega, by omega⟩ | decide | assumption | exact ⟨by omega, by omega, by omega⟩ | exact ⟨by decide, by decide⟩
      refine ⟨?_, ?_⟩
      · intro c3
        exfalso
        omega
      intro c4
      refine ⟨?_, ?_⟩
      · intro c5
        exfalso
        omega
      intro c6
      refine ⟨?_, ?_⟩
      · first | omega | exact ⟨by omega, by omega⟩ | decide | assumption | exact ⟨by omega, by omega, by omega⟩ | exact ⟨by decide, by decide⟩
      refine ⟨?_, ?_⟩
      · first | omega | exact ⟨by omega, by omega⟩ | decide | assumption | exact ⟨by omega, by omega, by omega⟩ | exact ⟨by decide, by decide⟩
      refine ⟨?_, ?_⟩
      · intro c7
        unfold tmB
        repeat' split
        all_goals first | (exfalso; omega) | rfl | (rw [decide_eq_true (by omega)]; rfl) | (rw [decide_eq_false (by omega)]; rfl)
      intro c8
      unfold tmB
      repeat' split
      all_goals first | (exfalso; omega) | rfl | (rw [decide_eq_true (by omega)]; rfl) | (rw [decide_eq_false (by omega)]; rfl)
    intro c9
    refine ⟨?_, ?_⟩
    · intro c10
      refine ⟨?_, ?_⟩
      · first | omega | exact ⟨by omega, by omega⟩ | decide | assumption | exact ⟨by omega, by omega, by omega⟩ | exact ⟨by decide, by decide⟩
      refine ⟨?_, ?_⟩
      · intro c11
        unfold tmB
        rw [if_neg (by omega), if_pos (by omega), if_neg (by omega), c11]
        rfl
      intro c12
      unfold tmB
      rw [if_neg (by omega), if_pos (by omega), if_neg (by omega), c12]
      rfl
    intro c13
    refine ⟨?_, ?_⟩
    · first | omega | exact ⟨by omega, by omega⟩ | decide | assumption | exact ⟨by omega, by omega, by omega⟩ | exact ⟨by decide, by decide⟩
    refine ⟨?_, ?_⟩
    · intro c14
      unfold tmB
      repeat' split
      all_goals first | (exfalso; omega) | rfl | (rw [decide_eq_true (by omega)]; rfl) | (rw [decide_eq_false (by omega)]; rfl)
    intro c15
    unfold tmB
    repeat' split
    all_goals first | (exfalso; omega) | rfl | (rw [decide_eq_true (by omega)]; rfl) | (rw [decide_eq_false (by omega)]; rfl)
  intro c16
  refine ⟨?_, ?_⟩
  · intro c17
    unfold tmB
    repeat' split
    all_goals first | (exfalso; omega) | rfl | (rw [decide_eq_true (by omega)]; rfl) | (rw [decide_eq_false (by omega)]; rfl)
  intro c18
  refine ⟨?_, ?_⟩
  · intro c19
    unfold tmB
    repeat' split
    all_goals first | (exfalso; omega) | rfl | (rw [decide_eq_true (by omega)]; rfl) | (rw [decide_eq_false (by omega)]; rfl)
  intro c20
  unfold tmB
  repeat' split
  all_goals first | (exfalso; omega) | rfl | (rw [decide_eq_true (by omega)]; rfl) | (rw [decide_eq_false (by omega)]; rfl)
theorem c_X7_isTooMany {l : Launch} {D : va_G} {cy : Nat → ClassId} {bs N : Nat} {sa : Nat → Nat} {kd len : Nat → Nat} {X Y : Nat → Int → Int} {R : Nat → Int → Option Nat} {i j : Nat} (hC : zRd1 N kd len R i j) (a : Int) (ha : rI a) (b : Int) (hb : rI b) (hp : (0 ≤ a ∧ a ≤ 4) ∧ rdV X i) : Met l yX7_isTooMany (.code yX7_isTooMany cX7_isTooMany 4 (some .boolean) :: zTB) (zRm 1 20) (zPc D cy bs sa N kd len X Y R [.ref (bs + (i)), .int (zI (a)), .int (zI (b))]) (zQi D cy bs N kd len (fun r st => r = bz (tmB X i (a) (b)) ∧ st = (X, Y, R))) 0 0 (zA bs) := w_X7_isTooMany hC a ha b hb (v_X7_isTooMany a ha b hb hp)
abbrev cX7_canBeOfBlock : ByteArray := prog_9_method_10_code
def yX7_canBeOfBlock : MethodName := ⟨RX7, "canBeOfBlock", "(I)Z"⟩
theorem dX7_canBeOfBlock_0 : decode cX7_canBeOfBlock 0 = .ok (.iload_n 1, 1) := by decide +kernel
theorem dX7_canBeOfBlock_1 : decode cX7_canBeOfBlock 1 = .ok (.ifCond .ne 23, 3) := by decide +kernel
theorem dX7_canBeOfBlock_4 : decode cX7_canBeOfBlock 4 = .ok (.aload_n 0, 1) := by decide +kernel
theorem dX7_canBeOfBlock_5 : decode cX7_canBeOfBlock 5 = .ok (.getfield 98, 3) := by decide +kernel
theorem dX7_canBeOfBlock_8 : decode cX7_canBeOfBlock 8 = .ok (.aload_n 0, 1) := by decide +kernel
theorem dX7_canBeOfBlock_9 : decode cX7_canBeOfBlock 9 = .ok (.getfield 21, 3) := by decide +kernel
theorem dX7_canBeOfBlock_12 : decode cX7_canBeOfBlock 12 = .ok (.getfield 64, 3) := by decide +kernel
theorem dX7_canBeOfBlock_15 : decode cX7_canBeOfBlock 15 = .ok (.if_icmp .gt 7, 3) := by decide +kernel
theorem dX7_canBeOfBlock_18 : decode cX7_canBeOfBlock 18 = .ok (.iconst 1, 1) := by decide +kernel
theorem dX7_canBeOfBlock_19 : decode cX7_canBeOfBlock 19 = .ok (.goto 4, 3) := by decide +kernel
theorem dX7_canBeOfBlock_22 : decode cX7_canBeOfBlock 22 = .ok (.iconst 0, 1) := by decide +kernel
theorem dX7_canBeOfBlock_23 : decode cX7_canBeOfBlock 23 = .ok (.ireturn, 1) := by decide +kernel
theorem dX7_canBeOfBlock_24 : decode cX7_canBeOfBlock 24 = .ok (.iload_n 1, 1) := by decide +kernel
theorem dX7_canBeOfBlock_25 : decode cX7_canBeOfBlock 25 = .ok (.iconst 1, 1) := by decide +kernel
theorem dX7_canBeOfBlock_26 : decode cX7_canBeOfBlock 26 = .ok (.if_icmp .eq 12, 3) := by decide +kernel
theorem dX7_canBeOfBlock_29 : decode cX7_canBeOfBlock 29 = .ok (.aload_n 0, 1) := by decide +kernel
theorem dX7_canBeOfBlock_30 : decode cX7_canBeOfBlock 30 = .ok (.getfield 98, 3) := by decide +kernel
theorem dX7_canBeOfBlock_33 : decode cX7_canBeOfBlock 33 = .ok (.bipush 6, 2) := by decide +kernel
theorem dX7_canBeOfBlock_35 : decode cX7_canBeOfBlock 35 = .ok (.if_icmp .ge 7, 3) := by decide +kernel
theorem dX7_canBeOfBlock_38 : decode cX7_canBeOfBlock 38 = .ok (.iconst 1, 1) := by decide +kernel
theorem dX7_canBeOfBlock_39 : decode cX7_canBeOfBlock 39 = .ok (.goto 4, 3) := by decide +kernel
theorem dX7_canBeOfBlock_42 : decode cX7_canBeOfBlock 42 = .ok (.iconst 0, 1) := by decide +kernel
theorem dX7_canBeOfBlock_43 : decode cX7_canBeOfBlock 43 = .ok (.ireturn, 1) := by decide +kernel
def F_X7_canBeOfBlock (i j : Nat) (X Y : Nat → Int → Int) (R : Nat → Int → Option Nat) (a : Int) : Prop := (∀ i j, rI (X i j)) → (∀ i j, rL (Y i j)) → ((¬ a = 0) → (((a = 1) → (1 = bz (cbK X i (a)))) ∧ ((¬ (a = 1)) → (((6 ≤ (X (i) 10)) → (0 = bz (cbK X i (a)))) ∧ ((¬ (6 ≤ (X (i) 10))) → (1 = bz (cbK X i (a)))))))) ∧ ((¬ (¬ a = 0)) → ((((X (i + 3) 0) < (X (i) 10)) → (0 = bz (cbK X i (a)))) ∧ ((¬ ((X (i + 3) 0) < (X (i) 10))) → (1 = bz (cbK X i (a))))))
set_option maxHeartbeats 4000000 in
set_option maxRecDepth 100000 in
theorem w_X7_canBeOfBlock {l : Launch} {D : va_G} {cy : Nat → ClassId} {bs N : Nat} {sa : Nat → Nat} {kd len : Nat → Nat} {X Y : Nat → Int → Int} {R : Nat → Int → Option Nat} {i j : Nat} (hC : zRd1 N kd len R i j) (a : Int) (ha : rI a) (hF : F_X7_canBeOfBlock i j X Y R a) : Met l yX7_canBeOfBlock (.code yX7_canBeOfBlock cX7_canBeOfBlock 2 (some .boolean) :: zTB) (zRm 0 0) (zPc D cy bs sa N kd len X Y R [.ref (bs + (i)), .int (zI (a))]) (zQi D cy bs N kd len (fun r st => r = bz (cbK X i (a)) ∧ st = (X, Y, R))) 0 0 (zA bs) := by
  refine zstart (by decide) (Nat.le_of_ble_eq_true rfl) ?_
  intro p e s m args below meth c ls C hE hH hr hlk hnm hl hargs
  have hF := hF hH.2.2.1 hH.2.2.2
  have hS : va_S (zA bs) s.heap s.heap [] := va_S.rf
  have hl : lv_has ls 2 [(0, .ref (bs + (i))), (1, .int (zI (a)))] := hl
  refine lv_iload_n C.1 C.2.1 dX7_canBeOfBlock_0 rfl (lv_at hl 1 rfl) ?_
  refine zd_if_ne C ha 24 dX7_canBeOfBlock_1 (by decide) (fun c1 => ?_) (fun c1 => ?_)
  · have hF := hF.1 c1
    refine lv_iload_n C.1 C.2.1 dX7_canBeOfBlock_24 rfl (lv_at hl 1 rfl) ?_
    refine zd_iconst C dX7_canBeOfBlock_25 ?_
    refine zd_icmp_eq C ha (by decide) 38 dX7_canBeOfBlock_26 (by decide) (fun c2 => ?_) (fun c2 => ?_)
    · have hF := hF.1 c2
      refine zd_iconst C dX7_canBeOfBlock_38 ?_
      refine lv_goto (tgt := 43) C.1 C.2.1 dX7_canBeOfBlock_39 (by decide) ?_
      exact zd_zret C hr hlk hH hS (by decide) (⟨hF, rfl⟩) dX7_canBeOfBlock_43
    · have hF := hF.2 c2
      refine lv_aload_n C.1 C.2.1 dX7_canBeOfBlock_29 rfl (lv_at hl 0 rfl) ?_
      refine zg7_10 C hH (zRr_n0 hC.1) (zRr_k0 hC.1) q_337 dX7_canBeOfBlock_30 ?_
      refine zd_bipush C (by decide) dX7_canBeOfBlock_33 ?_
      refine zd_icmp_ge C (hH.2.2.1 _ _) (by decide) 42 dX7_canBeOfBlock_35 (by decide) (fun c3 => ?_) (fun c3 => ?_)
      · have hF := hF.1 c3
        refine zd_iconst C dX7_canBeOfBlock_42 ?_
        exact zd_zret C hr hlk hH hS (by decide) (⟨hF, rfl⟩) dX7_canBeOfBlock_43
      · have hF := hF.2 c3
        refine zd_iconst C dX7_canBeOfBlock_38 ?_
        refine lv_goto (tgt := 43) C.1 C.2.1 dX7_canBeOfBlock_39 (by decide) ?_
        exact zd_zret C hr hlk hH hS (by decide) (⟨hF, rfl⟩) dX7_canBeOfBlock_43
  · have hF := hF.2 c1
    refine lv_aload_n C.1 C.2.1 dX7_canBeOfBlock_4 rfl (lv_at hl 0 rfl) ?_
    refine zg7_10 C hH (zRr_n0 hC.1) (zRr_k0 hC.1) q_337 dX7_canBeOfBlock_5 ?_
    refine lv_aload_n C.1 C.2.1 dX7_canBeOfBlock_8 rfl (lv_at hl 0 rfl) ?_
    refine zg7_1 C hH (zRr_n0 hC.1) (zRr_k0 hC.1) q_324 (zRr_bl hC.1).1 dX7_canBeOfBlock_9 ?_
    refine zg0_0 C hH (zBlocks_n0 (zRr_bl hC.1).2) (zBlocks_k0 (zRr_bl hC.1).2) q_226 dX7_canBeOfBlock_12 ?_
    refine zd_icmp_gt C (hH.2.2.1 _ _) (hH.2.2.1 _ _) 22 dX7_canBeOfBlock_15 (by decide) (fun c4 => ?_) (fun c4 => ?_)
    · have hF := hF.1 c4
      refine zd_iconst C dX7_canBeOfBlock_22 ?_
      exact zd_zret C hr hlk hH hS (by decide) (⟨hF, rfl⟩) dX7_canBeOfBlock_23
    · have hF := hF.2 c4
      refine zd_iconst C dX7_canBeOfBlock_18 ?_
      refine lv_goto (tgt := 23) C.1 C.2.1 dX7_canBeOfBlock_19 (by decide) ?_
      exact zd_zret C hr hlk hH hS (by decide) (⟨hF, rfl⟩) dX7_canBeOfBlock_23
theorem v_X7_canBeOfBlock {X Y : Nat → Int → Int} {R : Nat → Int → Option Nat} {i j : Nat} (a : Int) (ha : rI a) : F_X7_canBeOfBlock i j X Y R a := by
  unfold F_X7_canBeOfBlock
  intro hX hY
  refine ⟨?_, ?_⟩
  · intro c1
    refine ⟨?_, ?_⟩
    · intro c2
      unfold cbK
      repeat' split
      all_goals first | (exfalso; omega) | rfl | (rw [decide_eq_true (by omega)]; rfl) | (rw [decide_eq_false (by omega)]; rfl)
    intro c3
    refine ⟨?_, ?_⟩
    · intro c4
      unfold cbK
      repeat' split
      all_goals first | (exfalso; omega) | rfl | (rw [decide_eq_true (by omega)]; rfl) | (rw [decide_eq_false (by omega)]; rfl)
    intro c5
    unfold cbK
    repeat' split
    all_goals first | (exfalso; omega) | rfl | (rw [decide_eq_true (by omega)]; rfl) | (rw [decide_eq_false (by omega)]; rfl)
  intro c6
  refine ⟨?_, ?_⟩
  · intro c7
    unfold cbK
    repeat' split
    all_goals first | (exfalso; omega) | rfl | (rw [decide_eq_true (by omega)]; rfl) | (rw [decide_eq_false (by omega)]; rfl)
  intro c8
  unfold cbK
  repeat' split
  all_goals first | (exfalso; omega) | rfl | (rw [decide_eq_true (by omega)]; rfl) | (rw [decide_eq_false (by omega)]; rfl)
theorem c_X7_canBeOfBlock {l : Launch} {D : va_G} {cy : Nat → ClassId} {bs N : Nat} {sa : Nat → Nat} {kd len : Nat → Nat} {X Y : Nat → Int → Int} {R : Nat → Int → Option Nat} {i j : Nat} (hC : zRd1 N kd len R i j) (a : Int) (ha : rI a) : Met l yX7_canBeOfBlock (.code yX7_canBeOfBlock cX7_canBeOfBlock 2 (some .boolean) :: zTB) (zRm 0 0) (zPc D cy bs sa N kd len X Y R [.ref (bs + (i)), .int (zI (a))]) (zQi D cy bs N kd len (fun r st => r = bz (cbK X i (a)) ∧ st = (X, Y, R))) 0 0 (zA bs) := w_X7_canBeOfBlock hC a ha (v_X7_canBeOfBlock a ha)
abbrev cX7_canBeOfPay : ByteArray := prog_9_method_11_code
def yX7_canBeOfPay : MethodName := ⟨RX7, "canBeOfPay", "(I)Z"⟩
theorem dX7_canBeOfPay_0 : decode cX7_canBeOfPay 0 = .ok (.iload_n 1, 1) := by decide +kernel
theorem dX7_canBeOfPay_1 : decode cX7_canBeOfPay 1 = .ok (.ifCond .ne 18, 3) := by decide +kernel
theorem dX7_canBeOfPay_4 : decode cX7_canBeOfPay 4 = .ok (.aload_n 0, 1) := by decide +kernel
theorem dX7_canBeOfPay_5 : decode cX7_canBeOfPay 5 = .ok (.getfield 98, 3) := by decide +kernel
theorem dX7_canBeOfPay_8 : decode cX7_canBeOfPay 8 = .ok (.bipush 6, 2) := by decide +kernel
theorem dX7_canBeOfPay_10 : decode cX7_canBeOfPay 10 = .ok (.if_icmp .ge 7, 3) := by decide +kernel
theorem dX7_canBeOfPay_13 : decode cX7_canBeOfPay 13 = .ok (.iconst 1, 1) := by decide +kernel
theorem dX7_canBeOfPay_14 : decode cX7_canBeOfPay 14 = .ok (.goto 4, 3) := by decide +kernel
theorem dX7_canBeOfPay_17 : decode cX7_canBeOfPay 17 = .ok (.iconst 0, 1) := by decide +kernel
theorem dX7_canBeOfPay_18 : decode cX7_canBeOfPay 18 = .ok (.ireturn, 1) := by decide +kernel
theorem dX7_canBeOfPay_19 : decode cX7_canBeOfPay 19 = .ok (.iload_n 1, 1) := by decide +kernel
theorem dX7_canBeOfPay_20 : decode cX7_canBeOfPay 20 = .ok (.iconst 1, 1) := by decide +kernel
theorem dX7_canBeOfPay_21 : decode cX7_canBeOfPay 21 = .ok (.if_icmp .ne 31, 3) := by decide +kernel
theorem dX7_canBeOfPay_24 : decode cX7_canBeOfPay 24 = .ok (.aload_n 0, 1) := by decide +kernel
theorem dX7_canBeOfPay_25 : decode cX7_canBeOfPay 25 = .ok (.getfield 98, 3) := by decide +kernel
theorem dX7_canBeOfPay_28 : decode cX7_canBeOfPay 28 = .ok (.bipush 6, 2) := by decide +kernel
theorem dX7_canBeOfPay_30 : decode cX7_canBeOfPay 30 = .ok (.if_icmp .ge 20, 3) := by decide +kernel
theorem dX7_canBeOfPay_33 : decode cX7_canBeOfPay 33 = .ok (.aload_n 0, 1) := by decide +kernel
theorem dX7_canBeOfPay_34 : decode cX7_canBeOfPay 34 = .ok (.getfield 98, 3) := by decide +kernel
theorem dX7_canBeOfPay_37 : decode cX7_canBeOfPay 37 = .ok (.aload_n 0, 1) := by decide +kernel
theorem dX7_canBeOfPay_38 : decode cX7_canBeOfPay 38 = .ok (.getfield 35, 3) := by decide +kernel
theorem dX7_canBeOfPay_41 : decode cX7_canBeOfPay 41 = .ok (.iconst 0, 1) := by decide +kernel
theorem dX7_canBeOfPay_42 : decode cX7_canBeOfPay 42 = .ok (.iaload, 1) := by decide +kernel
theorem dX7_canBeOfPay_43 : decode cX7_canBeOfPay 43 = .ok (.if_icmp .eq 7, 3) := by decide +kernel
theorem dX7_canBeOfPay_46 : decode cX7_canBeOfPay 46 = .ok (.iconst 1, 1) := by decide +kernel
theorem dX7_canBeOfPay_47 : decode cX7_canBeOfPay 47 = .ok (.goto 4, 3) := by decide +kernel
theorem dX7_canBeOfPay_50 : decode cX7_canBeOfPay 50 = .ok (.iconst 0, 1) := by decide +kernel
theorem dX7_canBeOfPay_51 : decode cX7_canBeOfPay 51 = .ok (.ireturn, 1) := by decide +kernel
theorem dX7_canBeOfPay_52 : decode cX7_canBeOfPay 52 = .ok (.iload_n 1, 1) := by decide +kernel
theorem dX7_canBeOfPay_53 : decode cX7_canBeOfPay 53 = .ok (.iconst 2, 1) := by decide +kernel
theorem dX7_canBeOfPay_54 : decode cX7_canBeOfPay 54 = .ok (.if_icmp .ne 18, 3) := by decide +kernel
theorem dX7_canBeOfPay_57 : decode cX7_canBeOfPay 57 = .ok (.aload_n 0, 1) := by decide +kernel
theorem dX7_canBeOfPay_58 : decode cX7_canBeOfPay 58 = .ok (.getfield 98, 3) := by decide +kernel
theorem dX7_canBeOfPay_61 : decode cX7_canBeOfPay 61 = .ok (.ifCond .le 7, 3) := by decide +kernel
theorem dX7_canBeOfPay_64 : decode cX7_canBeOfPay 64 = .ok (.iconst 1, 1) := by decide +kernel
theorem dX7_canBeOfPay_65 : decode cX7_canBeOfPay 65 = .ok (.goto 21, 3) := by decide +kernel
theorem dX7_canBeOfPay_68 : decode cX7_canBeOfPay 68 = .ok (.iconst 0, 1) := by decide +kernel
theorem dX7_canBeOfPay_69 : decode cX7_canBeOfPay 69 = .ok (.goto 17, 3) := by decide +kernel
theorem dX7_canBeOfPay_72 : decode cX7_canBeOfPay 72 = .ok (.aload_n 0, 1) := by decide +kernel
theorem dX7_canBeOfPay_73 : decode cX7_canBeOfPay 73 = .ok (.getfield 98, 3) := by decide +kernel
theorem dX7_canBeOfPay_76 : decode cX7_canBeOfPay 76 = .ok (.bipush 10, 2) := by decide +kernel
theorem dX7_canBeOfPay_78 : decode cX7_canBeOfPay 78 = .ok (.if_icmp .ge 7, 3) := by decide +kernel
theorem dX7_canBeOfPay_81 : decode cX7_canBeOfPay 81 = .ok (.iconst 1, 1) := by decide +kernel
theorem dX7_canBeOfPay_82 : decode cX7_canBeOfPay 82 = .ok (.goto 4, 3) := by decide +kernel
theorem dX7_canBeOfPay_85 : decode cX7_canBeOfPay 85 = .ok (.iconst 0, 1) := by decide +kernel
theorem dX7_canBeOfPay_86 : decode cX7_canBeOfPay 86 = .ok (.ireturn, 1) := by decide +kernel
theorem q_338 : Cond.fieldLink RX7 35 RX7 "line" "[I" ∈ zTB := zmem 338 (by decide +kernel) rfl
def F_X7_canBeOfPay (i j : Nat) (X Y : Nat → Int → Int) (R : Nat → Int → Option Nat) (a : Int) : Prop := (∀ i j, rI (X i j)) → (∀ i j, rL (Y i j)) → ((¬ a = 0) → (((¬ a = 1) → (((¬ a = 2) → (((10 ≤ (X (i) 10)) → (0 = bz (cbP X i (a)))) ∧ ((¬ (10 ≤ (X (i) 10))) → (1 = bz (cbP X i (a)))))) ∧ ((¬ (¬ a = 2)) → ((((X (i) 10) ≤ 0) → (0 = bz (cbP X i (a)))) ∧ ((¬ ((X (i) 10) ≤ 0)) → (1 = bz (cbP X i (a)))))))) ∧ ((¬ (¬ a = 1)) → (((6 ≤ (X (i) 10)) → (0 = bz (cbP X i (a)))) ∧ ((¬ (6 ≤ (X (i) 10))) → ((((X (i) 10) = (X (i + 11) (0))) → (0 = bz (cbP X i (a)))) ∧ ((¬ ((X (i) 10) = (X (i + 11) (0)))) → (1 = bz (cbP X i (a)))))))))) ∧ ((¬ (¬ a = 0)) → (((6 ≤ (X (i) 10)) → (0 = bz (cbP X i (a)))) ∧ ((¬ (6 ≤ (X (i) 10))) → (1 = bz (cbP X i (a))))))
set_option maxHeartbeats 4000000 in
set_option maxRecDepth 100000 in
theorem w_X7_canBeOfPay {l : Launch} {D : va_G} {cy : Nat → ClassId} {bs N : Nat} {sa : Nat → Nat} {kd len : Nat → Nat} {X Y : Nat → Int → Int} {R : Nat → Int → Option Nat} {i j : Nat} (hC : zRd1 N kd len R i j) (a : Int) (ha : rI a) (hF : F_X7_canBeOfPay i j X Y R a) : Met l yX7_canBeOfPay (.code yX7_canBeOfPay cX7_canBeOfPay 2 (some .boolean) :: zTB) (zRm 0 0) (zPc D cy bs sa N kd len X Y R [.ref (bs + (i)), .int (zI (a))]) (zQi D cy bs N kd len (fun r st => r = bz (cbP X i (a)) ∧ st = (X, Y, R))) 0 0 (zA bs) := by
  refine zstart (by decide) (Nat.le_of_ble_eq_true rfl) ?_
  intro p e s m args below meth c ls C hE hH hr hlk hnm hl hargs
  have hF := hF hH.2.2.1 hH.2.2.2
  have hS : va_S (zA bs) s.heap s.heap [] := va_S.rf
  have hl : lv_has ls 2 [(0, .ref (bs + (i))), (1, .int (zI (a)))] := hl
  refine lv_iload_n C.1 C.2.1 dX7_canBeOfPay_0 rfl (lv_at hl 1 rfl) ?_
  refine zd_if_ne C ha 19 dX7_canBeOfPay_1 (by decide) (fun c1 => ?_) (fun c1 => ?_)
  · have hF := hF.1 c1
    refine lv_iload_n C.1 C.2.1 dX7_canBeOfPay_19 rfl (lv_at hl 1 rfl) ?_
    refine zd_iconst C dX7_canBeOfPay_20 ?_
    refine zd_icmp_ne C ha (by decide) 52 dX7_canBeOfPay_21 (by decide) (fun c2 => ?_) (fun c2 => ?_)
    · have hF := hF.1 c2
      refine lv_iload_n C.1 C.2.1 dX7_canBeOfPay_52 rfl (lv_at hl 1 rfl) ?_
      refine zd_iconst C dX7_canBeOfPay_53 ?_
      refine zd_icmp_ne C ha (by decide) 72 dX7_canBeOfPay_54 (by decide) (fun c3 => ?_) (fun c3 => ?_)
      · have hF := hF.1 c3
        refine lv_aload_n C.1 C.2.1 dX7_canBeOfPay_72 rfl (lv_at hl 0 rfl) ?_
        refine zg7_10 C hH (zRr_n0 hC.1) (zRr_k0 hC.1) q_337 dX7_canBeOfPay_73 ?_
        refine zd_bipush C (by decide) dX7_canBeOfPay_76 ?_
        refine zd_icmp_ge C (hH.2.2.1 _ _) (by decide) 85 dX7_canBeOfPay_78 (by decide) (fun c4 => ?_) (fun c4 => ?_)
        · have hF := hF.1 c4
          refine zd_iconst C dX7_canBeOfPay_85 ?_
          exact zd_zret C hr hlk hH hS (by decide) (⟨hF, rfl⟩) dX7_canBeOfPay_86
        · have hF := hF.2 c4
          refine zd_iconst C dX7_canBeOfPay_81 ?_
          refine lv_goto (tgt := 86) C.1 C.2.1 dX7_canBeOfPay_82 (by decide) ?_
          exact zd_zret C hr hlk hH hS (by decide) (⟨hF, rfl⟩) dX7_canBeOfPay_86
      · have hF := hF.2 c3
        refine lv_aload_n C.1 C.2.1 dX7_canBeOfPay_57 rfl (lv_at hl 0 rfl) ?_
        refine zg7_10 C hH (zRr_n0 hC.1) (zRr_k0 hC.1) q_337 dX7_canBeOfPay_58 ?_
        refine zd_if_le C (hH.2.2.1 _ _) 68 dX7_canBeOfPay_61 (by decide) (fun c5 => ?_) (fun c5 => ?_)
        · have hF := hF.1 c5
          refine zd_iconst C dX7_canBeOfPay_68 ?_
          refine lv_goto (tgt := 86) C.1 C.2.1 dX7_canBeOfPay_69 (by decide) ?_
          exact zd_zret C hr hlk hH hS (by decide) (⟨hF, rfl⟩) dX7_canBeOfPay_86
        · have hF := hF.2 c5
          refine zd_iconst C dX7_canBeOfPay_64 ?_
          refine lv_goto (tgt := 86) C.1 C.2.1 dX7_canBeOfPay_65 (by decide) ?_
          exact zd_zret C hr hlk hH hS (by decide) (⟨hF, rfl⟩) dX7_canBeOfPay_86
    · have hF := hF.2 c2
      refine lv_aload_n C.1 C.2.1 dX7_canBeOfPay_24 rfl (lv_at hl 0 rfl) ?_
      refine zg7_10 C hH (zRr_n0 hC.1) (zRr_k0 hC.1) q_337 dX7_canBeOfPay_25 ?_
      refine zd_bipush C (by decide) dX7_canBeOfPay_28 ?_
      refine zd_icmp_ge C (hH.2.2.1 _ _) (by decide) 50 dX7_canBeOfPay_30 (by decide) (fun c6 => ?_) (fun c6 => ?_)
      · have hF := hF.1 c6
        refine zd_iconst C dX7_canBeOfPay_50 ?_
        exact zd_zret C hr hlk hH hS (by decide) (⟨hF, rfl⟩) dX7_canBeOfPay_51
      · have hF := hF.2 c6
        refine lv_aload_n C.1 C.2.1 dX7_canBeOfPay_33 rfl (lv_at hl 0 rfl) ?_
        refine zg7_10 C hH (zRr_n0 hC.1) (zRr_k0 hC.1) q_337 dX7_canBeOfPay_34 ?_
        refine lv_aload_n C.1 C.2.1 dX7_canBeOfPay_37 rfl (lv_at hl 0 rfl) ?_
        refine zg7_11 C hH (zRr_n0 hC.1) (zRr_k0 hC.1) q_338 (zRr_11 hC.1).2.2 dX7_canBeOfPay_38 ?_
        refine zd_iconst C dX7_canBeOfPay_41 ?_
        refine zd_iald C hH (zRr_n11 hC.1) (zRr_11 hC.1).1 (by decide) (by rw [zRr_l11 hC.1]; decide) (by rw [zRr_l11 hC.1]; decide) dX7_canBeOfPay_42 ?_
        refine zd_icmp_eq C (hH.2.2.1 _ _) (hH.2.2.1 _ _) 50 dX7_canBeOfPay_43 (by decide) (fun c7 => ?_) (fun c7 => ?_)
        · have hF := hF.1 c7
          refine zd_iconst C dX7_canBeOfPay_50 ?_
          exact zd_zret C hr hlk hH hS (by decide) (⟨hF, rfl⟩) dX7_canBeOfPay_51
        · have hF := hF.2 c7
          refine zd_iconst C dX7_canBeOfPay_46 ?_
          refine lv_goto (tgt := 51) C.1 C.2.1 dX7_canBeOfPay_47 (by decide) ?_
          exact zd_zret C hr hlk hH hS (by decide) (⟨hF, rfl⟩) dX7_canBeOfPay_51
  · have hF := hF.2 c1
    refine lv_aload_n C.1 C.2.1 dX7_canBeOfPay_4 rfl (lv_at hl 0 rfl) ?_
    refine zg7_10 C hH (zRr_n0 hC.1) (zRr_k0 hC.1) q_337 dX7_canBeOfPay_5 ?_
    refine zd_bipush C (by decide) dX7_canBeOfPay_8 ?_
    refine zd_icmp_ge C (hH.2.2.1 _ _) (by decide) 17 dX7_canBeOfPay_10 (by decide) (fun c8 => ?_) (fun c8 => ?_)
    · have hF := hF.1 c8
      refine zd_iconst C dX7_canBeOfPay_17 ?_
      exact zd_zret C hr hlk hH hS (by decide) (⟨hF, rfl⟩) dX7_canBeOfPay_18
    · have hF := hF.2 c8
      refine zd_iconst C dX7_canBeOfPay_13 ?_
      refine lv_goto (tgt := 18) C.1 C.2.1 dX7_canBeOfPay_14 (by decide) ?_
      exact zd_zret C hr hlk hH hS (by decide) (⟨hF, rfl⟩) dX7_canBeOfPay_18
theorem v_X7_canBeOfPay {X Y : Nat → Int → Int} {R : Nat → Int → Option Nat} {i j : Nat} (a : Int) (ha : rI a) : F_X7_canBeOfPay i j X Y R a := by
  unfold F_X7_canBeOfPay
  intro hX hY
  refine ⟨?_, ?_⟩
  · intro c1
    refine ⟨?_, ?_⟩
    · intro c2
      refine ⟨?_, ?_⟩
      · intro c3
        refine ⟨?_, ?_⟩
        · intro c4
          unfold cbP
          repeat' split
          all_goals first | (exfalso; omega) | rfl | (rw [decide_eq_true (by omega)]; rfl) | (rw [decide_eq_false (by omega)]; rfl)
        intro c5
        unfold cbP
        repeat' split
        all_goals first | (exfalso; omega) | rfl | (rw [decide_eq_true (by omega)]; rfl) | (rw [decide_eq_false (by omega)]; rfl)
      intro c6
      refine ⟨?_, ?_⟩
      · intro c7
        unfold cbP
        repeat' split
        all_goals first | (exfalso; omega) | rfl | (rw [decide_eq_true (by omega)]; rfl) | (rw [decide_eq_false (by omega)]; rfl)
      intro c8
      unfold cbP
      repeat' split
      all_goals first | (exfalso; omega) | rfl | (rw [decide_eq_true (by omega)]; rfl) | (rw [decide_eq_false (by omega)]; rfl)
    intro c9
    refine ⟨?_, ?_⟩
    · intro c10
      unfold cbP
      repeat' split
      all_goals first | (exfalso; omega) | rfl | (rw [decide_eq_true (by omega)]; rfl) | (rw [decide_eq_false (by omega)]; rfl)
    intro c11
    refine ⟨?_, ?_⟩
    · intro c12
      unfold cbP
      repeat' split
      all_goals first | (exfalso; omega) | rfl | (rw [decide_eq_true (by omega)]; rfl) | (rw [decide_eq_false (by omega)]; rfl)
    intro c13
    unfold cbP
    repeat' split
    all_goals first | (exfalso; omega) | rfl | (rw [decide_eq_true (by omega)]; rfl) | (rw [decide_eq_false (by omega)]; rfl)
  intro c14
  refine ⟨?_, ?_⟩
  · intro c15
    unfold cbP
    repeat' split
    all_goals first | (exfalso; omega) | rfl | (rw [decide_eq_true (by omega)]; rfl) | (rw [decide_eq_false (by omega)]; rfl)
  intro c16
  unfold cbP
  repeat' split
  all_goals first | (exfalso; omega) | rfl | (rw [decide_eq_true (by omega)]; rfl) | (rw [decide_eq_false (by omega)]; rfl)
theorem c_X7_canBeOfPay {l : Launch} {D : va_G} {cy : Nat → ClassId} {bs N : Nat} {sa : Nat → Nat} {kd len : Nat → Nat} {X Y : Nat → Int → Int} {R : Nat → Int → Option Nat} {i j : Nat} (hC : zRd1 N kd len R i j) (a : Int) (ha : rI a) : Met l yX7_canBeOfPay (.code yX7_canBeOfPay cX7_canBeOfPay 2 (some .boolean) :: zTB) (zRm 0 0) (zPc D cy bs sa N kd len X Y R [.ref (bs + (i)), .int (zI (a))]) (zQi D cy bs N kd len (fun r st => r = bz (cbP X i (a)) ∧ st = (X, Y, R))) 0 0 (zA bs) := w_X7_canBeOfPay hC a ha (v_X7_canBeOfPay a ha)
abbrev cX7_canBe : ByteArray := prog_9_method_9_code
def yX7_canBe : MethodName := ⟨RX7, "canBe", "(III)Z"⟩
theorem dX7_canBe_0 : decode cX7_canBe 0 = .ok (.iload_n 1, 1) := by decide +kernel
theorem dX7_canBe_1 : decode cX7_canBe 1 = .ok (.tableswitch 117 0 3 #[31, 60, 78, 100], 31) := by decide +kernel
theorem dX7_canBe_32 : decode cX7_canBe 32 = .ok (.iload_n 2, 1) := by decide +kernel
theorem dX7_canBe_33 : decode cX7_canBe 33 = .ok (.ifCond .lt 11, 3) := by decide +kernel
theorem dX7_canBe_36 : decode cX7_canBe 36 = .ok (.iload_n 2, 1) := by decide +kernel
theorem dX7_canBe_37 : decode cX7_canBe 37 = .ok (.getstatic 135, 3) := by decide +kernel
theorem dX7_canBe_40 : decode cX7_canBe 40 = .ok (.arraylength, 1) := by decide +kernel
theorem dX7_canBe_41 : decode cX7_canBe 41 = .ok (.if_icmp .lt 5, 3) := by decide +kernel
theorem dX7_canBe_44 : decode cX7_canBe 44 = .ok (.iconst 0, 1) := by decide +kernel
theorem dX7_canBe_45 : decode cX7_canBe 45 = .ok (.ireturn, 1) := by decide +kernel
theorem dX7_canBe_46 : decode cX7_canBe 46 = .ok (.aload_n 0, 1) := by decide +kernel
theorem dX7_canBe_47 : decode cX7_canBe 47 = .ok (.getstatic 135, 3) := by decide +kernel
theorem dX7_canBe_50 : decode cX7_canBe 50 = .ok (.iload_n 2, 1) := by decide +kernel
theorem dX7_canBe_51 : decode cX7_canBe 51 = .ok (.iaload, 1) := by decide +kernel
theorem dX7_canBe_52 : decode cX7_canBe 52 = .ok (.getstatic 138, 3) := by decide +kernel
theorem dX7_canBe_55 : decode cX7_canBe 55 = .ok (.iload_n 2, 1) := by decide +kernel
theorem dX7_canBe_56 : decode cX7_canBe 56 = .ok (.iaload, 1) := by decide +kernel
theorem dX7_canBe_57 : decode cX7_canBe 57 = .ok (.invokevirtual 141, 3) := by decide +kernel
theorem dX7_canBe_60 : decode cX7_canBe 60 = .ok (.ireturn, 1) := by decide +kernel
theorem dX7_canBe_61 : decode cX7_canBe 61 = .ok (.iload_n 2, 1) := by decide +kernel
theorem dX7_canBe_62 : decode cX7_canBe 62 = .ok (.ifCond .ne 11, 3) := by decide +kernel
theorem dX7_canBe_65 : decode cX7_canBe 65 = .ok (.aload_n 0, 1) := by decide +kernel
theorem dX7_canBe_66 : decode cX7_canBe 66 = .ok (.iload_n 3, 1) := by decide +kernel
theorem dX7_canBe_67 : decode cX7_canBe 67 = .ok (.invokevirtual 144, 3) := by decide +kernel
theorem dX7_canBe_70 : decode cX7_canBe 70 = .ok (.goto 8, 3) := by decide +kernel
theorem dX7_canBe_73 : decode cX7_canBe 73 = .ok (.aload_n 0, 1) := by decide +kernel
theorem dX7_canBe_74 : decode cX7_canBe 74 = .ok (.iload_n 3, 1) := by decide +kernel
theorem dX7_canBe_75 : decode cX7_canBe 75 = .ok (.invokevirtual 147, 3) := by decide +kernel
theorem dX7_canBe_78 : decode cX7_canBe 78 = .ok (.ireturn, 1) := by decide +kernel
theorem dX7_canBe_79 : decode cX7_canBe 79 = .ok (.iload_n 2, 1) := by decide +kernel
theorem dX7_canBe_80 : decode cX7_canBe 80 = .ok (.iconst 3, 1) := by decide +kernel
theorem dX7_canBe_81 : decode cX7_canBe 81 = .ok (.if_icmp .ne 12, 3) := by decide +kernel
theorem dX7_canBe_84 : decode cX7_canBe 84 = .ok (.aload_n 0, 1) := by decide +kernel
theorem dX7_canBe_85 : decode cX7_canBe 85 = .ok (.iconst 0, 1) := by decide +kernel
theorem dX7_canBe_86 : decode cX7_canBe 86 = .ok (.iconst 1, 1) := by decide +kernel
theorem dX7_canBe_87 : decode cX7_canBe 87 = .ok (.invokevirtual 141, 3) := by decide +kernel
theorem dX7_canBe_90 : decode cX7_canBe 90 = .ok (.goto 10, 3) := by decide +kernel
theorem dX7_canBe_93 : decode cX7_canBe 93 = .ok (.aload_n 0, 1) := by decide +kernel
theorem dX7_canBe_94 : decode cX7_canBe 94 = .ok (.iconst 1, 1) := by decide +kernel
theorem dX7_canBe_95 : decode cX7_canBe 95 = .ok (.bipush 14, 2) := by decide +kernel
theorem dX7_canBe_97 : decode cX7_canBe 97 = .ok (.invokevirtual 141, 3) := by decide +kernel
theorem dX7_canBe_100 : decode cX7_canBe 100 = .ok (.ireturn, 1) := by decide +kernel
theorem dX7_canBe_101 : decode cX7_canBe 101 = .ok (.aload_n 0, 1) := by decide +kernel
theorem dX7_canBe_102 : decode cX7_canBe 102 = .ok (.iconst 0, 1) := by decide +kernel
theorem dX7_canBe_103 : decode cX7_canBe 103 = .ok (.iload_n 3, 1) := by decide +kernel
theorem dX7_canBe_104 : decode cX7_canBe 104 = .ok (.ifCond .ne 8, 3) := by decide +kernel
theorem dX7_canBe_107 : decode cX7_canBe 107 = .ok (.bipush 40, 2) := by decide +kernel
theorem dX7_canBe_109 : decode cX7_canBe 109 = .ok (.goto 5, 3) := by decide +kernel
theorem dX7_canBe_112 : decode cX7_canBe 112 = .ok (.bipush 14, 2) := by decide +kernel
theorem dX7_canBe_114 : decode cX7_canBe 114 = .ok (.invokevirtual 141, 3) := by decide +kernel
theorem dX7_canBe_117 : decode cX7_canBe 117 = .ok (.ireturn, 1) := by decide +kernel
theorem dX7_canBe_118 : decode cX7_canBe 118 = .ok (.aload_n 0, 1) := by decide +kernel
theorem dX7_canBe_119 : decode cX7_canBe 119 = .ok (.iload_n 3, 1) := by decide +kernel
theorem dX7_canBe_120 : decode cX7_canBe 120 = .ok (.invokevirtual 147, 3) := by decide +kernel
theorem dX7_canBe_123 : decode cX7_canBe 123 = .ok (.ireturn, 1) := by decide +kernel
theorem q_742 : Cond.fieldLink RX7 135 RX7 "NET_LEAST" "[I" ∈ zTB := zmem 742 (by decide +kernel) rfl
theorem q_744 : Cond.fieldLink RX7 138 RX7 "NET_MOST" "[I" ∈ zTB := zmem 744 (by decide +kernel) rfl
theorem q_746 : Cond.methodLink RX7 141 yX7_isFrom ∈ zTB := zmem 746 (by decide +kernel) rfl
theorem q_748 : Cond.instanceMethod yX7_isFrom ∈ zTB := zmem 748 (by decide +kernel) rfl
theorem q_8 : Cond.selects RX7 yX7_isFrom yX7_isFrom ∈ zTB := zmem 8 (by decide +kernel) rfl
theorem q_749 : Cond.code yX7_isFrom cX7_isFrom 3 (some .boolean) ∈ zTB := zmem 749 (by decide +kernel) rfl
theorem k_RX7_141 : zLv RX7 141 RX7 yX7_isFrom cX7_isFrom 3 (some .boolean) 2 := ⟨⟨q_746, q_748, q_8, q_134, q_749⟩, rfl, ⟨by decide, by decide⟩, by decide +kernel⟩
theorem q_754 : Cond.methodLink RX7 147 yX7_canBeOfPay ∈ zTB := zmem 754 (by decide +kernel) rfl
theorem q_756 : Cond.instanceMethod yX7_canBeOfPay ∈ zTB := zmem 756 (by decide +kernel) rfl
theorem q_10 : Cond.selects RX7 yX7_canBeOfPay yX7_canBeOfPay ∈ zTB := zmem 10 (by decide +kernel) rfl
theorem q_757 : Cond.code yX7_canBeOfPay cX7_canBeOfPay 2 (some .boolean) ∈ zTB := zmem 757 (by decide +kernel) rfl
theorem k_RX7_147 : zLv RX7 147 RX7 yX7_canBeOfPay cX7_canBeOfPay 2 (some .boolean) 1 := ⟨⟨q_754, q_756, q_10, q_134, q_757⟩, rfl, ⟨by decide, by decide⟩, by decide +kernel⟩
theorem q_750 : Cond.methodLink RX7 144 yX7_canBeOfBlock ∈ zTB := zmem 750 (by decide +kernel) rfl
theorem q_752 : Cond.instanceMethod yX7_canBeOfBlock ∈ zTB := zmem 752 (by decide +kernel) rfl
theorem q_9 : Cond.selects RX7 yX7_canBeOfBlock yX7_canBeOfBlock ∈ zTB := zmem 9 (by decide +kernel) rfl
theorem q_753 : Cond.code yX7_canBeOfBlock cX7_canBeOfBlock 2 (some .boolean) ∈ zTB := zmem 753 (by decide +kernel) rfl
theorem k_RX7_144 : zLv RX7 144 RX7 yX7_canBeOfBlock cX7_canBeOfBlock 2 (some .boolean) 1 := ⟨⟨q_750, q_752, q_9, q_134, q_753⟩, rfl, ⟨by decide, by decide⟩, by decide +kernel⟩
def F_X7_canBe (i j : Nat) (X Y : Nat → Int → Int) (R : Nat → Int → Option Nat) (a : Int) (b : Int) (g : Int) : Prop := (∀ i j, rI (X i j)) → (∀ i j, rL (Y i j)) → (a = 0 → (((b < 0) → (0 = bz (cbB X i (a) (b) (g)))) ∧ ((¬ (b < 0)) → (((b < 7) → ((0 ≤ b ∧ b < 7) ∧ ((0 ≤ b ∧ b < 7) ∧ (bz (mIn (X i 10) (nlF (b).toNat) (nmF (b).toNat)) = bz (cbB X i (a) (b) (g)))))) ∧ ((¬ (b < 7)) → (0 = bz (cbB X i (a) (b) (g)))))))) ∧ (a = 1 → (((¬ b = 0) → (bz (cbP X i (g)) = bz (cbB X i (a) (b) (g)))) ∧ ((¬ (¬ b = 0)) → (bz (cbK X i (g)) = bz (cbB X i (a) (b) (g)))))) ∧ (a = 2 → (((¬ b = 3) → (bz (mIn (X i 10) ((1 : Int)) ((14 : Int))) = bz (cbB X i (a) (b) (g)))) ∧ ((¬ (¬ b = 3)) → (bz (mIn (X i 10) ((0 : Int)) ((1 : Int))) = bz (cbB X i (a) (b) (g)))))) ∧ (a = 3 → (((¬ g = 0) → (bz (mIn (X i 10) ((0 : Int)) ((14 : Int))) = bz (cbB X i (a) (b) (g)))) ∧ ((¬ (¬ g = 0)) → (bz (mIn (X i 10) ((0 : Int)) ((40 : Int))) = bz (cbB X i (a) (b) (g)))))) ∧ ((a < 0 ∨ 3 < a) → (bz (cbP X i (g)) = bz (cbB X i (a) (b) (g))))
set_option maxHeartbeats 4000000 in
set_option maxRecDepth 100000 in
theorem w_X7_canBe {l : Launch} {D : va_G} {cy : Nat → ClassId} {bs N : Nat} {sa : Nat → Nat} {kd len : Nat → Nat} {X Y : Nat → Int → Int} {R : Nat → Int → Option Nat} {i j : Nat} (hC : zRd1 N kd len R i j) (a : Int) (ha : rI a) (b : Int) (hb : rI b) (g : Int) (hg : rI g) (hF : F_X7_canBe i j X Y R a b g) : Met l yX7_canBe (.code yX7_canBe cX7_canBe 4 (some .boolean) :: zTB) (zRm 1 22) (zPc D cy bs sa N kd len X Y R [.ref (bs + (i)), .int (zI (a)), .int (zI (b)), .int (zI (g))]) (zQi D cy bs N kd len (fun r st => r = bz (cbB X i (a) (b) (g)) ∧ st = (X, Y, R))) 0 0 (zA bs) := by
  refine zstart (by decide) (Nat.le_of_ble_eq_true rfl) ?_
  intro p e s m args below meth c ls C hE hH hr hlk hnm hl hargs
  have hF := hF hH.2.2.1 hH.2.2.2
  have hS : va_S (zA bs) s.heap s.heap [] := va_S.rf
  have hl : lv_has ls 4 [(0, .ref (bs + (i))), (1, .int (zI (a))), (2, .int (zI (b))), (3, .int (zI (g)))] := hl
  refine lv_iload_n C.1 C.2.1 dX7_canBe_0 rfl (lv_at hl 1 rfl) ?_
  by_cases c1_0 : a = 0
  · have hF := hF.1 c1_0
    refine zd_tabI C ha 32 (0) c1_0 dX7_canBe_1 (by decide) (by decide) rfl (by decide) ?_
    refine lv_iload_n C.1 C.2.1 dX7_canBe_32 rfl (lv_at hl 2 rfl) ?_
    refine zd_if_lt C hb 44 dX7_canBe_33 (by decide) (fun c2 => ?_) (fun c2 => ?_)
    · have hF := hF.1 c2
      refine zd_iconst C dX7_canBe_44 ?_
      exact zd_zret C hr hlk hH hS (by decide) (⟨hF, rfl⟩) dX7_canBe_45
    · have hF := hF.2 c2
      refine lv_iload_n C.1 C.2.1 dX7_canBe_36 rfl (lv_at hl 2 rfl) ?_
      refine zd_gets C hE hS hE.2.2.1.2.1 q_742 dX7_canBe_37 ?_
      refine zd_tlen C hS hE.2.2.1.2.1 dX7_canBe_40 ?_
      refine zd_icmp_lt C hb (by decide) 46 dX7_canBe_41 (by decide) (fun c3 => ?_) (fun c3 => ?_)
      · have hF := hF.1 c3
        refine lv_aload_n C.1 C.2.1 dX7_canBe_46 rfl (lv_at hl 0 rfl) ?_
        refine zd_gets C hE hS hE.2.2.1.2.1 q_742 dX7_canBe_47 ?_
        refine lv_iload_n C.1 C.2.1 dX7_canBe_50 rfl (lv_at hl 2 rfl) ?_
        obtain ⟨o4, hF⟩ := hF
        refine zd_tald C hS hE.2.2.1.2.1 o4.1 o4.2 (by decide) dX7_canBe_51 ?_
        refine zd_gets C hE hS hE.2.2.1.2.2.1 q_744 dX7_canBe_52 ?_
        refine lv_iload_n C.1 C.2.1 dX7_canBe_55 rfl (lv_at hl 2 rfl) ?_
        obtain ⟨o5, hF⟩ := hF
        refine zd_tald C hS hE.2.2.1.2.2.1 o5.1 o5.2 (by decide) dX7_canBe_56 ?_
        refine zgoi (zrunV (As := [.int (zI (nlF (b).toNat)), .int (zI (nmF (b).toNat))]) (rest := []) C hE hH hS hl.1 (c_X7_isFrom (l := l) hC.2 (nlF (b).toNat) (nlF_rg _) (nmF (b).toNat) (nmF_rg _)) k_RX7_141 ⟨Nat.le_of_ble_eq_true rfl, Nat.le_of_ble_eq_true rfl⟩ (zRr_n0 hC.1) (zRr_k0 hC.1) rfl rfl rfl (Nat.le_of_ble_eq_true rfl) dX7_canBe_57 ⟨Nat.zero_le _, Nat.zero_le _⟩) hS (fun rq Xq Yq Rq H locs hrq hq hH hS => ?_)
        obtain ⟨h91, h92⟩ := hq
        have h93 : Xq = X := congrArg (fun z => z.1) h92
        have h94 : Yq = Y := congrArg (fun z => z.2.1) h92
        have h95 : Rq = R := congrArg (fun z => z.2.2) h92
        rw [h93, h94, h95] at hH
        subst h91
        exact zd_zret C hr hlk hH hS bz_01 (⟨hF, rfl⟩) dX7_canBe_60
      · have hF := hF.2 c3
        refine zd_iconst C dX7_canBe_44 ?_
        exact zd_zret C hr hlk hH hS (by decide) (⟨hF, rfl⟩) dX7_canBe_45
  · have hF := hF.2
    by_cases c1_1 : a = 1
    · have hF := hF.1 c1_1
      refine zd_tabI C ha 61 (1) c1_1 dX7_canBe_1 (by decide) (by decide) rfl (by decide) ?_
      refine lv_iload_n C.1 C.2.1 dX7_canBe_61 rfl (lv_at hl 2 rfl) ?_
      refine zd_if_ne C hb 73 dX7_canBe_62 (by decide) (fun c6 => ?_) (fun c6 => ?_)
      · have hF := hF.1 c6
        refine lv_aload_n C.1 C.2.1 dX7_canBe_73 rfl (lv_at hl 0 rfl) ?_
        refine lv_iload_n C.1 C.2.1 dX7_canBe_74 rfl (lv_at hl 3 rfl) ?_
        refine zgoi (zrunV (As := [.int (zI (g))]) (rest := []) C hE hH hS hl.1 (c_X7_canBeOfPay (l := l) hC (g) hg) k_RX7_147 ⟨Nat.le_of_ble_eq_true rfl, Nat.le_of_ble_eq_true rfl⟩ (zRr_n0 hC.1) (zRr_k0 hC.1) rfl rfl rfl (Nat.le_of_ble_eq_true rfl) dX7_canBe_75 ⟨Nat.zero_le _, Nat.zero_le _⟩) hS (fun rq Xq Yq Rq H locs hrq hq hH hS => ?_)
        obtain ⟨h91, h92⟩ := hq
        have h93 : Xq = X := congrArg (fun z => z.1) h92
        have h94 : Yq = Y := congrArg (fun z => z.2.1) h92
        have h95 : Rq = R := congrArg (fun z => z.2.2) h92
        rw [h93, h94, h95] at hH
        subst h91
        exact zd_zret C hr hlk hH hS bz_01 (⟨hF, rfl⟩) dX7_canBe_78
      · have hF := hF.2 c6
        refine lv_aload_n C.1 C.2.1 dX7_canBe_65 rfl (lv_at hl 0 rfl) ?_
        refine lv_iload_n C.1 C.2.1 dX7_canBe_66 rfl (lv_at hl 3 rfl) ?_
        refine zgoi (zrunV (As := [.int (zI (g))]) (rest := []) C hE hH hS hl.1 (c_X7_canBeOfBlock (l := l) hC (g) hg) k_RX7_144 ⟨Nat.le_of_ble_eq_true rfl, Nat.le_of_ble_eq_true rfl⟩ (zRr_n0 hC.1) (zRr_k0 hC.1) rfl rfl rfl (Nat.le_of_ble_eq_true rfl) dX7_canBe_67 ⟨Nat.zero_le _, Nat.zero_le _⟩) hS (fun rq Xq Yq Rq H locs hrq hq hH hS => ?_)
        obtain ⟨h91, h92⟩ := hq
        have h93 : Xq = X := congrArg (fun z => z.1) h92
        have h94 : Yq = Y := congrArg (fun z => z.2.1) h92
        have h95 : Rq = R := congrArg (fun z => z.2.2) h92
        rw [h93, h94, h95] at hH
        subst h91
        refine lv_goto (tgt := 78) C.1 C.2.1 dX7_canBe_70 (by decide) ?_
        exact zd_zret C hr hlk hH hS bz_01 (⟨hF, rfl⟩) dX7_canBe_78
    · have hF := hF.2
      by_cases c1_2 : a = 2
      · have hF := hF.1 c1_2
        refine zd_tabI C ha 79 (2) c1_2 dX7_canBe_1 (by decide) (by decide) rfl (by decide) ?_
        refine lv_iload_n C.1 C.2.1 dX7_canBe_79 rfl (lv_at hl 2 rfl) ?_
        refine zd_iconst C dX7_canBe_80 ?_
        refine zd_icmp_ne C hb (by decide) 93 dX7_canBe_81 (by decide) (fun c7 => ?_) (fun c7 => ?_)
        · have hF := hF.1 c7
          refine lv_aload_n C.1 C.2.1 dX7_canBe_93 rfl (lv_at hl 0 rfl) ?_
          refine zd_iconst C dX7_canBe_94 ?_
          refine zd_bipush C (by decide) dX7_canBe_95 ?_
          refine zgoi (zrunV (As := [.int (zI (1)), .int (zI (14))]) (rest := []) C hE hH hS hl.1 (c_X7_isFrom (l := l) hC.2 (1) (by decide) (14) (by decide)) k_RX7_141 ⟨Nat.le_of_ble_eq_true rfl, Nat.le_of_ble_eq_true rfl⟩ (zRr_n0 hC.1) (zRr_k0 hC.1) rfl rfl rfl (Nat.le_of_ble_eq_true rfl) dX7_canBe_97 ⟨Nat.zero_le _, Nat.zero_le _⟩) hS (fun rq Xq Yq Rq H locs hrq hq hH hS => ?_)
          obtain ⟨h91, h92⟩ := hq
          have h93 : Xq = X := congrArg (fun z => z.1) h92
          have h94 : Yq = Y := congrArg (fun z => z.2.1) h92
          have h95 : Rq = R := congrArg (fun z => z.2.2) h92
          rw [h93, h94, h95] at hH
          subst h91
          exact zd_zret C hr hlk hH hS bz_01 (⟨hF, rfl⟩) dX7_canBe_100
        · have hF := hF.2 c7
          refine lv_aload_n C.1 C.2.1 dX7_canBe_84 rfl (lv_at hl 0 rfl) ?_
          refine zd_iconst C dX7_canBe_85 ?_
          refine zd_iconst C dX7_canBe_86 ?_
          refine zgoi (zrunV (As := [.int (zI (0)), .int (zI (1))]) (rest := []) C hE hH hS hl.1 (c_X7_isFrom (l := l) hC.2 (0) (by decide) (1) (by decide)) k_RX7_141 ⟨Nat.le_of_ble_eq_true rfl, Nat.le_of_ble_eq_true rfl⟩ (zRr_n0 hC.1) (zRr_k0 hC.1) rfl rfl rfl (Nat.le_of_ble_eq_true rfl) dX7_canBe_87 ⟨Nat.zero_le _, Nat.zero_le _⟩) hS (fun rq Xq Yq Rq H locs hrq hq hH hS => ?_)
          obtain ⟨h91, h92⟩ := hq
          have h93 : Xq = X := congrArg (fun z => z.1) h92
          have h94 : Yq = Y := congrArg (fun z => z.2.1) h92
          have h95 : Rq = R := congrArg (fun z => z.2.2) h92
          rw [h93, h94, h95] at hH
          subst h91
          refine lv_goto (tgt := 100) C.1 C.2.1 dX7_canBe_90 (by decide) ?_
          exact zd_zret C hr hlk hH hS bz_01 (⟨hF, rfl⟩) dX7_canBe_100
      · have hF := hF.2
        by_cases c1_3 : a = 3
        · have hF := hF.1 c1_3
          refine zd_tabI C ha 101 (3) c1_3 dX7_canBe_1 (by decide) (by decide) rfl (by decide) ?_
          refine lv_aload_n C.1 C.2.1 dX7_canBe_101 rfl (lv_at hl 0 rfl) ?_
          refine zd_iconst C dX7_canBe_102 ?_
          refine lv_iload_n C.1 C.2.1 dX7_canBe_103 rfl (lv_at hl 3 rfl) ?_
          refine zd_if_ne C hg 112 dX7_canBe_104 (by decide) (fun c8 => ?_) (fun c8 => ?_)
          · have hF := hF.1 c8
            refine zd_bipush C (by decide) dX7_canBe_112 ?_
            refine zgoi (zrunV (As := [.int (zI (0)), .int (zI (14))]) (rest := []) C hE hH hS hl.1 (c_X7_isFrom (l := l) hC.2 (0) (by decide) (14) (by decide)) k_RX7_141 ⟨Nat.le_of_ble_eq_true rfl, Nat.le_of_ble_eq_true rfl⟩ (zRr_n0 hC.1) (zRr_k0 hC.1) rfl rfl rfl (Nat.le_of_ble_eq_true rfl) dX7_canBe_114 ⟨Nat.zero_le _, Nat.zero_le _⟩) hS (fun rq Xq Yq Rq H locs hrq hq hH hS => ?_)
            obtain ⟨h91, h92⟩ := hq
            have h93 : Xq = X := congrArg (fun z => z.1) h92
            have h94 : Yq = Y := congrArg (fun z => z.2.1) h92
            have h95 : Rq = R := congrArg (fun z => z.2.2) h92
            rw [h93, h94, h95] at hH
            subst h91
            exact zd_zret C hr hlk hH hS bz_01 (⟨hF, rfl⟩) dX7_canBe_117
          · have hF := hF.2 c8
            refine zd_bipush C (by decide) dX7_canBe_107 ?_
            refine lv_goto (tgt := 114) C.1 C.2.1 dX7_canBe_109 (by decide) ?_
            refine zgoi (zrunV (As := [.int (zI (0)), .int (zI (40))]) (rest := []) C hE hH hS hl.1 (c_X7_isFrom (l := l) hC.2 (0) (by decide) (40) (by decide)) k_RX7_141 ⟨Nat.le_of_ble_eq_true rfl, Nat.le_of_ble_eq_true rfl⟩ (zRr_n0 hC.1) (zRr_k0 hC.1) rfl rfl rfl (Nat.le_of_ble_eq_true rfl) dX7_canBe_114 ⟨Nat.zero_le _, Nat.zero_le _⟩) hS (fun rq Xq Yq Rq H locs hrq hq hH hS => ?_)
            obtain ⟨h91, h92⟩ := hq
            have h93 : Xq = X := congrArg (fun z => z.1) h92
            have h94 : Yq = Y := congrArg (fun z => z.2.1) h92
            have h95 : Rq = R := congrArg (fun z => z.2.2) h92
            rw [h93, h94, h95] at hH
            subst h91
            exact zd_zret C hr hlk hH hS bz_01 (⟨hF, rfl⟩) dX7_canBe_117
        · have hF := hF.2
          have c1 := tsw_0_3 (a) c1_0 c1_1 c1_2 c1_3
          have hF := hF c1
          refine zd_tabO C ha 118 c1 dX7_canBe_1 (by decide) ?_
          refine lv_aload_n C.1 C.2.1 dX7_canBe_118 rfl (lv_at hl 0 rfl) ?_
          refine lv_iload_n C.1 C.2.1 dX7_canBe_119 rfl (lv_at hl 3 rfl) ?_
          refine zgoi (zrunV (As := [.int (zI (g))]) (rest := []) C hE hH hS hl.1 (c_X7_canBeOfPay (l := l) hC (g) hg) k_RX7_147 ⟨Nat.le_of_ble_eq_true rfl, Nat.le_of_ble_eq_true rfl⟩ (zRr_n0 hC.1) (zRr_k0 hC.1) rfl rfl rfl (Nat.le_of_ble_eq_true rfl) dX7_canBe_120 ⟨Nat.zero_le _, Nat.zero_le _⟩) hS (fun rq Xq Yq Rq H locs hrq hq hH hS => ?_)
          obtain ⟨h91, h92⟩ := hq
          have h93 : Xq = X := congrArg (fun z => z.1) h92
          have h94 : Yq = Y := congrArg (fun z => z.2.1) h92
          have h95 : Rq = R := congrArg (fun z => z.2.2) h92
          rw [h93, h94, h95] at hH
          subst h91
          exact zd_zret C hr hlk hH hS bz_01 (⟨hF, rfl⟩) dX7_canBe_123
theorem v_X7_canBe {X Y : Nat → Int → Int} {R : Nat → Int → Option Nat} {i j : Nat} (a : Int) (ha : rI a) (b : Int) (hb : rI b) (g : Int) (hg : rI g) (hp : 0 ≤ a ∧ a ≤ 4) : F_X7_canBe i j X Y R a b g := by
  unfold F_X7_canBe
  intro hX hY
  refine ⟨?_, ?_⟩
  · intro c1
    refine ⟨?_, ?_⟩
    · intro c2
      unfold cbB
      repeat' split
      all_goals first | (exfalso; omega) | rfl | (rw [decide_eq_true (by omega)]; rfl) | (rw [decide_eq_false (by omega)]; rfl)
    intro c3
    refine ⟨?_, ?_⟩
    · intro c4
      refine ⟨?_, ?_⟩
      · first | omega | exact ⟨by omega, by omega⟩ | decide | assumption | exact ⟨by omega, by omega, by omega⟩ | exact ⟨by decide, by decide⟩
      refine ⟨?_, ?_⟩
      · first | omega | exact ⟨by omega, by omega⟩ | decide | assumption | exact ⟨by omega, by omega, by omega⟩ | exact ⟨by decide, by decide⟩
      unfold cbB
      repeat' split
      all_goals first | (exfalso; omega) | rfl | (rw [decide_eq_true (by omega)]; rfl) | (rw [decide_eq_false (by omega)]; rfl)
    intro c5
    unfold cbB
    repeat' split
    all_goals first | (exfalso; omega) | rfl | (rw [decide_eq_true (by omega)]; rfl) | (rw [decide_eq_false (by omega)]; rfl)
  refine ⟨?_, ?_⟩
  · intro c6
    refine ⟨?_, ?_⟩
    · intro c7
      unfold cbB
      repeat' split
      all_goals first | (exfalso; omega) | rfl | (rw [decide_eq_true (by omega)]; rfl) | (rw [decide_eq_false (by omega)]; rfl)
    intro c8
    unfold cbB
    repeat' split
    all_goals first | (exfalso; omega) | rfl | (rw [decide_eq_true (by omega)]; rfl) | (rw [decide_eq_false (by omega)]; rfl)
  refine ⟨?_, ?_⟩
  · intro c9
    refine ⟨?_, ?_⟩
    · intro c10
      unfold cbB
      repeat' split
      all_goals first | (exfalso; omega) | rfl | (rw [decide_eq_true (by omega)]; rfl) | (rw [decide_eq_false (by omega)]; rfl)
    intro c11
    unfold cbB
    repeat' split
    all_goals first | (exfalso; omega) | rfl | (rw [decide_eq_true (by omega)]; rfl) | (rw [decide_eq_false (by omega)]; rfl)
  refine ⟨?_, ?_⟩
  · intro c12
    refine ⟨?_, ?_⟩
    · intro c13
      unfold cbB
      repeat' split
      all_goals first | (exfalso; omega) | rfl | (rw [decide_eq_true (by omega)]; rfl) | (rw [decide_eq_false (by omega)]; rfl)
    intro c14
    unfold cbB
    repeat' split
    all_goals first | (exfalso; omega) | rfl | (rw [decide_eq_true (by omega)]; rfl) | (rw [decide_eq_false (by omega)]; rfl)
  intro c15
  unfold cbB
  repeat' split
  all_goals first | (exfalso; omega) | rfl | (rw [decide_eq_true (by omega)]; rfl) | (rw [decide_eq_false (by omega)]; rfl)
theorem c_X7_canBe {l : Launch} {D : va_G} {cy : Nat → ClassId} {bs N : Nat} {sa : Nat → Nat} {kd len : Nat → Nat} {X Y : Nat → Int → Int} {R : Nat → Int → Option Nat} {i j : Nat} (hC : zRd1 N kd len R i j) (a : Int) (ha : rI a) (b : Int) (hb : rI b) (g : Int) (hg : rI g) (hp : 0 ≤ a ∧ a ≤ 4) : Met l yX7_canBe (.code yX7_canBe cX7_canBe 4 (some .boolean) :: zTB) (zRm 1 22) (zPc D cy bs sa N kd len X Y R [.ref (bs + (i)), .int (zI (a)), .int (zI (b)), .int (zI (g))]) (zQi D cy bs N kd len (fun r st => r = bz (cbB X i (a) (b) (g)) ∧ st = (X, Y, R))) 0 0 (zA bs) := w_X7_canBe hC a ha b hb g hg (v_X7_canBe a ha b hb g hg hp)
