/-! TIP; CHANCES -/
def tpOf (Z : Nat → Int → Int) (i : Nat) (w : Int) : Int := if w = 0 then (rTip Z i (mWo Z i 0) : Nat) else if w = 1 then rCb Z i else if w = 2 then (if whN (tpW Z i) (2 ^ ((Z i 27).toNat - 1)) = -1 then -1 else mOnes (whN (tpW Z i) (2 ^ ((Z i 27).toNat - 1)))) else if w = 3 then whN (tpW Z i) (2 ^ ((Z i 27).toNat - 1)) else -2
def rTipC (X : Nat → Int → Int) (i : Nat) (n c w : Int) : Int := if rOk X i n c then tpOf (hZ X i n c 0) i w else -2
abbrev cX11_tip : ByteArray := prog_13_method_82_code
def yX11_tip : MethodName := ⟨RX11, "tip", "(III)I"⟩
theorem dX11_tip_0 : decode cX11_tip 0 = .ok (.aload_n 0, 1) := by decide +kernel
theorem dX11_tip_1 : decode cX11_tip 1 = .ok (.iconst 0, 1) := by decide +kernel
theorem dX11_tip_2 : decode cX11_tip 2 = .ok (.putfield 88, 3) := by decide +kernel
theorem dX11_tip_5 : decode cX11_tip 5 = .ok (.aload_n 0, 1) := by decide +kernel
theorem dX11_tip_6 : decode cX11_tip 6 = .ok (.iload_n 1, 1) := by decide +kernel
theorem dX11_tip_7 : decode cX11_tip 7 = .ok (.iload_n 2, 1) := by decide +kernel
theorem dX11_tip_8 : decode cX11_tip 8 = .ok (.invokevirtual 397, 3) := by decide +kernel
theorem dX11_tip_11 : decode cX11_tip 11 = .ok (.ifCond .ne 6, 3) := by decide +kernel
theorem dX11_tip_14 : decode cX11_tip 14 = .ok (.bipush (-2), 2) := by decide +kernel
theorem dX11_tip_16 : decode cX11_tip 16 = .ok (.ireturn, 1) := by decide +kernel
theorem dX11_tip_17 : decode cX11_tip 17 = .ok (.iload_n 3, 1) := by decide +kernel
theorem dX11_tip_18 : decode cX11_tip 18 = .ok (.tableswitch 66 0 3 #[30, 36, 41, 61], 30) := by decide +kernel
theorem dX11_tip_48 : decode cX11_tip 48 = .ok (.aload_n 0, 1) := by decide +kernel
theorem dX11_tip_49 : decode cX11_tip 49 = .ok (.iconst 0, 1) := by decide +kernel
theorem dX11_tip_50 : decode cX11_tip 50 = .ok (.invokevirtual 420, 3) := by decide +kernel
theorem dX11_tip_53 : decode cX11_tip 53 = .ok (.ireturn, 1) := by decide +kernel
theorem dX11_tip_54 : decode cX11_tip 54 = .ok (.aload_n 0, 1) := by decide +kernel
theorem dX11_tip_55 : decode cX11_tip 55 = .ok (.invokevirtual 423, 3) := by decide +kernel
theorem dX11_tip_58 : decode cX11_tip 58 = .ok (.ireturn, 1) := by decide +kernel
theorem dX11_tip_59 : decode cX11_tip 59 = .ok (.aload_n 0, 1) := by decide +kernel
theorem dX11_tip_60 : decode cX11_tip 60 = .ok (.invokevirtual 426, 3) := by decide +kernel
theorem dX11_tip_63 : decode cX11_tip 63 = .ok (.iconst (-1), 1) := by decide +kernel
theorem dX11_tip_64 : decode cX11_tip 64 = .ok (.if_icmp .ne 7, 3) := by decide +kernel
theorem dX11_tip_67 : decode cX11_tip 67 = .ok (.iconst (-1), 1) := by decide +kernel
theorem dX11_tip_68 : decode cX11_tip 68 = .ok (.goto 10, 3) := by decide +kernel
theorem dX11_tip_71 : decode cX11_tip 71 = .ok (.aload_n 0, 1) := by decide +kernel
theorem dX11_tip_72 : decode cX11_tip 72 = .ok (.invokevirtual 426, 3) := by decide +kernel
theorem dX11_tip_75 : decode cX11_tip 75 = .ok (.invokestatic 385, 3) := by decide +kernel
theorem dX11_tip_78 : decode cX11_tip 78 = .ok (.ireturn, 1) := by decide +kernel
theorem dX11_tip_79 : decode cX11_tip 79 = .ok (.aload_n 0, 1) := by decide +kernel
theorem dX11_tip_80 : decode cX11_tip 80 = .ok (.invokevirtual 426, 3) := by decide +kernel
theorem dX11_tip_83 : decode cX11_tip 83 = .ok (.ireturn, 1) := by decide +kernel
theorem dX11_tip_84 : decode cX11_tip 84 = .ok (.bipush (-2), 2) := by decide +kernel
theorem dX11_tip_86 : decode cX11_tip 86 = .ok (.ireturn, 1) := by decide +kernel
theorem q_1796 : Cond.methodLink RX11 423 yX11_canBeTip ∈ zTB := zmem 1796 (by decide +kernel) rfl
theorem q_1798 : Cond.instanceMethod yX11_canBeTip ∈ zTB := zmem 1798 (by decide +kernel) rfl
theorem q_92 : Cond.selects RX11 yX11_canBeTip yX11_canBeTip ∈ zTB := zmem 92 (by decide +kernel) rfl
theorem q_1799 : Cond.code yX11_canBeTip cX11_canBeTip 6 (some .int) ∈ zTB := zmem 1799 (by decide +kernel) rfl
theorem k_RX11_423 : zLv RX11 423 RX11 yX11_canBeTip cX11_canBeTip 6 (some .int) 0 := ⟨⟨q_1796, q_1798, q_92, q_140, q_1799⟩, rfl, ⟨by decide, by decide⟩, by decide +kernel⟩
theorem q_1800 : Cond.methodLink RX11 426 yX11_withheld ∈ zTB := zmem 1800 (by decide +kernel) rfl
theorem q_1802 : Cond.instanceMethod yX11_withheld ∈ zTB := zmem 1802 (by decide +kernel) rfl
theorem q_93 : Cond.selects RX11 yX11_withheld yX11_withheld ∈ zTB := zmem 93 (by decide +kernel) rfl
theorem q_1803 : Cond.code yX11_withheld cX11_withheld 6 (some .int) ∈ zTB := zmem 1803 (by decide +kernel) rfl
theorem k_RX11_426 : zLv RX11 426 RX11 yX11_withheld cX11_withheld 6 (some .int) 0 := ⟨⟨q_1800, q_1802, q_93, q_140, q_1803⟩, rfl, ⟨by decide, by decide⟩, by decide +kernel⟩
def F_X11_tip (i : Nat) (X Y : Nat → Int → Int) (R : Nat → Int → Option Nat) (a : Int) (b : Int) (g : Int) : Prop := (∀ i j, rI (X i j)) → (∀ i j, rL (Y i j)) → ∀ X1 : Nat → Int → Int, X1 = zU X (i) 0 (0) → (∀ i j, rI (X1 i j)) → ((oTN X1 i) ∧ (∀ r5 : Bool, ∀ X3 : Nat → Int → Int, (∀ i j, rI (X3 i j)) → ∀ Y4 : Nat → Int → Int, (∀ i j, rL (Y4 i j)) → (r5 = (mIs i X1 1 (b) && mIs i X1 0 (a)) ∧ hK X1 (X3) Y (Y4) i ∧ (r5 = true → hS9 X1 (X3) i (a) (b) ∧ oH (X3) (Y4) i)) → (((r5 = true) → ((g = 0 → ((oH X3 Y4 i) ∧ (∀ r11 : Int, rI r11 → ∀ X9 : Nat → Int → Int, (∀ i j, rI (X9 i j)) → ∀ Y10 : Nat → Int → Int, (∀ i j, rL (Y10 i j)) → (r11 = ((rTip X3 i (mWo X3 i ((0 : Int))) : Nat) : Int) ∧ tW X3 (X9) i ∧ wK (X9) i (mWo X3 i ((0 : Int))) (X3 i 27).toNat ∧ ∀ a, a ≠ i + 18 → (Y10) a = Y4 a) → (r11 = rTipC X i (a) (b) (g) ∧ pK X (X9) i)))) ∧ (g = 1 → ((oH X3 Y4 i) ∧ (∀ r15 : Int, rI r15 → ∀ X13 : Nat → Int → Int, (∀ i j, rI (X13 i j)) → ∀ Y14 : Nat → Int → Int, (∀ i j, rL (Y14 i j)) → (r15 = rCb X3 i ∧ tW X3 (X13) i ∧ ∀ a, a ≠ i + 18 → (Y14) a = Y4 a) → (r15 = rTipC X i (a) (b) (g) ∧ pK X (X13) i)))) ∧ (g = 2 → ((oH X3 Y4 i) ∧ (∀ r19 : Int, rI r19 → ∀ X17 : Nat → Int → Int, (∀ i j, rI (X17 i j)) → ∀ Y18 : Nat → Int → Int, (∀ i j, rL (Y18 i j)) → (r19 = whN (tpW X3 i) (2 ^ ((X3 i 27).toNat - 1)) ∧ tW X3 (X17) i ∧ ∀ a, a ≠ i + 18 → (Y18) a = Y4 a) → (((¬ r19 = (-1)) → ((oH X17 Y18 i) ∧ (∀ r24 : Int, rI r24 → ∀ X22 : Nat → Int → Int, (∀ i j, rI (X22 i j)) → ∀ Y23 : Nat → Int → Int, (∀ i j, rL (Y23 i j)) → (r24 = whN (tpW X17 i) (2 ^ ((X17 i 27).toNat - 1)) ∧ tW X17 (X22) i ∧ ∀ a, a ≠ i + 18 → (Y23) a = Y18 a) → (rI (mOnes (r24)) → (mOnes (r24) = rTipC X i (a) (b) (g) ∧ pK X (X22) i))))) ∧ ((¬ (¬ r19 = (-1))) → ((-1) = rTipC X i (a) (b) (g) ∧ pK X (X17) i)))))) ∧ (g = 3 → ((oH X3 Y4 i) ∧ (∀ r29 : Int, rI r29 → ∀ X27 : Nat → Int → Int, (∀ i j, rI (X27 i j)) → ∀ Y28 : Nat → Int → Int, (∀ i j, rL (Y28 i j)) → (r29 = whN (tpW X3 i) (2 ^ ((X3 i 27).toNat - 1)) ∧ tW X3 (X27) i ∧ ∀ a, a ≠ i + 18 → (Y28) a = Y4 a) → (r29 = rTipC X i (a) (b) (g) ∧ pK X (X27) i)))) ∧ ((g < 0 ∨ 3 < g) → ((-2) = rTipC X i (a) (b) (g) ∧ pK X (X3) i)))) ∧ ((r5 = false) → ((-2) = rTipC X i (a) (b) (g) ∧ pK X (X3) i)))))
set_option maxHeartbeats 4000000 in
set_option maxRecDepth 100000 in
theorem w_X11_tip {l : Launch} {D : va_G} {cy : Nat → ClassId} {bs N : Nat} {sa : Nat → Nat} {kd len : Nat → Nat} {X Y : Nat → Int → Int} {R : Nat → Int → Option Nat} {i : Nat} (hM : zM N kd len R i) (a : Int) (ha : rI a) (b : Int) (hb : rI b) (g : Int) (hg : rI g) (hF : F_X11_tip i X Y R a b g) : Met l yX11_tip (.code yX11_tip cX11_tip 4 (some .int) :: zTB) (zRm 6 140) (zPc D cy bs sa N kd len X Y R [.ref (bs + (i)), .int (zI (a)), .int (zI (b)), .int (zI (g))]) (zQi D cy bs N kd len (fun r st => st.2.2 = R ∧ (r = rTipC X i (a) (b) (g) ∧ pK X (st.1) i))) 0 0 (zA bs) := by
  refine zstart (by decide) (Nat.le_of_ble_eq_true rfl) ?_
  intro p e s m args below meth c ls C hE hH hr hlk hnm hl hargs
  have hF := hF hH.2.2.1 hH.2.2.2
  have hS : va_S (zA bs) s.heap s.heap [] := va_S.rf
  have hl : lv_has ls 4 [(0, .ref (bs + (i))), (1, .int (zI (a))), (2, .int (zI (b))), (3, .int (zI (g)))] := hl
  refine lv_aload_n C.1 C.2.1 dX11_tip_0 rfl (lv_at hl 0 rfl) ?_
  refine zd_iconst C dX11_tip_1 ?_
  refine zp11_0 C hH hS (zM_n0 hM) (zM_k0 hM) q_1287 (by decide) dX11_tip_2 (fun H locs hH hS => ?_)
  obtain ⟨X1, eX1⟩ : ∃ z, z = zU X (i) 0 (0) := ⟨_, rfl⟩
  rw [← eX1] at hH
  have hF := hF X1 eX1 hH.2.2.1
  refine lv_aload_n C.1 C.2.1 dX11_tip_5 rfl (lv_at hl 0 rfl) ?_
  refine lv_iload_n C.1 C.2.1 dX11_tip_6 rfl (lv_at hl 1 rfl) ?_
  refine lv_iload_n C.1 C.2.1 dX11_tip_7 rfl (lv_at hl 2 rfl) ?_
  obtain ⟨o2, hF⟩ := hF
  refine zgoi (zrunV (As := [.int (zI (a)), .int (zI (b))]) (rest := []) C hE hH hS hl.1 (c_X11_hand (l := l) hM (a) ha (b) hb o2) k_RX11_397 ⟨Nat.le_of_ble_eq_true rfl, Nat.le_of_ble_eq_true rfl⟩ (zM_n0 hM) (zM_k0 hM) rfl rfl rfl (Nat.le_of_ble_eq_true rfl) dX11_tip_8 ⟨Nat.zero_le _, Nat.zero_le _⟩) hS (fun rq X3 Y4 Rq H locs hrq hq hH hS => ?_)
  obtain ⟨h9R, hq⟩ := hq
  dsimp only at h9R
  rw [h9R] at hH
  obtain ⟨r5, h91, hq⟩ := hq
  subst h91
  have hF := hF r5 X3 hH.2.2.1 Y4 hH.2.2.2 hq
  refine zd_ifB_ne C 17 dX11_tip_11 (by decide) (fun c6 => ?_) (fun c6 => ?_)
  · have hF := hF.1 c6
    refine lv_iload_n C.1 C.2.1 dX11_tip_17 rfl (lv_at hl 3 rfl) ?_
    by_cases c7_0 : g = 0
    · have hF := hF.1 c7_0
      refine zd_tabI C hg 48 (0) c7_0 dX11_tip_18 (by decide) (by decide) rfl (by decide) ?_
      refine lv_aload_n C.1 C.2.1 dX11_tip_48 rfl (lv_at hl 0 rfl) ?_
      refine zd_iconst C dX11_tip_49 ?_
      obtain ⟨o8, hF⟩ := hF
      refine zgoi (zrunV (As := [.int (zI (0))]) (rest := []) C hE hH hS hl.1 (c_X11_tipWithout (l := l) hM (0) (by decide) o8) k_RX11_420 ⟨Nat.le_of_ble_eq_true rfl, Nat.le_of_ble_eq_true rfl⟩ (zM_n0 hM) (zM_k0 hM) rfl rfl rfl (Nat.le_of_ble_eq_true rfl) dX11_tip_50 ⟨Nat.zero_le _, Nat.zero_le _⟩) hS (fun r11 X9 Y10 Rq H locs hrq hq hH hS => ?_)
      obtain ⟨h9R, hq⟩ := hq
      dsimp only at h9R
      rw [h9R] at hH
      have hr11 := hrq
      have hF := hF r11 hrq X9 hH.2.2.1 Y10 hH.2.2.2 hq
      exact zd_iret C hr hlk hH hS hr11 (⟨rfl, hF⟩) dX11_tip_53
    · have hF := hF.2
      by_cases c7_1 : g = 1
      · have hF := hF.1 c7_1
        refine zd_tabI C hg 54 (1) c7_1 dX11_tip_18 (by decide) (by decide) rfl (by decide) ?_
        refine lv_aload_n C.1 C.2.1 dX11_tip_54 rfl (lv_at hl 0 rfl) ?_
        obtain ⟨o12, hF⟩ := hF
        refine zgoi (zrunV (As := []) (rest := []) C hE hH hS hl.1 (c_X11_canBeTip (l := l) hM  o12) k_RX11_423 ⟨Nat.le_of_ble_eq_true rfl, Nat.le_of_ble_eq_true rfl⟩ (zM_n0 hM) (zM_k0 hM) rfl rfl rfl (Nat.le_of_ble_eq_true rfl) dX11_tip_55 ⟨Nat.zero_le _, Nat.zero_le _⟩) hS (fun r15 X13 Y14 Rq H locs hrq hq hH hS => ?_)
        obtain ⟨h9R, hq⟩ := hq
        dsimp only at h9R
        rw [h9R] at hH
        have hr15 := hrq
        have hF := hF r15 hrq X13 hH.2.2.1 Y14 hH.2.2.2 hq
        exact zd_iret C hr hlk hH hS hr15 (⟨rfl, hF⟩) dX11_tip_58
      · have hF := hF.2
        by_cases c7_2 : g = 2
        · have hF := hF.1 c7_2
          refine zd_tabI C hg 59 (2) c7_2 dX11_tip_18 (by decide) (by decide) rfl (by decide) ?_
          refine lv_aload_n C.1 C.2.1 dX11_tip_59 rfl (lv_at hl 0 rfl) ?_
          obtain ⟨o16, hF⟩ := hF
          refine zgoi (zrunV (As := []) (rest := []) C hE hH hS hl.1 (c_X11_withheld (l := l) hM  o16) k_RX11_426 ⟨Nat.le_of_ble_eq_true rfl, Nat.le_of_ble_eq_true rfl⟩ (zM_n0 hM) (zM_k0 hM) rfl rfl rfl (Nat.le_of_ble_eq_true rfl) dX11_tip_60 ⟨Nat.zero_le _, Nat.zero_le _⟩) hS (fun r19 X17 Y18 Rq H locs hrq hq hH hS => ?_)
          obtain ⟨h9R, hq⟩ := hq
          dsimp only at h9R
          rw [h9R] at hH
          have hr19 := hrq
          have hF := hF r19 hrq X17 hH.2.2.1 Y18 hH.2.2.2 hq
          refine zd_iconst C dX11_tip_63 ?_
          refine zd_icmp_ne C hr19 (by decide) 71 dX11_tip_64 (by decide) (fun c20 => ?_) (fun c20 => ?_)
          · have hF := hF.1 c20
            refine lv_aload_n C.1 C.2.1 dX11_tip_71 rfl (lv_at hl 0 rfl) ?_
            obtain ⟨o21, hF⟩ := hF
            refine zgoi (zrunV (As := []) (rest := []) C hE hH hS hl.1 (c_X11_withheld (l := l) hM  o21) k_RX11_426 ⟨Nat.le_of_ble_eq_true rfl, Nat.le_of_ble_eq_true rfl⟩ (zM_n0 hM) (zM_k0 hM) rfl rfl rfl (Nat.le_of_ble_eq_true rfl) dX11_tip_72 ⟨Nat.zero_le _, Nat.zero_le _⟩) hS (fun r24 X22 Y23 Rq H locs hrq hq hH hS => ?_)
            obtain ⟨h9R, hq⟩ := hq
            dsimp only at h9R
            rw [h9R] at hH
            have hr24 := hrq
            have hF := hF r24 hrq X22 hH.2.2.1 Y23 hH.2.2.2 hq
            refine zgoi (zrunS (As := [.int (zI (r24))]) (rest := []) C hE hH hS hl.1 (c_X11_ones (l := l)  (r24) hr24) k_RX11_385 ⟨Nat.le_of_ble_eq_true rfl, Nat.le_of_ble_eq_true rfl⟩ rfl (Nat.le_of_ble_eq_true rfl) dX11_tip_75 ⟨Nat.zero_le _, Nat.zero_le _⟩) hS (fun rq Xq Yq Rq H locs hrq hq hH hS => ?_)
            obtain ⟨h91, h92⟩ := hq
            have h93 : Xq = X22 := congrArg (fun z => z.1) h92
            have h94 : Yq = Y23 := congrArg (fun z => z.2.1) h92
            have h95 : Rq = R := congrArg (fun z => z.2.2) h92
            rw [h93, h94, h95] at hH
            subst h91
            have hr25 := hrq
            have hF := hF hr25
            exact zd_iret C hr hlk hH hS hr25 (⟨rfl, hF⟩) dX11_tip_78
          · have hF := hF.2 c20
            refine zd_iconst C dX11_tip_67 ?_
            refine lv_goto (tgt := 78) C.1 C.2.1 dX11_tip_68 (by decide) ?_
            exact zd_iret C hr hlk hH hS (by decide) (⟨rfl, hF⟩) dX11_tip_78
        · have hF := hF.2
          by_cases c7_3 : g = 3
          · have hF := hF.1 c7_3
            refine zd_tabI C hg 79 (3) c7_3 dX11_tip_18 (by decide) (by decide) rfl (by decide) ?_
            refine lv_aload_n C.1 C.2.1 dX11_tip_79 rfl (lv_at hl 0 rfl) ?_
            obtain ⟨o26, hF⟩ := hF
            refine zgoi (zrunV (As := []) (rest := []) C hE hH hS hl.1 (c_X11_withheld (l := l) hM  o26) k_RX11_426 ⟨Nat.le_of_ble_eq_true rfl, Nat.le_of_ble_eq_true rfl⟩ (zM_n0 hM) (zM_k0 hM) rfl rfl rfl (Nat.le_of_ble_eq_true rfl) dX11_tip_80 ⟨Nat.zero_le _, Nat.zero_le _⟩) hS (fun r29 X27 Y28 Rq H locs hrq hq hH hS => ?_)
            obtain ⟨h9R, hq⟩ := hq
            dsimp only at h9R
            rw [h9R] at hH
            have hr29 := hrq
            have hF := hF r29 hrq X27 hH.2.2.1 Y28 hH.2.2.2 hq
            exact zd_iret C hr hlk hH hS hr29 (⟨rfl, hF⟩) dX11_tip_83
          · have hF := hF.2
            have c7 := tsw_0_3 (g) c7_0 c7_1 c7_2 c7_3
            have hF := hF c7
            refine zd_tabO C hg 84 c7 dX11_tip_18 (by decide) ?_
            refine zd_bipush C (by decide) dX11_tip_84 ?_
            exact zd_iret C hr hlk hH hS (by decide) (⟨rfl, hF⟩) dX11_tip_86
  · have hF := hF.2 c6
    refine zd_bipush C (by decide) dX11_tip_14 ?_
    exact zd_iret C hr hlk hH hS (by decide) (⟨rfl, hF⟩) dX11_tip_16
theorem v_X11_tip {X Y : Nat → Int → Int} {R : Nat → Int → Option Nat} {i : Nat} (a : Int) (ha : rI a) (b : Int) (hb : rI b) (g : Int) (hg : rI g) (hp : oTN X i) : F_X11_tip i X Y R a b g := by
  unfold F_X11_tip
  intro hX hY
  have hT := hp
  intro X1
  intro eX1
  intro rX1
  refine ⟨?_, ?_⟩
  · first | omega | exact ⟨by omega, by omega⟩ | decide | assumption | exact ⟨by omega, by omega, by omega⟩ | exact ⟨by decide, by decide⟩
  intro r5
  intro X3
  intro rX3
  intro Y4
  intro rY4
  intro h1
  refine ⟨?_, ?_⟩
  · intro c1
    refine ⟨?_, ?_⟩
    · intro c2
      refine ⟨?_, ?_⟩
      · first | omega | exact ⟨by omega, by omega⟩ | decide | assumption | exact ⟨by omega, by omega, by omega⟩ | exact ⟨by decide, by decide⟩
      intro r11
      intro _
      intro X9
      intro rX9
      intro Y10
      intro rY10
      intro h2
      sorry
    refine ⟨?_, ?_⟩
    · intro c3
      refine ⟨?_, ?_⟩
      · first | omega | exact ⟨by omega, by omega⟩ | decide | assumption | exact ⟨by omega, by omega, by omega⟩ | exact ⟨by decide, by decide⟩
      intro r15
      intro _
      intro X13
      intro rX13
      intro Y14
      intro rY14
      intro h3
      sorry
    refine ⟨?_, ?_⟩
    · intro c4
      refine ⟨?_, ?_⟩
      · first | omega | exact ⟨by omega, by omega⟩ | decide | assumption | exact ⟨by omega, by omega, by omega⟩ | exact ⟨by decide, by decide⟩
      intro r19
      intro _
      intro X17
      intro rX17
      intro Y18
      intro rY18
      intro h4
      refine ⟨?_, ?_⟩
      · intro c5
        refine ⟨?_, ?_⟩
        · first | omega | exact ⟨by omega, by omega⟩ | decide | assumption | exact ⟨by omega, by omega, by omega⟩ | exact ⟨by decide, by decide⟩
        intro r24
        intro _
        intro X22
        intro rX22
        intro Y23
        intro rY23
        intro h5
        intro _
        sorry
      intro c6
      sorry
    refine ⟨?_, ?_⟩
    · intro c7
      refine ⟨?_, ?_⟩
      · first | omega | exact ⟨by omega, by omega⟩ | decide | assumption | exact ⟨by omega, by omega, by omega⟩ | exact ⟨by decide, by decide⟩
      intro r29
      intro _
      intro X27
      intro rX27
      intro Y28
      intro rY28
      intro h6
      sorry
    intro c8
    sorry
  intro c9
  sorry
theorem c_X11_tip {l : Launch} {D : va_G} {cy : Nat → ClassId} {bs N : Nat} {sa : Nat → Nat} {kd len : Nat → Nat} {X Y : Nat → Int → Int} {R : Nat → Int → Option Nat} {i : Nat} (hM : zM N kd len R i) (a : Int) (ha : rI a) (b : Int) (hb : rI b) (g : Int) (hg : rI g) (hp : oTN X i) : Met l yX11_tip (.code yX11_tip cX11_tip 4 (some .int) :: zTB) (zRm 6 140) (zPc D cy bs sa N kd len X Y R [.ref (bs + (i)), .int (zI (a)), .int (zI (b)), .int (zI (g))]) (zQi D cy bs N kd len (fun r st => st.2.2 = R ∧ (r = rTipC X i (a) (b) (g) ∧ pK X (st.1) i))) 0 0 (zA bs) := w_X11_tip hM a ha b hb g hg (v_X11_tip a ha b hb g hg hp)
abbrev cX11_caught : ByteArray := prog_13_method_100_code
def yX11_caught : MethodName := ⟨RX11, "caught", "(IIII)J"⟩
theorem dX11_caught_0 : decode cX11_caught 0 = .ok (.iconst 0, 1) := by decide +kernel
theorem dX11_caught_1 : decode cX11_caught 1 = .ok (.istore 5, 2) := by decide +kernel
theorem dX11_caught_3 : decode cX11_caught 3 = .ok (.iload 5, 2) := by decide +kernel
theorem dX11_caught_5 : decode cX11_caught 5 = .ok (.bipush 20, 2) := by decide +kernel
theorem dX11_caught_7 : decode cX11_caught 7 = .ok (.if_icmp .ge 27, 3) := by decide +kernel
theorem dX11_caught_10 : decode cX11_caught 10 = .ok (.aload_n 0, 1) := by decide +kernel
theorem dX11_caught_11 : decode cX11_caught 11 = .ok (.getfield 72, 3) := by decide +kernel
theorem dX11_caught_14 : decode cX11_caught 14 = .ok (.iload 5, 2) := by decide +kernel
theorem dX11_caught_16 : decode cX11_caught 16 = .ok (.iload 5, 2) := by decide +kernel
theorem dX11_caught_18 : decode cX11_caught 18 = .ok (.iload_n 1, 1) := by decide +kernel
theorem dX11_caught_19 : decode cX11_caught 19 = .ok (.if_icmp .ne 7, 3) := by decide +kernel
theorem dX11_caught_22 : decode cX11_caught 22 = .ok (.lconst 1, 1) := by decide +kernel
theorem dX11_caught_23 : decode cX11_caught 23 = .ok (.goto 4, 3) := by decide +kernel
theorem dX11_caught_26 : decode cX11_caught 26 = .ok (.lconst 0, 1) := by decide +kernel
theorem dX11_caught_27 : decode cX11_caught 27 = .ok (.lastore, 1) := by decide +kernel
theorem dX11_caught_28 : decode cX11_caught 28 = .ok (.iinc 5 1, 3) := by decide +kernel
theorem dX11_caught_31 : decode cX11_caught 31 = .ok (.goto (-28), 3) := by decide +kernel
theorem dX11_caught_34 : decode cX11_caught 34 = .ok (.iconst 0, 1) := by decide +kernel
theorem dX11_caught_35 : decode cX11_caught 35 = .ok (.istore 5, 2) := by decide +kernel
theorem dX11_caught_37 : decode cX11_caught 37 = .ok (.iload 5, 2) := by decide +kernel
theorem dX11_caught_39 : decode cX11_caught 39 = .ok (.iload_n 2, 1) := by decide +kernel
theorem dX11_caught_40 : decode cX11_caught 40 = .ok (.if_icmp .ge 149, 3) := by decide +kernel
theorem dX11_caught_43 : decode cX11_caught 43 = .ok (.iconst 0, 1) := by decide +kernel
theorem dX11_caught_44 : decode cX11_caught 44 = .ok (.istore 6, 2) := by decide +kernel
theorem dX11_caught_46 : decode cX11_caught 46 = .ok (.iload 6, 2) := by decide +kernel
theorem dX11_caught_48 : decode cX11_caught 48 = .ok (.bipush 20, 2) := by decide +kernel
theorem dX11_caught_50 : decode cX11_caught 50 = .ok (.if_icmp .ge 103, 3) := by decide +kernel
theorem dX11_caught_53 : decode cX11_caught 53 = .ok (.aload_n 0, 1) := by decide +kernel
theorem dX11_caught_54 : decode cX11_caught 54 = .ok (.getfield 75, 3) := by decide +kernel
theorem dX11_caught_57 : decode cX11_caught 57 = .ok (.iload 6, 2) := by decide +kernel
theorem dX11_caught_59 : decode cX11_caught 59 = .ok (.iload 6, 2) := by decide +kernel
theorem dX11_caught_61 : decode cX11_caught 61 = .ok (.ifCond .ne 18, 3) := by decide +kernel
theorem dX11_caught_64 : decode cX11_caught 64 = .ok (.aload_n 0, 1) := by decide +kernel
theorem dX11_caught_65 : decode cX11_caught 65 = .ok (.getfield 72, 3) := by decide +kernel
theorem dX11_caught_68 : decode cX11_caught 68 = .ok (.iconst 0, 1) := by decide +kernel
theorem dX11_caught_69 : decode cX11_caught 69 = .ok (.laload, 1) := by decide +kernel
theorem dX11_caught_70 : decode cX11_caught 70 = .ok (.iload_n 3, 1) := by decide +kernel
theorem dX11_caught_71 : decode cX11_caught 71 = .ok (.iload 4, 2) := by decide +kernel
theorem dX11_caught_73 : decode cX11_caught 73 = .ok (.iadd, 1) := by decide +kernel
theorem dX11_caught_74 : decode cX11_caught 74 = .ok (.i2l, 1) := by decide +kernel
theorem dX11_caught_75 : decode cX11_caught 75 = .ok (.lmul, 1) := by decide +kernel
theorem dX11_caught_76 : decode cX11_caught 76 = .ok (.goto 4, 3) := by decide +kernel
theorem dX11_caught_79 : decode cX11_caught 79 = .ok (.lconst 0, 1) := by decide +kernel
theorem dX11_caught_80 : decode cX11_caught 80 = .ok (.lastore, 1) := by decide +kernel
theorem dX11_caught_81 : decode cX11_caught 81 = .ok (.aload_n 0, 1) := by decide +kernel
theorem dX11_caught_82 : decode cX11_caught 82 = .ok (.getfield 75, 3) := by decide +kernel
theorem dX11_caught_85 : decode cX11_caught 85 = .ok (.iload 6, 2) := by decide +kernel
theorem dX11_caught_87 : decode cX11_caught 87 = .ok (.dup2, 1) := by decide +kernel
theorem dX11_caught_88 : decode cX11_caught 88 = .ok (.laload, 1) := by decide +kernel
theorem dX11_caught_89 : decode cX11_caught 89 = .ok (.iload 6, 2) := by decide +kernel
theorem dX11_caught_91 : decode cX11_caught 91 = .ok (.bipush 19, 2) := by decide +kernel
theorem dX11_caught_93 : decode cX11_caught 93 = .ok (.if_icmp .ge 18, 3) := by decide +kernel
theorem dX11_caught_96 : decode cX11_caught 96 = .ok (.aload_n 0, 1) := by decide +kernel
theorem dX11_caught_97 : decode cX11_caught 97 = .ok (.getfield 72, 3) := by decide +kernel
theorem dX11_caught_100 : decode cX11_caught 100 = .ok (.iload 6, 2) := by decide +kernel
theorem dX11_caught_102 : decode cX11_caught 102 = .ok (.iconst 1, 1) := by decide +kernel
theorem dX11_caught_103 : decode cX11_caught 103 = .ok (.iadd, 1) := by decide +kernel
theorem dX11_caught_104 : decode cX11_caught 104 = .ok (.laload, 1) := by decide +kernel
theorem dX11_caught_105 : decode cX11_caught 105 = .ok (.iload_n 3, 1) := by decide +kernel
theorem dX11_caught_106 : decode cX11_caught 106 = .ok (.i2l, 1) := by decide +kernel
theorem dX11_caught_107 : decode cX11_caught 107 = .ok (.lmul, 1) := by decide +kernel
theorem dX11_caught_108 : decode cX11_caught 108 = .ok (.goto 4, 3) := by decide +kernel
theorem dX11_caught_111 : decode cX11_caught 111 = .ok (.lconst 0, 1) := by decide +kernel
theorem dX11_caught_112 : decode cX11_caught 112 = .ok (.ladd, 1) := by decide +kernel
theorem dX11_caught_113 : decode cX11_caught 113 = .ok (.lastore, 1) := by decide +kernel
theorem dX11_caught_114 : decode cX11_caught 114 = .ok (.aload_n 0, 1) := by decide +kernel
theorem dX11_caught_115 : decode cX11_caught 115 = .ok (.getfield 75, 3) := by decide +kernel
theorem dX11_caught_118 : decode cX11_caught 118 = .ok (.iload 6, 2) := by decide +kernel
theorem dX11_caught_120 : decode cX11_caught 120 = .ok (.dup2, 1) := by decide +kernel
theorem dX11_caught_121 : decode cX11_caught 121 = .ok (.laload, 1) := by decide +kernel
theorem dX11_caught_122 : decode cX11_caught 122 = .ok (.iload 6, 2) := by decide +kernel
theorem dX11_caught_124 : decode cX11_caught 124 = .ok (.iconst 1, 1) := by decide +kernel
theorem dX11_caught_125 : decode cX11_caught 125 = .ok (.if_icmp .le 19, 3) := by decide +kernel
theorem dX11_caught_128 : decode cX11_caught 128 = .ok (.aload_n 0, 1) := by decide +kernel
theorem dX11_caught_129 : decode cX11_caught 129 = .ok (.getfield 72, 3) := by decide +kernel
theorem dX11_caught_132 : decode cX11_caught 132 = .ok (.iload 6, 2) := by decide +kernel
theorem dX11_caught_134 : decode cX11_caught 134 = .ok (.iconst 1, 1) := by decide +kernel
theorem dX11_caught_135 : decode cX11_caught 135 = .ok (.isub, 1) := by decide +kernel
theorem dX11_caught_136 : decode cX11_caught 136 = .ok (.laload, 1) := by decide +kernel
theorem dX11_caught_137 : decode cX11_caught 137 = .ok (.iload 4, 2) := by decide +kernel
theorem dX11_caught_139 : decode cX11_caught 139 = .ok (.i2l, 1) := by decide +kernel
theorem dX11_caught_140 : decode cX11_caught 140 = .ok (.lmul, 1) := by decide +kernel
theorem dX11_caught_141 : decode cX11_caught 141 = .ok (.goto 4, 3) := by decide +kernel
theorem dX11_caught_144 : decode cX11_caught 144 = .ok (.lconst 0, 1) := by decide +kernel
theorem dX11_caught_145 : decode cX11_caught 145 = .ok (.ladd, 1) := by decide +kernel
theorem dX11_caught_146 : decode cX11_caught 146 = .ok (.lastore, 1) := by decide +kernel
theorem dX11_caught_147 : decode cX11_caught 147 = .ok (.iinc 6 1, 3) := by decide +kernel
theorem dX11_caught_150 : decode cX11_caught 150 = .ok (.goto (-104), 3) := by decide +kernel
theorem dX11_caught_153 : decode cX11_caught 153 = .ok (.iconst 0, 1) := by decide +kernel
theorem dX11_caught_154 : decode cX11_caught 154 = .ok (.istore 6, 2) := by decide +kernel
theorem dX11_caught_156 : decode cX11_caught 156 = .ok (.iload 6, 2) := by decide +kernel
theorem dX11_caught_158 : decode cX11_caught 158 = .ok (.bipush 20, 2) := by decide +kernel
theorem dX11_caught_160 : decode cX11_caught 160 = .ok (.if_icmp .ge 23, 3) := by decide +kernel
theorem dX11_caught_163 : decode cX11_caught 163 = .ok (.aload_n 0, 1) := by decide +kernel
theorem dX11_caught_164 : decode cX11_caught 164 = .ok (.getfield 72, 3) := by decide +kernel
theorem dX11_caught_167 : decode cX11_caught 167 = .ok (.iload 6, 2) := by decide +kernel
theorem dX11_caught_169 : decode cX11_caught 169 = .ok (.aload_n 0, 1) := by decide +kernel
theorem dX11_caught_170 : decode cX11_caught 170 = .ok (.getfield 75, 3) := by decide +kernel
theorem dX11_caught_173 : decode cX11_caught 173 = .ok (.iload 6, 2) := by decide +kernel
theorem dX11_caught_175 : decode cX11_caught 175 = .ok (.laload, 1) := by decide +kernel
theorem dX11_caught_176 : decode cX11_caught 176 = .ok (.lastore, 1) := by decide +kernel
theorem dX11_caught_177 : decode cX11_caught 177 = .ok (.iinc 6 1, 3) := by decide +kernel
theorem dX11_caught_180 : decode cX11_caught 180 = .ok (.goto (-24), 3) := by decide +kernel
theorem dX11_caught_183 : decode cX11_caught 183 = .ok (.iinc 5 1, 3) := by decide +kernel
theorem dX11_caught_186 : decode cX11_caught 186 = .ok (.goto (-149), 3) := by decide +kernel
theorem dX11_caught_189 : decode cX11_caught 189 = .ok (.aload_n 0, 1) := by decide +kernel
theorem dX11_caught_190 : decode cX11_caught 190 = .ok (.getfield 72, 3) := by decide +kernel
theorem dX11_caught_193 : decode cX11_caught 193 = .ok (.iconst 0, 1) := by decide +kernel
theorem dX11_caught_194 : decode cX11_caught 194 = .ok (.laload, 1) := by decide +kernel
theorem dX11_caught_195 : decode cX11_caught 195 = .ok (.lreturn, 1) := by decide +kernel
theorem q_1340 : Cond.fieldLink RX11 72 RX11 "far" "[J" ∈ zTB := zmem 1340 (by decide +kernel) rfl
theorem q_1341 : Cond.fieldLink RX11 75 RX11 "farNext" "[J" ∈ zTB := zmem 1341 (by decide +kernel) rfl
def F_X11_caught (i : Nat) (X Y : Nat → Int → Int) (R : Nat → Int → Option Nat) (a : Int) (b : Int) (g : Int) (d : Int) : Prop := (∀ i j, rI (X i j)) → (∀ i j, rL (Y i j)) → (True) ∧ (∀ (j : Int) (Y2 : Nat → Int → Int), rI j → (∀ i j, rL (Y2 i j)) → (True) → (((20 ≤ j) → ((True) ∧ (∀ (k : Int) (Y5 : Nat → Int → Int), rI k → (∀ i j, rL (Y5 i j)) → (True) → (((b ≤ k) → (True)) ∧ ((¬ (b ≤ k)) → ((True) ∧ (∀ (j : Int) (Y8 : Nat → Int → Int), rI j → (∀ i j, rL (Y8 i j)) → (True) → (((20 ≤ j) → ((True) ∧ (∀ (j : Int) (Y11 : Nat → Int → Int), rI j → (∀ i j, rL (Y11 i j)) → (True) → (((20 ≤ j) → ((rI (k + 1)) ∧ (True) ∧ (((b - (k + 1)).toNat) < ((b - (k)).toNat)))) ∧ ((¬ (20 ≤ j)) → ((0 ≤ j ∧ j < 20) ∧ ((0 ≤ j ∧ j < 20) ∧ (∀ Y16 : Nat → Int → Int, Y16 = zU Y11 (i + 21) (j) (Y11 (i + 22) (j)) → (∀ i j, rL (Y16 i j)) → ((rI (j + 1)) ∧ (True) ∧ (((20 - (j + 1)).toNat) < ((20 - (j)).toNat))))))))))) ∧ ((¬ (20 ≤ j)) → (((¬ j = 0) → ((0 ≤ j ∧ j < 20) ∧ (∀ Y20 : Nat → Int → Int, Y20 = zU Y8 (i + 22) (j) (0) → (∀ i j, rL (Y20 i j)) → ((0 ≤ j ∧ j < 20) ∧ (((19 ≤ j) → ((0 ≤ j ∧ j < 20) ∧ ((rL ((Y20 (i + 22) (j)) + (0))) ∧ (∀ Y25 : Nat → Int → Int, Y25 = zU Y20 (i + 22) (j) ((Y20 (i + 22) (j)) + (0)) → (∀ i j, rL (Y25 i j)) → ((0 ≤ j ∧ j < 20) ∧ (((j ≤ 1) → ((0 ≤ j ∧ j < 20) ∧ ((rL ((Y25 (i + 22) (j)) + (0))) ∧ (∀ Y30 : Nat → Int → Int, Y30 = zU Y25 (i + 22) (j) ((Y25 (i + 22) (j)) + (0)) → (∀ i j, rL (Y30 i j)) → ((rI (j + 1)) ∧ (True) ∧ (((20 - (j + 1)).toNat) < ((20 - (j)).toNat))))))) ∧ ((¬ (j ≤ 1)) → ((0 ≤ (j - 1) ∧ (j - 1) < 20) ∧ ((0 ≤ j ∧ j < 20) ∧ ((rL ((Y25 (i + 22) (j)) + ((Y25 (i + 21) (j - 1)) * (d)))) ∧ (∀ Y35 : Nat → Int → Int, Y35 = zU Y25 (i + 22) (j) ((Y25 (i + 22) (j)) + ((Y25 (i + 21) (j - 1)) * (d))) → (∀ i j, rL (Y35 i j)) → ((rI (j + 1)) ∧ (True) ∧ (((20 - (j + 1)).toNat) < ((20 - (j)).toNat)))))))))))))) ∧ ((¬ (19 ≤ j)) → ((0 ≤ (j + 1) ∧ (j + 1) < 20) ∧ ((0 ≤ j ∧ j < 20) ∧ ((rL ((Y20 (i + 22) (j)) + ((Y20 (i + 21) (j + 1)) * (g)))) ∧ (∀ Y40 : Nat → Int → Int, Y40 = zU Y20 (i + 22) (j) ((Y20 (i + 22) (j)) + ((Y20 (i + 21) (j + 1)) * (g))) → (∀ i j, rL (Y40 i j)) → ((0 ≤ j ∧ j < 20) ∧ (((j ≤ 1) → ((0 ≤ j ∧ j < 20) ∧ ((rL ((Y40 (i + 22) (j)) + (0))) ∧ (∀ Y45 : Nat → Int → Int, Y45 = zU Y40 (i + 22) (j) ((Y40 (i + 22) (j)) + (0)) → (∀ i j, rL (Y45 i j)) → ((rI (j + 1)) ∧ (True) ∧ (((20 - (j + 1)).toNat) < ((20 - (j)).toNat))))))) ∧ ((¬ (j ≤ 1)) → ((0 ≤ (j - 1) ∧ (j - 1) < 20) ∧ ((0 ≤ j ∧ j < 20) ∧ ((rL ((Y40 (i + 22) (j)) + ((Y40 (i + 21) (j - 1)) * (d)))) ∧ (∀ Y50 : Nat → Int → Int, Y50 = zU Y40 (i + 22) (j) ((Y40 (i + 22) (j)) + ((Y40 (i + 21) (j - 1)) * (d))) → (∀ i j, rL (Y50 i j)) → ((rI (j + 1)) ∧ (True) ∧ (((20 - (j + 1)).toNat) < ((20 - (j)).toNat)))))))))))))))))))) ∧ ((¬ (¬ j = 0)) → ((rI (g + d)) ∧ ((0 ≤ j ∧ j < 20) ∧ ((rL ((Y8 (i + 21) (0)) * (g + d))) ∧ (∀ Y55 : Nat → Int → Int, Y55 = zU Y8 (i + 22) (j) ((Y8 (i + 21) (0)) * (g + d)) → (∀ i j, rL (Y55 i j)) → ((0 ≤ j ∧ j < 20) ∧ (((19 ≤ j) → ((0 ≤ j ∧ j < 20) ∧ ((rL ((Y55 (i + 22) (j)) + (0))) ∧ (∀ Y60 : Nat → Int → Int, Y60 = zU Y55 (i + 22) (j) ((Y55 (i + 22) (j)) + (0)) → (∀ i j, rL (Y60 i j)) → ((0 ≤ j ∧ j < 20) ∧ (((j ≤ 1) → ((0 ≤ j ∧ j < 20) ∧ ((rL ((Y60 (i + 22) (j)) + (0))) ∧ (∀ Y65 : Nat → Int → Int, Y65 = zU Y60 (i + 22) (j) ((Y60 (i + 22) (j)) + (0)) → (∀ i j, rL (Y65 i j)) → ((rI (j + 1)) ∧ (True) ∧ (((20 - (j + 1)).toNat) < ((20 - (j)).toNat))))))) ∧ ((¬ (j ≤ 1)) → ((0 ≤ (j - 1) ∧ (j - 1) < 20) ∧ ((0 ≤ j ∧ j < 20) ∧ ((rL ((Y60 (i + 22) (j)) + ((Y60 (i + 21) (j - 1)) * (d)))) ∧ (∀ Y70 : Nat → Int → Int, Y70 = zU Y60 (i + 22) (j) ((Y60 (i + 22) (j)) + ((Y60 (i + 21) (j - 1)) * (d))) → (∀ i j, rL (Y70 i j)) → ((rI (j + 1)) ∧ (True) ∧ (((20 - (j + 1)).toNat) < ((20 - (j)).toNat)))))))))))))) ∧ ((¬ (19 ≤ j)) → ((0 ≤ (j + 1) ∧ (j + 1) < 20) ∧ ((0 ≤ j ∧ j < 20) ∧ ((rL ((Y55 (i + 22) (j)) + ((Y55 (i + 21) (j + 1)) * (g)))) ∧ (∀ Y75 : Nat → Int → Int, Y75 = zU Y55 (i + 22) (j) ((Y55 (i + 22) (j)) + ((Y55 (i + 21) (j + 1)) * (g))) → (∀ i j, rL (Y75 i j)) → ((0 ≤ j ∧ j < 20) ∧ (((j ≤ 1) → ((0 ≤ j ∧ j < 20) ∧ ((rL ((Y75 (i + 22) (j)) + (0))) ∧ (∀ Y80 : Nat → Int → Int, Y80 = zU Y75 (i + 22) (j) ((Y75 (i + 22) (j)) + (0)) → (∀ i j, rL (Y80 i j)) → ((rI (j + 1)) ∧ (True) ∧ (((20 - (j + 1)).toNat) < ((20 - (j)).toNat))))))) ∧ ((¬ (j ≤ 1)) → ((0 ≤ (j - 1) ∧ (j - 1) < 20) ∧ ((0 ≤ j ∧ j < 20) ∧ ((rL ((Y75 (i + 22) (j)) + ((Y75 (i + 21) (j - 1)) * (d)))) ∧ (∀ Y85 : Nat → Int → Int, Y85 = zU Y75 (i + 22) (j) ((Y75 (i + 22) (j)) + ((Y75 (i + 21) (j - 1)) * (d))) → (∀ i j, rL (Y85 i j)) → ((rI (j + 1)) ∧ (True) ∧ (((20 - (j + 1)).toNat) < ((20 - (j)).toNat)))))))))))))))))))))))))))))))) ∧ ((¬ (20 ≤ j)) → (((¬ j = a) → ((0 ≤ j ∧ j < 20) ∧ (∀ Y89 : Nat → Int → Int, Y89 = zU Y2 (i + 21) (j) (0) → (∀ i j, rL (Y89 i j)) → ((rI (j + 1)) ∧ (True) ∧ (((20 - (j + 1)).toNat) < ((20 - (j)).toNat)))))) ∧ ((¬ (¬ j = a)) → ((0 ≤ j ∧ j < 20) ∧ (∀ Y92 : Nat → Int → Int, Y92 = zU Y2 (i + 21) (j) (1) → (∀ i j, rL (Y92 i j)) → ((rI (j + 1)) ∧ (True) ∧ (((20 - (j + 1)).toNat) < ((20 - (j)).toNat))))))))))
set_option maxHeartbeats 4000000 in
set_option maxRecDepth 100000 in
theorem w_X11_caught {l : Launch} {D : va_G} {cy : Nat → ClassId} {bs N : Nat} {sa : Nat → Nat} {kd len : Nat → Nat} {X Y : Nat → Int → Int} {R : Nat → Int → Option Nat} {i : Nat} (hM : zM N kd len R i) (a : Int) (ha : rI a) (b : Int) (hb : rI b) (g : Int) (hg : rI g) (d : Int) (hd : rI d) (hF : F_X11_caught i X Y R a b g d) : Met l yX11_caught (.code yX11_caught cX11_caught 7 (some .long) :: zTB) (zRm 0 0) (zPc D cy bs sa N kd len X Y R [.ref (bs + (i)), .int (zI (a)), .int (zI (b)), .int (zI (g)), .int (zI (d))]) (zQl D cy bs N kd len (fun r st => st.1 = X ∧ st.2.2 = R ∧ (True))) 0 0 (zA bs) := by
  refine zstart (by decide) (Nat.le_of_ble_eq_true rfl) ?_
  intro p e s m args below meth c ls C hE hH hr hlk hnm hl hargs
  have hF := hF hH.2.2.1 hH.2.2.2
  have hS : va_S (zA bs) s.heap s.heap [] := va_S.rf
  have hl : lv_has ls 7 [(0, .ref (bs + (i))), (1, .int (zI (a))), (2, .int (zI (b))), (3, .int (zI (g))), (4, .int (zI (d)))] := hl
  refine zd_iconst C dX11_caught_0 ?_
  refine lv_istore (lv' := [(5, .int (zI (0))), (0, .ref (bs + (i))), (1, .int (zI (a))), (2, .int (zI (b))), (3, .int (zI (g))), (4, .int (zI (d)))]) C.1 C.2.1 dX11_caught_1 hl (by decide) rfl (fun ls hl => ?_)
  obtain ⟨hI1, hF⟩ := hF
  have L1 : ∀ (fu : Nat) (j : Int) (Y2 : Nat → Int → Int), rI j → (True) → ((20 - (j)).toNat) < fu → ∀ (H : Heap) (locs : List Loc) (ls : Array Slot), zH D cy bs N kd len X Y2 R H → va_S (zA bs) s.heap H locs → lv_has ls 7 [(5, .int (zI (j))), (0, .ref (bs + (i))), (1, .int (zI (a))), (2, .int (zI (b))), (3, .int (zI (g))), (4, .int (zI (d)))] → W p l e (zRm 0 0) s m args below meth c H locs 0 0 (MQ below (zQl D cy bs N kd len (fun r st => st.1 = X ∧ st.2.2 = R ∧ (True))) args s 0 0 (zA bs)) (F0 m 3 ls []) := by
    intro fu
    induction fu with
    | zero => intro j Y2 _ _ hmu; exact absurd hmu (Nat.not_lt_zero _)
    | succ fu ih1 =>
      intro j Y2 hj hI hmu1 H locs ls hH hS hl
      have hF := hF j Y2 hj hH.2.2.2 hI
      refine lv_iload C.1 C.2.1 dX11_caught_3 (lv_at hl 0 rfl) ?_
      refine zd_bipush C (by decide) dX11_caught_5 ?_
      refine zd_icmp_ge C hj (by decide) 34 dX11_caught_7 (by decide) (fun c3 => ?_) (fun c3 => ?_)
      · have hF := hF.1 c3
        refine zd_iconst C dX11_caught_34 ?_
        refine lv_istore (lv' := [(5, .int (zI (0))), (0, .ref (bs + (i))), (1, .int (zI (a))), (2, .int (zI (b))), (3, .int (zI (g))), (4, .int (zI (d)))]) C.1 C.2.1 dX11_caught_35 hl (by decide) rfl (fun ls hl => ?_)
        obtain ⟨hI4, hF⟩ := hF
        have L4 : ∀ (fu : Nat) (k : Int) (Y5 : Nat → Int → Int), rI k → (True) → ((b - (k)).toNat) < fu → ∀ (H : Heap) (locs : List Loc) (ls : Array Slot), zH D cy bs N kd len X Y5 R H → va_S (zA bs) s.heap H locs → lv_has ls 7 [(5, .int (zI (k))), (0, .ref (bs + (i))), (1, .int (zI (a))), (2, .int (zI (b))), (3, .int (zI (g))), (4, .int (zI (d)))] → W p l e (zRm 0 0) s m args below meth c H locs 0 0 (MQ below (zQl D cy bs N kd len (fun r st => st.1 = X ∧ st.2.2 = R ∧ (True))) args s 0 0 (zA bs)) (F0 m 37 ls []) := by
          intro fu
          induction fu with
          | zero => intro k Y5 _ _ hmu; exact absurd hmu (Nat.not_lt_zero _)
          | succ fu ih4 =>
            intro k Y5 hk hI hmu4 H locs ls hH hS hl
            have hF := hF k Y5 hk hH.2.2.2 hI
            refine lv_iload C.1 C.2.1 dX11_caught_37 (lv_at hl 0 rfl) ?_
            refine lv_iload_n C.1 C.2.1 dX11_caught_39 rfl (lv_at hl 3 rfl) ?_
            refine zd_icmp_ge C hk hb 189 dX11_caught_40 (by decide) (fun c6 => ?_) (fun c6 => ?_)
            · have hF := hF.1 c6
              refine lv_aload_n C.1 C.2.1 dX11_caught_189 rfl (lv_at hl 1 rfl) ?_
              refine zg11_53 C hH (zM_n0 hM) (zM_k0 hM) q_1340 (zM_r21 hM) dX11_caught_190 ?_
              refine zd_iconst C dX11_caught_193 ?_
              refine zd_lald C hH (zM_n21 hM) (zM_k21 hM) (by decide) (by rw [zM_l21 hM]; decide) (by rw [zM_l21 hM]; decide) dX11_caught_194 ?_
              exact zd_lret C hr hlk hH hS (hH.2.2.2 _ _) (⟨rfl, rfl, hF⟩) dX11_caught_195
            · have hF := hF.2 c6
              refine zd_iconst C dX11_caught_43 ?_
              refine lv_istore (lv' := [(6, .int (zI (0))), (5, .int (zI (k))), (0, .ref (bs + (i))), (1, .int (zI (a))), (2, .int (zI (b))), (3, .int (zI (g))), (4, .int (zI (d)))]) C.1 C.2.1 dX11_caught_44 hl (by decide) rfl (fun ls hl => ?_)
              obtain ⟨hI7, hF⟩ := hF
              have L7 : ∀ (fu : Nat) (j : Int) (Y8 : Nat → Int → Int), rI j → (True) → ((20 - (j)).toNat) < fu → ∀ (H : Heap) (locs : List Loc) (ls : Array Slot), zH D cy bs N kd len X Y8 R H → va_S (zA bs) s.heap H locs → lv_has ls 7 [(6, .int (zI (j))), (5, .int (zI (k))), (0, .ref (bs + (i))), (1, .int (zI (a))), (2, .int (zI (b))), (3, .int (zI (g))), (4, .int (zI (d)))] → W p l e (zRm 0 0) s m args below meth c H locs 0 0 (MQ below (zQl D cy bs N kd len (fun r st => st.1 = X ∧ st.2.2 = R ∧ (True))) args s 0 0 (zA bs)) (F0 m 46 ls []) := by
                intro fu
                induction fu with
                | zero => intro j Y8 _ _ hmu; exact absurd hmu (Nat.not_lt_zero _)
                | succ fu ih7 =>
                  intro j Y8 hj hI hmu7 H locs ls hH hS hl
                  have hF := hF j Y8 hj hH.2.2.2 hI
                  refine lv_iload C.1 C.2.1 dX11_caught_46 (lv_at hl 0 rfl) ?_
                  refine zd_bipush C (by decide) dX11_caught_48 ?_
                  refine zd_icmp_ge C hj (by decide) 153 dX11_caught_50 (by decide) (fun c9 => ?_) (fun c9 => ?_)
                  · have hF := hF.1 c9
                    refine zd_iconst C dX11_caught_153 ?_
                    refine lv_istore (lv' := [(6, .int (zI (0))), (5, .int (zI (k))), (0, .ref (bs + (i))), (1, .int (zI (a))), (2, .int (zI (b))), (3, .int (zI (g))), (4, .int (zI (d)))]) C.1 C.2.1 dX11_caught_154 hl (by decide) rfl (fun ls hl => ?_)
                    obtain ⟨hI10, hF⟩ := hF
                    have L10 : ∀ (fu : Nat) (j : Int) (Y11 : Nat → Int → Int), rI j → (True) → ((20 - (j)).toNat) < fu → ∀ (H : Heap) (locs : List Loc) (ls : Array Slot), zH D cy bs N kd len X Y11 R H → va_S (zA bs) s.heap H locs → lv_has ls 7 [(6, .int (zI (j))), (5, .int (zI (k))), (0, .ref (bs + (i))), (1, .int (zI (a))), (2, .int (zI (b))), (3, .int (zI (g))), (4, .int (zI (d)))] → W p l e (zRm 0 0) s m args below meth c H locs 0 0 (MQ below (zQl D cy bs N kd len (fun r st => st.1 = X ∧ st.2.2 = R ∧ (True))) args s 0 0 (zA bs)) (F0 m 156 ls []) := by
                      intro fu
                      induction fu with
                      | zero => intro j Y11 _ _ hmu; exact absurd hmu (Nat.not_lt_zero _)
                      | succ fu ih10 =>
                        intro j Y11 hj hI hmu10 H locs ls hH hS hl
                        have hF := hF j Y11 hj hH.2.2.2 hI
                        refine lv_iload C.1 C.2.1 dX11_caught_156 (lv_at hl 0 rfl) ?_
                        refine zd_bipush C (by decide) dX11_caught_158 ?_
                        refine zd_icmp_ge C hj (by decide) 183 dX11_caught_160 (by decide) (fun c12 => ?_) (fun c12 => ?_)
                        · have hF := hF.1 c12
                          refine zd_iinc (k := 1) (lv' := [(5, .int (zI (k + 1))), (6, .int (zI (j))), (0, .ref (bs + (i))), (1, .int (zI (a))), (2, .int (zI (b))), (3, .int (zI (g))), (4, .int (zI (d)))]) C hl rfl dX11_caught_183 (by decide) rfl (fun ls hl => ?_)
                          refine lv_goto (tgt := 37) C.1 C.2.1 dX11_caught_186 (by decide) ?_
                          obtain ⟨o13, hF⟩ := hF
                          exact ih4 (k + 1) Y11 o13 hF.1 (Nat.lt_of_lt_of_le hF.2 (Nat.le_of_lt_succ hmu4)) _ _ _ hH hS (lv_sub hl [0, 2, 3, 4, 5, 6] rfl)
                        · have hF := hF.2 c12
                          refine lv_aload_n C.1 C.2.1 dX11_caught_163 rfl (lv_at hl 2 rfl) ?_
                          refine zg11_53 C hH (zM_n0 hM) (zM_k0 hM) q_1340 (zM_r21 hM) dX11_caught_164 ?_
                          refine lv_iload C.1 C.2.1 dX11_caught_167 (lv_at hl 0 rfl) ?_
                          refine lv_aload_n C.1 C.2.1 dX11_caught_169 rfl (lv_at hl 2 rfl) ?_
                          refine zg11_54 C hH (zM_n0 hM) (zM_k0 hM) q_1341 (zM_r22 hM) dX11_caught_170 ?_
                          refine lv_iload C.1 C.2.1 dX11_caught_173 (lv_at hl 0 rfl) ?_
                          obtain ⟨o14, hF⟩ := hF
                          refine zd_lald C hH (zM_n22 hM) (zM_k22 hM) o14.1 (by rw [zM_l22 hM]; exact o14.2) (by rw [zM_l22 hM]; decide) dX11_caught_175 ?_
                          obtain ⟨o15, hF⟩ := hF
                          refine zd_last C hH hS (zM_n21 hM) (zM_k21 hM) o15.1 (by rw [zM_l21 hM]; exact o15.2) (by rw [zM_l21 hM]; decide) (hH.2.2.2 _ _) dX11_caught_176 (fun H locs hH hS => ?_)
                          obtain ⟨Y16, eY16⟩ : ∃ z, z = zU Y11 (i + 21) (j) (Y11 (i + 22) (j)) := ⟨_, rfl⟩
                          rw [← eY16] at hH
                          have hF := hF Y16 eY16 hH.2.2.2
                          refine zd_iinc (k := 0) (lv' := [(6, .int (zI (j + 1))), (5, .int (zI (k))), (0, .ref (bs + (i))), (1, .int (zI (a))), (2, .int (zI (b))), (3, .int (zI (g))), (4, .int (zI (d)))]) C hl rfl dX11_caught_177 (by decide) rfl (fun ls hl => ?_)
                          refine lv_goto (tgt := 156) C.1 C.2.1 dX11_caught_180 (by decide) ?_
                          obtain ⟨o17, hF⟩ := hF
                          exact ih10 (j + 1) Y16 o17 hF.1 (Nat.lt_of_lt_of_le hF.2 (Nat.le_of_lt_succ hmu10)) _ _ _ hH hS (lv_sub hl [0, 1, 2, 3, 4, 5, 6] rfl)
                    exact L10 (((20 - ((0 : Int))).toNat) + 1) ((0 : Int)) Y8 (by decide) hI10 (Nat.lt_succ_self _) _ _ _ hH hS (lv_sub hl [0, 1, 2, 3, 4, 5, 6] rfl)
                  · have hF := hF.2 c9
                    refine lv_aload_n C.1 C.2.1 dX11_caught_53 rfl (lv_at hl 2 rfl) ?_
                    refine zg11_54 C hH (zM_n0 hM) (zM_k0 hM) q_1341 (zM_r22 hM) dX11_caught_54 ?_
                    refine lv_iload C.1 C.2.1 dX11_caught_57 (lv_at hl 0 rfl) ?_
                    refine lv_iload C.1 C.2.1 dX11_caught_59 (lv_at hl 0 rfl) ?_
                    refine zd_if_ne C hj 79 dX11_caught_61 (by decide) (fun c18 => ?_) (fun c18 => ?_)
                    · have hF := hF.1 c18
                      refine lv_lconst (v := zL 0) C.1 C.2.1 dX11_caught_79 rfl ?_
                      obtain ⟨o19, hF⟩ := hF
                      refine zd_last C hH hS (zM_n22 hM) (zM_k22 hM) o19.1 (by rw [zM_l22 hM]; exact o19.2) (by rw [zM_l22 hM]; decide) (by decide) dX11_caught_80 (fun H locs hH hS => ?_)
                      obtain ⟨Y20, eY20⟩ : ∃ z, z = zU Y8 (i + 22) (j) (0) := ⟨_, rfl⟩
                      rw [← eY20] at hH
                      have hF := hF Y20 eY20 hH.2.2.2
                      refine lv_aload_n C.1 C.2.1 dX11_caught_81 rfl (lv_at hl 2 rfl) ?_
                      refine zg11_54 C hH (zM_n0 hM) (zM_k0 hM) q_1341 (zM_r22 hM) dX11_caught_82 ?_
                      refine lv_iload C.1 C.2.1 dX11_caught_85 (lv_at hl 0 rfl) ?_
                      refine lv_dup2_11 C.1 C.2.1 dX11_caught_87 rfl rfl ?_
                      obtain ⟨o21, hF⟩ := hF
                      refine zd_lald C hH (zM_n22 hM) (zM_k22 hM) o21.1 (by rw [zM_l22 hM]; exact o21.2) (by rw [zM_l22 hM]; decide) dX11_caught_88 ?_
                      refine lv_iload C.1 C.2.1 dX11_caught_89 (lv_at hl 0 rfl) ?_
                      refine zd_bipush C (by decide) dX11_caught_91 ?_
                      refine zd_icmp_ge C hj (by decide) 111 dX11_caught_93 (by decide) (fun c22 => ?_) (fun c22 => ?_)
                      · have hF := hF.1 c22
                        refine lv_lconst (v := zL 0) C.1 C.2.1 dX11_caught_111 rfl ?_
                        refine zd_ladd C dX11_caught_112 ?_
                        obtain ⟨o23, hF⟩ := hF
                        obtain ⟨o24, hF⟩ := hF
                        refine zd_last C hH hS (zM_n22 hM) (zM_k22 hM) o23.1 (by rw [zM_l22 hM]; exact o23.2) (by rw [zM_l22 hM]; decide) o24 dX11_caught_113 (fun H locs hH hS => ?_)
                        obtain ⟨Y25, eY25⟩ : ∃ z, z = zU Y20 (i + 22) (j) ((Y20 (i + 22) (j)) + (0)) := ⟨_, rfl⟩
                        rw [← eY25] at hH
                        have hF := hF Y25 eY25 hH.2.2.2
                        refine lv_aload_n C.1 C.2.1 dX11_caught_114 rfl (lv_at hl 2 rfl) ?_
                        refine zg11_54 C hH (zM_n0 hM) (zM_k0 hM) q_1341 (zM_r22 hM) dX11_caught_115 ?_
                        refine lv_iload C.1 C.2.1 dX11_caught_118 (lv_at hl 0 rfl) ?_
                        refine lv_dup2_11 C.1 C.2.1 dX11_caught_120 rfl rfl ?_
                        obtain ⟨o26, hF⟩ := hF
                        refine zd_lald C hH (zM_n22 hM) (zM_k22 hM) o26.1 (by rw [zM_l22 hM]; exact o26.2) (by rw [zM_l22 hM]; decide) dX11_caught_121 ?_
                        refine lv_iload C.1 C.2.1 dX11_caught_122 (lv_at hl 0 rfl) ?_
                        refine zd_iconst C dX11_caught_124 ?_
                        refine zd_icmp_le C hj (by decide) 144 dX11_caught_125 (by decide) (fun c27 => ?_) (fun c27 => ?_)
                        · have hF := hF.1 c27
                          refine lv_lconst (v := zL 0) C.1 C.2.1 dX11_caught_144 rfl ?_
                          refine zd_ladd C dX11_caught_145 ?_
                          obtain ⟨o28, hF⟩ := hF
                          obtain ⟨o29, hF⟩ := hF
                          refine zd_last C hH hS (zM_n22 hM) (zM_k22 hM) o28.1 (by rw [zM_l22 hM]; exact o28.2) (by rw [zM_l22 hM]; decide) o29 dX11_caught_146 (fun H locs hH hS => ?_)
                          obtain ⟨Y30, eY30⟩ : ∃ z, z = zU Y25 (i + 22) (j) ((Y25 (i + 22) (j)) + (0)) := ⟨_, rfl⟩
                          rw [← eY30] at hH
                          have hF := hF Y30 eY30 hH.2.2.2
                          refine zd_iinc (k := 0) (lv' := [(6, .int (zI (j + 1))), (5, .int (zI (k))), (0, .ref (bs + (i))), (1, .int (zI (a))), (2, .int (zI (b))), (3, .int (zI (g))), (4, .int (zI (d)))]) C hl rfl dX11_caught_147 (by decide) rfl (fun ls hl => ?_)
                          refine lv_goto (tgt := 46) C.1 C.2.1 dX11_caught_150 (by decide) ?_
                          obtain ⟨o31, hF⟩ := hF
                          exact ih7 (j + 1) Y30 o31 hF.1 (Nat.lt_of_lt_of_le hF.2 (Nat.le_of_lt_succ hmu7)) _ _ _ hH hS (lv_sub hl [0, 1, 2, 3, 4, 5, 6] rfl)
                        · have hF := hF.2 c27
                          refine lv_aload_n C.1 C.2.1 dX11_caught_128 rfl (lv_at hl 2 rfl) ?_
                          refine zg11_53 C hH (zM_n0 hM) (zM_k0 hM) q_1340 (zM_r21 hM) dX11_caught_129 ?_
                          refine lv_iload C.1 C.2.1 dX11_caught_132 (lv_at hl 0 rfl) ?_
                          refine zd_iconst C dX11_caught_134 ?_
                          refine zd_isub C dX11_caught_135 ?_
                          obtain ⟨o32, hF⟩ := hF
                          refine zd_lald C hH (zM_n21 hM) (zM_k21 hM) o32.1 (by rw [zM_l21 hM]; exact o32.2) (by rw [zM_l21 hM]; decide) dX11_caught_136 ?_
                          refine lv_iload C.1 C.2.1 dX11_caught_137 (lv_at hl 6 rfl) ?_
                          refine zd_i2l C hd dX11_caught_139 ?_
                          refine zd_lmul C dX11_caught_140 ?_
                          refine lv_goto (tgt := 145) C.1 C.2.1 dX11_caught_141 (by decide) ?_
                          refine zd_ladd C dX11_caught_145 ?_
                          obtain ⟨o33, hF⟩ := hF
                          obtain ⟨o34, hF⟩ := hF
                          refine zd_last C hH hS (zM_n22 hM) (zM_k22 hM) o33.1 (by rw [zM_l22 hM]; exact o33.2) (by rw [zM_l22 hM]; decide) o34 dX11_caught_146 (fun H locs hH hS => ?_)
                          obtain ⟨Y35, eY35⟩ : ∃ z, z = zU Y25 (i + 22) (j) ((Y25 (i + 22) (j)) + ((Y25 (i + 21) (j - 1)) * (d))) := ⟨_, rfl⟩
                          rw [← eY35] at hH
                          have hF := hF Y35 eY35 hH.2.2.2
                          refine zd_iinc (k := 0) (lv' := [(6, .int (zI (j + 1))), (5, .int (zI (k))), (0, .ref (bs + (i))), (1, .int (zI (a))), (2, .int (zI (b))), (3, .int (zI (g))), (4, .int (zI (d)))]) C hl rfl dX11_caught_147 (by decide) rfl (fun ls hl => ?_)
                          refine lv_goto (tgt := 46) C.1 C.2.1 dX11_caught_150 (by decide) ?_
                          obtain ⟨o36, hF⟩ := hF
                          exact ih7 (j + 1) Y35 o36 hF.1 (Nat.lt_of_lt_of_le hF.2 (Nat.le_of_lt_succ hmu7)) _ _ _ hH hS (lv_sub hl [0, 1, 2, 3, 4, 5, 6] rfl)
                      · have hF := hF.2 c22
                        refine lv_aload_n C.1 C.2.1 dX11_caught_96 rfl (lv_at hl 2 rfl) ?_
                        refine zg11_53 C hH (zM_n0 hM) (zM_k0 hM) q_1340 (zM_r21 hM) dX11_caught_97 ?_
                        refine lv_iload C.1 C.2.1 dX11_caught_100 (lv_at hl 0 rfl) ?_
                        refine zd_iconst C dX11_caught_102 ?_
                        refine zd_iadd C dX11_caught_103 ?_
                        obtain ⟨o37, hF⟩ := hF
                        refine zd_lald C hH (zM_n21 hM) (zM_k21 hM) o37.1 (by rw [zM_l21 hM]; exact o37.2) (by rw [zM_l21 hM]; decide) dX11_caught_104 ?_
                        refine lv_iload_n C.1 C.2.1 dX11_caught_105 rfl (lv_at hl 5 rfl) ?_
                        refine zd_i2l C hg dX11_caught_106 ?_
                        refine zd_lmul C dX11_caught_107 ?_
                        refine lv_goto (tgt := 112) C.1 C.2.1 dX11_caught_108 (by decide) ?_
                        refine zd_ladd C dX11_caught_112 ?_
                        obtain ⟨o38, hF⟩ := hF
                        obtain ⟨o39, hF⟩ := hF
                        refine zd_last C hH hS (zM_n22 hM) (zM_k22 hM) o38.1 (by rw [zM_l22 hM]; exact o38.2) (by rw [zM_l22 hM]; decide) o39 dX11_caught_113 (fun H locs hH hS => ?_)
                        obtain ⟨Y40, eY40⟩ : ∃ z, z = zU Y20 (i + 22) (j) ((Y20 (i + 22) (j)) + ((Y20 (i + 21) (j + 1)) * (g))) := ⟨_, rfl⟩
                        rw [← eY40] at hH
                        have hF := hF Y40 eY40 hH.2.2.2
                        refine lv_aload_n C.1 C.2.1 dX11_caught_114 rfl (lv_at hl 2 rfl) ?_
                        refine zg11_54 C hH (zM_n0 hM) (zM_k0 hM) q_1341 (zM_r22 hM) dX11_caught_115 ?_
                        refine lv_iload C.1 C.2.1 dX11_caught_118 (lv_at hl 0 rfl) ?_
                        refine lv_dup2_11 C.1 C.2.1 dX11_caught_120 rfl rfl ?_
                        obtain ⟨o41, hF⟩ := hF
                        refine zd_lald C hH (zM_n22 hM) (zM_k22 hM) o41.1 (by rw [zM_l22 hM]; exact o41.2) (by rw [zM_l22 hM]; decide) dX11_caught_121 ?_
                        refine lv_iload C.1 C.2.1 dX11_caught_122 (lv_at hl 0 rfl) ?_
                        refine zd_iconst C dX11_caught_124 ?_
                        refine zd_icmp_le C hj (by decide) 144 dX11_caught_125 (by decide) (fun c42 => ?_) (fun c42 => ?_)
                        · have hF := hF.1 c42
                          refine lv_lconst (v := zL 0) C.1 C.2.1 dX11_caught_144 rfl ?_
                          refine zd_ladd C dX11_caught_145 ?_
                          obtain ⟨o43, hF⟩ := hF
                          obtain ⟨o44, hF⟩ := hF
                          refine zd_last C hH hS (zM_n22 hM) (zM_k22 hM) o43.1 (by rw [zM_l22 hM]; exact o43.2) (by rw [zM_l22 hM]; decide) o44 dX11_caught_146 (fun H locs hH hS => ?_)
                          obtain ⟨Y45, eY45⟩ : ∃ z, z = zU Y40 (i + 22) (j) ((Y40 (i + 22) (j)) + (0)) := ⟨_, rfl⟩
                          rw [← eY45] at hH
                          have hF := hF Y45 eY45 hH.2.2.2
                          refine zd_iinc (k := 0) (lv' := [(6, .int (zI (j + 1))), (5, .int (zI (k))), (0, .ref (bs + (i))), (1, .int (zI (a))), (2, .int (zI (b))), (3, .int (zI (g))), (4, .int (zI (d)))]) C hl rfl dX11_caught_147 (by decide) rfl (fun ls hl => ?_)
                          refine lv_goto (tgt := 46) C.1 C.2.1 dX11_caught_150 (by decide) ?_
                          obtain ⟨o46, hF⟩ := hF
                          exact ih7 (j + 1) Y45 o46 hF.1 (Nat.lt_of_lt_of_le hF.2 (Nat.le_of_lt_succ hmu7)) _ _ _ hH hS (lv_sub hl [0, 1, 2, 3, 4, 5, 6] rfl)
                        · have hF := hF.2 c42
                          refine lv_aload_n C.1 C.2.1 dX11_caught_128 rfl (lv_at hl 2 rfl) ?_
                          refine zg11_53 C hH (zM_n0 hM) (zM_k0 hM) q_1340 (zM_r21 hM) dX11_caught_129 ?_
                          refine lv_iload C.1 C.2.1 dX11_caught_132 (lv_at hl 0 rfl) ?_
                          refine zd_iconst C dX11_caught_134 ?_
                          refine zd_isub C dX11_caught_135 ?_
                          obtain ⟨o47, hF⟩ := hF
                          refine zd_lald C hH (zM_n21 hM) (zM_k21 hM) o47.1 (by rw [zM_l21 hM]; exact o47.2) (by rw [zM_l21 hM]; decide) dX11_caught_136 ?_
                          refine lv_iload C.1 C.2.1 dX11_caught_137 (lv_at hl 6 rfl) ?_
                          refine zd_i2l C hd dX11_caught_139 ?_
                          refine zd_lmul C dX11_caught_140 ?_
                          refine lv_goto (tgt := 145) C.1 C.2.1 dX11_caught_141 (by decide) ?_
                          refine zd_ladd C dX11_caught_145 ?_
                          obtain ⟨o48, hF⟩ := hF
                          obtain ⟨o49, hF⟩ := hF
                          refine zd_last C hH hS (zM_n22 hM) (zM_k22 hM) o48.1 (by rw [zM_l22 hM]; exact o48.2) (by rw [zM_l22 hM]; decide) o49 dX11_caught_146 (fun H locs hH hS => ?_)
                          obtain ⟨Y50, eY50⟩ : ∃ z, z = zU Y40 (i + 22) (j) ((Y40 (i + 22) (j)) + ((Y40 (i + 21) (j - 1)) * (d))) := ⟨_, rfl⟩
                          rw [← eY50] at hH
                          have hF := hF Y50 eY50 hH.2.2.2
                          refine zd_iinc (k := 0) (lv' := [(6, .int (zI (j + 1))), (5, .int (zI (k))), (0, .ref (bs + (i))), (1, .int (zI (a))), (2, .int (zI (b))), (3, .int (zI (g))), (4, .int (zI (d)))]) C hl rfl dX11_caught_147 (by decide) rfl (fun ls hl => ?_)
                          refine lv_goto (tgt := 46) C.1 C.2.1 dX11_caught_150 (by decide) ?_
                          obtain ⟨o51, hF⟩ := hF
                          exact ih7 (j + 1) Y50 o51 hF.1 (Nat.lt_of_lt_of_le hF.2 (Nat.le_of_lt_succ hmu7)) _ _ _ hH hS (lv_sub hl [0, 1, 2, 3, 4, 5, 6] rfl)
                    · have hF := hF.2 c18
                      refine lv_aload_n C.1 C.2.1 dX11_caught_64 rfl (lv_at hl 2 rfl) ?_
                      refine zg11_53 C hH (zM_n0 hM) (zM_k0 hM) q_1340 (zM_r21 hM) dX11_caught_65 ?_
                      refine zd_iconst C dX11_caught_68 ?_
                      refine zd_lald C hH (zM_n21 hM) (zM_k21 hM) (by decide) (by rw [zM_l21 hM]; decide) (by rw [zM_l21 hM]; decide) dX11_caught_69 ?_
                      refine lv_iload_n C.1 C.2.1 dX11_caught_70 rfl (lv_at hl 5 rfl) ?_
                      refine lv_iload C.1 C.2.1 dX11_caught_71 (lv_at hl 6 rfl) ?_
                      refine zd_iadd C dX11_caught_73 ?_
                      obtain ⟨o52, hF⟩ := hF
                      refine zd_i2l C o52 dX11_caught_74 ?_
                      refine zd_lmul C dX11_caught_75 ?_
                      refine lv_goto (tgt := 80) C.1 C.2.1 dX11_caught_76 (by decide) ?_
                      obtain ⟨o53, hF⟩ := hF
                      obtain ⟨o54, hF⟩ := hF
                      refine zd_last C hH hS (zM_n22 hM) (zM_k22 hM) o53.1 (by rw [zM_l22 hM]; exact o53.2) (by rw [zM_l22 hM]; decide) o54 dX11_caught_80 (fun H locs hH hS => ?_)
                      obtain ⟨Y55, eY55⟩ : ∃ z, z = zU Y8 (i + 22) (j) ((Y8 (i + 21) (0)) * (g + d)) := ⟨_, rfl⟩
                      rw [← eY55] at hH
                      have hF := hF Y55 eY55 hH.2.2.2
                      refine lv_aload_n C.1 C.2.1 dX11_caught_81 rfl (lv_at hl 2 rfl) ?_
                      refine zg11_54 C hH (zM_n0 hM) (zM_k0 hM) q_1341 (zM_r22 hM) dX11_caught_82 ?_
                      refine lv_iload C.1 C.2.1 dX11_caught_85 (lv_at hl 0 rfl) ?_
                      refine lv_dup2_11 C.1 C.2.1 dX11_caught_87 rfl rfl ?_
                      obtain ⟨o56, hF⟩ := hF
                      refine zd_lald C hH (zM_n22 hM) (zM_k22 hM) o56.1 (by rw [zM_l22 hM]; exact o56.2) (by rw [zM_l22 hM]; decide) dX11_caught_88 ?_
                      refine lv_iload C.1 C.2.1 dX11_caught_89 (lv_at hl 0 rfl) ?_
                      refine zd_bipush C (by decide) dX11_caught_91 ?_
                      refine zd_icmp_ge C hj (by decide) 111 dX11_caught_93 (by decide) (fun c57 => ?_) (fun c57 => ?_)
                      · have hF := hF.1 c57
                        refine lv_lconst (v := zL 0) C.1 C.2.1 dX11_caught_111 rfl ?_
                        refine zd_ladd C dX11_caught_112 ?_
                        obtain ⟨o58, hF⟩ := hF
                        obtain ⟨o59, hF⟩ := hF
                        refine zd_last C hH hS (zM_n22 hM) (zM_k22 hM) o58.1 (by rw [zM_l22 hM]; exact o58.2) (by rw [zM_l22 hM]; decide) o59 dX11_caught_113 (fun H locs hH hS => ?_)
                        obtain ⟨Y60, eY60⟩ : ∃ z, z = zU Y55 (i + 22) (j) ((Y55 (i + 22) (j)) + (0)) := ⟨_, rfl⟩
                        rw [← eY60] at hH
                        have hF := hF Y60 eY60 hH.2.2.2
                        refine lv_aload_n C.1 C.2.1 dX11_caught_114 rfl (lv_at hl 2 rfl) ?_
                        refine zg11_54 C hH (zM_n0 hM) (zM_k0 hM) q_1341 (zM_r22 hM) dX11_caught_115 ?_
                        refine lv_iload C.1 C.2.1 dX11_caught_118 (lv_at hl 0 rfl) ?_
                        refine lv_dup2_11 C.1 C.2.1 dX11_caught_120 rfl rfl ?_
                        obtain ⟨o61, hF⟩ := hF
                        refine zd_lald C hH (zM_n22 hM) (zM_k22 hM) o61.1 (by rw [zM_l22 hM]; exact o61.2) (by rw [zM_l22 hM]; decide) dX11_caught_121 ?_
                        refine lv_iload C.1 C.2.1 dX11_caught_122 (lv_at hl 0 rfl) ?_
                        refine zd_iconst C dX11_caught_124 ?_
                        refine zd_icmp_le C hj (by decide) 144 dX11_caught_125 (by decide) (fun c62 => ?_) (fun c62 => ?_)
                        · have hF := hF.1 c62
                          refine lv_lconst (v := zL 0) C.1 C.2.1 dX11_caught_144 rfl ?_
                          refine zd_ladd C dX11_caught_145 ?_
                          obtain ⟨o63, hF⟩ := hF
                          obtain ⟨o64, hF⟩ := hF
                          refine zd_last C hH hS (zM_n22 hM) (zM_k22 hM) o63.1 (by rw [zM_l22 hM]; exact o63.2) (by rw [zM_l22 hM]; decide) o64 dX11_caught_146 (fun H locs hH hS => ?_)
                          obtain ⟨Y65, eY65⟩ : ∃ z, z = zU Y60 (i + 22) (j) ((Y60 (i + 22) (j)) + (0)) := ⟨_, rfl⟩
                          rw [← eY65] at hH
                          have hF := hF Y65 eY65 hH.2.2.2
                          refine zd_iinc (k := 0) (lv' := [(6, .int (zI (j + 1))), (5, .int (zI (k))), (0, .ref (bs + (i))), (1, .int (zI (a))), (2, .int (zI (b))), (3, .int (zI (g))), (4, .int (zI (d)))]) C hl rfl dX11_caught_147 (by decide) rfl (fun ls hl => ?_)
                          refine lv_goto (tgt := 46) C.1 C.2.1 dX11_caught_150 (by decide) ?_
                          obtain ⟨o66, hF⟩ := hF
                          exact ih7 (j + 1) Y65 o66 hF.1 (Nat.lt_of_lt_of_le hF.2 (Nat.le_of_lt_succ hmu7)) _ _ _ hH hS (lv_sub hl [0, 1, 2, 3, 4, 5, 6] rfl)
                        · have hF := hF.2 c62
                          refine lv_aload_n C.1 C.2.1 dX11_caught_128 rfl (lv_at hl 2 rfl) ?_
                          refine zg11_53 C hH (zM_n0 hM) (zM_k0 hM) q_1340 (zM_r21 hM) dX11_caught_129 ?_
                          refine lv_iload C.1 C.2.1 dX11_caught_132 (lv_at hl 0 rfl) ?_
                          refine zd_iconst C dX11_caught_134 ?_
                          refine zd_isub C dX11_caught_135 ?_
                          obtain ⟨o67, hF⟩ := hF
                          refine zd_lald C hH (zM_n21 hM) (zM_k21 hM) o67.1 (by rw [zM_l21 hM]; exact o67.2) (by rw [zM_l21 hM]; decide) dX11_caught_136 ?_
                          refine lv_iload C.1 C.2.1 dX11_caught_137 (lv_at hl 6 rfl) ?_
                          refine zd_i2l C hd dX11_caught_139 ?_
                          refine zd_lmul C dX11_caught_140 ?_
                          refine lv_goto (tgt := 145) C.1 C.2.1 dX11_caught_141 (by decide) ?_
                          refine zd_ladd C dX11_caught_145 ?_
                          obtain ⟨o68, hF⟩ := hF
                          obtain ⟨o69, hF⟩ := hF
                          refine zd_last C hH hS (zM_n22 hM) (zM_k22 hM) o68.1 (by rw [zM_l22 hM]; exact o68.2) (by rw [zM_l22 hM]; decide) o69 dX11_caught_146 (fun H locs hH hS => ?_)
                          obtain ⟨Y70, eY70⟩ : ∃ z, z = zU Y60 (i + 22) (j) ((Y60 (i + 22) (j)) + ((Y60 (i + 21) (j - 1)) * (d))) := ⟨_, rfl⟩
                          rw [← eY70] at hH
                          have hF := hF Y70 eY70 hH.2.2.2
                          refine zd_iinc (k := 0) (lv' := [(6, .int (zI (j + 1))), (5, .int (zI (k))), (0, .ref (bs + (i))), (1, .int (zI (a))), (2, .int (zI (b))), (3, .int (zI (g))), (4, .int (zI (d)))]) C hl rfl dX11_caught_147 (by decide) rfl (fun ls hl => ?_)
                          refine lv_goto (tgt := 46) C.1 C.2.1 dX11_caught_150 (by decide) ?_
                          obtain ⟨o71, hF⟩ := hF
                          exact ih7 (j + 1) Y70 o71 hF.1 (Nat.lt_of_lt_of_le hF.2 (Nat.le_of_lt_succ hmu7)) _ _ _ hH hS (lv_sub hl [0, 1, 2, 3, 4, 5, 6] rfl)
                      · have hF := hF.2 c57
                        refine lv_aload_n C.1 C.2.1 dX11_caught_96 rfl (lv_at hl 2 rfl) ?_
                        refine zg11_53 C hH (zM_n0 hM) (zM_k0 hM) q_1340 (zM_r21 hM) dX11_caught_97 ?_
                        refine lv_iload C.1 C.2.1 dX11_caught_100 (lv_at hl 0 rfl) ?_
                        refine zd_iconst C dX11_caught_102 ?_
                        refine zd_iadd C dX11_caught_103 ?_
                        obtain ⟨o72, hF⟩ := hF
                        refine zd_lald C hH (zM_n21 hM) (zM_k21 hM) o72.1 (by rw [zM_l21 hM]; exact o72.2) (by rw [zM_l21 hM]; decide) dX11_caught_104 ?_
                        refine lv_iload_n C.1 C.2.1 dX11_caught_105 rfl (lv_at hl 5 rfl) ?_
                        refine zd_i2l C hg dX11_caught_106 ?_
                        refine zd_lmul C dX11_caught_107 ?_
                        refine lv_goto (tgt := 112) C.1 C.2.1 dX11_caught_108 (by decide) ?_
                        refine zd_ladd C dX11_caught_112 ?_
                        obtain ⟨o73, hF⟩ := hF
                        obtain ⟨o74, hF⟩ := hF
                        refine zd_last C hH hS (zM_n22 hM) (zM_k22 hM) o73.1 (by rw [zM_l22 hM]; exact o73.2) (by rw [zM_l22 hM]; decide) o74 dX11_caught_113 (fun H locs hH hS => ?_)
                        obtain ⟨Y75, eY75⟩ : ∃ z, z = zU Y55 (i + 22) (j) ((Y55 (i + 22) (j)) + ((Y55 (i + 21) (j + 1)) * (g))) := ⟨_, rfl⟩
                        rw [← eY75] at hH
                        have hF := hF Y75 eY75 hH.2.2.2
                        refine lv_aload_n C.1 C.2.1 dX11_caught_114 rfl (lv_at hl 2 rfl) ?_
                        refine zg11_54 C hH (zM_n0 hM) (zM_k0 hM) q_1341 (zM_r22 hM) dX11_caught_115 ?_
                        refine lv_iload C.1 C.2.1 dX11_caught_118 (lv_at hl 0 rfl) ?_
                        refine lv_dup2_11 C.1 C.2.1 dX11_caught_120 rfl rfl ?_
                        obtain ⟨o76, hF⟩ := hF
                        refine zd_lald C hH (zM_n22 hM) (zM_k22 hM) o76.1 (by rw [zM_l22 hM]; exact o76.2) (by rw [zM_l22 hM]; decide) dX11_caught_121 ?_
                        refine lv_iload C.1 C.2.1 dX11_caught_122 (lv_at hl 0 rfl) ?_
                        refine zd_iconst C dX11_caught_124 ?_
                        refine zd_icmp_le C hj (by decide) 144 dX11_caught_125 (by decide) (fun c77 => ?_) (fun c77 => ?_)
                        · have hF := hF.1 c77
                          refine lv_lconst (v := zL 0) C.1 C.2.1 dX11_caught_144 rfl ?_
                          refine zd_ladd C dX11_caught_145 ?_
                          obtain ⟨o78, hF⟩ := hF
                          obtain ⟨o79, hF⟩ := hF
                          refine zd_last C hH hS (zM_n22 hM) (zM_k22 hM) o78.1 (by rw [zM_l22 hM]; exact o78.2) (by rw [zM_l22 hM]; decide) o79 dX11_caught_146 (fun H locs hH hS => ?_)
                          obtain ⟨Y80, eY80⟩ : ∃ z, z = zU Y75 (i + 22) (j) ((Y75 (i + 22) (j)) + (0)) := ⟨_, rfl⟩
                          rw [← eY80] at hH
                          have hF := hF Y80 eY80 hH.2.2.2
                          refine zd_iinc (k := 0) (lv' := [(6, .int (zI (j + 1))), (5, .int (zI (k))), (0, .ref (bs + (i))), (1, .int (zI (a))), (2, .int (zI (b))), (3, .int (zI (g))), (4, .int (zI (d)))]) C hl rfl dX11_caught_147 (by decide) rfl (fun ls hl => ?_)
                          refine lv_goto (tgt := 46) C.1 C.2.1 dX11_caught_150 (by decide) ?_
                          obtain ⟨o81, hF⟩ := hF
                          exact ih7 (j + 1) Y80 o81 hF.1 (Nat.lt_of_lt_of_le hF.2 (Nat.le_of_lt_succ hmu7)) _ _ _ hH hS (lv_sub hl [0, 1, 2, 3, 4, 5, 6] rfl)
                        · have hF := hF.2 c77
                          refine lv_aload_n C.1 C.2.1 dX11_caught_128 rfl (lv_at hl 2 rfl) ?_
                          refine zg11_53 C hH (zM_n0 hM) (zM_k0 hM) q_1340 (zM_r21 hM) dX11_caught_129 ?_
                          refine lv_iload C.1 C.2.1 dX11_caught_132 (lv_at hl 0 rfl) ?_
                          refine zd_iconst C dX11_caught_134 ?_
                          refine zd_isub C dX11_caught_135 ?_
                          obtain ⟨o82, hF⟩ := hF
                          refine zd_lald C hH (zM_n21 hM) (zM_k21 hM) o82.1 (by rw [zM_l21 hM]; exact o82.2) (by rw [zM_l21 hM]; decide) dX11_caught_136 ?_
                          refine lv_iload C.1 C.2.1 dX11_caught_137 (lv_at hl 6 rfl) ?_
                          refine zd_i2l C hd dX11_caught_139 ?_
                          refine zd_lmul C dX11_caught_140 ?_
                          refine lv_goto (tgt := 145) C.1 C.2.1 dX11_caught_141 (by decide) ?_
                          refine zd_ladd C dX11_caught_145 ?_
                          obtain ⟨o83, hF⟩ := hF
                          obtain ⟨o84, hF⟩ := hF
                          refine zd_last C hH hS (zM_n22 hM) (zM_k22 hM) o83.1 (by rw [zM_l22 hM]; exact o83.2) (by rw [zM_l22 hM]; decide) o84 dX11_caught_146 (fun H locs hH hS => ?_)
                          obtain ⟨Y85, eY85⟩ : ∃ z, z = zU Y75 (i + 22) (j) ((Y75 (i + 22) (j)) + ((Y75 (i + 21) (j - 1)) * (d))) := ⟨_, rfl⟩
                          rw [← eY85] at hH
                          have hF := hF Y85 eY85 hH.2.2.2
                          refine zd_iinc (k := 0) (lv' := [(6, .int (zI (j + 1))), (5, .int (zI (k))), (0, .ref (bs + (i))), (1, .int (zI (a))), (2, .int (zI (b))), (3, .int (zI (g))), (4, .int (zI (d)))]) C hl rfl dX11_caught_147 (by decide) rfl (fun ls hl => ?_)
                          refine lv_goto (tgt := 46) C.1 C.2.1 dX11_caught_150 (by decide) ?_
                          obtain ⟨o86, hF⟩ := hF
                          exact ih7 (j + 1) Y85 o86 hF.1 (Nat.lt_of_lt_of_le hF.2 (Nat.le_of_lt_succ hmu7)) _ _ _ hH hS (lv_sub hl [0, 1, 2, 3, 4, 5, 6] rfl)
              exact L7 (((20 - ((0 : Int))).toNat) + 1) ((0 : Int)) Y5 (by decide) hI7 (Nat.lt_succ_self _) _ _ _ hH hS (lv_sub hl [0, 1, 2, 3, 4, 5, 6] rfl)
        exact L4 (((b - ((0 : Int))).toNat) + 1) ((0 : Int)) Y2 (by decide) hI4 (Nat.lt_succ_self _) _ _ _ hH hS (lv_sub hl [0, 1, 2, 3, 4, 5] rfl)
      · have hF := hF.2 c3
        refine lv_aload_n C.1 C.2.1 dX11_caught_10 rfl (lv_at hl 1 rfl) ?_
        refine zg11_53 C hH (zM_n0 hM) (zM_k0 hM) q_1340 (zM_r21 hM) dX11_caught_11 ?_
        refine lv_iload C.1 C.2.1 dX11_caught_14 (lv_at hl 0 rfl) ?_
        refine lv_iload C.1 C.2.1 dX11_caught_16 (lv_at hl 0 rfl) ?_
        refine lv_iload_n C.1 C.2.1 dX11_caught_18 rfl (lv_at hl 2 rfl) ?_
        refine zd_icmp_ne C hj ha 26 dX11_caught_19 (by decide) (fun c87 => ?_) (fun c87 => ?_)
        · have hF := hF.1 c87
          refine lv_lconst (v := zL 0) C.1 C.2.1 dX11_caught_26 rfl ?_
          obtain ⟨o88, hF⟩ := hF
          refine zd_last C hH hS (zM_n21 hM) (zM_k21 hM) o88.1 (by rw [zM_l21 hM]; exact o88.2) (by rw [zM_l21 hM]; decide) (by decide) dX11_caught_27 (fun H locs hH hS => ?_)
          obtain ⟨Y89, eY89⟩ : ∃ z, z = zU Y2 (i + 21) (j) (0) := ⟨_, rfl⟩
          rw [← eY89] at hH
          have hF := hF Y89 eY89 hH.2.2.2
          refine zd_iinc (k := 0) (lv' := [(5, .int (zI (j + 1))), (0, .ref (bs + (i))), (1, .int (zI (a))), (2, .int (zI (b))), (3, .int (zI (g))), (4, .int (zI (d)))]) C hl rfl dX11_caught_28 (by decide) rfl (fun ls hl => ?_)
          refine lv_goto (tgt := 3) C.1 C.2.1 dX11_caught_31 (by decide) ?_
          obtain ⟨o90, hF⟩ := hF
          exact ih1 (j + 1) Y89 o90 hF.1 (Nat.lt_of_lt_of_le hF.2 (Nat.le_of_lt_succ hmu1)) _ _ _ hH hS (lv_sub hl [0, 1, 2, 3, 4, 5] rfl)
        · have hF := hF.2 c87
          refine lv_lconst (v := zL 1) C.1 C.2.1 dX11_caught_22 rfl ?_
          refine lv_goto (tgt := 27) C.1 C.2.1 dX11_caught_23 (by decide) ?_
          obtain ⟨o91, hF⟩ := hF
          refine zd_last C hH hS (zM_n21 hM) (zM_k21 hM) o91.1 (by rw [zM_l21 hM]; exact o91.2) (by rw [zM_l21 hM]; decide) (by decide) dX11_caught_27 (fun H locs hH hS => ?_)
          obtain ⟨Y92, eY92⟩ : ∃ z, z = zU Y2 (i + 21) (j) (1) := ⟨_, rfl⟩
          rw [← eY92] at hH
          have hF := hF Y92 eY92 hH.2.2.2
          refine zd_iinc (k := 0) (lv' := [(5, .int (zI (j + 1))), (0, .ref (bs + (i))), (1, .int (zI (a))), (2, .int (zI (b))), (3, .int (zI (g))), (4, .int (zI (d)))]) C hl rfl dX11_caught_28 (by decide) rfl (fun ls hl => ?_)
          refine lv_goto (tgt := 3) C.1 C.2.1 dX11_caught_31 (by decide) ?_
          obtain ⟨o93, hF⟩ := hF
          exact ih1 (j + 1) Y92 o93 hF.1 (Nat.lt_of_lt_of_le hF.2 (Nat.le_of_lt_succ hmu1)) _ _ _ hH hS (lv_sub hl [0, 1, 2, 3, 4, 5] rfl)
  exact L1 (((20 - ((0 : Int))).toNat) + 1) ((0 : Int)) Y (by decide) hI1 (Nat.lt_succ_self _) _ _ _ hH hS (lv_sub hl [0, 1, 2, 3, 4, 5] rfl)
theorem v_X11_caught {X Y : Nat → Int → Int} {R : Nat → Int → Option Nat} {i : Nat} (a : Int) (ha : rI a) (b : Int) (hb : rI b) (g : Int) (hg : rI g) (d : Int) (hd : rI d) (hp : (0 ≤ a ∧ a ≤ 6) ∧ (0 ≤ b ∧ b ≤ 12) ∧ (0 ≤ g ∧ g ≤ 10) ∧ (0 ≤ d ∧ d ≤ 10)) : F_X11_caught i X Y R a b g d := by
  unfold F_X11_caught
  intro hX hY
  refine ⟨?_, ?_⟩
  · sorry
  intro j Y2
  intro _
  intro rY2
  intro h1
  refine ⟨?_, ?_⟩
  · intro c1
    refine ⟨?_, ?_⟩
    · sorry
    intro k Y5
    intro _
    intro rY5
    intro h2
    refine ⟨?_, ?_⟩
    · intro c2
      sorry
    intro c3
    refine ⟨?_, ?_⟩
    · sorry
    intro j Y8
    intro _
    intro rY8
    intro h3
    refine ⟨?_, ?_⟩
    · intro c4
      refine ⟨?_, ?_⟩
      · sorry
      intro j Y11
      intro _
      intro rY11
      intro h4
      refine ⟨?_, ?_⟩
      · intro c5
        refine ⟨?_, ?_⟩
        · first | omega | exact ⟨by omega, by omega⟩ | decide | assumption | exact ⟨by omega, by omega, by omega⟩ | exact ⟨by decide, by decide⟩
        refine ⟨?_, ?_⟩
        · sorry
        first | omega | exact ⟨by omega, by omega⟩ | decide | assumption | exact ⟨by omega, by omega, by omega⟩ | exact ⟨by decide, by decide⟩
      intro c6
      refine ⟨?_, ?_⟩
      · first | omega | exact ⟨by omega, by omega⟩ | decide | assumption | exact ⟨by omega, by omega, by omega⟩ | exact ⟨by decide, by decide⟩
      refine ⟨?_, ?_⟩
      · first | omega | exact ⟨by omega, by omega⟩ | decide | assumption | exact ⟨by omega, by omega, by omega⟩ | exact ⟨by decide, by decide⟩
      intro Y16
      intro eY16
      intro rY16
      refine ⟨?_, ?_⟩
      · first | omega | exact ⟨by omega, by omega⟩ | decide | assumption | exact ⟨by omega, by omega, by omega⟩ | exact ⟨by decide, by decide⟩
      refine ⟨?_, ?_⟩
      · sorry
      first | omega | exact ⟨by omega, by omega⟩ | decide | assumption | exact ⟨by omega, by omega, by omega⟩ | exact ⟨by decide, by decide⟩
    intro c7
    refine ⟨?_, ?_⟩
    · intro c8
      refine ⟨?_, ?_⟩
      · first | omega | exact ⟨by omega, by omega⟩ | decide | assumption | exact ⟨by omega, by omega, by omega⟩ | exact ⟨by decide, by decide⟩
      intro Y20
      intro eY20
      intro rY20
      refine ⟨?_, ?_⟩
      · first | omega | exact ⟨by omega, by omega⟩ | decide | assumption | exact ⟨by omega, by omega, by omega⟩ | exact ⟨by decide, by decide⟩
      refine ⟨?_, ?_⟩
      · intro c9
        refine ⟨?_, ?_⟩
        · first | omega | exact ⟨by omega, by omega⟩ | decide | assumption | exact ⟨by omega, by omega, by omega⟩ | exact ⟨by decide, by decide⟩
        refine ⟨?_, ?_⟩
        · first | omega | exact ⟨by omega, by omega⟩ | decide | assumption | exact ⟨by omega, by omega, by omega⟩ | exact ⟨by decide, by decide⟩
        intro Y25
        intro eY25
        intro rY25
        refine ⟨?_, ?_⟩
        · first | omega | exact ⟨by omega, by omega⟩ | decide | assumption | exact ⟨by omega, by omega, by omega⟩ | exact ⟨by decide, by decide⟩
        refine ⟨?_, ?_⟩
        · intro c10
          refine ⟨?_, ?_⟩
          · first | omega | exact ⟨by omega, by omega⟩ | decide | assumption | exact ⟨by omega, by omega, by omega⟩ | exact ⟨by decide, by decide⟩
          refine ⟨?_, ?_⟩
          · first | omega | exact ⟨by omega, by omega⟩ | decide | assumption | exact ⟨by omega, by omega, by omega⟩ | exact ⟨by decide, by decide⟩
          intro Y30
          intro eY30
          intro rY30
          refine ⟨?_, ?_⟩
          · first | omega | exact ⟨by omega, by omega⟩ | decide | assumption | exact ⟨by omega, by omega, by omega⟩ | exact ⟨by decide, by decide⟩
          refine ⟨?_, ?_⟩
          · sorry
          first | omega | exact ⟨by omega, by omega⟩ | decide | assumption | exact ⟨by omega, by omega, by omega⟩ | exact ⟨by decide, by decide⟩
        intro c11
        refine ⟨?_, ?_⟩
        · first | omega | exact ⟨by omega, by omega⟩ | decide | assumption | exact ⟨by omega, by omega, by omega⟩ | exact ⟨by decide, by decide⟩
        refine ⟨?_, ?_⟩
        · first | omega | exact ⟨by omega, by omega⟩ | decide | assumption | exact ⟨by omega, by omega, by omega⟩ | exact ⟨by decide, by decide⟩
        refine ⟨?_, ?_⟩
        · first | omega | exact ⟨by omega, by omega⟩ | decide | assumption | exact ⟨by omega, by omega, by omega⟩ | exact ⟨by decide, by decide⟩
        intro Y35
        intro eY35
        intro rY35
        refine ⟨?_, ?_⟩
        · first | omega | exact ⟨by omega, by omega⟩ | decide | assumption | exact ⟨by omega, by omega, by omega⟩ | exact ⟨by decide, by decide⟩
        refine ⟨?_, ?_⟩
        · sorry
        first | omega | exact ⟨by omega, by omega⟩ | decide | assumption | exact ⟨by omega, by omega, by omega⟩ | exact ⟨by decide, by decide⟩
      intro c12
      refine ⟨?_, ?_⟩
      · first | omega | exact ⟨by omega, by omega⟩ | decide | assumption | exact ⟨by omega, by omega, by omega⟩ | exact ⟨by decide, by decide⟩
      refine ⟨?_, ?_⟩
      · first | omega | exact ⟨by omega, by omega⟩ | decide | assumption | exact ⟨by omega, by omega, by omega⟩ | exact ⟨by decide, by decide⟩
      refine ⟨?_, ?_⟩
      · first | omega | exact ⟨by omega, by omega⟩ | decide | assumption | exact ⟨by omega, by omega, by omega⟩ | exact ⟨by decide, by decide⟩
      intro Y40
      intro eY40
      intro rY40
      refine ⟨?_, ?_⟩
      · first | omega | exact ⟨by omega, by omega⟩ | decide | assumption | exact ⟨by omega, by omega, by omega⟩ | exact ⟨by decide, by decide⟩
      refine ⟨?_, ?_⟩
      · intro c13
        refine ⟨?_, ?_⟩
        · first | omega | exact ⟨by omega, by omega⟩ | decide | assumption | exact ⟨by omega, by omega, by omega⟩ | exact ⟨by decide, by decide⟩
        refine ⟨?_, ?_⟩
        · first | omega | exact ⟨by omega, by omega⟩ | decide | assumption | exact ⟨by omega, by omega, by omega⟩ | exact ⟨by decide, by decide⟩
        intro Y45
        intro eY45
        intro rY45
        refine ⟨?_, ?_⟩
        · first | omega | exact ⟨by omega, by omega⟩ | decide | assumption | exact ⟨by omega, by omega, by omega⟩ | exact ⟨by decide, by decide⟩
        refine ⟨?_, ?_⟩
        · sorry
        first | omega | exact ⟨by omega, by omega⟩ | decide | assumption | exact ⟨by omega, by omega, by omega⟩ | exact ⟨by decide, by decide⟩
      intro c14
      refine ⟨?_, ?_⟩
      · first | omega | exact ⟨by omega, by omega⟩ | decide | assumption | exact ⟨by omega, by omega, by omega⟩ | exact ⟨by decide, by decide⟩
      refine ⟨?_, ?_⟩
      · first | omega | exact ⟨by omega, by omega⟩ | decide | assumption | exact ⟨by omega, by omega, by omega⟩ | exact ⟨by decide, by decide⟩
      refine ⟨?_, ?_⟩
      · first | omega | exact ⟨by omega, by omega⟩ | decide | assumption | exact ⟨by omega, by omega, by omega⟩ | exact ⟨by decide, by decide⟩
      intro Y50
      intro eY50
      intro rY50
      refine ⟨?_, ?_⟩
      · first | omega | exact ⟨by omega, by omega⟩ | decide | assumption | exact ⟨by omega, by omega, by omega⟩ | exact ⟨by decide, by decide⟩
      refine ⟨?_, ?_⟩
      · sorry
      first | omega | exact ⟨by omega, by omega⟩ | decide | assumption | exact ⟨by omega, by omega, by omega⟩ | exact ⟨by decide, by decide⟩
    intro c15
    refine ⟨?_, ?_⟩
    · first | omega | exact ⟨by omega, by omega⟩ | decide | assumption | exact ⟨by omega, by omega, by omega⟩ | exact ⟨by decide, by decide⟩
    refine ⟨?_, ?_⟩
    · first | omega | exact ⟨by omega, by omega⟩ | decide | assumption | exact ⟨by omega, by omega, by omega⟩ | exact ⟨by decide, by decide⟩
    refine ⟨?_, ?_⟩
    · first | omega | exact ⟨by omega, by omega⟩ | decide | assumption | exact ⟨by omega, by omega, by omega⟩ | exact ⟨by decide, by decide⟩
    intro Y55
    intro eY55
    intro rY55
    refine ⟨?_, ?_⟩
    · first | omega | exact ⟨by omega, by omega⟩ | decide | assumption | exact ⟨by omega, by omega, by omega⟩ | exact ⟨by decide, by decide⟩
    refine ⟨?_, ?_⟩
    · intro c16
      refine ⟨?_, ?_⟩
      · first | omega | exact ⟨by omega, by omega⟩ | decide | assumption | exact ⟨by omega, by omega, by omega⟩ | exact ⟨by decide, by decide⟩
      refine ⟨?_, ?_⟩
      · first | omega | exact ⟨by omega, by omega⟩ | decide | assumption | exact ⟨by omega, by omega, by omega⟩ | exact ⟨by decide, by decide⟩
      intro Y60
      intro eY60
      intro rY60
      refine ⟨?_, ?_⟩
      · first | omega | exact ⟨by omega, by omega⟩ | decide | assumption | exact ⟨by omega, by omega, by omega⟩ | exact ⟨by decide, by decide⟩
      refine ⟨?_, ?_⟩
      · intro c17
        refine ⟨?_, ?_⟩
        · first | omega | exact ⟨by omega, by omega⟩ | decide | assumption | exact ⟨by omega, by omega, by omega⟩ | exact ⟨by decide, by decide⟩
        refine ⟨?_, ?_⟩
        · first | omega | exact ⟨by omega, by omega⟩ | decide | assumption | exact ⟨by omega, by omega, by omega⟩ | exact ⟨by decide, by decide⟩
        intro Y65
        intro eY65
        intro rY65
        refine ⟨?_, ?_⟩
        · first | omega | exact ⟨by omega, by omega⟩ | decide | assumption | exact ⟨by omega, by omega, by omega⟩ | exact ⟨by decide, by decide⟩
        refine ⟨?_, ?_⟩
        · sorry
        first | omega | exact ⟨by omega, by omega⟩ | decide | assumption | exact ⟨by omega, by omega, by omega⟩ | exact ⟨by decide, by decide⟩
      intro c18
      refine ⟨?_, ?_⟩
      · first | omega | exact ⟨by omega, by omega⟩ | decide | assumption | exact ⟨by omega, by omega, by omega⟩ | exact ⟨by decide, by decide⟩
      refine ⟨?_, ?_⟩
      · first | omega | exact ⟨by omega, by omega⟩ | decide | assumption | exact ⟨by omega, by omega, by omega⟩ | exact ⟨by decide, by decide⟩
      refine ⟨?_, ?_⟩
      · first | omega | exact ⟨by omega, by omega⟩ | decide | assumption | exact ⟨by omega, by omega, by omega⟩ | exact ⟨by decide, by decide⟩
      intro Y70
      intro eY70
      intro rY70
      refine ⟨?_, ?_⟩
      · first | omega | exact ⟨by omega, by omega⟩ | decide | assumption | exact ⟨by omega, by omega, by omega⟩ | exact ⟨by decide, by decide⟩
      refine ⟨?_, ?_⟩
      · sorry
      first | omega | exact ⟨by omega, by omega⟩ | decide | assumption | exact ⟨by omega, by omega, by omega⟩ | exact ⟨by decide, by decide⟩
    intro c19
    refine ⟨?_, ?_⟩
    · first | omega | exact ⟨by omega, by omega⟩ | decide | assumption | exact ⟨by omega, by omega, by omega⟩ | exact ⟨by decide, by decide⟩
    refine ⟨?_, ?_⟩
    · first | omega | exact ⟨by omega, by omega⟩ | decide | assumption | exact ⟨by omega, by omega, by omega⟩ | exact ⟨by decide, by decide⟩
    refine ⟨?_, ?_⟩
    · first | omega | exact ⟨by omega, by omega⟩ | decide | assumption | exact ⟨by omega, by omega, by omega⟩ | exact ⟨by decide, by decide⟩
    intro Y75
    intro eY75
    intro rY75
    refine ⟨?_, ?_⟩
    · first | omega | exact ⟨by omega, by omega⟩ | decide | assumption | exact ⟨by omega, by omega, by omega⟩ | exact ⟨by decide, by decide⟩
    refine ⟨?_, ?_⟩
    · intro c20
      refine ⟨?_, ?_⟩
      · first | omega | exact ⟨by omega, by omega⟩ | decide | assumption | exact ⟨by omega, by omega, by omega⟩ | exact ⟨by decide, by decide⟩
      refine ⟨?_, ?_⟩
      · first | omega | exact ⟨by omega, by omega⟩ | decide | assumption | exact ⟨by omega, by omega, by omega⟩ | exact ⟨by decide, by decide⟩
      intro Y80
      intro eY80
      intro rY80
      refine ⟨?_, ?_⟩
      · first | omega | exact ⟨by omega, by omega⟩ | decide | assumption | exact ⟨by omega, by omega, by omega⟩ | exact ⟨by decide, by decide⟩
      refine ⟨?_, ?_⟩
      · sorry
      first | omega | exact ⟨by omega, by omega⟩ | decide | assumption | exact ⟨by omega, by omega, by omega⟩ | exact ⟨by decide, by decide⟩
    intro c21
    refine ⟨?_, ?_⟩
    · first | omega | exact ⟨by omega, by omega⟩ | decide | assumption | exact ⟨by omega, by omega, by omega⟩ | exact ⟨by decide, by decide⟩
    refine ⟨?_, ?_⟩
    · first | omega | exact ⟨by omega, by omega⟩ | decide | assumption | exact ⟨by omega, by omega, by omega⟩ | exact ⟨by decide, by decide⟩
    refine ⟨?_, ?_⟩
    · first | omega | exact ⟨by omega, by omega⟩ | decide | assumption | exact ⟨by omega, by omega, by omega⟩ | exact ⟨by decide, by decide⟩
    intro Y85
    intro eY85
    intro rY85
    refine ⟨?_, ?_⟩
    · first | omega | exact ⟨by omega, by omega⟩ | decide | assumption | exact ⟨by omega, by omega, by omega⟩ | exact ⟨by decide, by decide⟩
    refine ⟨?_, ?_⟩
    · sorry
    first | omega | exact ⟨by omega, by omega⟩ | decide | assumption | exact ⟨by omega, by omega, by omega⟩ | exact ⟨by decide, by decide⟩
  intro c22
  refine ⟨?_, ?_⟩
  · intro c23
    refine ⟨?_, ?_⟩
    · first | omega | exact ⟨by omega, by omega⟩ | decide | assumption | exact ⟨by omega, by omega, by omega⟩ | exact ⟨by decide, by decide⟩
    intro Y89
    intro eY89
    intro rY89
    refine ⟨?_, ?_⟩
    · first | omega | exact ⟨by omega, by omega⟩ | decide | assumption | exact ⟨by omega, by omega, by omega⟩ | exact ⟨by decide, by decide⟩
    refine ⟨?_, ?_⟩
    · sorry
    first | omega | exact ⟨by omega, by omega⟩ | decide | assumption | exact ⟨by omega, by omega, by omega⟩ | exact ⟨by decide, by decide⟩
  intro c24
  refine ⟨?_, ?_⟩
  · first | omega | exact ⟨by omega, by omega⟩ | decide | assumption | exact ⟨by omega, by omega, by omega⟩ | exact ⟨by decide, by decide⟩
  intro Y92
  intro eY92
  intro rY92
  refine ⟨?_, ?_⟩
  · first | omega | exact ⟨by omega, by omega⟩ | decide | assumption | exact ⟨by omega, by omega, by omega⟩ | exact ⟨by decide, by decide⟩
  refine ⟨?_, ?_⟩
  · sorry
  first | omega | exact ⟨by omega, by omega⟩ | decide | assumption | exact ⟨by omega, by omega, by omega⟩ | exact ⟨by decide, by decide⟩
theorem c_X11_caught {l : Launch} {D : va_G} {cy : Nat → ClassId} {bs N : Nat} {sa : Nat → Nat} {kd len : Nat → Nat} {X Y : Nat → Int → Int} {R : Nat → Int → Option Nat} {i : Nat} (hM : zM N kd len R i) (a : Int) (ha : rI a) (b : Int) (hb : rI b) (g : Int) (hg : rI g) (d : Int) (hd : rI d) (hp : (0 ≤ a ∧ a ≤ 6) ∧ (0 ≤ b ∧ b ≤ 12) ∧ (0 ≤ g ∧ g ≤ 10) ∧ (0 ≤ d ∧ d ≤ 10)) : Met l yX11_caught (.code yX11_caught cX11_caught 7 (some .long) :: zTB) (zRm 0 0) (zPc D cy bs sa N kd len X Y R [.ref (bs + (i)), .int (zI (a)), .int (zI (b)), .int (zI (g)), .int (zI (d))]) (zQl D cy bs N kd len (fun r st => st.1 = X ∧ st.2.2 = R ∧ (True))) 0 0 (zA bs) := w_X11_caught hM a ha b hb g hg d hd (v_X11_caught a ha b hb g hg d hd hp)
