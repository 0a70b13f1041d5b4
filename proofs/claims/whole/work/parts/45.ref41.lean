/-! TIP; CHANCES -/
def tpOf (Z : Nat → Int → Int) (i : Nat) (w : Int) : Int := if w = 0 then (rTip Z i (mWo Z i 0) : Nat) else if w = 1 then rCb Z i else if w = 2 then (if whN (tpW Z i) (2 ^ ((Z i 27).toNat - 1)) = -1 then -1 else mOnes (whN (tpW Z i) (2 ^ ((Z i 27).toNat - 1)))) else if w = 3 then whN (tpW Z i) (2 ^ ((Z i 27).toNat - 1)) else -2
def rTipC (X : Nat → Int → Int) (i : Nat) (n c w : Int) : Int := if rOk X i n c then tpOf (hZ X i n c 0) i w else -2
theorem rCb_s {Z X : Nat → Int → Int} {i : Nat} (h : sZ Z X i) : rCb X i = rCb Z i := by
  have t := h.1
  unfold rCb tBs fCb fTp tRc tHv tSb
  rw [rP_t t, rW_t t, rG_t t, sdf_t t, t.2.2.2.2.2.1, h.2.1]
theorem oH_tW {X X1 Y Y1 : Nat → Int → Int} {i : Nat} (h : oH X Y i) (tw : tW X X1 i) (hy : ∀ a, a ≠ i + 18 → Y1 a = Y a) : oH X1 Y1 i :=
  oH_f ⟨tw.1, fun s hs => tw.2 s (by omega) (by omega), hy⟩ (by rw [tw.2 28 (by decide) (by decide)]; exact h.2.1.1) h
theorem tpW_s {Z X : Nat → Int → Int} {i : Nat} (t : tS Z X i) (h : X i 28 = Z i 28) : tpW X i = tpW Z i := funext fun s => rTip_t t h s
abbrev cX11_tip : ByteArray := prog_13_method_82_code
def yX11_tip : MethodName := ⟨RX11, "tip", "(III)I"⟩
theorem dX11_tip_0 : decode cX11_tip 0 = .ok (.aload_n 0, 1) := by decide +kernel
theorem dX11_tip_1 : decode cX11_tip 1 = .ok (.iconst 0, 1) := by decide +kernel
theorem dX11_tip_2 : decode cX11_tip 2 = .ok (.putfield 88, 3) := by decide +kernel
theorem dX11_tip_5 : decode cX11_tip 5 = .ok (.aload_n 0, 1) := by decide +kernel
theorem dX11_tip_6 : decode cX11_tip 6 = .ok (.iload_n 1, 1) := by decide +kernel
theorem dX11_tip_7 : decode cX11_tip 7 = .ok (.iload_n 2, 1) := by decide +kernel
theorem dX11_tip_8 : decode cX11_tip 8 = .ok (.invokevirtual 397, 3) := by decide +kernel
theorem dX11_tip_11 : decode cX11_tip 11 = .ok (.ifCond .ne 6, 3) := by decide +kernel
theorem dX11_tip_14 : decode cX11_tip 14 = .ok (.bipush (-2), 2) := by decide +kernel
theorem dX11_tip_16 : decode cX11_tip 16 = .ok (.ireturn, 1) := by decide +kernel
theorem dX11_tip_17 : decode cX11_tip 17 = .ok (.iload_n 3, 1) := by decide +kernel
theorem dX11_tip_18 : decode cX11_tip 18 = .ok (.tableswitch 66 0 3 #[30, 36, 41, 61], 30) := by decide +kernel
theorem dX11_tip_48 : decode cX11_tip 48 = .ok (.aload_n 0, 1) := by decide +kernel
theorem dX11_tip_49 : decode cX11_tip 49 = .ok (.iconst 0, 1) := by decide +kernel
theorem dX11_tip_50 : decode cX11_tip 50 = .ok (.invokevirtual 420, 3) := by decide +kernel
theorem dX11_tip_53 : decode cX11_tip 53 = .ok (.ireturn, 1) := by decide +kernel
theorem dX11_tip_54 : decode cX11_tip 54 = .ok (.aload_n 0, 1) := by decide +kernel
theorem dX11_tip_55 : decode cX11_tip 55 = .ok (.invokevirtual 423, 3) := by decide +kernel
theorem dX11_tip_58 : decode cX11_tip 58 = .ok (.ireturn, 1) := by decide +kernel
theorem dX11_tip_59 : decode cX11_tip 59 = .ok (.aload_n 0, 1) := by decide +kernel
theorem dX11_tip_60 : decode cX11_tip 60 = .ok (.invokevirtual 426, 3) := by decide +kernel
theorem dX11_tip_63 : decode cX11_tip 63 = .ok (.iconst (-1), 1) := by decide +kernel
theorem dX11_tip_64 : decode cX11_tip 64 = .ok (.if_icmp .ne 7, 3) := by decide +kernel
theorem dX11_tip_67 : decode cX11_tip 67 = .ok (.iconst (-1), 1) := by decide +kernel
theorem dX11_tip_68 : decode cX11_tip 68 = .ok (.goto 10, 3) := by decide +kernel
theorem dX11_tip_71 : decode cX11_tip 71 = .ok (.aload_n 0, 1) := by decide +kernel
theorem dX11_tip_72 : decode cX11_tip 72 = .ok (.invokevirtual 426, 3) := by decide +kernel
theorem dX11_tip_75 : decode cX11_tip 75 = .ok (.invokestatic 385, 3) := by decide +kernel
theorem dX11_tip_78 : decode cX11_tip 78 = .ok (.ireturn, 1) := by decide +kernel
theorem dX11_tip_79 : decode cX11_tip 79 = .ok (.aload_n 0, 1) := by decide +kernel
theorem dX11_tip_80 : decode cX11_tip 80 = .ok (.invokevirtual 426, 3) := by decide +kernel
theorem dX11_tip_83 : decode cX11_tip 83 = .ok (.ireturn, 1) := by decide +kernel
theorem dX11_tip_84 : decode cX11_tip 84 = .ok (.bipush (-2), 2) := by decide +kernel
theorem dX11_tip_86 : decode cX11_tip 86 = .ok (.ireturn, 1) := by decide +kernel
theorem q_1796 : Cond.methodLink RX11 423 yX11_canBeTip ∈ zTB := zmem 1796 (by decide +kernel) rfl
theorem q_1798 : Cond.instanceMethod yX11_canBeTip ∈ zTB := zmem 1798 (by decide +kernel) rfl
theorem q_92 : Cond.selects RX11 yX11_canBeTip yX11_canBeTip ∈ zTB := zmem 92 (by decide +kernel) rfl
theorem q_1799 : Cond.code yX11_canBeTip cX11_canBeTip 6 (some .int) ∈ zTB := zmem 1799 (by decide +kernel) rfl
theorem k_RX11_423 : zLv RX11 423 RX11 yX11_canBeTip cX11_canBeTip 6 (some .int) 0 := ⟨⟨q_1796, q_1798, q_92, q_140, q_1799⟩, rfl, ⟨by decide, by decide⟩, by decide +kernel⟩
theorem q_1800 : Cond.methodLink RX11 426 yX11_withheld ∈ zTB := zmem 1800 (by decide +kernel) rfl
theorem q_1802 : Cond.instanceMethod yX11_withheld ∈ zTB := zmem 1802 (by decide +kernel) rfl
theorem q_93 : Cond.selects RX11 yX11_withheld yX11_withheld ∈ zTB := zmem 93 (by decide +kernel) rfl
theorem q_1803 : Cond.code yX11_withheld cX11_withheld 6 (some .int) ∈ zTB := zmem 1803 (by decide +kernel) rfl
theorem k_RX11_426 : zLv RX11 426 RX11 yX11_withheld cX11_withheld 6 (some .int) 0 := ⟨⟨q_1800, q_1802, q_93, q_140, q_1803⟩, rfl, ⟨by decide, by decide⟩, by decide +kernel⟩
def F_X11_tip (i : Nat) (X Y : Nat → Int → Int) (R : Nat → Int → Option Nat) (a : Int) (b : Int) (g : Int) : Prop := (∀ i j, rI (X i j)) → (∀ i j, rL (Y i j)) → ∀ X1 : Nat → Int → Int, X1 = zU X (i) 0 (0) → (∀ i j, rI (X1 i j)) → ((oTN X1 i) ∧ (∀ r5 : Bool, ∀ X3 : Nat → Int → Int, (∀ i j, rI (X3 i j)) → ∀ Y4 : Nat → Int → Int, (∀ i j, rL (Y4 i j)) → (r5 = (mIs i X1 1 (b) && mIs i X1 0 (a)) ∧ hK X1 (X3) Y (Y4) i ∧ (r5 = true → hS9 X1 (X3) i (a) (b) ∧ oH (X3) (Y4) i)) → (((r5 = true) → ((g = 0 → ((oH X3 Y4 i) ∧ (∀ r11 : Int, rI r11 → ∀ X9 : Nat → Int → Int, (∀ i j, rI (X9 i j)) → ∀ Y10 : Nat → Int → Int, (∀ i j, rL (Y10 i j)) → (r11 = ((rTip X3 i (mWo X3 i ((0 : Int))) : Nat) : Int) ∧ tW X3 (X9) i ∧ wK (X9) i (mWo X3 i ((0 : Int))) (X3 i 27).toNat ∧ ∀ a, a ≠ i + 18 → (Y10) a = Y4 a) → (r11 = rTipC X i (a) (b) (g) ∧ pK X (X9) i)))) ∧ (g = 1 → ((oH X3 Y4 i) ∧ (∀ r15 : Int, rI r15 → ∀ X13 : Nat → Int → Int, (∀ i j, rI (X13 i j)) → ∀ Y14 : Nat → Int → Int, (∀ i j, rL (Y14 i j)) → (r15 = rCb X3 i ∧ tW X3 (X13) i ∧ ∀ a, a ≠ i + 18 → (Y14) a = Y4 a) → (r15 = rTipC X i (a) (b) (g) ∧ pK X (X13) i)))) ∧ (g = 2 → ((oH X3 Y4 i) ∧ (∀ r19 : Int, rI r19 → ∀ X17 : Nat → Int → Int, (∀ i j, rI (X17 i j)) → ∀ Y18 : Nat → Int → Int, (∀ i j, rL (Y18 i j)) → (r19 = whN (tpW X3 i) (2 ^ ((X3 i 27).toNat - 1)) ∧ tW X3 (X17) i ∧ ∀ a, a ≠ i + 18 → (Y18) a = Y4 a) → (((¬ r19 = (-1)) → ((oH X17 Y18 i) ∧ (∀ r24 : Int, rI r24 → ∀ X22 : Nat → Int → Int, (∀ i j, rI (X22 i j)) → ∀ Y23 : Nat → Int → Int, (∀ i j, rL (Y23 i j)) → (r24 = whN (tpW X17 i) (2 ^ ((X17 i 27).toNat - 1)) ∧ tW X17 (X22) i ∧ ∀ a, a ≠ i + 18 → (Y23) a = Y18 a) → (rI (mOnes (r24)) → (mOnes (r24) = rTipC X i (a) (b) (g) ∧ pK X (X22) i))))) ∧ ((¬ (¬ r19 = (-1))) → ((-1) = rTipC X i (a) (b) (g) ∧ pK X (X17) i)))))) ∧ (g = 3 → ((oH X3 Y4 i) ∧ (∀ r29 : Int, rI r29 → ∀ X27 : Nat → Int → Int, (∀ i j, rI (X27 i j)) → ∀ Y28 : Nat → Int → Int, (∀ i j, rL (Y28 i j)) → (r29 = whN (tpW X3 i) (2 ^ ((X3 i 27).toNat - 1)) ∧ tW X3 (X27) i ∧ ∀ a, a ≠ i + 18 → (Y28) a = Y4 a) → (r29 = rTipC X i (a) (b) (g) ∧ pK X (X27) i)))) ∧ ((g < 0 ∨ 3 < g) → ((-2) = rTipC X i (a) (b) (g) ∧ pK X (X3) i)))) ∧ ((r5 = false) → ((-2) = rTipC X i (a) (b) (g) ∧ pK X (X3) i)))))
set_option maxHeartbeats 4000000 in
set_option maxRecDepth 100000 in
theorem w_X11_tip {l : Launch} {D : va_G} {cy : Nat → ClassId} {bs N : Nat} {sa : Nat → Nat} {kd len : Nat → Nat} {X Y : Nat → Int → Int} {R : Nat → Int → Option Nat} {i : Nat} (hM : zM N kd len R i) (a : Int) (ha : rI a) (b : Int) (hb : rI b) (g : Int) (hg : rI g) (hF : F_X11_tip i X Y R a b g) : Met l yX11_tip (.code yX11_tip cX11_tip 4 (some .int) :: zTB) (zRm 6 140) (zPc D cy bs sa N kd len X Y R [.ref (bs + (i)), .int (zI (a)), .int (zI (b)), .int (zI (g))]) (zQi D cy bs N kd len (fun r st => st.2.2 = R ∧ (r = rTipC X i (a) (b) (g) ∧ pK X (st.1) i))) 0 0 (zA bs) := by
  refine zstart (by decide) (Nat.le_of_ble_eq_true rfl) ?_
  intro p e s m args below meth c ls C hE hH hr hlk hnm hl hargs
  have hF := hF hH.2.2.1 hH.2.2.2
  have hS : va_S (zA bs) s.heap s.heap [] := va_S.rf
  have hl : lv_has ls 4 [(0, .ref (bs + (i))), (1, .int (zI (a))), (2, .int (zI (b))), (3, .int (zI (g)))] := hl
  refine lv_aload_n C.1 C.2.1 dX11_tip_0 rfl (lv_at hl 0 rfl) ?_
  refine zd_iconst C dX11_tip_1 ?_
  refine zp11_0 C hH hS (zM_n0 hM) (zM_k0 hM) q_1287 (by decide) dX11_tip_2 (fun H locs hH hS => ?_)
  obtain ⟨X1, eX1⟩ : ∃ z, z = zU X (i) 0 (0) := ⟨_, rfl⟩
  rw [← eX1] at hH
  have hF := hF X1 eX1 hH.2.2.1
  refine lv_aload_n C.1 C.2.1 dX11_tip_5 rfl (lv_at hl 0 rfl) ?_
  refine lv_iload_n C.1 C.2.1 dX11_tip_6 rfl (lv_at hl 1 rfl) ?_
  refine lv_iload_n C.1 C.2.1 dX11_tip_7 rfl (lv_at hl 2 rfl) ?_
  obtain ⟨o2, hF⟩ := hF
  refine zgoi (zrunV (As := [.int (zI (a)), .int (zI (b))]) (rest := []) C hE hH hS hl.1 (c_X11_hand (l := l) hM (a) ha (b) hb o2) k_RX11_397 ⟨Nat.le_of_ble_eq_true rfl, Nat.le_of_ble_eq_true rfl⟩ (zM_n0 hM) (zM_k0 hM) rfl rfl rfl (Nat.le_of_ble_eq_true rfl) dX11_tip_8 ⟨Nat.zero_le _, Nat.zero_le _⟩) hS (fun rq X3 Y4 Rq H locs hrq hq hH hS => ?_)
  obtain ⟨h9R, hq⟩ := hq
  dsimp only at h9R
  rw [h9R] at hH
  obtain ⟨r5, h91, hq⟩ := hq
  subst h91
  have hF := hF r5 X3 hH.2.2.1 Y4 hH.2.2.2 hq
  refine zd_ifB_ne C 17 dX11_tip_11 (by decide) (fun c6 => ?_) (fun c6 => ?_)
  · have hF := hF.1 c6
    refine lv_iload_n C.1 C.2.1 dX11_tip_17 rfl (lv_at hl 3 rfl) ?_
    by_cases c7_0 : g = 0
    · have hF := hF.1 c7_0
      refine zd_tabI C hg 48 (0) c7_0 dX11_tip_18 (by decide) (by decide) rfl (by decide) ?_
      refine lv_aload_n C.1 C.2.1 dX11_tip_48 rfl (lv_at hl 0 rfl) ?_
      refine zd_iconst C dX11_tip_49 ?_
      obtain ⟨o8, hF⟩ := hF
      refine zgoi (zrunV (As := [.int (zI (0))]) (rest := []) C hE hH hS hl.1 (c_X11_tipWithout (l := l) hM (0) (by decide) o8) k_RX11_420 ⟨Nat.le_of_ble_eq_true rfl, Nat.le_of_ble_eq_true rfl⟩ (zM_n0 hM) (zM_k0 hM) rfl rfl rfl (Nat.le_of_ble_eq_true rfl) dX11_tip_50 ⟨Nat.zero_le _, Nat.zero_le _⟩) hS (fun r11 X9 Y10 Rq H locs hrq hq hH hS => ?_)
      obtain ⟨h9R, hq⟩ := hq
      dsimp only at h9R
      rw [h9R] at hH
      have hr11 := hrq
      have hF := hF r11 hrq X9 hH.2.2.1 Y10 hH.2.2.2 hq
      exact zd_iret C hr hlk hH hS hr11 (⟨rfl, hF⟩) dX11_tip_53
    · have hF := hF.2
      by_cases c7_1 : g = 1
      · have hF := hF.1 c7_1
        refine zd_tabI C hg 54 (1) c7_1 dX11_tip_18 (by decide) (by decide) rfl (by decide) ?_
        refine lv_aload_n C.1 C.2.1 dX11_tip_54 rfl (lv_at hl 0 rfl) ?_
        obtain ⟨o12, hF⟩ := hF
        refine zgoi (zrunV (As := []) (rest := []) C hE hH hS hl.1 (c_X11_canBeTip (l := l) hM  o12) k_RX11_423 ⟨Nat.le_of_ble_eq_true rfl, Nat.le_of_ble_eq_true rfl⟩ (zM_n0 hM) (zM_k0 hM) rfl rfl rfl (Nat.le_of_ble_eq_true rfl) dX11_tip_55 ⟨Nat.zero_le _, Nat.zero_le _⟩) hS (fun r15 X13 Y14 Rq H locs hrq hq hH hS => ?_)
        obtain ⟨h9R, hq⟩ := hq
        dsimp only at h9R
        rw [h9R] at hH
        have hr15 := hrq
        have hF := hF r15 hrq X13 hH.2.2.1 Y14 hH.2.2.2 hq
        exact zd_iret C hr hlk hH hS hr15 (⟨rfl, hF⟩) dX11_tip_58
      · have hF := hF.2
        by_cases c7_2 : g = 2
        · have hF := hF.1 c7_2
          refine zd_tabI C hg 59 (2) c7_2 dX11_tip_18 (by decide) (by decide) rfl (by decide) ?_
          refine lv_aload_n C.1 C.2.1 dX11_tip_59 rfl (lv_at hl 0 rfl) ?_
          obtain ⟨o16, hF⟩ := hF
          refine zgoi (zrunV (As := []) (rest := []) C hE hH hS hl.1 (c_X11_withheld (l := l) hM  o16) k_RX11_426 ⟨Nat.le_of_ble_eq_true rfl, Nat.le_of_ble_eq_true rfl⟩ (zM_n0 hM) (zM_k0 hM) rfl rfl rfl (Nat.le_of_ble_eq_true rfl) dX11_tip_60 ⟨Nat.zero_le _, Nat.zero_le _⟩) hS (fun r19 X17 Y18 Rq H locs hrq hq hH hS => ?_)
          obtain ⟨h9R, hq⟩ := hq
          dsimp only at h9R
          rw [h9R] at hH
          have hr19 := hrq
          have hF := hF r19 hrq X17 hH.2.2.1 Y18 hH.2.2.2 hq
          refine zd_iconst C dX11_tip_63 ?_
          refine zd_icmp_ne C hr19 (by decide) 71 dX11_tip_64 (by decide) (fun c20 => ?_) (fun c20 => ?_)
          · have hF := hF.1 c20
            refine lv_aload_n C.1 C.2.1 dX11_tip_71 rfl (lv_at hl 0 rfl) ?_
            obtain ⟨o21, hF⟩ := hF
            refine zgoi (zrunV (As := []) (rest := []) C hE hH hS hl.1 (c_X11_withheld (l := l) hM  o21) k_RX11_426 ⟨Nat.le_of_ble_eq_true rfl, Nat.le_of_ble_eq_true rfl⟩ (zM_n0 hM) (zM_k0 hM) rfl rfl rfl (Nat.le_of_ble_eq_true rfl) dX11_tip_72 ⟨Nat.zero_le _, Nat.zero_le _⟩) hS (fun r24 X22 Y23 Rq H locs hrq hq hH hS => ?_)
            obtain ⟨h9R, hq⟩ := hq
            dsimp only at h9R
            rw [h9R] at hH
            have hr24 := hrq
            have hF := hF r24 hrq X22 hH.2.2.1 Y23 hH.2.2.2 hq
            refine zgoi (zrunS (As := [.int (zI (r24))]) (rest := []) C hE hH hS hl.1 (c_X11_ones (l := l)  (r24) hr24) k_RX11_385 ⟨Nat.le_of_ble_eq_true rfl, Nat.le_of_ble_eq_true rfl⟩ rfl (Nat.le_of_ble_eq_true rfl) dX11_tip_75 ⟨Nat.zero_le _, Nat.zero_le _⟩) hS (fun rq Xq Yq Rq H locs hrq hq hH hS => ?_)
            obtain ⟨h91, h92⟩ := hq
            have h93 : Xq = X22 := congrArg (fun z => z.1) h92
            have h94 : Yq = Y23 := congrArg (fun z => z.2.1) h92
            have h95 : Rq = R := congrArg (fun z => z.2.2) h92
            rw [h93, h94, h95] at hH
            subst h91
            have hr25 := hrq
            have hF := hF hr25
            exact zd_iret C hr hlk hH hS hr25 (⟨rfl, hF⟩) dX11_tip_78
          · have hF := hF.2 c20
            refine zd_iconst C dX11_tip_67 ?_
            refine lv_goto (tgt := 78) C.1 C.2.1 dX11_tip_68 (by decide) ?_
            exact zd_iret C hr hlk hH hS (by decide) (⟨rfl, hF⟩) dX11_tip_78
        · have hF := hF.2
          by_cases c7_3 : g = 3
          · have hF := hF.1 c7_3
            refine zd_tabI C hg 79 (3) c7_3 dX11_tip_18 (by decide) (by decide) rfl (by decide) ?_
            refine lv_aload_n C.1 C.2.1 dX11_tip_79 rfl (lv_at hl 0 rfl) ?_
            obtain ⟨o26, hF⟩ := hF
            refine zgoi (zrunV (As := []) (rest := []) C hE hH hS hl.1 (c_X11_withheld (l := l) hM  o26) k_RX11_426 ⟨Nat.le_of_ble_eq_true rfl, Nat.le_of_ble_eq_true rfl⟩ (zM_n0 hM) (zM_k0 hM) rfl rfl rfl (Nat.le_of_ble_eq_true rfl) dX11_tip_80 ⟨Nat.zero_le _, Nat.zero_le _⟩) hS (fun r29 X27 Y28 Rq H locs hrq hq hH hS => ?_)
            obtain ⟨h9R, hq⟩ := hq
            dsimp only at h9R
            rw [h9R] at hH
            have hr29 := hrq
            have hF := hF r29 hrq X27 hH.2.2.1 Y28 hH.2.2.2 hq
            exact zd_iret C hr hlk hH hS hr29 (⟨rfl, hF⟩) dX11_tip_83
          · have hF := hF.2
            have c7 := tsw_0_3 (g) c7_0 c7_1 c7_2 c7_3
            have hF := hF c7
            refine zd_tabO C hg 84 c7 dX11_tip_18 (by decide) ?_
            refine zd_bipush C (by decide) dX11_tip_84 ?_
            exact zd_iret C hr hlk hH hS (by decide) (⟨rfl, hF⟩) dX11_tip_86
  · have hF := hF.2 c6
    refine zd_bipush C (by decide) dX11_tip_14 ?_
    exact zd_iret C hr hlk hH hS (by decide) (⟨rfl, hF⟩) dX11_tip_16
theorem v_X11_tip {X Y : Nat → Int → Int} {R : Nat → Int → Option Nat} {i : Nat} (a : Int) (ha : rI a) (b : Int) (hb : rI b) (g : Int) (hg : rI g) (hp : oTN X i) : F_X11_tip i X Y R a b g := by
  unfold F_X11_tip
  intro hX hY
  have hT := hp
  intro X1
  intro eX1
  have o1 : ∀ z, z ≠ i → X1 z = X z := fun z h => by rw [eX1, zU_o h]
  have z1 : X1 i 0 = 0 := by rw [eX1, zU_s]
  intro rX1
  refine ⟨?_, ?_⟩
  · exact oTN_k (o1 _ (by omega)) (o1 _ (by omega)) (o1 _ (by omega)) hT
  intro r5
  intro X3
  intro rX3
  intro Y4
  intro rY4
  intro h1
  obtain ⟨e5, hk, h9⟩ := h1
  rw [em9 (o1 _ (by omega)), em9 (o1 _ (by omega))] at e5
  have p3 : pK X X3 i := ⟨fun z g1 g2 => (hk.1 z g1 (by omega) (by omega)).trans (o1 z g1), (hk.2.1 0 (by omega) (by decide)).trans z1⟩
  refine ⟨?_, ?_⟩
  · intro c1
    obtain ⟨g9, h⟩ := h9 c1
    obtain ⟨-, z, h27, h26, hx, ld, sd, ks, ko⟩ := hd9 o1 z1 hk g9 h
    have hb := h.1.2.2.1
    have hA := h.1.2.1
    have hBs := h.1.2.2.2
    have eW := tpW_s z.1 z.2.1
    have z27 := z.1.2.2.2.2.2.1
    have u : ∀ y X4, pK X X4 i → y = tpOf (hZ X i a b 0) i g → y = rTipC X i a b g ∧ pK X X4 i := fun y X4 h4 hy => by
      refine ⟨?_, h4⟩
      unfold rTipC rOk
      rw [← e5, c1]
      exact hy
    have pk : ∀ X4, tW X3 X4 i → pK X X4 i := fun X4 tw => tr9 p3 (fun z g1 g2 => tw.1 z g1 (by omega)) (tw.2 0 (by decide) (by decide))
    rw [eW, z27]
    refine ⟨?_, ?_⟩
    · intro c2
      refine ⟨?_, ?_⟩
      · exact h
      intro r11
      intro _
      intro X9
      intro rX9
      intro Y10
      intro rY10
      intro h2
      obtain ⟨er, tw, -, -⟩ := h2
      refine u _ _ (pk _ tw) ?_
      unfold tpOf
      rw [if_pos c2, er, rTip_t z.1 z.2.1]
    refine ⟨?_, ?_⟩
    · intro c3
      refine ⟨?_, ?_⟩
      · exact h
      intro r15
      intro _
      intro X13
      intro rX13
      intro Y14
      intro rY14
      intro h3
      obtain ⟨er, tw, -⟩ := h3
      refine u _ _ (pk _ tw) ?_
      unfold tpOf
      rw [if_neg (by omega), if_pos c3, er, rCb_s z]
    refine ⟨?_, ?_⟩
    · intro c4
      refine ⟨?_, ?_⟩
      · exact h
      intro r19
      intro _
      intro X17
      intro rX17
      intro Y18
      intro rY18
      intro h4
      obtain ⟨er, tw, y4⟩ := h4
      refine ⟨?_, ?_⟩
      · intro c5
        refine ⟨?_, ?_⟩
        · exact oH_tW h tw y4
        intro r24
        intro _
        intro X22
        intro rX22
        intro Y23
        intro rY23
        intro h5
        obtain ⟨er5, tw5, -⟩ := h5
        rw [tpW_s (tW_t tw) (tw.2 28 (by decide) (by decide)), (tW_t tw).2.2.2.2.2.1, eW, z27] at er5
        intro _
        refine u _ _ (tr9 (pk _ tw) (fun z g1 g2 => tw5.1 z g1 (by omega)) (tw5.2 0 (by decide) (by decide))) ?_
        unfold tpOf
        rw [if_neg (by omega), if_neg (by omega), if_pos c4, ← er, if_neg c5, er5, er]
      intro c6
      refine u _ _ (pk _ tw) ?_
      unfold tpOf
      rw [if_neg (by omega), if_neg (by omega), if_pos c4, ← er, if_pos (Classical.not_not.mp c6)]
    refine ⟨?_, ?_⟩
    · intro c7
      refine ⟨?_, ?_⟩
      · exact h
      intro r29
      intro _
      intro X27
      intro rX27
      intro Y28
      intro rY28
      intro h6
      obtain ⟨er, tw, -⟩ := h6
      refine u _ _ (pk _ tw) ?_
      unfold tpOf
      rw [if_neg (by omega), if_neg (by omega), if_neg (by omega), if_pos c7]
      exact er
    intro c8
    refine u _ _ p3 ?_
    unfold tpOf
    rw [if_neg (by omega), if_neg (by omega), if_neg (by omega), if_neg (by omega)]
  intro c9
  exact ⟨by unfold rTipC rOk; rw [← e5, c9]; rfl, p3⟩
theorem c_X11_tip {l : Launch} {D : va_G} {cy : Nat → ClassId} {bs N : Nat} {sa : Nat → Nat} {kd len : Nat → Nat} {X Y : Nat → Int → Int} {R : Nat → Int → Option Nat} {i : Nat} (hM : zM N kd len R i) (a : Int) (ha : rI a) (b : Int) (hb : rI b) (g : Int) (hg : rI g) (hp : oTN X i) : Met l yX11_tip (.code yX11_tip cX11_tip 4 (some .int) :: zTB) (zRm 6 140) (zPc D cy bs sa N kd len X Y R [.ref (bs + (i)), .int (zI (a)), .int (zI (b)), .int (zI (g))]) (zQi D cy bs N kd len (fun r st => st.2.2 = R ∧ (r = rTipC X i (a) (b) (g) ∧ pK X (st.1) i))) 0 0 (zA bs) := w_X11_tip hM a ha b hb g hg (v_X11_tip a ha b hb g hg hp)
/-- of all, in how many one is so far behind -/
def fwN (u d : Int) (z : Nat) : Nat → Nat → Int
  | 0, y => if y = z then 1 else 0
  | t + 1, y => (if y = 0 then fwN u d z t 0 * (u + d) else 0) + (if y < 19 then fwN u d z t (y + 1) * u else 0) + (if 1 < y then fwN u d z t (y - 1) * d else 0)
theorem mulb {x c M : Int} (h0 : 0 ≤ x) (h1 : x ≤ M) (c0 : 0 ≤ c) (c1 : c ≤ 10) : 0 ≤ x * c ∧ x * c ≤ 10 * M := by
  refine ⟨Int.mul_nonneg h0 c0, ?_⟩
  have := Int.mul_le_mul h1 c1 c0 (by omega)
  omega
theorem fwN_b {u d : Int} {z : Nat} (hu : 0 ≤ u) (hd : 0 ≤ d) (hs : u + d ≤ 10) : ∀ t y, 0 ≤ fwN u d z t y ∧ fwN u d z t y ≤ 20 ^ t
  | 0, y => by
    unfold fwN
    split <;> decide
  | t + 1, y => by
    have b0 := fwN_b (z := z) hu hd hs t 0
    have b1 := fwN_b (z := z) hu hd hs t (y + 1)
    have b2 := fwN_b (z := z) hu hd hs t (y - 1)
    have m0 := mulb b0.1 b0.2 (show 0 ≤ u + d by omega) hs
    have m1 := mulb b1.1 b1.2 hu (by omega)
    have m2 := mulb b2.1 b2.2 hd (by omega)
    rw [Int.pow_succ]
    show 0 ≤ (if y = 0 then fwN u d z t 0 * (u + d) else 0) + (if y < 19 then fwN u d z t (y + 1) * u else 0) + (if 1 < y then fwN u d z t (y - 1) * d else 0) ∧ (if y = 0 then fwN u d z t 0 * (u + d) else 0) + (if y < 19 then fwN u d z t (y + 1) * u else 0) + (if 1 < y then fwN u d z t (y - 1) * d else 0) ≤ 20 ^ t * 20
    have hp : (0 : Int) ≤ 20 ^ t := by have := b0.1; omega
    generalize fwN u d z t 0 * (u + d) = e0 at m0 ⊢
    generalize fwN u d z t (y + 1) * u = e1 at m1 ⊢
    generalize fwN u d z t (y - 1) * d = e2 at m2 ⊢
    generalize (20 : Int) ^ t = M at m0 m1 m2 hp ⊢
    repeat' split
    all_goals exact ⟨by omega, by omega⟩
theorem p20 : ∀ t : Nat, t ≤ 12 → (20 : Int) ^ t ≤ 4096000000000000 := by decide
theorem fwN_c {u d : Int} {z : Nat} (hu : 0 ≤ u) (hd : 0 ≤ d) (hs : u + d ≤ 10) {t : Nat} (ht : t ≤ 12) (y : Nat) : 0 ≤ fwN u d z t y ∧ fwN u d z t y ≤ 4096000000000000 := by
  have := fwN_b (z := z) hu hd hs t y
  have := p20 t ht
  exact ⟨by omega, by omega⟩
theorem fwN_s (u d : Int) (z t y : Nat) : fwN u d z (t + 1) y = (if y = 0 then fwN u d z t 0 * (u + d) else 0) + (if y < 19 then fwN u d z t (y + 1) * u else 0) + (if 1 < y then fwN u d z t (y - 1) * d else 0) := rfl
def faK (Y Y1 : Nat → Int → Int) (i : Nat) : Prop := ∀ a, a ≠ i + 21 → a ≠ i + 22 → Y1 a = Y a
abbrev cX11_caught : ByteArray := prog_13_method_100_code
def yX11_caught : MethodName := ⟨RX11, "caught", "(IIII)J"⟩
theorem dX11_caught_0 : decode cX11_caught 0 = .ok (.iconst 0, 1) := by decide +kernel
theorem dX11_caught_1 : decode cX11_caught 1 = .ok (.istore 5, 2) := by decide +kernel
theorem dX11_caught_3 : decode cX11_caught 3 = .ok (.iload 5, 2) := by decide +kernel
theorem dX11_caught_5 : decode cX11_caught 5 = .ok (.bipush 20, 2) := by decide +kernel
theorem dX11_caught_7 : decode cX11_caught 7 = .ok (.if_icmp .ge 27, 3) := by decide +kernel
theorem dX11_caught_10 : decode cX11_caught 10 = .ok (.aload_n 0, 1) := by decide +kernel
theorem dX11_caught_11 : decode cX11_caught 11 = .ok (.getfield 72, 3) := by decide +kernel
theorem dX11_caught_14 : decode cX11_caught 14 = .ok (.iload 5, 2) := by decide +kernel
theorem dX11_caught_16 : decode cX11_caught 16 = .ok (.iload 5, 2) := by decide +kernel
theorem dX11_caught_18 : decode cX11_caught 18 = .ok (.iload_n 1, 1) := by decide +kernel
theorem dX11_caught_19 : decode cX11_caught 19 = .ok (.if_icmp .ne 7, 3) := by decide +kernel
theorem dX11_caught_22 : decode cX11_caught 22 = .ok (.lconst 1, 1) := by decide +kernel
theorem dX11_caught_23 : decode cX11_caught 23 = .ok (.goto 4, 3) := by decide +kernel
theorem dX11_caught_26 : decode cX11_caught 26 = .ok (.lconst 0, 1) := by decide +kernel
theorem dX11_caught_27 : decode cX11_caught 27 = .ok (.lastore, 1) := by decide +kernel
theorem dX11_caught_28 : decode cX11_caught 28 = .ok (.iinc 5 1, 3) := by decide +kernel
theorem dX11_caught_31 : decode cX11_caught 31 = .ok (.goto (-28), 3) := by decide +kernel
theorem dX11_caught_34 : decode cX11_caught 34 = .ok (.iconst 0, 1) := by decide +kernel
theorem dX11_caught_35 : decode cX11_caught 35 = .ok (.istore 5, 2) := by decide +kernel
theorem dX11_caught_37 : decode cX11_caught 37 = .ok (.iload 5, 2) := by decide +kernel
theorem dX11_caught_39 : decode cX11_caught 39 = .ok (.iload_n 2, 1) := by decide +kernel
theorem dX11_caught_40 : decode cX11_caught 40 = .ok (.if_icmp .ge 149, 3) := by decide +kernel
theorem dX11_caught_43 : decode cX11_caught 43 = .ok (.iconst 0, 1) := by decide +kernel
theorem dX11_caught_44 : decode cX11_caught 44 = .ok (.istore 6, 2) := by decide +kernel
theorem dX11_caught_46 : decode cX11_caught 46 = .ok (.iload 6, 2) := by decide +kernel
theorem dX11_caught_48 : decode cX11_caught 48 = .ok (.bipush 20, 2) := by decide +kernel
theorem dX11_caught_50 : decode cX11_caught 50 = .ok (.if_icmp .ge 103, 3) := by decide +kernel
theorem dX11_caught_53 : decode cX11_caught 53 = .ok (.aload_n 0, 1) := by decide +kernel
theorem dX11_caught_54 : decode cX11_caught 54 = .ok (.getfield 75, 3) := by decide +kernel
theorem dX11_caught_57 : decode cX11_caught 57 = .ok (.iload 6, 2) := by decide +kernel
theorem dX11_caught_59 : decode cX11_caught 59 = .ok (.iload 6, 2) := by decide +kernel
theorem dX11_caught_61 : decode cX11_caught 61 = .ok (.ifCond .ne 18, 3) := by decide +kernel
theorem dX11_caught_64 : decode cX11_caught 64 = .ok (.aload_n 0, 1) := by decide +kernel
theorem dX11_caught_65 : decode cX11_caught 65 = .ok (.getfield 72, 3) := by decide +kernel
theorem dX11_caught_68 : decode cX11_caught 68 = .ok (.iconst 0, 1) := by decide +kernel
theorem dX11_caught_69 : decode cX11_caught 69 = .ok (.laload, 1) := by decide +kernel
theorem dX11_caught_70 : decode cX11_caught 70 = .ok (.iload_n 3, 1) := by decide +kernel
theorem dX11_caught_71 : decode cX11_caught 71 = .ok (.iload 4, 2) := by decide +kernel
theorem dX11_caught_73 : decode cX11_caught 73 = .ok (.iadd, 1) := by decide +kernel
theorem dX11_caught_74 : decode cX11_caught 74 = .ok (.i2l, 1) := by decide +kernel
theorem dX11_caught_75 : decode cX11_caught 75 = .ok (.lmul, 1) := by decide +kernel
theorem dX11_caught_76 : decode cX11_caught 76 = .ok (.goto 4, 3) := by decide +kernel
theorem dX11_caught_79 : decode cX11_caught 79 = .ok (.lconst 0, 1) := by decide +kernel
theorem dX11_caught_80 : decode cX11_caught 80 = .ok (.lastore, 1) := by decide +kernel
theorem dX11_caught_81 : decode cX11_caught 81 = .ok (.aload_n 0, 1) := by decide +kernel
theorem dX11_caught_82 : decode cX11_caught 82 = .ok (.getfield 75, 3) := by decide +kernel
theorem dX11_caught_85 : decode cX11_caught 85 = .ok (.iload 6, 2) := by decide +kernel
theorem dX11_caught_87 : decode cX11_caught 87 = .ok (.dup2, 1) := by decide +kernel
theorem dX11_caught_88 : decode cX11_caught 88 = .ok (.laload, 1) := by decide +kernel
theorem dX11_caught_89 : decode cX11_caught 89 = .ok (.iload 6, 2) := by decide +kernel
theorem dX11_caught_91 : decode cX11_caught 91 = .ok (.bipush 19, 2) := by decide +kernel
theorem dX11_caught_93 : decode cX11_caught 93 = .ok (.if_icmp .ge 18, 3) := by decide +kernel
theorem dX11_caught_96 : decode cX11_caught 96 = .ok (.aload_n 0, 1) := by decide +kernel
theorem dX11_caught_97 : decode cX11_caught 97 = .ok (.getfield 72, 3) := by decide +kernel
theorem dX11_caught_100 : decode cX11_caught 100 = .ok (.iload 6, 2) := by decide +kernel
theorem dX11_caught_102 : decode cX11_caught 102 = .ok (.iconst 1, 1) := by decide +kernel
theorem dX11_caught_103 : decode cX11_caught 103 = .ok (.iadd, 1) := by decide +kernel
theorem dX11_caught_104 : decode cX11_caught 104 = .ok (.laload, 1) := by decide +kernel
theorem dX11_caught_105 : decode cX11_caught 105 = .ok (.iload_n 3, 1) := by decide +kernel
theorem dX11_caught_106 : decode cX11_caught 106 = .ok (.i2l, 1) := by decide +kernel
theorem dX11_caught_107 : decode cX11_caught 107 = .ok (.lmul, 1) := by decide +kernel
theorem dX11_caught_108 : decode cX11_caught 108 = .ok (.goto 4, 3) := by decide +kernel
theorem dX11_caught_111 : decode cX11_caught 111 = .ok (.lconst 0, 1) := by decide +kernel
theorem dX11_caught_112 : decode cX11_caught 112 = .ok (.ladd, 1) := by decide +kernel
theorem dX11_caught_113 : decode cX11_caught 113 = .ok (.lastore, 1) := by decide +kernel
theorem dX11_caught_114 : decode cX11_caught 114 = .ok (.aload_n 0, 1) := by decide +kernel
theorem dX11_caught_115 : decode cX11_caught 115 = .ok (.getfield 75, 3) := by decide +kernel
theorem dX11_caught_118 : decode cX11_caught 118 = .ok (.iload 6, 2) := by decide +kernel
theorem dX11_caught_120 : decode cX11_caught 120 = .ok (.dup2, 1) := by decide +kernel
theorem dX11_caught_121 : decode cX11_caught 121 = .ok (.laload, 1) := by decide +kernel
theorem dX11_caught_122 : decode cX11_caught 122 = .ok (.iload 6, 2) := by decide +kernel
theorem dX11_caught_124 : decode cX11_caught 124 = .ok (.iconst 1, 1) := by decide +kernel
theorem dX11_caught_125 : decode cX11_caught 125 = .ok (.if_icmp .le 19, 3) := by decide +kernel
theorem dX11_caught_128 : decode cX11_caught 128 = .ok (.aload_n 0, 1) := by decide +kernel
theorem dX11_caught_129 : decode cX11_caught 129 = .ok (.getfield 72, 3) := by decide +kernel
theorem dX11_caught_132 : decode cX11_caught 132 = .ok (.iload 6, 2) := by decide +kernel
theorem dX11_caught_134 : decode cX11_caught 134 = .ok (.iconst 1, 1) := by decide +kernel
theorem dX11_caught_135 : decode cX11_caught 135 = .ok (.isub, 1) := by decide +kernel
theorem dX11_caught_136 : decode cX11_caught 136 = .ok (.laload, 1) := by decide +kernel
theorem dX11_caught_137 : decode cX11_caught 137 = .ok (.iload 4, 2) := by decide +kernel
theorem dX11_caught_139 : decode cX11_caught 139 = .ok (.i2l, 1) := by decide +kernel
theorem dX11_caught_140 : decode cX11_caught 140 = .ok (.lmul, 1) := by decide +kernel
theorem dX11_caught_141 : decode cX11_caught 141 = .ok (.goto 4, 3) := by decide +kernel
theorem dX11_caught_144 : decode cX11_caught 144 = .ok (.lconst 0, 1) := by decide +kernel
theorem dX11_caught_145 : decode cX11_caught 145 = .ok (.ladd, 1) := by decide +kernel
theorem dX11_caught_146 : decode cX11_caught 146 = .ok (.lastore, 1) := by decide +kernel
theorem dX11_caught_147 : decode cX11_caught 147 = .ok (.iinc 6 1, 3) := by decide +kernel
theorem dX11_caught_150 : decode cX11_caught 150 = .ok (.goto (-104), 3) := by decide +kernel
theorem dX11_caught_153 : decode cX11_caught 153 = .ok (.iconst 0, 1) := by decide +kernel
theorem dX11_caught_154 : decode cX11_caught 154 = .ok (.istore 6, 2) := by decide +kernel
theorem dX11_caught_156 : decode cX11_caught 156 = .ok (.iload 6, 2) := by decide +kernel
theorem dX11_caught_158 : decode cX11_caught 158 = .ok (.bipush 20, 2) := by decide +kernel
theorem dX11_caught_160 : decode cX11_caught 160 = .ok (.if_icmp .ge 23, 3) := by decide +kernel
theorem dX11_caught_163 : decode cX11_caught 163 = .ok (.aload_n 0, 1) := by decide +kernel
theorem dX11_caught_164 : decode cX11_caught 164 = .ok (.getfield 72, 3) := by decide +kernel
theorem dX11_caught_167 : decode cX11_caught 167 = .ok (.iload 6, 2) := by decide +kernel
theorem dX11_caught_169 : decode cX11_caught 169 = .ok (.aload_n 0, 1) := by decide +kernel
theorem dX11_caught_170 : decode cX11_caught 170 = .ok (.getfield 75, 3) := by decide +kernel
theorem dX11_caught_173 : decode cX11_caught 173 = .ok (.iload 6, 2) := by decide +kernel
theorem dX11_caught_175 : decode cX11_caught 175 = .ok (.laload, 1) := by decide +kernel
theorem dX11_caught_176 : decode cX11_caught 176 = .ok (.lastore, 1) := by decide +kernel
theorem dX11_caught_177 : decode cX11_caught 177 = .ok (.iinc 6 1, 3) := by decide +kernel
theorem dX11_caught_180 : decode cX11_caught 180 = .ok (.goto (-24), 3) := by decide +kernel
theorem dX11_caught_183 : decode cX11_caught 183 = .ok (.iinc 5 1, 3) := by decide +kernel
theorem dX11_caught_186 : decode cX11_caught 186 = .ok (.goto (-149), 3) := by decide +kernel
theorem dX11_caught_189 : decode cX11_caught 189 = .ok (.aload_n 0, 1) := by decide +kernel
theorem dX11_caught_190 : decode cX11_caught 190 = .ok (.getfield 72, 3) := by decide +kernel
theorem dX11_caught_193 : decode cX11_caught 193 = .ok (.iconst 0, 1) := by decide +kernel
theorem dX11_caught_194 : decode cX11_caught 194 = .ok (.laload, 1) := by decide +kernel
theorem dX11_caught_195 : decode cX11_caught 195 = .ok (.lreturn, 1) := by decide +kernel
theorem q_1340 : Cond.fieldLink RX11 72 RX11 "far" "[J" ∈ zTB := zmem 1340 (by decide +kernel) rfl
theorem q_1341 : Cond.fieldLink RX11 75 RX11 "farNext" "[J" ∈ zTB := zmem 1341 (by decide +kernel) rfl
def F_X11_caught (i : Nat) (X Y : Nat → Int → Int) (R : Nat → Int → Option Nat) (a : Int) (b : Int) (g : Int) (d : Int) : Prop := (∀ i j, rI (X i j)) → (∀ i j, rL (Y i j)) → (∃ x : Nat, (0 : Int) = x ∧ x ≤ 20 ∧ faK Y Y i ∧ ∀ y : Nat, y < x → Y (i + 21) y = fwN g d a.toNat 0 y) ∧ (∀ (j : Int) (Y2 : Nat → Int → Int), rI j → (∀ i j, rL (Y2 i j)) → (∃ x : Nat, j = x ∧ x ≤ 20 ∧ faK Y Y2 i ∧ ∀ y : Nat, y < x → Y2 (i + 21) y = fwN g d a.toNat 0 y) → (((20 ≤ j) → ((∃ t : Nat, (0 : Int) = t ∧ (0 : Int) ≤ b ∧ faK Y Y2 i ∧ ∀ y : Nat, y < 20 → Y2 (i + 21) y = fwN g d a.toNat t y) ∧ (∀ (k : Int) (Y5 : Nat → Int → Int), rI k → (∀ i j, rL (Y5 i j)) → (∃ t : Nat, k = t ∧ k ≤ b ∧ faK Y Y5 i ∧ ∀ y : Nat, y < 20 → Y5 (i + 21) y = fwN g d a.toNat t y) → (((b ≤ k) → (Y5 (i + 21) (0) = fwN (g) (d) (a).toNat (b).toNat 0 ∧ faK Y (Y5) i)) ∧ ((¬ (b ≤ k)) → ((∃ t x : Nat, k = t ∧ (0 : Int) = x ∧ x ≤ 20 ∧ faK Y Y5 i ∧ (∀ y : Nat, y < 20 → Y5 (i + 21) y = fwN g d a.toNat t y) ∧ ∀ y : Nat, y < x → Y5 (i + 22) y = fwN g d a.toNat (t + 1) y) ∧ (∀ (j : Int) (Y8 : Nat → Int → Int), rI j → (∀ i j, rL (Y8 i j)) → (∃ t x : Nat, k = t ∧ j = x ∧ x ≤ 20 ∧ faK Y Y8 i ∧ (∀ y : Nat, y < 20 → Y8 (i + 21) y = fwN g d a.toNat t y) ∧ ∀ y : Nat, y < x → Y8 (i + 22) y = fwN g d a.toNat (t + 1) y) → (((20 ≤ j) → ((∃ t x : Nat, k = t ∧ (0 : Int) = x ∧ x ≤ 20 ∧ faK Y Y8 i ∧ (∀ y : Nat, y < x → Y8 (i + 21) y = fwN g d a.toNat (t + 1) y) ∧ ∀ y : Nat, y < 20 → Y8 (i + 22) y = fwN g d a.toNat (t + 1) y) ∧ (∀ (j : Int) (Y11 : Nat → Int → Int), rI j → (∀ i j, rL (Y11 i j)) → (∃ t x : Nat, k = t ∧ j = x ∧ x ≤ 20 ∧ faK Y Y11 i ∧ (∀ y : Nat, y < x → Y11 (i + 21) y = fwN g d a.toNat (t + 1) y) ∧ ∀ y : Nat, y < 20 → Y11 (i + 22) y = fwN g d a.toNat (t + 1) y) → (((20 ≤ j) → ((rI (k + 1)) ∧ (∃ t : Nat, k + 1 = t ∧ k + 1 ≤ b ∧ faK Y Y11 i ∧ ∀ y : Nat, y < 20 → Y11 (i + 21) y = fwN g d a.toNat t y) ∧ (((b - (k + 1)).toNat) < ((b - (k)).toNat)))) ∧ ((¬ (20 ≤ j)) → ((0 ≤ j ∧ j < 20) ∧ ((0 ≤ j ∧ j < 20) ∧ (∀ Y16 : Nat → Int → Int, Y16 = zU Y11 (i + 21) (j) (Y11 (i + 22) (j)) → (∀ i j, rL (Y16 i j)) → ((rI (j + 1)) ∧ (∃ t x : Nat, k = t ∧ j + 1 = x ∧ x ≤ 20 ∧ faK Y Y16 i ∧ (∀ y : Nat, y < x → Y16 (i + 21) y = fwN g d a.toNat (t + 1) y) ∧ ∀ y : Nat, y < 20 → Y16 (i + 22) y = fwN g d a.toNat (t + 1) y) ∧ (((20 - (j + 1)).toNat) < ((20 - (j)).toNat))))))))))) ∧ ((¬ (20 ≤ j)) → ((∀ (Y18 : Nat → Int → Int), (∀ i j, rL (Y18 i j)) → ((∀ z, z ≠ i + 22 → Y18 z = Y8 z) ∧ (∀ y : Int, y ≠ j → Y18 (i + 22) y = Y8 (i + 22) y) ∧ Y18 (i + 22) j = if j = 0 then Y8 (i + 21) 0 * (g + d) else 0) → ((∀ (Y19 : Nat → Int → Int), (∀ i j, rL (Y19 i j)) → ((∀ z, z ≠ i + 22 → Y19 z = Y18 z) ∧ (∀ y : Int, y ≠ j → Y19 (i + 22) y = Y18 (i + 22) y) ∧ Y19 (i + 22) j = Y18 (i + 22) j + if j < 19 then Y18 (i + 21) (j + 1) * g else 0) → ((∀ (Y20 : Nat → Int → Int), (∀ i j, rL (Y20 i j)) → ((∀ z, z ≠ i + 22 → Y20 z = Y19 z) ∧ (∀ y : Int, y ≠ j → Y20 (i + 22) y = Y19 (i + 22) y) ∧ Y20 (i + 22) j = Y19 (i + 22) j + if 1 < j then Y19 (i + 21) (j - 1) * d else 0) → ((rI (j + 1)) ∧ (∃ t x : Nat, k = t ∧ j + 1 = x ∧ x ≤ 20 ∧ faK Y Y20 i ∧ (∀ y : Nat, y < 20 → Y20 (i + 21) y = fwN g d a.toNat t y) ∧ ∀ y : Nat, y < x → Y20 (i + 22) y = fwN g d a.toNat (t + 1) y) ∧ (((20 - (j + 1)).toNat) < ((20 - (j)).toNat)))) ∧ ((0 ≤ j ∧ j < 20) ∧ (((j ≤ 1) → ((0 ≤ j ∧ j < 20) ∧ ((rL ((Y19 (i + 22) (j)) + (0))) ∧ (∀ Y26 : Nat → Int → Int, Y26 = zU Y19 (i + 22) (j) ((Y19 (i + 22) (j)) + (0)) → (∀ i j, rL (Y26 i j)) → ((∀ z, z ≠ i + 22 → Y26 z = Y19 z) ∧ (∀ y : Int, y ≠ j → Y26 (i + 22) y = Y19 (i + 22) y) ∧ Y26 (i + 22) j = Y19 (i + 22) j + if 1 < j then Y19 (i + 21) (j - 1) * d else 0))))) ∧ ((¬ (j ≤ 1)) → ((0 ≤ (j - 1) ∧ (j - 1) < 20) ∧ ((0 ≤ j ∧ j < 20) ∧ ((rL ((Y19 (i + 22) (j)) + ((Y19 (i + 21) (j - 1)) * (d)))) ∧ (∀ Y30 : Nat → Int → Int, Y30 = zU Y19 (i + 22) (j) ((Y19 (i + 22) (j)) + ((Y19 (i + 21) (j - 1)) * (d))) → (∀ i j, rL (Y30 i j)) → ((∀ z, z ≠ i + 22 → Y30 z = Y19 z) ∧ (∀ y : Int, y ≠ j → Y30 (i + 22) y = Y19 (i + 22) y) ∧ Y30 (i + 22) j = Y19 (i + 22) j + if 1 < j then Y19 (i + 21) (j - 1) * d else 0)))))))))) ∧ ((0 ≤ j ∧ j < 20) ∧ (((19 ≤ j) → ((0 ≤ j ∧ j < 20) ∧ ((rL ((Y18 (i + 22) (j)) + (0))) ∧ (∀ Y35 : Nat → Int → Int, Y35 = zU Y18 (i + 22) (j) ((Y18 (i + 22) (j)) + (0)) → (∀ i j, rL (Y35 i j)) → ((∀ z, z ≠ i + 22 → Y35 z = Y18 z) ∧ (∀ y : Int, y ≠ j → Y35 (i + 22) y = Y18 (i + 22) y) ∧ Y35 (i + 22) j = Y18 (i + 22) j + if j < 19 then Y18 (i + 21) (j + 1) * g else 0))))) ∧ ((¬ (19 ≤ j)) → ((0 ≤ (j + 1) ∧ (j + 1) < 20) ∧ ((0 ≤ j ∧ j < 20) ∧ ((rL ((Y18 (i + 22) (j)) + ((Y18 (i + 21) (j + 1)) * (g)))) ∧ (∀ Y39 : Nat → Int → Int, Y39 = zU Y18 (i + 22) (j) ((Y18 (i + 22) (j)) + ((Y18 (i + 21) (j + 1)) * (g))) → (∀ i j, rL (Y39 i j)) → ((∀ z, z ≠ i + 22 → Y39 z = Y18 z) ∧ (∀ y : Int, y ≠ j → Y39 (i + 22) y = Y18 (i + 22) y) ∧ Y39 (i + 22) j = Y18 (i + 22) j + if j < 19 then Y18 (i + 21) (j + 1) * g else 0)))))))))) ∧ (((¬ j = 0) → ((0 ≤ j ∧ j < 20) ∧ (∀ Y42 : Nat → Int → Int, Y42 = zU Y8 (i + 22) (j) (0) → (∀ i j, rL (Y42 i j)) → ((∀ z, z ≠ i + 22 → Y42 z = Y8 z) ∧ (∀ y : Int, y ≠ j → Y42 (i + 22) y = Y8 (i + 22) y) ∧ Y42 (i + 22) j = if j = 0 then Y8 (i + 21) 0 * (g + d) else 0)))) ∧ ((¬ (¬ j = 0)) → ((rI (g + d)) ∧ ((0 ≤ j ∧ j < 20) ∧ ((rL ((Y8 (i + 21) (0)) * (g + d))) ∧ (∀ Y46 : Nat → Int → Int, Y46 = zU Y8 (i + 22) (j) ((Y8 (i + 21) (0)) * (g + d)) → (∀ i j, rL (Y46 i j)) → ((∀ z, z ≠ i + 22 → Y46 z = Y8 z) ∧ (∀ y : Int, y ≠ j → Y46 (i + 22) y = Y8 (i + 22) y) ∧ Y46 (i + 22) j = if j = 0 then Y8 (i + 21) 0 * (g + d) else 0))))))))))))))))) ∧ ((¬ (20 ≤ j)) → ((∀ (Y47 : Nat → Int → Int), (∀ i j, rL (Y47 i j)) → ((∀ z, z ≠ i + 21 → Y47 z = Y2 z) ∧ (∀ y : Int, y ≠ j → Y47 (i + 21) y = Y2 (i + 21) y) ∧ Y47 (i + 21) j = if j = a then 1 else 0) → ((rI (j + 1)) ∧ (∃ x : Nat, j + 1 = x ∧ x ≤ 20 ∧ faK Y Y47 i ∧ ∀ y : Nat, y < x → Y47 (i + 21) y = fwN g d a.toNat 0 y) ∧ (((20 - (j + 1)).toNat) < ((20 - (j)).toNat)))) ∧ (((¬ j = a) → ((0 ≤ j ∧ j < 20) ∧ (∀ Y51 : Nat → Int → Int, Y51 = zU Y2 (i + 21) (j) (0) → (∀ i j, rL (Y51 i j)) → ((∀ z, z ≠ i + 21 → Y51 z = Y2 z) ∧ (∀ y : Int, y ≠ j → Y51 (i + 21) y = Y2 (i + 21) y) ∧ Y51 (i + 21) j = if j = a then 1 else 0)))) ∧ ((¬ (¬ j = a)) → ((0 ≤ j ∧ j < 20) ∧ (∀ Y53 : Nat → Int → Int, Y53 = zU Y2 (i + 21) (j) (1) → (∀ i j, rL (Y53 i j)) → ((∀ z, z ≠ i + 21 → Y53 z = Y2 z) ∧ (∀ y : Int, y ≠ j → Y53 (i + 21) y = Y2 (i + 21) y) ∧ Y53 (i + 21) j = if j = a then 1 else 0)))))))))
set_option maxHeartbeats 4000000 in
set_option maxRecDepth 100000 in
theorem w_X11_caught {l : Launch} {D : va_G} {cy : Nat → ClassId} {bs N : Nat} {sa : Nat → Nat} {kd len : Nat → Nat} {X Y : Nat → Int → Int} {R : Nat → Int → Option Nat} {i : Nat} (hM : zM N kd len R i) (a : Int) (ha : rI a) (b : Int) (hb : rI b) (g : Int) (hg : rI g) (d : Int) (hd : rI d) (hF : F_X11_caught i X Y R a b g d) : Met l yX11_caught (.code yX11_caught cX11_caught 7 (some .long) :: zTB) (zRm 0 0) (zPc D cy bs sa N kd len X Y R [.ref (bs + (i)), .int (zI (a)), .int (zI (b)), .int (zI (g)), .int (zI (d))]) (zQl D cy bs N kd len (fun r st => st.1 = X ∧ st.2.2 = R ∧ (r = fwN (g) (d) (a).toNat (b).toNat 0 ∧ faK Y (st.2.1) i))) 0 0 (zA bs) := by
  refine zstart (by decide) (Nat.le_of_ble_eq_true rfl) ?_
  intro p e s m args below meth c ls C hE hH hr hlk hnm hl hargs
  have hF := hF hH.2.2.1 hH.2.2.2
  have hS : va_S (zA bs) s.heap s.heap [] := va_S.rf
  have hl : lv_has ls 7 [(0, .ref (bs + (i))), (1, .int (zI (a))), (2, .int (zI (b))), (3, .int (zI (g))), (4, .int (zI (d)))] := hl
  refine zd_iconst C dX11_caught_0 ?_
  refine lv_istore (lv' := [(5, .int (zI (0))), (0, .ref (bs + (i))), (1, .int (zI (a))), (2, .int (zI (b))), (3, .int (zI (g))), (4, .int (zI (d)))]) C.1 C.2.1 dX11_caught_1 hl (by decide) rfl (fun ls hl => ?_)
  obtain ⟨hI1, hF⟩ := hF
  have L1 : ∀ (fu : Nat) (j : Int) (Y2 : Nat → Int → Int), rI j → (∃ x : Nat, j = x ∧ x ≤ 20 ∧ faK Y Y2 i ∧ ∀ y : Nat, y < x → Y2 (i + 21) y = fwN g d a.toNat 0 y) → ((20 - (j)).toNat) < fu → ∀ (H : Heap) (locs : List Loc) (ls : Array Slot), zH D cy bs N kd len X Y2 R H → va_S (zA bs) s.heap H locs → lv_has ls 7 [(5, .int (zI (j))), (0, .ref (bs + (i))), (1, .int (zI (a))), (2, .int (zI (b))), (3, .int (zI (g))), (4, .int (zI (d)))] → W p l e (zRm 0 0) s m args below meth c H locs 0 0 (MQ below (zQl D cy bs N kd len (fun r st => st.1 = X ∧ st.2.2 = R ∧ (r = fwN (g) (d) (a).toNat (b).toNat 0 ∧ faK Y (st.2.1) i))) args s 0 0 (zA bs)) (F0 m 3 ls []) := by
    intro fu
    induction fu with
    | zero => intro j Y2 _ _ hmu; exact absurd hmu (Nat.not_lt_zero _)
    | succ fu ih1 =>
      intro j Y2 hj hI hmu1 H locs ls hH hS hl
      have hF := hF j Y2 hj hH.2.2.2 hI
      refine lv_iload C.1 C.2.1 dX11_caught_3 (lv_at hl 0 rfl) ?_
      refine zd_bipush C (by decide) dX11_caught_5 ?_
      refine zd_icmp_ge C hj (by decide) 34 dX11_caught_7 (by decide) (fun c3 => ?_) (fun c3 => ?_)
      · have hF := hF.1 c3
        refine zd_iconst C dX11_caught_34 ?_
        refine lv_istore (lv' := [(5, .int (zI (0))), (0, .ref (bs + (i))), (1, .int (zI (a))), (2, .int (zI (b))), (3, .int (zI (g))), (4, .int (zI (d)))]) C.1 C.2.1 dX11_caught_35 hl (by decide) rfl (fun ls hl => ?_)
        obtain ⟨hI4, hF⟩ := hF
        have L4 : ∀ (fu : Nat) (k : Int) (Y5 : Nat → Int → Int), rI k → (∃ t : Nat, k = t ∧ k ≤ b ∧ faK Y Y5 i ∧ ∀ y : Nat, y < 20 → Y5 (i + 21) y = fwN g d a.toNat t y) → ((b - (k)).toNat) < fu → ∀ (H : Heap) (locs : List Loc) (ls : Array Slot), zH D cy bs N kd len X Y5 R H → va_S (zA bs) s.heap H locs → lv_has ls 7 [(5, .int (zI (k))), (0, .ref (bs + (i))), (1, .int (zI (a))), (2, .int (zI (b))), (3, .int (zI (g))), (4, .int (zI (d)))] → W p l e (zRm 0 0) s m args below meth c H locs 0 0 (MQ below (zQl D cy bs N kd len (fun r st => st.1 = X ∧ st.2.2 = R ∧ (r = fwN (g) (d) (a).toNat (b).toNat 0 ∧ faK Y (st.2.1) i))) args s 0 0 (zA bs)) (F0 m 37 ls []) := by
          intro fu
          induction fu with
          | zero => intro k Y5 _ _ hmu; exact absurd hmu (Nat.not_lt_zero _)
          | succ fu ih4 =>
            intro k Y5 hk hI hmu4 H locs ls hH hS hl
            have hF := hF k Y5 hk hH.2.2.2 hI
            refine lv_iload C.1 C.2.1 dX11_caught_37 (lv_at hl 0 rfl) ?_
            refine lv_iload_n C.1 C.2.1 dX11_caught_39 rfl (lv_at hl 3 rfl) ?_
            refine zd_icmp_ge C hk hb 189 dX11_caught_40 (by decide) (fun c6 => ?_) (fun c6 => ?_)
            · have hF := hF.1 c6
              refine lv_aload_n C.1 C.2.1 dX11_caught_189 rfl (lv_at hl 1 rfl) ?_
              refine zg11_53 C hH (zM_n0 hM) (zM_k0 hM) q_1340 (zM_r21 hM) dX11_caught_190 ?_
              refine zd_iconst C dX11_caught_193 ?_
              refine zd_lald C hH (zM_n21 hM) (zM_k21 hM) (by decide) (by rw [zM_l21 hM]; decide) (by rw [zM_l21 hM]; decide) dX11_caught_194 ?_
              exact zd_lret C hr hlk hH hS (hH.2.2.2 _ _) (⟨rfl, rfl, hF⟩) dX11_caught_195
            · have hF := hF.2 c6
              refine zd_iconst C dX11_caught_43 ?_
              refine lv_istore (lv' := [(6, .int (zI (0))), (5, .int (zI (k))), (0, .ref (bs + (i))), (1, .int (zI (a))), (2, .int (zI (b))), (3, .int (zI (g))), (4, .int (zI (d)))]) C.1 C.2.1 dX11_caught_44 hl (by decide) rfl (fun ls hl => ?_)
              obtain ⟨hI7, hF⟩ := hF
              have L7 : ∀ (fu : Nat) (j : Int) (Y8 : Nat → Int → Int), rI j → (∃ t x : Nat, k = t ∧ j = x ∧ x ≤ 20 ∧ faK Y Y8 i ∧ (∀ y : Nat, y < 20 → Y8 (i + 21) y = fwN g d a.toNat t y) ∧ ∀ y : Nat, y < x → Y8 (i + 22) y = fwN g d a.toNat (t + 1) y) → ((20 - (j)).toNat) < fu → ∀ (H : Heap) (locs : List Loc) (ls : Array Slot), zH D cy bs N kd len X Y8 R H → va_S (zA bs) s.heap H locs → lv_has ls 7 [(6, .int (zI (j))), (5, .int (zI (k))), (0, .ref (bs + (i))), (1, .int (zI (a))), (2, .int (zI (b))), (3, .int (zI (g))), (4, .int (zI (d)))] → W p l e (zRm 0 0) s m args below meth c H locs 0 0 (MQ below (zQl D cy bs N kd len (fun r st => st.1 = X ∧ st.2.2 = R ∧ (r = fwN (g) (d) (a).toNat (b).toNat 0 ∧ faK Y (st.2.1) i))) args s 0 0 (zA bs)) (F0 m 46 ls []) := by
                intro fu
                induction fu with
                | zero => intro j Y8 _ _ hmu; exact absurd hmu (Nat.not_lt_zero _)
                | succ fu ih7 =>
                  intro j Y8 hj hI hmu7 H locs ls hH hS hl
                  have hF := hF j Y8 hj hH.2.2.2 hI
                  refine lv_iload C.1 C.2.1 dX11_caught_46 (lv_at hl 0 rfl) ?_
                  refine zd_bipush C (by decide) dX11_caught_48 ?_
                  refine zd_icmp_ge C hj (by decide) 153 dX11_caught_50 (by decide) (fun c9 => ?_) (fun c9 => ?_)
                  · have hF := hF.1 c9
                    refine zd_iconst C dX11_caught_153 ?_
                    refine lv_istore (lv' := [(6, .int (zI (0))), (5, .int (zI (k))), (0, .ref (bs + (i))), (1, .int (zI (a))), (2, .int (zI (b))), (3, .int (zI (g))), (4, .int (zI (d)))]) C.1 C.2.1 dX11_caught_154 hl (by decide) rfl (fun ls hl => ?_)
                    obtain ⟨hI10, hF⟩ := hF
                    have L10 : ∀ (fu : Nat) (j : Int) (Y11 : Nat → Int → Int), rI j → (∃ t x : Nat, k = t ∧ j = x ∧ x ≤ 20 ∧ faK Y Y11 i ∧ (∀ y : Nat, y < x → Y11 (i + 21) y = fwN g d a.toNat (t + 1) y) ∧ ∀ y : Nat, y < 20 → Y11 (i + 22) y = fwN g d a.toNat (t + 1) y) → ((20 - (j)).toNat) < fu → ∀ (H : Heap) (locs : List Loc) (ls : Array Slot), zH D cy bs N kd len X Y11 R H → va_S (zA bs) s.heap H locs → lv_has ls 7 [(6, .int (zI (j))), (5, .int (zI (k))), (0, .ref (bs + (i))), (1, .int (zI (a))), (2, .int (zI (b))), (3, .int (zI (g))), (4, .int (zI (d)))] → W p l e (zRm 0 0) s m args below meth c H locs 0 0 (MQ below (zQl D cy bs N kd len (fun r st => st.1 = X ∧ st.2.2 = R ∧ (r = fwN (g) (d) (a).toNat (b).toNat 0 ∧ faK Y (st.2.1) i))) args s 0 0 (zA bs)) (F0 m 156 ls []) := by
                      intro fu
                      induction fu with
                      | zero => intro j Y11 _ _ hmu; exact absurd hmu (Nat.not_lt_zero _)
                      | succ fu ih10 =>
                        intro j Y11 hj hI hmu10 H locs ls hH hS hl
                        have hF := hF j Y11 hj hH.2.2.2 hI
                        refine lv_iload C.1 C.2.1 dX11_caught_156 (lv_at hl 0 rfl) ?_
                        refine zd_bipush C (by decide) dX11_caught_158 ?_
                        refine zd_icmp_ge C hj (by decide) 183 dX11_caught_160 (by decide) (fun c12 => ?_) (fun c12 => ?_)
                        · have hF := hF.1 c12
                          refine zd_iinc (k := 1) (lv' := [(5, .int (zI (k + 1))), (6, .int (zI (j))), (0, .ref (bs + (i))), (1, .int (zI (a))), (2, .int (zI (b))), (3, .int (zI (g))), (4, .int (zI (d)))]) C hl rfl dX11_caught_183 (by decide) rfl (fun ls hl => ?_)
                          refine lv_goto (tgt := 37) C.1 C.2.1 dX11_caught_186 (by decide) ?_
                          obtain ⟨o13, hF⟩ := hF
                          exact ih4 (k + 1) Y11 o13 hF.1 (Nat.lt_of_lt_of_le hF.2 (Nat.le_of_lt_succ hmu4)) _ _ _ hH hS (lv_sub hl [0, 2, 3, 4, 5, 6] rfl)
                        · have hF := hF.2 c12
                          refine lv_aload_n C.1 C.2.1 dX11_caught_163 rfl (lv_at hl 2 rfl) ?_
                          refine zg11_53 C hH (zM_n0 hM) (zM_k0 hM) q_1340 (zM_r21 hM) dX11_caught_164 ?_
                          refine lv_iload C.1 C.2.1 dX11_caught_167 (lv_at hl 0 rfl) ?_
                          refine lv_aload_n C.1 C.2.1 dX11_caught_169 rfl (lv_at hl 2 rfl) ?_
                          refine zg11_54 C hH (zM_n0 hM) (zM_k0 hM) q_1341 (zM_r22 hM) dX11_caught_170 ?_
                          refine lv_iload C.1 C.2.1 dX11_caught_173 (lv_at hl 0 rfl) ?_
                          obtain ⟨o14, hF⟩ := hF
                          refine zd_lald C hH (zM_n22 hM) (zM_k22 hM) o14.1 (by rw [zM_l22 hM]; exact o14.2) (by rw [zM_l22 hM]; decide) dX11_caught_175 ?_
                          obtain ⟨o15, hF⟩ := hF
                          refine zd_last C hH hS (zM_n21 hM) (zM_k21 hM) o15.1 (by rw [zM_l21 hM]; exact o15.2) (by rw [zM_l21 hM]; decide) (hH.2.2.2 _ _) dX11_caught_176 (fun H locs hH hS => ?_)
                          obtain ⟨Y16, eY16⟩ : ∃ z, z = zU Y11 (i + 21) (j) (Y11 (i + 22) (j)) := ⟨_, rfl⟩
                          rw [← eY16] at hH
                          have hF := hF Y16 eY16 hH.2.2.2
                          refine zd_iinc (k := 0) (lv' := [(6, .int (zI (j + 1))), (5, .int (zI (k))), (0, .ref (bs + (i))), (1, .int (zI (a))), (2, .int (zI (b))), (3, .int (zI (g))), (4, .int (zI (d)))]) C hl rfl dX11_caught_177 (by decide) rfl (fun ls hl => ?_)
                          refine lv_goto (tgt := 156) C.1 C.2.1 dX11_caught_180 (by decide) ?_
                          obtain ⟨o17, hF⟩ := hF
                          exact ih10 (j + 1) Y16 o17 hF.1 (Nat.lt_of_lt_of_le hF.2 (Nat.le_of_lt_succ hmu10)) _ _ _ hH hS (lv_sub hl [0, 1, 2, 3, 4, 5, 6] rfl)
                    exact L10 (((20 - ((0 : Int))).toNat) + 1) ((0 : Int)) Y8 (by decide) hI10 (Nat.lt_succ_self _) _ _ _ hH hS (lv_sub hl [0, 1, 2, 3, 4, 5, 6] rfl)
                  · have hF := hF.2 c9
                    have J1 : ∀ (Y18 : Nat → Int → Int), ((∀ z, z ≠ i + 22 → Y18 z = Y8 z) ∧ (∀ y : Int, y ≠ j → Y18 (i + 22) y = Y8 (i + 22) y) ∧ Y18 (i + 22) j = if j = 0 then Y8 (i + 21) 0 * (g + d) else 0) → ∀ (H : Heap) (locs : List Loc) (ls : Array Slot), zH D cy bs N kd len X Y18 R H → va_S (zA bs) s.heap H locs → lv_has ls 7 [(6, .int (zI (j))), (5, .int (zI (k))), (0, .ref (bs + (i))), (1, .int (zI (a))), (2, .int (zI (b))), (3, .int (zI (g))), (4, .int (zI (d)))] → W p l e (zRm 0 0) s m args below meth c H locs 0 0 (MQ below (zQl D cy bs N kd len (fun r st => st.1 = X ∧ st.2.2 = R ∧ (r = fwN (g) (d) (a).toNat (b).toNat 0 ∧ faK Y (st.2.1) i))) args s 0 0 (zA bs)) (F0 m 81 ls []) := by
                      intro Y18  hI H locs ls hH hS hl
                      have hF := hF.1 Y18  hH.2.2.2 hI
                      have J2 : ∀ (Y19 : Nat → Int → Int), ((∀ z, z ≠ i + 22 → Y19 z = Y18 z) ∧ (∀ y : Int, y ≠ j → Y19 (i + 22) y = Y18 (i + 22) y) ∧ Y19 (i + 22) j = Y18 (i + 22) j + if j < 19 then Y18 (i + 21) (j + 1) * g else 0) → ∀ (H : Heap) (locs : List Loc) (ls : Array Slot), zH D cy bs N kd len X Y19 R H → va_S (zA bs) s.heap H locs → lv_has ls 7 [(6, .int (zI (j))), (5, .int (zI (k))), (0, .ref (bs + (i))), (1, .int (zI (a))), (2, .int (zI (b))), (3, .int (zI (g))), (4, .int (zI (d)))] → W p l e (zRm 0 0) s m args below meth c H locs 0 0 (MQ below (zQl D cy bs N kd len (fun r st => st.1 = X ∧ st.2.2 = R ∧ (r = fwN (g) (d) (a).toNat (b).toNat 0 ∧ faK Y (st.2.1) i))) args s 0 0 (zA bs)) (F0 m 114 ls []) := by
                        intro Y19  hI H locs ls hH hS hl
                        have hF := hF.1 Y19  hH.2.2.2 hI
                        have J3 : ∀ (Y20 : Nat → Int → Int), ((∀ z, z ≠ i + 22 → Y20 z = Y19 z) ∧ (∀ y : Int, y ≠ j → Y20 (i + 22) y = Y19 (i + 22) y) ∧ Y20 (i + 22) j = Y19 (i + 22) j + if 1 < j then Y19 (i + 21) (j - 1) * d else 0) → ∀ (H : Heap) (locs : List Loc) (ls : Array Slot), zH D cy bs N kd len X Y20 R H → va_S (zA bs) s.heap H locs → lv_has ls 7 [(6, .int (zI (j))), (5, .int (zI (k))), (0, .ref (bs + (i))), (1, .int (zI (a))), (2, .int (zI (b))), (3, .int (zI (g))), (4, .int (zI (d)))] → W p l e (zRm 0 0) s m args below meth c H locs 0 0 (MQ below (zQl D cy bs N kd len (fun r st => st.1 = X ∧ st.2.2 = R ∧ (r = fwN (g) (d) (a).toNat (b).toNat 0 ∧ faK Y (st.2.1) i))) args s 0 0 (zA bs)) (F0 m 147 ls []) := by
                          intro Y20  hI H locs ls hH hS hl
                          have hF := hF.1 Y20  hH.2.2.2 hI
                          refine zd_iinc (k := 0) (lv' := [(6, .int (zI (j + 1))), (5, .int (zI (k))), (0, .ref (bs + (i))), (1, .int (zI (a))), (2, .int (zI (b))), (3, .int (zI (g))), (4, .int (zI (d)))]) C hl rfl dX11_caught_147 (by decide) rfl (fun ls hl => ?_)
                          refine lv_goto (tgt := 46) C.1 C.2.1 dX11_caught_150 (by decide) ?_
                          obtain ⟨o21, hF⟩ := hF
                          exact ih7 (j + 1) Y20 o21 hF.1 (Nat.lt_of_lt_of_le hF.2 (Nat.le_of_lt_succ hmu7)) _ _ _ hH hS (lv_sub hl [0, 1, 2, 3, 4, 5, 6] rfl)
                        have hF := hF.2
                        refine lv_aload_n C.1 C.2.1 dX11_caught_114 rfl (lv_at hl 2 rfl) ?_
                        refine zg11_54 C hH (zM_n0 hM) (zM_k0 hM) q_1341 (zM_r22 hM) dX11_caught_115 ?_
                        refine lv_iload C.1 C.2.1 dX11_caught_118 (lv_at hl 0 rfl) ?_
                        refine lv_dup2_11 C.1 C.2.1 dX11_caught_120 rfl rfl ?_
                        obtain ⟨o22, hF⟩ := hF
                        refine zd_lald C hH (zM_n22 hM) (zM_k22 hM) o22.1 (by rw [zM_l22 hM]; exact o22.2) (by rw [zM_l22 hM]; decide) dX11_caught_121 ?_
                        refine lv_iload C.1 C.2.1 dX11_caught_122 (lv_at hl 0 rfl) ?_
                        refine zd_iconst C dX11_caught_124 ?_
                        refine zd_icmp_le C hj (by decide) 144 dX11_caught_125 (by decide) (fun c23 => ?_) (fun c23 => ?_)
                        · have hF := hF.1 c23
                          refine lv_lconst (v := zL 0) C.1 C.2.1 dX11_caught_144 rfl ?_
                          refine zd_ladd C dX11_caught_145 ?_
                          obtain ⟨o24, hF⟩ := hF
                          obtain ⟨o25, hF⟩ := hF
                          refine zd_last C hH hS (zM_n22 hM) (zM_k22 hM) o24.1 (by rw [zM_l22 hM]; exact o24.2) (by rw [zM_l22 hM]; decide) o25 dX11_caught_146 (fun H locs hH hS => ?_)
                          obtain ⟨Y26, eY26⟩ : ∃ z, z = zU Y19 (i + 22) (j) ((Y19 (i + 22) (j)) + (0)) := ⟨_, rfl⟩
                          rw [← eY26] at hH
                          have hF := hF Y26 eY26 hH.2.2.2
                          exact J3 Y26  hF _ _ _ hH hS (lv_sub hl [0, 1, 2, 3, 4, 5, 6] rfl)
                        · have hF := hF.2 c23
                          refine lv_aload_n C.1 C.2.1 dX11_caught_128 rfl (lv_at hl 2 rfl) ?_
                          refine zg11_53 C hH (zM_n0 hM) (zM_k0 hM) q_1340 (zM_r21 hM) dX11_caught_129 ?_
                          refine lv_iload C.1 C.2.1 dX11_caught_132 (lv_at hl 0 rfl) ?_
                          refine zd_iconst C dX11_caught_134 ?_
                          refine zd_isub C dX11_caught_135 ?_
                          obtain ⟨o27, hF⟩ := hF
                          refine zd_lald C hH (zM_n21 hM) (zM_k21 hM) o27.1 (by rw [zM_l21 hM]; exact o27.2) (by rw [zM_l21 hM]; decide) dX11_caught_136 ?_
                          refine lv_iload C.1 C.2.1 dX11_caught_137 (lv_at hl 6 rfl) ?_
                          refine zd_i2l C hd dX11_caught_139 ?_
                          refine zd_lmul C dX11_caught_140 ?_
                          refine lv_goto (tgt := 145) C.1 C.2.1 dX11_caught_141 (by decide) ?_
                          refine zd_ladd C dX11_caught_145 ?_
                          obtain ⟨o28, hF⟩ := hF
                          obtain ⟨o29, hF⟩ := hF
                          refine zd_last C hH hS (zM_n22 hM) (zM_k22 hM) o28.1 (by rw [zM_l22 hM]; exact o28.2) (by rw [zM_l22 hM]; decide) o29 dX11_caught_146 (fun H locs hH hS => ?_)
                          obtain ⟨Y30, eY30⟩ : ∃ z, z = zU Y19 (i + 22) (j) ((Y19 (i + 22) (j)) + ((Y19 (i + 21) (j - 1)) * (d))) := ⟨_, rfl⟩
                          rw [← eY30] at hH
                          have hF := hF Y30 eY30 hH.2.2.2
                          exact J3 Y30  hF _ _ _ hH hS (lv_sub hl [0, 1, 2, 3, 4, 5, 6] rfl)
                      have hF := hF.2
                      refine lv_aload_n C.1 C.2.1 dX11_caught_81 rfl (lv_at hl 2 rfl) ?_
                      refine zg11_54 C hH (zM_n0 hM) (zM_k0 hM) q_1341 (zM_r22 hM) dX11_caught_82 ?_
                      refine lv_iload C.1 C.2.1 dX11_caught_85 (lv_at hl 0 rfl) ?_
                      refine lv_dup2_11 C.1 C.2.1 dX11_caught_87 rfl rfl ?_
                      obtain ⟨o31, hF⟩ := hF
                      refine zd_lald C hH (zM_n22 hM) (zM_k22 hM) o31.1 (by rw [zM_l22 hM]; exact o31.2) (by rw [zM_l22 hM]; decide) dX11_caught_88 ?_
                      refine lv_iload C.1 C.2.1 dX11_caught_89 (lv_at hl 0 rfl) ?_
                      refine zd_bipush C (by decide) dX11_caught_91 ?_
                      refine zd_icmp_ge C hj (by decide) 111 dX11_caught_93 (by decide) (fun c32 => ?_) (fun c32 => ?_)
                      · have hF := hF.1 c32
                        refine lv_lconst (v := zL 0) C.1 C.2.1 dX11_caught_111 rfl ?_
                        refine zd_ladd C dX11_caught_112 ?_
                        obtain ⟨o33, hF⟩ := hF
                        obtain ⟨o34, hF⟩ := hF
                        refine zd_last C hH hS (zM_n22 hM) (zM_k22 hM) o33.1 (by rw [zM_l22 hM]; exact o33.2) (by rw [zM_l22 hM]; decide) o34 dX11_caught_113 (fun H locs hH hS => ?_)
                        obtain ⟨Y35, eY35⟩ : ∃ z, z = zU Y18 (i + 22) (j) ((Y18 (i + 22) (j)) + (0)) := ⟨_, rfl⟩
                        rw [← eY35] at hH
                        have hF := hF Y35 eY35 hH.2.2.2
                        exact J2 Y35  hF _ _ _ hH hS (lv_sub hl [0, 1, 2, 3, 4, 5, 6] rfl)
                      · have hF := hF.2 c32
                        refine lv_aload_n C.1 C.2.1 dX11_caught_96 rfl (lv_at hl 2 rfl) ?_
                        refine zg11_53 C hH (zM_n0 hM) (zM_k0 hM) q_1340 (zM_r21 hM) dX11_caught_97 ?_
                        refine lv_iload C.1 C.2.1 dX11_caught_100 (lv_at hl 0 rfl) ?_
                        refine zd_iconst C dX11_caught_102 ?_
                        refine zd_iadd C dX11_caught_103 ?_
                        obtain ⟨o36, hF⟩ := hF
                        refine zd_lald C hH (zM_n21 hM) (zM_k21 hM) o36.1 (by rw [zM_l21 hM]; exact o36.2) (by rw [zM_l21 hM]; decide) dX11_caught_104 ?_
                        refine lv_iload_n C.1 C.2.1 dX11_caught_105 rfl (lv_at hl 5 rfl) ?_
                        refine zd_i2l C hg dX11_caught_106 ?_
                        refine zd_lmul C dX11_caught_107 ?_
                        refine lv_goto (tgt := 112) C.1 C.2.1 dX11_caught_108 (by decide) ?_
                        refine zd_ladd C dX11_caught_112 ?_
                        obtain ⟨o37, hF⟩ := hF
                        obtain ⟨o38, hF⟩ := hF
                        refine zd_last C hH hS (zM_n22 hM) (zM_k22 hM) o37.1 (by rw [zM_l22 hM]; exact o37.2) (by rw [zM_l22 hM]; decide) o38 dX11_caught_113 (fun H locs hH hS => ?_)
                        obtain ⟨Y39, eY39⟩ : ∃ z, z = zU Y18 (i + 22) (j) ((Y18 (i + 22) (j)) + ((Y18 (i + 21) (j + 1)) * (g))) := ⟨_, rfl⟩
                        rw [← eY39] at hH
                        have hF := hF Y39 eY39 hH.2.2.2
                        exact J2 Y39  hF _ _ _ hH hS (lv_sub hl [0, 1, 2, 3, 4, 5, 6] rfl)
                    have hF := hF.2
                    refine lv_aload_n C.1 C.2.1 dX11_caught_53 rfl (lv_at hl 2 rfl) ?_
                    refine zg11_54 C hH (zM_n0 hM) (zM_k0 hM) q_1341 (zM_r22 hM) dX11_caught_54 ?_
                    refine lv_iload C.1 C.2.1 dX11_caught_57 (lv_at hl 0 rfl) ?_
                    refine lv_iload C.1 C.2.1 dX11_caught_59 (lv_at hl 0 rfl) ?_
                    refine zd_if_ne C hj 79 dX11_caught_61 (by decide) (fun c40 => ?_) (fun c40 => ?_)
                    · have hF := hF.1 c40
                      refine lv_lconst (v := zL 0) C.1 C.2.1 dX11_caught_79 rfl ?_
                      obtain ⟨o41, hF⟩ := hF
                      refine zd_last C hH hS (zM_n22 hM) (zM_k22 hM) o41.1 (by rw [zM_l22 hM]; exact o41.2) (by rw [zM_l22 hM]; decide) (by decide) dX11_caught_80 (fun H locs hH hS => ?_)
                      obtain ⟨Y42, eY42⟩ : ∃ z, z = zU Y8 (i + 22) (j) (0) := ⟨_, rfl⟩
                      rw [← eY42] at hH
                      have hF := hF Y42 eY42 hH.2.2.2
                      exact J1 Y42  hF _ _ _ hH hS (lv_sub hl [0, 1, 2, 3, 4, 5, 6] rfl)
                    · have hF := hF.2 c40
                      refine lv_aload_n C.1 C.2.1 dX11_caught_64 rfl (lv_at hl 2 rfl) ?_
                      refine zg11_53 C hH (zM_n0 hM) (zM_k0 hM) q_1340 (zM_r21 hM) dX11_caught_65 ?_
                      refine zd_iconst C dX11_caught_68 ?_
                      refine zd_lald C hH (zM_n21 hM) (zM_k21 hM) (by decide) (by rw [zM_l21 hM]; decide) (by rw [zM_l21 hM]; decide) dX11_caught_69 ?_
                      refine lv_iload_n C.1 C.2.1 dX11_caught_70 rfl (lv_at hl 5 rfl) ?_
                      refine lv_iload C.1 C.2.1 dX11_caught_71 (lv_at hl 6 rfl) ?_
                      refine zd_iadd C dX11_caught_73 ?_
                      obtain ⟨o43, hF⟩ := hF
                      refine zd_i2l C o43 dX11_caught_74 ?_
                      refine zd_lmul C dX11_caught_75 ?_
                      refine lv_goto (tgt := 80) C.1 C.2.1 dX11_caught_76 (by decide) ?_
                      obtain ⟨o44, hF⟩ := hF
                      obtain ⟨o45, hF⟩ := hF
                      refine zd_last C hH hS (zM_n22 hM) (zM_k22 hM) o44.1 (by rw [zM_l22 hM]; exact o44.2) (by rw [zM_l22 hM]; decide) o45 dX11_caught_80 (fun H locs hH hS => ?_)
                      obtain ⟨Y46, eY46⟩ : ∃ z, z = zU Y8 (i + 22) (j) ((Y8 (i + 21) (0)) * (g + d)) := ⟨_, rfl⟩
                      rw [← eY46] at hH
                      have hF := hF Y46 eY46 hH.2.2.2
                      exact J1 Y46  hF _ _ _ hH hS (lv_sub hl [0, 1, 2, 3, 4, 5, 6] rfl)
              exact L7 (((20 - ((0 : Int))).toNat) + 1) ((0 : Int)) Y5 (by decide) hI7 (Nat.lt_succ_self _) _ _ _ hH hS (lv_sub hl [0, 1, 2, 3, 4, 5, 6] rfl)
        exact L4 (((b - ((0 : Int))).toNat) + 1) ((0 : Int)) Y2 (by decide) hI4 (Nat.lt_succ_self _) _ _ _ hH hS (lv_sub hl [0, 1, 2, 3, 4, 5] rfl)
      · have hF := hF.2 c3
        have J4 : ∀ (Y47 : Nat → Int → Int), ((∀ z, z ≠ i + 21 → Y47 z = Y2 z) ∧ (∀ y : Int, y ≠ j → Y47 (i + 21) y = Y2 (i + 21) y) ∧ Y47 (i + 21) j = if j = a then 1 else 0) → ∀ (H : Heap) (locs : List Loc) (ls : Array Slot), zH D cy bs N kd len X Y47 R H → va_S (zA bs) s.heap H locs → lv_has ls 7 [(5, .int (zI (j))), (0, .ref (bs + (i))), (1, .int (zI (a))), (2, .int (zI (b))), (3, .int (zI (g))), (4, .int (zI (d)))] → W p l e (zRm 0 0) s m args below meth c H locs 0 0 (MQ below (zQl D cy bs N kd len (fun r st => st.1 = X ∧ st.2.2 = R ∧ (r = fwN (g) (d) (a).toNat (b).toNat 0 ∧ faK Y (st.2.1) i))) args s 0 0 (zA bs)) (F0 m 28 ls []) := by
          intro Y47  hI H locs ls hH hS hl
          have hF := hF.1 Y47  hH.2.2.2 hI
          refine zd_iinc (k := 0) (lv' := [(5, .int (zI (j + 1))), (0, .ref (bs + (i))), (1, .int (zI (a))), (2, .int (zI (b))), (3, .int (zI (g))), (4, .int (zI (d)))]) C hl rfl dX11_caught_28 (by decide) rfl (fun ls hl => ?_)
          refine lv_goto (tgt := 3) C.1 C.2.1 dX11_caught_31 (by decide) ?_
          obtain ⟨o48, hF⟩ := hF
          exact ih1 (j + 1) Y47 o48 hF.1 (Nat.lt_of_lt_of_le hF.2 (Nat.le_of_lt_succ hmu1)) _ _ _ hH hS (lv_sub hl [0, 1, 2, 3, 4, 5] rfl)
        have hF := hF.2
        refine lv_aload_n C.1 C.2.1 dX11_caught_10 rfl (lv_at hl 1 rfl) ?_
        refine zg11_53 C hH (zM_n0 hM) (zM_k0 hM) q_1340 (zM_r21 hM) dX11_caught_11 ?_
        refine lv_iload C.1 C.2.1 dX11_caught_14 (lv_at hl 0 rfl) ?_
        refine lv_iload C.1 C.2.1 dX11_caught_16 (lv_at hl 0 rfl) ?_
        refine lv_iload_n C.1 C.2.1 dX11_caught_18 rfl (lv_at hl 2 rfl) ?_
        refine zd_icmp_ne C hj ha 26 dX11_caught_19 (by decide) (fun c49 => ?_) (fun c49 => ?_)
        · have hF := hF.1 c49
          refine lv_lconst (v := zL 0) C.1 C.2.1 dX11_caught_26 rfl ?_
          obtain ⟨o50, hF⟩ := hF
          refine zd_last C hH hS (zM_n21 hM) (zM_k21 hM) o50.1 (by rw [zM_l21 hM]; exact o50.2) (by rw [zM_l21 hM]; decide) (by decide) dX11_caught_27 (fun H locs hH hS => ?_)
          obtain ⟨Y51, eY51⟩ : ∃ z, z = zU Y2 (i + 21) (j) (0) := ⟨_, rfl⟩
          rw [← eY51] at hH
          have hF := hF Y51 eY51 hH.2.2.2
          exact J4 Y51  hF _ _ _ hH hS (lv_sub hl [0, 1, 2, 3, 4, 5] rfl)
        · have hF := hF.2 c49
          refine lv_lconst (v := zL 1) C.1 C.2.1 dX11_caught_22 rfl ?_
          refine lv_goto (tgt := 27) C.1 C.2.1 dX11_caught_23 (by decide) ?_
          obtain ⟨o52, hF⟩ := hF
          refine zd_last C hH hS (zM_n21 hM) (zM_k21 hM) o52.1 (by rw [zM_l21 hM]; exact o52.2) (by rw [zM_l21 hM]; decide) (by decide) dX11_caught_27 (fun H locs hH hS => ?_)
          obtain ⟨Y53, eY53⟩ : ∃ z, z = zU Y2 (i + 21) (j) (1) := ⟨_, rfl⟩
          rw [← eY53] at hH
          have hF := hF Y53 eY53 hH.2.2.2
          exact J4 Y53  hF _ _ _ hH hS (lv_sub hl [0, 1, 2, 3, 4, 5] rfl)
  exact L1 (((20 - ((0 : Int))).toNat) + 1) ((0 : Int)) Y (by decide) hI1 (Nat.lt_succ_self _) _ _ _ hH hS (lv_sub hl [0, 1, 2, 3, 4, 5] rfl)
theorem v_X11_caught {X Y : Nat → Int → Int} {R : Nat → Int → Option Nat} {i : Nat} (a : Int) (ha : rI a) (b : Int) (hb : rI b) (g : Int) (hg : rI g) (d : Int) (hd : rI d) (hp : (0 ≤ a ∧ a ≤ 6) ∧ (0 ≤ b ∧ b ≤ 12) ∧ 0 ≤ g ∧ 0 ≤ d ∧ (g) + (d) ≤ 10) : F_X11_caught i X Y R a b g d := by
  unfold F_X11_caught
  intro hX hY
  obtain ⟨ha, hb, hg, hd, hgd⟩ := hp
  refine ⟨?_, ?_⟩
  · exact ⟨0, rfl, by decide, fun _ _ _ => rfl, fun y hy => absurd hy (Nat.not_lt_zero _)⟩
  intro j Y2
  intro _
  intro rY2
  intro h1
  obtain ⟨x, hx, x20, fk, hr⟩ := h1
  subst hx
  refine ⟨?_, ?_⟩
  · intro c1
    refine ⟨?_, ?_⟩
    · exact ⟨0, rfl, by omega, fk, fun y hy => hr y (by omega)⟩
    intro k Y5
    intro _
    intro rY5
    intro h2
    obtain ⟨t, ht, tb, fk, hr⟩ := h2
    subst ht
    refine ⟨?_, ?_⟩
    · intro c2
      have e := hr 0 (by omega)
      rw [show b.toNat = t by omega]
      exact ⟨e, fk⟩
    intro c3
    refine ⟨?_, ?_⟩
    · exact ⟨t, 0, rfl, rfl, by decide, fk, hr, fun y hy => absurd hy (Nat.not_lt_zero _)⟩
    intro j Y8
    intro _
    intro rY8
    intro h3
    obtain ⟨t', x, ht', hx, x20, fk, hr1, hr2⟩ := h3
    obtain rfl : t = t' := by omega
    subst hx
    refine ⟨?_, ?_⟩
    · intro c4
      refine ⟨?_, ?_⟩
      · exact ⟨t, 0, rfl, rfl, by decide, fk, fun y hy => absurd hy (Nat.not_lt_zero _), fun y hy => hr2 y (by omega)⟩
      intro j Y11
      intro _
      intro rY11
      intro h4
      obtain ⟨t', x, ht', hx, x20, fk, hr1, hr2⟩ := h4
      obtain rfl : t = t' := by omega
      subst hx
      refine ⟨?_, ?_⟩
      · intro c5
        refine ⟨?_, ?_⟩
        · first | omega | exact ⟨by omega, by omega⟩ | decide | assumption | exact ⟨by omega, by omega, by omega⟩ | exact ⟨by decide, by decide⟩
        refine ⟨?_, ?_⟩
        · exact ⟨t + 1, by omega, by omega, fk, fun y hy => hr1 y (by omega)⟩
        first | omega | exact ⟨by omega, by omega⟩ | decide | assumption | exact ⟨by omega, by omega, by omega⟩ | exact ⟨by decide, by decide⟩
      intro c6
      refine ⟨?_, ?_⟩
      · first | omega | exact ⟨by omega, by omega⟩ | decide | assumption | exact ⟨by omega, by omega, by omega⟩ | exact ⟨by decide, by decide⟩
      refine ⟨?_, ?_⟩
      · first | omega | exact ⟨by omega, by omega⟩ | decide | assumption | exact ⟨by omega, by omega, by omega⟩ | exact ⟨by decide, by decide⟩
      intro Y16
      intro eY16
      intro rY16
      refine ⟨?_, ?_⟩
      · first | omega | exact ⟨by omega, by omega⟩ | decide | assumption | exact ⟨by omega, by omega, by omega⟩ | exact ⟨by decide, by decide⟩
      refine ⟨?_, ?_⟩
      · refine ⟨t, x + 1, rfl, by omega, by omega, fun z z1 z2 => by rw [eY16, zU_o z1]; exact fk z z1 z2, fun y hy => ?_, fun y hy => by rw [eY16, zU_o (by omega)]; exact hr2 y hy⟩
        rw [eY16]
        by_cases e : y = x
        · rw [e, zU_s]
          exact hr2 x (by omega)
        · rw [zU_n (by omega)]
          exact hr1 y (by omega)
      first | omega | exact ⟨by omega, by omega⟩ | decide | assumption | exact ⟨by omega, by omega, by omega⟩ | exact ⟨by decide, by decide⟩
    intro c7
    have fb := fun y => fwN_c (z := a.toNat) hg hd hgd (t := t) (by omega) y
    have v0 := hr1 0 (by omega)
    have v0 : Y8 (i + 21) 0 = fwN g d a.toNat t 0 := v0
    have m0 := mulb (fb 0).1 (fb 0).2 (show 0 ≤ g + d by omega) hgd
    refine ⟨?_, ?_⟩
    · intro Y18
      intro rY18
      intro h5
      obtain ⟨a5, b5, d5⟩ := h5
      rw [v0] at d5
      have r5 : 0 ≤ Y18 (i + 22) x ∧ Y18 (i + 22) x ≤ 40960000000000000 := by
        rw [d5]
        split
        · omega
        · decide
      refine ⟨?_, ?_⟩
      · intro Y19
        intro rY19
        intro h6
        obtain ⟨a6, b6, d6⟩ := h6
        have r6 : 0 ≤ Y19 (i + 22) x ∧ Y19 (i + 22) x ≤ 81920000000000000 := by
          rw [d6]
          split
          · have v1 := hr1 (x + 1) (by omega)
            have m1 := mulb (fb (x + 1)).1 (fb (x + 1)).2 hg (by omega)
            have v1 : Y8 (i + 21) ((x : Int) + 1) = fwN g d a.toNat t (x + 1) := v1
            rw [a5 (i + 21) (by omega), v1]
            omega
          · omega
        refine ⟨?_, ?_⟩
        · intro Y20
          intro rY20
          intro h7
          obtain ⟨a7, b7, d7⟩ := h7
          refine ⟨?_, ?_⟩
          · first | omega | exact ⟨by omega, by omega⟩ | decide | assumption | exact ⟨by omega, by omega, by omega⟩ | exact ⟨by decide, by decide⟩
          refine ⟨?_, ?_⟩
          · refine ⟨t, x + 1, rfl, by omega, by omega, fun z z1 z2 => by rw [a7 z z2, a6 z z2, a5 z z2]; exact fk z z1 z2, fun y hy => by rw [a7 _ (by omega), a6 _ (by omega), a5 _ (by omega)]; exact hr1 y hy, fun y hy => ?_⟩
            by_cases e : y = x
            · rw [e, d7, d6, d5, fwN_s, a6 _ (by omega), a5 _ (by omega)]
              congr 1
              · congr 1
                · by_cases q : x = 0
                  · rw [if_pos (by omega), if_pos q]
                  · rw [if_neg (by omega), if_neg q]
                · by_cases q : x < 19
                  · rw [if_pos (by omega), if_pos q]
                    have v1 := hr1 (x + 1) (by omega)
                    have v1 : Y8 (i + 21) ((x : Int) + 1) = fwN g d a.toNat t (x + 1) := v1
                    rw [v1]
                  · rw [if_neg (by omega), if_neg q]
              · by_cases q : 1 < x
                · rw [if_pos (by omega), if_pos q]
                  have v1 := hr1 (x - 1) (by omega)
                  rw [show ((x - 1 : Nat) : Int) = (x : Int) - 1 by omega] at v1
                  rw [v1]
                · rw [if_neg (by omega), if_neg q]
            · rw [b7 _ (by omega), b6 _ (by omega), b5 _ (by omega)]
              exact hr2 y (by omega)
          first | omega | exact ⟨by omega, by omega⟩ | decide | assumption | exact ⟨by omega, by omega, by omega⟩ | exact ⟨by decide, by decide⟩
        refine ⟨?_, ?_⟩
        · first | omega | exact ⟨by omega, by omega⟩ | decide | assumption | exact ⟨by omega, by omega, by omega⟩ | exact ⟨by decide, by decide⟩
        refine ⟨?_, ?_⟩
        · intro c8
          refine ⟨?_, ?_⟩
          · first | omega | exact ⟨by omega, by omega⟩ | decide | assumption | exact ⟨by omega, by omega, by omega⟩ | exact ⟨by decide, by decide⟩
          refine ⟨?_, ?_⟩
          · first | omega | exact ⟨by omega, by omega⟩ | decide | assumption | exact ⟨by omega, by omega, by omega⟩ | exact ⟨by decide, by decide⟩
          intro Y26
          intro eY26
          intro rY26
          exact ⟨fun z hz => by rw [eY26, zU_o hz], fun y hy => by rw [eY26, zU_n (by omega)], by rw [eY26, zU_s, if_neg (by omega)]⟩
        intro c9
        have v1 := hr1 (x - 1) (by omega)
        rw [show ((x - 1 : Nat) : Int) = (x : Int) - 1 by omega] at v1
        have v1 : Y19 (i + 21) ((x : Int) - 1) = fwN g d a.toNat t (x - 1) := by rw [a6 _ (by omega), a5 _ (by omega)]; exact v1
        have m1 := mulb (fb (x - 1)).1 (fb (x - 1)).2 hd (by omega)
        rw [v1]
        refine ⟨?_, ?_⟩
        · first | omega | exact ⟨by omega, by omega⟩ | decide | assumption | exact ⟨by omega, by omega, by omega⟩ | exact ⟨by decide, by decide⟩
        refine ⟨?_, ?_⟩
        · first | omega | exact ⟨by omega, by omega⟩ | decide | assumption | exact ⟨by omega, by omega, by omega⟩ | exact ⟨by decide, by decide⟩
        refine ⟨?_, ?_⟩
        · first | omega | exact ⟨by omega, by omega⟩ | decide | assumption | exact ⟨by omega, by omega, by omega⟩ | exact ⟨by decide, by decide⟩
        intro Y30
        intro eY30
        intro rY30
        exact ⟨fun z hz => by rw [eY30, zU_o hz], fun y hy => by rw [eY30, zU_n (by omega)], by rw [eY30, zU_s, if_pos (by omega)]⟩
      refine ⟨?_, ?_⟩
      · first | omega | exact ⟨by omega, by omega⟩ | decide | assumption | exact ⟨by omega, by omega, by omega⟩ | exact ⟨by decide, by decide⟩
      refine ⟨?_, ?_⟩
      · intro c10
        refine ⟨?_, ?_⟩
        · first | omega | exact ⟨by omega, by omega⟩ | decide | assumption | exact ⟨by omega, by omega, by omega⟩ | exact ⟨by decide, by decide⟩
        refine ⟨?_, ?_⟩
        · first | omega | exact ⟨by omega, by omega⟩ | decide | assumption | exact ⟨by omega, by omega, by omega⟩ | exact ⟨by decide, by decide⟩
        intro Y35
        intro eY35
        intro rY35
        exact ⟨fun z hz => by rw [eY35, zU_o hz], fun y hy => by rw [eY35, zU_n (by omega)], by rw [eY35, zU_s, if_neg (by omega)]⟩
      intro c11
      have v1 := hr1 (x + 1) (by omega)
      have v1 : Y18 (i + 21) ((x : Int) + 1) = fwN g d a.toNat t (x + 1) := by rw [a5 _ (by omega)]; exact v1
      have m1 := mulb (fb (x + 1)).1 (fb (x + 1)).2 hg (by omega)
      rw [v1]
      refine ⟨?_, ?_⟩
      · first | omega | exact ⟨by omega, by omega⟩ | decide | assumption | exact ⟨by omega, by omega, by omega⟩ | exact ⟨by decide, by decide⟩
      refine ⟨?_, ?_⟩
      · first | omega | exact ⟨by omega, by omega⟩ | decide | assumption | exact ⟨by omega, by omega, by omega⟩ | exact ⟨by decide, by decide⟩
      refine ⟨?_, ?_⟩
      · first | omega | exact ⟨by omega, by omega⟩ | decide | assumption | exact ⟨by omega, by omega, by omega⟩ | exact ⟨by decide, by decide⟩
      intro Y39
      intro eY39
      intro rY39
      exact ⟨fun z hz => by rw [eY39, zU_o hz], fun y hy => by rw [eY39, zU_n (by omega)], by rw [eY39, zU_s, if_pos (by omega)]⟩
    refine ⟨?_, ?_⟩
    · intro c12
      refine ⟨?_, ?_⟩
      · first | omega | exact ⟨by omega, by omega⟩ | decide | assumption | exact ⟨by omega, by omega, by omega⟩ | exact ⟨by decide, by decide⟩
      intro Y42
      intro eY42
      intro rY42
      exact ⟨fun z hz => by rw [eY42, zU_o hz], fun y hy => by rw [eY42, zU_n (by omega)], by rw [eY42, zU_s, if_neg c12]⟩
    intro c13
    rw [v0]
    refine ⟨?_, ?_⟩
    · first | omega | exact ⟨by omega, by omega⟩ | decide | assumption | exact ⟨by omega, by omega, by omega⟩ | exact ⟨by decide, by decide⟩
    refine ⟨?_, ?_⟩
    · first | omega | exact ⟨by omega, by omega⟩ | decide | assumption | exact ⟨by omega, by omega, by omega⟩ | exact ⟨by decide, by decide⟩
    refine ⟨?_, ?_⟩
    · first | omega | exact ⟨by omega, by omega⟩ | decide | assumption | exact ⟨by omega, by omega, by omega⟩ | exact ⟨by decide, by decide⟩
    intro Y46
    intro eY46
    intro rY46
    exact ⟨fun z hz => by rw [eY46, zU_o hz], fun y hy => by rw [eY46, zU_n (by omega)], by rw [eY46, zU_s, if_pos (Classical.not_not.mp c13)]⟩
  intro c14
  refine ⟨?_, ?_⟩
  · intro Y47
    intro rY47
    intro h8
    obtain ⟨a8, b8, d8⟩ := h8
    refine ⟨?_, ?_⟩
    · first | omega | exact ⟨by omega, by omega⟩ | decide | assumption | exact ⟨by omega, by omega, by omega⟩ | exact ⟨by decide, by decide⟩
    refine ⟨?_, ?_⟩
    · refine ⟨x + 1, by omega, by omega, fun z z1 z2 => by rw [a8 z z1]; exact fk z z1 z2, fun y hy => ?_⟩
      by_cases e : y = x
      · rw [e, d8]
        show _ = if x = a.toNat then (1 : Int) else 0
        by_cases q : x = a.toNat
        · rw [if_pos (by omega), if_pos q]
        · rw [if_neg (by omega), if_neg q]
      · rw [b8 _ (by omega)]
        exact hr y (by omega)
    first | omega | exact ⟨by omega, by omega⟩ | decide | assumption | exact ⟨by omega, by omega, by omega⟩ | exact ⟨by decide, by decide⟩
  refine ⟨?_, ?_⟩
  · intro c15
    refine ⟨?_, ?_⟩
    · first | omega | exact ⟨by omega, by omega⟩ | decide | assumption | exact ⟨by omega, by omega, by omega⟩ | exact ⟨by decide, by decide⟩
    intro Y51
    intro eY51
    intro rY51
    exact ⟨fun z hz => by rw [eY51, zU_o hz], fun y hy => by rw [eY51, zU_n (by omega)], by rw [eY51, zU_s, if_neg c15]⟩
  intro c16
  refine ⟨?_, ?_⟩
  · first | omega | exact ⟨by omega, by omega⟩ | decide | assumption | exact ⟨by omega, by omega, by omega⟩ | exact ⟨by decide, by decide⟩
  intro Y53
  intro eY53
  intro rY53
  exact ⟨fun z hz => by rw [eY53, zU_o hz], fun y hy => by rw [eY53, zU_n (by omega)], by rw [eY53, zU_s, if_pos (Classical.not_not.mp c16)]⟩
theorem c_X11_caught {l : Launch} {D : va_G} {cy : Nat → ClassId} {bs N : Nat} {sa : Nat → Nat} {kd len : Nat → Nat} {X Y : Nat → Int → Int} {R : Nat → Int → Option Nat} {i : Nat} (hM : zM N kd len R i) (a : Int) (ha : rI a) (b : Int) (hb : rI b) (g : Int) (hg : rI g) (d : Int) (hd : rI d) (hp : (0 ≤ a ∧ a ≤ 6) ∧ (0 ≤ b ∧ b ≤ 12) ∧ 0 ≤ g ∧ 0 ≤ d ∧ (g) + (d) ≤ 10) : Met l yX11_caught (.code yX11_caught cX11_caught 7 (some .long) :: zTB) (zRm 0 0) (zPc D cy bs sa N kd len X Y R [.ref (bs + (i)), .int (zI (a)), .int (zI (b)), .int (zI (g)), .int (zI (d))]) (zQl D cy bs N kd len (fun r st => st.1 = X ∧ st.2.2 = R ∧ (r = fwN (g) (d) (a).toNat (b).toNat 0 ∧ faK Y (st.2.1) i))) 0 0 (zA bs) := w_X11_caught hM a ha b hb g hg d hd (v_X11_caught a ha b hb g hg d hd hp)
/-- chances -/
theorem p206 : ∀ t : Nat, t ≤ 6 → (20 : Int) ^ t ≤ 64000000 := by decide
def rChance (p z n : Int) (u : Bool) : Int := if mIn p 0 10 && (mIn z 0 6 && mIn n 0 12) then mPt (fwN p (10 - p) z.toNat n.toNat 0) (10 ^ n.toNat) u else -1
def rRace (z n : Int) : Int := if mIn z 0 6 && mIn n 0 6 then fwN 1 1 z.toNat n.toNat 0 else -1
theorem p10 : ∀ t : Nat, t ≤ 12 → (1 : Int) ≤ 10 ^ t ∧ (10 : Int) ^ t ≤ 1000000000000 := by decide
abbrev cX11_chance : ByteArray := prog_13_method_101_code
def yX11_chance : MethodName := ⟨RX11, "chance", "(IIIZ)J"⟩
theorem dX11_chance_0 : decode cX11_chance 0 = .ok (.aload_n 0, 1) := by decide +kernel
theorem dX11_chance_1 : decode cX11_chance 1 = .ok (.iconst 0, 1) := by decide +kernel
theorem dX11_chance_2 : decode cX11_chance 2 = .ok (.putfield 88, 3) := by decide +kernel
theorem dX11_chance_5 : decode cX11_chance 5 = .ok (.iload_n 1, 1) := by decide +kernel
theorem dX11_chance_6 : decode cX11_chance 6 = .ok (.iconst 0, 1) := by decide +kernel
theorem dX11_chance_7 : decode cX11_chance 7 = .ok (.bipush 10, 2) := by decide +kernel
theorem dX11_chance_9 : decode cX11_chance 9 = .ok (.invokestatic 100, 3) := by decide +kernel
theorem dX11_chance_12 : decode cX11_chance 12 = .ok (.ifCond .eq 23, 3) := by decide +kernel
theorem dX11_chance_15 : decode cX11_chance 15 = .ok (.iload_n 2, 1) := by decide +kernel
theorem dX11_chance_16 : decode cX11_chance 16 = .ok (.iconst 0, 1) := by decide +kernel
theorem dX11_chance_17 : decode cX11_chance 17 = .ok (.bipush 6, 2) := by decide +kernel
theorem dX11_chance_19 : decode cX11_chance 19 = .ok (.invokestatic 100, 3) := by decide +kernel
theorem dX11_chance_22 : decode cX11_chance 22 = .ok (.ifCond .eq 13, 3) := by decide +kernel
theorem dX11_chance_25 : decode cX11_chance 25 = .ok (.iload_n 3, 1) := by decide +kernel
theorem dX11_chance_26 : decode cX11_chance 26 = .ok (.iconst 0, 1) := by decide +kernel
theorem dX11_chance_27 : decode cX11_chance 27 = .ok (.bipush 12, 2) := by decide +kernel
theorem dX11_chance_29 : decode cX11_chance 29 = .ok (.invokestatic 100, 3) := by decide +kernel
theorem dX11_chance_32 : decode cX11_chance 32 = .ok (.ifCond .ne 7, 3) := by decide +kernel
theorem dX11_chance_35 : decode cX11_chance 35 = .ok (.ldc2_w 418, 3) := by decide +kernel
theorem dX11_chance_38 : decode cX11_chance 38 = .ok (.lreturn, 1) := by decide +kernel
theorem dX11_chance_39 : decode cX11_chance 39 = .ok (.lconst 1, 1) := by decide +kernel
theorem dX11_chance_40 : decode cX11_chance 40 = .ok (.lstore 5, 2) := by decide +kernel
theorem dX11_chance_42 : decode cX11_chance 42 = .ok (.iconst 0, 1) := by decide +kernel
theorem dX11_chance_43 : decode cX11_chance 43 = .ok (.istore 7, 2) := by decide +kernel
theorem dX11_chance_45 : decode cX11_chance 45 = .ok (.iload 7, 2) := by decide +kernel
theorem dX11_chance_47 : decode cX11_chance 47 = .ok (.iload_n 3, 1) := by decide +kernel
theorem dX11_chance_48 : decode cX11_chance 48 = .ok (.if_icmp .ge 17, 3) := by decide +kernel
theorem dX11_chance_51 : decode cX11_chance 51 = .ok (.lload 5, 2) := by decide +kernel
theorem dX11_chance_53 : decode cX11_chance 53 = .ok (.ldc2_w 479, 3) := by decide +kernel
theorem dX11_chance_56 : decode cX11_chance 56 = .ok (.lmul, 1) := by decide +kernel
theorem dX11_chance_57 : decode cX11_chance 57 = .ok (.lstore 5, 2) := by decide +kernel
theorem dX11_chance_59 : decode cX11_chance 59 = .ok (.iinc 7 1, 3) := by decide +kernel
theorem dX11_chance_62 : decode cX11_chance 62 = .ok (.goto (-17), 3) := by decide +kernel
theorem dX11_chance_65 : decode cX11_chance 65 = .ok (.aload_n 0, 1) := by decide +kernel
theorem dX11_chance_66 : decode cX11_chance 66 = .ok (.iload_n 2, 1) := by decide +kernel
theorem dX11_chance_67 : decode cX11_chance 67 = .ok (.iload_n 3, 1) := by decide +kernel
theorem dX11_chance_68 : decode cX11_chance 68 = .ok (.iload_n 1, 1) := by decide +kernel
theorem dX11_chance_69 : decode cX11_chance 69 = .ok (.bipush 10, 2) := by decide +kernel
theorem dX11_chance_71 : decode cX11_chance 71 = .ok (.iload_n 1, 1) := by decide +kernel
theorem dX11_chance_72 : decode cX11_chance 72 = .ok (.isub, 1) := by decide +kernel
theorem dX11_chance_73 : decode cX11_chance 73 = .ok (.invokevirtual 481, 3) := by decide +kernel
theorem dX11_chance_76 : decode cX11_chance 76 = .ok (.lload 5, 2) := by decide +kernel
theorem dX11_chance_78 : decode cX11_chance 78 = .ok (.iload 4, 2) := by decide +kernel
theorem dX11_chance_80 : decode cX11_chance 80 = .ok (.invokestatic 472, 3) := by decide +kernel
theorem dX11_chance_83 : decode cX11_chance 83 = .ok (.lreturn, 1) := by decide +kernel
theorem q_1879 : Cond.methodLink RX11 481 yX11_caught ∈ zTB := zmem 1879 (by decide +kernel) rfl
theorem q_1881 : Cond.instanceMethod yX11_caught ∈ zTB := zmem 1881 (by decide +kernel) rfl
theorem q_103 : Cond.selects RX11 yX11_caught yX11_caught ∈ zTB := zmem 103 (by decide +kernel) rfl
theorem q_1882 : Cond.code yX11_caught cX11_caught 7 (some .long) ∈ zTB := zmem 1882 (by decide +kernel) rfl
theorem k_RX11_481 : zLv RX11 481 RX11 yX11_caught cX11_caught 7 (some .long) 4 := ⟨⟨q_1879, q_1881, q_103, q_140, q_1882⟩, rfl, ⟨by decide, by decide⟩, by decide +kernel⟩
theorem q_1878 : Cond.constantLong RX11 479 (zL (10)) ∈ zTB := zmem 1878 (by decide +kernel) rfl
def F_X11_chance (i : Nat) (X Y : Nat → Int → Int) (R : Nat → Int → Option Nat) (a : Int) (b : Int) (g : Int) (d : Bool) : Prop := (∀ i j, rI (X i j)) → (∀ i j, rL (Y i j)) → ∀ X1 : Nat → Int → Int, X1 = zU X (i) 0 (0) → (∀ i j, rI (X1 i j)) → ((((mIn (a) ((0 : Int)) ((10 : Int))) = false) → ((-1) = rChance (a) (b) (g) d ∧ (X1) = zU X i 0 0 ∧ faK Y (Y) i)) ∧ (((mIn (a) ((0 : Int)) ((10 : Int))) = true) → ((((mIn (b) ((0 : Int)) ((6 : Int))) = false) → ((-1) = rChance (a) (b) (g) d ∧ (X1) = zU X i 0 0 ∧ faK Y (Y) i)) ∧ (((mIn (b) ((0 : Int)) ((6 : Int))) = true) → ((((mIn (g) ((0 : Int)) ((12 : Int))) = true) → ((∃ t : Nat, (0 : Int) = t ∧ (0 : Int) ≤ g ∧ (1 : Int) = 10 ^ t) ∧ (∀ (al : Int) (k : Int), rL al → rI k → (∃ t : Nat, k = t ∧ k ≤ g ∧ al = 10 ^ t) → (((g ≤ k) → ((rI (10 - a)) ∧ (((0 ≤ b ∧ b ≤ 6) ∧ (0 ≤ g ∧ g ≤ 12) ∧ 0 ≤ a ∧ 0 ≤ 10 - a ∧ (a) + (10 - a) ≤ 10) ∧ (∀ r10 : Int, rL r10 → ∀ Y9 : Nat → Int → Int, (∀ i j, rL (Y9 i j)) → (r10 = fwN (a) (10 - a) (b).toNat (g).toNat 0 ∧ faK Y (Y9) i) → ((0 ≤ r10 ∧ 1 ≤ al) ∧ (rL (mPt (r10) (al) (d)) → (mPt (r10) (al) (d) = rChance (a) (b) (g) d ∧ (X1) = zU X i 0 0 ∧ faK Y (Y9) i))))))) ∧ ((¬ (g ≤ k)) → ((rL ((al) * ((10)))) ∧ (rI (k + 1)) ∧ (∃ t : Nat, k + 1 = t ∧ k + 1 ≤ g ∧ (al) * ((10)) = 10 ^ t) ∧ (((g - (k + 1)).toNat) < ((g - (k)).toNat)))))))) ∧ (((mIn (g) ((0 : Int)) ((12 : Int))) = false) → ((-1) = rChance (a) (b) (g) d ∧ (X1) = zU X i 0 0 ∧ faK Y (Y) i)))))))
set_option maxHeartbeats 4000000 in
set_option maxRecDepth 100000 in
theorem w_X11_chance {l : Launch} {D : va_G} {cy : Nat → ClassId} {bs N : Nat} {sa : Nat → Nat} {kd len : Nat → Nat} {X Y : Nat → Int → Int} {R : Nat → Int → Option Nat} {i : Nat} (hM : zM N kd len R i) (a : Int) (ha : rI a) (b : Int) (hb : rI b) (g : Int) (hg : rI g) (d : Bool) (hF : F_X11_chance i X Y R a b g d) : Met l yX11_chance (.code yX11_chance cX11_chance 8 (some .long) :: zTB) (zRm 2 53) (zPc D cy bs sa N kd len X Y R [.ref (bs + (i)), .int (zI (a)), .int (zI (b)), .int (zI (g)), .int (zI (bz (d)))]) (zQl D cy bs N kd len (fun r st => st.2.2 = R ∧ (r = rChance (a) (b) (g) d ∧ (st.1) = zU X i 0 0 ∧ faK Y (st.2.1) i))) 0 0 (zA bs) := by
  refine zstart (by decide) (Nat.le_of_ble_eq_true rfl) ?_
  intro p e s m args below meth c ls C hE hH hr hlk hnm hl hargs
  have hF := hF hH.2.2.1 hH.2.2.2
  have hS : va_S (zA bs) s.heap s.heap [] := va_S.rf
  have hl : lv_has ls 8 [(0, .ref (bs + (i))), (1, .int (zI (a))), (2, .int (zI (b))), (3, .int (zI (g))), (4, .int (zI (bz (d))))] := hl
  refine lv_aload_n C.1 C.2.1 dX11_chance_0 rfl (lv_at hl 0 rfl) ?_
  refine zd_iconst C dX11_chance_1 ?_
  refine zp11_0 C hH hS (zM_n0 hM) (zM_k0 hM) q_1287 (by decide) dX11_chance_2 (fun H locs hH hS => ?_)
  obtain ⟨X1, eX1⟩ : ∃ z, z = zU X (i) 0 (0) := ⟨_, rfl⟩
  rw [← eX1] at hH
  have hF := hF X1 eX1 hH.2.2.1
  refine lv_iload_n C.1 C.2.1 dX11_chance_5 rfl (lv_at hl 1 rfl) ?_
  refine zd_iconst C dX11_chance_6 ?_
  refine zd_bipush C (by decide) dX11_chance_7 ?_
  refine zgoi (zrunS (As := [.int (zI (a)), .int (zI (0)), .int (zI (10))]) (rest := []) C hE hH hS hl.1 (c_X11_in (l := l)  (a) ha (0) (by decide) (10) (by decide)) k_RX11_100 ⟨Nat.le_of_ble_eq_true rfl, Nat.le_of_ble_eq_true rfl⟩ rfl (Nat.le_of_ble_eq_true rfl) dX11_chance_9 ⟨Nat.zero_le _, Nat.zero_le _⟩) hS (fun rq Xq Yq Rq H locs hrq hq hH hS => ?_)
  obtain ⟨h91, h92⟩ := hq
  have h93 : Xq = X1 := congrArg (fun z => z.1) h92
  have h94 : Yq = Y := congrArg (fun z => z.2.1) h92
  have h95 : Rq = R := congrArg (fun z => z.2.2) h92
  rw [h93, h94, h95] at hH
  subst h91
  refine zd_ifB_eq C 35 dX11_chance_12 (by decide) (fun c2 => ?_) (fun c2 => ?_)
  · have hF := hF.1 c2
    refine lv_ldc2 (v := zL (-1)) C.1 C.2.1 C.2.2.2.1 (C.2.2.2.2.1 _ q_1787) dX11_chance_35 ?_
    exact zd_lret C hr hlk hH hS (by decide) (⟨rfl, hF⟩) dX11_chance_38
  · have hF := hF.2 c2
    refine lv_iload_n C.1 C.2.1 dX11_chance_15 rfl (lv_at hl 2 rfl) ?_
    refine zd_iconst C dX11_chance_16 ?_
    refine zd_bipush C (by decide) dX11_chance_17 ?_
    refine zgoi (zrunS (As := [.int (zI (b)), .int (zI (0)), .int (zI (6))]) (rest := []) C hE hH hS hl.1 (c_X11_in (l := l)  (b) hb (0) (by decide) (6) (by decide)) k_RX11_100 ⟨Nat.le_of_ble_eq_true rfl, Nat.le_of_ble_eq_true rfl⟩ rfl (Nat.le_of_ble_eq_true rfl) dX11_chance_19 ⟨Nat.zero_le _, Nat.zero_le _⟩) hS (fun rq Xq Yq Rq H locs hrq hq hH hS => ?_)
    obtain ⟨h91, h92⟩ := hq
    have h93 : Xq = X1 := congrArg (fun z => z.1) h92
    have h94 : Yq = Y := congrArg (fun z => z.2.1) h92
    have h95 : Rq = R := congrArg (fun z => z.2.2) h92
    rw [h93, h94, h95] at hH
    subst h91
    refine zd_ifB_eq C 35 dX11_chance_22 (by decide) (fun c3 => ?_) (fun c3 => ?_)
    · have hF := hF.1 c3
      refine lv_ldc2 (v := zL (-1)) C.1 C.2.1 C.2.2.2.1 (C.2.2.2.2.1 _ q_1787) dX11_chance_35 ?_
      exact zd_lret C hr hlk hH hS (by decide) (⟨rfl, hF⟩) dX11_chance_38
    · have hF := hF.2 c3
      refine lv_iload_n C.1 C.2.1 dX11_chance_25 rfl (lv_at hl 3 rfl) ?_
      refine zd_iconst C dX11_chance_26 ?_
      refine zd_bipush C (by decide) dX11_chance_27 ?_
      refine zgoi (zrunS (As := [.int (zI (g)), .int (zI (0)), .int (zI (12))]) (rest := []) C hE hH hS hl.1 (c_X11_in (l := l)  (g) hg (0) (by decide) (12) (by decide)) k_RX11_100 ⟨Nat.le_of_ble_eq_true rfl, Nat.le_of_ble_eq_true rfl⟩ rfl (Nat.le_of_ble_eq_true rfl) dX11_chance_29 ⟨Nat.zero_le _, Nat.zero_le _⟩) hS (fun rq Xq Yq Rq H locs hrq hq hH hS => ?_)
      obtain ⟨h91, h92⟩ := hq
      have h93 : Xq = X1 := congrArg (fun z => z.1) h92
      have h94 : Yq = Y := congrArg (fun z => z.2.1) h92
      have h95 : Rq = R := congrArg (fun z => z.2.2) h92
      rw [h93, h94, h95] at hH
      subst h91
      refine zd_ifB_ne C 39 dX11_chance_32 (by decide) (fun c4 => ?_) (fun c4 => ?_)
      · have hF := hF.1 c4
        refine lv_lconst (v := zL 1) C.1 C.2.1 dX11_chance_39 rfl ?_
        refine lv_lstore (lv' := [(5, .long (zL (1))), (0, .ref (bs + (i))), (1, .int (zI (a))), (2, .int (zI (b))), (3, .int (zI (g))), (4, .int (zI (bz (d))))]) C.1 C.2.1 dX11_chance_40 hl (by decide) rfl (fun ls hl => ?_)
        refine zd_iconst C dX11_chance_42 ?_
        refine lv_istore (lv' := [(7, .int (zI (0))), (5, .long (zL (1))), (0, .ref (bs + (i))), (1, .int (zI (a))), (2, .int (zI (b))), (3, .int (zI (g))), (4, .int (zI (bz (d))))]) C.1 C.2.1 dX11_chance_43 hl (by decide) rfl (fun ls hl => ?_)
        obtain ⟨hI5, hF⟩ := hF
        have L5 : ∀ (fu : Nat) (al : Int) (k : Int), rL al → rI k → (∃ t : Nat, k = t ∧ k ≤ g ∧ al = 10 ^ t) → ((g - (k)).toNat) < fu → ∀ (H : Heap) (locs : List Loc) (ls : Array Slot), zH D cy bs N kd len X1 Y R H → va_S (zA bs) s.heap H locs → lv_has ls 8 [(5, .long (zL (al))), (7, .int (zI (k))), (0, .ref (bs + (i))), (1, .int (zI (a))), (2, .int (zI (b))), (3, .int (zI (g))), (4, .int (zI (bz (d))))] → W p l e (zRm 2 53) s m args below meth c H locs 0 0 (MQ below (zQl D cy bs N kd len (fun r st => st.2.2 = R ∧ (r = rChance (a) (b) (g) d ∧ (st.1) = zU X i 0 0 ∧ faK Y (st.2.1) i))) args s 0 0 (zA bs)) (F0 m 45 ls []) := by
          intro fu
          induction fu with
          | zero => intro al k _ _ _ hmu; exact absurd hmu (Nat.not_lt_zero _)
          | succ fu ih5 =>
            intro al k hal hk hI hmu5 H locs ls hH hS hl
            have hF := hF al k hal hk  hI
            refine lv_iload C.1 C.2.1 dX11_chance_45 (lv_at hl 1 rfl) ?_
            refine lv_iload_n C.1 C.2.1 dX11_chance_47 rfl (lv_at hl 5 rfl) ?_
            refine zd_icmp_ge C hk hg 65 dX11_chance_48 (by decide) (fun c6 => ?_) (fun c6 => ?_)
            · have hF := hF.1 c6
              refine lv_aload_n C.1 C.2.1 dX11_chance_65 rfl (lv_at hl 2 rfl) ?_
              refine lv_iload_n C.1 C.2.1 dX11_chance_66 rfl (lv_at hl 4 rfl) ?_
              refine lv_iload_n C.1 C.2.1 dX11_chance_67 rfl (lv_at hl 5 rfl) ?_
              refine lv_iload_n C.1 C.2.1 dX11_chance_68 rfl (lv_at hl 3 rfl) ?_
              refine zd_bipush C (by decide) dX11_chance_69 ?_
              refine lv_iload_n C.1 C.2.1 dX11_chance_71 rfl (lv_at hl 3 rfl) ?_
              refine zd_isub C dX11_chance_72 ?_
              obtain ⟨o7, hF⟩ := hF
              obtain ⟨o8, hF⟩ := hF
              refine zgol (zrunV (As := [.int (zI (b)), .int (zI (g)), .int (zI (a)), .int (zI (10 - a))]) (rest := []) C hE hH hS hl.1 (c_X11_caught (l := l) hM (b) hb (g) hg (a) ha (10 - a) o7 o8) k_RX11_481 ⟨Nat.le_of_ble_eq_true rfl, Nat.le_of_ble_eq_true rfl⟩ (zM_n0 hM) (zM_k0 hM) rfl rfl rfl (Nat.le_of_ble_eq_true rfl) dX11_chance_73 ⟨Nat.zero_le _, Nat.zero_le _⟩) hS (fun r10 Xq Y9 Rq H locs hrq hq hH hS => ?_)
              obtain ⟨h9X, h9R, hq⟩ := hq
              dsimp only at h9X h9R
              rw [h9X, h9R] at hH
              have hr10 := hrq
              have hF := hF r10 hrq Y9 hH.2.2.2 hq
              refine lv_lload C.1 C.2.1 dX11_chance_76 (lv_at hl 0 rfl) ?_
              refine lv_iload C.1 C.2.1 dX11_chance_78 (lv_at hl 6 rfl) ?_
              obtain ⟨o11, hF⟩ := hF
              refine zgol (zrunS (As := [.long (zL (r10)), .long (zL (al)), .int (zI (bz (d)))]) (rest := []) C hE hH hS hl.1 (c_X11_partL (l := l)  (r10) hr10 (al) hal (d) o11) k_RX11_472 ⟨Nat.le_of_ble_eq_true rfl, Nat.le_of_ble_eq_true rfl⟩ rfl (Nat.le_of_ble_eq_true rfl) dX11_chance_80 ⟨Nat.zero_le _, Nat.zero_le _⟩) hS (fun rq Xq Yq Rq H locs hrq hq hH hS => ?_)
              obtain ⟨h91, h92⟩ := hq
              have h93 : Xq = X1 := congrArg (fun z => z.1) h92
              have h94 : Yq = Y9 := congrArg (fun z => z.2.1) h92
              have h95 : Rq = R := congrArg (fun z => z.2.2) h92
              rw [h93, h94, h95] at hH
              subst h91
              have hr12 := hrq
              have hF := hF hr12
              exact zd_lret C hr hlk hH hS hr12 (⟨rfl, hF⟩) dX11_chance_83
            · have hF := hF.2 c6
              refine lv_lload C.1 C.2.1 dX11_chance_51 (lv_at hl 0 rfl) ?_
              refine lv_ldc2 (v := zL (10)) C.1 C.2.1 C.2.2.2.1 (C.2.2.2.2.1 _ q_1878) dX11_chance_53 ?_
              refine zd_lmul C dX11_chance_56 ?_
              refine lv_lstore (lv' := [(5, .long (zL ((al) * ((10))))), (7, .int (zI (k))), (0, .ref (bs + (i))), (1, .int (zI (a))), (2, .int (zI (b))), (3, .int (zI (g))), (4, .int (zI (bz (d))))]) C.1 C.2.1 dX11_chance_57 hl (by decide) rfl (fun ls hl => ?_)
              refine zd_iinc (k := 1) (lv' := [(7, .int (zI (k + 1))), (5, .long (zL ((al) * ((10))))), (0, .ref (bs + (i))), (1, .int (zI (a))), (2, .int (zI (b))), (3, .int (zI (g))), (4, .int (zI (bz (d))))]) C hl rfl dX11_chance_59 (by decide) rfl (fun ls hl => ?_)
              refine lv_goto (tgt := 45) C.1 C.2.1 dX11_chance_62 (by decide) ?_
              obtain ⟨o13, hF⟩ := hF
              obtain ⟨o14, hF⟩ := hF
              exact ih5 ((al) * ((10))) (k + 1) o13 o14 hF.1 (Nat.lt_of_lt_of_le hF.2 (Nat.le_of_lt_succ hmu5)) _ _ _ hH hS (lv_sub hl [1, 0, 2, 3, 4, 5, 6] rfl)
        exact L5 (((g - ((0 : Int))).toNat) + 1) ((1 : Int)) ((0 : Int)) (by decide) (by decide) hI5 (Nat.lt_succ_self _) _ _ _ hH hS (lv_sub hl [1, 0, 2, 3, 4, 5, 6] rfl)
      · have hF := hF.2 c4
        refine lv_ldc2 (v := zL (-1)) C.1 C.2.1 C.2.2.2.1 (C.2.2.2.2.1 _ q_1787) dX11_chance_35 ?_
        exact zd_lret C hr hlk hH hS (by decide) (⟨rfl, hF⟩) dX11_chance_38
theorem v_X11_chance {X Y : Nat → Int → Int} {R : Nat → Int → Option Nat} {i : Nat} (a : Int) (ha : rI a) (b : Int) (hb : rI b) (g : Int) (hg : rI g) (d : Bool) (hp : True) : F_X11_chance i X Y R a b g d := by
  unfold F_X11_chance
  intro hX hY
  intro X1
  intro eX1
  intro rX1
  refine ⟨?_, ?_⟩
  · intro c1
    exact ⟨by unfold rChance; rw [c1]; rfl, eX1, fun _ _ _ => rfl⟩
  intro c2
  have m1 := mIn_t.mp c2
  refine ⟨?_, ?_⟩
  · intro c3
    exact ⟨by unfold rChance; rw [c2, c3]; rfl, eX1, fun _ _ _ => rfl⟩
  intro c4
  have m2 := mIn_t.mp c4
  refine ⟨?_, ?_⟩
  · intro c5
    have m3 := mIn_t.mp c5
    refine ⟨?_, ?_⟩
    · exact ⟨0, rfl, by omega, rfl⟩
    intro al k
    intro _
    intro _
    intro h1
    obtain ⟨t, ht, tg, hal⟩ := h1
    subst ht
    have pt := p10 t (by omega)
    rw [← hal] at pt
    refine ⟨?_, ?_⟩
    · intro c6
      refine ⟨?_, ?_⟩
      · first | omega | exact ⟨by omega, by omega⟩ | decide | assumption | exact ⟨by omega, by omega, by omega⟩ | exact ⟨by decide, by decide⟩
      refine ⟨?_, ?_⟩
      · exact ⟨m2, m3, by omega, by omega, by omega⟩
      intro r10
      intro _
      intro Y9
      intro rY9
      intro h2
      obtain ⟨er, fk⟩ := h2
      have fb := fwN_c (u := a) (d := 10 - a) (z := b.toNat) (t := g.toNat) (by omega) (by omega) (by omega) (by omega) 0
      rw [← er] at fb
      refine ⟨?_, ?_⟩
      · first | omega | exact ⟨by omega, by omega⟩ | decide | assumption | exact ⟨by omega, by omega, by omega⟩ | exact ⟨by decide, by decide⟩
      intro _
      refine ⟨?_, eX1, fk⟩
      unfold rChance
      rw [c2, c4, c5, er, hal, show g.toNat = t by omega]
      rfl
    intro c7
    have pt1 := p10 (t + 1) (by omega)
    have es : (10 : Int) ^ (t + 1) = al * 10 := by rw [Int.pow_succ, hal]
    refine ⟨?_, ?_⟩
    · first | omega | exact ⟨by omega, by omega⟩ | decide | assumption | exact ⟨by omega, by omega, by omega⟩ | exact ⟨by decide, by decide⟩
    refine ⟨?_, ?_⟩
    · first | omega | exact ⟨by omega, by omega⟩ | decide | assumption | exact ⟨by omega, by omega, by omega⟩ | exact ⟨by decide, by decide⟩
    refine ⟨?_, ?_⟩
    · exact ⟨t + 1, by omega, by omega, es.symm⟩
    first | omega | exact ⟨by omega, by omega⟩ | decide | assumption | exact ⟨by omega, by omega, by omega⟩ | exact ⟨by decide, by decide⟩
  intro c8
  exact ⟨by unfold rChance; rw [c2, c4, c8]; rfl, eX1, fun _ _ _ => rfl⟩
theorem c_X11_chance {l : Launch} {D : va_G} {cy : Nat → ClassId} {bs N : Nat} {sa : Nat → Nat} {kd len : Nat → Nat} {X Y : Nat → Int → Int} {R : Nat → Int → Option Nat} {i : Nat} (hM : zM N kd len R i) (a : Int) (ha : rI a) (b : Int) (hb : rI b) (g : Int) (hg : rI g) (d : Bool) (hp : True) : Met l yX11_chance (.code yX11_chance cX11_chance 8 (some .long) :: zTB) (zRm 2 53) (zPc D cy bs sa N kd len X Y R [.ref (bs + (i)), .int (zI (a)), .int (zI (b)), .int (zI (g)), .int (zI (bz (d)))]) (zQl D cy bs N kd len (fun r st => st.2.2 = R ∧ (r = rChance (a) (b) (g) d ∧ (st.1) = zU X i 0 0 ∧ faK Y (st.2.1) i))) 0 0 (zA bs) := w_X11_chance hM a ha b hb g hg d (v_X11_chance a ha b hb g hg d hp)
abbrev cX11_race : ByteArray := prog_13_method_102_code
def yX11_race : MethodName := ⟨RX11, "race", "(II)I"⟩
theorem dX11_race_0 : decode cX11_race 0 = .ok (.aload_n 0, 1) := by decide +kernel
theorem dX11_race_1 : decode cX11_race 1 = .ok (.iconst 0, 1) := by decide +kernel
theorem dX11_race_2 : decode cX11_race 2 = .ok (.putfield 88, 3) := by decide +kernel
theorem dX11_race_5 : decode cX11_race 5 = .ok (.iload_n 1, 1) := by decide +kernel
theorem dX11_race_6 : decode cX11_race 6 = .ok (.iconst 0, 1) := by decide +kernel
theorem dX11_race_7 : decode cX11_race 7 = .ok (.bipush 6, 2) := by decide +kernel
theorem dX11_race_9 : decode cX11_race 9 = .ok (.invokestatic 100, 3) := by decide +kernel
theorem dX11_race_12 : decode cX11_race 12 = .ok (.ifCond .eq 25, 3) := by decide +kernel
theorem dX11_race_15 : decode cX11_race 15 = .ok (.iload_n 2, 1) := by decide +kernel
theorem dX11_race_16 : decode cX11_race 16 = .ok (.iconst 0, 1) := by decide +kernel
theorem dX11_race_17 : decode cX11_race 17 = .ok (.bipush 6, 2) := by decide +kernel
theorem dX11_race_19 : decode cX11_race 19 = .ok (.invokestatic 100, 3) := by decide +kernel
theorem dX11_race_22 : decode cX11_race 22 = .ok (.ifCond .eq 15, 3) := by decide +kernel
theorem dX11_race_25 : decode cX11_race 25 = .ok (.aload_n 0, 1) := by decide +kernel
theorem dX11_race_26 : decode cX11_race 26 = .ok (.iload_n 1, 1) := by decide +kernel
theorem dX11_race_27 : decode cX11_race 27 = .ok (.iload_n 2, 1) := by decide +kernel
theorem dX11_race_28 : decode cX11_race 28 = .ok (.iconst 1, 1) := by decide +kernel
theorem dX11_race_29 : decode cX11_race 29 = .ok (.iconst 1, 1) := by decide +kernel
theorem dX11_race_30 : decode cX11_race 30 = .ok (.invokevirtual 481, 3) := by decide +kernel
theorem dX11_race_33 : decode cX11_race 33 = .ok (.l2i, 1) := by decide +kernel
theorem dX11_race_34 : decode cX11_race 34 = .ok (.goto 4, 3) := by decide +kernel
theorem dX11_race_37 : decode cX11_race 37 = .ok (.iconst (-1), 1) := by decide +kernel
theorem dX11_race_38 : decode cX11_race 38 = .ok (.ireturn, 1) := by decide +kernel
def F_X11_race (i : Nat) (X Y : Nat → Int → Int) (R : Nat → Int → Option Nat) (a : Int) (b : Int) : Prop := (∀ i j, rI (X i j)) → (∀ i j, rL (Y i j)) → ∀ X1 : Nat → Int → Int, X1 = zU X (i) 0 (0) → (∀ i j, rI (X1 i j)) → ((((mIn (a) ((0 : Int)) ((6 : Int))) = false) → ((-1) = rRace (a) (b) ∧ (X1) = zU X i 0 0 ∧ faK Y (Y) i)) ∧ (((mIn (a) ((0 : Int)) ((6 : Int))) = true) → ((((mIn (b) ((0 : Int)) ((6 : Int))) = false) → ((-1) = rRace (a) (b) ∧ (X1) = zU X i 0 0 ∧ faK Y (Y) i)) ∧ (((mIn (b) ((0 : Int)) ((6 : Int))) = true) → (((0 ≤ a ∧ a ≤ 6) ∧ (0 ≤ b ∧ b ≤ 12) ∧ 0 ≤ (1 : Int) ∧ 0 ≤ (1 : Int) ∧ ((1 : Int)) + ((1 : Int)) ≤ 10) ∧ (∀ r6 : Int, rL r6 → ∀ Y5 : Nat → Int → Int, (∀ i j, rL (Y5 i j)) → (r6 = fwN ((1 : Int)) ((1 : Int)) (a).toNat (b).toNat 0 ∧ faK Y (Y5) i) → ((rI (r6)) ∧ (r6 = rRace (a) (b) ∧ (X1) = zU X i 0 0 ∧ faK Y (Y5) i))))))))
set_option maxHeartbeats 4000000 in
set_option maxRecDepth 100000 in
theorem w_X11_race {l : Launch} {D : va_G} {cy : Nat → ClassId} {bs N : Nat} {sa : Nat → Nat} {kd len : Nat → Nat} {X Y : Nat → Int → Int} {R : Nat → Int → Option Nat} {i : Nat} (hM : zM N kd len R i) (a : Int) (ha : rI a) (b : Int) (hb : rI b) (hF : F_X11_race i X Y R a b) : Met l yX11_race (.code yX11_race cX11_race 3 (some .int) :: zTB) (zRm 1 26) (zPc D cy bs sa N kd len X Y R [.ref (bs + (i)), .int (zI (a)), .int (zI (b))]) (zQi D cy bs N kd len (fun r st => st.2.2 = R ∧ (r = rRace (a) (b) ∧ (st.1) = zU X i 0 0 ∧ faK Y (st.2.1) i))) 0 0 (zA bs) := by
  refine zstart (by decide) (Nat.le_of_ble_eq_true rfl) ?_
  intro p e s m args below meth c ls C hE hH hr hlk hnm hl hargs
  have hF := hF hH.2.2.1 hH.2.2.2
  have hS : va_S (zA bs) s.heap s.heap [] := va_S.rf
  have hl : lv_has ls 3 [(0, .ref (bs + (i))), (1, .int (zI (a))), (2, .int (zI (b)))] := hl
  refine lv_aload_n C.1 C.2.1 dX11_race_0 rfl (lv_at hl 0 rfl) ?_
  refine zd_iconst C dX11_race_1 ?_
  refine zp11_0 C hH hS (zM_n0 hM) (zM_k0 hM) q_1287 (by decide) dX11_race_2 (fun H locs hH hS => ?_)
  obtain ⟨X1, eX1⟩ : ∃ z, z = zU X (i) 0 (0) := ⟨_, rfl⟩
  rw [← eX1] at hH
  have hF := hF X1 eX1 hH.2.2.1
  refine lv_iload_n C.1 C.2.1 dX11_race_5 rfl (lv_at hl 1 rfl) ?_
  refine zd_iconst C dX11_race_6 ?_
  refine zd_bipush C (by decide) dX11_race_7 ?_
  refine zgoi (zrunS (As := [.int (zI (a)), .int (zI (0)), .int (zI (6))]) (rest := []) C hE hH hS hl.1 (c_X11_in (l := l)  (a) ha (0) (by decide) (6) (by decide)) k_RX11_100 ⟨Nat.le_of_ble_eq_true rfl, Nat.le_of_ble_eq_true rfl⟩ rfl (Nat.le_of_ble_eq_true rfl) dX11_race_9 ⟨Nat.zero_le _, Nat.zero_le _⟩) hS (fun rq Xq Yq Rq H locs hrq hq hH hS => ?_)
  obtain ⟨h91, h92⟩ := hq
  have h93 : Xq = X1 := congrArg (fun z => z.1) h92
  have h94 : Yq = Y := congrArg (fun z => z.2.1) h92
  have h95 : Rq = R := congrArg (fun z => z.2.2) h92
  rw [h93, h94, h95] at hH
  subst h91
  refine zd_ifB_eq C 37 dX11_race_12 (by decide) (fun c2 => ?_) (fun c2 => ?_)
  · have hF := hF.1 c2
    refine zd_iconst C dX11_race_37 ?_
    exact zd_iret C hr hlk hH hS (by decide) (⟨rfl, hF⟩) dX11_race_38
  · have hF := hF.2 c2
    refine lv_iload_n C.1 C.2.1 dX11_race_15 rfl (lv_at hl 2 rfl) ?_
    refine zd_iconst C dX11_race_16 ?_
    refine zd_bipush C (by decide) dX11_race_17 ?_
    refine zgoi (zrunS (As := [.int (zI (b)), .int (zI (0)), .int (zI (6))]) (rest := []) C hE hH hS hl.1 (c_X11_in (l := l)  (b) hb (0) (by decide) (6) (by decide)) k_RX11_100 ⟨Nat.le_of_ble_eq_true rfl, Nat.le_of_ble_eq_true rfl⟩ rfl (Nat.le_of_ble_eq_true rfl) dX11_race_19 ⟨Nat.zero_le _, Nat.zero_le _⟩) hS (fun rq Xq Yq Rq H locs hrq hq hH hS => ?_)
    obtain ⟨h91, h92⟩ := hq
    have h93 : Xq = X1 := congrArg (fun z => z.1) h92
    have h94 : Yq = Y := congrArg (fun z => z.2.1) h92
    have h95 : Rq = R := congrArg (fun z => z.2.2) h92
    rw [h93, h94, h95] at hH
    subst h91
    refine zd_ifB_eq C 37 dX11_race_22 (by decide) (fun c3 => ?_) (fun c3 => ?_)
    · have hF := hF.1 c3
      refine zd_iconst C dX11_race_37 ?_
      exact zd_iret C hr hlk hH hS (by decide) (⟨rfl, hF⟩) dX11_race_38
    · have hF := hF.2 c3
      refine lv_aload_n C.1 C.2.1 dX11_race_25 rfl (lv_at hl 0 rfl) ?_
      refine lv_iload_n C.1 C.2.1 dX11_race_26 rfl (lv_at hl 1 rfl) ?_
      refine lv_iload_n C.1 C.2.1 dX11_race_27 rfl (lv_at hl 2 rfl) ?_
      refine zd_iconst C dX11_race_28 ?_
      refine zd_iconst C dX11_race_29 ?_
      obtain ⟨o4, hF⟩ := hF
      refine zgol (zrunV (As := [.int (zI (a)), .int (zI (b)), .int (zI (1)), .int (zI (1))]) (rest := []) C hE hH hS hl.1 (c_X11_caught (l := l) hM (a) ha (b) hb (1) (by decide) (1) (by decide) o4) k_RX11_481 ⟨Nat.le_of_ble_eq_true rfl, Nat.le_of_ble_eq_true rfl⟩ (zM_n0 hM) (zM_k0 hM) rfl rfl rfl (Nat.le_of_ble_eq_true rfl) dX11_race_30 ⟨Nat.zero_le _, Nat.zero_le _⟩) hS (fun r6 Xq Y5 Rq H locs hrq hq hH hS => ?_)
      obtain ⟨h9X, h9R, hq⟩ := hq
      dsimp only at h9X h9R
      rw [h9X, h9R] at hH
      have hr6 := hrq
      have hF := hF r6 hrq Y5 hH.2.2.2 hq
      refine zd_l2i C dX11_race_33 ?_
      refine lv_goto (tgt := 38) C.1 C.2.1 dX11_race_34 (by decide) ?_
      obtain ⟨o7, hF⟩ := hF
      exact zd_iret C hr hlk hH hS o7 (⟨rfl, hF⟩) dX11_race_38
theorem v_X11_race {X Y : Nat → Int → Int} {R : Nat → Int → Option Nat} {i : Nat} (a : Int) (ha : rI a) (b : Int) (hb : rI b) (hp : True) : F_X11_race i X Y R a b := by
  unfold F_X11_race
  intro hX hY
  intro X1
  intro eX1
  intro rX1
  refine ⟨?_, ?_⟩
  · intro c1
    exact ⟨by unfold rRace; rw [c1]; rfl, eX1, fun _ _ _ => rfl⟩
  intro c2
  have m1 := mIn_t.mp c2
  refine ⟨?_, ?_⟩
  · intro c3
    exact ⟨by unfold rRace; rw [c2, c3]; rfl, eX1, fun _ _ _ => rfl⟩
  intro c4
  have m2 := mIn_t.mp c4
  refine ⟨?_, ?_⟩
  · exact ⟨m1, ⟨by omega, by omega⟩, by decide, by decide, by decide⟩
  intro r6
  intro _
  intro Y5
  intro rY5
  intro h1
  obtain ⟨er, fk⟩ := h1
  have fb := fwN_b (u := 1) (d := 1) (z := a.toNat) (by decide) (by decide) (by decide) b.toNat 0
  have p := p206 b.toNat (by omega)
  rw [← er] at fb
  refine ⟨?_, ?_⟩
  · first | omega | exact ⟨by omega, by omega⟩ | decide | assumption | exact ⟨by omega, by omega, by omega⟩ | exact ⟨by decide, by decide⟩
  refine ⟨?_, eX1, fk⟩
  unfold rRace
  rw [c2, c4, er]
  rfl
theorem c_X11_race {l : Launch} {D : va_G} {cy : Nat → ClassId} {bs N : Nat} {sa : Nat → Nat} {kd len : Nat → Nat} {X Y : Nat → Int → Int} {R : Nat → Int → Option Nat} {i : Nat} (hM : zM N kd len R i) (a : Int) (ha : rI a) (b : Int) (hb : rI b) (hp : True) : Met l yX11_race (.code yX11_race cX11_race 3 (some .int) :: zTB) (zRm 1 26) (zPc D cy bs sa N kd len X Y R [.ref (bs + (i)), .int (zI (a)), .int (zI (b))]) (zQi D cy bs N kd len (fun r st => st.2.2 = R ∧ (r = rRace (a) (b) ∧ (st.1) = zU X i 0 0 ∧ faK Y (st.2.1) i))) 0 0 (zA bs) := w_X11_race hM a ha b hb (v_X11_race a ha b hb hp)
