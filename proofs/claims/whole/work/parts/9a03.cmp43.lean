/-! WHICH LAWS FIT, ASKED -/
section HL
variable {Z : Nat → Int → Int} {q : Nat} {a b g l : Int}
theorem hL_t : tS (hZ Z q a b g) (hL Z q a b g l) q := by
  refine ⟨zU_o (by omega), zU_o (by omega), zU_n (by omega), zU_n (by omega), zU_n (by omega), zU_n (by omega), zU_n (by omega)⟩
theorem hL_o {z : Nat} (h : z ≠ q) : hL Z q a b g l z = Z z := (zU_o h).trans (hZ_o h)
theorem hL_55 : hL Z q a b g l q 55 = l := zU_s
theorem hL_n {s : Int} (h : s ≠ 55) : hL Z q a b g l q s = hZ Z q a b g q s := zU_n (by omega)
theorem vZ_t {Z W : Nat → Int → Int} (t : tS Z W q) (h : vZ Z q) : vZ W q := by
  unfold vZ
  rw [t.2.2.2.2.2.1]
  exact ⟨h.1, oBs_t t h.2⟩
theorem vN_t {Z W : Nat → Int → Int} (t : tS Z W q) (h : vN Z q) : vN W q := ⟨oG_t t h.1, oA_t t h.2⟩
theorem nR_t {Z W : Nat → Int → Int} {X : Nat → Int → Int} {d : Nat} (t : tS Z W q) (h : nR Z q X d) : nR W q X d := by
  unfold nR
  rw [mG_t t, mG_t t, mG_t t, t.2.2.2.2.1]
  refine ⟨h.1, h.2.1, h.2.2.1, h.2.2.2.1, fun a a0 a1 => ?_⟩
  rw [mG_t t]
  exact h.2.2.2.2 a a0 a1
theorem bR_tt {Z W : Nat → Int → Int} {X : Nat → Int → Int} {d : Nat} (t : tS Z W q) (h : bR Z q X d) : bR W q X d := by
  unfold bR
  rw [t.2.2.2.2.2.1]
  refine ⟨h.1, h.2.1, fun k k1 k2 => ?_⟩
  rw [mC_t t, mC_t t, mC_t t, mC_t t]
  have g := h.2.2 k k1 k2
  refine ⟨g.1, g.2.1, g.2.2.1, g.2.2.2.1, fun j w j0 j1 w0 w1 => ?_⟩
  rw [mC_t t]
  exact g.2.2.2.2 j w j0 j1 w0 w1
theorem feR_L {X : Nat → Int → Int} {j nn : Nat} (h : feR (hZ Z q a b g) q X j nn) : feR (hL Z q a b g l) q X j nn := by
  have e1 : fW (hL Z q a b g l) q = fW (hZ Z q a b g) q := funext fun k => by
    unfold fW mDd
    rw [hL_o (by omega), hL_n (by omega), hZ_o (show q + 8 ≠ q by omega)]
  have e2 : fV (hL Z q a b g l) q = fV (hZ Z q a b g) q := funext fun k => by
    unfold fV mDd
    rw [hL_o (by omega), hL_n (by omega), hZ_o (show q + 8 ≠ q by omega)]
  have e3 : mDn (hL Z q a b g l) q = mDn (hZ Z q a b g) q := by
    unfold mDn
    rw [hL_o (by omega), hL_n (by omega), hZ_o (show q + 8 ≠ q by omega)]
  unfold feR
  rw [e1, e2, e3]
  exact h
theorem lgR_L {X : Nat → Int → Int} {r : Nat} (h : oLgr Z q l) (hv : rowV X r 2 8 16) (hr : rowR Z (q + 9) (17 * l) 2 X r) : lgR (hL Z q a b g l) q X r 16 := by
  have en : mLn (hL Z q a b g l) q = Z (q + 9) (17 * l) := by
    unfold mLn
    rw [hL_o (by omega), hL_55]
  have ef : ∀ k w, mLf (hL Z q a b g l) q k w = Z (q + 9) (17 * l + 1 + 2 * k + w) := fun k w => by
    unfold mLf
    rw [hL_o (by omega), hL_55]
  refine ⟨hv, by rw [en]; exact hr.1, fun k hk => ?_⟩
  rw [en] at hk
  rw [ef, ef]
  have g := h.2 k (by omega) hk
  exact ⟨hr.2 k 0 (by omega) (by rw [hr.1]; exact hk) (by decide) (by decide), hr.2 k 1 (by omega) (by rw [hr.1]; exact hk) (by decide) (by decide), g.1.1, g.1.2⟩
end HL
abbrev cX10_survey : ByteArray := prog_1_method_47_code
def yX10_survey : MethodName := ⟨RX10, "survey", "(IIII)Z"⟩
theorem dX10_survey_0 : decode cX10_survey 0 = .ok (.aload_n 0, 1) := by decide +kernel
theorem dX10_survey_1 : decode cX10_survey 1 = .ok (.getfield 10, 3) := by decide +kernel
theorem dX10_survey_4 : decode cX10_survey 4 = .ok (.iload_n 1, 1) := by decide +kernel
theorem dX10_survey_5 : decode cX10_survey 5 = .ok (.invokevirtual 110, 3) := by decide +kernel
theorem dX10_survey_8 : decode cX10_survey 8 = .ok (.astore 5, 2) := by decide +kernel
theorem dX10_survey_10 : decode cX10_survey 10 = .ok (.aload_n 0, 1) := by decide +kernel
theorem dX10_survey_11 : decode cX10_survey 11 = .ok (.getfield 10, 3) := by decide +kernel
theorem dX10_survey_14 : decode cX10_survey 14 = .ok (.iload_n 2, 1) := by decide +kernel
theorem dX10_survey_15 : decode cX10_survey 15 = .ok (.invokevirtual 144, 3) := by decide +kernel
theorem dX10_survey_18 : decode cX10_survey 18 = .ok (.astore 6, 2) := by decide +kernel
theorem dX10_survey_20 : decode cX10_survey 20 = .ok (.aload_n 0, 1) := by decide +kernel
theorem dX10_survey_21 : decode cX10_survey 21 = .ok (.getfield 10, 3) := by decide +kernel
theorem dX10_survey_24 : decode cX10_survey 24 = .ok (.iconst 2, 1) := by decide +kernel
theorem dX10_survey_25 : decode cX10_survey 25 = .ok (.iload_n 3, 1) := by decide +kernel
theorem dX10_survey_26 : decode cX10_survey 26 = .ok (.invokevirtual 176, 3) := by decide +kernel
theorem dX10_survey_29 : decode cX10_survey 29 = .ok (.astore 7, 2) := by decide +kernel
theorem dX10_survey_31 : decode cX10_survey 31 = .ok (.aload_n 0, 1) := by decide +kernel
theorem dX10_survey_32 : decode cX10_survey 32 = .ok (.getfield 10, 3) := by decide +kernel
theorem dX10_survey_35 : decode cX10_survey 35 = .ok (.iconst 3, 1) := by decide +kernel
theorem dX10_survey_36 : decode cX10_survey 36 = .ok (.iload 4, 2) := by decide +kernel
theorem dX10_survey_38 : decode cX10_survey 38 = .ok (.invokevirtual 176, 3) := by decide +kernel
theorem dX10_survey_41 : decode cX10_survey 41 = .ok (.astore 8, 2) := by decide +kernel
theorem dX10_survey_43 : decode cX10_survey 43 = .ok (.aload 5, 2) := by decide +kernel
theorem dX10_survey_45 : decode cX10_survey 45 = .ok (.ifnull 18, 3) := by decide +kernel
theorem dX10_survey_48 : decode cX10_survey 48 = .ok (.aload 6, 2) := by decide +kernel
theorem dX10_survey_50 : decode cX10_survey 50 = .ok (.ifnull 13, 3) := by decide +kernel
theorem dX10_survey_53 : decode cX10_survey 53 = .ok (.aload 7, 2) := by decide +kernel
theorem dX10_survey_55 : decode cX10_survey 55 = .ok (.ifnull 8, 3) := by decide +kernel
theorem dX10_survey_58 : decode cX10_survey 58 = .ok (.aload 8, 2) := by decide +kernel
theorem dX10_survey_60 : decode cX10_survey 60 = .ok (.ifnonnull 5, 3) := by decide +kernel
theorem dX10_survey_63 : decode cX10_survey 63 = .ok (.iconst 0, 1) := by decide +kernel
theorem dX10_survey_64 : decode cX10_survey 64 = .ok (.ireturn, 1) := by decide +kernel
theorem dX10_survey_65 : decode cX10_survey 65 = .ok (.aload_n 0, 1) := by decide +kernel
theorem dX10_survey_66 : decode cX10_survey 66 = .ok (.getfield 52, 3) := by decide +kernel
theorem dX10_survey_69 : decode cX10_survey 69 = .ok (.aload 5, 2) := by decide +kernel
theorem dX10_survey_71 : decode cX10_survey 71 = .ok (.aload 6, 2) := by decide +kernel
theorem dX10_survey_73 : decode cX10_survey 73 = .ok (.aload 7, 2) := by decide +kernel
theorem dX10_survey_75 : decode cX10_survey 75 = .ok (.aload 8, 2) := by decide +kernel
theorem dX10_survey_77 : decode cX10_survey 77 = .ok (.invokevirtual 451, 3) := by decide +kernel
theorem dX10_survey_80 : decode cX10_survey 80 = .ok (.iconst 1, 1) := by decide +kernel
theorem dX10_survey_81 : decode cX10_survey 81 = .ok (.ireturn, 1) := by decide +kernel
theorem q_575 : Cond.fieldLink RX10 52 RX10 "laws" "LWorkChains$Laws;" ∈ zTB := zmem 575 (by decide +kernel) rfl
theorem q_1246 : Cond.methodLink RX10 451 yX4_survey ∈ zTB := zmem 1246 (by decide +kernel) rfl
theorem q_1247 : Cond.instanceMethod yX4_survey ∈ zTB := zmem 1247 (by decide +kernel) rfl
theorem q_1248 : Cond.selects RX4 yX4_survey yX4_survey ∈ zTB := zmem 1248 (by decide +kernel) rfl
theorem q_1249 : Cond.code yX4_survey cX4_survey 9 none ∈ zTB := zmem 1249 (by decide +kernel) rfl
theorem k_RX10_451 : zLv RX10 451 RX4 yX4_survey cX4_survey 9 none 4 := ⟨⟨q_1246, q_1247, q_1248, q_138, q_1249⟩, rfl, ⟨by decide, by decide⟩, by decide +kernel⟩
def F_X10_survey (i : Nat) (Z : Nat → Int → Int) (q : Nat) (X Y : Nat → Int → Int) (R : Nat → Int → Option Nat) (a : Int) (b : Int) (g : Int) (d : Int) : Prop := (∀ i j, rI (X i j)) → (∀ i j, rL (Y i j)) → ((0 ≤ (a) ∧ (a) < 2 ∧ (a) < X (i + 3) 0) → (((0 ≤ (b) ∧ (b) < 2 ∧ (b) < X (i + 3) 1) → ((((2 ≤ ((2 : Int)) ∧ ((2 : Int)) < 5) ∧ 0 ≤ (g) ∧ (g) < 2 ∧ (g) < X (i + 3) ((2 : Int))) → ((((2 ≤ ((3 : Int)) ∧ ((3 : Int)) < 5) ∧ 0 ≤ (d) ∧ (d) < 2 ∧ (d) < X (i + 3) ((3 : Int))) → (((((vZ (hL Z q a b g d) q ∧ chI X (i + 157)) ∧ bR (hL Z q a b g d) q X (i + 9 + 8 * (b : Int).toNat)) ∧ (i + 9 + 8 * (b : Int).toNat) + 5 < (i + 157)) ∧ (vN (hL Z q a b g d) q ∧ nR (hL Z q a b g d) q X (i + 7 + 8 * (a : Int).toNat) ∧ (i + 7 + 8 * (a : Int).toNat) + 1 < (i + 157)) ∧ pyP X (i + 9 + 8 * (b : Int).toNat) ∧ (feR (hL Z q a b g d) q X (i + 23 + 2 * (((2 - 2) * 2 + g) : Int).toNat) (rwN ((2 - 2) * 2 + g)) ∧ (i + 23 + 2 * (((2 - 2) * 2 + g) : Int).toNat) + 1 < (i + 157)) ∧ lgR (hL Z q a b g d) q X (i + 23 + 2 * (((3 - 2) * 2 + d) : Int).toNat) (rwN ((3 - 2) * 2 + d)) ∧ (i + 23 + 2 * (((3 - 2) * 2 + d) : Int).toNat) + 1 < (i + 157)) ∧ (∀ X6 : Nat → Int → Int, (∀ i j, rI (X6 i j)) → ∀ Y7 : Nat → Int → Int, (∀ i j, rL (Y7 i j)) → ∀ R8 : Nat → Int → Option Nat, ((R8) = zU (zU R (i + 157) 1 (some (i + 9 + 8 * (b : Int).toNat))) (i + 157) 0 (some (i + 7 + 8 * (a : Int).toNat)) ∧ (∀ z, (z < (i + 157) ∨ (i + 157) + 88 < z) → (X6) z = X z) ∧ chI (X6) (i + 157) ∧ lsR (hL Z q a b g d) q (X6) (i + 157) 41) → (wcK R (R8) i ∧ true = lgOk Z q (a) (b) (g) (d) ∧ (true = false → (X6) = X) ∧ (true = true → qK X (X6) i ∧ lsR (hL Z q (a) (b) (g) (d)) q (X6) (i + 157) 41))))) ∧ (¬ ((2 ≤ ((3 : Int)) ∧ ((3 : Int)) < 5) ∧ 0 ≤ (d) ∧ (d) < 2 ∧ (d) < X (i + 3) ((3 : Int))) → (wcK R (R) i ∧ false = lgOk Z q (a) (b) (g) (d) ∧ (false = false → (X) = X) ∧ (false = true → qK X (X) i ∧ lsR (hL Z q (a) (b) (g) (d)) q (X) (i + 157) 41))))) ∧ (¬ ((2 ≤ ((2 : Int)) ∧ ((2 : Int)) < 5) ∧ 0 ≤ (g) ∧ (g) < 2 ∧ (g) < X (i + 3) ((2 : Int))) → ((((2 ≤ ((3 : Int)) ∧ ((3 : Int)) < 5) ∧ 0 ≤ (d) ∧ (d) < 2 ∧ (d) < X (i + 3) ((3 : Int))) → (wcK R (R) i ∧ false = lgOk Z q (a) (b) (g) (d) ∧ (false = false → (X) = X) ∧ (false = true → qK X (X) i ∧ lsR (hL Z q (a) (b) (g) (d)) q (X) (i + 157) 41))) ∧ (¬ ((2 ≤ ((3 : Int)) ∧ ((3 : Int)) < 5) ∧ 0 ≤ (d) ∧ (d) < 2 ∧ (d) < X (i + 3) ((3 : Int))) → (wcK R (R) i ∧ false = lgOk Z q (a) (b) (g) (d) ∧ (false = false → (X) = X) ∧ (false = true → qK X (X) i ∧ lsR (hL Z q (a) (b) (g) (d)) q (X) (i + 157) 41))))))) ∧ (¬ (0 ≤ (b) ∧ (b) < 2 ∧ (b) < X (i + 3) 1) → ((((2 ≤ ((2 : Int)) ∧ ((2 : Int)) < 5) ∧ 0 ≤ (g) ∧ (g) < 2 ∧ (g) < X (i + 3) ((2 : Int))) → ((((2 ≤ ((3 : Int)) ∧ ((3 : Int)) < 5) ∧ 0 ≤ (d) ∧ (d) < 2 ∧ (d) < X (i + 3) ((3 : Int))) → (wcK R (R) i ∧ false = lgOk Z q (a) (b) (g) (d) ∧ (false = false → (X) = X) ∧ (false = true → qK X (X) i ∧ lsR (hL Z q (a) (b) (g) (d)) q (X) (i + 157) 41))) ∧ (¬ ((2 ≤ ((3 : Int)) ∧ ((3 : Int)) < 5) ∧ 0 ≤ (d) ∧ (d) < 2 ∧ (d) < X (i + 3) ((3 : Int))) → (wcK R (R) i ∧ false = lgOk Z q (a) (b) (g) (d) ∧ (false = false → (X) = X) ∧ (false = true → qK X (X) i ∧ lsR (hL Z q (a) (b) (g) (d)) q (X) (i + 157) 41))))) ∧ (¬ ((2 ≤ ((2 : Int)) ∧ ((2 : Int)) < 5) ∧ 0 ≤ (g) ∧ (g) < 2 ∧ (g) < X (i + 3) ((2 : Int))) → ((((2 ≤ ((3 : Int)) ∧ ((3 : Int)) < 5) ∧ 0 ≤ (d) ∧ (d) < 2 ∧ (d) < X (i + 3) ((3 : Int))) → (wcK R (R) i ∧ false = lgOk Z q (a) (b) (g) (d) ∧ (false = false → (X) = X) ∧ (false = true → qK X (X) i ∧ lsR (hL Z q (a) (b) (g) (d)) q (X) (i + 157) 41))) ∧ (¬ ((2 ≤ ((3 : Int)) ∧ ((3 : Int)) < 5) ∧ 0 ≤ (d) ∧ (d) < 2 ∧ (d) < X (i + 3) ((3 : Int))) → (wcK R (R) i ∧ false = lgOk Z q (a) (b) (g) (d) ∧ (false = false → (X) = X) ∧ (false = true → qK X (X) i ∧ lsR (hL Z q (a) (b) (g) (d)) q (X) (i + 157) 41))))))))) ∧ (¬ (0 ≤ (a) ∧ (a) < 2 ∧ (a) < X (i + 3) 0) → (((0 ≤ (b) ∧ (b) < 2 ∧ (b) < X (i + 3) 1) → ((((2 ≤ ((2 : Int)) ∧ ((2 : Int)) < 5) ∧ 0 ≤ (g) ∧ (g) < 2 ∧ (g) < X (i + 3) ((2 : Int))) → ((((2 ≤ ((3 : Int)) ∧ ((3 : Int)) < 5) ∧ 0 ≤ (d) ∧ (d) < 2 ∧ (d) < X (i + 3) ((3 : Int))) → (wcK R (R) i ∧ false = lgOk Z q (a) (b) (g) (d) ∧ (false = false → (X) = X) ∧ (false = true → qK X (X) i ∧ lsR (hL Z q (a) (b) (g) (d)) q (X) (i + 157) 41))) ∧ (¬ ((2 ≤ ((3 : Int)) ∧ ((3 : Int)) < 5) ∧ 0 ≤ (d) ∧ (d) < 2 ∧ (d) < X (i + 3) ((3 : Int))) → (wcK R (R) i ∧ false = lgOk Z q (a) (b) (g) (d) ∧ (false = false → (X) = X) ∧ (false = true → qK X (X) i ∧ lsR (hL Z q (a) (b) (g) (d)) q (X) (i + 157) 41))))) ∧ (¬ ((2 ≤ ((2 : Int)) ∧ ((2 : Int)) < 5) ∧ 0 ≤ (g) ∧ (g) < 2 ∧ (g) < X (i + 3) ((2 : Int))) → ((((2 ≤ ((3 : Int)) ∧ ((3 : Int)) < 5) ∧ 0 ≤ (d) ∧ (d) < 2 ∧ (d) < X (i + 3) ((3 : Int))) → (wcK R (R) i ∧ false = lgOk Z q (a) (b) (g) (d) ∧ (false = false → (X) = X) ∧ (false = true → qK X (X) i ∧ lsR (hL Z q (a) (b) (g) (d)) q (X) (i + 157) 41))) ∧ (¬ ((2 ≤ ((3 : Int)) ∧ ((3 : Int)) < 5) ∧ 0 ≤ (d) ∧ (d) < 2 ∧ (d) < X (i + 3) ((3 : Int))) → (wcK R (R) i ∧ false = lgOk Z q (a) (b) (g) (d) ∧ (false = false → (X) = X) ∧ (false = true → qK X (X) i ∧ lsR (hL Z q (a) (b) (g) (d)) q (X) (i + 157) 41))))))) ∧ (¬ (0 ≤ (b) ∧ (b) < 2 ∧ (b) < X (i + 3) 1) → ((((2 ≤ ((2 : Int)) ∧ ((2 : Int)) < 5) ∧ 0 ≤ (g) ∧ (g) < 2 ∧ (g) < X (i + 3) ((2 : Int))) → ((((2 ≤ ((3 : Int)) ∧ ((3 : Int)) < 5) ∧ 0 ≤ (d) ∧ (d) < 2 ∧ (d) < X (i + 3) ((3 : Int))) → (wcK R (R) i ∧ false = lgOk Z q (a) (b) (g) (d) ∧ (false = false → (X) = X) ∧ (false = true → qK X (X) i ∧ lsR (hL Z q (a) (b) (g) (d)) q (X) (i + 157) 41))) ∧ (¬ ((2 ≤ ((3 : Int)) ∧ ((3 : Int)) < 5) ∧ 0 ≤ (d) ∧ (d) < 2 ∧ (d) < X (i + 3) ((3 : Int))) → (wcK R (R) i ∧ false = lgOk Z q (a) (b) (g) (d) ∧ (false = false → (X) = X) ∧ (false = true → qK X (X) i ∧ lsR (hL Z q (a) (b) (g) (d)) q (X) (i + 157) 41))))) ∧ (¬ ((2 ≤ ((2 : Int)) ∧ ((2 : Int)) < 5) ∧ 0 ≤ (g) ∧ (g) < 2 ∧ (g) < X (i + 3) ((2 : Int))) → ((((2 ≤ ((3 : Int)) ∧ ((3 : Int)) < 5) ∧ 0 ≤ (d) ∧ (d) < 2 ∧ (d) < X (i + 3) ((3 : Int))) → (wcK R (R) i ∧ false = lgOk Z q (a) (b) (g) (d) ∧ (false = false → (X) = X) ∧ (false = true → qK X (X) i ∧ lsR (hL Z q (a) (b) (g) (d)) q (X) (i + 157) 41))) ∧ (¬ ((2 ≤ ((3 : Int)) ∧ ((3 : Int)) < 5) ∧ 0 ≤ (d) ∧ (d) < 2 ∧ (d) < X (i + 3) ((3 : Int))) → (wcK R (R) i ∧ false = lgOk Z q (a) (b) (g) (d) ∧ (false = false → (X) = X) ∧ (false = true → qK X (X) i ∧ lsR (hL Z q (a) (b) (g) (d)) q (X) (i + 157) 41)))))))))
set_option maxHeartbeats 4000000 in
set_option maxRecDepth 100000 in
theorem w_X10_survey {l : Launch} {D : va_G} {cy : Nat → ClassId} {bs N : Nat} {sa : Nat → Nat} {kd len : Nat → Nat} {X Y : Nat → Int → Int} {R : Nat → Int → Option Nat} {i : Nat} {Z : Nat → Int → Int} {q : Nat} (hC : zWC N kd len R i) (a : Int) (ha : rI a) (b : Int) (hb : rI b) (g : Int) (hg : rI g) (d : Int) (hd : rI d) (hF : F_X10_survey i Z q X Y R a b g d) : Met l yX10_survey (.code yX10_survey cX10_survey 9 (some .boolean) :: zTB) (zRm 5 156) (zPc D cy bs sa N kd len X Y R [.ref (bs + (i)), .int (zI (a)), .int (zI (b)), .int (zI (g)), .int (zI (d))]) (zQi D cy bs N kd len (fun r st => ∃ rb : Bool, r = bz rb ∧ (wcK R (st.2.2) i ∧ rb = lgOk Z q (a) (b) (g) (d) ∧ (rb = false → (st.1) = X) ∧ (rb = true → qK X (st.1) i ∧ lsR (hL Z q (a) (b) (g) (d)) q (st.1) (i + 157) 41)))) 0 0 (zA bs) := by
  refine zstart (by decide) (Nat.le_of_ble_eq_true rfl) ?_
  intro p e s m args below meth c ls C hE hH hr hlk hnm hl hargs
  have hF := hF hH.2.2.1 hH.2.2.2
  have hS : va_S (zA bs) s.heap s.heap [] := va_S.rf
  have hl : lv_has ls 9 [(0, .ref (bs + (i))), (1, .int (zI (a))), (2, .int (zI (b))), (3, .int (zI (g))), (4, .int (zI (d)))] := hl
  refine lv_aload_n C.1 C.2.1 dX10_survey_0 rfl (lv_at hl 0 rfl) ?_
  refine zg10_0 C hH (zW_n hC) (zW_k hC) q_569 (zW_td hC).1 dX10_survey_1 ?_
  refine lv_iload_n C.1 C.2.1 dX10_survey_4 rfl (lv_at hl 1 rfl) ?_
  refine zgor (zrunV (As := [.int (zI (a))]) (rest := []) C hE hH hS hl.1 (c_X9_netAt (l := l) (zW_td hC).2 (a) ha) k_RX10_110 ⟨Nat.le_of_ble_eq_true rfl, Nat.le_of_ble_eq_true rfl⟩ (zTold_n0 (zW_td hC).2.1) (zTold_k0 (zW_td hC).2.1) rfl rfl rfl (Nat.le_of_ble_eq_true rfl) dX10_survey_5 ⟨Nat.zero_le _, Nat.zero_le _⟩) hS (fun rq Xq Yq Rq H locs hq hH hS => ?_)
  obtain ⟨h92, h91⟩ := hq
  have h93 : Xq = X := congrArg (fun z => z.1) h92
  have h94 : Yq = Y := congrArg (fun z => z.2.1) h92
  have h95 : Rq = R := congrArg (fun z => z.2.2) h92
  rw [h93, h94, h95] at hH
  rw [h91]
  by_cases c1 : 0 ≤ (a) ∧ (a) < 2 ∧ (a) < X (i + 3) 0
  · rw [if_pos c1]
    have hF := hF.1 c1
    refine lv_astore (lv' := [(5, .ref (bs + (i + 7 + 8 * (a : Int).toNat))), (0, .ref (bs + (i))), (1, .int (zI (a))), (2, .int (zI (b))), (3, .int (zI (g))), (4, .int (zI (d)))]) C.1 C.2.1 dX10_survey_8 hl (by decide) rfl (fun ls hl => ?_)
    refine lv_aload_n C.1 C.2.1 dX10_survey_10 rfl (lv_at hl 1 rfl) ?_
    refine zg10_0 C hH (zW_n hC) (zW_k hC) q_569 (zW_td hC).1 dX10_survey_11 ?_
    refine lv_iload_n C.1 C.2.1 dX10_survey_14 rfl (lv_at hl 3 rfl) ?_
    refine zgor (zrunV (As := [.int (zI (b))]) (rest := []) C hE hH hS hl.1 (c_X9_blocksAt (l := l) (zW_td hC).2 (b) hb) k_RX10_144 ⟨Nat.le_of_ble_eq_true rfl, Nat.le_of_ble_eq_true rfl⟩ (zTold_n0 (zW_td hC).2.1) (zTold_k0 (zW_td hC).2.1) rfl rfl rfl (Nat.le_of_ble_eq_true rfl) dX10_survey_15 ⟨Nat.zero_le _, Nat.zero_le _⟩) hS (fun rq Xq Yq Rq H locs hq hH hS => ?_)
    obtain ⟨h92, h91⟩ := hq
    have h93 : Xq = X := congrArg (fun z => z.1) h92
    have h94 : Yq = Y := congrArg (fun z => z.2.1) h92
    have h95 : Rq = R := congrArg (fun z => z.2.2) h92
    rw [h93, h94, h95] at hH
    rw [h91]
    by_cases c2 : 0 ≤ (b) ∧ (b) < 2 ∧ (b) < X (i + 3) 1
    · rw [if_pos c2]
      have hF := hF.1 c2
      refine lv_astore (lv' := [(6, .ref (bs + (i + 9 + 8 * (b : Int).toNat))), (5, .ref (bs + (i + 7 + 8 * (a : Int).toNat))), (0, .ref (bs + (i))), (1, .int (zI (a))), (2, .int (zI (b))), (3, .int (zI (g))), (4, .int (zI (d)))]) C.1 C.2.1 dX10_survey_18 hl (by decide) rfl (fun ls hl => ?_)
      refine lv_aload_n C.1 C.2.1 dX10_survey_20 rfl (lv_at hl 2 rfl) ?_
      refine zg10_0 C hH (zW_n hC) (zW_k hC) q_569 (zW_td hC).1 dX10_survey_21 ?_
      refine zd_iconst C dX10_survey_24 ?_
      refine lv_iload_n C.1 C.2.1 dX10_survey_25 rfl (lv_at hl 5 rfl) ?_
      refine zgor (zrunV (As := [.int (zI (2)), .int (zI (g))]) (rest := []) C hE hH hS hl.1 (c_X9_rowsAt (l := l) (zW_td hC).2 (2) (by decide) (g) hg) k_RX10_176 ⟨Nat.le_of_ble_eq_true rfl, Nat.le_of_ble_eq_true rfl⟩ (zTold_n0 (zW_td hC).2.1) (zTold_k0 (zW_td hC).2.1) rfl rfl rfl (Nat.le_of_ble_eq_true rfl) dX10_survey_26 ⟨Nat.zero_le _, Nat.zero_le _⟩) hS (fun rq Xq Yq Rq H locs hq hH hS => ?_)
      obtain ⟨h92, h91⟩ := hq
      have h93 : Xq = X := congrArg (fun z => z.1) h92
      have h94 : Yq = Y := congrArg (fun z => z.2.1) h92
      have h95 : Rq = R := congrArg (fun z => z.2.2) h92
      rw [h93, h94, h95] at hH
      rw [h91]
      by_cases c3 : (2 ≤ ((2 : Int)) ∧ ((2 : Int)) < 5) ∧ 0 ≤ (g) ∧ (g) < 2 ∧ (g) < X (i + 3) ((2 : Int))
      · rw [if_pos c3]
        have hF := hF.1 c3
        refine lv_astore (lv' := [(7, .ref (bs + (i + 23 + 2 * (((2 - 2) * 2 + g) : Int).toNat))), (6, .ref (bs + (i + 9 + 8 * (b : Int).toNat))), (5, .ref (bs + (i + 7 + 8 * (a : Int).toNat))), (0, .ref (bs + (i))), (1, .int (zI (a))), (2, .int (zI (b))), (3, .int (zI (g))), (4, .int (zI (d)))]) C.1 C.2.1 dX10_survey_29 hl (by decide) rfl (fun ls hl => ?_)
        refine lv_aload_n C.1 C.2.1 dX10_survey_31 rfl (lv_at hl 3 rfl) ?_
        refine zg10_0 C hH (zW_n hC) (zW_k hC) q_569 (zW_td hC).1 dX10_survey_32 ?_
        refine zd_iconst C dX10_survey_35 ?_
        refine lv_iload C.1 C.2.1 dX10_survey_36 (lv_at hl 7 rfl) ?_
        refine zgor (zrunV (As := [.int (zI (3)), .int (zI (d))]) (rest := []) C hE hH hS hl.1 (c_X9_rowsAt (l := l) (zW_td hC).2 (3) (by decide) (d) hd) k_RX10_176 ⟨Nat.le_of_ble_eq_true rfl, Nat.le_of_ble_eq_true rfl⟩ (zTold_n0 (zW_td hC).2.1) (zTold_k0 (zW_td hC).2.1) rfl rfl rfl (Nat.le_of_ble_eq_true rfl) dX10_survey_38 ⟨Nat.zero_le _, Nat.zero_le _⟩) hS (fun rq Xq Yq Rq H locs hq hH hS => ?_)
        obtain ⟨h92, h91⟩ := hq
        have h93 : Xq = X := congrArg (fun z => z.1) h92
        have h94 : Yq = Y := congrArg (fun z => z.2.1) h92
        have h95 : Rq = R := congrArg (fun z => z.2.2) h92
        rw [h93, h94, h95] at hH
        rw [h91]
        by_cases c4 : (2 ≤ ((3 : Int)) ∧ ((3 : Int)) < 5) ∧ 0 ≤ (d) ∧ (d) < 2 ∧ (d) < X (i + 3) ((3 : Int))
        · rw [if_pos c4]
          have hF := hF.1 c4
          refine lv_astore (lv' := [(8, .ref (bs + (i + 23 + 2 * (((3 - 2) * 2 + d) : Int).toNat))), (7, .ref (bs + (i + 23 + 2 * (((2 - 2) * 2 + g) : Int).toNat))), (6, .ref (bs + (i + 9 + 8 * (b : Int).toNat))), (5, .ref (bs + (i + 7 + 8 * (a : Int).toNat))), (0, .ref (bs + (i))), (1, .int (zI (a))), (2, .int (zI (b))), (3, .int (zI (g))), (4, .int (zI (d)))]) C.1 C.2.1 dX10_survey_41 hl (by decide) rfl (fun ls hl => ?_)
          refine lv_aload C.1 C.2.1 dX10_survey_43 (lv_at hl 3 rfl) ?_
          refine lv_ifnull C.1 C.2.1 dX10_survey_45 ?_
          refine lv_aload C.1 C.2.1 dX10_survey_48 (lv_at hl 2 rfl) ?_
          refine lv_ifnull C.1 C.2.1 dX10_survey_50 ?_
          refine lv_aload C.1 C.2.1 dX10_survey_53 (lv_at hl 1 rfl) ?_
          refine lv_ifnull C.1 C.2.1 dX10_survey_55 ?_
          refine lv_aload C.1 C.2.1 dX10_survey_58 (lv_at hl 0 rfl) ?_
          refine lv_ifnonnull (tgt := 65) C.1 C.2.1 dX10_survey_60 (by decide) ?_
          refine lv_aload_n C.1 C.2.1 dX10_survey_65 rfl (lv_at hl 4 rfl) ?_
          refine zg10_6 C hH (zW_n hC) (zW_k hC) q_575 (zW_lw hC).2.2.1 dX10_survey_66 ?_
          refine lv_aload C.1 C.2.1 dX10_survey_69 (lv_at hl 3 rfl) ?_
          refine lv_aload C.1 C.2.1 dX10_survey_71 (lv_at hl 2 rfl) ?_
          refine lv_aload C.1 C.2.1 dX10_survey_73 (lv_at hl 1 rfl) ?_
          refine lv_aload C.1 C.2.1 dX10_survey_75 (lv_at hl 0 rfl) ?_
          obtain ⟨o5, hF⟩ := hF
          refine zgov (zrunV (As := [.ref (bs + (i + 7 + 8 * (a : Int).toNat)), .ref (bs + (i + 9 + 8 * (b : Int).toNat)), .ref (bs + (i + 23 + 2 * (((2 - 2) * 2 + g) : Int).toNat)), .ref (bs + (i + 23 + 2 * (((3 - 2) * 2 + d) : Int).toNat))]) (rest := []) C hE hH hS hl.1 (c_X4_survey (l := l) ⟨(zW_lw hC).2.2.2, (zTd_nb (zW_td hC).2 c1.1 c1.2.1).1.2, (zTd_nb (zW_td hC).2 c2.1 c2.2.1).2.2, (zTd_rw (zW_td hC).2 (rix_0 c3) (rix_1 c3)).1.2, (zTd_rw (zW_td hC).2 (rix_0 c4) (rix_1 c4)).1.2⟩ (zTd_rw (zW_td hC).2 (rix_0 c3) (rix_1 c3)).2 (zTd_rw (zW_td hC).2 (rix_0 c4) (rix_1 c4)).2  o5) k_RX10_451 ⟨Nat.le_of_ble_eq_true rfl, Nat.le_of_ble_eq_true rfl⟩ (zLw_n0 (zW_lw hC).2.2.2) (zLw_k0 (zW_lw hC).2.2.2) rfl rfl rfl (Nat.le_of_ble_eq_true rfl) dX10_survey_77 ⟨Nat.zero_le _, Nat.zero_le _⟩) hS (fun X6 Y7 R8 H locs hq hH hS => ?_)
          have hF := hF X6 hH.2.2.1 Y7 hH.2.2.2 R8 hq
          refine zd_iconst C dX10_survey_80 ?_
          exact zd_zret C hr hlk hH hS (by decide) (⟨_, rfl, hF⟩) dX10_survey_81
        · rw [if_neg c4]
          have hF := hF.2 c4
          refine lv_astoreN (lv' := [(8, .null), (7, .ref (bs + (i + 23 + 2 * (((2 - 2) * 2 + g) : Int).toNat))), (6, .ref (bs + (i + 9 + 8 * (b : Int).toNat))), (5, .ref (bs + (i + 7 + 8 * (a : Int).toNat))), (0, .ref (bs + (i))), (1, .int (zI (a))), (2, .int (zI (b))), (3, .int (zI (g))), (4, .int (zI (d)))]) C.1 C.2.1 dX10_survey_41 hl (by decide) rfl (fun ls hl => ?_)
          refine lv_aload C.1 C.2.1 dX10_survey_43 (lv_at hl 3 rfl) ?_
          refine lv_ifnull C.1 C.2.1 dX10_survey_45 ?_
          refine lv_aload C.1 C.2.1 dX10_survey_48 (lv_at hl 2 rfl) ?_
          refine lv_ifnull C.1 C.2.1 dX10_survey_50 ?_
          refine lv_aload C.1 C.2.1 dX10_survey_53 (lv_at hl 1 rfl) ?_
          refine lv_ifnull C.1 C.2.1 dX10_survey_55 ?_
          refine lv_aloadN C.1 C.2.1 dX10_survey_58 (lv_at hl 0 rfl) ?_
          refine lv_ifnonnullN C.1 C.2.1 dX10_survey_60 ?_
          refine zd_iconst C dX10_survey_63 ?_
          exact zd_zret C hr hlk hH hS (by decide) (⟨_, rfl, hF⟩) dX10_survey_64
      · rw [if_neg c3]
        have hF := hF.2 c3
        refine lv_astoreN (lv' := [(7, .null), (6, .ref (bs + (i + 9 + 8 * (b : Int).toNat))), (5, .ref (bs + (i + 7 + 8 * (a : Int).toNat))), (0, .ref (bs + (i))), (1, .int (zI (a))), (2, .int (zI (b))), (3, .int (zI (g))), (4, .int (zI (d)))]) C.1 C.2.1 dX10_survey_29 hl (by decide) rfl (fun ls hl => ?_)
        refine lv_aload_n C.1 C.2.1 dX10_survey_31 rfl (lv_at hl 3 rfl) ?_
        refine zg10_0 C hH (zW_n hC) (zW_k hC) q_569 (zW_td hC).1 dX10_survey_32 ?_
        refine zd_iconst C dX10_survey_35 ?_
        refine lv_iload C.1 C.2.1 dX10_survey_36 (lv_at hl 7 rfl) ?_
        refine zgor (zrunV (As := [.int (zI (3)), .int (zI (d))]) (rest := []) C hE hH hS hl.1 (c_X9_rowsAt (l := l) (zW_td hC).2 (3) (by decide) (d) hd) k_RX10_176 ⟨Nat.le_of_ble_eq_true rfl, Nat.le_of_ble_eq_true rfl⟩ (zTold_n0 (zW_td hC).2.1) (zTold_k0 (zW_td hC).2.1) rfl rfl rfl (Nat.le_of_ble_eq_true rfl) dX10_survey_38 ⟨Nat.zero_le _, Nat.zero_le _⟩) hS (fun rq Xq Yq Rq H locs hq hH hS => ?_)
        obtain ⟨h92, h91⟩ := hq
        have h93 : Xq = X := congrArg (fun z => z.1) h92
        have h94 : Yq = Y := congrArg (fun z => z.2.1) h92
        have h95 : Rq = R := congrArg (fun z => z.2.2) h92
        rw [h93, h94, h95] at hH
        rw [h91]
        by_cases c9 : (2 ≤ ((3 : Int)) ∧ ((3 : Int)) < 5) ∧ 0 ≤ (d) ∧ (d) < 2 ∧ (d) < X (i + 3) ((3 : Int))
        · rw [if_pos c9]
          have hF := hF.1 c9
          refine lv_astore (lv' := [(8, .ref (bs + (i + 23 + 2 * (((3 - 2) * 2 + d) : Int).toNat))), (7, .null), (6, .ref (bs + (i + 9 + 8 * (b : Int).toNat))), (5, .ref (bs + (i + 7 + 8 * (a : Int).toNat))), (0, .ref (bs + (i))), (1, .int (zI (a))), (2, .int (zI (b))), (3, .int (zI (g))), (4, .int (zI (d)))]) C.1 C.2.1 dX10_survey_41 hl (by decide) rfl (fun ls hl => ?_)
          refine lv_aload C.1 C.2.1 dX10_survey_43 (lv_at hl 3 rfl) ?_
          refine lv_ifnull C.1 C.2.1 dX10_survey_45 ?_
          refine lv_aload C.1 C.2.1 dX10_survey_48 (lv_at hl 2 rfl) ?_
          refine lv_ifnull C.1 C.2.1 dX10_survey_50 ?_
          refine lv_aloadN C.1 C.2.1 dX10_survey_53 (lv_at hl 1 rfl) ?_
          refine lv_ifnullN (tgt := 63) C.1 C.2.1 dX10_survey_55 (by decide) ?_
          refine zd_iconst C dX10_survey_63 ?_
          exact zd_zret C hr hlk hH hS (by decide) (⟨_, rfl, hF⟩) dX10_survey_64
        · rw [if_neg c9]
          have hF := hF.2 c9
          refine lv_astoreN (lv' := [(8, .null), (7, .null), (6, .ref (bs + (i + 9 + 8 * (b : Int).toNat))), (5, .ref (bs + (i + 7 + 8 * (a : Int).toNat))), (0, .ref (bs + (i))), (1, .int (zI (a))), (2, .int (zI (b))), (3, .int (zI (g))), (4, .int (zI (d)))]) C.1 C.2.1 dX10_survey_41 hl (by decide) rfl (fun ls hl => ?_)
          refine lv_aload C.1 C.2.1 dX10_survey_43 (lv_at hl 3 rfl) ?_
          refine lv_ifnull C.1 C.2.1 dX10_survey_45 ?_
          refine lv_aload C.1 C.2.1 dX10_survey_48 (lv_at hl 2 rfl) ?_
          refine lv_ifnull C.1 C.2.1 dX10_survey_50 ?_
          refine lv_aloadN C.1 C.2.1 dX10_survey_53 (lv_at hl 1 rfl) ?_
          refine lv_ifnullN (tgt := 63) C.1 C.2.1 dX10_survey_55 (by decide) ?_
          refine zd_iconst C dX10_survey_63 ?_
          exact zd_zret C hr hlk hH hS (by decide) (⟨_, rfl, hF⟩) dX10_survey_64
    · rw [if_neg c2]
      have hF := hF.2 c2
      refine lv_astoreN (lv' := [(6, .null), (5, .ref (bs + (i + 7 + 8 * (a : Int).toNat))), (0, .ref (bs + (i))), (1, .int (zI (a))), (2, .int (zI (b))), (3, .int (zI (g))), (4, .int (zI (d)))]) C.1 C.2.1 dX10_survey_18 hl (by decide) rfl (fun ls hl => ?_)
      refine lv_aload_n C.1 C.2.1 dX10_survey_20 rfl (lv_at hl 2 rfl) ?_
      refine zg10_0 C hH (zW_n hC) (zW_k hC) q_569 (zW_td hC).1 dX10_survey_21 ?_
      refine zd_iconst C dX10_survey_24 ?_
      refine lv_iload_n C.1 C.2.1 dX10_survey_25 rfl (lv_at hl 5 rfl) ?_
      refine zgor (zrunV (As := [.int (zI (2)), .int (zI (g))]) (rest := []) C hE hH hS hl.1 (c_X9_rowsAt (l := l) (zW_td hC).2 (2) (by decide) (g) hg) k_RX10_176 ⟨Nat.le_of_ble_eq_true rfl, Nat.le_of_ble_eq_true rfl⟩ (zTold_n0 (zW_td hC).2.1) (zTold_k0 (zW_td hC).2.1) rfl rfl rfl (Nat.le_of_ble_eq_true rfl) dX10_survey_26 ⟨Nat.zero_le _, Nat.zero_le _⟩) hS (fun rq Xq Yq Rq H locs hq hH hS => ?_)
      obtain ⟨h92, h91⟩ := hq
      have h93 : Xq = X := congrArg (fun z => z.1) h92
      have h94 : Yq = Y := congrArg (fun z => z.2.1) h92
      have h95 : Rq = R := congrArg (fun z => z.2.2) h92
      rw [h93, h94, h95] at hH
      rw [h91]
      by_cases c10 : (2 ≤ ((2 : Int)) ∧ ((2 : Int)) < 5) ∧ 0 ≤ (g) ∧ (g) < 2 ∧ (g) < X (i + 3) ((2 : Int))
      · rw [if_pos c10]
        have hF := hF.1 c10
        refine lv_astore (lv' := [(7, .ref (bs + (i + 23 + 2 * (((2 - 2) * 2 + g) : Int).toNat))), (6, .null), (5, .ref (bs + (i + 7 + 8 * (a : Int).toNat))), (0, .ref (bs + (i))), (1, .int (zI (a))), (2, .int (zI (b))), (3, .int (zI (g))), (4, .int (zI (d)))]) C.1 C.2.1 dX10_survey_29 hl (by decide) rfl (fun ls hl => ?_)
        refine lv_aload_n C.1 C.2.1 dX10_survey_31 rfl (lv_at hl 3 rfl) ?_
        refine zg10_0 C hH (zW_n hC) (zW_k hC) q_569 (zW_td hC).1 dX10_survey_32 ?_
        refine zd_iconst C dX10_survey_35 ?_
        refine lv_iload C.1 C.2.1 dX10_survey_36 (lv_at hl 7 rfl) ?_
        refine zgor (zrunV (As := [.int (zI (3)), .int (zI (d))]) (rest := []) C hE hH hS hl.1 (c_X9_rowsAt (l := l) (zW_td hC).2 (3) (by decide) (d) hd) k_RX10_176 ⟨Nat.le_of_ble_eq_true rfl, Nat.le_of_ble_eq_true rfl⟩ (zTold_n0 (zW_td hC).2.1) (zTold_k0 (zW_td hC).2.1) rfl rfl rfl (Nat.le_of_ble_eq_true rfl) dX10_survey_38 ⟨Nat.zero_le _, Nat.zero_le _⟩) hS (fun rq Xq Yq Rq H locs hq hH hS => ?_)
        obtain ⟨h92, h91⟩ := hq
        have h93 : Xq = X := congrArg (fun z => z.1) h92
        have h94 : Yq = Y := congrArg (fun z => z.2.1) h92
        have h95 : Rq = R := congrArg (fun z => z.2.2) h92
        rw [h93, h94, h95] at hH
        rw [h91]
        by_cases c11 : (2 ≤ ((3 : Int)) ∧ ((3 : Int)) < 5) ∧ 0 ≤ (d) ∧ (d) < 2 ∧ (d) < X (i + 3) ((3 : Int))
        · rw [if_pos c11]
          have hF := hF.1 c11
          refine lv_astore (lv' := [(8, .ref (bs + (i + 23 + 2 * (((3 - 2) * 2 + d) : Int).toNat))), (7, .ref (bs + (i + 23 + 2 * (((2 - 2) * 2 + g) : Int).toNat))), (6, .null), (5, .ref (bs + (i + 7 + 8 * (a : Int).toNat))), (0, .ref (bs + (i))), (1, .int (zI (a))), (2, .int (zI (b))), (3, .int (zI (g))), (4, .int (zI (d)))]) C.1 C.2.1 dX10_survey_41 hl (by decide) rfl (fun ls hl => ?_)
          refine lv_aload C.1 C.2.1 dX10_survey_43 (lv_at hl 3 rfl) ?_
          refine lv_ifnull C.1 C.2.1 dX10_survey_45 ?_
          refine lv_aloadN C.1 C.2.1 dX10_survey_48 (lv_at hl 2 rfl) ?_
          refine lv_ifnullN (tgt := 63) C.1 C.2.1 dX10_survey_50 (by decide) ?_
          refine zd_iconst C dX10_survey_63 ?_
          exact zd_zret C hr hlk hH hS (by decide) (⟨_, rfl, hF⟩) dX10_survey_64
        · rw [if_neg c11]
          have hF := hF.2 c11
          refine lv_astoreN (lv' := [(8, .null), (7, .ref (bs + (i + 23 + 2 * (((2 - 2) * 2 + g) : Int).toNat))), (6, .null), (5, .ref (bs + (i + 7 + 8 * (a : Int).toNat))), (0, .ref (bs + (i))), (1, .int (zI (a))), (2, .int (zI (b))), (3, .int (zI (g))), (4, .int (zI (d)))]) C.1 C.2.1 dX10_survey_41 hl (by decide) rfl (fun ls hl => ?_)
          refine lv_aload C.1 C.2.1 dX10_survey_43 (lv_at hl 3 rfl) ?_
          refine lv_ifnull C.1 C.2.1 dX10_survey_45 ?_
          refine lv_aloadN C.1 C.2.1 dX10_survey_48 (lv_at hl 2 rfl) ?_
          refine lv_ifnullN (tgt := 63) C.1 C.2.1 dX10_survey_50 (by decide) ?_
          refine zd_iconst C dX10_survey_63 ?_
          exact zd_zret C hr hlk hH hS (by decide) (⟨_, rfl, hF⟩) dX10_survey_64
      · rw [if_neg c10]
        have hF := hF.2 c10
        refine lv_astoreN (lv' := [(7, .null), (6, .null), (5, .ref (bs + (i + 7 + 8 * (a : Int).toNat))), (0, .ref (bs + (i))), (1, .int (zI (a))), (2, .int (zI (b))), (3, .int (zI (g))), (4, .int (zI (d)))]) C.1 C.2.1 dX10_survey_29 hl (by decide) rfl (fun ls hl => ?_)
        refine lv_aload_n C.1 C.2.1 dX10_survey_31 rfl (lv_at hl 3 rfl) ?_
        refine zg10_0 C hH (zW_n hC) (zW_k hC) q_569 (zW_td hC).1 dX10_survey_32 ?_
        refine zd_iconst C dX10_survey_35 ?_
        refine lv_iload C.1 C.2.1 dX10_survey_36 (lv_at hl 7 rfl) ?_
        refine zgor (zrunV (As := [.int (zI (3)), .int (zI (d))]) (rest := []) C hE hH hS hl.1 (c_X9_rowsAt (l := l) (zW_td hC).2 (3) (by decide) (d) hd) k_RX10_176 ⟨Nat.le_of_ble_eq_true rfl, Nat.le_of_ble_eq_true rfl⟩ (zTold_n0 (zW_td hC).2.1) (zTold_k0 (zW_td hC).2.1) rfl rfl rfl (Nat.le_of_ble_eq_true rfl) dX10_survey_38 ⟨Nat.zero_le _, Nat.zero_le _⟩) hS (fun rq Xq Yq Rq H locs hq hH hS => ?_)
        obtain ⟨h92, h91⟩ := hq
        have h93 : Xq = X := congrArg (fun z => z.1) h92
        have h94 : Yq = Y := congrArg (fun z => z.2.1) h92
        have h95 : Rq = R := congrArg (fun z => z.2.2) h92
        rw [h93, h94, h95] at hH
        rw [h91]
        by_cases c12 : (2 ≤ ((3 : Int)) ∧ ((3 : Int)) < 5) ∧ 0 ≤ (d) ∧ (d) < 2 ∧ (d) < X (i + 3) ((3 : Int))
        · rw [if_pos c12]
          have hF := hF.1 c12
          refine lv_astore (lv' := [(8, .ref (bs + (i + 23 + 2 * (((3 - 2) * 2 + d) : Int).toNat))), (7, .null), (6, .null), (5, .ref (bs + (i + 7 + 8 * (a : Int).toNat))), (0, .ref (bs + (i))), (1, .int (zI (a))), (2, .int (zI (b))), (3, .int (zI (g))), (4, .int (zI (d)))]) C.1 C.2.1 dX10_survey_41 hl (by decide) rfl (fun ls hl => ?_)
          refine lv_aload C.1 C.2.1 dX10_survey_43 (lv_at hl 3 rfl) ?_
          refine lv_ifnull C.1 C.2.1 dX10_survey_45 ?_
          refine lv_aloadN C.1 C.2.1 dX10_survey_48 (lv_at hl 2 rfl) ?_
          refine lv_ifnullN (tgt := 63) C.1 C.2.1 dX10_survey_50 (by decide) ?_
          refine zd_iconst C dX10_survey_63 ?_
          exact zd_zret C hr hlk hH hS (by decide) (⟨_, rfl, hF⟩) dX10_survey_64
        · rw [if_neg c12]
          have hF := hF.2 c12
          refine lv_astoreN (lv' := [(8, .null), (7, .null), (6, .null), (5, .ref (bs + (i + 7 + 8 * (a : Int).toNat))), (0, .ref (bs + (i))), (1, .int (zI (a))), (2, .int (zI (b))), (3, .int (zI (g))), (4, .int (zI (d)))]) C.1 C.2.1 dX10_survey_41 hl (by decide) rfl (fun ls hl => ?_)
          refine lv_aload C.1 C.2.1 dX10_survey_43 (lv_at hl 3 rfl) ?_
          refine lv_ifnull C.1 C.2.1 dX10_survey_45 ?_
          refine lv_aloadN C.1 C.2.1 dX10_survey_48 (lv_at hl 2 rfl) ?_
          refine lv_ifnullN (tgt := 63) C.1 C.2.1 dX10_survey_50 (by decide) ?_
          refine zd_iconst C dX10_survey_63 ?_
          exact zd_zret C hr hlk hH hS (by decide) (⟨_, rfl, hF⟩) dX10_survey_64
  · rw [if_neg c1]
    have hF := hF.2 c1
    refine lv_astoreN (lv' := [(5, .null), (0, .ref (bs + (i))), (1, .int (zI (a))), (2, .int (zI (b))), (3, .int (zI (g))), (4, .int (zI (d)))]) C.1 C.2.1 dX10_survey_8 hl (by decide) rfl (fun ls hl => ?_)
    refine lv_aload_n C.1 C.2.1 dX10_survey_10 rfl (lv_at hl 1 rfl) ?_
    refine zg10_0 C hH (zW_n hC) (zW_k hC) q_569 (zW_td hC).1 dX10_survey_11 ?_
    refine lv_iload_n C.1 C.2.1 dX10_survey_14 rfl (lv_at hl 3 rfl) ?_
    refine zgor (zrunV (As := [.int (zI (b))]) (rest := []) C hE hH hS hl.1 (c_X9_blocksAt (l := l) (zW_td hC).2 (b) hb) k_RX10_144 ⟨Nat.le_of_ble_eq_true rfl, Nat.le_of_ble_eq_true rfl⟩ (zTold_n0 (zW_td hC).2.1) (zTold_k0 (zW_td hC).2.1) rfl rfl rfl (Nat.le_of_ble_eq_true rfl) dX10_survey_15 ⟨Nat.zero_le _, Nat.zero_le _⟩) hS (fun rq Xq Yq Rq H locs hq hH hS => ?_)
    obtain ⟨h92, h91⟩ := hq
    have h93 : Xq = X := congrArg (fun z => z.1) h92
    have h94 : Yq = Y := congrArg (fun z => z.2.1) h92
    have h95 : Rq = R := congrArg (fun z => z.2.2) h92
    rw [h93, h94, h95] at hH
    rw [h91]
    by_cases c13 : 0 ≤ (b) ∧ (b) < 2 ∧ (b) < X (i + 3) 1
    · rw [if_pos c13]
      have hF := hF.1 c13
      refine lv_astore (lv' := [(6, .ref (bs + (i + 9 + 8 * (b : Int).toNat))), (5, .null), (0, .ref (bs + (i))), (1, .int (zI (a))), (2, .int (zI (b))), (3, .int (zI (g))), (4, .int (zI (d)))]) C.1 C.2.1 dX10_survey_18 hl (by decide) rfl (fun ls hl => ?_)
      refine lv_aload_n C.1 C.2.1 dX10_survey_20 rfl (lv_at hl 2 rfl) ?_
      refine zg10_0 C hH (zW_n hC) (zW_k hC) q_569 (zW_td hC).1 dX10_survey_21 ?_
      refine zd_iconst C dX10_survey_24 ?_
      refine lv_iload_n C.1 C.2.1 dX10_survey_25 rfl (lv_at hl 5 rfl) ?_
      refine zgor (zrunV (As := [.int (zI (2)), .int (zI (g))]) (rest := []) C hE hH hS hl.1 (c_X9_rowsAt (l := l) (zW_td hC).2 (2) (by decide) (g) hg) k_RX10_176 ⟨Nat.le_of_ble_eq_true rfl, Nat.le_of_ble_eq_true rfl⟩ (zTold_n0 (zW_td hC).2.1) (zTold_k0 (zW_td hC).2.1) rfl rfl rfl (Nat.le_of_ble_eq_true rfl) dX10_survey_26 ⟨Nat.zero_le _, Nat.zero_le _⟩) hS (fun rq Xq Yq Rq H locs hq hH hS => ?_)
      obtain ⟨h92, h91⟩ := hq
      have h93 : Xq = X := congrArg (fun z => z.1) h92
      have h94 : Yq = Y := congrArg (fun z => z.2.1) h92
      have h95 : Rq = R := congrArg (fun z => z.2.2) h92
      rw [h93, h94, h95] at hH
      rw [h91]
      by_cases c14 : (2 ≤ ((2 : Int)) ∧ ((2 : Int)) < 5) ∧ 0 ≤ (g) ∧ (g) < 2 ∧ (g) < X (i + 3) ((2 : Int))
      · rw [if_pos c14]
        have hF := hF.1 c14
        refine lv_astore (lv' := [(7, .ref (bs + (i + 23 + 2 * (((2 - 2) * 2 + g) : Int).toNat))), (6, .ref (bs + (i + 9 + 8 * (b : Int).toNat))), (5, .null), (0, .ref (bs + (i))), (1, .int (zI (a))), (2, .int (zI (b))), (3, .int (zI (g))), (4, .int (zI (d)))]) C.1 C.2.1 dX10_survey_29 hl (by decide) rfl (fun ls hl => ?_)
        refine lv_aload_n C.1 C.2.1 dX10_survey_31 rfl (lv_at hl 3 rfl) ?_
        refine zg10_0 C hH (zW_n hC) (zW_k hC) q_569 (zW_td hC).1 dX10_survey_32 ?_
        refine zd_iconst C dX10_survey_35 ?_
        refine lv_iload C.1 C.2.1 dX10_survey_36 (lv_at hl 7 rfl) ?_
        refine zgor (zrunV (As := [.int (zI (3)), .int (zI (d))]) (rest := []) C hE hH hS hl.1 (c_X9_rowsAt (l := l) (zW_td hC).2 (3) (by decide) (d) hd) k_RX10_176 ⟨Nat.le_of_ble_eq_true rfl, Nat.le_of_ble_eq_true rfl⟩ (zTold_n0 (zW_td hC).2.1) (zTold_k0 (zW_td hC).2.1) rfl rfl rfl (Nat.le_of_ble_eq_true rfl) dX10_survey_38 ⟨Nat.zero_le _, Nat.zero_le _⟩) hS (fun rq Xq Yq Rq H locs hq hH hS => ?_)
        obtain ⟨h92, h91⟩ := hq
        have h93 : Xq = X := congrArg (fun z => z.1) h92
        have h94 : Yq = Y := congrArg (fun z => z.2.1) h92
        have h95 : Rq = R := congrArg (fun z => z.2.2) h92
        rw [h93, h94, h95] at hH
        rw [h91]
        by_cases c15 : (2 ≤ ((3 : Int)) ∧ ((3 : Int)) < 5) ∧ 0 ≤ (d) ∧ (d) < 2 ∧ (d) < X (i + 3) ((3 : Int))
        · rw [if_pos c15]
          have hF := hF.1 c15
          refine lv_astore (lv' := [(8, .ref (bs + (i + 23 + 2 * (((3 - 2) * 2 + d) : Int).toNat))), (7, .ref (bs + (i + 23 + 2 * (((2 - 2) * 2 + g) : Int).toNat))), (6, .ref (bs + (i + 9 + 8 * (b : Int).toNat))), (5, .null), (0, .ref (bs + (i))), (1, .int (zI (a))), (2, .int (zI (b))), (3, .int (zI (g))), (4, .int (zI (d)))]) C.1 C.2.1 dX10_survey_41 hl (by decide) rfl (fun ls hl => ?_)
          refine lv_aloadN C.1 C.2.1 dX10_survey_43 (lv_at hl 3 rfl) ?_
          refine lv_ifnullN (tgt := 63) C.1 C.2.1 dX10_survey_45 (by decide) ?_
          refine zd_iconst C dX10_survey_63 ?_
          exact zd_zret C hr hlk hH hS (by decide) (⟨_, rfl, hF⟩) dX10_survey_64
        · rw [if_neg c15]
          have hF := hF.2 c15
          refine lv_astoreN (lv' := [(8, .null), (7, .ref (bs + (i + 23 + 2 * (((2 - 2) * 2 + g) : Int).toNat))), (6, .ref (bs + (i + 9 + 8 * (b : Int).toNat))), (5, .null), (0, .ref (bs + (i))), (1, .int (zI (a))), (2, .int (zI (b))), (3, .int (zI (g))), (4, .int (zI (d)))]) C.1 C.2.1 dX10_survey_41 hl (by decide) rfl (fun ls hl => ?_)
          refine lv_aloadN C.1 C.2.1 dX10_survey_43 (lv_at hl 3 rfl) ?_
          refine lv_ifnullN (tgt := 63) C.1 C.2.1 dX10_survey_45 (by decide) ?_
          refine zd_iconst C dX10_survey_63 ?_
          exact zd_zret C hr hlk hH hS (by decide) (⟨_, rfl, hF⟩) dX10_survey_64
      · rw [if_neg c14]
        have hF := hF.2 c14
        refine lv_astoreN (lv' := [(7, .null), (6, .ref (bs + (i + 9 + 8 * (b : Int).toNat))), (5, .null), (0, .ref (bs + (i))), (1, .int (zI (a))), (2, .int (zI (b))), (3, .int (zI (g))), (4, .int (zI (d)))]) C.1 C.2.1 dX10_survey_29 hl (by decide) rfl (fun ls hl => ?_)
        refine lv_aload_n C.1 C.2.1 dX10_survey_31 rfl (lv_at hl 3 rfl) ?_
        refine zg10_0 C hH (zW_n hC) (zW_k hC) q_569 (zW_td hC).1 dX10_survey_32 ?_
        refine zd_iconst C dX10_survey_35 ?_
        refine lv_iload C.1 C.2.1 dX10_survey_36 (lv_at hl 7 rfl) ?_
        refine zgor (zrunV (As := [.int (zI (3)), .int (zI (d))]) (rest := []) C hE hH hS hl.1 (c_X9_rowsAt (l := l) (zW_td hC).2 (3) (by decide) (d) hd) k_RX10_176 ⟨Nat.le_of_ble_eq_true rfl, Nat.le_of_ble_eq_true rfl⟩ (zTold_n0 (zW_td hC).2.1) (zTold_k0 (zW_td hC).2.1) rfl rfl rfl (Nat.le_of_ble_eq_true rfl) dX10_survey_38 ⟨Nat.zero_le _, Nat.zero_le _⟩) hS (fun rq Xq Yq Rq H locs hq hH hS => ?_)
        obtain ⟨h92, h91⟩ := hq
        have h93 : Xq = X := congrArg (fun z => z.1) h92
        have h94 : Yq = Y := congrArg (fun z => z.2.1) h92
        have h95 : Rq = R := congrArg (fun z => z.2.2) h92
        rw [h93, h94, h95] at hH
        rw [h91]
        by_cases c16 : (2 ≤ ((3 : Int)) ∧ ((3 : Int)) < 5) ∧ 0 ≤ (d) ∧ (d) < 2 ∧ (d) < X (i + 3) ((3 : Int))
        · rw [if_pos c16]
          have hF := hF.1 c16
          refine lv_astore (lv' := [(8, .ref (bs + (i + 23 + 2 * (((3 - 2) * 2 + d) : Int).toNat))), (7, .null), (6, .ref (bs + (i + 9 + 8 * (b : Int).toNat))), (5, .null), (0, .ref (bs + (i))), (1, .int (zI (a))), (2, .int (zI (b))), (3, .int (zI (g))), (4, .int (zI (d)))]) C.1 C.2.1 dX10_survey_41 hl (by decide) rfl (fun ls hl => ?_)
          refine lv_aloadN C.1 C.2.1 dX10_survey_43 (lv_at hl 3 rfl) ?_
          refine lv_ifnullN (tgt := 63) C.1 C.2.1 dX10_survey_45 (by decide) ?_
          refine zd_iconst C dX10_survey_63 ?_
          exact zd_zret C hr hlk hH hS (by decide) (⟨_, rfl, hF⟩) dX10_survey_64
        · rw [if_neg c16]
          have hF := hF.2 c16
          refine lv_astoreN (lv' := [(8, .null), (7, .null), (6, .ref (bs + (i + 9 + 8 * (b : Int).toNat))), (5, .null), (0, .ref (bs + (i))), (1, .int (zI (a))), (2, .int (zI (b))), (3, .int (zI (g))), (4, .int (zI (d)))]) C.1 C.2.1 dX10_survey_41 hl (by decide) rfl (fun ls hl => ?_)
          refine lv_aloadN C.1 C.2.1 dX10_survey_43 (lv_at hl 3 rfl) ?_
          refine lv_ifnullN (tgt := 63) C.1 C.2.1 dX10_survey_45 (by decide) ?_
          refine zd_iconst C dX10_survey_63 ?_
          exact zd_zret C hr hlk hH hS (by decide) (⟨_, rfl, hF⟩) dX10_survey_64
    · rw [if_neg c13]
      have hF := hF.2 c13
      refine lv_astoreN (lv' := [(6, .null), (5, .null), (0, .ref (bs + (i))), (1, .int (zI (a))), (2, .int (zI (b))), (3, .int (zI (g))), (4, .int (zI (d)))]) C.1 C.2.1 dX10_survey_18 hl (by decide) rfl (fun ls hl => ?_)
      refine lv_aload_n C.1 C.2.1 dX10_survey_20 rfl (lv_at hl 2 rfl) ?_
      refine zg10_0 C hH (zW_n hC) (zW_k hC) q_569 (zW_td hC).1 dX10_survey_21 ?_
      refine zd_iconst C dX10_survey_24 ?_
      refine lv_iload_n C.1 C.2.1 dX10_survey_25 rfl (lv_at hl 5 rfl) ?_
      refine zgor (zrunV (As := [.int (zI (2)), .int (zI (g))]) (rest := []) C hE hH hS hl.1 (c_X9_rowsAt (l := l) (zW_td hC).2 (2) (by decide) (g) hg) k_RX10_176 ⟨Nat.le_of_ble_eq_true rfl, Nat.le_of_ble_eq_true rfl⟩ (zTold_n0 (zW_td hC).2.1) (zTold_k0 (zW_td hC).2.1) rfl rfl rfl (Nat.le_of_ble_eq_true rfl) dX10_survey_26 ⟨Nat.zero_le _, Nat.zero_le _⟩) hS (fun rq Xq Yq Rq H locs hq hH hS => ?_)
      obtain ⟨h92, h91⟩ := hq
      have h93 : Xq = X := congrArg (fun z => z.1) h92
      have h94 : Yq = Y := congrArg (fun z => z.2.1) h92
      have h95 : Rq = R := congrArg (fun z => z.2.2) h92
      rw [h93, h94, h95] at hH
      rw [h91]
      by_cases c17 : (2 ≤ ((2 : Int)) ∧ ((2 : Int)) < 5) ∧ 0 ≤ (g) ∧ (g) < 2 ∧ (g) < X (i + 3) ((2 : Int))
      · rw [if_pos c17]
        have hF := hF.1 c17
        refine lv_astore (lv' := [(7, .ref (bs + (i + 23 + 2 * (((2 - 2) * 2 + g) : Int).toNat))), (6, .null), (5, .null), (0, .ref (bs + (i))), (1, .int (zI (a))), (2, .int (zI (b))), (3, .int (zI (g))), (4, .int (zI (d)))]) C.1 C.2.1 dX10_survey_29 hl (by decide) rfl (fun ls hl => ?_)
        refine lv_aload_n C.1 C.2.1 dX10_survey_31 rfl (lv_at hl 3 rfl) ?_
        refine zg10_0 C hH (zW_n hC) (zW_k hC) q_569 (zW_td hC).1 dX10_survey_32 ?_
        refine zd_iconst C dX10_survey_35 ?_
        refine lv_iload C.1 C.2.1 dX10_survey_36 (lv_at hl 7 rfl) ?_
        refine zgor (zrunV (As := [.int (zI (3)), .int (zI (d))]) (rest := []) C hE hH hS hl.1 (c_X9_rowsAt (l := l) (zW_td hC).2 (3) (by decide) (d) hd) k_RX10_176 ⟨Nat.le_of_ble_eq_true rfl, Nat.le_of_ble_eq_true rfl⟩ (zTold_n0 (zW_td hC).2.1) (zTold_k0 (zW_td hC).2.1) rfl rfl rfl (Nat.le_of_ble_eq_true rfl) dX10_survey_38 ⟨Nat.zero_le _, Nat.zero_le _⟩) hS (fun rq Xq Yq Rq H locs hq hH hS => ?_)
        obtain ⟨h92, h91⟩ := hq
        have h93 : Xq = X := congrArg (fun z => z.1) h92
        have h94 : Yq = Y := congrArg (fun z => z.2.1) h92
        have h95 : Rq = R := congrArg (fun z => z.2.2) h92
        rw [h93, h94, h95] at hH
        rw [h91]
        by_cases c18 : (2 ≤ ((3 : Int)) ∧ ((3 : Int)) < 5) ∧ 0 ≤ (d) ∧ (d) < 2 ∧ (d) < X (i + 3) ((3 : Int))
        · rw [if_pos c18]
          have hF := hF.1 c18
          refine lv_astore (lv' := [(8, .ref (bs + (i + 23 + 2 * (((3 - 2) * 2 + d) : Int).toNat))), (7, .ref (bs + (i + 23 + 2 * (((2 - 2) * 2 + g) : Int).toNat))), (6, .null), (5, .null), (0, .ref (bs + (i))), (1, .int (zI (a))), (2, .int (zI (b))), (3, .int (zI (g))), (4, .int (zI (d)))]) C.1 C.2.1 dX10_survey_41 hl (by decide) rfl (fun ls hl => ?_)
          refine lv_aloadN C.1 C.2.1 dX10_survey_43 (lv_at hl 3 rfl) ?_
          refine lv_ifnullN (tgt := 63) C.1 C.2.1 dX10_survey_45 (by decide) ?_
          refine zd_iconst C dX10_survey_63 ?_
          exact zd_zret C hr hlk hH hS (by decide) (⟨_, rfl, hF⟩) dX10_survey_64
        · rw [if_neg c18]
          have hF := hF.2 c18
          refine lv_astoreN (lv' := [(8, .null), (7, .ref (bs + (i + 23 + 2 * (((2 - 2) * 2 + g) : Int).toNat))), (6, .null), (5, .null), (0, .ref (bs + (i))), (1, .int (zI (a))), (2, .int (zI (b))), (3, .int (zI (g))), (4, .int (zI (d)))]) C.1 C.2.1 dX10_survey_41 hl (by decide) rfl (fun ls hl => ?_)
          refine lv_aloadN C.1 C.2.1 dX10_survey_43 (lv_at hl 3 rfl) ?_
          refine lv_ifnullN (tgt := 63) C.1 C.2.1 dX10_survey_45 (by decide) ?_
          refine zd_iconst C dX10_survey_63 ?_
          exact zd_zret C hr hlk hH hS (by decide) (⟨_, rfl, hF⟩) dX10_survey_64
      · rw [if_neg c17]
        have hF := hF.2 c17
        refine lv_astoreN (lv' := [(7, .null), (6, .null), (5, .null), (0, .ref (bs + (i))), (1, .int (zI (a))), (2, .int (zI (b))), (3, .int (zI (g))), (4, .int (zI (d)))]) C.1 C.2.1 dX10_survey_29 hl (by decide) rfl (fun ls hl => ?_)
        refine lv_aload_n C.1 C.2.1 dX10_survey_31 rfl (lv_at hl 3 rfl) ?_
        refine zg10_0 C hH (zW_n hC) (zW_k hC) q_569 (zW_td hC).1 dX10_survey_32 ?_
        refine zd_iconst C dX10_survey_35 ?_
        refine lv_iload C.1 C.2.1 dX10_survey_36 (lv_at hl 7 rfl) ?_
        refine zgor (zrunV (As := [.int (zI (3)), .int (zI (d))]) (rest := []) C hE hH hS hl.1 (c_X9_rowsAt (l := l) (zW_td hC).2 (3) (by decide) (d) hd) k_RX10_176 ⟨Nat.le_of_ble_eq_true rfl, Nat.le_of_ble_eq_true rfl⟩ (zTold_n0 (zW_td hC).2.1) (zTold_k0 (zW_td hC).2.1) rfl rfl rfl (Nat.le_of_ble_eq_true rfl) dX10_survey_38 ⟨Nat.zero_le _, Nat.zero_le _⟩) hS (fun rq Xq Yq Rq H locs hq hH hS => ?_)
        obtain ⟨h92, h91⟩ := hq
        have h93 : Xq = X := congrArg (fun z => z.1) h92
        have h94 : Yq = Y := congrArg (fun z => z.2.1) h92
        have h95 : Rq = R := congrArg (fun z => z.2.2) h92
        rw [h93, h94, h95] at hH
        rw [h91]
        by_cases c19 : (2 ≤ ((3 : Int)) ∧ ((3 : Int)) < 5) ∧ 0 ≤ (d) ∧ (d) < 2 ∧ (d) < X (i + 3) ((3 : Int))
        · rw [if_pos c19]
          have hF := hF.1 c19
          refine lv_astore (lv' := [(8, .ref (bs + (i + 23 + 2 * (((3 - 2) * 2 + d) : Int).toNat))), (7, .null), (6, .null), (5, .null), (0, .ref (bs + (i))), (1, .int (zI (a))), (2, .int (zI (b))), (3, .int (zI (g))), (4, .int (zI (d)))]) C.1 C.2.1 dX10_survey_41 hl (by decide) rfl (fun ls hl => ?_)
          refine lv_aloadN C.1 C.2.1 dX10_survey_43 (lv_at hl 3 rfl) ?_
          refine lv_ifnullN (tgt := 63) C.1 C.2.1 dX10_survey_45 (by decide) ?_
          refine zd_iconst C dX10_survey_63 ?_
          exact zd_zret C hr hlk hH hS (by decide) (⟨_, rfl, hF⟩) dX10_survey_64
        · rw [if_neg c19]
          have hF := hF.2 c19
          refine lv_astoreN (lv' := [(8, .null), (7, .null), (6, .null), (5, .null), (0, .ref (bs + (i))), (1, .int (zI (a))), (2, .int (zI (b))), (3, .int (zI (g))), (4, .int (zI (d)))]) C.1 C.2.1 dX10_survey_41 hl (by decide) rfl (fun ls hl => ?_)
          refine lv_aloadN C.1 C.2.1 dX10_survey_43 (lv_at hl 3 rfl) ?_
          refine lv_ifnullN (tgt := 63) C.1 C.2.1 dX10_survey_45 (by decide) ?_
          refine zd_iconst C dX10_survey_63 ?_
          exact zd_zret C hr hlk hH hS (by decide) (⟨_, rfl, hF⟩) dX10_survey_64
theorem lgOk_t {Z : Nat → Int → Int} {q : Nat} {a b g l : Int} : lgOk Z q a b g l = true ↔ (0 ≤ a ∧ a < Z (q + 5) 0) ∧ (0 ≤ b ∧ b < Z (q + 5) 1) ∧ (0 ≤ g ∧ g < Z (q + 5) 2) ∧ 0 ≤ l ∧ l < Z (q + 5) 3 := by
  unfold lgOk mIs
  rw [Bool.and_eq_true, Bool.and_eq_true, Bool.and_eq_true, mIn_t, mIn_t, mIn_t, mIn_t]
  constructor
  · intro h
    omega
  · intro h
    omega
theorem lgOk_f {Z : Nat → Int → Int} {q : Nat} {a b g l : Int} (h : ¬ ((0 ≤ a ∧ a < Z (q + 5) 0) ∧ (0 ≤ b ∧ b < Z (q + 5) 1) ∧ (0 ≤ g ∧ g < Z (q + 5) 2) ∧ 0 ≤ l ∧ l < Z (q + 5) 3)) : lgOk Z q a b g l = false := by
  cases e : lgOk Z q a b g l
  · rfl
  · exact absurd (lgOk_t.mp e) h
theorem rwN_16 {z : Int} (h : 2 ≤ z ∧ z < 4) : rwN z = 16 := by
  unfold rwN
  rw [if_neg (by omega), if_pos (by omega)]
theorem v_X10_survey {X Y : Nat → Int → Int} {R : Nat → Int → Option Nat} {i : Nat} {Z : Nat → Int → Int} {q : Nat} (a : Int) (ha : rI a) (b : Int) (hb : rI b) (g : Int) (hg : rI g) (d : Int) (hd : rI d) (hp : wcQ Z q X i) : F_X10_survey i Z q X Y R a b g d := by
  unfold F_X10_survey
  intro hX hY
  obtain ⟨hO, hT, hI⟩ := hp
  have t0 : X (i + 3) 0 = Z (q + 5) 0 := hT.2.2.1 0 (by decide) (by decide)
  have t1 : X (i + 3) 1 = Z (q + 5) 1 := hT.2.2.1 1 (by decide) (by decide)
  have t2 : X (i + 3) 2 = Z (q + 5) 2 := hT.2.2.1 2 (by decide) (by decide)
  have t3 : X (i + 3) 3 = Z (q + 5) 3 := hT.2.2.1 3 (by decide) (by decide)
  have q0 := hO.1.1 0 (by decide) (by decide)
  have q1 := hO.1.1 1 (by decide) (by decide)
  have q2 := hO.1.1 2 (by decide) (by decide)
  have q3 := hO.1.1 3 (by decide) (by decide)
  refine ⟨?_, ?_⟩
  · intro c1
    refine ⟨?_, ?_⟩
    · intro c2
      refine ⟨?_, ?_⟩
      · intro c3
        refine ⟨?_, ?_⟩
        · intro c4
          obtain ⟨a0, a1, a2⟩ := c1
          obtain ⟨b0, b1, b2⟩ := c2
          obtain ⟨_, g0, g1, g2⟩ := c3
          obtain ⟨_, d0, d1, d2⟩ := c4
          obtain ⟨an, rfl⟩ := nat_of a0
          obtain ⟨bn, rfl⟩ := nat_of b0
          obtain ⟨gn, rfl⟩ := nat_of g0
          obtain ⟨dn, rfl⟩ := nat_of d0
          have ea : ((an : Nat) : Int).toNat = an := by omega
          have eb : ((bn : Nat) : Int).toNat = bn := by omega
          have eg : ((2 - 2) * 2 + (gn : Int)).toNat = gn := by omega
          have ed : ((3 - 2) * 2 + (dn : Int)).toNat = 2 + dn := by omega
          have hN := hT.2.2.2.1 an (by omega)
          have hB := hT.2.2.2.2.1 bn (by omega)
          have hF := hT.2.2.2.2.2.1 gn (by omega)
          have hG := hT.2.2.2.2.2.2.1 dn (by omega)
          rw [show i + 1 + 6 + 8 * an = i + 7 + 8 * an by omega] at hN
          rw [show i + 1 + 8 + 8 * bn = i + 9 + 8 * bn by omega] at hB
          rw [show i + 1 + 22 + 2 * gn = i + 23 + 2 * gn by omega] at hF
          rw [show i + 1 + 26 + 2 * dn = i + 23 + 2 * (2 + dn) by omega] at hG
          have nr := hN.2 a2
          have br := hB.2 b2
          have fr := hF.2 g2
          have gr := hG.2 d2
          rw [show 26 * (0 : Int) + 13 * (an : Int) = 13 * an by omega] at nr
          rw [show 366 * (0 : Int) + 183 * (bn : Int) = 183 * bn by omega] at br
          rw [show 162 * (0 : Int) + 81 * (gn : Int) = 81 * gn by omega] at fr
          rw [show 34 * (0 : Int) + 17 * (dn : Int) = 17 * dn by omega] at gr
          have hv := hz_v (n := an) (f := gn) hO.1 b0 (by omega)
          have hn := hz_n (c := bn) (f := gn) hO.1 a0 (by omega)
          have eo := lgOk_t (Z := Z) (q := q) (a := an) (b := bn) (g := gn) (l := dn)
          rw [ea, eb, eg, ed]
          refine ⟨?_, ?_⟩
          · refine ⟨⟨⟨⟨vZ_t hL_t hv, hI⟩, bR_tt hL_t (hz_bR hB.1 br)⟩, by omega⟩, ⟨vN_t hL_t hn.1, nR_t hL_t (hz_nR hN.1 nr), by omega⟩, hB.1.1, ⟨?_, by omega⟩, ?_, by omega⟩
            · rw [show rwN ((2 - 2) * 2 + (gn : Int)) = 80 from if_pos (by omega)]
              exact feR_L (fe_R (hO.2.1 gn g0 (by omega)) hF.1 fr)
            · rw [rwN_16 (by omega)]
              exact lgR_L (hO.2.2.1 dn d0 (by omega)) hG.1 gr
          intro X6
          intro rX6
          intro Y7
          intro rY7
          intro R8
          intro h1
          refine ⟨⟨fun N kd len h => ?_, fun z hz => by rw [h1.1, zU_o (by omega), zU_o (by omega)]⟩, (eo.mpr ⟨⟨a0, by omega⟩, ⟨b0, by omega⟩, ⟨g0, by omega⟩, d0, by omega⟩).symm, (fun g => by cases g), fun _ => ⟨⟨fun z hz => h1.2.1 z (by omega), h1.2.2.1⟩, h1.2.2.2⟩⟩
          rw [h1.1]
          exact zWC_putN (P := True) (zWC_putB (P := True) h ⟨b0, b1, trivial⟩ rfl) ⟨a0, a1, trivial⟩ rfl
        intro c5
        exact ⟨wcK.rf, (lgOk_f (by omega)).symm, fun _ => rfl, (fun g => by cases g)⟩
      intro c6
      refine ⟨?_, ?_⟩
      · intro c7
        exact ⟨wcK.rf, (lgOk_f (by omega)).symm, fun _ => rfl, (fun g => by cases g)⟩
      intro c8
      exact ⟨wcK.rf, (lgOk_f (by omega)).symm, fun _ => rfl, (fun g => by cases g)⟩
    intro c9
    refine ⟨?_, ?_⟩
    · intro c10
      refine ⟨?_, ?_⟩
      · intro c11
        exact ⟨wcK.rf, (lgOk_f (by omega)).symm, fun _ => rfl, (fun g => by cases g)⟩
      intro c12
      exact ⟨wcK.rf, (lgOk_f (by omega)).symm, fun _ => rfl, (fun g => by cases g)⟩
    intro c13
    refine ⟨?_, ?_⟩
    · intro c14
      exact ⟨wcK.rf, (lgOk_f (by omega)).symm, fun _ => rfl, (fun g => by cases g)⟩
    intro c15
    exact ⟨wcK.rf, (lgOk_f (by omega)).symm, fun _ => rfl, (fun g => by cases g)⟩
  intro c16
  refine ⟨?_, ?_⟩
  · intro c17
    refine ⟨?_, ?_⟩
    · intro c18
      refine ⟨?_, ?_⟩
      · intro c19
        exact ⟨wcK.rf, (lgOk_f (by omega)).symm, fun _ => rfl, (fun g => by cases g)⟩
      intro c20
      exact ⟨wcK.rf, (lgOk_f (by omega)).symm, fun _ => rfl, (fun g => by cases g)⟩
    intro c21
    refine ⟨?_, ?_⟩
    · intro c22
      exact ⟨wcK.rf, (lgOk_f (by omega)).symm, fun _ => rfl, (fun g => by cases g)⟩
    intro c23
    exact ⟨wcK.rf, (lgOk_f (by omega)).symm, fun _ => rfl, (fun g => by cases g)⟩
  intro c24
  refine ⟨?_, ?_⟩
  · intro c25
    refine ⟨?_, ?_⟩
    · intro c26
      exact ⟨wcK.rf, (lgOk_f (by omega)).symm, fun _ => rfl, (fun g => by cases g)⟩
    intro c27
    exact ⟨wcK.rf, (lgOk_f (by omega)).symm, fun _ => rfl, (fun g => by cases g)⟩
  intro c28
  refine ⟨?_, ?_⟩
  · intro c29
    exact ⟨wcK.rf, (lgOk_f (by omega)).symm, fun _ => rfl, (fun g => by cases g)⟩
  intro c30
  exact ⟨wcK.rf, (lgOk_f (by omega)).symm, fun _ => rfl, (fun g => by cases g)⟩
theorem c_X10_survey {l : Launch} {D : va_G} {cy : Nat → ClassId} {bs N : Nat} {sa : Nat → Nat} {kd len : Nat → Nat} {X Y : Nat → Int → Int} {R : Nat → Int → Option Nat} {i : Nat} {Z : Nat → Int → Int} {q : Nat} (hC : zWC N kd len R i) (a : Int) (ha : rI a) (b : Int) (hb : rI b) (g : Int) (hg : rI g) (d : Int) (hd : rI d) (hp : wcQ Z q X i) : Met l yX10_survey (.code yX10_survey cX10_survey 9 (some .boolean) :: zTB) (zRm 5 156) (zPc D cy bs sa N kd len X Y R [.ref (bs + (i)), .int (zI (a)), .int (zI (b)), .int (zI (g)), .int (zI (d))]) (zQi D cy bs N kd len (fun r st => ∃ rb : Bool, r = bz rb ∧ (wcK R (st.2.2) i ∧ rb = lgOk Z q (a) (b) (g) (d) ∧ (rb = false → (st.1) = X) ∧ (rb = true → qK X (st.1) i ∧ lsR (hL Z q (a) (b) (g) (d)) q (st.1) (i + 157) 41)))) 0 0 (zA bs) := w_X10_survey hC a ha b hb g hg d hd (v_X10_survey a ha b hb g hg d hd hp)
