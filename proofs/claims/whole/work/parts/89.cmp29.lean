/-! TIPS AND WHAT IS WITHHELD; FRACTIONS -/
theorem tdiv_rL {a b : Int} (h : 0 ≤ a ∧ a ≤ 4000000000000) (hb : 1 ≤ b) : rL (a.tdiv b) := by
  have h1 := Int.tdiv_nonneg h.1 (show 0 ≤ b by omega)
  have h2 := Int.tdiv_le_self b h.1
  exact ⟨by omega, by omega⟩
def lnF (u v k : Int) : Prop := v * 2 ^ (k.toNat / 2) ≤ 4398046511104 ∧ (1 ≤ k → v < u ∧ u * 2 ^ ((k.toNat - 1) / 2) ≤ 4398046511104)
theorem lnF_s {u v k : Int} (hu : 0 ≤ u) (hv : 1 ≤ v) (hk : 0 ≤ k) (h : lnF u v k) : lnF v (u.tmod v) (k + 1) := by
  obtain ⟨n, rfl⟩ := nat_of hk
  have e0 : ((n : Nat) : Int).toNat = n := by omega
  have e1 : ((n : Int) + 1).toNat = n + 1 := by omega
  unfold lnF at h ⊢
  rw [e0] at h
  rw [e1]
  have m0 : 0 ≤ u.tmod v := Int.tmod_nonneg _ hu
  have m1 : u.tmod v < v := Int.tmod_lt_of_pos _ (by omega)
  have p0 : (0 : Int) < 2 ^ (n / 2) := Int.pow_pos (by decide)
  refine ⟨?_, fun _ => ⟨m1, by rw [show n + 1 - 1 = n by omega]; exact h.1⟩⟩
  by_cases c : n % 2 = 0
  · rw [show (n + 1) / 2 = n / 2 by omega]
    exact Int.le_trans (Int.mul_le_mul_of_nonneg_right (by omega) (Int.le_of_lt p0)) h.1
  · have g := h.2 (by omega)
    rw [show (n + 1) / 2 = (n - 1) / 2 + 1 by omega, Int.pow_succ, Int.mul_comm _ 2, ← Int.mul_assoc]
    have d := Int.tmod_def u v
    have q1 : 1 ≤ u.tdiv v := by
      rw [Int.tdiv_eq_ediv_of_nonneg hu]
      exact Int.le_ediv_of_mul_le (by omega) (by omega)
    have m2 : v ≤ v * u.tdiv v := by
      have := Int.mul_le_mul_of_nonneg_left q1 (show 0 ≤ v by omega)
      omega
    have p1 : (0 : Int) < 2 ^ ((n - 1) / 2) := Int.pow_pos (by decide)
    exact Int.le_trans (Int.mul_le_mul_of_nonneg_right (by omega) (Int.le_of_lt p1)) g.2
theorem lnF_e {u v : Int} (hv : 0 ≤ v) (h : lnF u v 100) : v = 0 := by
  have h1 := h.1
  have e : (2 : Int) ^ ((100 : Int).toNat / 2) = 1125899906842624 := by decide
  rw [e] at h1
  omega
theorem mGc_c (a b : Int) : mGc a b = mGc b a := by
  unfold mGc
  rw [Nat.gcd_comm]
theorem mOnes_pos {e : Nat} (h0 : 0 < e) (h : 2 * e < 32768) : 1 ≤ mOnes (2 * (e : Int)) := by
  have b := mOnes_b (2 * (e : Int))
  by_cases c : mOnes (2 * (e : Int)) = 0
  · have z := (mOnes_z 15).mp c
    have r : rI (2 * (e : Int)) := ⟨by omega, by omega⟩
    have : 2 * (e : Int) = 0 := zb_ext r (by decide) fun k hk => by
      rw [zb_0]
      by_cases g : k < 15
      · rw [← mHas_zb _ hk]
        exact z k g
      · rw [show 2 * (e : Int) = ((2 * e : Nat) : Int) by omega, zb_nat (by omega) hk]
        exact Nat.testBit_lt_two_pow (Nat.lt_of_lt_of_le (show 2 * e < 2 ^ 15 by omega) (Nat.pow_le_pow_right (by decide) (by omega)))
    omega
  · omega
theorem whN_no {tp : Int → Nat} : ∀ M : Nat, 2 * M ≤ 32768 → (∀ e : Nat, e < M → (1 ≤ mOnes (2 * (e : Int)) ∧ mOnes (2 * (e : Int)) < 4) → tp (2 * (e : Int)) = tp 0) → whN tp M = -1
  | 0, _, _ => rfl
  | m + 1, hM, h => by
    have ih := whN_no (tp := tp) m (by omega) (fun e he => h e (by omega))
    show (if (mOnes (2 * m) < 4 ∧ (whN tp m = -1 ∨ mOnes (2 * m) < mOnes (whN tp m))) ∧ tp (2 * m) ≠ tp 0 then 2 * (m : Int) else whN tp m) = _
    rw [if_neg]
    · exact ih
    · rintro ⟨⟨h1, _⟩, h2⟩
      by_cases g : m = 0
      · subst g
        exact h2 rfl
      · exact h2 (h m (by omega) ⟨mOnes_pos (by omega) (by omega), h1⟩)
theorem whN_lt {tp : Int → Nat} {c : Int} : ∀ M : Nat, 2 * M ≤ 32768 → (∀ e : Nat, e < M → (1 ≤ mOnes (2 * (e : Int)) ∧ mOnes (2 * (e : Int)) ≤ c) → tp (2 * (e : Int)) = tp 0) → whN tp M = -1 ∨ c < mOnes (whN tp M)
  | 0, _, _ => Or.inl rfl
  | m + 1, hM, h => by
    have ih := whN_lt (tp := tp) m (by omega) (fun e he => h e (by omega))
    show (if (mOnes (2 * m) < 4 ∧ (whN tp m = -1 ∨ mOnes (2 * m) < mOnes (whN tp m))) ∧ tp (2 * m) ≠ tp 0 then 2 * (m : Int) else whN tp m) = -1 ∨ c < mOnes (if (mOnes (2 * m) < 4 ∧ (whN tp m = -1 ∨ mOnes (2 * m) < mOnes (whN tp m))) ∧ tp (2 * m) ≠ tp 0 then 2 * (m : Int) else whN tp m)
    split
    · rename_i g
      right
      by_cases g0 : m = 0
      · subst g0
        exact absurd rfl g.2
      · by_cases d : mOnes (2 * (m : Int)) ≤ c
        · exact absurd (h m (by omega) ⟨mOnes_pos (by omega) (by omega), d⟩) g.2
        · omega
    · exact ih
theorem whN_at {tp : Int → Nat} {m : Nat} (h1 : 1 ≤ mOnes (2 * (m : Int)) ∧ mOnes (2 * (m : Int)) < 4) (ht : tp (2 * (m : Int)) ≠ tp 0) : ∀ d, 2 * (m + 1 + d) ≤ 32768 → (∀ e : Nat, e < m + 1 + d → (1 ≤ mOnes (2 * (e : Int)) ∧ mOnes (2 * (e : Int)) < mOnes (2 * (m : Int))) → tp (2 * (e : Int)) = tp 0) → (∀ e : Nat, e < m → mOnes (2 * (e : Int)) = mOnes (2 * (m : Int)) → tp (2 * (e : Int)) = tp 0) → whN tp (m + 1 + d) = 2 * (m : Int)
  | 0, hM, hl, he => by
    have l := whN_lt (tp := tp) (c := mOnes (2 * (m : Int))) m (by omega) (fun e h g => by
      by_cases c : mOnes (2 * (e : Int)) = mOnes (2 * (m : Int))
      · exact he e h c
      · exact hl e (by omega) ⟨g.1, by omega⟩)
    show (if (mOnes (2 * m) < 4 ∧ (whN tp m = -1 ∨ mOnes (2 * m) < mOnes (whN tp m))) ∧ tp (2 * m) ≠ tp 0 then 2 * (m : Int) else whN tp m) = _
    rw [if_pos ⟨⟨h1.2, l⟩, ht⟩]
  | d + 1, hM, hl, he => by
    have ih := whN_at h1 ht d (by omega) (fun e h => hl e (by omega)) he
    show (if (mOnes (2 * ((m + 1 + d : Nat) : Int)) < 4 ∧ (whN tp (m + 1 + d) = -1 ∨ mOnes (2 * ((m + 1 + d : Nat) : Int)) < mOnes (whN tp (m + 1 + d)))) ∧ tp (2 * ((m + 1 + d : Nat) : Int)) ≠ tp 0 then 2 * ((m + 1 + d : Nat) : Int) else whN tp (m + 1 + d)) = _
    rw [ih, if_neg]
    rintro ⟨⟨g1, g2⟩, g3⟩
    rcases g2 with g2 | g2
    · omega
    · exact g3 (hl (m + 1 + d) (by omega) ⟨mOnes_pos (by omega) (by omega), g2⟩)
theorem qK_fv {X0 X X1 Y Y1 : Nat → Int → Int} {i : Nat} (k : fvK X X1 Y Y1 (i + 157)) (h : qK X0 X i) : qK X0 X1 i := ⟨fun z hz => (k.1 z (by omega)).trans (h.1 z hz), by
  unfold chI
  rw [k.1 _ (by omega), k.1 (i + 157 + 11) (by omega)]
  exact h.2⟩
section TW
variable {Z : Nat → Int → Int} {q : Nat} {X Y : Nat → Int → Int} {R : Nat → Int → Option Nat} {i : Nat}
theorem tw_cl (h : cA Z q X Y R i) (a : Int) : clF Z q (bS (mWo Z q a) (Z q 27).toNat) := by
  have e := cA_l h
  have hb : ∀ k : Nat, (k : Int) < Z q 27 → mHas (bS (mWo Z q a) (Z q 27).toNat) k = mWo Z q a k := fun k hk => bS_has _ (by omega) (by omega)
  refine ⟨by have := hb 0 (by omega); rw [show ((0 : Nat) : Int) = 0 from rfl] at this; rw [this]; exact woF_0, fun k h1 h2 h3 => ?_⟩
  have hp := vZ_P h.1.1.1 h1 h2
  rw [hb k h2] at h3
  rw [hb _ (by omega)]
  have g : woF (rP Z q) (sdf Z q) (fun k => mHas a k) k = true := h3
  rw [woF_s hp, Bool.and_eq_true] at g
  exact g.2
theorem tw_e (h : cA Z q X Y R i) (a : Int) : sTip (Z q 28) (rP Z q) (rW Z q) (rG Z q) (fun e => mHas (bS (mWo Z q a) (Z q 27).toNat) e) (fun x y : Nat => decide (x < y)) (Z q 27).toNat = rTip Z q (mWo Z q a) := by
  have e := cA_l h
  have b0 : mHas (bS (mWo Z q a) (Z q 27).toNat) ((0 : Nat) : Int) = mWo Z q a 0 := bS_has _ (by omega) (by omega)
  refine sTip_cong (by omega) ?_ (fun _ _ => rfl) (fun _ _ => rfl) (fun k hk => bS_has _ (by omega) (by omega)) (fun _ _ _ _ _ _ => rfl)
  first
    | exact b0.trans woF_0
    | exact woF_0
theorem tw_0 (h : cA Z q X Y R i) : sTip (Z q 28) (rP Z q) (rW Z q) (rG Z q) (fun e => mHas (X i 3) e) (fun x y : Nat => decide (x < y)) (Z q 27).toNat = rTip Z q (mWo Z q 0) := by
  have e := cA_l h
  refine sTip_cong (by omega) ?_ (fun _ _ => rfl) (fun _ _ => rfl) (fun k hk => ?_) (fun _ _ _ _ _ _ => rfl)
  · first
      | exact (cA_s h (k := 0) (by omega)).trans sdf_0
      | exact woF_0
  · rw [cA_s h (by omega), mWo_e h.1.1.1 (show mHas 0 0 = false by decide +kernel) k k (Nat.le_refl _) (by omega), decide_eq_true (and_z.mpr (fun j _ => by rw [zb_0, Bool.and_false])), Bool.and_true]
end TW
theorem has_even {m : Nat} (h : 2 * m < 32768) : mHas (2 * (m : Int)) 0 = false := by
  have e := mHas_zb (2 * (m : Int)) (k := 0) (by decide)
  rw [show ((0 : Nat) : Int) = 0 from rfl] at e
  rw [e, show 2 * (m : Int) = ((2 * m : Nat) : Int) by omega, zb_nat (by omega) (by decide)]
  simp [Nat.testBit_zero]
theorem p2_b : ∀ n : Nat, n ≤ 15 → 1 ≤ n → 1 ≤ 2 ^ (n - 1) ∧ 2 * 2 ^ (n - 1) ≤ 32768 ∧ zShl 2 ((n : Int) - 1) = 2 * ((2 ^ (n - 1) : Nat) : Int) := by decide +kernel
abbrev cX10_withheld : ByteArray := prog_1_method_28_code
def yX10_withheld : MethodName := ⟨RX10, "withheld", "()I"⟩
theorem dX10_withheld_0 : decode cX10_withheld 0 = .ok (.aload_n 0, 1) := by decide +kernel
theorem dX10_withheld_1 : decode cX10_withheld 1 = .ok (.getfield 34, 3) := by decide +kernel
theorem dX10_withheld_4 : decode cX10_withheld 4 = .ok (.aload_n 0, 1) := by decide +kernel
theorem dX10_withheld_5 : decode cX10_withheld 5 = .ok (.getfield 34, 3) := by decide +kernel
theorem dX10_withheld_8 : decode cX10_withheld 8 = .ok (.getfield 302, 3) := by decide +kernel
theorem dX10_withheld_11 : decode cX10_withheld 11 = .ok (.invokevirtual 305, 3) := by decide +kernel
theorem dX10_withheld_14 : decode cX10_withheld 14 = .ok (.istore_n 1, 1) := by decide +kernel
theorem dX10_withheld_15 : decode cX10_withheld 15 = .ok (.iconst 1, 1) := by decide +kernel
theorem dX10_withheld_16 : decode cX10_withheld 16 = .ok (.istore_n 2, 1) := by decide +kernel
theorem dX10_withheld_17 : decode cX10_withheld 17 = .ok (.iload_n 2, 1) := by decide +kernel
theorem dX10_withheld_18 : decode cX10_withheld 18 = .ok (.iconst 3, 1) := by decide +kernel
theorem dX10_withheld_19 : decode cX10_withheld 19 = .ok (.if_icmp .gt 59, 3) := by decide +kernel
theorem dX10_withheld_22 : decode cX10_withheld 22 = .ok (.iconst 2, 1) := by decide +kernel
theorem dX10_withheld_23 : decode cX10_withheld 23 = .ok (.istore_n 3, 1) := by decide +kernel
theorem dX10_withheld_24 : decode cX10_withheld 24 = .ok (.iload_n 3, 1) := by decide +kernel
theorem dX10_withheld_25 : decode cX10_withheld 25 = .ok (.iconst 2, 1) := by decide +kernel
theorem dX10_withheld_26 : decode cX10_withheld 26 = .ok (.aload_n 0, 1) := by decide +kernel
theorem dX10_withheld_27 : decode cX10_withheld 27 = .ok (.getfield 34, 3) := by decide +kernel
theorem dX10_withheld_30 : decode cX10_withheld 30 = .ok (.getfield 322, 3) := by decide +kernel
theorem dX10_withheld_33 : decode cX10_withheld 33 = .ok (.ishl, 1) := by decide +kernel
theorem dX10_withheld_34 : decode cX10_withheld 34 = .ok (.if_icmp .ge 38, 3) := by decide +kernel
theorem dX10_withheld_37 : decode cX10_withheld 37 = .ok (.iload_n 3, 1) := by decide +kernel
theorem dX10_withheld_38 : decode cX10_withheld 38 = .ok (.invokestatic 317, 3) := by decide +kernel
theorem dX10_withheld_41 : decode cX10_withheld 41 = .ok (.iload_n 2, 1) := by decide +kernel
theorem dX10_withheld_42 : decode cX10_withheld 42 = .ok (.if_icmp .ne 24, 3) := by decide +kernel
theorem dX10_withheld_45 : decode cX10_withheld 45 = .ok (.aload_n 0, 1) := by decide +kernel
theorem dX10_withheld_46 : decode cX10_withheld 46 = .ok (.getfield 34, 3) := by decide +kernel
theorem dX10_withheld_49 : decode cX10_withheld 49 = .ok (.aload_n 0, 1) := by decide +kernel
theorem dX10_withheld_50 : decode cX10_withheld 50 = .ok (.getfield 34, 3) := by decide +kernel
theorem dX10_withheld_53 : decode cX10_withheld 53 = .ok (.iload_n 3, 1) := by decide +kernel
theorem dX10_withheld_54 : decode cX10_withheld 54 = .ok (.invokevirtual 323, 3) := by decide +kernel
theorem dX10_withheld_57 : decode cX10_withheld 57 = .ok (.invokevirtual 305, 3) := by decide +kernel
theorem dX10_withheld_60 : decode cX10_withheld 60 = .ok (.iload_n 1, 1) := by decide +kernel
theorem dX10_withheld_61 : decode cX10_withheld 61 = .ok (.if_icmp .eq 5, 3) := by decide +kernel
theorem dX10_withheld_64 : decode cX10_withheld 64 = .ok (.iload_n 3, 1) := by decide +kernel
theorem dX10_withheld_65 : decode cX10_withheld 65 = .ok (.ireturn, 1) := by decide +kernel
theorem dX10_withheld_66 : decode cX10_withheld 66 = .ok (.iinc 3 2, 3) := by decide +kernel
theorem dX10_withheld_69 : decode cX10_withheld 69 = .ok (.goto (-45), 3) := by decide +kernel
theorem dX10_withheld_72 : decode cX10_withheld 72 = .ok (.iinc 2 1, 3) := by decide +kernel
theorem dX10_withheld_75 : decode cX10_withheld 75 = .ok (.goto (-58), 3) := by decide +kernel
theorem dX10_withheld_78 : decode cX10_withheld 78 = .ok (.iconst (-1), 1) := by decide +kernel
theorem dX10_withheld_79 : decode cX10_withheld 79 = .ok (.ireturn, 1) := by decide +kernel
theorem q_1058 : Cond.methodLink RX10 305 yX1_tipOf ∈ zTB := zmem 1058 (by decide +kernel) rfl
theorem q_1059 : Cond.instanceMethod yX1_tipOf ∈ zTB := zmem 1059 (by decide +kernel) rfl
theorem q_1060 : Cond.selects RX1 yX1_tipOf yX1_tipOf ∈ zTB := zmem 1060 (by decide +kernel) rfl
theorem q_1061 : Cond.code yX1_tipOf cX1_tipOf 2 (some .int) ∈ zTB := zmem 1061 (by decide +kernel) rfl
theorem k_RX10_305 : zLv RX10 305 RX1 yX1_tipOf cX1_tipOf 2 (some .int) 1 := ⟨⟨q_1058, q_1059, q_1060, q_135, q_1061⟩, rfl, ⟨by decide, by decide⟩, by decide +kernel⟩
theorem q_1081 : Cond.methodLink RX10 323 yX1_soundWithout ∈ zTB := zmem 1081 (by decide +kernel) rfl
theorem q_1082 : Cond.instanceMethod yX1_soundWithout ∈ zTB := zmem 1082 (by decide +kernel) rfl
theorem q_1083 : Cond.selects RX1 yX1_soundWithout yX1_soundWithout ∈ zTB := zmem 1083 (by decide +kernel) rfl
theorem q_1084 : Cond.code yX1_soundWithout cX1_soundWithout 4 (some .int) ∈ zTB := zmem 1084 (by decide +kernel) rfl
theorem k_RX10_323 : zLv RX10 323 RX1 yX1_soundWithout cX1_soundWithout 4 (some .int) 1 := ⟨⟨q_1081, q_1082, q_1083, q_135, q_1084⟩, rfl, ⟨by decide, by decide⟩, by decide +kernel⟩
def F_X10_withheld (i : Nat) (Z : Nat → Int → Int) (q : Nat) (X Y : Nat → Int → Int) (R : Nat → Int → Option Nat)  : Prop := (∀ i j, rI (X i j)) → (∀ i j, rL (Y i j)) → (cA Z q X Y R (i + 157) ∧ clF Z q ((X (i + 157) 3))) ∧ (∀ r4 : Int, rI r4 → ∀ X2 : Nat → Int → Int, (∀ i j, rI (X2 i j)) → ∀ Y3 : Nat → Int → Int, (∀ i j, rL (Y3 i j)) → (r4 = ((sTip (X (cn R (i + 157)) 3) (rP Z q) (rW Z q) (rG Z q) (fun e => mHas ((X (i + 157) 3)) e) (fun x y : Nat => decide (x < y)) (Z q 27).toNat : Nat) : Int) ∧ fvK X (X2) Y (Y3) (i + 157)) → ((∃ s : Nat, (1 : Int) = s ∧ (1 ≤ s ∧ s ≤ 4) ∧ fvK X X2 Y Y3 (i + 157) ∧ ∀ e, e < 2 ^ ((Z q 27).toNat - 1) → (1 ≤ mOnes (2 * (e : Nat)) ∧ mOnes (2 * (e : Nat)) < s) → tpW Z q (2 * (e : Nat)) = tpW Z q 0) ∧ (∀ (k : Int) (X6 : Nat → Int → Int) (Y7 : Nat → Int → Int), rI k → (∀ i j, rI (X6 i j)) → (∀ i j, rL (Y7 i j)) → (∃ s : Nat, k = s ∧ (1 ≤ s ∧ s ≤ 4) ∧ fvK X X6 Y Y7 (i + 157) ∧ ∀ e, e < 2 ^ ((Z q 27).toNat - 1) → (1 ≤ mOnes (2 * (e : Nat)) ∧ mOnes (2 * (e : Nat)) < s) → tpW Z q (2 * (e : Nat)) = tpW Z q 0) → (((3 < k) → ((-1) = whN (tpW Z q) (2 ^ ((Z q 27).toNat - 1)) ∧ fvK X (X6) Y (Y7) (i + 157))) ∧ ((¬ (3 < k)) → ((∃ m : Nat, (2 : Int) = 2 * (m : Int) ∧ (1 ≤ m ∧ m ≤ 2 ^ ((Z q 27).toNat - 1)) ∧ fvK X X6 Y Y7 (i + 157) ∧ ∀ e, e < m → mOnes (2 * (e : Nat)) = k → tpW Z q (2 * (e : Nat)) = tpW Z q 0) ∧ (∀ (u : Int) (X10 : Nat → Int → Int) (Y11 : Nat → Int → Int), rI u → (∀ i j, rI (X10 i j)) → (∀ i j, rL (Y11 i j)) → (∃ m : Nat, u = 2 * (m : Int) ∧ (1 ≤ m ∧ m ≤ 2 ^ ((Z q 27).toNat - 1)) ∧ fvK X X10 Y Y11 (i + 157) ∧ ∀ e, e < m → mOnes (2 * (e : Nat)) = k → tpW Z q (2 * (e : Nat)) = tpW Z q 0) → ((((zShl (2) (X10 (i + 157) 2)) ≤ u) → ((rI (k + 1)) ∧ (∃ s : Nat, (k + 1) = s ∧ (1 ≤ s ∧ s ≤ 4) ∧ fvK X X10 Y Y11 (i + 157) ∧ ∀ e, e < 2 ^ ((Z q 27).toNat - 1) → (1 ≤ mOnes (2 * (e : Nat)) ∧ mOnes (2 * (e : Nat)) < s) → tpW Z q (2 * (e : Nat)) = tpW Z q 0) ∧ (((20 - (k + 1)).toNat) < ((20 - (k)).toNat)))) ∧ ((¬ ((zShl (2) (X10 (i + 157) 2)) ≤ u)) → (rI (mBc (u)) → (((¬ (mBc (u)) = k) → ((rI (u + 2)) ∧ (∃ m : Nat, (u + 2) = 2 * (m : Int) ∧ (1 ≤ m ∧ m ≤ 2 ^ ((Z q 27).toNat - 1)) ∧ fvK X X10 Y Y11 (i + 157) ∧ ∀ e, e < m → mOnes (2 * (e : Nat)) = k → tpW Z q (2 * (e : Nat)) = tpW Z q 0) ∧ (((40000 - ((u + 2))).toNat) < ((40000 - (u)).toNat)))) ∧ ((¬ (¬ (mBc (u)) = k)) → ((cA Z q X10 Y11 R (i + 157) ∧ mHas (u) 0 = false) ∧ (rI (bS (mWo Z q (u)) (Z q 27).toNat) → ((cA Z q X10 Y11 R (i + 157) ∧ clF Z q ((bS (mWo Z q (u)) (Z q 27).toNat))) ∧ (∀ r22 : Int, rI r22 → ∀ X20 : Nat → Int → Int, (∀ i j, rI (X20 i j)) → ∀ Y21 : Nat → Int → Int, (∀ i j, rL (Y21 i j)) → (r22 = ((sTip (X10 (cn R (i + 157)) 3) (rP Z q) (rW Z q) (rG Z q) (fun e => mHas ((bS (mWo Z q (u)) (Z q 27).toNat)) e) (fun x y : Nat => decide (x < y)) (Z q 27).toNat : Nat) : Int) ∧ fvK X10 (X20) Y11 (Y21) (i + 157)) → (((r22 = r4) → ((rI (u + 2)) ∧ (∃ m : Nat, (u + 2) = 2 * (m : Int) ∧ (1 ≤ m ∧ m ≤ 2 ^ ((Z q 27).toNat - 1)) ∧ fvK X X20 Y Y21 (i + 157) ∧ ∀ e, e < m → mOnes (2 * (e : Nat)) = k → tpW Z q (2 * (e : Nat)) = tpW Z q 0) ∧ (((40000 - ((u + 2))).toNat) < ((40000 - (u)).toNat)))) ∧ ((¬ (r22 = r4)) → (u = whN (tpW Z q) (2 ^ ((Z q 27).toNat - 1)) ∧ fvK X (X20) Y (Y21) (i + 157))))))))))))))))))))
set_option maxHeartbeats 4000000 in
set_option maxRecDepth 100000 in
theorem w_X10_withheld {l : Launch} {D : va_G} {cy : Nat → ClassId} {bs N : Nat} {sa : Nat → Nat} {kd len : Nat → Nat} {X Y : Nat → Int → Int} {R : Nat → Int → Option Nat} {i : Nat} {Z : Nat → Int → Int} {q : Nat} (hC : zWC N kd len R i)  (hF : F_X10_withheld i Z q X Y R ) : Met l yX10_withheld (.code yX10_withheld cX10_withheld 4 (some .int) :: zTB) (zRm 3 69) (zPc D cy bs sa N kd len X Y R [.ref (bs + (i))]) (zQi D cy bs N kd len (fun r st => st.2.2 = R ∧ (r = whN (tpW Z q) (2 ^ ((Z q 27).toNat - 1)) ∧ fvK X (st.1) Y (st.2.1) (i + 157)))) 0 0 (zA bs) := by
  refine zstart (by decide) (Nat.le_of_ble_eq_true rfl) ?_
  intro p e s m args below meth c ls C hE hH hr hlk hnm hl hargs
  have hF := hF hH.2.2.1 hH.2.2.2
  have hS : va_S (zA bs) s.heap s.heap [] := va_S.rf
  have hl : lv_has ls 4 [(0, .ref (bs + (i)))] := hl
  refine lv_aload_n C.1 C.2.1 dX10_withheld_0 rfl (lv_at hl 0 rfl) ?_
  refine zg10_4 C hH (zW_n hC) (zW_k hC) q_573 (zW_lw hC).1 dX10_withheld_1 ?_
  refine lv_aload_n C.1 C.2.1 dX10_withheld_4 rfl (lv_at hl 0 rfl) ?_
  refine zg10_4 C hH (zW_n hC) (zW_k hC) q_573 (zW_lw hC).1 dX10_withheld_5 ?_
  refine zg1_3 C hH (zChart_n0 (zW_lw hC).2.2.2.1.1) (zChart_k0 (zW_lw hC).2.2.2.1.1) q_401 dX10_withheld_8 ?_
  obtain ⟨o1, hF⟩ := hF
  refine zgoi (zrunV (As := [.int (zI (X (i + 157) 3))]) (rest := []) C hE hH hS hl.1 (c_X1_tipOf (l := l) (zW_lw hC).2.2.2.1.1 (X (i + 157) 3) (hH.2.2.1 _ _) o1) k_RX10_305 ⟨Nat.le_of_ble_eq_true rfl, Nat.le_of_ble_eq_true rfl⟩ (zChart_n0 (zW_lw hC).2.2.2.1.1) (zChart_k0 (zW_lw hC).2.2.2.1.1) rfl rfl rfl (Nat.le_of_ble_eq_true rfl) dX10_withheld_11 ⟨Nat.zero_le _, Nat.zero_le _⟩) hS (fun r4 X2 Y3 Rq H locs hrq hq hH hS => ?_)
  obtain ⟨h9R, hq⟩ := hq
  dsimp only at h9R
  rw [h9R] at hH
  have hr4 := hrq
  have hF := hF r4 hrq X2 hH.2.2.1 Y3 hH.2.2.2 hq
  refine lv_istore_n (lv' := [(1, .int (zI (r4))), (0, .ref (bs + (i)))]) C.1 C.2.1 dX10_withheld_14 rfl hl (by decide) rfl (fun ls hl => ?_)
  refine zd_iconst C dX10_withheld_15 ?_
  refine lv_istore_n (lv' := [(2, .int (zI (1))), (1, .int (zI (r4))), (0, .ref (bs + (i)))]) C.1 C.2.1 dX10_withheld_16 rfl hl (by decide) rfl (fun ls hl => ?_)
  obtain ⟨hI5, hF⟩ := hF
  have L5 : ∀ (fu : Nat) (k : Int) (X6 : Nat → Int → Int) (Y7 : Nat → Int → Int), rI k → (∃ s : Nat, k = s ∧ (1 ≤ s ∧ s ≤ 4) ∧ fvK X X6 Y Y7 (i + 157) ∧ ∀ e, e < 2 ^ ((Z q 27).toNat - 1) → (1 ≤ mOnes (2 * (e : Nat)) ∧ mOnes (2 * (e : Nat)) < s) → tpW Z q (2 * (e : Nat)) = tpW Z q 0) → ((20 - (k)).toNat) < fu → ∀ (H : Heap) (locs : List Loc) (ls : Array Slot), zH D cy bs N kd len X6 Y7 R H → va_S (zA bs) s.heap H locs → lv_has ls 4 [(2, .int (zI (k))), (1, .int (zI (r4))), (0, .ref (bs + (i)))] → W p l e (zRm 3 69) s m args below meth c H locs 0 0 (MQ below (zQi D cy bs N kd len (fun r st => st.2.2 = R ∧ (r = whN (tpW Z q) (2 ^ ((Z q 27).toNat - 1)) ∧ fvK X (st.1) Y (st.2.1) (i + 157)))) args s 0 0 (zA bs)) (F0 m 17 ls []) := by
    intro fu
    induction fu with
    | zero => intro k X6 Y7 _ _ hmu; exact absurd hmu (Nat.not_lt_zero _)
    | succ fu ih5 =>
      intro k X6 Y7 hk hI hmu5 H locs ls hH hS hl
      have hF := hF k X6 Y7 hk hH.2.2.1 hH.2.2.2 hI
      refine lv_iload_n C.1 C.2.1 dX10_withheld_17 rfl (lv_at hl 0 rfl) ?_
      refine zd_iconst C dX10_withheld_18 ?_
      refine zd_icmp_gt C hk (by decide) 78 dX10_withheld_19 (by decide) (fun c8 => ?_) (fun c8 => ?_)
      · have hF := hF.1 c8
        refine zd_iconst C dX10_withheld_78 ?_
        exact zd_iret C hr hlk hH hS (by decide) (⟨rfl, hF⟩) dX10_withheld_79
      · have hF := hF.2 c8
        refine zd_iconst C dX10_withheld_22 ?_
        refine lv_istore_n (lv' := [(3, .int (zI (2))), (2, .int (zI (k))), (1, .int (zI (r4))), (0, .ref (bs + (i)))]) C.1 C.2.1 dX10_withheld_23 rfl hl (by decide) rfl (fun ls hl => ?_)
        obtain ⟨hI9, hF⟩ := hF
        have L9 : ∀ (fu : Nat) (u : Int) (X10 : Nat → Int → Int) (Y11 : Nat → Int → Int), rI u → (∃ m : Nat, u = 2 * (m : Int) ∧ (1 ≤ m ∧ m ≤ 2 ^ ((Z q 27).toNat - 1)) ∧ fvK X X10 Y Y11 (i + 157) ∧ ∀ e, e < m → mOnes (2 * (e : Nat)) = k → tpW Z q (2 * (e : Nat)) = tpW Z q 0) → ((40000 - (u)).toNat) < fu → ∀ (H : Heap) (locs : List Loc) (ls : Array Slot), zH D cy bs N kd len X10 Y11 R H → va_S (zA bs) s.heap H locs → lv_has ls 4 [(3, .int (zI (u))), (2, .int (zI (k))), (1, .int (zI (r4))), (0, .ref (bs + (i)))] → W p l e (zRm 3 69) s m args below meth c H locs 0 0 (MQ below (zQi D cy bs N kd len (fun r st => st.2.2 = R ∧ (r = whN (tpW Z q) (2 ^ ((Z q 27).toNat - 1)) ∧ fvK X (st.1) Y (st.2.1) (i + 157)))) args s 0 0 (zA bs)) (F0 m 24 ls []) := by
          intro fu
          induction fu with
          | zero => intro u X10 Y11 _ _ hmu; exact absurd hmu (Nat.not_lt_zero _)
          | succ fu ih9 =>
            intro u X10 Y11 hu hI hmu9 H locs ls hH hS hl
            have hF := hF u X10 Y11 hu hH.2.2.1 hH.2.2.2 hI
            refine lv_iload_n C.1 C.2.1 dX10_withheld_24 rfl (lv_at hl 0 rfl) ?_
            refine zd_iconst C dX10_withheld_25 ?_
            refine lv_aload_n C.1 C.2.1 dX10_withheld_26 rfl (lv_at hl 3 rfl) ?_
            refine zg10_4 C hH (zW_n hC) (zW_k hC) q_573 (zW_lw hC).1 dX10_withheld_27 ?_
            refine zg1_2 C hH (zChart_n0 (zW_lw hC).2.2.2.1.1) (zChart_k0 (zW_lw hC).2.2.2.1.1) q_398 dX10_withheld_30 ?_
            refine zd_ishl C dX10_withheld_33 ?_
            refine zd_icmp_ge C hu (zI_rg _) 72 dX10_withheld_34 (by decide) (fun c12 => ?_) (fun c12 => ?_)
            · have hF := hF.1 c12
              refine zd_iinc (k := 1) (lv' := [(2, .int (zI (k + 1))), (3, .int (zI (u))), (1, .int (zI (r4))), (0, .ref (bs + (i)))]) C hl rfl dX10_withheld_72 (by decide) rfl (fun ls hl => ?_)
              refine lv_goto (tgt := 17) C.1 C.2.1 dX10_withheld_75 (by decide) ?_
              obtain ⟨o13, hF⟩ := hF
              exact ih5 (k + 1) X10 Y11 o13 hF.1 (Nat.lt_of_lt_of_le hF.2 (Nat.le_of_lt_succ hmu5)) _ _ _ hH hS (lv_sub hl [0, 2, 3] rfl)
            · have hF := hF.2 c12
              refine lv_iload_n C.1 C.2.1 dX10_withheld_37 rfl (lv_at hl 0 rfl) ?_
              refine zgoi (zrunS (As := [.int (zI (u))]) (rest := []) C hE hH hS hl.1 (c_J6_bitCount_0f7a4 (l := l)  (u) hu) k_RX10_317 ⟨Nat.le_of_ble_eq_true rfl, Nat.le_of_ble_eq_true rfl⟩ rfl (Nat.le_of_ble_eq_true rfl) dX10_withheld_38 ⟨Nat.zero_le _, Nat.zero_le _⟩) hS (fun rq Xq Yq Rq H locs hrq hq hH hS => ?_)
              obtain ⟨h91, h92⟩ := hq
              have h93 : Xq = X10 := congrArg (fun z => z.1) h92
              have h94 : Yq = Y11 := congrArg (fun z => z.2.1) h92
              have h95 : Rq = R := congrArg (fun z => z.2.2) h92
              rw [h93, h94, h95] at hH
              subst h91
              have hr14 := hrq
              have hF := hF hr14
              refine lv_iload_n C.1 C.2.1 dX10_withheld_41 rfl (lv_at hl 1 rfl) ?_
              refine zd_icmp_ne C hr14 hk 66 dX10_withheld_42 (by decide) (fun c15 => ?_) (fun c15 => ?_)
              · have hF := hF.1 c15
                refine zd_iinc (k := 0) (lv' := [(3, .int (zI (u + 2))), (2, .int (zI (k))), (1, .int (zI (r4))), (0, .ref (bs + (i)))]) C hl rfl dX10_withheld_66 (by decide) rfl (fun ls hl => ?_)
                refine lv_goto (tgt := 24) C.1 C.2.1 dX10_withheld_69 (by decide) ?_
                obtain ⟨o16, hF⟩ := hF
                exact ih9 (u + 2) X10 Y11 o16 hF.1 (Nat.lt_of_lt_of_le hF.2 (Nat.le_of_lt_succ hmu9)) _ _ _ hH hS (lv_sub hl [0, 1, 2, 3] rfl)
              · have hF := hF.2 c15
                refine lv_aload_n C.1 C.2.1 dX10_withheld_45 rfl (lv_at hl 3 rfl) ?_
                refine zg10_4 C hH (zW_n hC) (zW_k hC) q_573 (zW_lw hC).1 dX10_withheld_46 ?_
                refine lv_aload_n C.1 C.2.1 dX10_withheld_49 rfl (lv_at hl 3 rfl) ?_
                refine zg10_4 C hH (zW_n hC) (zW_k hC) q_573 (zW_lw hC).1 dX10_withheld_50 ?_
                refine lv_iload_n C.1 C.2.1 dX10_withheld_53 rfl (lv_at hl 0 rfl) ?_
                obtain ⟨o17, hF⟩ := hF
                refine zgoi (zrunV (As := [.int (zI (u))]) (rest := [.ref (bs + (i + 157))]) C hE hH hS hl.1 (c_X1_soundWithout (l := l) (zW_lw hC).2.2.2.1.1 (u) hu o17) k_RX10_323 ⟨Nat.le_of_ble_eq_true rfl, Nat.le_of_ble_eq_true rfl⟩ (zChart_n0 (zW_lw hC).2.2.2.1.1) (zChart_k0 (zW_lw hC).2.2.2.1.1) rfl rfl rfl (Nat.le_of_ble_eq_true rfl) dX10_withheld_54 ⟨Nat.zero_le _, Nat.zero_le _⟩) hS (fun rq Xq Yq Rq H locs hrq hq hH hS => ?_)
                obtain ⟨h91, h92⟩ := hq
                have h93 : Xq = X10 := congrArg (fun z => z.1) h92
                have h94 : Yq = Y11 := congrArg (fun z => z.2.1) h92
                have h95 : Rq = R := congrArg (fun z => z.2.2) h92
                rw [h93, h94, h95] at hH
                subst h91
                have hr18 := hrq
                have hF := hF hr18
                obtain ⟨o19, hF⟩ := hF
                refine zgoi (zrunV (As := [.int (zI (bS (mWo Z q (u)) (Z q 27).toNat))]) (rest := []) C hE hH hS hl.1 (c_X1_tipOf (l := l) (zW_lw hC).2.2.2.1.1 (bS (mWo Z q (u)) (Z q 27).toNat) hr18 o19) k_RX10_305 ⟨Nat.le_of_ble_eq_true rfl, Nat.le_of_ble_eq_true rfl⟩ (zChart_n0 (zW_lw hC).2.2.2.1.1) (zChart_k0 (zW_lw hC).2.2.2.1.1) rfl rfl rfl (Nat.le_of_ble_eq_true rfl) dX10_withheld_57 ⟨Nat.zero_le _, Nat.zero_le _⟩) hS (fun r22 X20 Y21 Rq H locs hrq hq hH hS => ?_)
                obtain ⟨h9R, hq⟩ := hq
                dsimp only at h9R
                rw [h9R] at hH
                have hr22 := hrq
                have hF := hF r22 hrq X20 hH.2.2.1 Y21 hH.2.2.2 hq
                refine lv_iload_n C.1 C.2.1 dX10_withheld_60 rfl (lv_at hl 2 rfl) ?_
                refine zd_icmp_eq C hr22 hr4 66 dX10_withheld_61 (by decide) (fun c23 => ?_) (fun c23 => ?_)
                · have hF := hF.1 c23
                  refine zd_iinc (k := 0) (lv' := [(3, .int (zI (u + 2))), (2, .int (zI (k))), (1, .int (zI (r4))), (0, .ref (bs + (i)))]) C hl rfl dX10_withheld_66 (by decide) rfl (fun ls hl => ?_)
                  refine lv_goto (tgt := 24) C.1 C.2.1 dX10_withheld_69 (by decide) ?_
                  obtain ⟨o24, hF⟩ := hF
                  exact ih9 (u + 2) X20 Y21 o24 hF.1 (Nat.lt_of_lt_of_le hF.2 (Nat.le_of_lt_succ hmu9)) _ _ _ hH hS (lv_sub hl [0, 1, 2, 3] rfl)
                · have hF := hF.2 c23
                  refine lv_iload_n C.1 C.2.1 dX10_withheld_64 rfl (lv_at hl 0 rfl) ?_
                  exact zd_iret C hr hlk hH hS hu (⟨rfl, hF⟩) dX10_withheld_65
        exact L9 (((40000 - ((2 : Int))).toNat) + 1) ((2 : Int)) X6 Y7 (by decide) hI9 (Nat.lt_succ_self _) _ _ _ hH hS (lv_sub hl [0, 1, 2, 3] rfl)
  exact L5 (((20 - ((1 : Int))).toNat) + 1) ((1 : Int)) X2 Y3 (by decide) hI5 (Nat.lt_succ_self _) _ _ _ hH hS (lv_sub hl [0, 1, 2] rfl)
theorem v_X10_withheld {X Y : Nat → Int → Int} {R : Nat → Int → Option Nat} {i : Nat} {Z : Nat → Int → Int} {q : Nat}  (hp : cA Z q X Y R (i + 157) ∧ X (cn R (i + 157)) 3 = Z q 28) : F_X10_withheld i Z q X Y R  := by
  unfold F_X10_withheld
  intro hX hY
  obtain ⟨hA, h28⟩ := hp
  have l := cA_l hA
  have P2 := p2_b (Z q 27).toNat (by omega) (by omega)
  rw [l.2.2] at P2
  obtain ⟨M9, hM9⟩ : ∃ M, M = 2 ^ ((Z q 27).toNat - 1) := ⟨_, rfl⟩
  rw [← hM9] at P2 ⊢
  refine ⟨?_, ?_⟩
  · exact ⟨hA, cl_sdf hA⟩
  intro r4
  intro _
  intro X2
  intro rX2
  intro Y3
  intro rY3
  intro h1
  obtain ⟨hr4, f4⟩ := h1
  rw [h28, tw_0 hA] at hr4
  refine ⟨?_, ?_⟩
  · exact ⟨1, rfl, by omega, f4, fun e he g => absurd g (by omega)⟩
  intro k X6 Y7
  intro _
  intro rX6
  intro rY7
  intro h2
  obtain ⟨s, rfl, s14, f6, hs⟩ := h2
  refine ⟨?_, ?_⟩
  · intro c1
    exact ⟨(whN_no _ P2.2.1 (fun e he g => hs e he ⟨g.1, by omega⟩)).symm, f6⟩
  intro c2
  refine ⟨?_, ?_⟩
  · refine ⟨1, rfl, ⟨Nat.le_refl _, P2.1⟩, f6, fun e he g => ?_⟩
    rw [show e = 0 by omega]
    rfl
  intro u X10 Y11
  intro _
  intro rX10
  intro rY11
  intro h3
  obtain ⟨m, rfl, m1, f10, hm⟩ := h3
  have g2 : X10 (i + 157) 2 = X (i + 157) 2 := by rw [f10.1 _ (by omega)]
  have hA10 := cA_k f10 hA
  refine ⟨?_, ?_⟩
  · intro c3
    rw [g2, l.1, P2.2.2] at c3
    refine ⟨?_, ?_⟩
    · first | omega | exact ⟨by omega, by omega⟩ | decide | assumption | exact ⟨by omega, by omega, by omega⟩ | exact ⟨by decide, by decide⟩
    refine ⟨?_, ?_⟩
    · refine ⟨s + 1, by omega, by omega, f10, fun e he g => ?_⟩
      by_cases c : mOnes (2 * (e : Nat)) = s
      · exact hm e (by omega) c
      · exact hs e he ⟨g.1, by omega⟩
    first | omega | exact ⟨by omega, by omega⟩ | decide | assumption | exact ⟨by omega, by omega, by omega⟩ | exact ⟨by decide, by decide⟩
  intro c4
  rw [g2, l.1, P2.2.2] at c4
  have mo := mBc_ones (s := 2 * (m : Int)) (by omega) (by omega)
  intro _
  refine ⟨?_, ?_⟩
  · intro c5
    rw [mo] at c5
    refine ⟨?_, ?_⟩
    · exact ⟨by omega, by omega⟩
    refine ⟨?_, ?_⟩
    · refine ⟨m + 1, by omega, by omega, f10, fun e he g => ?_⟩
      by_cases c : e = m
      · rw [c] at g
        exact absurd g c5
      · exact hm e (by omega) g
    exact (wh_m (q := m) (M := M9) (by omega) (by omega)).2.2
  intro c6
  rw [mo] at c6
  have c6 := Classical.not_not.mp c6
  refine ⟨?_, ?_⟩
  · exact ⟨hA10, has_even (by omega)⟩
  intro _
  refine ⟨?_, ?_⟩
  · exact ⟨hA10, tw_cl hA10 _⟩
  intro r22
  intro _
  intro X20
  intro rX20
  intro Y21
  intro rY21
  intro h4
  obtain ⟨hr22, f20⟩ := h4
  rw [f10.1 _ (show cn R (i + 157) ≠ i + 157 + 16 by have := hA.2.2.1.2; omega), h28, tw_e hA10 (2 * (m : Int))] at hr22
  have ft := f10.tr f20
  refine ⟨?_, ?_⟩
  · intro c7
    refine ⟨?_, ?_⟩
    · exact ⟨by omega, by omega⟩
    refine ⟨?_, ?_⟩
    · refine ⟨m + 1, by omega, by omega, ft, fun e he g => ?_⟩
      by_cases c : e = m
      · rw [c]
        rw [hr22, hr4] at c7
        exact Int.ofNat.inj c7
      · exact hm e (by omega) g
    exact (wh_m (q := m) (M := M9) (by omega) (by omega)).2.2
  intro c8
  refine ⟨?_, ft⟩
  have g := whN_at (tp := tpW Z q) (m := m) (by omega) (fun z => c8 (by rw [hr22, hr4]; exact congrArg Int.ofNat z)) (M9 - (m + 1)) (by omega) (fun e he g => hs e (by omega) ⟨g.1, by omega⟩) (fun e he g => hm e he (by omega))
  rw [show m + 1 + (M9 - (m + 1)) = M9 by omega] at g
  exact g.symm
theorem c_X10_withheld {l : Launch} {D : va_G} {cy : Nat → ClassId} {bs N : Nat} {sa : Nat → Nat} {kd len : Nat → Nat} {X Y : Nat → Int → Int} {R : Nat → Int → Option Nat} {i : Nat} {Z : Nat → Int → Int} {q : Nat} (hC : zWC N kd len R i)  (hp : cA Z q X Y R (i + 157) ∧ X (cn R (i + 157)) 3 = Z q 28) : Met l yX10_withheld (.code yX10_withheld cX10_withheld 4 (some .int) :: zTB) (zRm 3 69) (zPc D cy bs sa N kd len X Y R [.ref (bs + (i))]) (zQi D cy bs N kd len (fun r st => st.2.2 = R ∧ (r = whN (tpW Z q) (2 ^ ((Z q 27).toNat - 1)) ∧ fvK X (st.1) Y (st.2.1) (i + 157)))) 0 0 (zA bs) := w_X10_withheld hC  (v_X10_withheld  hp)
abbrev cX10_withheldSize : ByteArray := prog_1_method_27_code
def yX10_withheldSize : MethodName := ⟨RX10, "withheldSize", "()I"⟩
theorem dX10_withheldSize_0 : decode cX10_withheldSize 0 = .ok (.aload_n 0, 1) := by decide +kernel
theorem dX10_withheldSize_1 : decode cX10_withheldSize 1 = .ok (.invokevirtual 314, 3) := by decide +kernel
theorem dX10_withheldSize_4 : decode cX10_withheldSize 4 = .ok (.istore_n 1, 1) := by decide +kernel
theorem dX10_withheldSize_5 : decode cX10_withheldSize 5 = .ok (.iload_n 1, 1) := by decide +kernel
theorem dX10_withheldSize_6 : decode cX10_withheldSize 6 = .ok (.iconst (-1), 1) := by decide +kernel
theorem dX10_withheldSize_7 : decode cX10_withheldSize 7 = .ok (.if_icmp .ne 7, 3) := by decide +kernel
theorem dX10_withheldSize_10 : decode cX10_withheldSize 10 = .ok (.iconst (-1), 1) := by decide +kernel
theorem dX10_withheldSize_11 : decode cX10_withheldSize 11 = .ok (.goto 7, 3) := by decide +kernel
theorem dX10_withheldSize_14 : decode cX10_withheldSize 14 = .ok (.iload_n 1, 1) := by decide +kernel
theorem dX10_withheldSize_15 : decode cX10_withheldSize 15 = .ok (.invokestatic 317, 3) := by decide +kernel
theorem dX10_withheldSize_18 : decode cX10_withheldSize 18 = .ok (.ireturn, 1) := by decide +kernel
theorem q_1076 : Cond.methodLink RX10 314 yX10_withheld ∈ zTB := zmem 1076 (by decide +kernel) rfl
theorem q_1078 : Cond.instanceMethod yX10_withheld ∈ zTB := zmem 1078 (by decide +kernel) rfl
theorem q_25 : Cond.selects RX10 yX10_withheld yX10_withheld ∈ zTB := zmem 25 (by decide +kernel) rfl
theorem q_1079 : Cond.code yX10_withheld cX10_withheld 4 (some .int) ∈ zTB := zmem 1079 (by decide +kernel) rfl
theorem k_RX10_314 : zLv RX10 314 RX10 yX10_withheld cX10_withheld 4 (some .int) 0 := ⟨⟨q_1076, q_1078, q_25, q_129, q_1079⟩, rfl, ⟨by decide, by decide⟩, by decide +kernel⟩
def F_X10_withheldSize (i : Nat) (Z : Nat → Int → Int) (q : Nat) (X Y : Nat → Int → Int) (R : Nat → Int → Option Nat)  : Prop := (∀ i j, rI (X i j)) → (∀ i j, rL (Y i j)) → (cA Z q X Y R (i + 157) ∧ X (cn R (i + 157)) 3 = Z q 28) ∧ (∀ r4 : Int, rI r4 → ∀ X2 : Nat → Int → Int, (∀ i j, rI (X2 i j)) → ∀ Y3 : Nat → Int → Int, (∀ i j, rL (Y3 i j)) → (r4 = whN (tpW Z q) (2 ^ ((Z q 27).toNat - 1)) ∧ fvK X (X2) Y (Y3) (i + 157)) → (((¬ r4 = (-1)) → (rI (mBc (r4)) → ((mBc (r4)) = (if whN (tpW Z q) (2 ^ ((Z q 27).toNat - 1)) = -1 then -1 else mOnes (whN (tpW Z q) (2 ^ ((Z q 27).toNat - 1)))) ∧ fvK X (X2) Y (Y3) (i + 157)))) ∧ ((¬ (¬ r4 = (-1))) → ((-1) = (if whN (tpW Z q) (2 ^ ((Z q 27).toNat - 1)) = -1 then -1 else mOnes (whN (tpW Z q) (2 ^ ((Z q 27).toNat - 1)))) ∧ fvK X (X2) Y (Y3) (i + 157)))))
set_option maxHeartbeats 4000000 in
set_option maxRecDepth 100000 in
theorem w_X10_withheldSize {l : Launch} {D : va_G} {cy : Nat → ClassId} {bs N : Nat} {sa : Nat → Nat} {kd len : Nat → Nat} {X Y : Nat → Int → Int} {R : Nat → Int → Option Nat} {i : Nat} {Z : Nat → Int → Int} {q : Nat} (hC : zWC N kd len R i)  (hF : F_X10_withheldSize i Z q X Y R ) : Met l yX10_withheldSize (.code yX10_withheldSize cX10_withheldSize 2 (some .int) :: zTB) (zRm 4 92) (zPc D cy bs sa N kd len X Y R [.ref (bs + (i))]) (zQi D cy bs N kd len (fun r st => st.2.2 = R ∧ (r = (if whN (tpW Z q) (2 ^ ((Z q 27).toNat - 1)) = -1 then -1 else mOnes (whN (tpW Z q) (2 ^ ((Z q 27).toNat - 1)))) ∧ fvK X (st.1) Y (st.2.1) (i + 157)))) 0 0 (zA bs) := by
  refine zstart (by decide) (Nat.le_of_ble_eq_true rfl) ?_
  intro p e s m args below meth c ls C hE hH hr hlk hnm hl hargs
  have hF := hF hH.2.2.1 hH.2.2.2
  have hS : va_S (zA bs) s.heap s.heap [] := va_S.rf
  have hl : lv_has ls 2 [(0, .ref (bs + (i)))] := hl
  refine lv_aload_n C.1 C.2.1 dX10_withheldSize_0 rfl (lv_at hl 0 rfl) ?_
  obtain ⟨o1, hF⟩ := hF
  refine zgoi (zrunV (As := []) (rest := []) C hE hH hS hl.1 (c_X10_withheld (l := l) hC  o1) k_RX10_314 ⟨Nat.le_of_ble_eq_true rfl, Nat.le_of_ble_eq_true rfl⟩ (zW_n hC) (zW_k hC) rfl rfl rfl (Nat.le_of_ble_eq_true rfl) dX10_withheldSize_1 ⟨Nat.zero_le _, Nat.zero_le _⟩) hS (fun r4 X2 Y3 Rq H locs hrq hq hH hS => ?_)
  obtain ⟨h9R, hq⟩ := hq
  dsimp only at h9R
  rw [h9R] at hH
  have hr4 := hrq
  have hF := hF r4 hrq X2 hH.2.2.1 Y3 hH.2.2.2 hq
  refine lv_istore_n (lv' := [(1, .int (zI (r4))), (0, .ref (bs + (i)))]) C.1 C.2.1 dX10_withheldSize_4 rfl hl (by decide) rfl (fun ls hl => ?_)
  refine lv_iload_n C.1 C.2.1 dX10_withheldSize_5 rfl (lv_at hl 0 rfl) ?_
  refine zd_iconst C dX10_withheldSize_6 ?_
  refine zd_icmp_ne C hr4 (by decide) 14 dX10_withheldSize_7 (by decide) (fun c5 => ?_) (fun c5 => ?_)
  · have hF := hF.1 c5
    refine lv_iload_n C.1 C.2.1 dX10_withheldSize_14 rfl (lv_at hl 0 rfl) ?_
    refine zgoi (zrunS (As := [.int (zI (r4))]) (rest := []) C hE hH hS hl.1 (c_J6_bitCount_0f7a4 (l := l)  (r4) hr4) k_RX10_317 ⟨Nat.le_of_ble_eq_true rfl, Nat.le_of_ble_eq_true rfl⟩ rfl (Nat.le_of_ble_eq_true rfl) dX10_withheldSize_15 ⟨Nat.zero_le _, Nat.zero_le _⟩) hS (fun rq Xq Yq Rq H locs hrq hq hH hS => ?_)
    obtain ⟨h91, h92⟩ := hq
    have h93 : Xq = X2 := congrArg (fun z => z.1) h92
    have h94 : Yq = Y3 := congrArg (fun z => z.2.1) h92
    have h95 : Rq = R := congrArg (fun z => z.2.2) h92
    rw [h93, h94, h95] at hH
    subst h91
    have hr6 := hrq
    have hF := hF hr6
    exact zd_iret C hr hlk hH hS hr6 (⟨rfl, hF⟩) dX10_withheldSize_18
  · have hF := hF.2 c5
    refine zd_iconst C dX10_withheldSize_10 ?_
    refine lv_goto (tgt := 18) C.1 C.2.1 dX10_withheldSize_11 (by decide) ?_
    exact zd_iret C hr hlk hH hS (by decide) (⟨rfl, hF⟩) dX10_withheldSize_18
theorem v_X10_withheldSize {X Y : Nat → Int → Int} {R : Nat → Int → Option Nat} {i : Nat} {Z : Nat → Int → Int} {q : Nat}  (hp : cA Z q X Y R (i + 157) ∧ X (cn R (i + 157)) 3 = Z q 28) : F_X10_withheldSize i Z q X Y R  := by
  unfold F_X10_withheldSize
  intro hX hY
  have hA := hp.1
  have l := cA_l hA
  have P2 := p2_b (Z q 27).toNat (by omega) (by omega)
  have wb := whN_b (tpW Z q) (2 ^ ((Z q 27).toNat - 1))
  refine ⟨?_, ?_⟩
  · exact hp
  intro r4
  intro _
  intro X2
  intro rX2
  intro Y3
  intro rY3
  intro h1
  obtain ⟨rfl, f⟩ := h1
  refine ⟨?_, ?_⟩
  · intro c1
    intro _
    exact ⟨by rw [if_neg c1, mBc_ones (by omega) (by omega)], f⟩
  intro c2
  exact ⟨by rw [if_pos (Classical.not_not.mp c2)], f⟩
theorem c_X10_withheldSize {l : Launch} {D : va_G} {cy : Nat → ClassId} {bs N : Nat} {sa : Nat → Nat} {kd len : Nat → Nat} {X Y : Nat → Int → Int} {R : Nat → Int → Option Nat} {i : Nat} {Z : Nat → Int → Int} {q : Nat} (hC : zWC N kd len R i)  (hp : cA Z q X Y R (i + 157) ∧ X (cn R (i + 157)) 3 = Z q 28) : Met l yX10_withheldSize (.code yX10_withheldSize cX10_withheldSize 2 (some .int) :: zTB) (zRm 4 92) (zPc D cy bs sa N kd len X Y R [.ref (bs + (i))]) (zQi D cy bs N kd len (fun r st => st.2.2 = R ∧ (r = (if whN (tpW Z q) (2 ^ ((Z q 27).toNat - 1)) = -1 then -1 else mOnes (whN (tpW Z q) (2 ^ ((Z q 27).toNat - 1)))) ∧ fvK X (st.1) Y (st.2.1) (i + 157)))) 0 0 (zA bs) := w_X10_withheldSize hC  (v_X10_withheldSize  hp)
abbrev cX10_tip : ByteArray := prog_1_method_26_code
def yX10_tip : MethodName := ⟨RX10, "tip", "(III)I"⟩
theorem dX10_tip_0 : decode cX10_tip 0 = .ok (.aload_n 0, 1) := by decide +kernel
theorem dX10_tip_1 : decode cX10_tip 1 = .ok (.iload_n 1, 1) := by decide +kernel
theorem dX10_tip_2 : decode cX10_tip 2 = .ok (.iload_n 2, 1) := by decide +kernel
theorem dX10_tip_3 : decode cX10_tip 3 = .ok (.invokevirtual 202, 3) := by decide +kernel
theorem dX10_tip_6 : decode cX10_tip 6 = .ok (.ifCond .ne 6, 3) := by decide +kernel
theorem dX10_tip_9 : decode cX10_tip 9 = .ok (.bipush (-2), 2) := by decide +kernel
theorem dX10_tip_11 : decode cX10_tip 11 = .ok (.ireturn, 1) := by decide +kernel
theorem dX10_tip_12 : decode cX10_tip 12 = .ok (.iload_n 3, 1) := by decide +kernel
theorem dX10_tip_13 : decode cX10_tip 13 = .ok (.tableswitch 64 0 3 #[31, 46, 54, 59], 31) := by decide +kernel
theorem dX10_tip_44 : decode cX10_tip 44 = .ok (.aload_n 0, 1) := by decide +kernel
theorem dX10_tip_45 : decode cX10_tip 45 = .ok (.getfield 34, 3) := by decide +kernel
theorem dX10_tip_48 : decode cX10_tip 48 = .ok (.aload_n 0, 1) := by decide +kernel
theorem dX10_tip_49 : decode cX10_tip 49 = .ok (.getfield 34, 3) := by decide +kernel
theorem dX10_tip_52 : decode cX10_tip 52 = .ok (.getfield 302, 3) := by decide +kernel
theorem dX10_tip_55 : decode cX10_tip 55 = .ok (.invokevirtual 305, 3) := by decide +kernel
theorem dX10_tip_58 : decode cX10_tip 58 = .ok (.ireturn, 1) := by decide +kernel
theorem dX10_tip_59 : decode cX10_tip 59 = .ok (.aload_n 0, 1) := by decide +kernel
theorem dX10_tip_60 : decode cX10_tip 60 = .ok (.getfield 34, 3) := by decide +kernel
theorem dX10_tip_63 : decode cX10_tip 63 = .ok (.invokevirtual 308, 3) := by decide +kernel
theorem dX10_tip_66 : decode cX10_tip 66 = .ok (.ireturn, 1) := by decide +kernel
theorem dX10_tip_67 : decode cX10_tip 67 = .ok (.aload_n 0, 1) := by decide +kernel
theorem dX10_tip_68 : decode cX10_tip 68 = .ok (.invokevirtual 311, 3) := by decide +kernel
theorem dX10_tip_71 : decode cX10_tip 71 = .ok (.ireturn, 1) := by decide +kernel
theorem dX10_tip_72 : decode cX10_tip 72 = .ok (.aload_n 0, 1) := by decide +kernel
theorem dX10_tip_73 : decode cX10_tip 73 = .ok (.invokevirtual 314, 3) := by decide +kernel
theorem dX10_tip_76 : decode cX10_tip 76 = .ok (.ireturn, 1) := by decide +kernel
theorem dX10_tip_77 : decode cX10_tip 77 = .ok (.bipush (-2), 2) := by decide +kernel
theorem dX10_tip_79 : decode cX10_tip 79 = .ok (.ireturn, 1) := by decide +kernel
theorem q_1064 : Cond.methodLink RX10 308 yX1_tips ∈ zTB := zmem 1064 (by decide +kernel) rfl
theorem q_1065 : Cond.instanceMethod yX1_tips ∈ zTB := zmem 1065 (by decide +kernel) rfl
theorem q_1066 : Cond.selects RX1 yX1_tips yX1_tips ∈ zTB := zmem 1066 (by decide +kernel) rfl
theorem q_1067 : Cond.code yX1_tips cX1_tips 6 (some .int) ∈ zTB := zmem 1067 (by decide +kernel) rfl
theorem k_RX10_308 : zLv RX10 308 RX1 yX1_tips cX1_tips 6 (some .int) 0 := ⟨⟨q_1064, q_1065, q_1066, q_135, q_1067⟩, rfl, ⟨by decide, by decide⟩, by decide +kernel⟩
theorem q_1072 : Cond.methodLink RX10 311 yX10_withheldSize ∈ zTB := zmem 1072 (by decide +kernel) rfl
theorem q_1074 : Cond.instanceMethod yX10_withheldSize ∈ zTB := zmem 1074 (by decide +kernel) rfl
theorem q_24 : Cond.selects RX10 yX10_withheldSize yX10_withheldSize ∈ zTB := zmem 24 (by decide +kernel) rfl
theorem q_1075 : Cond.code yX10_withheldSize cX10_withheldSize 2 (some .int) ∈ zTB := zmem 1075 (by decide +kernel) rfl
theorem k_RX10_311 : zLv RX10 311 RX10 yX10_withheldSize cX10_withheldSize 2 (some .int) 0 := ⟨⟨q_1072, q_1074, q_24, q_129, q_1075⟩, rfl, ⟨by decide, by decide⟩, by decide +kernel⟩
def F_X10_tip (i : Nat) (Z : Nat → Int → Int) (q : Nat) (X Y : Nat → Int → Int) (R : Nat → Int → Option Nat) (a : Int) (b : Int) (g : Int) : Prop := (∀ i j, rI (X i j)) → (∀ i j, rL (Y i j)) → (wcQ Z q X i) ∧ (∀ r5 : Bool, ∀ X2 : Nat → Int → Int, (∀ i j, rI (X2 i j)) → ∀ Y3 : Nat → Int → Int, (∀ i j, rL (Y3 i j)) → ∀ R4 : Nat → Int → Option Nat, (((R4) = wgR Z q R i (a) (b)) ∧ r5 = rOk Z q (a) (b) ∧ (r5 = false → (X2) = X ∧ (Y3) = Y) ∧ (r5 = true → qK X (X2) i ∧ cA (hZ Z q (a) (b) 0) q (X2) (Y3) (R4) (i + 157) ∧ (X2) (cn (R4) (i + 157)) 3 = hZ Z q (a) (b) 0 q 28 ∧ (X2) (cn (R4) (i + 157)) 4 = hZ Z q (a) (b) 0 q 29)) → (((r5 = true) → ((g = 0 → ((cA (hZ Z q a b 0) q X2 Y3 R4 (i + 157) ∧ clF (hZ Z q a b 0) q ((X2 (i + 157) 3))) ∧ (∀ r11 : Int, rI r11 → ∀ X9 : Nat → Int → Int, (∀ i j, rI (X9 i j)) → ∀ Y10 : Nat → Int → Int, (∀ i j, rL (Y10 i j)) → (r11 = ((sTip (X2 (cn R4 (i + 157)) 3) (rP (hZ Z q a b 0) q) (rW (hZ Z q a b 0) q) (rG (hZ Z q a b 0) q) (fun e => mHas ((X2 (i + 157) 3)) e) (fun x y : Nat => decide (x < y)) ((hZ Z q a b 0) q 27).toNat : Nat) : Int) ∧ fvK X2 (X9) Y3 (Y10) (i + 157)) → (((R4) = wgR Z q R i (a) (b)) ∧ r11 = rTipC Z q (a) (b) (g) ∧ qK X (X9) i)))) ∧ (g = 1 → ((cA (hZ Z q a b 0) q X2 Y3 R4 (i + 157) ∧ X2 (cn R4 (i + 157)) 3 = (hZ Z q a b 0) q 28) ∧ (∀ r15 : Int, rI r15 → ∀ X13 : Nat → Int → Int, (∀ i j, rI (X13 i j)) → ∀ Y14 : Nat → Int → Int, (∀ i j, rL (Y14 i j)) → (r15 = rCb (hZ Z q a b 0) q ∧ fvK X2 (X13) Y3 (Y14) (i + 157)) → (((R4) = wgR Z q R i (a) (b)) ∧ r15 = rTipC Z q (a) (b) (g) ∧ qK X (X13) i)))) ∧ (g = 2 → ((cA (hZ Z q a b 0) q X2 Y3 R4 (i + 157) ∧ X2 (cn R4 (i + 157)) 3 = (hZ Z q a b 0) q 28) ∧ (∀ r19 : Int, rI r19 → ∀ X17 : Nat → Int → Int, (∀ i j, rI (X17 i j)) → ∀ Y18 : Nat → Int → Int, (∀ i j, rL (Y18 i j)) → (r19 = (if whN (tpW (hZ Z q a b 0) q) (2 ^ (((hZ Z q a b 0) q 27).toNat - 1)) = -1 then -1 else mOnes (whN (tpW (hZ Z q a b 0) q) (2 ^ (((hZ Z q a b 0) q 27).toNat - 1)))) ∧ fvK X2 (X17) Y3 (Y18) (i + 157)) → (((R4) = wgR Z q R i (a) (b)) ∧ r19 = rTipC Z q (a) (b) (g) ∧ qK X (X17) i)))) ∧ (g = 3 → ((cA (hZ Z q a b 0) q X2 Y3 R4 (i + 157) ∧ X2 (cn R4 (i + 157)) 3 = (hZ Z q a b 0) q 28) ∧ (∀ r23 : Int, rI r23 → ∀ X21 : Nat → Int → Int, (∀ i j, rI (X21 i j)) → ∀ Y22 : Nat → Int → Int, (∀ i j, rL (Y22 i j)) → (r23 = whN (tpW (hZ Z q a b 0) q) (2 ^ (((hZ Z q a b 0) q 27).toNat - 1)) ∧ fvK X2 (X21) Y3 (Y22) (i + 157)) → (((R4) = wgR Z q R i (a) (b)) ∧ r23 = rTipC Z q (a) (b) (g) ∧ qK X (X21) i)))) ∧ ((g < 0 ∨ 3 < g) → (((R4) = wgR Z q R i (a) (b)) ∧ (-2) = rTipC Z q (a) (b) (g) ∧ qK X (X2) i)))) ∧ ((r5 = false) → (((R4) = wgR Z q R i (a) (b)) ∧ (-2) = rTipC Z q (a) (b) (g) ∧ qK X (X2) i))))
set_option maxHeartbeats 4000000 in
set_option maxRecDepth 100000 in
theorem w_X10_tip {l : Launch} {D : va_G} {cy : Nat → ClassId} {bs N : Nat} {sa : Nat → Nat} {kd len : Nat → Nat} {X Y : Nat → Int → Int} {R : Nat → Int → Option Nat} {i : Nat} {Z : Nat → Int → Int} {q : Nat} (hC : zWC N kd len R i) (a : Int) (ha : rI a) (b : Int) (hb : rI b) (g : Int) (hg : rI g) (hF : F_X10_tip i Z q X Y R a b g) : Met l yX10_tip (.code yX10_tip cX10_tip 4 (some .int) :: zTB) (zRm 5 134) (zPc D cy bs sa N kd len X Y R [.ref (bs + (i)), .int (zI (a)), .int (zI (b)), .int (zI (g))]) (zQi D cy bs N kd len (fun r st => (((st.2.2) = wgR Z q R i (a) (b)) ∧ r = rTipC Z q (a) (b) (g) ∧ qK X (st.1) i))) 0 0 (zA bs) := by
  refine zstart (by decide) (Nat.le_of_ble_eq_true rfl) ?_
  intro p e s m args below meth c ls C hE hH hr hlk hnm hl hargs
  have hF := hF hH.2.2.1 hH.2.2.2
  have hS : va_S (zA bs) s.heap s.heap [] := va_S.rf
  have hl : lv_has ls 4 [(0, .ref (bs + (i))), (1, .int (zI (a))), (2, .int (zI (b))), (3, .int (zI (g)))] := hl
  refine lv_aload_n C.1 C.2.1 dX10_tip_0 rfl (lv_at hl 0 rfl) ?_
  refine lv_iload_n C.1 C.2.1 dX10_tip_1 rfl (lv_at hl 1 rfl) ?_
  refine lv_iload_n C.1 C.2.1 dX10_tip_2 rfl (lv_at hl 2 rfl) ?_
  obtain ⟨o1, hF⟩ := hF
  refine zgoi (zrunV (As := [.int (zI (a)), .int (zI (b))]) (rest := []) C hE hH hS hl.1 (c_X10_weigh (l := l) hC (a) ha (b) hb o1) k_RX10_202 ⟨Nat.le_of_ble_eq_true rfl, Nat.le_of_ble_eq_true rfl⟩ (zW_n hC) (zW_k hC) rfl rfl rfl (Nat.le_of_ble_eq_true rfl) dX10_tip_3 ⟨Nat.zero_le _, Nat.zero_le _⟩) hS (fun rq X2 Y3 R4 H locs hrq hq hH hS => ?_)
  obtain ⟨r5, h91, hq⟩ := hq
  subst h91
  have hF := hF r5 X2 hH.2.2.1 Y3 hH.2.2.2 R4 hq
  have hC := zWC_wg hC hq.1
  refine zd_ifB_ne C 12 dX10_tip_6 (by decide) (fun c6 => ?_) (fun c6 => ?_)
  · have hF := hF.1 c6
    refine lv_iload_n C.1 C.2.1 dX10_tip_12 rfl (lv_at hl 3 rfl) ?_
    by_cases c7_0 : g = 0
    · have hF := hF.1 c7_0
      refine zd_tabI C hg 44 (0) c7_0 dX10_tip_13 (by decide) (by decide) rfl (by decide) ?_
      refine lv_aload_n C.1 C.2.1 dX10_tip_44 rfl (lv_at hl 0 rfl) ?_
      refine zg10_4 C hH (zW_n hC) (zW_k hC) q_573 (zW_lw hC).1 dX10_tip_45 ?_
      refine lv_aload_n C.1 C.2.1 dX10_tip_48 rfl (lv_at hl 0 rfl) ?_
      refine zg10_4 C hH (zW_n hC) (zW_k hC) q_573 (zW_lw hC).1 dX10_tip_49 ?_
      refine zg1_3 C hH (zChart_n0 (zW_lw hC).2.2.2.1.1) (zChart_k0 (zW_lw hC).2.2.2.1.1) q_401 dX10_tip_52 ?_
      obtain ⟨o8, hF⟩ := hF
      refine zgoi (zrunV (As := [.int (zI (X2 (i + 157) 3))]) (rest := []) C hE hH hS hl.1 (c_X1_tipOf (l := l) (zW_lw hC).2.2.2.1.1 (X2 (i + 157) 3) (hH.2.2.1 _ _) o8) k_RX10_305 ⟨Nat.le_of_ble_eq_true rfl, Nat.le_of_ble_eq_true rfl⟩ (zChart_n0 (zW_lw hC).2.2.2.1.1) (zChart_k0 (zW_lw hC).2.2.2.1.1) rfl rfl rfl (Nat.le_of_ble_eq_true rfl) dX10_tip_55 ⟨Nat.zero_le _, Nat.zero_le _⟩) hS (fun r11 X9 Y10 Rq H locs hrq hq hH hS => ?_)
      obtain ⟨h9R, hq⟩ := hq
      dsimp only at h9R
      rw [h9R] at hH
      have hr11 := hrq
      have hF := hF r11 hrq X9 hH.2.2.1 Y10 hH.2.2.2 hq
      exact zd_iret C hr hlk hH hS hr11 (hF) dX10_tip_58
    · have hF := hF.2
      by_cases c7_1 : g = 1
      · have hF := hF.1 c7_1
        refine zd_tabI C hg 59 (1) c7_1 dX10_tip_13 (by decide) (by decide) rfl (by decide) ?_
        refine lv_aload_n C.1 C.2.1 dX10_tip_59 rfl (lv_at hl 0 rfl) ?_
        refine zg10_4 C hH (zW_n hC) (zW_k hC) q_573 (zW_lw hC).1 dX10_tip_60 ?_
        obtain ⟨o12, hF⟩ := hF
        refine zgoi (zrunV (As := []) (rest := []) C hE hH hS hl.1 (c_X1_tips (l := l) (zW_lw hC).2.2.2.1.1  o12) k_RX10_308 ⟨Nat.le_of_ble_eq_true rfl, Nat.le_of_ble_eq_true rfl⟩ (zChart_n0 (zW_lw hC).2.2.2.1.1) (zChart_k0 (zW_lw hC).2.2.2.1.1) rfl rfl rfl (Nat.le_of_ble_eq_true rfl) dX10_tip_63 ⟨Nat.zero_le _, Nat.zero_le _⟩) hS (fun r15 X13 Y14 Rq H locs hrq hq hH hS => ?_)
        obtain ⟨h9R, hq⟩ := hq
        dsimp only at h9R
        rw [h9R] at hH
        have hr15 := hrq
        have hF := hF r15 hrq X13 hH.2.2.1 Y14 hH.2.2.2 hq
        exact zd_iret C hr hlk hH hS hr15 (hF) dX10_tip_66
      · have hF := hF.2
        by_cases c7_2 : g = 2
        · have hF := hF.1 c7_2
          refine zd_tabI C hg 67 (2) c7_2 dX10_tip_13 (by decide) (by decide) rfl (by decide) ?_
          refine lv_aload_n C.1 C.2.1 dX10_tip_67 rfl (lv_at hl 0 rfl) ?_
          obtain ⟨o16, hF⟩ := hF
          refine zgoi (zrunV (As := []) (rest := []) C hE hH hS hl.1 (c_X10_withheldSize (l := l) hC  o16) k_RX10_311 ⟨Nat.le_of_ble_eq_true rfl, Nat.le_of_ble_eq_true rfl⟩ (zW_n hC) (zW_k hC) rfl rfl rfl (Nat.le_of_ble_eq_true rfl) dX10_tip_68 ⟨Nat.zero_le _, Nat.zero_le _⟩) hS (fun r19 X17 Y18 Rq H locs hrq hq hH hS => ?_)
          obtain ⟨h9R, hq⟩ := hq
          dsimp only at h9R
          rw [h9R] at hH
          have hr19 := hrq
          have hF := hF r19 hrq X17 hH.2.2.1 Y18 hH.2.2.2 hq
          exact zd_iret C hr hlk hH hS hr19 (hF) dX10_tip_71
        · have hF := hF.2
          by_cases c7_3 : g = 3
          · have hF := hF.1 c7_3
            refine zd_tabI C hg 72 (3) c7_3 dX10_tip_13 (by decide) (by decide) rfl (by decide) ?_
            refine lv_aload_n C.1 C.2.1 dX10_tip_72 rfl (lv_at hl 0 rfl) ?_
            obtain ⟨o20, hF⟩ := hF
            refine zgoi (zrunV (As := []) (rest := []) C hE hH hS hl.1 (c_X10_withheld (l := l) hC  o20) k_RX10_314 ⟨Nat.le_of_ble_eq_true rfl, Nat.le_of_ble_eq_true rfl⟩ (zW_n hC) (zW_k hC) rfl rfl rfl (Nat.le_of_ble_eq_true rfl) dX10_tip_73 ⟨Nat.zero_le _, Nat.zero_le _⟩) hS (fun r23 X21 Y22 Rq H locs hrq hq hH hS => ?_)
            obtain ⟨h9R, hq⟩ := hq
            dsimp only at h9R
            rw [h9R] at hH
            have hr23 := hrq
            have hF := hF r23 hrq X21 hH.2.2.1 Y22 hH.2.2.2 hq
            exact zd_iret C hr hlk hH hS hr23 (hF) dX10_tip_76
          · have hF := hF.2
            have c7 := tsw_0_3 (g) c7_0 c7_1 c7_2 c7_3
            have hF := hF c7
            refine zd_tabO C hg 77 c7 dX10_tip_13 (by decide) ?_
            refine zd_bipush C (by decide) dX10_tip_77 ?_
            exact zd_iret C hr hlk hH hS (by decide) (hF) dX10_tip_79
  · have hF := hF.2 c6
    refine zd_bipush C (by decide) dX10_tip_9 ?_
    exact zd_iret C hr hlk hH hS (by decide) (hF) dX10_tip_11
theorem v_X10_tip {X Y : Nat → Int → Int} {R : Nat → Int → Option Nat} {i : Nat} {Z : Nat → Int → Int} {q : Nat} (a : Int) (ha : rI a) (b : Int) (hb : rI b) (g : Int) (hg : rI g) (hp : wcQ Z q X i) : F_X10_tip i Z q X Y R a b g := by
  unfold F_X10_tip
  intro hX hY
  refine ⟨?_, ?_⟩
  · exact hp
  intro r5
  intro X2
  intro rX2
  intro Y3
  intro rY3
  intro R4
  intro h1
  obtain ⟨eR, er, hf, ht⟩ := h1
  refine ⟨?_, ?_⟩
  · intro c1
    obtain ⟨hk, hA, h39, h49⟩ := ht c1
    have e : rOk Z q a b = true := by rw [← er]; exact c1
    have l := cA_l hA
    have b0 := cA_b hA
    have a6 := cA_a hA
    have e27 := hz_27 (Z := Z) (q := q) (n := a) (c := b) (f := 0)
    have e26 := hz_26 (Z := Z) (q := q) (n := a) (c := b) (f := 0)
    refine ⟨?_, ?_⟩
    · intro c2
      refine ⟨?_, ?_⟩
      · exact ⟨hA, cl_sdf hA⟩
      intro r11
      intro _
      intro X9
      intro rX9
      intro Y10
      intro rY10
      intro h2
      have E : rTipC Z q a b g = tpOf (hZ Z q a b 0) q g := by
        unfold rTipC
        rw [e]
        rfl
      refine ⟨eR, ?_, qK_fv h2.2 hk⟩
      rw [E, h2.1]
      unfold tpOf
      rw [if_pos c2, h39, tw_0 hA]
    refine ⟨?_, ?_⟩
    · intro c3
      refine ⟨?_, ?_⟩
      · exact ⟨hA, h39⟩
      intro r15
      intro _
      intro X13
      intro rX13
      intro Y14
      intro rY14
      intro h3
      have E : rTipC Z q a b g = tpOf (hZ Z q a b 0) q g := by
        unfold rTipC
        rw [e]
        rfl
      refine ⟨eR, ?_, qK_fv h3.2 hk⟩
      rw [E, h3.1]
      unfold tpOf
      rw [if_neg (by omega), if_pos c3]
    refine ⟨?_, ?_⟩
    · intro c4
      refine ⟨?_, ?_⟩
      · exact ⟨hA, h39⟩
      intro r19
      intro _
      intro X17
      intro rX17
      intro Y18
      intro rY18
      intro h4
      have E : rTipC Z q a b g = tpOf (hZ Z q a b 0) q g := by
        unfold rTipC
        rw [e]
        rfl
      refine ⟨eR, ?_, qK_fv h4.2 hk⟩
      rw [E, h4.1]
      unfold tpOf
      rw [if_neg (show ¬ g = 0 by omega), if_neg (show ¬ g = 1 by omega), if_pos c4]
    refine ⟨?_, ?_⟩
    · intro c5
      refine ⟨?_, ?_⟩
      · exact ⟨hA, h39⟩
      intro r23
      intro _
      intro X21
      intro rX21
      intro Y22
      intro rY22
      intro h5
      have E : rTipC Z q a b g = tpOf (hZ Z q a b 0) q g := by
        unfold rTipC
        rw [e]
        rfl
      refine ⟨eR, ?_, qK_fv h5.2 hk⟩
      rw [E, h5.1]
      unfold tpOf
      rw [if_neg (by omega), if_neg (by omega), if_neg (by omega), if_pos c5]
    intro c6
    have E : rTipC Z q a b g = tpOf (hZ Z q a b 0) q g := by
      unfold rTipC
      rw [e]
      rfl
    refine ⟨eR, ?_, hk⟩
    rw [E]
    unfold tpOf
    rw [if_neg (by omega), if_neg (by omega), if_neg (by omega), if_neg (by omega)]
  intro c7
  obtain ⟨rfl, rfl⟩ := hf c7
  have e : rOk Z q a b = false := by rw [← er]; exact c7
  have hk : qK X2 X2 i := ⟨fun _ _ => rfl, hp.2.2⟩
  exact ⟨eR, by unfold rTipC; rw [e]; rfl, hk⟩
theorem c_X10_tip {l : Launch} {D : va_G} {cy : Nat → ClassId} {bs N : Nat} {sa : Nat → Nat} {kd len : Nat → Nat} {X Y : Nat → Int → Int} {R : Nat → Int → Option Nat} {i : Nat} {Z : Nat → Int → Int} {q : Nat} (hC : zWC N kd len R i) (a : Int) (ha : rI a) (b : Int) (hb : rI b) (g : Int) (hg : rI g) (hp : wcQ Z q X i) : Met l yX10_tip (.code yX10_tip cX10_tip 4 (some .int) :: zTB) (zRm 5 134) (zPc D cy bs sa N kd len X Y R [.ref (bs + (i)), .int (zI (a)), .int (zI (b)), .int (zI (g))]) (zQi D cy bs N kd len (fun r st => (((st.2.2) = wgR Z q R i (a) (b)) ∧ r = rTipC Z q (a) (b) (g) ∧ qK X (st.1) i))) 0 0 (zA bs) := w_X10_tip hC a ha b hb g hg (v_X10_tip a ha b hb g hg hp)
abbrev cX10_inLeastTerms : ByteArray := prog_1_method_44_code
def yX10_inLeastTerms : MethodName := ⟨RX10, "inLeastTerms", "(JJZ)J"⟩
theorem dX10_inLeastTerms_0 : decode cX10_inLeastTerms 0 = .ok (.lload_n 0, 1) := by decide +kernel
theorem dX10_inLeastTerms_1 : decode cX10_inLeastTerms 1 = .ok (.lstore 5, 2) := by decide +kernel
theorem dX10_inLeastTerms_3 : decode cX10_inLeastTerms 3 = .ok (.lload_n 2, 1) := by decide +kernel
theorem dX10_inLeastTerms_4 : decode cX10_inLeastTerms 4 = .ok (.lstore 7, 2) := by decide +kernel
theorem dX10_inLeastTerms_6 : decode cX10_inLeastTerms 6 = .ok (.iconst 0, 1) := by decide +kernel
theorem dX10_inLeastTerms_7 : decode cX10_inLeastTerms 7 = .ok (.istore 9, 2) := by decide +kernel
theorem dX10_inLeastTerms_9 : decode cX10_inLeastTerms 9 = .ok (.iload 9, 2) := by decide +kernel
theorem dX10_inLeastTerms_11 : decode cX10_inLeastTerms 11 = .ok (.bipush 100, 2) := by decide +kernel
theorem dX10_inLeastTerms_13 : decode cX10_inLeastTerms 13 = .ok (.if_icmp .ge 31, 3) := by decide +kernel
theorem dX10_inLeastTerms_16 : decode cX10_inLeastTerms 16 = .ok (.lload 7, 2) := by decide +kernel
theorem dX10_inLeastTerms_18 : decode cX10_inLeastTerms 18 = .ok (.lconst 0, 1) := by decide +kernel
theorem dX10_inLeastTerms_19 : decode cX10_inLeastTerms 19 = .ok (.lcmp, 1) := by decide +kernel
theorem dX10_inLeastTerms_20 : decode cX10_inLeastTerms 20 = .ok (.ifCond .eq 24, 3) := by decide +kernel
theorem dX10_inLeastTerms_23 : decode cX10_inLeastTerms 23 = .ok (.lload 5, 2) := by decide +kernel
theorem dX10_inLeastTerms_25 : decode cX10_inLeastTerms 25 = .ok (.lload 7, 2) := by decide +kernel
theorem dX10_inLeastTerms_27 : decode cX10_inLeastTerms 27 = .ok (.lrem, 1) := by decide +kernel
theorem dX10_inLeastTerms_28 : decode cX10_inLeastTerms 28 = .ok (.lstore 10, 2) := by decide +kernel
theorem dX10_inLeastTerms_30 : decode cX10_inLeastTerms 30 = .ok (.lload 7, 2) := by decide +kernel
theorem dX10_inLeastTerms_32 : decode cX10_inLeastTerms 32 = .ok (.lstore 5, 2) := by decide +kernel
theorem dX10_inLeastTerms_34 : decode cX10_inLeastTerms 34 = .ok (.lload 10, 2) := by decide +kernel
theorem dX10_inLeastTerms_36 : decode cX10_inLeastTerms 36 = .ok (.lstore 7, 2) := by decide +kernel
theorem dX10_inLeastTerms_38 : decode cX10_inLeastTerms 38 = .ok (.iinc 9 1, 3) := by decide +kernel
theorem dX10_inLeastTerms_41 : decode cX10_inLeastTerms 41 = .ok (.goto (-32), 3) := by decide +kernel
theorem dX10_inLeastTerms_44 : decode cX10_inLeastTerms 44 = .ok (.lload 5, 2) := by decide +kernel
theorem dX10_inLeastTerms_46 : decode cX10_inLeastTerms 46 = .ok (.lconst 0, 1) := by decide +kernel
theorem dX10_inLeastTerms_47 : decode cX10_inLeastTerms 47 = .ok (.lcmp, 1) := by decide +kernel
theorem dX10_inLeastTerms_48 : decode cX10_inLeastTerms 48 = .ok (.ifCond .ne 7, 3) := by decide +kernel
theorem dX10_inLeastTerms_51 : decode cX10_inLeastTerms 51 = .ok (.ldc2_w 286, 3) := by decide +kernel
theorem dX10_inLeastTerms_54 : decode cX10_inLeastTerms 54 = .ok (.lreturn, 1) := by decide +kernel
theorem dX10_inLeastTerms_55 : decode cX10_inLeastTerms 55 = .ok (.iload 4, 2) := by decide +kernel
theorem dX10_inLeastTerms_57 : decode cX10_inLeastTerms 57 = .ok (.ifCond .eq 10, 3) := by decide +kernel
theorem dX10_inLeastTerms_60 : decode cX10_inLeastTerms 60 = .ok (.lload_n 2, 1) := by decide +kernel
theorem dX10_inLeastTerms_61 : decode cX10_inLeastTerms 61 = .ok (.lload 5, 2) := by decide +kernel
theorem dX10_inLeastTerms_63 : decode cX10_inLeastTerms 63 = .ok (.ldiv, 1) := by decide +kernel
theorem dX10_inLeastTerms_64 : decode cX10_inLeastTerms 64 = .ok (.goto 7, 3) := by decide +kernel
theorem dX10_inLeastTerms_67 : decode cX10_inLeastTerms 67 = .ok (.lload_n 0, 1) := by decide +kernel
theorem dX10_inLeastTerms_68 : decode cX10_inLeastTerms 68 = .ok (.lload 5, 2) := by decide +kernel
theorem dX10_inLeastTerms_70 : decode cX10_inLeastTerms 70 = .ok (.ldiv, 1) := by decide +kernel
theorem dX10_inLeastTerms_71 : decode cX10_inLeastTerms 71 = .ok (.lreturn, 1) := by decide +kernel
def F_X10_inLeastTerms (X Y : Nat → Int → Int) (R : Nat → Int → Option Nat) (a : Int) (b : Int) (g : Bool) : Prop := (∀ i j, rI (X i j)) → (∀ i j, rL (Y i j)) → (((0 ≤ a ∧ a ≤ 4000000000000) ∧ 0 ≤ b ∧ b ≤ 4000000000000) ∧ (0 ≤ (0 : Int) ∧ (0 : Int) ≤ 100) ∧ mGc a b = mGc a b ∧ lnF a b (0 : Int) ∧ (0 < a ∨ 0 < b)) ∧ (∀ (u : Int) (v : Int) (k : Int), rL u → rL v → rI k → (((0 ≤ u ∧ u ≤ 4000000000000) ∧ 0 ≤ v ∧ v ≤ 4000000000000) ∧ (0 ≤ k ∧ k ≤ 100) ∧ mGc u v = mGc a b ∧ lnF u v k ∧ (0 < u ∨ 0 < v)) → (((100 ≤ k) → (((¬ u = 0) → (((g = false) → ((u ≠ 0 ∧ u ≠ -1) ∧ ((rL ((a).tdiv (u))) ∧ ((a).tdiv (u) = mPt (a) (b) (g))))) ∧ ((g = true) → ((u ≠ 0 ∧ u ≠ -1) ∧ ((rL ((b).tdiv (u))) ∧ ((b).tdiv (u) = mPt (a) (b) (g))))))) ∧ ((¬ (¬ u = 0)) → ((-1) = mPt (a) (b) (g))))) ∧ ((¬ (100 ≤ k)) → (((v = 0) → (((¬ u = 0) → (((g = false) → ((u ≠ 0 ∧ u ≠ -1) ∧ ((rL ((a).tdiv (u))) ∧ ((a).tdiv (u) = mPt (a) (b) (g))))) ∧ ((g = true) → ((u ≠ 0 ∧ u ≠ -1) ∧ ((rL ((b).tdiv (u))) ∧ ((b).tdiv (u) = mPt (a) (b) (g))))))) ∧ ((¬ (¬ u = 0)) → ((-1) = mPt (a) (b) (g))))) ∧ ((¬ (v = 0)) → ((v ≠ 0 ∧ v ≠ -1) ∧ ((rL ((u).tmod (v))) ∧ (rI (k + 1)) ∧ (((0 ≤ v ∧ v ≤ 4000000000000) ∧ 0 ≤ ((u).tmod (v)) ∧ ((u).tmod (v)) ≤ 4000000000000) ∧ (0 ≤ (k + 1) ∧ (k + 1) ≤ 100) ∧ mGc v ((u).tmod (v)) = mGc a b ∧ lnF v ((u).tmod (v)) (k + 1) ∧ (0 < v ∨ 0 < ((u).tmod (v)))) ∧ (((200 - (k + 1)).toNat) < ((200 - (k)).toNat)))))))))
set_option maxHeartbeats 4000000 in
set_option maxRecDepth 100000 in
theorem w_X10_inLeastTerms {l : Launch} {D : va_G} {cy : Nat → ClassId} {bs N : Nat} {sa : Nat → Nat} {kd len : Nat → Nat} {X Y : Nat → Int → Int} {R : Nat → Int → Option Nat}  (a : Int) (ha : rL a) (b : Int) (hb : rL b) (g : Bool) (hF : F_X10_inLeastTerms  X Y R a b g) : Met l yX10_inLeastTerms (.code yX10_inLeastTerms cX10_inLeastTerms 12 (some .long) :: zTB) (zRm 0 0) (zPc D cy bs sa N kd len X Y R [.long (zL (a)), .long (zL (b)), .int (zI (bz (g)))]) (zQl D cy bs N kd len (fun r st => r = mPt (a) (b) (g) ∧ st = (X, Y, R))) 0 0 (zA bs) := by
  refine zstart (by decide) (Nat.le_of_ble_eq_true rfl) ?_
  intro p e s m args below meth c ls C hE hH hr hlk hnm hl hargs
  have hF := hF hH.2.2.1 hH.2.2.2
  have hS : va_S (zA bs) s.heap s.heap [] := va_S.rf
  have hl : lv_has ls 12 [(0, .long (zL (a))), (2, .long (zL (b))), (4, .int (zI (bz (g))))] := hl
  refine lv_lload_n C.1 C.2.1 dX10_inLeastTerms_0 rfl (lv_at hl 0 rfl) ?_
  refine lv_lstore (lv' := [(5, .long (zL (a))), (0, .long (zL (a))), (2, .long (zL (b))), (4, .int (zI (bz (g))))]) C.1 C.2.1 dX10_inLeastTerms_1 hl (by decide) rfl (fun ls hl => ?_)
  refine lv_lload_n C.1 C.2.1 dX10_inLeastTerms_3 rfl (lv_at hl 2 rfl) ?_
  refine lv_lstore (lv' := [(7, .long (zL (b))), (5, .long (zL (a))), (0, .long (zL (a))), (2, .long (zL (b))), (4, .int (zI (bz (g))))]) C.1 C.2.1 dX10_inLeastTerms_4 hl (by decide) rfl (fun ls hl => ?_)
  refine zd_iconst C dX10_inLeastTerms_6 ?_
  refine lv_istore (lv' := [(9, .int (zI (0))), (7, .long (zL (b))), (5, .long (zL (a))), (0, .long (zL (a))), (2, .long (zL (b))), (4, .int (zI (bz (g))))]) C.1 C.2.1 dX10_inLeastTerms_7 hl (by decide) rfl (fun ls hl => ?_)
  obtain ⟨hI1, hF⟩ := hF
  have L1 : ∀ (fu : Nat) (u : Int) (v : Int) (k : Int), rL u → rL v → rI k → (((0 ≤ u ∧ u ≤ 4000000000000) ∧ 0 ≤ v ∧ v ≤ 4000000000000) ∧ (0 ≤ k ∧ k ≤ 100) ∧ mGc u v = mGc a b ∧ lnF u v k ∧ (0 < u ∨ 0 < v)) → ((200 - (k)).toNat) < fu → ∀ (H : Heap) (locs : List Loc) (ls : Array Slot), zH D cy bs N kd len X Y R H → va_S (zA bs) s.heap H locs → lv_has ls 12 [(5, .long (zL (u))), (7, .long (zL (v))), (9, .int (zI (k))), (0, .long (zL (a))), (2, .long (zL (b))), (4, .int (zI (bz (g))))] → W p l e (zRm 0 0) s m args below meth c H locs 0 0 (MQ below (zQl D cy bs N kd len (fun r st => r = mPt (a) (b) (g) ∧ st = (X, Y, R))) args s 0 0 (zA bs)) (F0 m 9 ls []) := by
    intro fu
    induction fu with
    | zero => intro u v k _ _ _ _ hmu; exact absurd hmu (Nat.not_lt_zero _)
    | succ fu ih1 =>
      intro u v k hu hv hk hI hmu1 H locs ls hH hS hl
      have hF := hF u v k hu hv hk  hI
      refine lv_iload C.1 C.2.1 dX10_inLeastTerms_9 (lv_at hl 2 rfl) ?_
      refine zd_bipush C (by decide) dX10_inLeastTerms_11 ?_
      refine zd_icmp_ge C hk (by decide) 44 dX10_inLeastTerms_13 (by decide) (fun c2 => ?_) (fun c2 => ?_)
      · have hF := hF.1 c2
        refine lv_lload C.1 C.2.1 dX10_inLeastTerms_44 (lv_at hl 0 rfl) ?_
        refine lv_lconst (v := zL 0) C.1 C.2.1 dX10_inLeastTerms_46 rfl ?_
        refine zd_lcmp C hu (by decide) dX10_inLeastTerms_47 ?_
        refine zd_ifL_ne C 55 dX10_inLeastTerms_48 (by decide) (fun c3 => ?_) (fun c3 => ?_)
        · have hF := hF.1 c3
          refine lv_iload C.1 C.2.1 dX10_inLeastTerms_55 (lv_at hl 5 rfl) ?_
          refine zd_ifB_eq C 67 dX10_inLeastTerms_57 (by decide) (fun c4 => ?_) (fun c4 => ?_)
          · have hF := hF.1 c4
            refine lv_lload_n C.1 C.2.1 dX10_inLeastTerms_67 rfl (lv_at hl 3 rfl) ?_
            refine lv_lload C.1 C.2.1 dX10_inLeastTerms_68 (lv_at hl 0 rfl) ?_
            obtain ⟨o5, hF⟩ := hF
            refine zd_ldiv C ha hu o5.1 o5.2 dX10_inLeastTerms_70 ?_
            obtain ⟨o6, hF⟩ := hF
            exact zd_lret C hr hlk hH hS o6 (⟨hF, rfl⟩) dX10_inLeastTerms_71
          · have hF := hF.2 c4
            refine lv_lload_n C.1 C.2.1 dX10_inLeastTerms_60 rfl (lv_at hl 4 rfl) ?_
            refine lv_lload C.1 C.2.1 dX10_inLeastTerms_61 (lv_at hl 0 rfl) ?_
            obtain ⟨o7, hF⟩ := hF
            refine zd_ldiv C hb hu o7.1 o7.2 dX10_inLeastTerms_63 ?_
            refine lv_goto (tgt := 71) C.1 C.2.1 dX10_inLeastTerms_64 (by decide) ?_
            obtain ⟨o8, hF⟩ := hF
            exact zd_lret C hr hlk hH hS o8 (⟨hF, rfl⟩) dX10_inLeastTerms_71
        · have hF := hF.2 c3
          refine lv_ldc2 (v := zL (-1)) C.1 C.2.1 C.2.2.2.1 (C.2.2.2.2.1 _ q_1048) dX10_inLeastTerms_51 ?_
          exact zd_lret C hr hlk hH hS (by decide) (⟨hF, rfl⟩) dX10_inLeastTerms_54
      · have hF := hF.2 c2
        refine lv_lload C.1 C.2.1 dX10_inLeastTerms_16 (lv_at hl 1 rfl) ?_
        refine lv_lconst (v := zL 0) C.1 C.2.1 dX10_inLeastTerms_18 rfl ?_
        refine zd_lcmp C hv (by decide) dX10_inLeastTerms_19 ?_
        refine zd_ifL_eq C 44 dX10_inLeastTerms_20 (by decide) (fun c9 => ?_) (fun c9 => ?_)
        · have hF := hF.1 c9
          refine lv_lload C.1 C.2.1 dX10_inLeastTerms_44 (lv_at hl 0 rfl) ?_
          refine lv_lconst (v := zL 0) C.1 C.2.1 dX10_inLeastTerms_46 rfl ?_
          refine zd_lcmp C hu (by decide) dX10_inLeastTerms_47 ?_
          refine zd_ifL_ne C 55 dX10_inLeastTerms_48 (by decide) (fun c10 => ?_) (fun c10 => ?_)
          · have hF := hF.1 c10
            refine lv_iload C.1 C.2.1 dX10_inLeastTerms_55 (lv_at hl 5 rfl) ?_
            refine zd_ifB_eq C 67 dX10_inLeastTerms_57 (by decide) (fun c11 => ?_) (fun c11 => ?_)
            · have hF := hF.1 c11
              refine lv_lload_n C.1 C.2.1 dX10_inLeastTerms_67 rfl (lv_at hl 3 rfl) ?_
              refine lv_lload C.1 C.2.1 dX10_inLeastTerms_68 (lv_at hl 0 rfl) ?_
              obtain ⟨o12, hF⟩ := hF
              refine zd_ldiv C ha hu o12.1 o12.2 dX10_inLeastTerms_70 ?_
              obtain ⟨o13, hF⟩ := hF
              exact zd_lret C hr hlk hH hS o13 (⟨hF, rfl⟩) dX10_inLeastTerms_71
            · have hF := hF.2 c11
              refine lv_lload_n C.1 C.2.1 dX10_inLeastTerms_60 rfl (lv_at hl 4 rfl) ?_
              refine lv_lload C.1 C.2.1 dX10_inLeastTerms_61 (lv_at hl 0 rfl) ?_
              obtain ⟨o14, hF⟩ := hF
              refine zd_ldiv C hb hu o14.1 o14.2 dX10_inLeastTerms_63 ?_
              refine lv_goto (tgt := 71) C.1 C.2.1 dX10_inLeastTerms_64 (by decide) ?_
              obtain ⟨o15, hF⟩ := hF
              exact zd_lret C hr hlk hH hS o15 (⟨hF, rfl⟩) dX10_inLeastTerms_71
          · have hF := hF.2 c10
            refine lv_ldc2 (v := zL (-1)) C.1 C.2.1 C.2.2.2.1 (C.2.2.2.2.1 _ q_1048) dX10_inLeastTerms_51 ?_
            exact zd_lret C hr hlk hH hS (by decide) (⟨hF, rfl⟩) dX10_inLeastTerms_54
        · have hF := hF.2 c9
          refine lv_lload C.1 C.2.1 dX10_inLeastTerms_23 (lv_at hl 0 rfl) ?_
          refine lv_lload C.1 C.2.1 dX10_inLeastTerms_25 (lv_at hl 1 rfl) ?_
          obtain ⟨o16, hF⟩ := hF
          refine zd_lrem C hu hv o16.1 o16.2 dX10_inLeastTerms_27 ?_
          refine lv_lstore (lv' := [(10, .long (zL ((u).tmod (v)))), (5, .long (zL (u))), (7, .long (zL (v))), (9, .int (zI (k))), (0, .long (zL (a))), (2, .long (zL (b))), (4, .int (zI (bz (g))))]) C.1 C.2.1 dX10_inLeastTerms_28 hl (by decide) rfl (fun ls hl => ?_)
          refine lv_lload C.1 C.2.1 dX10_inLeastTerms_30 (lv_at hl 2 rfl) ?_
          refine lv_lstore (lv' := [(5, .long (zL (v))), (10, .long (zL ((u).tmod (v)))), (7, .long (zL (v))), (9, .int (zI (k))), (0, .long (zL (a))), (2, .long (zL (b))), (4, .int (zI (bz (g))))]) C.1 C.2.1 dX10_inLeastTerms_32 hl (by decide) rfl (fun ls hl => ?_)
          refine lv_lload C.1 C.2.1 dX10_inLeastTerms_34 (lv_at hl 1 rfl) ?_
          refine lv_lstore (lv' := [(7, .long (zL ((u).tmod (v)))), (5, .long (zL (v))), (10, .long (zL ((u).tmod (v)))), (9, .int (zI (k))), (0, .long (zL (a))), (2, .long (zL (b))), (4, .int (zI (bz (g))))]) C.1 C.2.1 dX10_inLeastTerms_36 hl (by decide) rfl (fun ls hl => ?_)
          refine zd_iinc (k := 3) (lv' := [(9, .int (zI (k + 1))), (7, .long (zL ((u).tmod (v)))), (5, .long (zL (v))), (10, .long (zL ((u).tmod (v)))), (0, .long (zL (a))), (2, .long (zL (b))), (4, .int (zI (bz (g))))]) C hl rfl dX10_inLeastTerms_38 (by decide) rfl (fun ls hl => ?_)
          refine lv_goto (tgt := 9) C.1 C.2.1 dX10_inLeastTerms_41 (by decide) ?_
          obtain ⟨o17, hF⟩ := hF
          obtain ⟨o18, hF⟩ := hF
          exact ih1 (v) ((u).tmod (v)) (k + 1) hv o17 o18 hF.1 (Nat.lt_of_lt_of_le hF.2 (Nat.le_of_lt_succ hmu1)) _ _ _ hH hS (lv_sub hl [2, 1, 0, 4, 5, 6] rfl)
  exact L1 (((200 - ((0 : Int))).toNat) + 1) (a) (b) ((0 : Int)) ha hb (by decide) hI1 (Nat.lt_succ_self _) _ _ _ hH hS (lv_sub hl [2, 1, 0, 3, 4, 5] rfl)
theorem v_X10_inLeastTerms {X Y : Nat → Int → Int} {R : Nat → Int → Option Nat}  (a : Int) (ha : rL a) (b : Int) (hb : rL b) (g : Bool) (hp : (0 ≤ a ∧ a ≤ 4000000000000) ∧ 1 ≤ b ∧ b ≤ 4000000000000) : F_X10_inLeastTerms  X Y R a b g := by
  unfold F_X10_inLeastTerms
  intro hX hY
  obtain ⟨⟨a0, a1⟩, b0, b1⟩ := hp
  refine ⟨?_, ?_⟩
  · exact ⟨⟨⟨a0, a1⟩, by omega, b1⟩, by omega, rfl, ⟨by show b * 2 ^ 0 ≤ _; omega, fun h => absurd h (by decide)⟩, by omega⟩
  intro u v k
  intro _
  intro _
  intro _
  intro h1
  have hz := h1
  obtain ⟨⟨⟨u0, u1⟩, v0, v1⟩, k01, hg, hl, hp9⟩ := h1
  have m1 := mGc_1 (a := b) (b := a) (by omega)
  refine ⟨?_, ?_⟩
  · intro c1
    have hv : v = 0 := by
      have : k = 100 := by omega
      subst this
      exact lnF_e v0 hl
    subst hv
    rw [mGc_0 u0, mGc_c] at hg
    refine ⟨?_, ?_⟩
    · intro c2
      refine ⟨?_, ?_⟩
      · intro c3
        refine ⟨?_, ?_⟩
        · first | omega | exact ⟨by omega, by omega⟩ | decide | assumption | exact ⟨by omega, by omega, by omega⟩ | exact ⟨by decide, by decide⟩
        refine ⟨?_, ?_⟩
        · exact tdiv_rL ⟨by omega, by omega⟩ (by omega)
        unfold mPt
        rw [c3, hg]
        rfl
      intro c4
      refine ⟨?_, ?_⟩
      · first | omega | exact ⟨by omega, by omega⟩ | decide | assumption | exact ⟨by omega, by omega, by omega⟩ | exact ⟨by decide, by decide⟩
      refine ⟨?_, ?_⟩
      · exact tdiv_rL ⟨by omega, by omega⟩ (by omega)
      unfold mPt
      rw [c4, hg]
      rfl
    intro c5
    exfalso
    omega
  intro c6
  refine ⟨?_, ?_⟩
  · intro c7
    have hv : v = 0 := by
      exact c7
    subst hv
    rw [mGc_0 u0, mGc_c] at hg
    refine ⟨?_, ?_⟩
    · intro c8
      refine ⟨?_, ?_⟩
      · intro c9
        refine ⟨?_, ?_⟩
        · first | omega | exact ⟨by omega, by omega⟩ | decide | assumption | exact ⟨by omega, by omega, by omega⟩ | exact ⟨by decide, by decide⟩
        refine ⟨?_, ?_⟩
        · exact tdiv_rL ⟨by omega, by omega⟩ (by omega)
        unfold mPt
        rw [c9, hg]
        rfl
      intro c10
      refine ⟨?_, ?_⟩
      · first | omega | exact ⟨by omega, by omega⟩ | decide | assumption | exact ⟨by omega, by omega, by omega⟩ | exact ⟨by decide, by decide⟩
      refine ⟨?_, ?_⟩
      · exact tdiv_rL ⟨by omega, by omega⟩ (by omega)
      unfold mPt
      rw [c10, hg]
      rfl
    intro c11
    exfalso
    omega
  intro c12
  have tm0 : 0 ≤ u.tmod v := Int.tmod_nonneg _ u0
  have tm1 : u.tmod v < v := Int.tmod_lt_of_pos _ (by omega)
  have ms := mGc_s (a := u) (b := v) u0 (by omega)
  refine ⟨?_, ?_⟩
  · first | omega | exact ⟨by omega, by omega⟩ | decide | assumption | exact ⟨by omega, by omega, by omega⟩ | exact ⟨by decide, by decide⟩
  refine ⟨?_, ?_⟩
  · exact ⟨by omega, by omega⟩
  refine ⟨?_, ?_⟩
  · first | omega | exact ⟨by omega, by omega⟩ | decide | assumption | exact ⟨by omega, by omega, by omega⟩ | exact ⟨by decide, by decide⟩
  refine ⟨?_, ?_⟩
  · exact ⟨⟨by omega, by omega⟩, by omega, ms.1.symm.trans hg, lnF_s u0 (by omega) (by omega) hl, by omega⟩
  first | omega | exact ⟨by omega, by omega⟩ | decide | assumption | exact ⟨by omega, by omega, by omega⟩ | exact ⟨by decide, by decide⟩
theorem c_X10_inLeastTerms {l : Launch} {D : va_G} {cy : Nat → ClassId} {bs N : Nat} {sa : Nat → Nat} {kd len : Nat → Nat} {X Y : Nat → Int → Int} {R : Nat → Int → Option Nat}  (a : Int) (ha : rL a) (b : Int) (hb : rL b) (g : Bool) (hp : (0 ≤ a ∧ a ≤ 4000000000000) ∧ 1 ≤ b ∧ b ≤ 4000000000000) : Met l yX10_inLeastTerms (.code yX10_inLeastTerms cX10_inLeastTerms 12 (some .long) :: zTB) (zRm 0 0) (zPc D cy bs sa N kd len X Y R [.long (zL (a)), .long (zL (b)), .int (zI (bz (g)))]) (zQl D cy bs N kd len (fun r st => r = mPt (a) (b) (g) ∧ st = (X, Y, R))) 0 0 (zA bs) := w_X10_inLeastTerms  a ha b hb g (v_X10_inLeastTerms a ha b hb g hp)
