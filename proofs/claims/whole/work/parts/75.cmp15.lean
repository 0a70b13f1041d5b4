/-! WHICH BLOCKS OF A CHART ARE SOUND -/
def soE (X : Nat → Int → Int) (i : Nat) (a : Int) : Bool := decide (0 ≤ a ∧ a ≤ X i 2) && mHas (X i 3) a
def pyP (X : Nat → Int → Int) (b : Nat) : Prop := ∀ y : Int, 0 ≤ y → y < 135 → 0 ≤ X (b + 5) y ∧ X (b + 5) y ≤ 99
/-- the same as far as there are accounts -/
def eqB (acc : Int) (L M : Int → Int) : Prop := ∀ a, 0 ≤ a → a < 6 → (a < acc → L a = M a) ∧ (acc ≤ a → 0 ≤ L a ∧ L a ≤ 99)
def jR (Z : Nat → Int → Int) (q : Nat) (X : Nat → Int → Int) (i : Nat) (n : Int) : Prop := X i 3 = bS (sdf Z q) n.toNat ∧ ∀ k : Nat, (k : Int) < n → ∀ M, rS Z q k = some M → X (i + 17 + 2 * k) 0 = Z q 26 ∧ eqB (Z q 26) (X (i + 17 + 2 * k + 1)) M
def jK (X X1 : Nat → Int → Int) (i : Nat) : Prop := (∀ z, z ≠ i → (z < i + 17 ∨ i + 46 < z) → X1 z = X z) ∧ ∀ s, s ≠ 3 → X1 i s = X i s
abbrev cX1_isSound : ByteArray := prog_3_method_7_code
def yX1_isSound : MethodName := ⟨RX1, "isSound", "(I)Z"⟩
theorem dX1_isSound_0 : decode cX1_isSound 0 = .ok (.iload_n 1, 1) := by decide +kernel
theorem dX1_isSound_1 : decode cX1_isSound 1 = .ok (.aload_n 0, 1) := by decide +kernel
theorem dX1_isSound_2 : decode cX1_isSound 2 = .ok (.getfield 68, 3) := by decide +kernel
theorem dX1_isSound_5 : decode cX1_isSound 5 = .ok (.if_icmp .gt 18, 3) := by decide +kernel
theorem dX1_isSound_8 : decode cX1_isSound 8 = .ok (.aload_n 0, 1) := by decide +kernel
theorem dX1_isSound_9 : decode cX1_isSound 9 = .ok (.getfield 69, 3) := by decide +kernel
theorem dX1_isSound_12 : decode cX1_isSound 12 = .ok (.iload_n 1, 1) := by decide +kernel
theorem dX1_isSound_13 : decode cX1_isSound 13 = .ok (.invokestatic 127, 3) := by decide +kernel
theorem dX1_isSound_16 : decode cX1_isSound 16 = .ok (.ifCond .eq 7, 3) := by decide +kernel
theorem dX1_isSound_19 : decode cX1_isSound 19 = .ok (.iconst 1, 1) := by decide +kernel
theorem dX1_isSound_20 : decode cX1_isSound 20 = .ok (.goto 4, 3) := by decide +kernel
theorem dX1_isSound_23 : decode cX1_isSound 23 = .ok (.iconst 0, 1) := by decide +kernel
theorem dX1_isSound_24 : decode cX1_isSound 24 = .ok (.ireturn, 1) := by decide +kernel
theorem q_936 : Cond.static yX10_isIn ∈ zTB := zmem 936 (by decide +kernel) rfl
theorem q_129 : Cond.initialized yX10_isIn.cls ∈ zTB := zmem 129 (by decide +kernel) rfl
theorem q_937 : Cond.code yX10_isIn cX10_isIn 2 (some .boolean) ∈ zTB := zmem 937 (by decide +kernel) rfl
theorem k_RX1_127 : zLsN RX1 127 yX10_isIn "WorkChains" cX10_isIn 2 (some .boolean) 2 := ⟨⟨by decide +kernel, q_936, q_129, q_937⟩, ⟨by decide, by decide⟩, by decide +kernel⟩
def F_X1_isSound (i : Nat) (X Y : Nat → Int → Int) (R : Nat → Int → Option Nat) (a : Int) : Prop := (∀ i j, rI (X i j)) → (∀ i j, rL (Y i j)) → (((X (i) 2) < a) → (0 = bz (soE X i (a)))) ∧ ((¬ ((X (i) 2) < a)) → ((((decide (0 ≤ a ∧ a < 15) && decide (¬ zAnd (zShr (X (i) 3) (a)) 1 = 0)) = false) → (0 = bz (soE X i (a)))) ∧ (((decide (0 ≤ a ∧ a < 15) && decide (¬ zAnd (zShr (X (i) 3) (a)) 1 = 0)) = true) → (1 = bz (soE X i (a))))))
set_option maxHeartbeats 4000000 in
set_option maxRecDepth 100000 in
theorem w_X1_isSound {l : Launch} {D : va_G} {cy : Nat → ClassId} {bs N : Nat} {sa : Nat → Nat} {kd len : Nat → Nat} {X Y : Nat → Int → Int} {R : Nat → Int → Option Nat} {i : Nat} (hC : zChart N kd len R i) (a : Int) (ha : rI a) (hF : F_X1_isSound i X Y R a) : Met l yX1_isSound (.code yX1_isSound cX1_isSound 2 (some .boolean) :: zTB) (zRm 1 21) (zPc D cy bs sa N kd len X Y R [.ref (bs + (i)), .int (zI (a))]) (zQi D cy bs N kd len (fun r st => r = bz (soE X i (a)) ∧ st = (X, Y, R))) 0 0 (zA bs) := by
  refine zstart (by decide) (Nat.le_of_ble_eq_true rfl) ?_
  intro p e s m args below meth c ls C hE hH hr hlk hnm hl hargs
  have hF := hF hH.2.2.1 hH.2.2.2
  have hS : va_S (zA bs) s.heap s.heap [] := va_S.rf
  have hl : lv_has ls 2 [(0, .ref (bs + (i))), (1, .int (zI (a)))] := hl
  refine lv_iload_n C.1 C.2.1 dX1_isSound_0 rfl (lv_at hl 1 rfl) ?_
  refine lv_aload_n C.1 C.2.1 dX1_isSound_1 rfl (lv_at hl 0 rfl) ?_
  refine zg1_2 C hH (zChart_n0 hC) (zChart_k0 hC) q_396 dX1_isSound_2 ?_
  refine zd_icmp_gt C ha (hH.2.2.1 _ _) 23 dX1_isSound_5 (by decide) (fun c1 => ?_) (fun c1 => ?_)
  · have hF := hF.1 c1
    refine zd_iconst C dX1_isSound_23 ?_
    exact zd_zret C hr hlk hH hS (by decide) (⟨hF, rfl⟩) dX1_isSound_24
  · have hF := hF.2 c1
    refine lv_aload_n C.1 C.2.1 dX1_isSound_8 rfl (lv_at hl 0 rfl) ?_
    refine zg1_3 C hH (zChart_n0 hC) (zChart_k0 hC) q_399 dX1_isSound_9 ?_
    refine lv_iload_n C.1 C.2.1 dX1_isSound_12 rfl (lv_at hl 1 rfl) ?_
    refine zgoi (zrunSN (As := [.int (zI (X (i) 3)), .int (zI (a))]) (rest := []) C hE hH hS hl.1 (c_X10_isIn (l := l)  (X (i) 3) (hH.2.2.1 _ _) (a) ha) k_RX1_127 ⟨Nat.le_of_ble_eq_true rfl, Nat.le_of_ble_eq_true rfl⟩ rfl (Nat.le_of_ble_eq_true rfl) dX1_isSound_13 ⟨Nat.zero_le _, Nat.zero_le _⟩) hS (fun rq Xq Yq Rq H locs hrq hq hH hS => ?_)
    obtain ⟨h91, h92⟩ := hq
    have h93 : Xq = X := congrArg (fun z => z.1) h92
    have h94 : Yq = Y := congrArg (fun z => z.2.1) h92
    have h95 : Rq = R := congrArg (fun z => z.2.2) h92
    rw [h93, h94, h95] at hH
    subst h91
    refine zd_ifB_eq C 23 dX1_isSound_16 (by decide) (fun c2 => ?_) (fun c2 => ?_)
    · have hF := hF.1 c2
      refine zd_iconst C dX1_isSound_23 ?_
      exact zd_zret C hr hlk hH hS (by decide) (⟨hF, rfl⟩) dX1_isSound_24
    · have hF := hF.2 c2
      refine zd_iconst C dX1_isSound_19 ?_
      refine lv_goto (tgt := 24) C.1 C.2.1 dX1_isSound_20 (by decide) ?_
      exact zd_zret C hr hlk hH hS (by decide) (⟨hF, rfl⟩) dX1_isSound_24
theorem v_X1_isSound {X Y : Nat → Int → Int} {R : Nat → Int → Option Nat} {i : Nat} (a : Int) (ha : rI a) (hp : X i 2 ≤ 14) : F_X1_isSound i X Y R a := by
  unfold F_X1_isSound
  intro hX hY
  unfold soE
  refine ⟨?_, ?_⟩
  · intro c1
    rw [decide_eq_false (by omega)]
    rfl
  intro c2
  refine ⟨?_, ?_⟩
  · intro c3
    by_cases g : 0 ≤ a
    · rw [isIn_has g (by omega)] at c3
      rw [c3, Bool.and_false]
      rfl
    · rw [decide_eq_false (p := 0 ≤ a ∧ a ≤ X i 2) (by omega)]
      rfl
  intro c4
  rw [Bool.and_eq_true, decide_eq_true_eq] at c4
  have e := isIn_has (s := X i 3) c4.1.1 c4.1.2
  rw [decide_eq_true c4.1, c4.2] at e
  rw [← e, decide_eq_true (show 0 ≤ a ∧ a ≤ X i 2 from ⟨c4.1.1, by omega⟩)]
  rfl
theorem c_X1_isSound {l : Launch} {D : va_G} {cy : Nat → ClassId} {bs N : Nat} {sa : Nat → Nat} {kd len : Nat → Nat} {X Y : Nat → Int → Int} {R : Nat → Int → Option Nat} {i : Nat} (hC : zChart N kd len R i) (a : Int) (ha : rI a) (hp : X i 2 ≤ 14) : Met l yX1_isSound (.code yX1_isSound cX1_isSound 2 (some .boolean) :: zTB) (zRm 1 21) (zPc D cy bs sa N kd len X Y R [.ref (bs + (i)), .int (zI (a))]) (zQi D cy bs N kd len (fun r st => r = bz (soE X i (a)) ∧ st = (X, Y, R))) 0 0 (zA bs) := w_X1_isSound hC a ha (v_X1_isSound a ha hp)
theorem pyS {X : Nat → Int → Int} {b j np : Nat} {k acc : Int} {pf pt pm : Nat → Int} {L : Int → Int} (hA : X j 0 = acc) (ha : acc ≤ 6) (hf : ∀ n : Nat, n < np → X (b + 5) ((k * 3 + n) * 3 + 0) = pf n ∧ X (b + 5) ((k * 3 + n) * 3 + 1) = pt n ∧ X (b + 5) ((k * 3 + n) * 3 + 2) = pm n) (hL : eqB acc (X (j + 1)) L) : ∀ n : Nat, n ≤ np → (0 ≤ (pyW X b j k n).2 ∧ (pyW X b j k n).2 ≤ n) ∧ ((pyW X b j k n).2 = n → ∃ M, sPay acc pf pt pm L n = some M ∧ eqB acc ((pyW X b j k n).1 (j + 1)) M) ∧ ((pyW X b j k n).2 ≠ n → sPay acc pf pt pm L n = none)
  | 0, _ => ⟨⟨Int.le_refl _, Int.le_refl _⟩, fun _ => ⟨L, rfl, hL⟩, fun g => absurd rfl g⟩
  | n + 1, hn => by
    obtain ⟨⟨i1, i2⟩, i3, i4⟩ := pyS hA ha hf hL n (by omega)
    obtain ⟨f1, f2, f3⟩ := hf n (by omega)
    have st : pyW X b j k (n + 1) = if cPk (pyW X b j k n).1 j (pf n) (pt n) (pm n) 0 = true then (cPa (pyW X b j k n).1 j (pf n) (pt n) (pm n) 0, (pyW X b j k n).2 + 1) else pyW X b j k n := by
      rw [← f1, ← f2, ← f3]
      rfl
    by_cases g : (pyW X b j k n).2 = n
    · obtain ⟨M, h1, h2⟩ := i3 g
      have hs := sPay_s h1
      have h0 : (pyW X b j k n).1 j 0 = acc := by rw [pyW_o n j (by omega)]; exact hA
      have e : cPk (pyW X b j k n).1 j (pf n) (pt n) (pm n) 0 = (mIn (pf n) 0 (acc - 1) && mIn (pt n) 0 (acc - 1) && decide (pm n ≤ M (pf n))) := by
        unfold cPk
        rw [h0, Bool.eq_iff_iff]
        simp only [Bool.and_eq_true, decide_eq_true_eq, mIn_t]
        constructor
        · rintro ⟨⟨a, c⟩, d⟩
          rw [(h2 _ a.1 a.2.2).1 a.2.1] at d
          exact ⟨⟨by omega, by omega⟩, by omega⟩
        · rintro ⟨⟨a, c⟩, d⟩
          refine ⟨⟨by omega, by omega⟩, ?_⟩
          rw [(h2 _ a.1 (by omega)).1 (by omega)]
          omega
      rw [st, hs, e]
      cases c : (mIn (pf n) 0 (acc - 1) && mIn (pt n) 0 (acc - 1) && decide (pm n ≤ M (pf n)))
      · rw [if_neg (by decide), if_neg (by decide)]
        exact ⟨⟨i1, by omega⟩, fun h => by omega, fun _ => rfl⟩
      · rw [if_pos rfl, if_pos rfl]
        refine ⟨⟨by show 0 ≤ (pyW X b j k n).2 + 1; omega, by show (pyW X b j k n).2 + 1 ≤ _; omega⟩, fun _ => ⟨_, rfl, ?_⟩, fun h => absurd (show (pyW X b j k n).2 + 1 = ((n + 1 : Nat) : Int) by omega) h⟩
        simp only [Bool.and_eq_true, decide_eq_true_eq, mIn_t] at c
        obtain ⟨⟨a, c⟩, d⟩ := c
        intro y y0 y1
        refine ⟨fun hy => ?_, fun hy => ?_⟩
        · show cPa _ _ _ _ _ _ _ _ = _
          unfold cPa
          rw [zU_up, zU_up]
          unfold upI
          rw [(h2 _ a.1 (by omega)).1 (by omega), (h2 y y0 y1).1 hy, (h2 (pt n) c.1 (by omega)).1 (by omega), Int.add_zero]
        · show 0 ≤ cPa _ _ _ _ _ _ _ _ ∧ cPa _ _ _ _ _ _ _ _ ≤ 99
          unfold cPa
          rw [zU_up, zU_up]
          unfold upI
          rw [if_neg (show ¬ y = pt n by omega), if_neg (show ¬ y = pf n by omega)]
          exact (h2 y y0 y1).2 hy
    · have hn1 : sPay acc pf pt pm L (n + 1) = none := sPay_no (i4 g) 1
      have hlt : (pyW X b j k n).2 < n := by omega
      rw [st]
      split
      · exact ⟨⟨by show 0 ≤ (pyW X b j k n).2 + 1; omega, by show (pyW X b j k n).2 + 1 ≤ _; omega⟩, fun h => absurd (show (pyW X b j k n).2 + 1 = ((n + 1 : Nat) : Int) from h) (by omega), fun _ => hn1⟩
      · exact ⟨⟨i1, by omega⟩, fun h => by omega, fun _ => hn1⟩
theorem jR_no {Z : Nat → Int → Int} {q : Nat} {X X1 : Nat → Int → Int} {i k : Nat} (h : jR Z q X i k) (hn : rS Z q k = none) (h3 : X1 i 3 = X i 3) (hr : ∀ z : Nat, z < k → X1 (i + 17 + 2 * z) = X (i + 17 + 2 * z) ∧ X1 (i + 17 + 2 * z + 1) = X (i + 17 + 2 * z + 1)) : jR Z q X1 i (k + 1) := by
  refine ⟨?_, fun z hz M hM => ?_⟩
  · rw [h3, h.1, show ((k : Int) + 1).toNat = k + 1 by omega, show ((k : Nat) : Int).toNat = k by omega]
    show _ = if sdf Z q k then _ else _
    rw [if_neg (by show ¬ (rS Z q k).isSome = true; rw [hn]; decide)]
  · by_cases e : z = k
    · subst e
      rw [hn] at hM
      cases hM
    · rw [(hr z (by omega)).1, (hr z (by omega)).2]
      exact h.2 z (by omega) M hM
theorem jR_so {Z : Nat → Int → Int} {q : Nat} {X X1 : Nat → Int → Int} {i k : Nat} {M : Int → Int} (h : jR Z q X i k) (hn : rS Z q k = some M) (h3 : X1 i 3 = zOr (X i 3) (zShl 1 k)) (hr : ∀ z : Nat, z < k → X1 (i + 17 + 2 * z) = X (i + 17 + 2 * z) ∧ X1 (i + 17 + 2 * z + 1) = X (i + 17 + 2 * z + 1)) (h0 : X1 (i + 17 + 2 * k) 0 = Z q 26) (hM : eqB (Z q 26) (X1 (i + 17 + 2 * k + 1)) M) : jR Z q X1 i (k + 1) := by
  refine ⟨?_, fun z hz M2 hM2 => ?_⟩
  · rw [h3, h.1, show ((k : Int) + 1).toNat = k + 1 by omega, show ((k : Nat) : Int).toNat = k by omega]
    show _ = if sdf Z q k then _ else _
    rw [if_pos (by show (rS Z q k).isSome = true; rw [hn]; rfl)]
  · by_cases e : z = k
    · subst e
      rw [hn] at hM2
      cases hM2
      exact ⟨h0, hM⟩
    · rw [(hr z (by omega)).1, (hr z (by omega)).2]
      exact h.2 z (by omega) M2 hM2
theorem zCp_6 {X : Nat → Int → Int} {j i : Nat} {acc : Int} {L : Int → Int} (h : eqB acc (X j) L) : eqB acc (zCp X j i 0 0 6 i) L := fun a h0 h1 => by
  have e : zCp X j i 0 0 6 i a = X j a := by
    show (if i = i ∧ 0 ≤ a ∧ a < 0 + 6 then X j (0 + (a - 0)) else X i a) = _
    rw [if_pos ⟨rfl, h0, by omega⟩, show 0 + (a - 0) = a by omega]
  rw [e]
  exact h a h0 h1
abbrev cX1_judge : ByteArray := prog_3_method_6_code
def yX1_judge : MethodName := ⟨RX1, "judge", "()V"⟩
theorem dX1_judge_0 : decode cX1_judge 0 = .ok (.aload_n 0, 1) := by decide +kernel
theorem dX1_judge_1 : decode cX1_judge 1 = .ok (.getfield 44, 3) := by decide +kernel
theorem dX1_judge_4 : decode cX1_judge 4 = .ok (.iconst 0, 1) := by decide +kernel
theorem dX1_judge_5 : decode cX1_judge 5 = .ok (.aaload, 1) := by decide +kernel
theorem dX1_judge_6 : decode cX1_judge 6 = .ok (.aload_n 0, 1) := by decide +kernel
theorem dX1_judge_7 : decode cX1_judge 7 = .ok (.getfield 12, 3) := by decide +kernel
theorem dX1_judge_10 : decode cX1_judge 10 = .ok (.invokevirtual 96, 3) := by decide +kernel
theorem dX1_judge_13 : decode cX1_judge 13 = .ok (.aload_n 0, 1) := by decide +kernel
theorem dX1_judge_14 : decode cX1_judge 14 = .ok (.iconst 1, 1) := by decide +kernel
theorem dX1_judge_15 : decode cX1_judge 15 = .ok (.putfield 69, 3) := by decide +kernel
theorem dX1_judge_18 : decode cX1_judge 18 = .ok (.iconst 1, 1) := by decide +kernel
theorem dX1_judge_19 : decode cX1_judge 19 = .ok (.istore_n 1, 1) := by decide +kernel
theorem dX1_judge_20 : decode cX1_judge 20 = .ok (.iload_n 1, 1) := by decide +kernel
theorem dX1_judge_21 : decode cX1_judge 21 = .ok (.aload_n 0, 1) := by decide +kernel
theorem dX1_judge_22 : decode cX1_judge 22 = .ok (.getfield 68, 3) := by decide +kernel
theorem dX1_judge_25 : decode cX1_judge 25 = .ok (.if_icmp .gt 152, 3) := by decide +kernel
theorem dX1_judge_28 : decode cX1_judge 28 = .ok (.aload_n 0, 1) := by decide +kernel
theorem dX1_judge_29 : decode cX1_judge 29 = .ok (.getfield 25, 3) := by decide +kernel
theorem dX1_judge_32 : decode cX1_judge 32 = .ok (.iload_n 1, 1) := by decide +kernel
theorem dX1_judge_33 : decode cX1_judge 33 = .ok (.iaload, 1) := by decide +kernel
theorem dX1_judge_34 : decode cX1_judge 34 = .ok (.istore_n 2, 1) := by decide +kernel
theorem dX1_judge_35 : decode cX1_judge 35 = .ok (.aload_n 0, 1) := by decide +kernel
theorem dX1_judge_36 : decode cX1_judge 36 = .ok (.iload_n 2, 1) := by decide +kernel
theorem dX1_judge_37 : decode cX1_judge 37 = .ok (.invokevirtual 100, 3) := by decide +kernel
theorem dX1_judge_40 : decode cX1_judge 40 = .ok (.ifCond .eq 131, 3) := by decide +kernel
theorem dX1_judge_43 : decode cX1_judge 43 = .ok (.aload_n 0, 1) := by decide +kernel
theorem dX1_judge_44 : decode cX1_judge 44 = .ok (.getfield 21, 3) := by decide +kernel
theorem dX1_judge_47 : decode cX1_judge 47 = .ok (.getfield 83, 3) := by decide +kernel
theorem dX1_judge_50 : decode cX1_judge 50 = .ok (.iload_n 1, 1) := by decide +kernel
theorem dX1_judge_51 : decode cX1_judge 51 = .ok (.iaload, 1) := by decide +kernel
theorem dX1_judge_52 : decode cX1_judge 52 = .ok (.aload_n 0, 1) := by decide +kernel
theorem dX1_judge_53 : decode cX1_judge 53 = .ok (.getfield 21, 3) := by decide +kernel
theorem dX1_judge_56 : decode cX1_judge 56 = .ok (.getfield 83, 3) := by decide +kernel
theorem dX1_judge_59 : decode cX1_judge 59 = .ok (.iload_n 2, 1) := by decide +kernel
theorem dX1_judge_60 : decode cX1_judge 60 = .ok (.iaload, 1) := by decide +kernel
theorem dX1_judge_61 : decode cX1_judge 61 = .ok (.if_icmp .lt 110, 3) := by decide +kernel
theorem dX1_judge_64 : decode cX1_judge 64 = .ok (.aload_n 0, 1) := by decide +kernel
theorem dX1_judge_65 : decode cX1_judge 65 = .ok (.getfield 12, 3) := by decide +kernel
theorem dX1_judge_68 : decode cX1_judge 68 = .ok (.aload_n 0, 1) := by decide +kernel
theorem dX1_judge_69 : decode cX1_judge 69 = .ok (.getfield 21, 3) := by decide +kernel
theorem dX1_judge_72 : decode cX1_judge 72 = .ok (.getfield 104, 3) := by decide +kernel
theorem dX1_judge_75 : decode cX1_judge 75 = .ok (.iload_n 1, 1) := by decide +kernel
theorem dX1_judge_76 : decode cX1_judge 76 = .ok (.iaload, 1) := by decide +kernel
theorem dX1_judge_77 : decode cX1_judge 77 = .ok (.invokevirtual 107, 3) := by decide +kernel
theorem dX1_judge_80 : decode cX1_judge 80 = .ok (.ifCond .ne 6, 3) := by decide +kernel
theorem dX1_judge_83 : decode cX1_judge 83 = .ok (.goto 88, 3) := by decide +kernel
theorem dX1_judge_86 : decode cX1_judge 86 = .ok (.aload_n 0, 1) := by decide +kernel
theorem dX1_judge_87 : decode cX1_judge 87 = .ok (.getfield 44, 3) := by decide +kernel
theorem dX1_judge_90 : decode cX1_judge 90 = .ok (.iload_n 1, 1) := by decide +kernel
theorem dX1_judge_91 : decode cX1_judge 91 = .ok (.aaload, 1) := by decide +kernel
theorem dX1_judge_92 : decode cX1_judge 92 = .ok (.aload_n 0, 1) := by decide +kernel
theorem dX1_judge_93 : decode cX1_judge 93 = .ok (.getfield 44, 3) := by decide +kernel
theorem dX1_judge_96 : decode cX1_judge 96 = .ok (.iload_n 2, 1) := by decide +kernel
theorem dX1_judge_97 : decode cX1_judge 97 = .ok (.aaload, 1) := by decide +kernel
theorem dX1_judge_98 : decode cX1_judge 98 = .ok (.invokevirtual 110, 3) := by decide +kernel
theorem dX1_judge_101 : decode cX1_judge 101 = .ok (.aload_n 0, 1) := by decide +kernel
theorem dX1_judge_102 : decode cX1_judge 102 = .ok (.getfield 21, 3) := by decide +kernel
theorem dX1_judge_105 : decode cX1_judge 105 = .ok (.iload_n 1, 1) := by decide +kernel
theorem dX1_judge_106 : decode cX1_judge 106 = .ok (.aload_n 0, 1) := by decide +kernel
theorem dX1_judge_107 : decode cX1_judge 107 = .ok (.getfield 44, 3) := by decide +kernel
theorem dX1_judge_110 : decode cX1_judge 110 = .ok (.iload_n 1, 1) := by decide +kernel
theorem dX1_judge_111 : decode cX1_judge 111 = .ok (.aaload, 1) := by decide +kernel
theorem dX1_judge_112 : decode cX1_judge 112 = .ok (.invokevirtual 114, 3) := by decide +kernel
theorem dX1_judge_115 : decode cX1_judge 115 = .ok (.aload_n 0, 1) := by decide +kernel
theorem dX1_judge_116 : decode cX1_judge 116 = .ok (.getfield 21, 3) := by decide +kernel
theorem dX1_judge_119 : decode cX1_judge 119 = .ok (.getfield 118, 3) := by decide +kernel
theorem dX1_judge_122 : decode cX1_judge 122 = .ok (.iload_n 1, 1) := by decide +kernel
theorem dX1_judge_123 : decode cX1_judge 123 = .ok (.iaload, 1) := by decide +kernel
theorem dX1_judge_124 : decode cX1_judge 124 = .ok (.if_icmp .ge 6, 3) := by decide +kernel
theorem dX1_judge_127 : decode cX1_judge 127 = .ok (.goto 44, 3) := by decide +kernel
theorem dX1_judge_130 : decode cX1_judge 130 = .ok (.aload_n 0, 1) := by decide +kernel
theorem dX1_judge_131 : decode cX1_judge 131 = .ok (.getfield 44, 3) := by decide +kernel
theorem dX1_judge_134 : decode cX1_judge 134 = .ok (.iload_n 1, 1) := by decide +kernel
theorem dX1_judge_135 : decode cX1_judge 135 = .ok (.aaload, 1) := by decide +kernel
theorem dX1_judge_136 : decode cX1_judge 136 = .ok (.getfield 121, 3) := by decide +kernel
theorem dX1_judge_139 : decode cX1_judge 139 = .ok (.aload_n 0, 1) := by decide +kernel
theorem dX1_judge_140 : decode cX1_judge 140 = .ok (.getfield 21, 3) := by decide +kernel
theorem dX1_judge_143 : decode cX1_judge 143 = .ok (.getfield 104, 3) := by decide +kernel
theorem dX1_judge_146 : decode cX1_judge 146 = .ok (.iload_n 1, 1) := by decide +kernel
theorem dX1_judge_147 : decode cX1_judge 147 = .ok (.iaload, 1) := by decide +kernel
theorem dX1_judge_148 : decode cX1_judge 148 = .ok (.dup2, 1) := by decide +kernel
theorem dX1_judge_149 : decode cX1_judge 149 = .ok (.iaload, 1) := by decide +kernel
theorem dX1_judge_150 : decode cX1_judge 150 = .ok (.aload_n 0, 1) := by decide +kernel
theorem dX1_judge_151 : decode cX1_judge 151 = .ok (.getfield 12, 3) := by decide +kernel
theorem dX1_judge_154 : decode cX1_judge 154 = .ok (.getfield 124, 3) := by decide +kernel
theorem dX1_judge_157 : decode cX1_judge 157 = .ok (.iadd, 1) := by decide +kernel
theorem dX1_judge_158 : decode cX1_judge 158 = .ok (.iastore, 1) := by decide +kernel
theorem dX1_judge_159 : decode cX1_judge 159 = .ok (.aload_n 0, 1) := by decide +kernel
theorem dX1_judge_160 : decode cX1_judge 160 = .ok (.dup, 1) := by decide +kernel
theorem dX1_judge_161 : decode cX1_judge 161 = .ok (.getfield 69, 3) := by decide +kernel
theorem dX1_judge_164 : decode cX1_judge 164 = .ok (.iconst 1, 1) := by decide +kernel
theorem dX1_judge_165 : decode cX1_judge 165 = .ok (.iload_n 1, 1) := by decide +kernel
theorem dX1_judge_166 : decode cX1_judge 166 = .ok (.ishl, 1) := by decide +kernel
theorem dX1_judge_167 : decode cX1_judge 167 = .ok (.ior, 1) := by decide +kernel
theorem dX1_judge_168 : decode cX1_judge 168 = .ok (.putfield 69, 3) := by decide +kernel
theorem dX1_judge_171 : decode cX1_judge 171 = .ok (.iinc 1 1, 3) := by decide +kernel
theorem dX1_judge_174 : decode cX1_judge 174 = .ok (.goto (-154), 3) := by decide +kernel
theorem dX1_judge_177 : decode cX1_judge 177 = .ok (.return_, 1) := by decide +kernel
theorem q_413 : Cond.fieldLink RX1 44 RX1 "ledgers" "[LWorkChains$Ledger;" ∈ zTB := zmem 413 (by decide +kernel) rfl
theorem q_926 : Cond.methodLink RX1 96 yX5_begin ∈ zTB := zmem 926 (by decide +kernel) rfl
theorem q_927 : Cond.instanceMethod yX5_begin ∈ zTB := zmem 927 (by decide +kernel) rfl
theorem q_928 : Cond.selects RX5 yX5_begin yX5_begin ∈ zTB := zmem 928 (by decide +kernel) rfl
theorem q_929 : Cond.code yX5_begin cX5_begin 2 none ∈ zTB := zmem 929 (by decide +kernel) rfl
theorem k_RX1_96 : zLv RX1 96 RX5 yX5_begin cX5_begin 2 none 1 := ⟨⟨q_926, q_927, q_928, q_136, q_929⟩, rfl, ⟨by decide, by decide⟩, by decide +kernel⟩
theorem q_931 : Cond.methodLink RX1 100 yX1_isSound ∈ zTB := zmem 931 (by decide +kernel) rfl
theorem q_932 : Cond.instanceMethod yX1_isSound ∈ zTB := zmem 932 (by decide +kernel) rfl
theorem q_933 : Cond.selects RX1 yX1_isSound yX1_isSound ∈ zTB := zmem 933 (by decide +kernel) rfl
theorem q_934 : Cond.code yX1_isSound cX1_isSound 2 (some .boolean) ∈ zTB := zmem 934 (by decide +kernel) rfl
theorem k_RX1_100 : zLv RX1 100 RX1 yX1_isSound cX1_isSound 2 (some .boolean) 1 := ⟨⟨q_931, q_932, q_933, q_135, q_934⟩, rfl, ⟨by decide, by decide⟩, by decide +kernel⟩
theorem q_235 : Cond.fieldLink RX1 104 RX0 "maker" "[I" ∈ zTB := zmem 235 (by decide +kernel) rfl
theorem q_938 : Cond.methodLink RX1 107 yX6_has ∈ zTB := zmem 938 (by decide +kernel) rfl
theorem q_840 : Cond.instanceMethod yX6_has ∈ zTB := zmem 840 (by decide +kernel) rfl
theorem q_841 : Cond.selects RX6 yX6_has yX6_has ∈ zTB := zmem 841 (by decide +kernel) rfl
theorem q_131 : Cond.initialized RX6 ∈ zTB := zmem 131 (by decide +kernel) rfl
theorem q_842 : Cond.code yX6_has cX6_has 2 (some .boolean) ∈ zTB := zmem 842 (by decide +kernel) rfl
theorem k_RX1_107 : zLv RX1 107 RX6 yX6_has cX6_has 2 (some .boolean) 1 := ⟨⟨q_938, q_840, q_841, q_131, q_842⟩, rfl, ⟨by decide, by decide⟩, by decide +kernel⟩
theorem q_939 : Cond.methodLink RX1 110 yX5_copy ∈ zTB := zmem 939 (by decide +kernel) rfl
theorem q_940 : Cond.instanceMethod yX5_copy ∈ zTB := zmem 940 (by decide +kernel) rfl
theorem q_941 : Cond.selects RX5 yX5_copy yX5_copy ∈ zTB := zmem 941 (by decide +kernel) rfl
theorem q_942 : Cond.code yX5_copy cX5_copy 2 none ∈ zTB := zmem 942 (by decide +kernel) rfl
theorem k_RX1_110 : zLv RX1 110 RX5 yX5_copy cX5_copy 2 none 1 := ⟨⟨q_939, q_940, q_941, q_136, q_942⟩, rfl, ⟨by decide, by decide⟩, by decide +kernel⟩
theorem q_943 : Cond.methodLink RX1 114 yX0_payEach ∈ zTB := zmem 943 (by decide +kernel) rfl
theorem q_944 : Cond.instanceMethod yX0_payEach ∈ zTB := zmem 944 (by decide +kernel) rfl
theorem q_945 : Cond.selects RX0 yX0_payEach yX0_payEach ∈ zTB := zmem 945 (by decide +kernel) rfl
theorem q_946 : Cond.code yX0_payEach cX0_payEach 5 (some .int) ∈ zTB := zmem 946 (by decide +kernel) rfl
theorem k_RX1_114 : zLv RX1 114 RX0 yX0_payEach cX0_payEach 5 (some .int) 2 := ⟨⟨q_943, q_944, q_945, q_132, q_946⟩, rfl, ⟨by decide, by decide⟩, by decide +kernel⟩
theorem q_238 : Cond.fieldLink RX1 118 RX0 "pays" "[I" ∈ zTB := zmem 238 (by decide +kernel) rfl
theorem q_384 : Cond.fieldLink RX1 121 RX5 "in" "[I" ∈ zTB := zmem 384 (by decide +kernel) rfl
theorem q_191 : Cond.fieldLink RX1 124 RX6 "reward" "I" ∈ zTB := zmem 191 (by decide +kernel) rfl
def F_X1_judge (i : Nat) (Z : Nat → Int → Int) (q : Nat) (X Y : Nat → Int → Int) (R : Nat → Int → Option Nat)  : Prop := (∀ i j, rI (X i j)) → (∀ i j, rL (Y i j)) → ((cn R i) ≠ (i + 17 + 2 * (0 : Int).toNat)) ∧ (∀ X2 : Nat → Int → Int, (∀ i j, rI (X2 i j)) → ((X2) = zCp (zU X (i + 17 + 2 * (0 : Int).toNat) 0 (X (cn R i) 6)) ((cn R i) + 1) ((i + 17 + 2 * (0 : Int).toNat) + 1) 0 0 6) → (∀ X3 : Nat → Int → Int, X3 = zU X2 (i) 3 (1) → (∀ i j, rI (X3 i j)) → (((1 ≤ (1 : Int) ∧ (1 : Int) ≤ Z q 27) ∧ jR Z q X3 i (1 : Int) ∧ jK X X3 i) ∧ (∀ (k : Int) (X5 : Nat → Int → Int), rI k → (∀ i j, rI (X5 i j)) → ((1 ≤ k ∧ k ≤ Z q 27) ∧ jR Z q X5 i k ∧ jK X X5 i) → ((((X5 (i) 2) < k) → (jR Z q (X5) i (Z q 27) ∧ jK X (X5) i)) ∧ ((¬ ((X5 (i) 2) < k)) → ((0 ≤ k ∧ k < 15) ∧ ((X5 i 2 ≤ 14) ∧ ((((soE X5 i ((X5 (i + 9) (k)))) = false) → ((rI (k + 1)) ∧ ((1 ≤ (k + 1) ∧ (k + 1) ≤ Z q 27) ∧ jR Z q X5 i (k + 1) ∧ jK X X5 i) ∧ (((20 - (k + 1)).toNat) < ((20 - (k)).toNat)))) ∧ (((soE X5 i ((X5 (i + 9) (k)))) = true) → ((0 ≤ k ∧ k < 15) ∧ ((0 ≤ (X5 (i + 9) (k)) ∧ (X5 (i + 9) (k)) < 15) ∧ ((((X5 (cb R i + 2) (k)) < (X5 (cb R i + 2) (X5 (i + 9) (k)))) → ((rI (k + 1)) ∧ ((1 ≤ (k + 1) ∧ (k + 1) ≤ Z q 27) ∧ jR Z q X5 i (k + 1) ∧ jK X X5 i) ∧ (((20 - (k + 1)).toNat) < ((20 - (k)).toNat)))) ∧ ((¬ ((X5 (cb R i + 2) (k)) < (X5 (cb R i + 2) (X5 (i + 9) (k))))) → ((0 ≤ k ∧ k < 15) ∧ ((((decide (0 ≤ ((X5 (cb R i + 3) (k))) ∧ ((X5 (cb R i + 3) (k))) < X5 (cn R i) 6 ∧ ((X5 (cb R i + 3) (k))) < 6)) = true) → ((0 ≤ k ∧ k < 15) ∧ ((0 ≤ (X5 (i + 9) (k)) ∧ (X5 (i + 9) (k)) < 15) ∧ (((i + 17 + 2 * (X5 (i + 9) (k) : Int).toNat) ≠ (i + 17 + 2 * (k : Int).toNat)) ∧ (∀ X20 : Nat → Int → Int, (∀ i j, rI (X20 i j)) → ((X20) = zCp (zU X5 (i + 17 + 2 * (k : Int).toNat) 0 (X5 (i + 17 + 2 * (X5 (i + 9) (k) : Int).toNat) 0)) ((i + 17 + 2 * (X5 (i + 9) (k) : Int).toNat) + 1) ((i + 17 + 2 * (k : Int).toNat) + 1) 0 0 6) → ((0 ≤ k ∧ k < 15) ∧ ((((i + 17 + 2 * (k : Int).toNat) + 1 < (cb R i) ∨ (cb R i) + 5 < (i + 17 + 2 * (k : Int).toNat)) ∧ (0 ≤ k ∧ k < 15) ∧ (∀ y : Int, 0 ≤ y → y < 135 → 0 ≤ X20 ((cb R i) + 5) y ∧ X20 ((cb R i) + 5) y ≤ 99) ∧ ∀ y : Int, 0 ≤ y → y < 6 → 0 ≤ X20 ((i + 17 + 2 * (k : Int).toNat) + 1) y ∧ X20 ((i + 17 + 2 * (k : Int).toNat) + 1) y ≤ 999999000) ∧ (∀ r24 : Int, rI r24 → ∀ X23 : Nat → Int → Int, (∀ i j, rI (X23 i j)) → (∃ q : Nat, q ≤ 3 ∧ (q : Int) = max 0 (min 3 (X20 ((cb R i) + 4) (k))) ∧ (X23) = (pyW X20 (cb R i) (i + 17 + 2 * (k : Int).toNat) (k) q).1 ∧ r24 = (pyW X20 (cb R i) (i + 17 + 2 * (k : Int).toNat) (k) q).2) → ((0 ≤ k ∧ k < 15) ∧ ((((X23 (cb R i + 4) (k)) ≤ r24) → ((0 ≤ k ∧ k < 15) ∧ ((0 ≤ k ∧ k < 15) ∧ ((0 ≤ (X23 (cb R i + 3) (k)) ∧ (X23 (cb R i + 3) (k)) < 6) ∧ ((0 ≤ (X23 (cb R i + 3) (k)) ∧ (X23 (cb R i + 3) (k)) < 6) ∧ ((rI ((X23 (i + 17 + 2 * (k : Int).toNat + 1) (X23 (cb R i + 3) (k))) + (X23 (cn R i) 5))) ∧ (∀ X32 : Nat → Int → Int, X32 = zU X23 (i + 17 + 2 * (k : Int).toNat + 1) (X23 (cb R i + 3) (k)) ((X23 (i + 17 + 2 * (k : Int).toNat + 1) (X23 (cb R i + 3) (k))) + (X23 (cn R i) 5)) → (∀ i j, rI (X32 i j)) → (∀ X33 : Nat → Int → Int, X33 = zU X32 (i) 3 (zOr (X32 (i) 3) (zShl (1) (k))) → (∀ i j, rI (X33 i j)) → ((rI (k + 1)) ∧ ((1 ≤ (k + 1) ∧ (k + 1) ≤ Z q 27) ∧ jR Z q X33 i (k + 1) ∧ jK X X33 i) ∧ (((20 - (k + 1)).toNat) < ((20 - (k)).toNat))))))))))) ∧ ((¬ ((X23 (cb R i + 4) (k)) ≤ r24)) → ((rI (k + 1)) ∧ ((1 ≤ (k + 1) ∧ (k + 1) ≤ Z q 27) ∧ jR Z q X23 i (k + 1) ∧ jK X X23 i) ∧ (((20 - (k + 1)).toNat) < ((20 - (k)).toNat)))))))))))))) ∧ (((decide (0 ≤ ((X5 (cb R i + 3) (k))) ∧ ((X5 (cb R i + 3) (k))) < X5 (cn R i) 6 ∧ ((X5 (cb R i + 3) (k))) < 6)) = false) → ((rI (k + 1)) ∧ ((1 ≤ (k + 1) ∧ (k + 1) ≤ Z q 27) ∧ jR Z q X5 i (k + 1) ∧ jK X X5 i) ∧ (((20 - (k + 1)).toNat) < ((20 - (k)).toNat))))))))))))))))))))
set_option maxHeartbeats 4000000 in
set_option maxRecDepth 100000 in
theorem w_X1_judge {l : Launch} {D : va_G} {cy : Nat → ClassId} {bs N : Nat} {sa : Nat → Nat} {kd len : Nat → Nat} {X Y : Nat → Int → Int} {R : Nat → Int → Option Nat} {i : Nat} {Z : Nat → Int → Int} {q : Nat} (hC : zChart N kd len R i)  (hF : F_X1_judge i Z q X Y R ) : Met l yX1_judge (.code yX1_judge cX1_judge 3 none :: zTB) (zRm 3 81) (zPc D cy bs sa N kd len X Y R [.ref (bs + (i))]) (zQv D cy bs N kd len (fun st => st.2.1 = Y ∧ st.2.2 = R ∧ (jR Z q (st.1) i (Z q 27) ∧ jK X (st.1) i))) 0 0 (zA bs) := by
  refine zstart (by decide) (Nat.le_of_ble_eq_true rfl) ?_
  intro p e s m args below meth c ls C hE hH hr hlk hnm hl hargs
  have hF := hF hH.2.2.1 hH.2.2.2
  have hS : va_S (zA bs) s.heap s.heap [] := va_S.rf
  have hl : lv_has ls 3 [(0, .ref (bs + (i)))] := hl
  refine lv_aload_n C.1 C.2.1 dX1_judge_0 rfl (lv_at hl 0 rfl) ?_
  refine zg1_9 C hH (zChart_n0 hC) (zChart_k0 hC) q_413 (zChart_r14 hC) dX1_judge_1 ?_
  refine zd_iconst C dX1_judge_4 ?_
  refine zd_aaldr C hH (zChart_n14 hC) 5 rfl rfl (by rw [(zChart_k14 hC)]; rfl) (by decide) (by rw [zChart_l14 hC]; decide) (by rw [zChart_l14 hC]; decide) (zChart_lg hC (by decide) (by decide)).1 dX1_judge_5 ?_
  refine lv_aload_n C.1 C.2.1 dX1_judge_6 rfl (lv_at hl 0 rfl) ?_
  refine zg1_0 C hH (zChart_n0 hC) (zChart_k0 hC) q_392 (zChart_net hC).1 dX1_judge_7 ?_
  obtain ⟨o1, hF⟩ := hF
  refine zgov (zrunV (As := [.ref (bs + (cn R i))]) (rest := []) C hE hH hS hl.1 (c_X5_begin (l := l) (zChart_lg hC (by decide) (by decide)).2 (zChart_net hC).2  o1) k_RX1_96 ⟨Nat.le_of_ble_eq_true rfl, Nat.le_of_ble_eq_true rfl⟩ (zLedger_n0 (zChart_lg hC (by decide) (by decide)).2) (zLedger_k0 (zChart_lg hC (by decide) (by decide)).2) rfl rfl rfl (Nat.le_of_ble_eq_true rfl) dX1_judge_10 ⟨Nat.zero_le _, Nat.zero_le _⟩) hS (fun X2 Yq Rq H locs hq hH hS => ?_)
  obtain ⟨h9Y, h9R, hq⟩ := hq
  dsimp only at h9Y h9R
  rw [h9Y, h9R] at hH
  have hF := hF X2 hH.2.2.1 hq
  refine lv_aload_n C.1 C.2.1 dX1_judge_13 rfl (lv_at hl 0 rfl) ?_
  refine zd_iconst C dX1_judge_14 ?_
  refine zp1_3 C hH hS (zChart_n0 hC) (zChart_k0 hC) q_399 (by decide) dX1_judge_15 (fun H locs hH hS => ?_)
  obtain ⟨X3, eX3⟩ : ∃ z, z = zU X2 (i) 3 (1) := ⟨_, rfl⟩
  rw [← eX3] at hH
  have hF := hF X3 eX3 hH.2.2.1
  refine zd_iconst C dX1_judge_18 ?_
  refine lv_istore_n (lv' := [(1, .int (zI (1))), (0, .ref (bs + (i)))]) C.1 C.2.1 dX1_judge_19 rfl hl (by decide) rfl (fun ls hl => ?_)
  obtain ⟨hI4, hF⟩ := hF
  have L4 : ∀ (fu : Nat) (k : Int) (X5 : Nat → Int → Int), rI k → ((1 ≤ k ∧ k ≤ Z q 27) ∧ jR Z q X5 i k ∧ jK X X5 i) → ((20 - (k)).toNat) < fu → ∀ (H : Heap) (locs : List Loc) (ls : Array Slot), zH D cy bs N kd len X5 Y R H → va_S (zA bs) s.heap H locs → lv_has ls 3 [(1, .int (zI (k))), (0, .ref (bs + (i)))] → W p l e (zRm 3 81) s m args below meth c H locs 0 0 (MQ below (zQv D cy bs N kd len (fun st => st.2.1 = Y ∧ st.2.2 = R ∧ (jR Z q (st.1) i (Z q 27) ∧ jK X (st.1) i))) args s 0 0 (zA bs)) (F0 m 20 ls []) := by
    intro fu
    induction fu with
    | zero => intro k X5 _ _ hmu; exact absurd hmu (Nat.not_lt_zero _)
    | succ fu ih4 =>
      intro k X5 hk hI hmu4 H locs ls hH hS hl
      have hF := hF k X5 hk hH.2.2.1 hI
      refine lv_iload_n C.1 C.2.1 dX1_judge_20 rfl (lv_at hl 0 rfl) ?_
      refine lv_aload_n C.1 C.2.1 dX1_judge_21 rfl (lv_at hl 1 rfl) ?_
      refine zg1_2 C hH (zChart_n0 hC) (zChart_k0 hC) q_396 dX1_judge_22 ?_
      refine zd_icmp_gt C hk (hH.2.2.1 _ _) 177 dX1_judge_25 (by decide) (fun c6 => ?_) (fun c6 => ?_)
      · have hF := hF.1 c6
        exact zd_vret C hr hlk hH hS (⟨rfl, rfl, hF⟩) dX1_judge_177
      · have hF := hF.2 c6
        refine lv_aload_n C.1 C.2.1 dX1_judge_28 rfl (lv_at hl 1 rfl) ?_
        refine zg1_4 C hH (zChart_n0 hC) (zChart_k0 hC) q_402 (zChart_r9 hC) dX1_judge_29 ?_
        refine lv_iload_n C.1 C.2.1 dX1_judge_32 rfl (lv_at hl 0 rfl) ?_
        obtain ⟨o7, hF⟩ := hF
        refine zd_iald C hH (zChart_n9 hC) (zChart_k9 hC) o7.1 (by rw [zChart_l9 hC]; exact o7.2) (by rw [zChart_l9 hC]; decide) dX1_judge_33 ?_
        refine lv_istore_n (lv' := [(2, .int (zI (X5 (i + 9) (k)))), (1, .int (zI (k))), (0, .ref (bs + (i)))]) C.1 C.2.1 dX1_judge_34 rfl hl (by decide) rfl (fun ls hl => ?_)
        refine lv_aload_n C.1 C.2.1 dX1_judge_35 rfl (lv_at hl 2 rfl) ?_
        refine lv_iload_n C.1 C.2.1 dX1_judge_36 rfl (lv_at hl 0 rfl) ?_
        obtain ⟨o8, hF⟩ := hF
        refine zgoi (zrunV (As := [.int (zI (X5 (i + 9) (k)))]) (rest := []) C hE hH hS hl.1 (c_X1_isSound (l := l) hC (X5 (i + 9) (k)) (hH.2.2.1 _ _) o8) k_RX1_100 ⟨Nat.le_of_ble_eq_true rfl, Nat.le_of_ble_eq_true rfl⟩ (zChart_n0 hC) (zChart_k0 hC) rfl rfl rfl (Nat.le_of_ble_eq_true rfl) dX1_judge_37 ⟨Nat.zero_le _, Nat.zero_le _⟩) hS (fun rq Xq Yq Rq H locs hrq hq hH hS => ?_)
        obtain ⟨h91, h92⟩ := hq
        have h93 : Xq = X5 := congrArg (fun z => z.1) h92
        have h94 : Yq = Y := congrArg (fun z => z.2.1) h92
        have h95 : Rq = R := congrArg (fun z => z.2.2) h92
        rw [h93, h94, h95] at hH
        subst h91
        refine zd_ifB_eq C 171 dX1_judge_40 (by decide) (fun c9 => ?_) (fun c9 => ?_)
        · have hF := hF.1 c9
          refine zd_iinc (k := 1) (lv' := [(1, .int (zI (k + 1))), (2, .int (zI (X5 (i + 9) (k)))), (0, .ref (bs + (i)))]) C hl rfl dX1_judge_171 (by decide) rfl (fun ls hl => ?_)
          refine lv_goto (tgt := 20) C.1 C.2.1 dX1_judge_174 (by decide) ?_
          obtain ⟨o10, hF⟩ := hF
          exact ih4 (k + 1) X5 o10 hF.1 (Nat.lt_of_lt_of_le hF.2 (Nat.le_of_lt_succ hmu4)) _ _ _ hH hS (lv_sub hl [0, 2] rfl)
        · have hF := hF.2 c9
          refine lv_aload_n C.1 C.2.1 dX1_judge_43 rfl (lv_at hl 2 rfl) ?_
          refine zg1_1 C hH (zChart_n0 hC) (zChart_k0 hC) q_394 (zChart_blk hC).1 dX1_judge_44 ?_
          refine zg0_2 C hH (zBlocks_n0 (zChart_blk hC).2) (zBlocks_k0 (zChart_blk hC).2) q_232 (zBlocks_r2 (zChart_blk hC).2) dX1_judge_47 ?_
          refine lv_iload_n C.1 C.2.1 dX1_judge_50 rfl (lv_at hl 1 rfl) ?_
          obtain ⟨o11, hF⟩ := hF
          refine zd_iald C hH (zBlocks_n2 (zChart_blk hC).2) (zBlocks_k2 (zChart_blk hC).2) o11.1 (by rw [zBlocks_l2 (zChart_blk hC).2]; exact o11.2) (by rw [zBlocks_l2 (zChart_blk hC).2]; decide) dX1_judge_51 ?_
          refine lv_aload_n C.1 C.2.1 dX1_judge_52 rfl (lv_at hl 2 rfl) ?_
          refine zg1_1 C hH (zChart_n0 hC) (zChart_k0 hC) q_394 (zChart_blk hC).1 dX1_judge_53 ?_
          refine zg0_2 C hH (zBlocks_n0 (zChart_blk hC).2) (zBlocks_k0 (zChart_blk hC).2) q_232 (zBlocks_r2 (zChart_blk hC).2) dX1_judge_56 ?_
          refine lv_iload_n C.1 C.2.1 dX1_judge_59 rfl (lv_at hl 0 rfl) ?_
          obtain ⟨o12, hF⟩ := hF
          refine zd_iald C hH (zBlocks_n2 (zChart_blk hC).2) (zBlocks_k2 (zChart_blk hC).2) o12.1 (by rw [zBlocks_l2 (zChart_blk hC).2]; exact o12.2) (by rw [zBlocks_l2 (zChart_blk hC).2]; decide) dX1_judge_60 ?_
          refine zd_icmp_lt C (hH.2.2.1 _ _) (hH.2.2.1 _ _) 171 dX1_judge_61 (by decide) (fun c13 => ?_) (fun c13 => ?_)
          · have hF := hF.1 c13
            refine zd_iinc (k := 1) (lv' := [(1, .int (zI (k + 1))), (2, .int (zI (X5 (i + 9) (k)))), (0, .ref (bs + (i)))]) C hl rfl dX1_judge_171 (by decide) rfl (fun ls hl => ?_)
            refine lv_goto (tgt := 20) C.1 C.2.1 dX1_judge_174 (by decide) ?_
            obtain ⟨o14, hF⟩ := hF
            exact ih4 (k + 1) X5 o14 hF.1 (Nat.lt_of_lt_of_le hF.2 (Nat.le_of_lt_succ hmu4)) _ _ _ hH hS (lv_sub hl [0, 2] rfl)
          · have hF := hF.2 c13
            refine lv_aload_n C.1 C.2.1 dX1_judge_64 rfl (lv_at hl 2 rfl) ?_
            refine zg1_0 C hH (zChart_n0 hC) (zChart_k0 hC) q_392 (zChart_net hC).1 dX1_judge_65 ?_
            refine lv_aload_n C.1 C.2.1 dX1_judge_68 rfl (lv_at hl 2 rfl) ?_
            refine zg1_1 C hH (zChart_n0 hC) (zChart_k0 hC) q_394 (zChart_blk hC).1 dX1_judge_69 ?_
            refine zg0_3 C hH (zBlocks_n0 (zChart_blk hC).2) (zBlocks_k0 (zChart_blk hC).2) q_235 (zBlocks_r3 (zChart_blk hC).2) dX1_judge_72 ?_
            refine lv_iload_n C.1 C.2.1 dX1_judge_75 rfl (lv_at hl 1 rfl) ?_
            obtain ⟨o15, hF⟩ := hF
            refine zd_iald C hH (zBlocks_n3 (zChart_blk hC).2) (zBlocks_k3 (zChart_blk hC).2) o15.1 (by rw [zBlocks_l3 (zChart_blk hC).2]; exact o15.2) (by rw [zBlocks_l3 (zChart_blk hC).2]; decide) dX1_judge_76 ?_
            refine zgoi (zrunV (As := [.int (zI (X5 (cb R i + 3) (k)))]) (rest := []) C hE hH hS hl.1 (c_X6_has (l := l) (zChart_net hC).2 (X5 (cb R i + 3) (k)) (hH.2.2.1 _ _)) k_RX1_107 ⟨Nat.le_of_ble_eq_true rfl, Nat.le_of_ble_eq_true rfl⟩ (zNet_n0 (zChart_net hC).2) (zNet_k0 (zChart_net hC).2) rfl rfl rfl (Nat.le_of_ble_eq_true rfl) dX1_judge_77 ⟨Nat.zero_le _, Nat.zero_le _⟩) hS (fun rq Xq Yq Rq H locs hrq hq hH hS => ?_)
            obtain ⟨h91, h92⟩ := hq
            have h93 : Xq = X5 := congrArg (fun z => z.1) h92
            have h94 : Yq = Y := congrArg (fun z => z.2.1) h92
            have h95 : Rq = R := congrArg (fun z => z.2.2) h92
            rw [h93, h94, h95] at hH
            subst h91
            refine zd_ifB_ne C 86 dX1_judge_80 (by decide) (fun c16 => ?_) (fun c16 => ?_)
            · have hF := hF.1 c16
              refine lv_aload_n C.1 C.2.1 dX1_judge_86 rfl (lv_at hl 2 rfl) ?_
              refine zg1_9 C hH (zChart_n0 hC) (zChart_k0 hC) q_413 (zChart_r14 hC) dX1_judge_87 ?_
              refine lv_iload_n C.1 C.2.1 dX1_judge_90 rfl (lv_at hl 1 rfl) ?_
              obtain ⟨o17, hF⟩ := hF
              refine zd_aaldr C hH (zChart_n14 hC) 5 rfl rfl (by rw [(zChart_k14 hC)]; rfl) o17.1 (by rw [zChart_l14 hC]; exact o17.2) (by rw [zChart_l14 hC]; decide) (zChart_lg hC o17.1 o17.2).1 dX1_judge_91 ?_
              refine lv_aload_n C.1 C.2.1 dX1_judge_92 rfl (lv_at hl 2 rfl) ?_
              refine zg1_9 C hH (zChart_n0 hC) (zChart_k0 hC) q_413 (zChart_r14 hC) dX1_judge_93 ?_
              refine lv_iload_n C.1 C.2.1 dX1_judge_96 rfl (lv_at hl 0 rfl) ?_
              obtain ⟨o18, hF⟩ := hF
              refine zd_aaldr C hH (zChart_n14 hC) 5 rfl rfl (by rw [(zChart_k14 hC)]; rfl) o18.1 (by rw [zChart_l14 hC]; exact o18.2) (by rw [zChart_l14 hC]; decide) (zChart_lg hC o18.1 o18.2).1 dX1_judge_97 ?_
              obtain ⟨o19, hF⟩ := hF
              have gg1 := hH.2.2.1
              refine zgov (zrunV (As := [.ref (bs + (i + 17 + 2 * (X5 (i + 9) (k) : Int).toNat))]) (rest := []) C hE hH hS hl.1 (c_X5_copy (l := l) (zChart_lg hC o17.1 o17.2).2 (zChart_lg hC o18.1 o18.2).2  o19) k_RX1_110 ⟨Nat.le_of_ble_eq_true rfl, Nat.le_of_ble_eq_true rfl⟩ (zLedger_n0 (zChart_lg hC o17.1 o17.2).2) (zLedger_k0 (zChart_lg hC o17.1 o17.2).2) rfl rfl rfl (Nat.le_of_ble_eq_true rfl) dX1_judge_98 ⟨Nat.zero_le _, Nat.zero_le _⟩) hS (fun X20 Yq Rq H locs hq hH hS => ?_)
              obtain ⟨h9Y, h9R, hq⟩ := hq
              dsimp only at h9Y h9R
              rw [h9Y, h9R] at hH
              have hF := hF X20 hH.2.2.1 hq
              refine lv_aload_n C.1 C.2.1 dX1_judge_101 rfl (lv_at hl 2 rfl) ?_
              refine zg1_1 C hH (zChart_n0 hC) (zChart_k0 hC) q_394 (zChart_blk hC).1 dX1_judge_102 ?_
              refine lv_iload_n C.1 C.2.1 dX1_judge_105 rfl (lv_at hl 1 rfl) ?_
              refine lv_aload_n C.1 C.2.1 dX1_judge_106 rfl (lv_at hl 2 rfl) ?_
              refine zg1_9 C hH (zChart_n0 hC) (zChart_k0 hC) q_413 (zChart_r14 hC) dX1_judge_107 ?_
              refine lv_iload_n C.1 C.2.1 dX1_judge_110 rfl (lv_at hl 1 rfl) ?_
              obtain ⟨o21, hF⟩ := hF
              refine zd_aaldr C hH (zChart_n14 hC) 5 rfl rfl (by rw [(zChart_k14 hC)]; rfl) o21.1 (by rw [zChart_l14 hC]; exact o21.2) (by rw [zChart_l14 hC]; decide) (zChart_lg hC o21.1 o21.2).1 dX1_judge_111 ?_
              obtain ⟨o22, hF⟩ := hF
              refine zgoi (zrunV (As := [.int (zI (k)), .ref (bs + (i + 17 + 2 * (k : Int).toNat))]) (rest := []) C hE hH hS hl.1 (c_X0_payEach (l := l) (zChart_blk hC).2 (zChart_lg hC o21.1 o21.2).2 (k) hk o22) k_RX1_114 ⟨Nat.le_of_ble_eq_true rfl, Nat.le_of_ble_eq_true rfl⟩ (zBlocks_n0 (zChart_blk hC).2) (zBlocks_k0 (zChart_blk hC).2) rfl rfl rfl (Nat.le_of_ble_eq_true rfl) dX1_judge_112 ⟨Nat.zero_le _, Nat.zero_le _⟩) hS (fun r24 X23 Yq Rq H locs hrq hq hH hS => ?_)
              obtain ⟨h9Y, h9R, hq⟩ := hq
              dsimp only at h9Y h9R
              rw [h9Y, h9R] at hH
              have hr24 := hrq
              have hF := hF r24 hrq X23 hH.2.2.1 hq
              refine lv_aload_n C.1 C.2.1 dX1_judge_115 rfl (lv_at hl 2 rfl) ?_
              refine zg1_1 C hH (zChart_n0 hC) (zChart_k0 hC) q_394 (zChart_blk hC).1 dX1_judge_116 ?_
              refine zg0_4 C hH (zBlocks_n0 (zChart_blk hC).2) (zBlocks_k0 (zChart_blk hC).2) q_238 (zBlocks_r4 (zChart_blk hC).2) dX1_judge_119 ?_
              refine lv_iload_n C.1 C.2.1 dX1_judge_122 rfl (lv_at hl 1 rfl) ?_
              obtain ⟨o25, hF⟩ := hF
              refine zd_iald C hH (zBlocks_n4 (zChart_blk hC).2) (zBlocks_k4 (zChart_blk hC).2) o25.1 (by rw [zBlocks_l4 (zChart_blk hC).2]; exact o25.2) (by rw [zBlocks_l4 (zChart_blk hC).2]; decide) dX1_judge_123 ?_
              refine zd_icmp_ge C hr24 (hH.2.2.1 _ _) 130 dX1_judge_124 (by decide) (fun c26 => ?_) (fun c26 => ?_)
              · have hF := hF.1 c26
                refine lv_aload_n C.1 C.2.1 dX1_judge_130 rfl (lv_at hl 2 rfl) ?_
                refine zg1_9 C hH (zChart_n0 hC) (zChart_k0 hC) q_413 (zChart_r14 hC) dX1_judge_131 ?_
                refine lv_iload_n C.1 C.2.1 dX1_judge_134 rfl (lv_at hl 1 rfl) ?_
                obtain ⟨o27, hF⟩ := hF
                refine zd_aaldr C hH (zChart_n14 hC) 5 rfl rfl (by rw [(zChart_k14 hC)]; rfl) o27.1 (by rw [zChart_l14 hC]; exact o27.2) (by rw [zChart_l14 hC]; decide) (zChart_lg hC o27.1 o27.2).1 dX1_judge_135 ?_
                refine zg5_1 C hH (zLedger_n0 (zChart_lg hC o27.1 o27.2).2) (zLedger_k0 (zChart_lg hC o27.1 o27.2).2) q_384 (zLedger_r1 (zChart_lg hC o27.1 o27.2).2) dX1_judge_136 ?_
                refine lv_aload_n C.1 C.2.1 dX1_judge_139 rfl (lv_at hl 2 rfl) ?_
                refine zg1_1 C hH (zChart_n0 hC) (zChart_k0 hC) q_394 (zChart_blk hC).1 dX1_judge_140 ?_
                refine zg0_3 C hH (zBlocks_n0 (zChart_blk hC).2) (zBlocks_k0 (zChart_blk hC).2) q_235 (zBlocks_r3 (zChart_blk hC).2) dX1_judge_143 ?_
                refine lv_iload_n C.1 C.2.1 dX1_judge_146 rfl (lv_at hl 1 rfl) ?_
                obtain ⟨o28, hF⟩ := hF
                refine zd_iald C hH (zBlocks_n3 (zChart_blk hC).2) (zBlocks_k3 (zChart_blk hC).2) o28.1 (by rw [zBlocks_l3 (zChart_blk hC).2]; exact o28.2) (by rw [zBlocks_l3 (zChart_blk hC).2]; decide) dX1_judge_147 ?_
                refine lv_dup2_11 C.1 C.2.1 dX1_judge_148 rfl rfl ?_
                obtain ⟨o29, hF⟩ := hF
                refine zd_iald C hH (zLedger_n1 (zChart_lg hC o27.1 o27.2).2) (zLedger_k1 (zChart_lg hC o27.1 o27.2).2) o29.1 (by rw [zLedger_l1 (zChart_lg hC o27.1 o27.2).2]; exact o29.2) (by rw [zLedger_l1 (zChart_lg hC o27.1 o27.2).2]; decide) dX1_judge_149 ?_
                refine lv_aload_n C.1 C.2.1 dX1_judge_150 rfl (lv_at hl 2 rfl) ?_
                refine zg1_0 C hH (zChart_n0 hC) (zChart_k0 hC) q_392 (zChart_net hC).1 dX1_judge_151 ?_
                refine zg6_5 C hH (zNet_n0 (zChart_net hC).2) (zNet_k0 (zChart_net hC).2) q_191 dX1_judge_154 ?_
                refine zd_iadd C dX1_judge_157 ?_
                obtain ⟨o30, hF⟩ := hF
                obtain ⟨o31, hF⟩ := hF
                refine zd_iast C hH hS (zLedger_n1 (zChart_lg hC o27.1 o27.2).2) (zLedger_k1 (zChart_lg hC o27.1 o27.2).2) o30.1 (by rw [zLedger_l1 (zChart_lg hC o27.1 o27.2).2]; exact o30.2) (by rw [zLedger_l1 (zChart_lg hC o27.1 o27.2).2]; decide) o31 dX1_judge_158 (fun H locs hH hS => ?_)
                obtain ⟨X32, eX32⟩ : ∃ z, z = zU X23 (i + 17 + 2 * (k : Int).toNat + 1) (X23 (cb R i + 3) (k)) ((X23 (i + 17 + 2 * (k : Int).toNat + 1) (X23 (cb R i + 3) (k))) + (X23 (cn R i) 5)) := ⟨_, rfl⟩
                rw [← eX32] at hH
                have hF := hF X32 eX32 hH.2.2.1
                refine lv_aload_n C.1 C.2.1 dX1_judge_159 rfl (lv_at hl 2 rfl) ?_
                refine lv_dup C.1 C.2.1 dX1_judge_160 rfl ?_
                refine zg1_3 C hH (zChart_n0 hC) (zChart_k0 hC) q_399 dX1_judge_161 ?_
                refine zd_iconst C dX1_judge_164 ?_
                refine lv_iload_n C.1 C.2.1 dX1_judge_165 rfl (lv_at hl 1 rfl) ?_
                refine zd_ishl C dX1_judge_166 ?_
                refine zd_ior C dX1_judge_167 ?_
                refine zp1_3 C hH hS (zChart_n0 hC) (zChart_k0 hC) q_399 (zI_rg _) dX1_judge_168 (fun H locs hH hS => ?_)
                obtain ⟨X33, eX33⟩ : ∃ z, z = zU X32 (i) 3 (zOr (X32 (i) 3) (zShl (1) (k))) := ⟨_, rfl⟩
                rw [← eX33] at hH
                have hF := hF X33 eX33 hH.2.2.1
                refine zd_iinc (k := 1) (lv' := [(1, .int (zI (k + 1))), (2, .int (zI (X5 (i + 9) (k)))), (0, .ref (bs + (i)))]) C hl rfl dX1_judge_171 (by decide) rfl (fun ls hl => ?_)
                refine lv_goto (tgt := 20) C.1 C.2.1 dX1_judge_174 (by decide) ?_
                obtain ⟨o34, hF⟩ := hF
                exact ih4 (k + 1) X33 o34 hF.1 (Nat.lt_of_lt_of_le hF.2 (Nat.le_of_lt_succ hmu4)) _ _ _ hH hS (lv_sub hl [0, 2] rfl)
              · have hF := hF.2 c26
                refine lv_goto (tgt := 171) C.1 C.2.1 dX1_judge_127 (by decide) ?_
                refine zd_iinc (k := 1) (lv' := [(1, .int (zI (k + 1))), (2, .int (zI (X5 (i + 9) (k)))), (0, .ref (bs + (i)))]) C hl rfl dX1_judge_171 (by decide) rfl (fun ls hl => ?_)
                refine lv_goto (tgt := 20) C.1 C.2.1 dX1_judge_174 (by decide) ?_
                obtain ⟨o35, hF⟩ := hF
                exact ih4 (k + 1) X23 o35 hF.1 (Nat.lt_of_lt_of_le hF.2 (Nat.le_of_lt_succ hmu4)) _ _ _ hH hS (lv_sub hl [0, 2] rfl)
            · have hF := hF.2 c16
              refine lv_goto (tgt := 171) C.1 C.2.1 dX1_judge_83 (by decide) ?_
              refine zd_iinc (k := 1) (lv' := [(1, .int (zI (k + 1))), (2, .int (zI (X5 (i + 9) (k)))), (0, .ref (bs + (i)))]) C hl rfl dX1_judge_171 (by decide) rfl (fun ls hl => ?_)
              refine lv_goto (tgt := 20) C.1 C.2.1 dX1_judge_174 (by decide) ?_
              obtain ⟨o36, hF⟩ := hF
              exact ih4 (k + 1) X5 o36 hF.1 (Nat.lt_of_lt_of_le hF.2 (Nat.le_of_lt_succ hmu4)) _ _ _ hH hS (lv_sub hl [0, 2] rfl)
  exact L4 (((20 - ((1 : Int))).toNat) + 1) ((1 : Int)) X3 (by decide) hI4 (Nat.lt_succ_self _) _ _ _ hH hS (lv_sub hl [0, 1] rfl)
theorem v_X1_judge {X Y : Nat → Int → Int} {R : Nat → Int → Option Nat} {i : Nat} {Z : Nat → Int → Int} {q : Nat}  (hp : (dR Z q X R i ∧ vN Z q) ∧ (nR Z q X (cn R i) ∧ (cn R i) + 1 < i) ∧ pyP X (cb R i)) : F_X1_judge i Z q X Y R  := by
  unfold F_X1_judge
  intro hX hY
  obtain ⟨⟨hd, hvn⟩, ⟨hnr, hj⟩, hpy⟩ := hp
  have hv := hd.1.1
  obtain ⟨e27, n1, n15⟩ := vZ_n hv
  have hi2 := hd.2.1
  have hB := hd.2.2.1.1
  have hcb := hd.2.2.1.2
  have hA := hvn.2
  have hb4 := rS_b hA hv.2
  refine ⟨?_, ?_⟩
  · omega
  intro X2
  intro rX2
  intro h1
  intro X3
  intro eX3
  intro rX3
  refine ⟨?_, ?_⟩
  · rw [Int.toNat_zero] at h1
    have o2 : ∀ z, z ≠ i + 17 → z ≠ i + 17 + 1 → X2 z = X z := fun z a b => by rw [h1, zCp_o (by omega), zU_o (by omega)]
    refine ⟨by omega, ⟨?_, fun k hk M hM => ?_⟩, fun z a b => by rw [eX3, zU_o a, o2 z (by omega) (by omega)], fun s hs => by rw [eX3, zU_n (by omega), o2 i (by omega) (by omega)]⟩
    · rw [eX3, zU_s, show (1 : Int).toNat = 1 from rfl]
      show (1 : Int) = if sdf Z q 0 = true then zOr 0 (zShl 1 0) else 0
      rw [if_pos sdf_0]
      decide +kernel
    · have e0 : k = 0 := by omega
      subst e0
      have e9 : rS Z q 0 = some _ := pr_0
      rw [e9] at hM
      cases hM
      rw [eX3, zU_o (by omega), zU_o (by omega), h1]
      refine ⟨?_, zCp_6 ?_⟩
      · rw [zCp_o (by omega)]
        show zU X (i + 17) 0 _ (i + 17) 0 = _
        rw [zU_s]
        exact hnr.2.2.2.1
      · rw [zU_o (by omega)]
        intro a h0 h1
        have g := hnr.2.2.2.2 a h0 h1
        exact ⟨fun h => (g.1 h), g.2⟩
  intro k X5
  intro _
  intro rX5
  intro h2
  obtain ⟨⟨k1, k2⟩, fj, fo, f3⟩ := h2
  have f2 : X5 i 2 = X i 2 := f3 2 (by decide)
  obtain ⟨kn, rfl⟩ := nat_of (show 0 ≤ k by omega)
  refine ⟨?_, ?_⟩
  · intro c1
    exact ⟨by rw [show Z q 27 = kn by omega]; exact fj, fo, f3⟩
  intro c2
  have kl : (kn : Int) < Z q 27 := by omega
  have hpk := vZ_P hv (show 1 ≤ kn by omega) kl
  have hx : X5 (i + 9) kn = rP Z q kn := by rw [fo (i + 9) (by omega) (by omega)]; exact (hd.2.2.2 kn kl).1 (by omega)
  have hrs := rS_s hpk
  have hso : soE X5 i (X5 (i + 9) kn) = (rS Z q (rP Z q kn)).isSome := by
    unfold soE
    rw [hx, fj.1, f2, bS_has _ (by omega) (by omega), decide_eq_true (by omega), Bool.true_and]
    rfl
  have oc : ∀ z, z < i → X5 z = X z := fun z hz => fo z (by omega) (by omega)
  have tk := (bR_t hv hB (z := (kn : Int)) (by omega) kl).1
  have tp := (bR_t hv hB (z := (rP Z q kn : Int)) (by omega) (by omega)).1
  have hbk := hB.2.2 kn (by omega) kl
  have hoP := (hv.2.2.2 kn (by omega) (by omega)).1
  refine ⟨?_, ?_⟩
  · first | omega | exact ⟨by omega, by omega⟩ | decide | assumption | exact ⟨by omega, by omega, by omega⟩ | exact ⟨by decide, by decide⟩
  refine ⟨?_, ?_⟩
  · first | omega | exact ⟨by omega, by omega⟩ | decide | assumption | exact ⟨by omega, by omega, by omega⟩ | exact ⟨by decide, by decide⟩
  refine ⟨?_, ?_⟩
  · intro c3
    have hn : rS Z q kn = none := by
      rw [hso] at c3
      have hn : rS Z q (rP Z q kn) = none := Option.not_isSome_iff_eq_none.mp (by rw [c3]; decide)
      rw [hrs, hn]
      rfl
    refine ⟨?_, ?_⟩
    · first | omega | exact ⟨by omega, by omega⟩ | decide | assumption | exact ⟨by omega, by omega, by omega⟩ | exact ⟨by decide, by decide⟩
    refine ⟨?_, ?_⟩
    · exact ⟨by omega, jR_no fj hn (rfl) (fun _ _ => ⟨rfl, rfl⟩), fo, f3⟩
    first | omega | exact ⟨by omega, by omega⟩ | decide | assumption | exact ⟨by omega, by omega, by omega⟩ | exact ⟨by decide, by decide⟩
  intro c4
  rw [hso] at c4
  obtain ⟨L, hL⟩ := Option.isSome_iff_exists.mp c4
  have hl := fj.2 (rP Z q kn) (by omega) L hL
  have hL6 := hb4 (rP Z q kn) (by omega) L hL
  rw [hL] at hrs
  refine ⟨?_, ?_⟩
  · first | omega | exact ⟨by omega, by omega⟩ | decide | assumption | exact ⟨by omega, by omega, by omega⟩ | exact ⟨by decide, by decide⟩
  refine ⟨?_, ?_⟩
  · rw [hx]
    omega
  refine ⟨?_, ?_⟩
  · intro c5
    have hn : rS Z q kn = none := by
      rw [oc _ (by omega), hx, tk, tp] at c5
      rw [hrs]
      unfold sSndS
      rw [decide_eq_true (show rT Z q kn < rT Z q (rP Z q kn) from c5)]
      rfl
    refine ⟨?_, ?_⟩
    · first | omega | exact ⟨by omega, by omega⟩ | decide | assumption | exact ⟨by omega, by omega, by omega⟩ | exact ⟨by decide, by decide⟩
    refine ⟨?_, ?_⟩
    · exact ⟨by omega, jR_no fj hn (rfl) (fun _ _ => ⟨rfl, rfl⟩), fo, f3⟩
    first | omega | exact ⟨by omega, by omega⟩ | decide | assumption | exact ⟨by omega, by omega, by omega⟩ | exact ⟨by decide, by decide⟩
  intro c6
  rw [oc _ (by omega), hx, tk, tp] at c6
  have c6 : ¬ rT Z q kn < rT Z q (rP Z q kn) := c6
  refine ⟨?_, ?_⟩
  · first | omega | exact ⟨by omega, by omega⟩ | decide | assumption | exact ⟨by omega, by omega, by omega⟩ | exact ⟨by decide, by decide⟩
  refine ⟨?_, ?_⟩
  · intro c7
    rw [oc _ (by omega), oc _ (by omega), hbk.2.2.1, hnr.2.2.2.1, decide_eq_true_eq] at c7
    have hst : rS Z q kn = match sPay (Z q 26) (rF Z q kn) (rO Z q kn) (rM Z q kn) L (mC Z q kn 3).toNat with
        | none => none
        | some M => some (upI M (mC Z q kn 2) (M (mC Z q kn 2) + mG Z q 5)) := by
      rw [hrs]
      show (if decide (rT Z q kn < rT Z q (rP Z q kn)) || !mIn (mC Z q kn 2) 0 (Z q 26 - 1) then none else _) = _
      rw [decide_eq_false c6, mIn_t.mpr (show 0 ≤ mC Z q kn 2 ∧ mC Z q kn 2 ≤ Z q 26 - 1 by omega)]
      rfl
    refine ⟨?_, ?_⟩
    · first | omega | exact ⟨by omega, by omega⟩ | decide | assumption | exact ⟨by omega, by omega, by omega⟩ | exact ⟨by decide, by decide⟩
    refine ⟨?_, ?_⟩
    · rw [hx]
      omega
    refine ⟨?_, ?_⟩
    · rw [hx]
      omega
    intro X20
    intro rX20
    intro h3
    rw [hx] at h3
    have ek : ((kn : Nat) : Int).toNat = kn := by omega
    have ep : ((rP Z q kn : Nat) : Int).toNat = rP Z q kn := by omega
    rw [ek, ep] at h3
    have o20 : ∀ z, z ≠ i + 17 + 2 * kn → z ≠ i + 17 + 2 * kn + 1 → X20 z = X5 z := fun z a b => by rw [h3, zCp_o b, zU_o a]
    have a20 : X20 (i + 17 + 2 * kn) 0 = Z q 26 := by
      rw [h3, zCp_o (by omega), zU_s]
      exact hl.1
    have l20 : eqB (Z q 26) (X20 (i + 17 + 2 * kn + 1)) L := by
      rw [h3]
      refine zCp_6 ?_
      rw [zU_o (by omega)]
      exact hl.2
    refine ⟨?_, ?_⟩
    · first | omega | exact ⟨by omega, by omega⟩ | decide | assumption | exact ⟨by omega, by omega, by omega⟩ | exact ⟨by decide, by decide⟩
    refine ⟨?_, ?_⟩
    · have ek : ((kn : Nat) : Int).toNat = kn := by omega
      rw [ek]
      refine ⟨by omega, by omega, fun y y0 y1 => ?_, fun y y0 y1 => ?_⟩
      · rw [o20 _ (by omega) (by omega), oc _ (by omega)]
        exact hpy y y0 y1
      · have g := l20 y y0 y1
        have := hL6 y y0 y1
        by_cases hy : y < Z q 26
        · rw [g.1 hy]
          exact ⟨by omega, by omega⟩
        · have := g.2 (by omega)
          exact ⟨by omega, by omega⟩
    intro r24
    intro _
    intro X23
    intro rX23
    intro h4
    obtain ⟨n, n3, nn, eX, er⟩ := h4
    have ek2 : ((kn : Nat) : Int).toNat = kn := by omega
    rw [ek2] at eX er
    rw [o20 _ (by omega) (by omega), oc _ (by omega), hbk.2.2.2.1] at nn
    have hnp : n = (mC Z q kn 3).toNat := by have := hoP.1; have := hoP.2.1; omega
    have P := pyS (np := (mC Z q kn 3).toNat) (b := cb R i) (k := kn) (pf := rF Z q kn) (pt := rO Z q kn) (pm := rM Z q kn) a20 hA.1.2 (fun n hn => by
      have e : X20 (cb R i + 5) = X (cb R i + 5) := by rw [o20 _ (by omega) (by omega), oc _ (by omega)]
      have h5 := hbk.2.2.2.2 n
      rw [e, h5 0 (by omega) (by omega) (by decide) (by decide), h5 1 (by omega) (by omega) (by decide) (by decide), h5 2 (by omega) (by omega) (by decide) (by decide)]
      unfold rF rO rM
      rw [show (4 + 3 * (n : Int) + 0) = 4 + 3 * n by omega, show (4 + 3 * (n : Int) + 1) = 5 + 3 * n by omega, show (4 + 3 * (n : Int) + 2) = 6 + 3 * n by omega]
      exact ⟨rfl, rfl, rfl⟩) l20 n (by omega)
    rw [← er] at P
    have o23 : ∀ z, z ≠ i + 17 + 2 * kn → z ≠ i + 17 + 2 * kn + 1 → X23 z = X5 z := fun z a b => by rw [eX, pyW_o n z b, o20 z a b]
    have fK9 : jK X X23 i := ⟨fun z a b => by rw [o23 z (by omega) (by omega)]; exact fo z a b, fun s hs => by rw [o23 i (by omega) (by omega)]; exact f3 s hs⟩
    have e4 : X23 (cb R i + 4) kn = mC Z q kn 3 := by rw [o23 _ (by omega) (by omega), oc _ (by omega)]; exact hbk.2.2.2.1
    have e3 : X23 (cb R i + 3) kn = mC Z q kn 2 := by rw [o23 _ (by omega) (by omega), oc _ (by omega)]; exact hbk.2.2.1
    have e5 : X23 (cn R i) 5 = mG Z q 5 := by rw [o23 _ (by omega) (by omega), oc _ (by omega)]; exact hnr.2.2.1
    refine ⟨?_, ?_⟩
    · first | omega | exact ⟨by omega, by omega⟩ | decide | assumption | exact ⟨by omega, by omega, by omega⟩ | exact ⟨by decide, by decide⟩
    refine ⟨?_, ?_⟩
    · intro c8
      obtain ⟨M, hM, h6⟩ := P.2.1 (by have := P.1; have := hoP.1; omega)
      rw [← hnp, hM] at hst
      rw [← eX] at h6
      have hst : rS Z q kn = some (upI M (mC Z q kn 2) (M (mC Z q kn 2) + mG Z q 5)) := hst
      have hb9 := hb4 kn (by omega) _ hst (mC Z q kn 2) (by omega) (by omega)
      unfold upI at hb9
      rw [if_pos rfl] at hb9
      refine ⟨?_, ?_⟩
      · first | omega | exact ⟨by omega, by omega⟩ | decide | assumption | exact ⟨by omega, by omega, by omega⟩ | exact ⟨by decide, by decide⟩
      refine ⟨?_, ?_⟩
      · first | omega | exact ⟨by omega, by omega⟩ | decide | assumption | exact ⟨by omega, by omega, by omega⟩ | exact ⟨by decide, by decide⟩
      refine ⟨?_, ?_⟩
      · rw [e3]
        omega
      refine ⟨?_, ?_⟩
      · rw [e3]
        omega
      refine ⟨?_, ?_⟩
      · rw [ek2, e3, e5, (h6 _ c7.1 c7.2.2).1 c7.2.1]
        exact ⟨by omega, by omega⟩
      intro X32
      intro eX32
      rw [ek2, e3, e5, (h6 _ c7.1 c7.2.2).1 c7.2.1] at eX32
      intro rX32
      intro X33
      intro eX33
      intro rX33
      refine ⟨?_, ?_⟩
      · first | omega | exact ⟨by omega, by omega⟩ | decide | assumption | exact ⟨by omega, by omega, by omega⟩ | exact ⟨by decide, by decide⟩
      refine ⟨?_, ?_⟩
      · have o33 : ∀ z, z ≠ i → z ≠ i + 17 + 2 * kn + 1 → X33 z = X23 z := fun z a b => by rw [eX33, zU_o a, eX32, zU_o b]
        refine ⟨by omega, jR_so fj hst ?_ (fun z hz => ⟨?_, ?_⟩) ?_ ?_, fun z a b => ?_, fun s hs => ?_⟩
        · rw [eX33, zU_s, eX32, zU_o (by omega), o23 i (by omega) (by omega)]
        · rw [o33 _ (by omega) (by omega), o23 _ (by omega) (by omega)]
        · rw [o33 _ (by omega) (by omega), o23 _ (by omega) (by omega)]
        · rw [o33 _ (by omega) (by omega), eX, pyW_o n _ (by omega)]
          exact a20
        · rw [eX33, zU_o (by omega), eX32, zU_up]
          intro y y0 y1
          unfold upI
          by_cases g : y = mC Z q kn 2
          · rw [if_pos g, if_pos g]
            exact ⟨fun _ => rfl, fun h => absurd h (by omega)⟩
          · rw [if_neg g, if_neg g]
            exact h6 y y0 y1
        · rw [o33 z a (by omega)]
          exact fK9.1 z a b
        · rw [eX33, zU_n (by omega), eX32, zU_o (by omega)]
          exact fK9.2 s hs
      first | omega | exact ⟨by omega, by omega⟩ | decide | assumption | exact ⟨by omega, by omega, by omega⟩ | exact ⟨by decide, by decide⟩
    intro c9
    have hn : rS Z q kn = none := by
      have hnn := P.2.2 (by omega)
      rw [hnp] at hnn
      rw [hst, hnn]
    refine ⟨?_, ?_⟩
    · first | omega | exact ⟨by omega, by omega⟩ | decide | assumption | exact ⟨by omega, by omega, by omega⟩ | exact ⟨by decide, by decide⟩
    refine ⟨?_, ?_⟩
    · exact ⟨by omega, jR_no fj hn (by rw [o23 i (by omega) (by omega)]) (fun z hz => ⟨o23 _ (by omega) (by omega), o23 _ (by omega) (by omega)⟩), fK9⟩
    first | omega | exact ⟨by omega, by omega⟩ | decide | assumption | exact ⟨by omega, by omega, by omega⟩ | exact ⟨by decide, by decide⟩
  intro c10
  have hn : rS Z q kn = none := by
    rw [oc _ (by omega), oc _ (by omega), hbk.2.2.1, hnr.2.2.2.1, decide_eq_false_iff_not] at c10
    have h6 := hA.1
    rw [hrs]
    unfold sSndS
    rw [mIn_f.mpr (show ¬ (0 ≤ mC Z q kn 2 ∧ mC Z q kn 2 ≤ Z q 26 - 1) by omega), Bool.not_false, Bool.or_true]
    rfl
  refine ⟨?_, ?_⟩
  · first | omega | exact ⟨by omega, by omega⟩ | decide | assumption | exact ⟨by omega, by omega, by omega⟩ | exact ⟨by decide, by decide⟩
  refine ⟨?_, ?_⟩
  · exact ⟨by omega, jR_no fj hn (rfl) (fun _ _ => ⟨rfl, rfl⟩), fo, f3⟩
  first | omega | exact ⟨by omega, by omega⟩ | decide | assumption | exact ⟨by omega, by omega, by omega⟩ | exact ⟨by decide, by decide⟩
theorem c_X1_judge {l : Launch} {D : va_G} {cy : Nat → ClassId} {bs N : Nat} {sa : Nat → Nat} {kd len : Nat → Nat} {X Y : Nat → Int → Int} {R : Nat → Int → Option Nat} {i : Nat} {Z : Nat → Int → Int} {q : Nat} (hC : zChart N kd len R i)  (hp : (dR Z q X R i ∧ vN Z q) ∧ (nR Z q X (cn R i) ∧ (cn R i) + 1 < i) ∧ pyP X (cb R i)) : Met l yX1_judge (.code yX1_judge cX1_judge 3 none :: zTB) (zRm 3 81) (zPc D cy bs sa N kd len X Y R [.ref (bs + (i))]) (zQv D cy bs N kd len (fun st => st.2.1 = Y ∧ st.2.2 = R ∧ (jR Z q (st.1) i (Z q 27) ∧ jK X (st.1) i))) 0 0 (zA bs) := w_X1_judge hC  (v_X1_judge  hp)
