/-! TIPS, FORKS, EVEN ONES -/
/-- pairs counted row by row -/
def eeG (f : Nat → Nat → Bool) (x : Nat) : Nat → Bool := fun e => decide (x < e) && f e x
def eeN (f : Nat → Nat → Bool) (m : Nat) : Nat → Int
  | 0 => 0
  | a + 1 => eeN f m a + cN (eeG f a) m
theorem eeN_s {f : Nat → Nat → Bool} {m : Nat} : ∀ a, a ≤ m → eeN f (m + 1) a = eeN f m a + cN (f m) a
  | 0, _ => rfl
  | a + 1, h => by
    show eeN f (m + 1) a + (cN (eeG f a) m + if eeG f a m then 1 else 0) = eeN f m a + cN (eeG f a) m + (cN (f m) a + if f m a then 1 else 0)
    rw [eeN_s a (by omega)]
    unfold eeG
    rw [decide_eq_true (show a < m by omega), Bool.true_and]
    omega
theorem eeG_0 {f : Nat → Nat → Bool} {x m : Nat} (h : m ≤ x + 1) : cN (eeG f x) m = 0 := cN_0 fun e he => by
  unfold eeG
  rw [decide_eq_false (by omega), Bool.false_and]
theorem eeN_b {f : Nat → Nat → Bool} {m : Nat} (hm : m ≤ 15) : ∀ a, 0 ≤ eeN f m a ∧ eeN f m a ≤ 15 * a
  | 0 => ⟨Int.le_refl _, Int.le_refl _⟩
  | a + 1 => by
    have ih := eeN_b (f := f) hm a
    have b := cN_b (eeG f a) m
    show 0 ≤ eeN f m a + cN (eeG f a) m ∧ eeN f m a + cN (eeG f a) m ≤ _
    exact ⟨by omega, by omega⟩
theorem eeN_ev {f : Nat → Nat → Bool} : ∀ m, eeN f m m = evN f m
  | 0 => rfl
  | m + 1 => by
    show eeN f (m + 1) m + cN (eeG f m) (m + 1) = evN f m + cN (f m) m
    rw [eeN_s m (Nat.le_refl _), eeG_0 (Nat.le_refl _), eeN_ev m, Int.add_zero]
theorem cN_n {f : Nat → Bool} {q : Nat} (h : f q = false) : cN f (q + 1) = cN f q := by
  show cN f q + (if f q then 1 else 0) = _
  rw [h]
  exact Int.add_zero _
theorem cN_y {f : Nat → Bool} {q : Nat} (h : f q = true) : cN f (q + 1) = cN f q + 1 := by
  show cN f q + (if f q then 1 else 0) = _
  rw [h]
  rfl
theorem aHc_ne {P : Nat → Nat} {sb : Nat → Int} {w : Nat → Bool} {ah : Nat → Nat → Bool} {k : Nat} (h : P k < k) (hw : w k = true) : ∀ d, aHc P sb w ah (P k) (k + 1 + d) ≠ -1
  | 0 => by
    rw [Nat.add_zero, cb_e h]
    by_cases c : cbC P sb w ah k = true
    · rw [if_pos ⟨rfl, c⟩]
      omega
    · rw [if_neg (fun z => c z.2)]
      intro g
      apply c
      unfold cbC
      rw [hw, decide_eq_true g]
      rfl
  | d + 1 => by
    have ih := aHc_ne (sb := sb) (ah := ah) h hw d
    show (if _ then (((k + 1 + d : Nat)) : Int) else aHc P sb w ah (P k) (k + 1 + d)) ≠ -1
    split
    · show ((k + 1 + d : Nat) : Int) ≠ -1
      omega
    · exact ih
theorem tRc_s {Z : Nat → Int → Int} {q k : Nat} (h : rP Z q k < k) : tRc Z q k = (sdf Z q k && (tRc Z q (rP Z q k) && decide (tSb Z q k = tSb Z q (tHv Z q (rP Z q k)).toNat))) := pr_s h
theorem tRc_0 {Z : Nat → Int → Int} {q : Nat} : tRc Z q 0 = true := pr_0
def rcI (Z : Nat → Int → Int) (q : Nat) (u k : Int) : Prop := ∀ e : Nat, e < 15 → mHas u e = (decide (e = 0) || (decide ((e : Int) < k) && tRc Z q e))
theorem rcI_n {Z : Nat → Int → Int} {q : Nat} {u : Int} {k : Nat} (h : rcI Z q u k) (hk : k = 0 ∨ tRc Z q k = false) : rcI Z q u (k + 1) := fun e he => by
  rw [h e he]
  by_cases g : e = k
  · subst g
    rcases hk with g | g
    · rw [decide_eq_true g]
      rfl
    · rw [g, Bool.and_false, Bool.and_false]
  · rw [show decide ((e : Int) < (k : Int)) = decide ((e : Int) < (k : Int) + 1) from decide_eq_decide.mpr ⟨fun _ => by omega, fun _ => by omega⟩]
theorem rcI_y {Z : Nat → Int → Int} {q : Nat} {u : Int} {k : Nat} (h : rcI Z q u k) (hk : tRc Z q k = true) (h15 : k < 15) : rcI Z q (zOr u (zShl 1 k)) (k + 1) := fun e he => by
  rw [mHas_set (by omega) (by omega), h e he]
  by_cases g : e = k
  · subst g
    rw [decide_eq_true (rfl : e = e), hk, decide_eq_true (show (e : Int) < (e : Int) + 1 by omega), Bool.or_true, Bool.and_true, Bool.or_true]
  · rw [decide_eq_false g, Bool.or_false, show decide ((e : Int) < (k : Int)) = decide ((e : Int) < (k : Int) + 1) from decide_eq_decide.mpr ⟨fun _ => by omega, fun _ => by omega⟩]
theorem rcI_p {Z : Nat → Int → Int} {q : Nat} {u : Int} {k p : Nat} (h : rcI Z q u k) (hp : p < k) (h15 : p < 15) : mHas u p = tRc Z q p := by
  rw [h p h15, decide_eq_true (show (p : Int) < k by omega), Bool.true_and]
  by_cases g : p = 0
  · subst g
    rw [tRc_0]
    rfl
  · rw [decide_eq_false g, Bool.false_or]
abbrev cX1_forks : ByteArray := prog_3_method_22_code
def yX1_forks : MethodName := ⟨RX1, "forks", "()I"⟩
theorem dX1_forks_0 : decode cX1_forks 0 = .ok (.iconst 0, 1) := by decide +kernel
theorem dX1_forks_1 : decode cX1_forks 1 = .ok (.istore_n 1, 1) := by decide +kernel
theorem dX1_forks_2 : decode cX1_forks 2 = .ok (.iconst 0, 1) := by decide +kernel
theorem dX1_forks_3 : decode cX1_forks 3 = .ok (.istore_n 2, 1) := by decide +kernel
theorem dX1_forks_4 : decode cX1_forks 4 = .ok (.iload_n 2, 1) := by decide +kernel
theorem dX1_forks_5 : decode cX1_forks 5 = .ok (.aload_n 0, 1) := by decide +kernel
theorem dX1_forks_6 : decode cX1_forks 6 = .ok (.getfield 68, 3) := by decide +kernel
theorem dX1_forks_9 : decode cX1_forks 9 = .ok (.if_icmp .gt 35, 3) := by decide +kernel
theorem dX1_forks_12 : decode cX1_forks 12 = .ok (.aload_n 0, 1) := by decide +kernel
theorem dX1_forks_13 : decode cX1_forks 13 = .ok (.getfield 69, 3) := by decide +kernel
theorem dX1_forks_16 : decode cX1_forks 16 = .ok (.iload_n 2, 1) := by decide +kernel
theorem dX1_forks_17 : decode cX1_forks 17 = .ok (.invokestatic 127, 3) := by decide +kernel
theorem dX1_forks_20 : decode cX1_forks 20 = .ok (.ifCond .eq 18, 3) := by decide +kernel
theorem dX1_forks_23 : decode cX1_forks 23 = .ok (.aload_n 0, 1) := by decide +kernel
theorem dX1_forks_24 : decode cX1_forks 24 = .ok (.iload_n 2, 1) := by decide +kernel
theorem dX1_forks_25 : decode cX1_forks 25 = .ok (.invokevirtual 156, 3) := by decide +kernel
theorem dX1_forks_28 : decode cX1_forks 28 = .ok (.invokestatic 160, 3) := by decide +kernel
theorem dX1_forks_31 : decode cX1_forks 31 = .ok (.iconst 1, 1) := by decide +kernel
theorem dX1_forks_32 : decode cX1_forks 32 = .ok (.if_icmp .le 6, 3) := by decide +kernel
theorem dX1_forks_35 : decode cX1_forks 35 = .ok (.iinc 1 1, 3) := by decide +kernel
theorem dX1_forks_38 : decode cX1_forks 38 = .ok (.iinc 2 1, 3) := by decide +kernel
theorem dX1_forks_41 : decode cX1_forks 41 = .ok (.goto (-37), 3) := by decide +kernel
theorem dX1_forks_44 : decode cX1_forks 44 = .ok (.iload_n 1, 1) := by decide +kernel
theorem dX1_forks_45 : decode cX1_forks 45 = .ok (.ireturn, 1) := by decide +kernel
theorem q_1121 : Cond.methodLink RX1 160 yJ6_bitCount_0f7a4 ∈ zTB := zmem 1121 (by decide +kernel) rfl
theorem k_RX1_160 : zLs RX1 160 yJ6_bitCount_0f7a4 cJ6_bitCount_0f7a4 1 (some .int) 1 := ⟨⟨q_1121, q_1001, q_147, q_1002⟩, ⟨by decide, by decide⟩, by decide +kernel⟩
def F_X1_forks (i : Nat) (Z : Nat → Int → Int) (q : Nat) (X Y : Nat → Int → Int) (R : Nat → Int → Option Nat)  : Prop := (∀ i j, rI (X i j)) → (∀ i j, rL (Y i j)) → ((0 ≤ (0 : Int) ∧ (0 : Int) ≤ Z q 27) ∧ (0 : Int) = cN (fFk (rP Z q) (sdf Z q) (Z q 27).toNat) ((0 : Int)).toNat) ∧ (∀ (u : Int) (k : Int), rI u → rI k → ((0 ≤ k ∧ k ≤ Z q 27) ∧ u = cN (fFk (rP Z q) (sdf Z q) (Z q 27).toNat) (k).toNat) → ((((X (i) 2) < k) → (u = cN (fFk (rP Z q) (sdf Z q) (Z q 27).toNat) (Z q 27).toNat)) ∧ ((¬ ((X (i) 2) < k)) → ((((decide (0 ≤ k ∧ k < 15) && decide (¬ zAnd (zShr (X (i) 3) (k)) 1 = 0)) = false) → ((rI (k + 1)) ∧ ((0 ≤ (k + 1) ∧ (k + 1) ≤ Z q 27) ∧ u = cN (fFk (rP Z q) (sdf Z q) (Z q 27).toNat) ((k + 1)).toNat) ∧ (((20 - (k + 1)).toNat) < ((20 - (k)).toNat)))) ∧ (((decide (0 ≤ k ∧ k < 15) && decide (¬ zAnd (zShr (X (i) 3) (k)) 1 = 0)) = true) → ((cA Z q X Y R i ∧ 0 ≤ (k)) ∧ (rI (bS (fSc (rP Z q) (sdf Z q) (k).toNat) (Z q 27).toNat) → (rI (mBc (bS (fSc (rP Z q) (sdf Z q) (k).toNat) (Z q 27).toNat)) → ((((mBc (bS (fSc (rP Z q) (sdf Z q) (k).toNat) (Z q 27).toNat)) ≤ 1) → ((rI (k + 1)) ∧ ((0 ≤ (k + 1) ∧ (k + 1) ≤ Z q 27) ∧ u = cN (fFk (rP Z q) (sdf Z q) (Z q 27).toNat) ((k + 1)).toNat) ∧ (((20 - (k + 1)).toNat) < ((20 - (k)).toNat)))) ∧ ((¬ ((mBc (bS (fSc (rP Z q) (sdf Z q) (k).toNat) (Z q 27).toNat)) ≤ 1)) → ((rI (u + 1)) ∧ (rI (k + 1)) ∧ ((0 ≤ (k + 1) ∧ (k + 1) ≤ Z q 27) ∧ (u + 1) = cN (fFk (rP Z q) (sdf Z q) (Z q 27).toNat) ((k + 1)).toNat) ∧ (((20 - (k + 1)).toNat) < ((20 - (k)).toNat)))))))))))))
set_option maxHeartbeats 4000000 in
set_option maxRecDepth 100000 in
theorem w_X1_forks {l : Launch} {D : va_G} {cy : Nat → ClassId} {bs N : Nat} {sa : Nat → Nat} {kd len : Nat → Nat} {X Y : Nat → Int → Int} {R : Nat → Int → Option Nat} {i : Nat} {Z : Nat → Int → Int} {q : Nat} (hC : zChart N kd len R i)  (hF : F_X1_forks i Z q X Y R ) : Met l yX1_forks (.code yX1_forks cX1_forks 3 (some .int) :: zTB) (zRm 2 44) (zPc D cy bs sa N kd len X Y R [.ref (bs + (i))]) (zQi D cy bs N kd len (fun r st => r = cN (fFk (rP Z q) (sdf Z q) (Z q 27).toNat) (Z q 27).toNat ∧ st = (X, Y, R))) 0 0 (zA bs) := by
  refine zstart (by decide) (Nat.le_of_ble_eq_true rfl) ?_
  intro p e s m args below meth c ls C hE hH hr hlk hnm hl hargs
  have hF := hF hH.2.2.1 hH.2.2.2
  have hS : va_S (zA bs) s.heap s.heap [] := va_S.rf
  have hl : lv_has ls 3 [(0, .ref (bs + (i)))] := hl
  refine zd_iconst C dX1_forks_0 ?_
  refine lv_istore_n (lv' := [(1, .int (zI (0))), (0, .ref (bs + (i)))]) C.1 C.2.1 dX1_forks_1 rfl hl (by decide) rfl (fun ls hl => ?_)
  refine zd_iconst C dX1_forks_2 ?_
  refine lv_istore_n (lv' := [(2, .int (zI (0))), (1, .int (zI (0))), (0, .ref (bs + (i)))]) C.1 C.2.1 dX1_forks_3 rfl hl (by decide) rfl (fun ls hl => ?_)
  obtain ⟨hI1, hF⟩ := hF
  have L1 : ∀ (fu : Nat) (u : Int) (k : Int), rI u → rI k → ((0 ≤ k ∧ k ≤ Z q 27) ∧ u = cN (fFk (rP Z q) (sdf Z q) (Z q 27).toNat) (k).toNat) → ((20 - (k)).toNat) < fu → ∀ (H : Heap) (locs : List Loc) (ls : Array Slot), zH D cy bs N kd len X Y R H → va_S (zA bs) s.heap H locs → lv_has ls 3 [(1, .int (zI (u))), (2, .int (zI (k))), (0, .ref (bs + (i)))] → W p l e (zRm 2 44) s m args below meth c H locs 0 0 (MQ below (zQi D cy bs N kd len (fun r st => r = cN (fFk (rP Z q) (sdf Z q) (Z q 27).toNat) (Z q 27).toNat ∧ st = (X, Y, R))) args s 0 0 (zA bs)) (F0 m 4 ls []) := by
    intro fu
    induction fu with
    | zero => intro u k _ _ _ hmu; exact absurd hmu (Nat.not_lt_zero _)
    | succ fu ih1 =>
      intro u k hu hk hI hmu1 H locs ls hH hS hl
      have hF := hF u k hu hk  hI
      refine lv_iload_n C.1 C.2.1 dX1_forks_4 rfl (lv_at hl 1 rfl) ?_
      refine lv_aload_n C.1 C.2.1 dX1_forks_5 rfl (lv_at hl 2 rfl) ?_
      refine zg1_2 C hH (zChart_n0 hC) (zChart_k0 hC) q_396 dX1_forks_6 ?_
      refine zd_icmp_gt C hk (hH.2.2.1 _ _) 44 dX1_forks_9 (by decide) (fun c2 => ?_) (fun c2 => ?_)
      · have hF := hF.1 c2
        refine lv_iload_n C.1 C.2.1 dX1_forks_44 rfl (lv_at hl 0 rfl) ?_
        exact zd_iret C hr hlk hH hS hu (⟨hF, rfl⟩) dX1_forks_45
      · have hF := hF.2 c2
        refine lv_aload_n C.1 C.2.1 dX1_forks_12 rfl (lv_at hl 2 rfl) ?_
        refine zg1_3 C hH (zChart_n0 hC) (zChart_k0 hC) q_399 dX1_forks_13 ?_
        refine lv_iload_n C.1 C.2.1 dX1_forks_16 rfl (lv_at hl 1 rfl) ?_
        refine zgoi (zrunSN (As := [.int (zI (X (i) 3)), .int (zI (k))]) (rest := []) C hE hH hS hl.1 (c_X10_isIn (l := l)  (X (i) 3) (hH.2.2.1 _ _) (k) hk) k_RX1_127 ⟨Nat.le_of_ble_eq_true rfl, Nat.le_of_ble_eq_true rfl⟩ rfl (Nat.le_of_ble_eq_true rfl) dX1_forks_17 ⟨Nat.zero_le _, Nat.zero_le _⟩) hS (fun rq Xq Yq Rq H locs hrq hq hH hS => ?_)
        obtain ⟨h91, h92⟩ := hq
        have h93 : Xq = X := congrArg (fun z => z.1) h92
        have h94 : Yq = Y := congrArg (fun z => z.2.1) h92
        have h95 : Rq = R := congrArg (fun z => z.2.2) h92
        rw [h93, h94, h95] at hH
        subst h91
        refine zd_ifB_eq C 38 dX1_forks_20 (by decide) (fun c3 => ?_) (fun c3 => ?_)
        · have hF := hF.1 c3
          refine zd_iinc (k := 1) (lv' := [(2, .int (zI (k + 1))), (1, .int (zI (u))), (0, .ref (bs + (i)))]) C hl rfl dX1_forks_38 (by decide) rfl (fun ls hl => ?_)
          refine lv_goto (tgt := 4) C.1 C.2.1 dX1_forks_41 (by decide) ?_
          obtain ⟨o4, hF⟩ := hF
          exact ih1 (u) (k + 1) hu o4 hF.1 (Nat.lt_of_lt_of_le hF.2 (Nat.le_of_lt_succ hmu1)) _ _ _ hH hS (lv_sub hl [1, 0, 2] rfl)
        · have hF := hF.2 c3
          refine lv_aload_n C.1 C.2.1 dX1_forks_23 rfl (lv_at hl 2 rfl) ?_
          refine lv_iload_n C.1 C.2.1 dX1_forks_24 rfl (lv_at hl 1 rfl) ?_
          obtain ⟨o5, hF⟩ := hF
          refine zgoi (zrunV (As := [.int (zI (k))]) (rest := []) C hE hH hS hl.1 (c_X1_soundChildren (l := l) hC (k) hk o5) k_RX1_156 ⟨Nat.le_of_ble_eq_true rfl, Nat.le_of_ble_eq_true rfl⟩ (zChart_n0 hC) (zChart_k0 hC) rfl rfl rfl (Nat.le_of_ble_eq_true rfl) dX1_forks_25 ⟨Nat.zero_le _, Nat.zero_le _⟩) hS (fun rq Xq Yq Rq H locs hrq hq hH hS => ?_)
          obtain ⟨h91, h92⟩ := hq
          have h93 : Xq = X := congrArg (fun z => z.1) h92
          have h94 : Yq = Y := congrArg (fun z => z.2.1) h92
          have h95 : Rq = R := congrArg (fun z => z.2.2) h92
          rw [h93, h94, h95] at hH
          subst h91
          have hr6 := hrq
          have hF := hF hr6
          refine zgoi (zrunS (As := [.int (zI (bS (fSc (rP Z q) (sdf Z q) (k).toNat) (Z q 27).toNat))]) (rest := []) C hE hH hS hl.1 (c_J6_bitCount_0f7a4 (l := l)  (bS (fSc (rP Z q) (sdf Z q) (k).toNat) (Z q 27).toNat) hr6) k_RX1_160 ⟨Nat.le_of_ble_eq_true rfl, Nat.le_of_ble_eq_true rfl⟩ rfl (Nat.le_of_ble_eq_true rfl) dX1_forks_28 ⟨Nat.zero_le _, Nat.zero_le _⟩) hS (fun rq Xq Yq Rq H locs hrq hq hH hS => ?_)
          obtain ⟨h91, h92⟩ := hq
          have h93 : Xq = X := congrArg (fun z => z.1) h92
          have h94 : Yq = Y := congrArg (fun z => z.2.1) h92
          have h95 : Rq = R := congrArg (fun z => z.2.2) h92
          rw [h93, h94, h95] at hH
          subst h91
          have hr7 := hrq
          have hF := hF hr7
          refine zd_iconst C dX1_forks_31 ?_
          refine zd_icmp_le C hr7 (by decide) 38 dX1_forks_32 (by decide) (fun c8 => ?_) (fun c8 => ?_)
          · have hF := hF.1 c8
            refine zd_iinc (k := 1) (lv' := [(2, .int (zI (k + 1))), (1, .int (zI (u))), (0, .ref (bs + (i)))]) C hl rfl dX1_forks_38 (by decide) rfl (fun ls hl => ?_)
            refine lv_goto (tgt := 4) C.1 C.2.1 dX1_forks_41 (by decide) ?_
            obtain ⟨o9, hF⟩ := hF
            exact ih1 (u) (k + 1) hu o9 hF.1 (Nat.lt_of_lt_of_le hF.2 (Nat.le_of_lt_succ hmu1)) _ _ _ hH hS (lv_sub hl [1, 0, 2] rfl)
          · have hF := hF.2 c8
            refine zd_iinc (k := 0) (lv' := [(1, .int (zI (u + 1))), (2, .int (zI (k))), (0, .ref (bs + (i)))]) C hl rfl dX1_forks_35 (by decide) rfl (fun ls hl => ?_)
            refine zd_iinc (k := 1) (lv' := [(2, .int (zI (k + 1))), (1, .int (zI (u + 1))), (0, .ref (bs + (i)))]) C hl rfl dX1_forks_38 (by decide) rfl (fun ls hl => ?_)
            refine lv_goto (tgt := 4) C.1 C.2.1 dX1_forks_41 (by decide) ?_
            obtain ⟨o10, hF⟩ := hF
            obtain ⟨o11, hF⟩ := hF
            exact ih1 (u + 1) (k + 1) o10 o11 hF.1 (Nat.lt_of_lt_of_le hF.2 (Nat.le_of_lt_succ hmu1)) _ _ _ hH hS (lv_sub hl [1, 0, 2] rfl)
  exact L1 (((20 - ((0 : Int))).toNat) + 1) ((0 : Int)) ((0 : Int)) (by decide) (by decide) hI1 (Nat.lt_succ_self _) _ _ _ hH hS (lv_sub hl [1, 0, 2] rfl)
theorem v_X1_forks {X Y : Nat → Int → Int} {R : Nat → Int → Option Nat} {i : Nat} {Z : Nat → Int → Int} {q : Nat}  (hp : cA Z q X Y R i) : F_X1_forks i Z q X Y R  := by
  unfold F_X1_forks
  intro hX hY
  obtain ⟨l27, r27, e27⟩ := cA_l hp
  refine ⟨?_, ?_⟩
  · exact ⟨by omega, rfl⟩
  intro u k
  intro _
  intro _
  intro h1
  obtain ⟨⟨k1, k2⟩, hr⟩ := h1
  obtain ⟨kn, rfl⟩ := nat_of (show 0 ≤ k by omega)
  subst hr
  refine ⟨?_, ?_⟩
  · intro c1
    rw [show Z q 27 = kn by omega]
  intro c2
  have kl : (kn : Int) < Z q 27 := by omega
  have es : ((kn : Int) + 1).toNat = kn + 1 := by omega
  have e0 : ((kn : Nat) : Int).toNat = kn := by omega
  refine ⟨?_, ?_⟩
  · intro c3
    have c3 := (cA_isIn hp kl).symm.trans c3
    refine ⟨?_, ?_⟩
    · first | omega | exact ⟨by omega, by omega⟩ | decide | assumption | exact ⟨by omega, by omega, by omega⟩ | exact ⟨by decide, by decide⟩
    refine ⟨?_, ?_⟩
    · exact ⟨by omega, by rw [es, e0, cN_n (by unfold fFk; rw [c3]; rfl)]⟩
    first | omega | exact ⟨by omega, by omega⟩ | decide | assumption | exact ⟨by omega, by omega, by omega⟩ | exact ⟨by decide, by decide⟩
  intro c4
  have c4 := (cA_isIn hp kl).symm.trans c4
  rw [e0, (show mBc (bS (fSc (rP Z q) (sdf Z q) kn) (Z q 27).toNat) = cN (fSc (rP Z q) (sdf Z q) kn) (Z q 27).toNat from mBc_bS (by omega))]
  have cb9 := cN_b (fFk (rP Z q) (sdf Z q) (Z q 27).toNat) kn
  refine ⟨?_, ?_⟩
  · exact ⟨hp, by omega⟩
  intro _
  intro _
  refine ⟨?_, ?_⟩
  · intro c5
    refine ⟨?_, ?_⟩
    · first | omega | exact ⟨by omega, by omega⟩ | decide | assumption | exact ⟨by omega, by omega, by omega⟩ | exact ⟨by decide, by decide⟩
    refine ⟨?_, ?_⟩
    · exact ⟨by omega, by rw [es, cN_n (by unfold fFk; rw [decide_eq_false (by omega), Bool.and_false])]⟩
    first | omega | exact ⟨by omega, by omega⟩ | decide | assumption | exact ⟨by omega, by omega, by omega⟩ | exact ⟨by decide, by decide⟩
  intro c6
  refine ⟨?_, ?_⟩
  · exact ⟨by omega, by omega⟩
  refine ⟨?_, ?_⟩
  · first | omega | exact ⟨by omega, by omega⟩ | decide | assumption | exact ⟨by omega, by omega, by omega⟩ | exact ⟨by decide, by decide⟩
  refine ⟨?_, ?_⟩
  · exact ⟨by omega, by rw [es, cN_y (by unfold fFk; rw [c4, decide_eq_true (by omega)]; rfl)]⟩
  first | omega | exact ⟨by omega, by omega⟩ | decide | assumption | exact ⟨by omega, by omega, by omega⟩ | exact ⟨by decide, by decide⟩
theorem c_X1_forks {l : Launch} {D : va_G} {cy : Nat → ClassId} {bs N : Nat} {sa : Nat → Nat} {kd len : Nat → Nat} {X Y : Nat → Int → Int} {R : Nat → Int → Option Nat} {i : Nat} {Z : Nat → Int → Int} {q : Nat} (hC : zChart N kd len R i)  (hp : cA Z q X Y R i) : Met l yX1_forks (.code yX1_forks cX1_forks 3 (some .int) :: zTB) (zRm 2 44) (zPc D cy bs sa N kd len X Y R [.ref (bs + (i))]) (zQi D cy bs N kd len (fun r st => r = cN (fFk (rP Z q) (sdf Z q) (Z q 27).toNat) (Z q 27).toNat ∧ st = (X, Y, R))) 0 0 (zA bs) := w_X1_forks hC  (v_X1_forks  hp)
theorem tBs_e {Z : Nat → Int → Int} {q : Nat} {X Y : Nat → Int → Int} {R : Nat → Int → Option Nat} {i : Nat} (h : cA Z q X Y R i) : aHv (rG Z q) (fun e => mHas (X i 3) e) (fun x y : Nat => decide (x < y)) (Z q 27).toNat = tBs Z q := by
  have e := cA_l h
  exact aHv_cong (by have := cA_s h (k := 0) (by omega); rw [show ((0 : Nat) : Int) = 0 from rfl] at this; show mHas (X i 3) ((0 : Nat) : Int) = true; rw [show ((0 : Nat) : Int) = 0 from rfl, this]; exact sdf_0) _ (fun _ _ => rfl) (fun k hk => cA_s h (by omega)) (fun _ _ _ _ _ _ => rfl)
theorem hv_e {Z : Nat → Int → Int} {q : Nat} {X Y Y3 : Nat → Int → Int} {R : Nat → Int → Option Nat} {i : Nat} (h : cA Z q X Y R i) (h1 : ∀ k : Nat, (k : Int) < Z q 27 → Y3 (i + 15) k = finF Z q (X i 3) k) : (∀ k : Nat, (k : Int) < Z q 27 → sdf Z q k = true → Y3 (i + 15) k = tSb Z q k) ∧ ∀ p, aHc (rP Z q) (fun x => Y3 (i + 15) x) (fun e => mHas (X i 3) e) (fun x y : Nat => decide (x < y)) p (Z q 27).toNat = tHv Z q p := by
  have e := cA_l h
  have g : ∀ k : Nat, (k : Int) < Z q 27 → sdf Z q k = true → Y3 (i + 15) k = tSb Z q k := fun k hk hs => by
    rw [h1 k hk]
    unfold finF
    rw [cA_s h hk, hs, if_pos rfl]
    exact sSb_cong (fun _ _ => rfl) (fun k hk => cA_s h (by omega)) k (by omega)
  refine ⟨g, fun p => ?_⟩
  rw [aHc_cw (sb' := tSb Z q) _ (fun k hk hw => g k (by omega) ((cA_s h (by omega)).symm.trans hw))]
  exact aHc_cong _ (fun _ _ => rfl) (fun k hk => cA_s h (by omega)) (fun _ _ _ _ _ _ => rfl)
abbrev cX1_heaviestOnes : ByteArray := prog_3_method_19_code
def yX1_heaviestOnes : MethodName := ⟨RX1, "heaviestOnes", "()I"⟩
theorem dX1_heaviestOnes_0 : decode cX1_heaviestOnes 0 = .ok (.aload_n 0, 1) := by decide +kernel
theorem dX1_heaviestOnes_1 : decode cX1_heaviestOnes 1 = .ok (.aload_n 0, 1) := by decide +kernel
theorem dX1_heaviestOnes_2 : decode cX1_heaviestOnes 2 = .ok (.getfield 69, 3) := by decide +kernel
theorem dX1_heaviestOnes_5 : decode cX1_heaviestOnes 5 = .ok (.getstatic 138, 3) := by decide +kernel
theorem dX1_heaviestOnes_8 : decode cX1_heaviestOnes 8 = .ok (.invokevirtual 145, 3) := by decide +kernel
theorem dX1_heaviestOnes_11 : decode cX1_heaviestOnes 11 = .ok (.istore_n 1, 1) := by decide +kernel
theorem dX1_heaviestOnes_12 : decode cX1_heaviestOnes 12 = .ok (.iconst 0, 1) := by decide +kernel
theorem dX1_heaviestOnes_13 : decode cX1_heaviestOnes 13 = .ok (.istore_n 2, 1) := by decide +kernel
theorem dX1_heaviestOnes_14 : decode cX1_heaviestOnes 14 = .ok (.iconst 0, 1) := by decide +kernel
theorem dX1_heaviestOnes_15 : decode cX1_heaviestOnes 15 = .ok (.istore_n 3, 1) := by decide +kernel
theorem dX1_heaviestOnes_16 : decode cX1_heaviestOnes 16 = .ok (.iload_n 3, 1) := by decide +kernel
theorem dX1_heaviestOnes_17 : decode cX1_heaviestOnes 17 = .ok (.aload_n 0, 1) := by decide +kernel
theorem dX1_heaviestOnes_18 : decode cX1_heaviestOnes 18 = .ok (.getfield 68, 3) := by decide +kernel
theorem dX1_heaviestOnes_21 : decode cX1_heaviestOnes 21 = .ok (.if_icmp .gt 42, 3) := by decide +kernel
theorem dX1_heaviestOnes_24 : decode cX1_heaviestOnes 24 = .ok (.aload_n 0, 1) := by decide +kernel
theorem dX1_heaviestOnes_25 : decode cX1_heaviestOnes 25 = .ok (.getfield 69, 3) := by decide +kernel
theorem dX1_heaviestOnes_28 : decode cX1_heaviestOnes 28 = .ok (.iload_n 3, 1) := by decide +kernel
theorem dX1_heaviestOnes_29 : decode cX1_heaviestOnes 29 = .ok (.invokestatic 127, 3) := by decide +kernel
theorem dX1_heaviestOnes_32 : decode cX1_heaviestOnes 32 = .ok (.ifCond .eq 25, 3) := by decide +kernel
theorem dX1_heaviestOnes_35 : decode cX1_heaviestOnes 35 = .ok (.aload_n 0, 1) := by decide +kernel
theorem dX1_heaviestOnes_36 : decode cX1_heaviestOnes 36 = .ok (.getfield 39, 3) := by decide +kernel
theorem dX1_heaviestOnes_39 : decode cX1_heaviestOnes 39 = .ok (.iload_n 3, 1) := by decide +kernel
theorem dX1_heaviestOnes_40 : decode cX1_heaviestOnes 40 = .ok (.laload, 1) := by decide +kernel
theorem dX1_heaviestOnes_41 : decode cX1_heaviestOnes 41 = .ok (.aload_n 0, 1) := by decide +kernel
theorem dX1_heaviestOnes_42 : decode cX1_heaviestOnes 42 = .ok (.getfield 39, 3) := by decide +kernel
theorem dX1_heaviestOnes_45 : decode cX1_heaviestOnes 45 = .ok (.iload_n 1, 1) := by decide +kernel
theorem dX1_heaviestOnes_46 : decode cX1_heaviestOnes 46 = .ok (.laload, 1) := by decide +kernel
theorem dX1_heaviestOnes_47 : decode cX1_heaviestOnes 47 = .ok (.lcmp, 1) := by decide +kernel
theorem dX1_heaviestOnes_48 : decode cX1_heaviestOnes 48 = .ok (.ifCond .ne 9, 3) := by decide +kernel
theorem dX1_heaviestOnes_51 : decode cX1_heaviestOnes 51 = .ok (.iload_n 2, 1) := by decide +kernel
theorem dX1_heaviestOnes_52 : decode cX1_heaviestOnes 52 = .ok (.iconst 1, 1) := by decide +kernel
theorem dX1_heaviestOnes_53 : decode cX1_heaviestOnes 53 = .ok (.iload_n 3, 1) := by decide +kernel
theorem dX1_heaviestOnes_54 : decode cX1_heaviestOnes 54 = .ok (.ishl, 1) := by decide +kernel
theorem dX1_heaviestOnes_55 : decode cX1_heaviestOnes 55 = .ok (.ior, 1) := by decide +kernel
theorem dX1_heaviestOnes_56 : decode cX1_heaviestOnes 56 = .ok (.istore_n 2, 1) := by decide +kernel
theorem dX1_heaviestOnes_57 : decode cX1_heaviestOnes 57 = .ok (.iinc 3 1, 3) := by decide +kernel
theorem dX1_heaviestOnes_60 : decode cX1_heaviestOnes 60 = .ok (.goto (-44), 3) := by decide +kernel
theorem dX1_heaviestOnes_63 : decode cX1_heaviestOnes 63 = .ok (.iload_n 2, 1) := by decide +kernel
theorem dX1_heaviestOnes_64 : decode cX1_heaviestOnes 64 = .ok (.ireturn, 1) := by decide +kernel
def F_X1_heaviestOnes (i : Nat) (Z : Nat → Int → Int) (q : Nat) (X Y : Nat → Int → Int) (R : Nat → Int → Option Nat)  : Prop := (∀ i j, rI (X i j)) → (∀ i j, rL (Y i j)) → (cA Z q X Y R i) ∧ (rI (((aHv (rG Z q) (fun e => mHas ((X (i) 3)) e) (fun x y : Nat => decide (x < y)) (Z q 27).toNat : Nat) : Int)) → (((0 ≤ (0 : Int) ∧ (0 : Int) ≤ Z q 27) ∧ (0 : Int) = bS (fCb (sdf Z q) (rG Z q) (tBs Z q)) ((0 : Int)).toNat) ∧ (∀ (u : Int) (k : Int), rI u → rI k → ((0 ≤ k ∧ k ≤ Z q 27) ∧ u = bS (fCb (sdf Z q) (rG Z q) (tBs Z q)) (k).toNat) → ((((X (i) 2) < k) → (u = bS (fCb (sdf Z q) (rG Z q) (tBs Z q)) (Z q 27).toNat)) ∧ ((¬ ((X (i) 2) < k)) → ((((decide (0 ≤ k ∧ k < 15) && decide (¬ zAnd (zShr (X (i) 3) (k)) 1 = 0)) = false) → ((rI (k + 1)) ∧ ((0 ≤ (k + 1) ∧ (k + 1) ≤ Z q 27) ∧ u = bS (fCb (sdf Z q) (rG Z q) (tBs Z q)) ((k + 1)).toNat) ∧ (((20 - (k + 1)).toNat) < ((20 - (k)).toNat)))) ∧ (((decide (0 ≤ k ∧ k < 15) && decide (¬ zAnd (zShr (X (i) 3) (k)) 1 = 0)) = true) → ((0 ≤ k ∧ k < 15) ∧ ((0 ≤ ((aHv (rG Z q) (fun e => mHas ((X (i) 3)) e) (fun x y : Nat => decide (x < y)) (Z q 27).toNat : Nat) : Int) ∧ ((aHv (rG Z q) (fun e => mHas ((X (i) 3)) e) (fun x y : Nat => decide (x < y)) (Z q 27).toNat : Nat) : Int) < 15) ∧ (((¬ (Y (i + 13) (k)) = (Y (i + 13) (((aHv (rG Z q) (fun e => mHas ((X (i) 3)) e) (fun x y : Nat => decide (x < y)) (Z q 27).toNat : Nat) : Int)))) → ((rI (k + 1)) ∧ ((0 ≤ (k + 1) ∧ (k + 1) ≤ Z q 27) ∧ u = bS (fCb (sdf Z q) (rG Z q) (tBs Z q)) ((k + 1)).toNat) ∧ (((20 - (k + 1)).toNat) < ((20 - (k)).toNat)))) ∧ ((¬ (¬ (Y (i + 13) (k)) = (Y (i + 13) (((aHv (rG Z q) (fun e => mHas ((X (i) 3)) e) (fun x y : Nat => decide (x < y)) (Z q 27).toNat : Nat) : Int))))) → ((rI (k + 1)) ∧ ((0 ≤ (k + 1) ∧ (k + 1) ≤ Z q 27) ∧ (zOr (u) (zShl (1) (k))) = bS (fCb (sdf Z q) (rG Z q) (tBs Z q)) ((k + 1)).toNat) ∧ (((20 - (k + 1)).toNat) < ((20 - (k)).toNat))))))))))))))
set_option maxHeartbeats 4000000 in
set_option maxRecDepth 100000 in
theorem w_X1_heaviestOnes {l : Launch} {D : va_G} {cy : Nat → ClassId} {bs N : Nat} {sa : Nat → Nat} {kd len : Nat → Nat} {X Y : Nat → Int → Int} {R : Nat → Int → Option Nat} {i : Nat} {Z : Nat → Int → Int} {q : Nat} (hC : zChart N kd len R i)  (hF : F_X1_heaviestOnes i Z q X Y R ) : Met l yX1_heaviestOnes (.code yX1_heaviestOnes cX1_heaviestOnes 4 (some .int) :: zTB) (zRm 1 24) (zPc D cy bs sa N kd len X Y R [.ref (bs + (i))]) (zQi D cy bs N kd len (fun r st => r = bS (fCb (sdf Z q) (rG Z q) (tBs Z q)) (Z q 27).toNat ∧ st = (X, Y, R))) 0 0 (zA bs) := by
  refine zstart (by decide) (Nat.le_of_ble_eq_true rfl) ?_
  intro p e s m args below meth c ls C hE hH hr hlk hnm hl hargs
  have hF := hF hH.2.2.1 hH.2.2.2
  have hS : va_S (zA bs) s.heap s.heap [] := va_S.rf
  have hl : lv_has ls 4 [(0, .ref (bs + (i)))] := hl
  refine lv_aload_n C.1 C.2.1 dX1_heaviestOnes_0 rfl (lv_at hl 0 rfl) ?_
  refine lv_aload_n C.1 C.2.1 dX1_heaviestOnes_1 rfl (lv_at hl 0 rfl) ?_
  refine zg1_3 C hH (zChart_n0 hC) (zChart_k0 hC) q_399 dX1_heaviestOnes_2 ?_
  refine zd_getsN C hE hS (own := "WorkChains$Chart") (ix := 138) (C9 := "WorkChains") (n9 := "BY_NUMBER") (host := "WorkChains") (by decide +kernel) hE.2.2.1.1 dX1_heaviestOnes_5 ?_
  obtain ⟨o1, hF⟩ := hF
  refine zgoi (zrunV (As := [.int (zI (X (i) 3)), .ref (sa 0)]) (rest := []) C hE hH hS hl.1 (c_X1_heaviestS (l := l) hC (X (i) 3) (hH.2.2.1 _ _) o1) k_RX1_145 ⟨Nat.le_of_ble_eq_true rfl, Nat.le_of_ble_eq_true rfl⟩ (zChart_n0 hC) (zChart_k0 hC) rfl rfl rfl (Nat.le_of_ble_eq_true rfl) dX1_heaviestOnes_8 ⟨Nat.zero_le _, Nat.zero_le _⟩) hS (fun rq Xq Yq Rq H locs hrq hq hH hS => ?_)
  obtain ⟨h91, h92⟩ := hq
  have h93 : Xq = X := congrArg (fun z => z.1) h92
  have h94 : Yq = Y := congrArg (fun z => z.2.1) h92
  have h95 : Rq = R := congrArg (fun z => z.2.2) h92
  rw [h93, h94, h95] at hH
  subst h91
  have hr2 := hrq
  have hF := hF hr2
  refine lv_istore_n (lv' := [(1, .int (zI (((aHv (rG Z q) (fun e => mHas ((X (i) 3)) e) (fun x y : Nat => decide (x < y)) (Z q 27).toNat : Nat) : Int)))), (0, .ref (bs + (i)))]) C.1 C.2.1 dX1_heaviestOnes_11 rfl hl (by decide) rfl (fun ls hl => ?_)
  refine zd_iconst C dX1_heaviestOnes_12 ?_
  refine lv_istore_n (lv' := [(2, .int (zI (0))), (1, .int (zI (((aHv (rG Z q) (fun e => mHas ((X (i) 3)) e) (fun x y : Nat => decide (x < y)) (Z q 27).toNat : Nat) : Int)))), (0, .ref (bs + (i)))]) C.1 C.2.1 dX1_heaviestOnes_13 rfl hl (by decide) rfl (fun ls hl => ?_)
  refine zd_iconst C dX1_heaviestOnes_14 ?_
  refine lv_istore_n (lv' := [(3, .int (zI (0))), (2, .int (zI (0))), (1, .int (zI (((aHv (rG Z q) (fun e => mHas ((X (i) 3)) e) (fun x y : Nat => decide (x < y)) (Z q 27).toNat : Nat) : Int)))), (0, .ref (bs + (i)))]) C.1 C.2.1 dX1_heaviestOnes_15 rfl hl (by decide) rfl (fun ls hl => ?_)
  obtain ⟨hI3, hF⟩ := hF
  have L3 : ∀ (fu : Nat) (u : Int) (k : Int), rI u → rI k → ((0 ≤ k ∧ k ≤ Z q 27) ∧ u = bS (fCb (sdf Z q) (rG Z q) (tBs Z q)) (k).toNat) → ((20 - (k)).toNat) < fu → ∀ (H : Heap) (locs : List Loc) (ls : Array Slot), zH D cy bs N kd len X Y R H → va_S (zA bs) s.heap H locs → lv_has ls 4 [(2, .int (zI (u))), (3, .int (zI (k))), (1, .int (zI (((aHv (rG Z q) (fun e => mHas ((X (i) 3)) e) (fun x y : Nat => decide (x < y)) (Z q 27).toNat : Nat) : Int)))), (0, .ref (bs + (i)))] → W p l e (zRm 1 24) s m args below meth c H locs 0 0 (MQ below (zQi D cy bs N kd len (fun r st => r = bS (fCb (sdf Z q) (rG Z q) (tBs Z q)) (Z q 27).toNat ∧ st = (X, Y, R))) args s 0 0 (zA bs)) (F0 m 16 ls []) := by
    intro fu
    induction fu with
    | zero => intro u k _ _ _ hmu; exact absurd hmu (Nat.not_lt_zero _)
    | succ fu ih3 =>
      intro u k hu hk hI hmu3 H locs ls hH hS hl
      have hF := hF u k hu hk  hI
      refine lv_iload_n C.1 C.2.1 dX1_heaviestOnes_16 rfl (lv_at hl 1 rfl) ?_
      refine lv_aload_n C.1 C.2.1 dX1_heaviestOnes_17 rfl (lv_at hl 3 rfl) ?_
      refine zg1_2 C hH (zChart_n0 hC) (zChart_k0 hC) q_396 dX1_heaviestOnes_18 ?_
      refine zd_icmp_gt C hk (hH.2.2.1 _ _) 63 dX1_heaviestOnes_21 (by decide) (fun c4 => ?_) (fun c4 => ?_)
      · have hF := hF.1 c4
        refine lv_iload_n C.1 C.2.1 dX1_heaviestOnes_63 rfl (lv_at hl 0 rfl) ?_
        exact zd_iret C hr hlk hH hS hu (⟨hF, rfl⟩) dX1_heaviestOnes_64
      · have hF := hF.2 c4
        refine lv_aload_n C.1 C.2.1 dX1_heaviestOnes_24 rfl (lv_at hl 3 rfl) ?_
        refine zg1_3 C hH (zChart_n0 hC) (zChart_k0 hC) q_399 dX1_heaviestOnes_25 ?_
        refine lv_iload_n C.1 C.2.1 dX1_heaviestOnes_28 rfl (lv_at hl 1 rfl) ?_
        refine zgoi (zrunSN (As := [.int (zI (X (i) 3)), .int (zI (k))]) (rest := []) C hE hH hS hl.1 (c_X10_isIn (l := l)  (X (i) 3) (hH.2.2.1 _ _) (k) hk) k_RX1_127 ⟨Nat.le_of_ble_eq_true rfl, Nat.le_of_ble_eq_true rfl⟩ rfl (Nat.le_of_ble_eq_true rfl) dX1_heaviestOnes_29 ⟨Nat.zero_le _, Nat.zero_le _⟩) hS (fun rq Xq Yq Rq H locs hrq hq hH hS => ?_)
        obtain ⟨h91, h92⟩ := hq
        have h93 : Xq = X := congrArg (fun z => z.1) h92
        have h94 : Yq = Y := congrArg (fun z => z.2.1) h92
        have h95 : Rq = R := congrArg (fun z => z.2.2) h92
        rw [h93, h94, h95] at hH
        subst h91
        refine zd_ifB_eq C 57 dX1_heaviestOnes_32 (by decide) (fun c5 => ?_) (fun c5 => ?_)
        · have hF := hF.1 c5
          refine zd_iinc (k := 1) (lv' := [(3, .int (zI (k + 1))), (2, .int (zI (u))), (1, .int (zI (((aHv (rG Z q) (fun e => mHas ((X (i) 3)) e) (fun x y : Nat => decide (x < y)) (Z q 27).toNat : Nat) : Int)))), (0, .ref (bs + (i)))]) C hl rfl dX1_heaviestOnes_57 (by decide) rfl (fun ls hl => ?_)
          refine lv_goto (tgt := 16) C.1 C.2.1 dX1_heaviestOnes_60 (by decide) ?_
          obtain ⟨o6, hF⟩ := hF
          exact ih3 (u) (k + 1) hu o6 hF.1 (Nat.lt_of_lt_of_le hF.2 (Nat.le_of_lt_succ hmu3)) _ _ _ hH hS (lv_sub hl [1, 0, 2, 3] rfl)
        · have hF := hF.2 c5
          refine lv_aload_n C.1 C.2.1 dX1_heaviestOnes_35 rfl (lv_at hl 3 rfl) ?_
          refine zg1_8 C hH (zChart_n0 hC) (zChart_k0 hC) q_411 (zChart_r13 hC) dX1_heaviestOnes_36 ?_
          refine lv_iload_n C.1 C.2.1 dX1_heaviestOnes_39 rfl (lv_at hl 1 rfl) ?_
          obtain ⟨o7, hF⟩ := hF
          refine zd_lald C hH (zChart_n13 hC) (zChart_k13 hC) o7.1 (by rw [zChart_l13 hC]; exact o7.2) (by rw [zChart_l13 hC]; decide) dX1_heaviestOnes_40 ?_
          refine lv_aload_n C.1 C.2.1 dX1_heaviestOnes_41 rfl (lv_at hl 3 rfl) ?_
          refine zg1_8 C hH (zChart_n0 hC) (zChart_k0 hC) q_411 (zChart_r13 hC) dX1_heaviestOnes_42 ?_
          refine lv_iload_n C.1 C.2.1 dX1_heaviestOnes_45 rfl (lv_at hl 2 rfl) ?_
          obtain ⟨o8, hF⟩ := hF
          refine zd_lald C hH (zChart_n13 hC) (zChart_k13 hC) o8.1 (by rw [zChart_l13 hC]; exact o8.2) (by rw [zChart_l13 hC]; decide) dX1_heaviestOnes_46 ?_
          refine zd_lcmp C (hH.2.2.2 _ _) (hH.2.2.2 _ _) dX1_heaviestOnes_47 ?_
          refine zd_ifL_ne C 57 dX1_heaviestOnes_48 (by decide) (fun c9 => ?_) (fun c9 => ?_)
          · have hF := hF.1 c9
            refine zd_iinc (k := 1) (lv' := [(3, .int (zI (k + 1))), (2, .int (zI (u))), (1, .int (zI (((aHv (rG Z q) (fun e => mHas ((X (i) 3)) e) (fun x y : Nat => decide (x < y)) (Z q 27).toNat : Nat) : Int)))), (0, .ref (bs + (i)))]) C hl rfl dX1_heaviestOnes_57 (by decide) rfl (fun ls hl => ?_)
            refine lv_goto (tgt := 16) C.1 C.2.1 dX1_heaviestOnes_60 (by decide) ?_
            obtain ⟨o10, hF⟩ := hF
            exact ih3 (u) (k + 1) hu o10 hF.1 (Nat.lt_of_lt_of_le hF.2 (Nat.le_of_lt_succ hmu3)) _ _ _ hH hS (lv_sub hl [1, 0, 2, 3] rfl)
          · have hF := hF.2 c9
            refine lv_iload_n C.1 C.2.1 dX1_heaviestOnes_51 rfl (lv_at hl 0 rfl) ?_
            refine zd_iconst C dX1_heaviestOnes_52 ?_
            refine lv_iload_n C.1 C.2.1 dX1_heaviestOnes_53 rfl (lv_at hl 1 rfl) ?_
            refine zd_ishl C dX1_heaviestOnes_54 ?_
            refine zd_ior C dX1_heaviestOnes_55 ?_
            refine lv_istore_n (lv' := [(2, .int (zI (zOr (u) (zShl (1) (k))))), (3, .int (zI (k))), (1, .int (zI (((aHv (rG Z q) (fun e => mHas ((X (i) 3)) e) (fun x y : Nat => decide (x < y)) (Z q 27).toNat : Nat) : Int)))), (0, .ref (bs + (i)))]) C.1 C.2.1 dX1_heaviestOnes_56 rfl hl (by decide) rfl (fun ls hl => ?_)
            refine zd_iinc (k := 1) (lv' := [(3, .int (zI (k + 1))), (2, .int (zI (zOr (u) (zShl (1) (k))))), (1, .int (zI (((aHv (rG Z q) (fun e => mHas ((X (i) 3)) e) (fun x y : Nat => decide (x < y)) (Z q 27).toNat : Nat) : Int)))), (0, .ref (bs + (i)))]) C hl rfl dX1_heaviestOnes_57 (by decide) rfl (fun ls hl => ?_)
            refine lv_goto (tgt := 16) C.1 C.2.1 dX1_heaviestOnes_60 (by decide) ?_
            obtain ⟨o11, hF⟩ := hF
            exact ih3 (zOr (u) (zShl (1) (k))) (k + 1) (zI_rg _) o11 hF.1 (Nat.lt_of_lt_of_le hF.2 (Nat.le_of_lt_succ hmu3)) _ _ _ hH hS (lv_sub hl [1, 0, 2, 3] rfl)
  exact L3 (((20 - ((0 : Int))).toNat) + 1) ((0 : Int)) ((0 : Int)) (by decide) (by decide) hI3 (Nat.lt_succ_self _) _ _ _ hH hS (lv_sub hl [1, 0, 2, 3] rfl)
theorem v_X1_heaviestOnes {X Y : Nat → Int → Int} {R : Nat → Int → Option Nat} {i : Nat} {Z : Nat → Int → Int} {q : Nat}  (hp : cA Z q X Y R i) : F_X1_heaviestOnes i Z q X Y R  := by
  unfold F_X1_heaviestOnes
  intro hX hY
  obtain ⟨l27, r27, e27⟩ := cA_l hp
  refine ⟨?_, ?_⟩
  · exact hp
  intro _
  refine ⟨?_, ?_⟩
  · exact ⟨by omega, rfl⟩
  intro u k
  intro _
  intro _
  intro h1
  obtain ⟨⟨k1, k2⟩, hr⟩ := h1
  obtain ⟨kn, rfl⟩ := nat_of (show 0 ≤ k by omega)
  subst hr
  refine ⟨?_, ?_⟩
  · intro c1
    rw [show Z q 27 = kn by omega]
  intro c2
  have kl : (kn : Int) < Z q 27 := by omega
  have es : ((kn : Int) + 1).toNat = kn + 1 := by omega
  have e0 : ((kn : Nat) : Int).toNat = kn := by omega
  rw [tBs_e hp]
  have tb9 : tBs Z q ≤ (Z q 27).toNat - 1 := aHv_b _
  refine ⟨?_, ?_⟩
  · intro c3
    have c3 := (cA_isIn hp kl).symm.trans c3
    refine ⟨?_, ?_⟩
    · first | omega | exact ⟨by omega, by omega⟩ | decide | assumption | exact ⟨by omega, by omega, by omega⟩ | exact ⟨by decide, by decide⟩
    refine ⟨?_, ?_⟩
    · exact ⟨by omega, by rw [es, e0, bS_n (by unfold fCb; rw [c3]; rfl)]⟩
    first | omega | exact ⟨by omega, by omega⟩ | decide | assumption | exact ⟨by omega, by omega, by omega⟩ | exact ⟨by decide, by decide⟩
  intro c4
  have c4 := (cA_isIn hp kl).symm.trans c4
  refine ⟨?_, ?_⟩
  · first | omega | exact ⟨by omega, by omega⟩ | decide | assumption | exact ⟨by omega, by omega, by omega⟩ | exact ⟨by decide, by decide⟩
  refine ⟨?_, ?_⟩
  · omega
  refine ⟨?_, ?_⟩
  · intro c5
    rw [(cA_W hp kl).2, (cA_W hp (k := tBs Z q) (by omega)).2] at c5
    refine ⟨?_, ?_⟩
    · first | omega | exact ⟨by omega, by omega⟩ | decide | assumption | exact ⟨by omega, by omega, by omega⟩ | exact ⟨by decide, by decide⟩
    refine ⟨?_, ?_⟩
    · exact ⟨by omega, by rw [es, e0, bS_n (by unfold fCb; rw [decide_eq_false c5, Bool.and_false])]⟩
    first | omega | exact ⟨by omega, by omega⟩ | decide | assumption | exact ⟨by omega, by omega, by omega⟩ | exact ⟨by decide, by decide⟩
  intro c6
  rw [(cA_W hp kl).2, (cA_W hp (k := tBs Z q) (by omega)).2] at c6
  refine ⟨?_, ?_⟩
  · first | omega | exact ⟨by omega, by omega⟩ | decide | assumption | exact ⟨by omega, by omega, by omega⟩ | exact ⟨by decide, by decide⟩
  refine ⟨?_, ?_⟩
  · exact ⟨by omega, by rw [es, e0, bS_y (by unfold fCb; rw [c4, decide_eq_true (Classical.not_not.mp c6)]; rfl)]⟩
  first | omega | exact ⟨by omega, by omega⟩ | decide | assumption | exact ⟨by omega, by omega, by omega⟩ | exact ⟨by decide, by decide⟩
theorem c_X1_heaviestOnes {l : Launch} {D : va_G} {cy : Nat → ClassId} {bs N : Nat} {sa : Nat → Nat} {kd len : Nat → Nat} {X Y : Nat → Int → Int} {R : Nat → Int → Option Nat} {i : Nat} {Z : Nat → Int → Int} {q : Nat} (hC : zChart N kd len R i)  (hp : cA Z q X Y R i) : Met l yX1_heaviestOnes (.code yX1_heaviestOnes cX1_heaviestOnes 4 (some .int) :: zTB) (zRm 1 24) (zPc D cy bs sa N kd len X Y R [.ref (bs + (i))]) (zQi D cy bs N kd len (fun r st => r = bS (fCb (sdf Z q) (rG Z q) (tBs Z q)) (Z q 27).toNat ∧ st = (X, Y, R))) 0 0 (zA bs) := w_X1_heaviestOnes hC  (v_X1_heaviestOnes  hp)
abbrev cX1_even : ByteArray := prog_3_method_26_code
def yX1_even : MethodName := ⟨RX1, "even", "()I"⟩
theorem dX1_even_0 : decode cX1_even 0 = .ok (.aload_n 0, 1) := by decide +kernel
theorem dX1_even_1 : decode cX1_even 1 = .ok (.invokevirtual 168, 3) := by decide +kernel
theorem dX1_even_4 : decode cX1_even 4 = .ok (.istore_n 1, 1) := by decide +kernel
theorem dX1_even_5 : decode cX1_even 5 = .ok (.iconst 0, 1) := by decide +kernel
theorem dX1_even_6 : decode cX1_even 6 = .ok (.istore_n 2, 1) := by decide +kernel
theorem dX1_even_7 : decode cX1_even 7 = .ok (.iconst 0, 1) := by decide +kernel
theorem dX1_even_8 : decode cX1_even 8 = .ok (.istore_n 3, 1) := by decide +kernel
theorem dX1_even_9 : decode cX1_even 9 = .ok (.iload_n 3, 1) := by decide +kernel
theorem dX1_even_10 : decode cX1_even 10 = .ok (.aload_n 0, 1) := by decide +kernel
theorem dX1_even_11 : decode cX1_even 11 = .ok (.getfield 68, 3) := by decide +kernel
theorem dX1_even_14 : decode cX1_even 14 = .ok (.if_icmp .gt 66, 3) := by decide +kernel
theorem dX1_even_17 : decode cX1_even 17 = .ok (.iload_n 3, 1) := by decide +kernel
theorem dX1_even_18 : decode cX1_even 18 = .ok (.iconst 1, 1) := by decide +kernel
theorem dX1_even_19 : decode cX1_even 19 = .ok (.iadd, 1) := by decide +kernel
theorem dX1_even_20 : decode cX1_even 20 = .ok (.istore 4, 2) := by decide +kernel
theorem dX1_even_22 : decode cX1_even 22 = .ok (.iload 4, 2) := by decide +kernel
theorem dX1_even_24 : decode cX1_even 24 = .ok (.aload_n 0, 1) := by decide +kernel
theorem dX1_even_25 : decode cX1_even 25 = .ok (.getfield 68, 3) := by decide +kernel
theorem dX1_even_28 : decode cX1_even 28 = .ok (.if_icmp .gt 46, 3) := by decide +kernel
theorem dX1_even_31 : decode cX1_even 31 = .ok (.iload_n 1, 1) := by decide +kernel
theorem dX1_even_32 : decode cX1_even 32 = .ok (.iload_n 3, 1) := by decide +kernel
theorem dX1_even_33 : decode cX1_even 33 = .ok (.invokestatic 127, 3) := by decide +kernel
theorem dX1_even_36 : decode cX1_even 36 = .ok (.ifCond .eq 32, 3) := by decide +kernel
theorem dX1_even_39 : decode cX1_even 39 = .ok (.iload_n 1, 1) := by decide +kernel
theorem dX1_even_40 : decode cX1_even 40 = .ok (.iload 4, 2) := by decide +kernel
theorem dX1_even_42 : decode cX1_even 42 = .ok (.invokestatic 127, 3) := by decide +kernel
theorem dX1_even_45 : decode cX1_even 45 = .ok (.ifCond .eq 23, 3) := by decide +kernel
theorem dX1_even_48 : decode cX1_even 48 = .ok (.aload_n 0, 1) := by decide +kernel
theorem dX1_even_49 : decode cX1_even 49 = .ok (.getfield 39, 3) := by decide +kernel
theorem dX1_even_52 : decode cX1_even 52 = .ok (.iload_n 3, 1) := by decide +kernel
theorem dX1_even_53 : decode cX1_even 53 = .ok (.laload, 1) := by decide +kernel
theorem dX1_even_54 : decode cX1_even 54 = .ok (.aload_n 0, 1) := by decide +kernel
theorem dX1_even_55 : decode cX1_even 55 = .ok (.getfield 39, 3) := by decide +kernel
theorem dX1_even_58 : decode cX1_even 58 = .ok (.iload 4, 2) := by decide +kernel
theorem dX1_even_60 : decode cX1_even 60 = .ok (.laload, 1) := by decide +kernel
theorem dX1_even_61 : decode cX1_even 61 = .ok (.lcmp, 1) := by decide +kernel
theorem dX1_even_62 : decode cX1_even 62 = .ok (.ifCond .ne 6, 3) := by decide +kernel
theorem dX1_even_65 : decode cX1_even 65 = .ok (.iinc 2 1, 3) := by decide +kernel
theorem dX1_even_68 : decode cX1_even 68 = .ok (.iinc 4 1, 3) := by decide +kernel
theorem dX1_even_71 : decode cX1_even 71 = .ok (.goto (-49), 3) := by decide +kernel
theorem dX1_even_74 : decode cX1_even 74 = .ok (.iinc 3 1, 3) := by decide +kernel
theorem dX1_even_77 : decode cX1_even 77 = .ok (.goto (-68), 3) := by decide +kernel
theorem dX1_even_80 : decode cX1_even 80 = .ok (.iload_n 2, 1) := by decide +kernel
theorem dX1_even_81 : decode cX1_even 81 = .ok (.ireturn, 1) := by decide +kernel
theorem q_1145 : Cond.methodLink RX1 168 yX1_leafBits ∈ zTB := zmem 1145 (by decide +kernel) rfl
theorem q_1110 : Cond.instanceMethod yX1_leafBits ∈ zTB := zmem 1110 (by decide +kernel) rfl
theorem q_1111 : Cond.selects RX1 yX1_leafBits yX1_leafBits ∈ zTB := zmem 1111 (by decide +kernel) rfl
theorem q_1112 : Cond.code yX1_leafBits cX1_leafBits 3 (some .int) ∈ zTB := zmem 1112 (by decide +kernel) rfl
theorem k_RX1_168 : zLv RX1 168 RX1 yX1_leafBits cX1_leafBits 3 (some .int) 0 := ⟨⟨q_1145, q_1110, q_1111, q_135, q_1112⟩, rfl, ⟨by decide, by decide⟩, by decide +kernel⟩
def F_X1_even (i : Nat) (Z : Nat → Int → Int) (q : Nat) (X Y : Nat → Int → Int) (R : Nat → Int → Option Nat)  : Prop := (∀ i j, rI (X i j)) → (∀ i j, rL (Y i j)) → (cA Z q X Y R i) ∧ (rI (bS (fLv (rP Z q) (sdf Z q) (Z q 27).toNat) (Z q 27).toNat) → (((0 ≤ (0 : Int) ∧ (0 : Int) ≤ Z q 27) ∧ (0 : Int) = eeN (fEv (fLv (rP Z q) (sdf Z q) (Z q 27).toNat) (rG Z q)) (Z q 27).toNat ((0 : Int)).toNat) ∧ (∀ (u : Int) (k : Int), rI u → rI k → ((0 ≤ k ∧ k ≤ Z q 27) ∧ u = eeN (fEv (fLv (rP Z q) (sdf Z q) (Z q 27).toNat) (rG Z q)) (Z q 27).toNat (k).toNat) → ((((X (i) 2) < k) → (u = evN (fEv (fLv (rP Z q) (sdf Z q) (Z q 27).toNat) (rG Z q)) (Z q 27).toNat)) ∧ ((¬ ((X (i) 2) < k)) → ((rI (k + 1)) ∧ ((k + 1 ≤ (k + 1) ∧ (k + 1) ≤ Z q 27) ∧ u = eeN (fEv (fLv (rP Z q) (sdf Z q) (Z q 27).toNat) (rG Z q)) (Z q 27).toNat (k).toNat + cN (eeG (fEv (fLv (rP Z q) (sdf Z q) (Z q 27).toNat) (rG Z q)) (k).toNat) ((k + 1)).toNat) ∧ (∀ (u : Int) (k2 : Int), rI u → rI k2 → ((k + 1 ≤ k2 ∧ k2 ≤ Z q 27) ∧ u = eeN (fEv (fLv (rP Z q) (sdf Z q) (Z q 27).toNat) (rG Z q)) (Z q 27).toNat (k).toNat + cN (eeG (fEv (fLv (rP Z q) (sdf Z q) (Z q 27).toNat) (rG Z q)) (k).toNat) (k2).toNat) → ((((X (i) 2) < k2) → ((rI (k + 1)) ∧ ((0 ≤ (k + 1) ∧ (k + 1) ≤ Z q 27) ∧ u = eeN (fEv (fLv (rP Z q) (sdf Z q) (Z q 27).toNat) (rG Z q)) (Z q 27).toNat ((k + 1)).toNat) ∧ (((20 - (k + 1)).toNat) < ((20 - (k)).toNat)))) ∧ ((¬ ((X (i) 2) < k2)) → ((((decide (0 ≤ k ∧ k < 15) && decide (¬ zAnd (zShr (bS (fLv (rP Z q) (sdf Z q) (Z q 27).toNat) (Z q 27).toNat) (k)) 1 = 0)) = false) → ((rI (k2 + 1)) ∧ ((k + 1 ≤ (k2 + 1) ∧ (k2 + 1) ≤ Z q 27) ∧ u = eeN (fEv (fLv (rP Z q) (sdf Z q) (Z q 27).toNat) (rG Z q)) (Z q 27).toNat (k).toNat + cN (eeG (fEv (fLv (rP Z q) (sdf Z q) (Z q 27).toNat) (rG Z q)) (k).toNat) ((k2 + 1)).toNat) ∧ (((20 - (k2 + 1)).toNat) < ((20 - (k2)).toNat)))) ∧ (((decide (0 ≤ k ∧ k < 15) && decide (¬ zAnd (zShr (bS (fLv (rP Z q) (sdf Z q) (Z q 27).toNat) (Z q 27).toNat) (k)) 1 = 0)) = true) → ((((decide (0 ≤ k2 ∧ k2 < 15) && decide (¬ zAnd (zShr (bS (fLv (rP Z q) (sdf Z q) (Z q 27).toNat) (Z q 27).toNat) (k2)) 1 = 0)) = false) → ((rI (k2 + 1)) ∧ ((k + 1 ≤ (k2 + 1) ∧ (k2 + 1) ≤ Z q 27) ∧ u = eeN (fEv (fLv (rP Z q) (sdf Z q) (Z q 27).toNat) (rG Z q)) (Z q 27).toNat (k).toNat + cN (eeG (fEv (fLv (rP Z q) (sdf Z q) (Z q 27).toNat) (rG Z q)) (k).toNat) ((k2 + 1)).toNat) ∧ (((20 - (k2 + 1)).toNat) < ((20 - (k2)).toNat)))) ∧ (((decide (0 ≤ k2 ∧ k2 < 15) && decide (¬ zAnd (zShr (bS (fLv (rP Z q) (sdf Z q) (Z q 27).toNat) (Z q 27).toNat) (k2)) 1 = 0)) = true) → ((0 ≤ k ∧ k < 15) ∧ ((0 ≤ k2 ∧ k2 < 15) ∧ (((¬ (Y (i + 13) (k)) = (Y (i + 13) (k2))) → ((rI (k2 + 1)) ∧ ((k + 1 ≤ (k2 + 1) ∧ (k2 + 1) ≤ Z q 27) ∧ u = eeN (fEv (fLv (rP Z q) (sdf Z q) (Z q 27).toNat) (rG Z q)) (Z q 27).toNat (k).toNat + cN (eeG (fEv (fLv (rP Z q) (sdf Z q) (Z q 27).toNat) (rG Z q)) (k).toNat) ((k2 + 1)).toNat) ∧ (((20 - (k2 + 1)).toNat) < ((20 - (k2)).toNat)))) ∧ ((¬ (¬ (Y (i + 13) (k)) = (Y (i + 13) (k2)))) → ((rI (u + 1)) ∧ (rI (k2 + 1)) ∧ ((k + 1 ≤ (k2 + 1) ∧ (k2 + 1) ≤ Z q 27) ∧ (u + 1) = eeN (fEv (fLv (rP Z q) (sdf Z q) (Z q 27).toNat) (rG Z q)) (Z q 27).toNat (k).toNat + cN (eeG (fEv (fLv (rP Z q) (sdf Z q) (Z q 27).toNat) (rG Z q)) (k).toNat) ((k2 + 1)).toNat) ∧ (((20 - (k2 + 1)).toNat) < ((20 - (k2)).toNat))))))))))))))))))))
set_option maxHeartbeats 4000000 in
set_option maxRecDepth 100000 in
theorem w_X1_even {l : Launch} {D : va_G} {cy : Nat → ClassId} {bs N : Nat} {sa : Nat → Nat} {kd len : Nat → Nat} {X Y : Nat → Int → Int} {R : Nat → Int → Option Nat} {i : Nat} {Z : Nat → Int → Int} {q : Nat} (hC : zChart N kd len R i)  (hF : F_X1_even i Z q X Y R ) : Met l yX1_even (.code yX1_even cX1_even 5 (some .int) :: zTB) (zRm 3 66) (zPc D cy bs sa N kd len X Y R [.ref (bs + (i))]) (zQi D cy bs N kd len (fun r st => r = evN (fEv (fLv (rP Z q) (sdf Z q) (Z q 27).toNat) (rG Z q)) (Z q 27).toNat ∧ st = (X, Y, R))) 0 0 (zA bs) := by
  refine zstart (by decide) (Nat.le_of_ble_eq_true rfl) ?_
  intro p e s m args below meth c ls C hE hH hr hlk hnm hl hargs
  have hF := hF hH.2.2.1 hH.2.2.2
  have hS : va_S (zA bs) s.heap s.heap [] := va_S.rf
  have hl : lv_has ls 5 [(0, .ref (bs + (i)))] := hl
  refine lv_aload_n C.1 C.2.1 dX1_even_0 rfl (lv_at hl 0 rfl) ?_
  obtain ⟨o1, hF⟩ := hF
  refine zgoi (zrunV (As := []) (rest := []) C hE hH hS hl.1 (c_X1_leafBits (l := l) hC  o1) k_RX1_168 ⟨Nat.le_of_ble_eq_true rfl, Nat.le_of_ble_eq_true rfl⟩ (zChart_n0 hC) (zChart_k0 hC) rfl rfl rfl (Nat.le_of_ble_eq_true rfl) dX1_even_1 ⟨Nat.zero_le _, Nat.zero_le _⟩) hS (fun rq Xq Yq Rq H locs hrq hq hH hS => ?_)
  obtain ⟨h91, h92⟩ := hq
  have h93 : Xq = X := congrArg (fun z => z.1) h92
  have h94 : Yq = Y := congrArg (fun z => z.2.1) h92
  have h95 : Rq = R := congrArg (fun z => z.2.2) h92
  rw [h93, h94, h95] at hH
  subst h91
  have hr2 := hrq
  have hF := hF hr2
  refine lv_istore_n (lv' := [(1, .int (zI (bS (fLv (rP Z q) (sdf Z q) (Z q 27).toNat) (Z q 27).toNat))), (0, .ref (bs + (i)))]) C.1 C.2.1 dX1_even_4 rfl hl (by decide) rfl (fun ls hl => ?_)
  refine zd_iconst C dX1_even_5 ?_
  refine lv_istore_n (lv' := [(2, .int (zI (0))), (1, .int (zI (bS (fLv (rP Z q) (sdf Z q) (Z q 27).toNat) (Z q 27).toNat))), (0, .ref (bs + (i)))]) C.1 C.2.1 dX1_even_6 rfl hl (by decide) rfl (fun ls hl => ?_)
  refine zd_iconst C dX1_even_7 ?_
  refine lv_istore_n (lv' := [(3, .int (zI (0))), (2, .int (zI (0))), (1, .int (zI (bS (fLv (rP Z q) (sdf Z q) (Z q 27).toNat) (Z q 27).toNat))), (0, .ref (bs + (i)))]) C.1 C.2.1 dX1_even_8 rfl hl (by decide) rfl (fun ls hl => ?_)
  obtain ⟨hI3, hF⟩ := hF
  have L3 : ∀ (fu : Nat) (u : Int) (k : Int), rI u → rI k → ((0 ≤ k ∧ k ≤ Z q 27) ∧ u = eeN (fEv (fLv (rP Z q) (sdf Z q) (Z q 27).toNat) (rG Z q)) (Z q 27).toNat (k).toNat) → ((20 - (k)).toNat) < fu → ∀ (H : Heap) (locs : List Loc) (ls : Array Slot), zH D cy bs N kd len X Y R H → va_S (zA bs) s.heap H locs → lv_has ls 5 [(2, .int (zI (u))), (3, .int (zI (k))), (1, .int (zI (bS (fLv (rP Z q) (sdf Z q) (Z q 27).toNat) (Z q 27).toNat))), (0, .ref (bs + (i)))] → W p l e (zRm 3 66) s m args below meth c H locs 0 0 (MQ below (zQi D cy bs N kd len (fun r st => r = evN (fEv (fLv (rP Z q) (sdf Z q) (Z q 27).toNat) (rG Z q)) (Z q 27).toNat ∧ st = (X, Y, R))) args s 0 0 (zA bs)) (F0 m 9 ls []) := by
    intro fu
    induction fu with
    | zero => intro u k _ _ _ hmu; exact absurd hmu (Nat.not_lt_zero _)
    | succ fu ih3 =>
      intro u k hu hk hI hmu3 H locs ls hH hS hl
      have hF := hF u k hu hk  hI
      refine lv_iload_n C.1 C.2.1 dX1_even_9 rfl (lv_at hl 1 rfl) ?_
      refine lv_aload_n C.1 C.2.1 dX1_even_10 rfl (lv_at hl 3 rfl) ?_
      refine zg1_2 C hH (zChart_n0 hC) (zChart_k0 hC) q_396 dX1_even_11 ?_
      refine zd_icmp_gt C hk (hH.2.2.1 _ _) 80 dX1_even_14 (by decide) (fun c4 => ?_) (fun c4 => ?_)
      · have hF := hF.1 c4
        refine lv_iload_n C.1 C.2.1 dX1_even_80 rfl (lv_at hl 0 rfl) ?_
        exact zd_iret C hr hlk hH hS hu (⟨hF, rfl⟩) dX1_even_81
      · have hF := hF.2 c4
        refine lv_iload_n C.1 C.2.1 dX1_even_17 rfl (lv_at hl 1 rfl) ?_
        refine zd_iconst C dX1_even_18 ?_
        refine zd_iadd C dX1_even_19 ?_
        refine lv_istore (lv' := [(4, .int (zI (k + 1))), (2, .int (zI (u))), (3, .int (zI (k))), (1, .int (zI (bS (fLv (rP Z q) (sdf Z q) (Z q 27).toNat) (Z q 27).toNat))), (0, .ref (bs + (i)))]) C.1 C.2.1 dX1_even_20 hl (by decide) rfl (fun ls hl => ?_)
        obtain ⟨o18, hF⟩ := hF
        obtain ⟨hI5, hF⟩ := hF
        have L5 : ∀ (fu : Nat) (u : Int) (k2 : Int), rI u → rI k2 → ((k + 1 ≤ k2 ∧ k2 ≤ Z q 27) ∧ u = eeN (fEv (fLv (rP Z q) (sdf Z q) (Z q 27).toNat) (rG Z q)) (Z q 27).toNat (k).toNat + cN (eeG (fEv (fLv (rP Z q) (sdf Z q) (Z q 27).toNat) (rG Z q)) (k).toNat) (k2).toNat) → ((20 - (k2)).toNat) < fu → ∀ (H : Heap) (locs : List Loc) (ls : Array Slot), zH D cy bs N kd len X Y R H → va_S (zA bs) s.heap H locs → lv_has ls 5 [(2, .int (zI (u))), (4, .int (zI (k2))), (3, .int (zI (k))), (1, .int (zI (bS (fLv (rP Z q) (sdf Z q) (Z q 27).toNat) (Z q 27).toNat))), (0, .ref (bs + (i)))] → W p l e (zRm 3 66) s m args below meth c H locs 0 0 (MQ below (zQi D cy bs N kd len (fun r st => r = evN (fEv (fLv (rP Z q) (sdf Z q) (Z q 27).toNat) (rG Z q)) (Z q 27).toNat ∧ st = (X, Y, R))) args s 0 0 (zA bs)) (F0 m 22 ls []) := by
          intro fu
          induction fu with
          | zero => intro u k2 _ _ _ hmu; exact absurd hmu (Nat.not_lt_zero _)
          | succ fu ih5 =>
            intro u k2 hu hk2 hI hmu5 H locs ls hH hS hl
            have hF := hF u k2 hu hk2  hI
            refine lv_iload C.1 C.2.1 dX1_even_22 (lv_at hl 1 rfl) ?_
            refine lv_aload_n C.1 C.2.1 dX1_even_24 rfl (lv_at hl 4 rfl) ?_
            refine zg1_2 C hH (zChart_n0 hC) (zChart_k0 hC) q_396 dX1_even_25 ?_
            refine zd_icmp_gt C hk2 (hH.2.2.1 _ _) 74 dX1_even_28 (by decide) (fun c6 => ?_) (fun c6 => ?_)
            · have hF := hF.1 c6
              refine zd_iinc (k := 2) (lv' := [(3, .int (zI (k + 1))), (2, .int (zI (u))), (4, .int (zI (k2))), (1, .int (zI (bS (fLv (rP Z q) (sdf Z q) (Z q 27).toNat) (Z q 27).toNat))), (0, .ref (bs + (i)))]) C hl rfl dX1_even_74 (by decide) rfl (fun ls hl => ?_)
              refine lv_goto (tgt := 9) C.1 C.2.1 dX1_even_77 (by decide) ?_
              obtain ⟨o7, hF⟩ := hF
              exact ih3 (u) (k + 1) hu o7 hF.1 (Nat.lt_of_lt_of_le hF.2 (Nat.le_of_lt_succ hmu3)) _ _ _ hH hS (lv_sub hl [1, 0, 3, 4] rfl)
            · have hF := hF.2 c6
              refine lv_iload_n C.1 C.2.1 dX1_even_31 rfl (lv_at hl 3 rfl) ?_
              refine lv_iload_n C.1 C.2.1 dX1_even_32 rfl (lv_at hl 2 rfl) ?_
              refine zgoi (zrunSN (As := [.int (zI (bS (fLv (rP Z q) (sdf Z q) (Z q 27).toNat) (Z q 27).toNat)), .int (zI (k))]) (rest := []) C hE hH hS hl.1 (c_X10_isIn (l := l)  (bS (fLv (rP Z q) (sdf Z q) (Z q 27).toNat) (Z q 27).toNat) hr2 (k) hk) k_RX1_127 ⟨Nat.le_of_ble_eq_true rfl, Nat.le_of_ble_eq_true rfl⟩ rfl (Nat.le_of_ble_eq_true rfl) dX1_even_33 ⟨Nat.zero_le _, Nat.zero_le _⟩) hS (fun rq Xq Yq Rq H locs hrq hq hH hS => ?_)
              obtain ⟨h91, h92⟩ := hq
              have h93 : Xq = X := congrArg (fun z => z.1) h92
              have h94 : Yq = Y := congrArg (fun z => z.2.1) h92
              have h95 : Rq = R := congrArg (fun z => z.2.2) h92
              rw [h93, h94, h95] at hH
              subst h91
              refine zd_ifB_eq C 68 dX1_even_36 (by decide) (fun c8 => ?_) (fun c8 => ?_)
              · have hF := hF.1 c8
                refine zd_iinc (k := 1) (lv' := [(4, .int (zI (k2 + 1))), (2, .int (zI (u))), (3, .int (zI (k))), (1, .int (zI (bS (fLv (rP Z q) (sdf Z q) (Z q 27).toNat) (Z q 27).toNat))), (0, .ref (bs + (i)))]) C hl rfl dX1_even_68 (by decide) rfl (fun ls hl => ?_)
                refine lv_goto (tgt := 22) C.1 C.2.1 dX1_even_71 (by decide) ?_
                obtain ⟨o9, hF⟩ := hF
                exact ih5 (u) (k2 + 1) hu o9 hF.1 (Nat.lt_of_lt_of_le hF.2 (Nat.le_of_lt_succ hmu5)) _ _ _ hH hS (lv_sub hl [1, 0, 2, 3, 4] rfl)
              · have hF := hF.2 c8
                refine lv_iload_n C.1 C.2.1 dX1_even_39 rfl (lv_at hl 3 rfl) ?_
                refine lv_iload C.1 C.2.1 dX1_even_40 (lv_at hl 1 rfl) ?_
                refine zgoi (zrunSN (As := [.int (zI (bS (fLv (rP Z q) (sdf Z q) (Z q 27).toNat) (Z q 27).toNat)), .int (zI (k2))]) (rest := []) C hE hH hS hl.1 (c_X10_isIn (l := l)  (bS (fLv (rP Z q) (sdf Z q) (Z q 27).toNat) (Z q 27).toNat) hr2 (k2) hk2) k_RX1_127 ⟨Nat.le_of_ble_eq_true rfl, Nat.le_of_ble_eq_true rfl⟩ rfl (Nat.le_of_ble_eq_true rfl) dX1_even_42 ⟨Nat.zero_le _, Nat.zero_le _⟩) hS (fun rq Xq Yq Rq H locs hrq hq hH hS => ?_)
                obtain ⟨h91, h92⟩ := hq
                have h93 : Xq = X := congrArg (fun z => z.1) h92
                have h94 : Yq = Y := congrArg (fun z => z.2.1) h92
                have h95 : Rq = R := congrArg (fun z => z.2.2) h92
                rw [h93, h94, h95] at hH
                subst h91
                refine zd_ifB_eq C 68 dX1_even_45 (by decide) (fun c10 => ?_) (fun c10 => ?_)
                · have hF := hF.1 c10
                  refine zd_iinc (k := 1) (lv' := [(4, .int (zI (k2 + 1))), (2, .int (zI (u))), (3, .int (zI (k))), (1, .int (zI (bS (fLv (rP Z q) (sdf Z q) (Z q 27).toNat) (Z q 27).toNat))), (0, .ref (bs + (i)))]) C hl rfl dX1_even_68 (by decide) rfl (fun ls hl => ?_)
                  refine lv_goto (tgt := 22) C.1 C.2.1 dX1_even_71 (by decide) ?_
                  obtain ⟨o11, hF⟩ := hF
                  exact ih5 (u) (k2 + 1) hu o11 hF.1 (Nat.lt_of_lt_of_le hF.2 (Nat.le_of_lt_succ hmu5)) _ _ _ hH hS (lv_sub hl [1, 0, 2, 3, 4] rfl)
                · have hF := hF.2 c10
                  refine lv_aload_n C.1 C.2.1 dX1_even_48 rfl (lv_at hl 4 rfl) ?_
                  refine zg1_8 C hH (zChart_n0 hC) (zChart_k0 hC) q_411 (zChart_r13 hC) dX1_even_49 ?_
                  refine lv_iload_n C.1 C.2.1 dX1_even_52 rfl (lv_at hl 2 rfl) ?_
                  obtain ⟨o12, hF⟩ := hF
                  refine zd_lald C hH (zChart_n13 hC) (zChart_k13 hC) o12.1 (by rw [zChart_l13 hC]; exact o12.2) (by rw [zChart_l13 hC]; decide) dX1_even_53 ?_
                  refine lv_aload_n C.1 C.2.1 dX1_even_54 rfl (lv_at hl 4 rfl) ?_
                  refine zg1_8 C hH (zChart_n0 hC) (zChart_k0 hC) q_411 (zChart_r13 hC) dX1_even_55 ?_
                  refine lv_iload C.1 C.2.1 dX1_even_58 (lv_at hl 1 rfl) ?_
                  obtain ⟨o13, hF⟩ := hF
                  refine zd_lald C hH (zChart_n13 hC) (zChart_k13 hC) o13.1 (by rw [zChart_l13 hC]; exact o13.2) (by rw [zChart_l13 hC]; decide) dX1_even_60 ?_
                  refine zd_lcmp C (hH.2.2.2 _ _) (hH.2.2.2 _ _) dX1_even_61 ?_
                  refine zd_ifL_ne C 68 dX1_even_62 (by decide) (fun c14 => ?_) (fun c14 => ?_)
                  · have hF := hF.1 c14
                    refine zd_iinc (k := 1) (lv' := [(4, .int (zI (k2 + 1))), (2, .int (zI (u))), (3, .int (zI (k))), (1, .int (zI (bS (fLv (rP Z q) (sdf Z q) (Z q 27).toNat) (Z q 27).toNat))), (0, .ref (bs + (i)))]) C hl rfl dX1_even_68 (by decide) rfl (fun ls hl => ?_)
                    refine lv_goto (tgt := 22) C.1 C.2.1 dX1_even_71 (by decide) ?_
                    obtain ⟨o15, hF⟩ := hF
                    exact ih5 (u) (k2 + 1) hu o15 hF.1 (Nat.lt_of_lt_of_le hF.2 (Nat.le_of_lt_succ hmu5)) _ _ _ hH hS (lv_sub hl [1, 0, 2, 3, 4] rfl)
                  · have hF := hF.2 c14
                    refine zd_iinc (k := 0) (lv' := [(2, .int (zI (u + 1))), (4, .int (zI (k2))), (3, .int (zI (k))), (1, .int (zI (bS (fLv (rP Z q) (sdf Z q) (Z q 27).toNat) (Z q 27).toNat))), (0, .ref (bs + (i)))]) C hl rfl dX1_even_65 (by decide) rfl (fun ls hl => ?_)
                    refine zd_iinc (k := 1) (lv' := [(4, .int (zI (k2 + 1))), (2, .int (zI (u + 1))), (3, .int (zI (k))), (1, .int (zI (bS (fLv (rP Z q) (sdf Z q) (Z q 27).toNat) (Z q 27).toNat))), (0, .ref (bs + (i)))]) C hl rfl dX1_even_68 (by decide) rfl (fun ls hl => ?_)
                    refine lv_goto (tgt := 22) C.1 C.2.1 dX1_even_71 (by decide) ?_
                    obtain ⟨o16, hF⟩ := hF
                    obtain ⟨o17, hF⟩ := hF
                    exact ih5 (u + 1) (k2 + 1) o16 o17 hF.1 (Nat.lt_of_lt_of_le hF.2 (Nat.le_of_lt_succ hmu5)) _ _ _ hH hS (lv_sub hl [1, 0, 2, 3, 4] rfl)
        exact L5 (((20 - (k + 1)).toNat) + 1) (u) (k + 1) hu o18 hI5 (Nat.lt_succ_self _) _ _ _ hH hS (lv_sub hl [1, 0, 2, 3, 4] rfl)
  exact L3 (((20 - ((0 : Int))).toNat) + 1) ((0 : Int)) ((0 : Int)) (by decide) (by decide) hI3 (Nat.lt_succ_self _) _ _ _ hH hS (lv_sub hl [1, 0, 2, 3] rfl)
theorem v_X1_even {X Y : Nat → Int → Int} {R : Nat → Int → Option Nat} {i : Nat} {Z : Nat → Int → Int} {q : Nat}  (hp : cA Z q X Y R i) : F_X1_even i Z q X Y R  := by
  unfold F_X1_even
  intro hX hY
  obtain ⟨l27, r27, e27⟩ := cA_l hp
  refine ⟨?_, ?_⟩
  · exact hp
  intro _
  refine ⟨?_, ?_⟩
  · exact ⟨by omega, rfl⟩
  intro u k
  intro _
  intro _
  intro h1
  obtain ⟨⟨k1, k2⟩, hr0⟩ := h1
  obtain ⟨kn, rfl⟩ := nat_of (show 0 ≤ k by omega)
  have e0 : ((kn : Nat) : Int).toNat = kn := by omega
  have es : ((kn : Int) + 1).toNat = kn + 1 := by omega
  rw [e0] at hr0
  refine ⟨?_, ?_⟩
  · intro c1
    rw [hr0, show kn = (Z q 27).toNat by omega]
    exact eeN_ev _
  intro c2
  refine ⟨?_, ?_⟩
  · first | omega | exact ⟨by omega, by omega⟩ | decide | assumption | exact ⟨by omega, by omega, by omega⟩ | exact ⟨by decide, by decide⟩
  refine ⟨?_, ?_⟩
  · refine ⟨by omega, ?_⟩
    rw [e0, es, eeG_0 (Nat.le_refl _), Int.add_zero]
    exact hr0
  intro u k2
  intro _
  intro _
  intro h2
  obtain ⟨⟨m1, m2⟩, hr⟩ := h2
  obtain ⟨mn, rfl⟩ := nat_of (show 0 ≤ k2 by omega)
  have em : ((mn : Nat) : Int).toNat = mn := by omega
  rw [e0, em] at hr
  have es2 : ((mn : Int) + 1).toNat = mn + 1 := by omega
  rw [e0]
  have cb9 := cN_b (eeG (fEv (fLv (rP Z q) (sdf Z q) (Z q 27).toNat) (rG Z q)) kn) mn
  refine ⟨?_, ?_⟩
  · intro c3
    refine ⟨?_, ?_⟩
    · first | omega | exact ⟨by omega, by omega⟩ | decide | assumption | exact ⟨by omega, by omega, by omega⟩ | exact ⟨by decide, by decide⟩
    refine ⟨?_, ?_⟩
    · refine ⟨by omega, ?_⟩
      rw [es, hr, show mn = (Z q 27).toNat by omega]
      rfl
    first | omega | exact ⟨by omega, by omega⟩ | decide | assumption | exact ⟨by omega, by omega, by omega⟩ | exact ⟨by decide, by decide⟩
  intro c4
  have kl : (kn : Int) < Z q 27 := by omega
  have ml : (mn : Int) < Z q 27 := by omega
  refine ⟨?_, ?_⟩
  · intro c5
    rw [isIn_has (by omega) (by omega), (show mHas (bS (fLv (rP Z q) (sdf Z q) (Z q 27).toNat) (Z q 27).toNat) kn = (fLv (rP Z q) (sdf Z q) (Z q 27).toNat) kn from bS_has _ (by omega) (by omega))] at c5
    refine ⟨?_, ?_⟩
    · first | omega | exact ⟨by omega, by omega⟩ | decide | assumption | exact ⟨by omega, by omega, by omega⟩ | exact ⟨by decide, by decide⟩
    refine ⟨?_, ?_⟩
    · exact ⟨by omega, by rw [es2, cN_n (by unfold eeG fEv; rw [c5, Bool.false_and, Bool.and_false, Bool.and_false])]; exact hr⟩
    first | omega | exact ⟨by omega, by omega⟩ | decide | assumption | exact ⟨by omega, by omega, by omega⟩ | exact ⟨by decide, by decide⟩
  intro c6
  rw [isIn_has (by omega) (by omega), (show mHas (bS (fLv (rP Z q) (sdf Z q) (Z q 27).toNat) (Z q 27).toNat) kn = (fLv (rP Z q) (sdf Z q) (Z q 27).toNat) kn from bS_has _ (by omega) (by omega))] at c6
  refine ⟨?_, ?_⟩
  · intro c7
    rw [isIn_has (by omega) (by omega), (show mHas (bS (fLv (rP Z q) (sdf Z q) (Z q 27).toNat) (Z q 27).toNat) mn = (fLv (rP Z q) (sdf Z q) (Z q 27).toNat) mn from bS_has _ (by omega) (by omega))] at c7
    refine ⟨?_, ?_⟩
    · first | omega | exact ⟨by omega, by omega⟩ | decide | assumption | exact ⟨by omega, by omega, by omega⟩ | exact ⟨by decide, by decide⟩
    refine ⟨?_, ?_⟩
    · exact ⟨by omega, by rw [es2, cN_n (by unfold eeG fEv; rw [c7, Bool.false_and, Bool.and_false])]; exact hr⟩
    first | omega | exact ⟨by omega, by omega⟩ | decide | assumption | exact ⟨by omega, by omega, by omega⟩ | exact ⟨by decide, by decide⟩
  intro c8
  rw [isIn_has (by omega) (by omega), (show mHas (bS (fLv (rP Z q) (sdf Z q) (Z q 27).toNat) (Z q 27).toNat) mn = (fLv (rP Z q) (sdf Z q) (Z q 27).toNat) mn from bS_has _ (by omega) (by omega))] at c8
  refine ⟨?_, ?_⟩
  · first | omega | exact ⟨by omega, by omega⟩ | decide | assumption | exact ⟨by omega, by omega, by omega⟩ | exact ⟨by decide, by decide⟩
  refine ⟨?_, ?_⟩
  · first | omega | exact ⟨by omega, by omega⟩ | decide | assumption | exact ⟨by omega, by omega, by omega⟩ | exact ⟨by decide, by decide⟩
  refine ⟨?_, ?_⟩
  · intro c9
    rw [(cA_W hp kl).2, (cA_W hp ml).2] at c9
    refine ⟨?_, ?_⟩
    · first | omega | exact ⟨by omega, by omega⟩ | decide | assumption | exact ⟨by omega, by omega, by omega⟩ | exact ⟨by decide, by decide⟩
    refine ⟨?_, ?_⟩
    · exact ⟨by omega, by rw [es2, cN_n (by unfold eeG fEv; rw [decide_eq_false (p := rG Z q mn = rG Z q kn) (fun z => c9 z.symm), Bool.and_false, Bool.and_false, Bool.and_false])]; exact hr⟩
    first | omega | exact ⟨by omega, by omega⟩ | decide | assumption | exact ⟨by omega, by omega, by omega⟩ | exact ⟨by decide, by decide⟩
  intro c10
  rw [(cA_W hp kl).2, (cA_W hp ml).2] at c10
  have c10 := Classical.not_not.mp c10
  refine ⟨?_, ?_⟩
  · rw [hr]
    have eb := eeN_b (f := (fEv (fLv (rP Z q) (sdf Z q) (Z q 27).toNat) (rG Z q))) (m := (Z q 27).toNat) (by omega) kn
    exact ⟨by omega, by omega⟩
  refine ⟨?_, ?_⟩
  · first | omega | exact ⟨by omega, by omega⟩ | decide | assumption | exact ⟨by omega, by omega, by omega⟩ | exact ⟨by decide, by decide⟩
  refine ⟨?_, ?_⟩
  · exact ⟨by omega, by rw [es2, cN_y (by unfold eeG fEv; rw [c6, c8, decide_eq_true c10.symm, decide_eq_true (show kn < mn by omega)]; rfl), hr]; omega⟩
  first | omega | exact ⟨by omega, by omega⟩ | decide | assumption | exact ⟨by omega, by omega, by omega⟩ | exact ⟨by decide, by decide⟩
theorem c_X1_even {l : Launch} {D : va_G} {cy : Nat → ClassId} {bs N : Nat} {sa : Nat → Nat} {kd len : Nat → Nat} {X Y : Nat → Int → Int} {R : Nat → Int → Option Nat} {i : Nat} {Z : Nat → Int → Int} {q : Nat} (hC : zChart N kd len R i)  (hp : cA Z q X Y R i) : Met l yX1_even (.code yX1_even cX1_even 5 (some .int) :: zTB) (zRm 3 66) (zPc D cy bs sa N kd len X Y R [.ref (bs + (i))]) (zQi D cy bs N kd len (fun r st => r = evN (fEv (fLv (rP Z q) (sdf Z q) (Z q 27).toNat) (rG Z q)) (Z q 27).toNat ∧ st = (X, Y, R))) 0 0 (zA bs) := w_X1_even hC  (v_X1_even  hp)
abbrev cX1_tips : ByteArray := prog_3_method_18_code
def yX1_tips : MethodName := ⟨RX1, "tips", "()I"⟩
theorem dX1_tips_0 : decode cX1_tips 0 = .ok (.aload_n 0, 1) := by decide +kernel
theorem dX1_tips_1 : decode cX1_tips 1 = .ok (.getfield 12, 3) := by decide +kernel
theorem dX1_tips_4 : decode cX1_tips 4 = .ok (.getfield 135, 3) := by decide +kernel
theorem dX1_tips_7 : decode cX1_tips 7 = .ok (.ifCond .ne 8, 3) := by decide +kernel
theorem dX1_tips_10 : decode cX1_tips 10 = .ok (.aload_n 0, 1) := by decide +kernel
theorem dX1_tips_11 : decode cX1_tips 11 = .ok (.invokevirtual 152, 3) := by decide +kernel
theorem dX1_tips_14 : decode cX1_tips 14 = .ok (.ireturn, 1) := by decide +kernel
theorem dX1_tips_15 : decode cX1_tips 15 = .ok (.aload_n 0, 1) := by decide +kernel
theorem dX1_tips_16 : decode cX1_tips 16 = .ok (.aload_n 0, 1) := by decide +kernel
theorem dX1_tips_17 : decode cX1_tips 17 = .ok (.getfield 69, 3) := by decide +kernel
theorem dX1_tips_20 : decode cX1_tips 20 = .ok (.invokevirtual 131, 3) := by decide +kernel
theorem dX1_tips_23 : decode cX1_tips 23 = .ok (.aload_n 0, 1) := by decide +kernel
theorem dX1_tips_24 : decode cX1_tips 24 = .ok (.aload_n 0, 1) := by decide +kernel
theorem dX1_tips_25 : decode cX1_tips 25 = .ok (.getfield 69, 3) := by decide +kernel
theorem dX1_tips_28 : decode cX1_tips 28 = .ok (.getstatic 138, 3) := by decide +kernel
theorem dX1_tips_31 : decode cX1_tips 31 = .ok (.invokevirtual 149, 3) := by decide +kernel
theorem dX1_tips_34 : decode cX1_tips 34 = .ok (.pop, 1) := by decide +kernel
theorem dX1_tips_35 : decode cX1_tips 35 = .ok (.iconst 1, 1) := by decide +kernel
theorem dX1_tips_36 : decode cX1_tips 36 = .ok (.istore_n 1, 1) := by decide +kernel
theorem dX1_tips_37 : decode cX1_tips 37 = .ok (.iconst 0, 1) := by decide +kernel
theorem dX1_tips_38 : decode cX1_tips 38 = .ok (.istore_n 2, 1) := by decide +kernel
theorem dX1_tips_39 : decode cX1_tips 39 = .ok (.iconst 0, 1) := by decide +kernel
theorem dX1_tips_40 : decode cX1_tips 40 = .ok (.istore_n 3, 1) := by decide +kernel
theorem dX1_tips_41 : decode cX1_tips 41 = .ok (.iload_n 3, 1) := by decide +kernel
theorem dX1_tips_42 : decode cX1_tips 42 = .ok (.aload_n 0, 1) := by decide +kernel
theorem dX1_tips_43 : decode cX1_tips 43 = .ok (.getfield 68, 3) := by decide +kernel
theorem dX1_tips_46 : decode cX1_tips 46 = .ok (.if_icmp .gt 104, 3) := by decide +kernel
theorem dX1_tips_49 : decode cX1_tips 49 = .ok (.aload_n 0, 1) := by decide +kernel
theorem dX1_tips_50 : decode cX1_tips 50 = .ok (.getfield 25, 3) := by decide +kernel
theorem dX1_tips_53 : decode cX1_tips 53 = .ok (.iload_n 3, 1) := by decide +kernel
theorem dX1_tips_54 : decode cX1_tips 54 = .ok (.iaload, 1) := by decide +kernel
theorem dX1_tips_55 : decode cX1_tips 55 = .ok (.istore 4, 2) := by decide +kernel
theorem dX1_tips_57 : decode cX1_tips 57 = .ok (.iload_n 3, 1) := by decide +kernel
theorem dX1_tips_58 : decode cX1_tips 58 = .ok (.ifCond .le 49, 3) := by decide +kernel
theorem dX1_tips_61 : decode cX1_tips 61 = .ok (.aload_n 0, 1) := by decide +kernel
theorem dX1_tips_62 : decode cX1_tips 62 = .ok (.getfield 69, 3) := by decide +kernel
theorem dX1_tips_65 : decode cX1_tips 65 = .ok (.iload_n 3, 1) := by decide +kernel
theorem dX1_tips_66 : decode cX1_tips 66 = .ok (.invokestatic 127, 3) := by decide +kernel
theorem dX1_tips_69 : decode cX1_tips 69 = .ok (.ifCond .eq 38, 3) := by decide +kernel
theorem dX1_tips_72 : decode cX1_tips 72 = .ok (.iload_n 1, 1) := by decide +kernel
theorem dX1_tips_73 : decode cX1_tips 73 = .ok (.iload 4, 2) := by decide +kernel
theorem dX1_tips_75 : decode cX1_tips 75 = .ok (.invokestatic 127, 3) := by decide +kernel
theorem dX1_tips_78 : decode cX1_tips 78 = .ok (.ifCond .eq 29, 3) := by decide +kernel
theorem dX1_tips_81 : decode cX1_tips 81 = .ok (.aload_n 0, 1) := by decide +kernel
theorem dX1_tips_82 : decode cX1_tips 82 = .ok (.getfield 48, 3) := by decide +kernel
theorem dX1_tips_85 : decode cX1_tips 85 = .ok (.iload_n 3, 1) := by decide +kernel
theorem dX1_tips_86 : decode cX1_tips 86 = .ok (.laload, 1) := by decide +kernel
theorem dX1_tips_87 : decode cX1_tips 87 = .ok (.aload_n 0, 1) := by decide +kernel
theorem dX1_tips_88 : decode cX1_tips 88 = .ok (.getfield 48, 3) := by decide +kernel
theorem dX1_tips_91 : decode cX1_tips 91 = .ok (.aload_n 0, 1) := by decide +kernel
theorem dX1_tips_92 : decode cX1_tips 92 = .ok (.getfield 51, 3) := by decide +kernel
theorem dX1_tips_95 : decode cX1_tips 95 = .ok (.iload 4, 2) := by decide +kernel
theorem dX1_tips_97 : decode cX1_tips 97 = .ok (.iaload, 1) := by decide +kernel
theorem dX1_tips_98 : decode cX1_tips 98 = .ok (.laload, 1) := by decide +kernel
theorem dX1_tips_99 : decode cX1_tips 99 = .ok (.lcmp, 1) := by decide +kernel
theorem dX1_tips_100 : decode cX1_tips 100 = .ok (.ifCond .ne 7, 3) := by decide +kernel
theorem dX1_tips_103 : decode cX1_tips 103 = .ok (.iconst 1, 1) := by decide +kernel
theorem dX1_tips_104 : decode cX1_tips 104 = .ok (.goto 4, 3) := by decide +kernel
theorem dX1_tips_107 : decode cX1_tips 107 = .ok (.iconst 0, 1) := by decide +kernel
theorem dX1_tips_108 : decode cX1_tips 108 = .ok (.istore 5, 2) := by decide +kernel
theorem dX1_tips_110 : decode cX1_tips 110 = .ok (.iload 5, 2) := by decide +kernel
theorem dX1_tips_112 : decode cX1_tips 112 = .ok (.ifCond .eq 9, 3) := by decide +kernel
theorem dX1_tips_115 : decode cX1_tips 115 = .ok (.iload_n 1, 1) := by decide +kernel
theorem dX1_tips_116 : decode cX1_tips 116 = .ok (.iconst 1, 1) := by decide +kernel
theorem dX1_tips_117 : decode cX1_tips 117 = .ok (.iload_n 3, 1) := by decide +kernel
theorem dX1_tips_118 : decode cX1_tips 118 = .ok (.ishl, 1) := by decide +kernel
theorem dX1_tips_119 : decode cX1_tips 119 = .ok (.ior, 1) := by decide +kernel
theorem dX1_tips_120 : decode cX1_tips 120 = .ok (.istore_n 1, 1) := by decide +kernel
theorem dX1_tips_121 : decode cX1_tips 121 = .ok (.iload_n 1, 1) := by decide +kernel
theorem dX1_tips_122 : decode cX1_tips 122 = .ok (.iload_n 3, 1) := by decide +kernel
theorem dX1_tips_123 : decode cX1_tips 123 = .ok (.invokestatic 127, 3) := by decide +kernel
theorem dX1_tips_126 : decode cX1_tips 126 = .ok (.ifCond .eq 18, 3) := by decide +kernel
theorem dX1_tips_129 : decode cX1_tips 129 = .ok (.aload_n 0, 1) := by decide +kernel
theorem dX1_tips_130 : decode cX1_tips 130 = .ok (.getfield 51, 3) := by decide +kernel
theorem dX1_tips_133 : decode cX1_tips 133 = .ok (.iload_n 3, 1) := by decide +kernel
theorem dX1_tips_134 : decode cX1_tips 134 = .ok (.iaload, 1) := by decide +kernel
theorem dX1_tips_135 : decode cX1_tips 135 = .ok (.ifCond .ne 9, 3) := by decide +kernel
theorem dX1_tips_138 : decode cX1_tips 138 = .ok (.iload_n 2, 1) := by decide +kernel
theorem dX1_tips_139 : decode cX1_tips 139 = .ok (.iconst 1, 1) := by decide +kernel
theorem dX1_tips_140 : decode cX1_tips 140 = .ok (.iload_n 3, 1) := by decide +kernel
theorem dX1_tips_141 : decode cX1_tips 141 = .ok (.ishl, 1) := by decide +kernel
theorem dX1_tips_142 : decode cX1_tips 142 = .ok (.ior, 1) := by decide +kernel
theorem dX1_tips_143 : decode cX1_tips 143 = .ok (.istore_n 2, 1) := by decide +kernel
theorem dX1_tips_144 : decode cX1_tips 144 = .ok (.iinc 3 1, 3) := by decide +kernel
theorem dX1_tips_147 : decode cX1_tips 147 = .ok (.goto (-106), 3) := by decide +kernel
theorem dX1_tips_150 : decode cX1_tips 150 = .ok (.iload_n 2, 1) := by decide +kernel
theorem dX1_tips_151 : decode cX1_tips 151 = .ok (.ireturn, 1) := by decide +kernel
theorem q_1068 : Cond.methodLink RX1 152 yX1_heaviestOnes ∈ zTB := zmem 1068 (by decide +kernel) rfl
theorem q_1070 : Cond.instanceMethod yX1_heaviestOnes ∈ zTB := zmem 1070 (by decide +kernel) rfl
theorem q_23 : Cond.selects RX1 yX1_heaviestOnes yX1_heaviestOnes ∈ zTB := zmem 23 (by decide +kernel) rfl
theorem q_1071 : Cond.code yX1_heaviestOnes cX1_heaviestOnes 4 (some .int) ∈ zTB := zmem 1071 (by decide +kernel) rfl
theorem k_RX1_152 : zLv RX1 152 RX1 yX1_heaviestOnes cX1_heaviestOnes 4 (some .int) 0 := ⟨⟨q_1068, q_1070, q_23, q_135, q_1071⟩, rfl, ⟨by decide, by decide⟩, by decide +kernel⟩
def F_X1_tips (i : Nat) (Z : Nat → Int → Int) (q : Nat) (X Y : Nat → Int → Int) (R : Nat → Int → Option Nat)  : Prop := (∀ i j, rI (X i j)) → (∀ i j, rL (Y i j)) → ((¬ (X (cn R i) 3) = 0) → ((cA Z q X Y R i ∧ clF Z q ((X (i) 3))) ∧ (∀ Y3 : Nat → Int → Int, (∀ i j, rL (Y3 i j)) → ((∀ z, z ≠ i + 15 → (Y3) z = Y z) ∧ ∀ k : Nat, (k : Int) < Z q 27 → (Y3) (i + 15) k = finF Z q ((X (i) 3)) k) → ((cA Z q X Y3 R i) ∧ (∀ r6 : Int, rI r6 → ∀ X5 : Nat → Int → Int, (∀ i j, rI (X5 i j)) → (r6 = ((aTw (fun y => aHc (rP Z q) (fun x => Y3 (i + 15) x) (fun e => mHas ((X (i) 3)) e) (fun x y : Nat => decide (x < y)) y (Z q 27).toNat) (Z q 27).toNat 0 : Nat) : Int) ∧ (∀ z, z ≠ i + 16 → (X5) z = X z) ∧ ∀ e : Nat, (e : Int) < Z q 27 → (X5) (i + 16) e = fvN (aHc (rP Z q) (fun x => Y3 (i + 15) x) (fun e => mHas ((X (i) 3)) e) (fun x y : Nat => decide (x < y)) e (Z q 27).toNat)) → (((0 ≤ (0 : Int) ∧ (0 : Int) ≤ Z q 27) ∧ (∀ e : Nat, e < 15 → mHas (1 : Int) e = (decide (e = 0) || (decide ((e : Int) < (0 : Int)) && tRc Z q e))) ∧ (0 : Int) = bS (fTp Z q) ((0 : Int)).toNat) ∧ (∀ (u : Int) (v : Int) (k : Int), rI u → rI v → rI k → ((0 ≤ k ∧ k ≤ Z q 27) ∧ (∀ e : Nat, e < 15 → mHas u e = (decide (e = 0) || (decide ((e : Int) < k) && tRc Z q e))) ∧ v = bS (fTp Z q) (k).toNat) → ((((X5 (i) 2) < k) → (v = rCb Z q ∧ fvK X (X5) Y (Y3) i)) ∧ ((¬ ((X5 (i) 2) < k)) → ((0 ≤ k ∧ k < 15) ∧ (((k ≤ 0) → ((((decide (0 ≤ k ∧ k < 15) && decide (¬ zAnd (zShr (u) (k)) 1 = 0)) = false) → ((rI (k + 1)) ∧ ((0 ≤ (k + 1) ∧ (k + 1) ≤ Z q 27) ∧ (∀ e : Nat, e < 15 → mHas u e = (decide (e = 0) || (decide ((e : Int) < (k + 1)) && tRc Z q e))) ∧ v = bS (fTp Z q) ((k + 1)).toNat) ∧ (((20 - (k + 1)).toNat) < ((20 - (k)).toNat)))) ∧ (((decide (0 ≤ k ∧ k < 15) && decide (¬ zAnd (zShr (u) (k)) 1 = 0)) = true) → ((0 ≤ k ∧ k < 15) ∧ (((¬ (X5 (i + 16) (k)) = 0) → ((rI (k + 1)) ∧ ((0 ≤ (k + 1) ∧ (k + 1) ≤ Z q 27) ∧ (∀ e : Nat, e < 15 → mHas u e = (decide (e = 0) || (decide ((e : Int) < (k + 1)) && tRc Z q e))) ∧ v = bS (fTp Z q) ((k + 1)).toNat) ∧ (((20 - (k + 1)).toNat) < ((20 - (k)).toNat)))) ∧ ((¬ (¬ (X5 (i + 16) (k)) = 0)) → ((rI (k + 1)) ∧ ((0 ≤ (k + 1) ∧ (k + 1) ≤ Z q 27) ∧ (∀ e : Nat, e < 15 → mHas u e = (decide (e = 0) || (decide ((e : Int) < (k + 1)) && tRc Z q e))) ∧ (zOr (v) (zShl (1) (k))) = bS (fTp Z q) ((k + 1)).toNat) ∧ (((20 - (k + 1)).toNat) < ((20 - (k)).toNat))))))))) ∧ ((¬ (k ≤ 0)) → ((((decide (0 ≤ k ∧ k < 15) && decide (¬ zAnd (zShr (X5 (i) 3) (k)) 1 = 0)) = false) → ((((decide (0 ≤ k ∧ k < 15) && decide (¬ zAnd (zShr (u) (k)) 1 = 0)) = false) → ((rI (k + 1)) ∧ ((0 ≤ (k + 1) ∧ (k + 1) ≤ Z q 27) ∧ (∀ e : Nat, e < 15 → mHas u e = (decide (e = 0) || (decide ((e : Int) < (k + 1)) && tRc Z q e))) ∧ v = bS (fTp Z q) ((k + 1)).toNat) ∧ (((20 - (k + 1)).toNat) < ((20 - (k)).toNat)))) ∧ (((decide (0 ≤ k ∧ k < 15) && decide (¬ zAnd (zShr (u) (k)) 1 = 0)) = true) → ((0 ≤ k ∧ k < 15) ∧ (((¬ (X5 (i + 16) (k)) = 0) → ((rI (k + 1)) ∧ ((0 ≤ (k + 1) ∧ (k + 1) ≤ Z q 27) ∧ (∀ e : Nat, e < 15 → mHas u e = (decide (e = 0) || (decide ((e : Int) < (k + 1)) && tRc Z q e))) ∧ v = bS (fTp Z q) ((k + 1)).toNat) ∧ (((20 - (k + 1)).toNat) < ((20 - (k)).toNat)))) ∧ ((¬ (¬ (X5 (i + 16) (k)) = 0)) → ((rI (k + 1)) ∧ ((0 ≤ (k + 1) ∧ (k + 1) ≤ Z q 27) ∧ (∀ e : Nat, e < 15 → mHas u e = (decide (e = 0) || (decide ((e : Int) < (k + 1)) && tRc Z q e))) ∧ (zOr (v) (zShl (1) (k))) = bS (fTp Z q) ((k + 1)).toNat) ∧ (((20 - (k + 1)).toNat) < ((20 - (k)).toNat))))))))) ∧ (((decide (0 ≤ k ∧ k < 15) && decide (¬ zAnd (zShr (X5 (i) 3) (k)) 1 = 0)) = true) → ((((decide (0 ≤ X5 (i + 9) (k) ∧ X5 (i + 9) (k) < 15) && decide (¬ zAnd (zShr (u) (X5 (i + 9) (k))) 1 = 0)) = false) → ((((decide (0 ≤ k ∧ k < 15) && decide (¬ zAnd (zShr (u) (k)) 1 = 0)) = false) → ((rI (k + 1)) ∧ ((0 ≤ (k + 1) ∧ (k + 1) ≤ Z q 27) ∧ (∀ e : Nat, e < 15 → mHas u e = (decide (e = 0) || (decide ((e : Int) < (k + 1)) && tRc Z q e))) ∧ v = bS (fTp Z q) ((k + 1)).toNat) ∧ (((20 - (k + 1)).toNat) < ((20 - (k)).toNat)))) ∧ (((decide (0 ≤ k ∧ k < 15) && decide (¬ zAnd (zShr (u) (k)) 1 = 0)) = true) → ((0 ≤ k ∧ k < 15) ∧ (((¬ (X5 (i + 16) (k)) = 0) → ((rI (k + 1)) ∧ ((0 ≤ (k + 1) ∧ (k + 1) ≤ Z q 27) ∧ (∀ e : Nat, e < 15 → mHas u e = (decide (e = 0) || (decide ((e : Int) < (k + 1)) && tRc Z q e))) ∧ v = bS (fTp Z q) ((k + 1)).toNat) ∧ (((20 - (k + 1)).toNat) < ((20 - (k)).toNat)))) ∧ ((¬ (¬ (X5 (i + 16) (k)) = 0)) → ((rI (k + 1)) ∧ ((0 ≤ (k + 1) ∧ (k + 1) ≤ Z q 27) ∧ (∀ e : Nat, e < 15 → mHas u e = (decide (e = 0) || (decide ((e : Int) < (k + 1)) && tRc Z q e))) ∧ (zOr (v) (zShl (1) (k))) = bS (fTp Z q) ((k + 1)).toNat) ∧ (((20 - (k + 1)).toNat) < ((20 - (k)).toNat))))))))) ∧ (((decide (0 ≤ X5 (i + 9) (k) ∧ X5 (i + 9) (k) < 15) && decide (¬ zAnd (zShr (u) (X5 (i + 9) (k))) 1 = 0)) = true) → ((0 ≤ k ∧ k < 15) ∧ ((0 ≤ (X5 (i + 9) (k)) ∧ (X5 (i + 9) (k)) < 15) ∧ ((0 ≤ (X5 (i + 16) (X5 (i + 9) (k))) ∧ (X5 (i + 16) (X5 (i + 9) (k))) < 15) ∧ (((¬ (Y3 (i + 15) (k)) = (Y3 (i + 15) (X5 (i + 16) (X5 (i + 9) (k))))) → ((((decide (0 ≤ k ∧ k < 15) && decide (¬ zAnd (zShr (u) (k)) 1 = 0)) = false) → ((rI (k + 1)) ∧ ((0 ≤ (k + 1) ∧ (k + 1) ≤ Z q 27) ∧ (∀ e : Nat, e < 15 → mHas u e = (decide (e = 0) || (decide ((e : Int) < (k + 1)) && tRc Z q e))) ∧ v = bS (fTp Z q) ((k + 1)).toNat) ∧ (((20 - (k + 1)).toNat) < ((20 - (k)).toNat)))) ∧ (((decide (0 ≤ k ∧ k < 15) && decide (¬ zAnd (zShr (u) (k)) 1 = 0)) = true) → ((0 ≤ k ∧ k < 15) ∧ (((¬ (X5 (i + 16) (k)) = 0) → ((rI (k + 1)) ∧ ((0 ≤ (k + 1) ∧ (k + 1) ≤ Z q 27) ∧ (∀ e : Nat, e < 15 → mHas u e = (decide (e = 0) || (decide ((e : Int) < (k + 1)) && tRc Z q e))) ∧ v = bS (fTp Z q) ((k + 1)).toNat) ∧ (((20 - (k + 1)).toNat) < ((20 - (k)).toNat)))) ∧ ((¬ (¬ (X5 (i + 16) (k)) = 0)) → ((rI (k + 1)) ∧ ((0 ≤ (k + 1) ∧ (k + 1) ≤ Z q 27) ∧ (∀ e : Nat, e < 15 → mHas u e = (decide (e = 0) || (decide ((e : Int) < (k + 1)) && tRc Z q e))) ∧ (zOr (v) (zShl (1) (k))) = bS (fTp Z q) ((k + 1)).toNat) ∧ (((20 - (k + 1)).toNat) < ((20 - (k)).toNat))))))))) ∧ ((¬ (¬ (Y3 (i + 15) (k)) = (Y3 (i + 15) (X5 (i + 16) (X5 (i + 9) (k)))))) → ((((decide (0 ≤ k ∧ k < 15) && decide (¬ zAnd (zShr (zOr (u) (zShl (1) (k))) (k)) 1 = 0)) = false) → ((rI (k + 1)) ∧ ((0 ≤ (k + 1) ∧ (k + 1) ≤ Z q 27) ∧ (∀ e : Nat, e < 15 → mHas (zOr (u) (zShl (1) (k))) e = (decide (e = 0) || (decide ((e : Int) < (k + 1)) && tRc Z q e))) ∧ v = bS (fTp Z q) ((k + 1)).toNat) ∧ (((20 - (k + 1)).toNat) < ((20 - (k)).toNat)))) ∧ (((decide (0 ≤ k ∧ k < 15) && decide (¬ zAnd (zShr (zOr (u) (zShl (1) (k))) (k)) 1 = 0)) = true) → ((0 ≤ k ∧ k < 15) ∧ (((¬ (X5 (i + 16) (k)) = 0) → ((rI (k + 1)) ∧ ((0 ≤ (k + 1) ∧ (k + 1) ≤ Z q 27) ∧ (∀ e : Nat, e < 15 → mHas (zOr (u) (zShl (1) (k))) e = (decide (e = 0) || (decide ((e : Int) < (k + 1)) && tRc Z q e))) ∧ v = bS (fTp Z q) ((k + 1)).toNat) ∧ (((20 - (k + 1)).toNat) < ((20 - (k)).toNat)))) ∧ ((¬ (¬ (X5 (i + 16) (k)) = 0)) → ((rI (k + 1)) ∧ ((0 ≤ (k + 1) ∧ (k + 1) ≤ Z q 27) ∧ (∀ e : Nat, e < 15 → mHas (zOr (u) (zShl (1) (k))) e = (decide (e = 0) || (decide ((e : Int) < (k + 1)) && tRc Z q e))) ∧ (zOr (v) (zShl (1) (k))) = bS (fTp Z q) ((k + 1)).toNat) ∧ (((20 - (k + 1)).toNat) < ((20 - (k)).toNat))))))))))))))))))))))))))))) ∧ ((¬ (¬ (X (cn R i) 3) = 0)) → ((cA Z q X Y R i) ∧ (rI (bS (fCb (sdf Z q) (rG Z q) (tBs Z q)) (Z q 27).toNat) → (bS (fCb (sdf Z q) (rG Z q) (tBs Z q)) (Z q 27).toNat = rCb Z q ∧ fvK X (X) Y (Y) i))))
set_option maxHeartbeats 4000000 in
set_option maxRecDepth 100000 in
theorem w_X1_tips {l : Launch} {D : va_G} {cy : Nat → ClassId} {bs N : Nat} {sa : Nat → Nat} {kd len : Nat → Nat} {X Y : Nat → Int → Int} {R : Nat → Int → Option Nat} {i : Nat} {Z : Nat → Int → Int} {q : Nat} (hC : zChart N kd len R i)  (hF : F_X1_tips i Z q X Y R ) : Met l yX1_tips (.code yX1_tips cX1_tips 6 (some .int) :: zTB) (zRm 2 47) (zPc D cy bs sa N kd len X Y R [.ref (bs + (i))]) (zQi D cy bs N kd len (fun r st => st.2.2 = R ∧ (r = rCb Z q ∧ fvK X (st.1) Y (st.2.1) i))) 0 0 (zA bs) := by
  refine zstart (by decide) (Nat.le_of_ble_eq_true rfl) ?_
  intro p e s m args below meth c ls C hE hH hr hlk hnm hl hargs
  have hF := hF hH.2.2.1 hH.2.2.2
  have hS : va_S (zA bs) s.heap s.heap [] := va_S.rf
  have hl : lv_has ls 6 [(0, .ref (bs + (i)))] := hl
  refine lv_aload_n C.1 C.2.1 dX1_tips_0 rfl (lv_at hl 0 rfl) ?_
  refine zg1_0 C hH (zChart_n0 hC) (zChart_k0 hC) q_392 (zChart_net hC).1 dX1_tips_1 ?_
  refine zg6_3 C hH (zNet_n0 (zChart_net hC).2) (zNet_k0 (zChart_net hC).2) q_187 dX1_tips_4 ?_
  refine zd_if_ne C (hH.2.2.1 _ _) 15 dX1_tips_7 (by decide) (fun c1 => ?_) (fun c1 => ?_)
  · have hF := hF.1 c1
    refine lv_aload_n C.1 C.2.1 dX1_tips_15 rfl (lv_at hl 0 rfl) ?_
    refine lv_aload_n C.1 C.2.1 dX1_tips_16 rfl (lv_at hl 0 rfl) ?_
    refine zg1_3 C hH (zChart_n0 hC) (zChart_k0 hC) q_399 dX1_tips_17 ?_
    obtain ⟨o2, hF⟩ := hF
    refine zgov (zrunV (As := [.int (zI (X (i) 3))]) (rest := []) C hE hH hS hl.1 (c_X1_sumUp (l := l) hC (X (i) 3) (hH.2.2.1 _ _) o2) k_RX1_131 ⟨Nat.le_of_ble_eq_true rfl, Nat.le_of_ble_eq_true rfl⟩ (zChart_n0 hC) (zChart_k0 hC) rfl rfl rfl (Nat.le_of_ble_eq_true rfl) dX1_tips_20 ⟨Nat.zero_le _, Nat.zero_le _⟩) hS (fun Xq Y3 Rq H locs hq hH hS => ?_)
    obtain ⟨h9X, h9R, hq⟩ := hq
    dsimp only at h9X h9R
    rw [h9X, h9R] at hH
    have hF := hF Y3 hH.2.2.2 hq
    refine lv_aload_n C.1 C.2.1 dX1_tips_23 rfl (lv_at hl 0 rfl) ?_
    refine lv_aload_n C.1 C.2.1 dX1_tips_24 rfl (lv_at hl 0 rfl) ?_
    refine zg1_3 C hH (zChart_n0 hC) (zChart_k0 hC) q_399 dX1_tips_25 ?_
    refine zd_getsN C hE hS (own := "WorkChains$Chart") (ix := 138) (C9 := "WorkChains") (n9 := "BY_NUMBER") (host := "WorkChains") (by decide +kernel) hE.2.2.1.1 dX1_tips_28 ?_
    obtain ⟨o4, hF⟩ := hF
    refine zgoi (zrunV (As := [.int (zI (X (i) 3)), .ref (sa 0)]) (rest := []) C hE hH hS hl.1 (c_X1_chosenByChildrenS (l := l) hC (X (i) 3) (hH.2.2.1 _ _) o4) k_RX1_149 ⟨Nat.le_of_ble_eq_true rfl, Nat.le_of_ble_eq_true rfl⟩ (zChart_n0 hC) (zChart_k0 hC) rfl rfl rfl (Nat.le_of_ble_eq_true rfl) dX1_tips_31 ⟨Nat.zero_le _, Nat.zero_le _⟩) hS (fun r6 X5 Yq Rq H locs hrq hq hH hS => ?_)
    obtain ⟨h9Y, h9R, hq⟩ := hq
    dsimp only at h9Y h9R
    rw [h9Y, h9R] at hH
    have hr6 := hrq
    have hF := hF r6 hrq X5 hH.2.2.1 hq
    refine lv_pop C.1 C.2.1 dX1_tips_34 rfl ?_
    refine zd_iconst C dX1_tips_35 ?_
    refine lv_istore_n (lv' := [(1, .int (zI (1))), (0, .ref (bs + (i)))]) C.1 C.2.1 dX1_tips_36 rfl hl (by decide) rfl (fun ls hl => ?_)
    refine zd_iconst C dX1_tips_37 ?_
    refine lv_istore_n (lv' := [(2, .int (zI (0))), (1, .int (zI (1))), (0, .ref (bs + (i)))]) C.1 C.2.1 dX1_tips_38 rfl hl (by decide) rfl (fun ls hl => ?_)
    refine zd_iconst C dX1_tips_39 ?_
    refine lv_istore_n (lv' := [(3, .int (zI (0))), (2, .int (zI (0))), (1, .int (zI (1))), (0, .ref (bs + (i)))]) C.1 C.2.1 dX1_tips_40 rfl hl (by decide) rfl (fun ls hl => ?_)
    obtain ⟨hI7, hF⟩ := hF
    have L7 : ∀ (fu : Nat) (u : Int) (v : Int) (k : Int), rI u → rI v → rI k → ((0 ≤ k ∧ k ≤ Z q 27) ∧ (∀ e : Nat, e < 15 → mHas u e = (decide (e = 0) || (decide ((e : Int) < k) && tRc Z q e))) ∧ v = bS (fTp Z q) (k).toNat) → ((20 - (k)).toNat) < fu → ∀ (H : Heap) (locs : List Loc) (ls : Array Slot), zH D cy bs N kd len X5 Y3 R H → va_S (zA bs) s.heap H locs → lv_has ls 6 [(1, .int (zI (u))), (2, .int (zI (v))), (3, .int (zI (k))), (0, .ref (bs + (i)))] → W p l e (zRm 2 47) s m args below meth c H locs 0 0 (MQ below (zQi D cy bs N kd len (fun r st => st.2.2 = R ∧ (r = rCb Z q ∧ fvK X (st.1) Y (st.2.1) i))) args s 0 0 (zA bs)) (F0 m 41 ls []) := by
      intro fu
      induction fu with
      | zero => intro u v k _ _ _ _ hmu; exact absurd hmu (Nat.not_lt_zero _)
      | succ fu ih7 =>
        intro u v k hu hv hk hI hmu7 H locs ls hH hS hl
        have hF := hF u v k hu hv hk  hI
        refine lv_iload_n C.1 C.2.1 dX1_tips_41 rfl (lv_at hl 2 rfl) ?_
        refine lv_aload_n C.1 C.2.1 dX1_tips_42 rfl (lv_at hl 3 rfl) ?_
        refine zg1_2 C hH (zChart_n0 hC) (zChart_k0 hC) q_396 dX1_tips_43 ?_
        refine zd_icmp_gt C hk (hH.2.2.1 _ _) 150 dX1_tips_46 (by decide) (fun c8 => ?_) (fun c8 => ?_)
        · have hF := hF.1 c8
          refine lv_iload_n C.1 C.2.1 dX1_tips_150 rfl (lv_at hl 1 rfl) ?_
          exact zd_iret C hr hlk hH hS hv (⟨rfl, hF⟩) dX1_tips_151
        · have hF := hF.2 c8
          refine lv_aload_n C.1 C.2.1 dX1_tips_49 rfl (lv_at hl 3 rfl) ?_
          refine zg1_4 C hH (zChart_n0 hC) (zChart_k0 hC) q_402 (zChart_r9 hC) dX1_tips_50 ?_
          refine lv_iload_n C.1 C.2.1 dX1_tips_53 rfl (lv_at hl 2 rfl) ?_
          obtain ⟨o9, hF⟩ := hF
          refine zd_iald C hH (zChart_n9 hC) (zChart_k9 hC) o9.1 (by rw [zChart_l9 hC]; exact o9.2) (by rw [zChart_l9 hC]; decide) dX1_tips_54 ?_
          refine lv_istore (lv' := [(4, .int (zI (X5 (i + 9) (k)))), (1, .int (zI (u))), (2, .int (zI (v))), (3, .int (zI (k))), (0, .ref (bs + (i)))]) C.1 C.2.1 dX1_tips_55 hl (by decide) rfl (fun ls hl => ?_)
          refine lv_iload_n C.1 C.2.1 dX1_tips_57 rfl (lv_at hl 3 rfl) ?_
          refine zd_if_le C hk 107 dX1_tips_58 (by decide) (fun c10 => ?_) (fun c10 => ?_)
          · have hF := hF.1 c10
            refine zd_iconst C dX1_tips_107 ?_
            refine lv_istore (lv' := [(5, .int (zI (0))), (4, .int (zI (X5 (i + 9) (k)))), (1, .int (zI (u))), (2, .int (zI (v))), (3, .int (zI (k))), (0, .ref (bs + (i)))]) C.1 C.2.1 dX1_tips_108 hl (by decide) rfl (fun ls hl => ?_)
            refine lv_iload C.1 C.2.1 dX1_tips_110 (lv_at hl 0 rfl) ?_
            refine zd_if_eq C (by decide) 121 dX1_tips_112 (by decide) (fun c11 => ?_) (fun c11 => ?_)
            · refine lv_iload_n C.1 C.2.1 dX1_tips_121 rfl (lv_at hl 2 rfl) ?_
              refine lv_iload_n C.1 C.2.1 dX1_tips_122 rfl (lv_at hl 4 rfl) ?_
              refine zgoi (zrunSN (As := [.int (zI (u)), .int (zI (k))]) (rest := []) C hE hH hS hl.1 (c_X10_isIn (l := l)  (u) hu (k) hk) k_RX1_127 ⟨Nat.le_of_ble_eq_true rfl, Nat.le_of_ble_eq_true rfl⟩ rfl (Nat.le_of_ble_eq_true rfl) dX1_tips_123 ⟨Nat.zero_le _, Nat.zero_le _⟩) hS (fun rq Xq Yq Rq H locs hrq hq hH hS => ?_)
              obtain ⟨h91, h92⟩ := hq
              have h93 : Xq = X5 := congrArg (fun z => z.1) h92
              have h94 : Yq = Y3 := congrArg (fun z => z.2.1) h92
              have h95 : Rq = R := congrArg (fun z => z.2.2) h92
              rw [h93, h94, h95] at hH
              subst h91
              refine zd_ifB_eq C 144 dX1_tips_126 (by decide) (fun c12 => ?_) (fun c12 => ?_)
              · have hF := hF.1 c12
                refine zd_iinc (k := 4) (lv' := [(3, .int (zI (k + 1))), (5, .int (zI (0))), (4, .int (zI (X5 (i + 9) (k)))), (1, .int (zI (u))), (2, .int (zI (v))), (0, .ref (bs + (i)))]) C hl rfl dX1_tips_144 (by decide) rfl (fun ls hl => ?_)
                refine lv_goto (tgt := 41) C.1 C.2.1 dX1_tips_147 (by decide) ?_
                obtain ⟨o13, hF⟩ := hF
                exact ih7 (u) (v) (k + 1) hu hv o13 hF.1 (Nat.lt_of_lt_of_le hF.2 (Nat.le_of_lt_succ hmu7)) _ _ _ hH hS (lv_sub hl [3, 4, 0, 5] rfl)
              · have hF := hF.2 c12
                refine lv_aload_n C.1 C.2.1 dX1_tips_129 rfl (lv_at hl 5 rfl) ?_
                refine zg1_11 C hH (zChart_n0 hC) (zChart_k0 hC) q_416 (zChart_r16 hC) dX1_tips_130 ?_
                refine lv_iload_n C.1 C.2.1 dX1_tips_133 rfl (lv_at hl 4 rfl) ?_
                obtain ⟨o14, hF⟩ := hF
                refine zd_iald C hH (zChart_n16 hC) (zChart_k16 hC) o14.1 (by rw [zChart_l16 hC]; exact o14.2) (by rw [zChart_l16 hC]; decide) dX1_tips_134 ?_
                refine zd_if_ne C (hH.2.2.1 _ _) 144 dX1_tips_135 (by decide) (fun c15 => ?_) (fun c15 => ?_)
                · have hF := hF.1 c15
                  refine zd_iinc (k := 4) (lv' := [(3, .int (zI (k + 1))), (5, .int (zI (0))), (4, .int (zI (X5 (i + 9) (k)))), (1, .int (zI (u))), (2, .int (zI (v))), (0, .ref (bs + (i)))]) C hl rfl dX1_tips_144 (by decide) rfl (fun ls hl => ?_)
                  refine lv_goto (tgt := 41) C.1 C.2.1 dX1_tips_147 (by decide) ?_
                  obtain ⟨o16, hF⟩ := hF
                  exact ih7 (u) (v) (k + 1) hu hv o16 hF.1 (Nat.lt_of_lt_of_le hF.2 (Nat.le_of_lt_succ hmu7)) _ _ _ hH hS (lv_sub hl [3, 4, 0, 5] rfl)
                · have hF := hF.2 c15
                  refine lv_iload_n C.1 C.2.1 dX1_tips_138 rfl (lv_at hl 3 rfl) ?_
                  refine zd_iconst C dX1_tips_139 ?_
                  refine lv_iload_n C.1 C.2.1 dX1_tips_140 rfl (lv_at hl 4 rfl) ?_
                  refine zd_ishl C dX1_tips_141 ?_
                  refine zd_ior C dX1_tips_142 ?_
                  refine lv_istore_n (lv' := [(2, .int (zI (zOr (v) (zShl (1) (k))))), (5, .int (zI (0))), (4, .int (zI (X5 (i + 9) (k)))), (1, .int (zI (u))), (3, .int (zI (k))), (0, .ref (bs + (i)))]) C.1 C.2.1 dX1_tips_143 rfl hl (by decide) rfl (fun ls hl => ?_)
                  refine zd_iinc (k := 4) (lv' := [(3, .int (zI (k + 1))), (2, .int (zI (zOr (v) (zShl (1) (k))))), (5, .int (zI (0))), (4, .int (zI (X5 (i + 9) (k)))), (1, .int (zI (u))), (0, .ref (bs + (i)))]) C hl rfl dX1_tips_144 (by decide) rfl (fun ls hl => ?_)
                  refine lv_goto (tgt := 41) C.1 C.2.1 dX1_tips_147 (by decide) ?_
                  obtain ⟨o17, hF⟩ := hF
                  exact ih7 (u) (zOr (v) (zShl (1) (k))) (k + 1) hu (zI_rg _) o17 hF.1 (Nat.lt_of_lt_of_le hF.2 (Nat.le_of_lt_succ hmu7)) _ _ _ hH hS (lv_sub hl [4, 1, 0, 5] rfl)
            · exact absurd (by decide) c11
          · have hF := hF.2 c10
            refine lv_aload_n C.1 C.2.1 dX1_tips_61 rfl (lv_at hl 4 rfl) ?_
            refine zg1_3 C hH (zChart_n0 hC) (zChart_k0 hC) q_399 dX1_tips_62 ?_
            refine lv_iload_n C.1 C.2.1 dX1_tips_65 rfl (lv_at hl 3 rfl) ?_
            refine zgoi (zrunSN (As := [.int (zI (X5 (i) 3)), .int (zI (k))]) (rest := []) C hE hH hS hl.1 (c_X10_isIn (l := l)  (X5 (i) 3) (hH.2.2.1 _ _) (k) hk) k_RX1_127 ⟨Nat.le_of_ble_eq_true rfl, Nat.le_of_ble_eq_true rfl⟩ rfl (Nat.le_of_ble_eq_true rfl) dX1_tips_66 ⟨Nat.zero_le _, Nat.zero_le _⟩) hS (fun rq Xq Yq Rq H locs hrq hq hH hS => ?_)
            obtain ⟨h91, h92⟩ := hq
            have h93 : Xq = X5 := congrArg (fun z => z.1) h92
            have h94 : Yq = Y3 := congrArg (fun z => z.2.1) h92
            have h95 : Rq = R := congrArg (fun z => z.2.2) h92
            rw [h93, h94, h95] at hH
            subst h91
            refine zd_ifB_eq C 107 dX1_tips_69 (by decide) (fun c18 => ?_) (fun c18 => ?_)
            · have hF := hF.1 c18
              refine zd_iconst C dX1_tips_107 ?_
              refine lv_istore (lv' := [(5, .int (zI (0))), (4, .int (zI (X5 (i + 9) (k)))), (1, .int (zI (u))), (2, .int (zI (v))), (3, .int (zI (k))), (0, .ref (bs + (i)))]) C.1 C.2.1 dX1_tips_108 hl (by decide) rfl (fun ls hl => ?_)
              refine lv_iload C.1 C.2.1 dX1_tips_110 (lv_at hl 0 rfl) ?_
              refine zd_if_eq C (by decide) 121 dX1_tips_112 (by decide) (fun c19 => ?_) (fun c19 => ?_)
              · refine lv_iload_n C.1 C.2.1 dX1_tips_121 rfl (lv_at hl 2 rfl) ?_
                refine lv_iload_n C.1 C.2.1 dX1_tips_122 rfl (lv_at hl 4 rfl) ?_
                refine zgoi (zrunSN (As := [.int (zI (u)), .int (zI (k))]) (rest := []) C hE hH hS hl.1 (c_X10_isIn (l := l)  (u) hu (k) hk) k_RX1_127 ⟨Nat.le_of_ble_eq_true rfl, Nat.le_of_ble_eq_true rfl⟩ rfl (Nat.le_of_ble_eq_true rfl) dX1_tips_123 ⟨Nat.zero_le _, Nat.zero_le _⟩) hS (fun rq Xq Yq Rq H locs hrq hq hH hS => ?_)
                obtain ⟨h91, h92⟩ := hq
                have h93 : Xq = X5 := congrArg (fun z => z.1) h92
                have h94 : Yq = Y3 := congrArg (fun z => z.2.1) h92
                have h95 : Rq = R := congrArg (fun z => z.2.2) h92
                rw [h93, h94, h95] at hH
                subst h91
                refine zd_ifB_eq C 144 dX1_tips_126 (by decide) (fun c20 => ?_) (fun c20 => ?_)
                · have hF := hF.1 c20
                  refine zd_iinc (k := 4) (lv' := [(3, .int (zI (k + 1))), (5, .int (zI (0))), (4, .int (zI (X5 (i + 9) (k)))), (1, .int (zI (u))), (2, .int (zI (v))), (0, .ref (bs + (i)))]) C hl rfl dX1_tips_144 (by decide) rfl (fun ls hl => ?_)
                  refine lv_goto (tgt := 41) C.1 C.2.1 dX1_tips_147 (by decide) ?_
                  obtain ⟨o21, hF⟩ := hF
                  exact ih7 (u) (v) (k + 1) hu hv o21 hF.1 (Nat.lt_of_lt_of_le hF.2 (Nat.le_of_lt_succ hmu7)) _ _ _ hH hS (lv_sub hl [3, 4, 0, 5] rfl)
                · have hF := hF.2 c20
                  refine lv_aload_n C.1 C.2.1 dX1_tips_129 rfl (lv_at hl 5 rfl) ?_
                  refine zg1_11 C hH (zChart_n0 hC) (zChart_k0 hC) q_416 (zChart_r16 hC) dX1_tips_130 ?_
                  refine lv_iload_n C.1 C.2.1 dX1_tips_133 rfl (lv_at hl 4 rfl) ?_
                  obtain ⟨o22, hF⟩ := hF
                  refine zd_iald C hH (zChart_n16 hC) (zChart_k16 hC) o22.1 (by rw [zChart_l16 hC]; exact o22.2) (by rw [zChart_l16 hC]; decide) dX1_tips_134 ?_
                  refine zd_if_ne C (hH.2.2.1 _ _) 144 dX1_tips_135 (by decide) (fun c23 => ?_) (fun c23 => ?_)
                  · have hF := hF.1 c23
                    refine zd_iinc (k := 4) (lv' := [(3, .int (zI (k + 1))), (5, .int (zI (0))), (4, .int (zI (X5 (i + 9) (k)))), (1, .int (zI (u))), (2, .int (zI (v))), (0, .ref (bs + (i)))]) C hl rfl dX1_tips_144 (by decide) rfl (fun ls hl => ?_)
                    refine lv_goto (tgt := 41) C.1 C.2.1 dX1_tips_147 (by decide) ?_
                    obtain ⟨o24, hF⟩ := hF
                    exact ih7 (u) (v) (k + 1) hu hv o24 hF.1 (Nat.lt_of_lt_of_le hF.2 (Nat.le_of_lt_succ hmu7)) _ _ _ hH hS (lv_sub hl [3, 4, 0, 5] rfl)
                  · have hF := hF.2 c23
                    refine lv_iload_n C.1 C.2.1 dX1_tips_138 rfl (lv_at hl 3 rfl) ?_
                    refine zd_iconst C dX1_tips_139 ?_
                    refine lv_iload_n C.1 C.2.1 dX1_tips_140 rfl (lv_at hl 4 rfl) ?_
                    refine zd_ishl C dX1_tips_141 ?_
                    refine zd_ior C dX1_tips_142 ?_
                    refine lv_istore_n (lv' := [(2, .int (zI (zOr (v) (zShl (1) (k))))), (5, .int (zI (0))), (4, .int (zI (X5 (i + 9) (k)))), (1, .int (zI (u))), (3, .int (zI (k))), (0, .ref (bs + (i)))]) C.1 C.2.1 dX1_tips_143 rfl hl (by decide) rfl (fun ls hl => ?_)
                    refine zd_iinc (k := 4) (lv' := [(3, .int (zI (k + 1))), (2, .int (zI (zOr (v) (zShl (1) (k))))), (5, .int (zI (0))), (4, .int (zI (X5 (i + 9) (k)))), (1, .int (zI (u))), (0, .ref (bs + (i)))]) C hl rfl dX1_tips_144 (by decide) rfl (fun ls hl => ?_)
                    refine lv_goto (tgt := 41) C.1 C.2.1 dX1_tips_147 (by decide) ?_
                    obtain ⟨o25, hF⟩ := hF
                    exact ih7 (u) (zOr (v) (zShl (1) (k))) (k + 1) hu (zI_rg _) o25 hF.1 (Nat.lt_of_lt_of_le hF.2 (Nat.le_of_lt_succ hmu7)) _ _ _ hH hS (lv_sub hl [4, 1, 0, 5] rfl)
              · exact absurd (by decide) c19
            · have hF := hF.2 c18
              refine lv_iload_n C.1 C.2.1 dX1_tips_72 rfl (lv_at hl 1 rfl) ?_
              refine lv_iload C.1 C.2.1 dX1_tips_73 (lv_at hl 0 rfl) ?_
              refine zgoi (zrunSN (As := [.int (zI (u)), .int (zI (X5 (i + 9) (k)))]) (rest := []) C hE hH hS hl.1 (c_X10_isIn (l := l)  (u) hu (X5 (i + 9) (k)) (hH.2.2.1 _ _)) k_RX1_127 ⟨Nat.le_of_ble_eq_true rfl, Nat.le_of_ble_eq_true rfl⟩ rfl (Nat.le_of_ble_eq_true rfl) dX1_tips_75 ⟨Nat.zero_le _, Nat.zero_le _⟩) hS (fun rq Xq Yq Rq H locs hrq hq hH hS => ?_)
              obtain ⟨h91, h92⟩ := hq
              have h93 : Xq = X5 := congrArg (fun z => z.1) h92
              have h94 : Yq = Y3 := congrArg (fun z => z.2.1) h92
              have h95 : Rq = R := congrArg (fun z => z.2.2) h92
              rw [h93, h94, h95] at hH
              subst h91
              refine zd_ifB_eq C 107 dX1_tips_78 (by decide) (fun c26 => ?_) (fun c26 => ?_)
              · have hF := hF.1 c26
                refine zd_iconst C dX1_tips_107 ?_
                refine lv_istore (lv' := [(5, .int (zI (0))), (4, .int (zI (X5 (i + 9) (k)))), (1, .int (zI (u))), (2, .int (zI (v))), (3, .int (zI (k))), (0, .ref (bs + (i)))]) C.1 C.2.1 dX1_tips_108 hl (by decide) rfl (fun ls hl => ?_)
                refine lv_iload C.1 C.2.1 dX1_tips_110 (lv_at hl 0 rfl) ?_
                refine zd_if_eq C (by decide) 121 dX1_tips_112 (by decide) (fun c27 => ?_) (fun c27 => ?_)
                · refine lv_iload_n C.1 C.2.1 dX1_tips_121 rfl (lv_at hl 2 rfl) ?_
                  refine lv_iload_n C.1 C.2.1 dX1_tips_122 rfl (lv_at hl 4 rfl) ?_
                  refine zgoi (zrunSN (As := [.int (zI (u)), .int (zI (k))]) (rest := []) C hE hH hS hl.1 (c_X10_isIn (l := l)  (u) hu (k) hk) k_RX1_127 ⟨Nat.le_of_ble_eq_true rfl, Nat.le_of_ble_eq_true rfl⟩ rfl (Nat.le_of_ble_eq_true rfl) dX1_tips_123 ⟨Nat.zero_le _, Nat.zero_le _⟩) hS (fun rq Xq Yq Rq H locs hrq hq hH hS => ?_)
                  obtain ⟨h91, h92⟩ := hq
                  have h93 : Xq = X5 := congrArg (fun z => z.1) h92
                  have h94 : Yq = Y3 := congrArg (fun z => z.2.1) h92
                  have h95 : Rq = R := congrArg (fun z => z.2.2) h92
                  rw [h93, h94, h95] at hH
                  subst h91
                  refine zd_ifB_eq C 144 dX1_tips_126 (by decide) (fun c28 => ?_) (fun c28 => ?_)
                  · have hF := hF.1 c28
                    refine zd_iinc (k := 4) (lv' := [(3, .int (zI (k + 1))), (5, .int (zI (0))), (4, .int (zI (X5 (i + 9) (k)))), (1, .int (zI (u))), (2, .int (zI (v))), (0, .ref (bs + (i)))]) C hl rfl dX1_tips_144 (by decide) rfl (fun ls hl => ?_)
                    refine lv_goto (tgt := 41) C.1 C.2.1 dX1_tips_147 (by decide) ?_
                    obtain ⟨o29, hF⟩ := hF
                    exact ih7 (u) (v) (k + 1) hu hv o29 hF.1 (Nat.lt_of_lt_of_le hF.2 (Nat.le_of_lt_succ hmu7)) _ _ _ hH hS (lv_sub hl [3, 4, 0, 5] rfl)
                  · have hF := hF.2 c28
                    refine lv_aload_n C.1 C.2.1 dX1_tips_129 rfl (lv_at hl 5 rfl) ?_
                    refine zg1_11 C hH (zChart_n0 hC) (zChart_k0 hC) q_416 (zChart_r16 hC) dX1_tips_130 ?_
                    refine lv_iload_n C.1 C.2.1 dX1_tips_133 rfl (lv_at hl 4 rfl) ?_
                    obtain ⟨o30, hF⟩ := hF
                    refine zd_iald C hH (zChart_n16 hC) (zChart_k16 hC) o30.1 (by rw [zChart_l16 hC]; exact o30.2) (by rw [zChart_l16 hC]; decide) dX1_tips_134 ?_
                    refine zd_if_ne C (hH.2.2.1 _ _) 144 dX1_tips_135 (by decide) (fun c31 => ?_) (fun c31 => ?_)
                    · have hF := hF.1 c31
                      refine zd_iinc (k := 4) (lv' := [(3, .int (zI (k + 1))), (5, .int (zI (0))), (4, .int (zI (X5 (i + 9) (k)))), (1, .int (zI (u))), (2, .int (zI (v))), (0, .ref (bs + (i)))]) C hl rfl dX1_tips_144 (by decide) rfl (fun ls hl => ?_)
                      refine lv_goto (tgt := 41) C.1 C.2.1 dX1_tips_147 (by decide) ?_
                      obtain ⟨o32, hF⟩ := hF
                      exact ih7 (u) (v) (k + 1) hu hv o32 hF.1 (Nat.lt_of_lt_of_le hF.2 (Nat.le_of_lt_succ hmu7)) _ _ _ hH hS (lv_sub hl [3, 4, 0, 5] rfl)
                    · have hF := hF.2 c31
                      refine lv_iload_n C.1 C.2.1 dX1_tips_138 rfl (lv_at hl 3 rfl) ?_
                      refine zd_iconst C dX1_tips_139 ?_
                      refine lv_iload_n C.1 C.2.1 dX1_tips_140 rfl (lv_at hl 4 rfl) ?_
                      refine zd_ishl C dX1_tips_141 ?_
                      refine zd_ior C dX1_tips_142 ?_
                      refine lv_istore_n (lv' := [(2, .int (zI (zOr (v) (zShl (1) (k))))), (5, .int (zI (0))), (4, .int (zI (X5 (i + 9) (k)))), (1, .int (zI (u))), (3, .int (zI (k))), (0, .ref (bs + (i)))]) C.1 C.2.1 dX1_tips_143 rfl hl (by decide) rfl (fun ls hl => ?_)
                      refine zd_iinc (k := 4) (lv' := [(3, .int (zI (k + 1))), (2, .int (zI (zOr (v) (zShl (1) (k))))), (5, .int (zI (0))), (4, .int (zI (X5 (i + 9) (k)))), (1, .int (zI (u))), (0, .ref (bs + (i)))]) C hl rfl dX1_tips_144 (by decide) rfl (fun ls hl => ?_)
                      refine lv_goto (tgt := 41) C.1 C.2.1 dX1_tips_147 (by decide) ?_
                      obtain ⟨o33, hF⟩ := hF
                      exact ih7 (u) (zOr (v) (zShl (1) (k))) (k + 1) hu (zI_rg _) o33 hF.1 (Nat.lt_of_lt_of_le hF.2 (Nat.le_of_lt_succ hmu7)) _ _ _ hH hS (lv_sub hl [4, 1, 0, 5] rfl)
                · exact absurd (by decide) c27
              · have hF := hF.2 c26
                refine lv_aload_n C.1 C.2.1 dX1_tips_81 rfl (lv_at hl 4 rfl) ?_
                refine zg1_10 C hH (zChart_n0 hC) (zChart_k0 hC) q_415 (zChart_r15 hC) dX1_tips_82 ?_
                refine lv_iload_n C.1 C.2.1 dX1_tips_85 rfl (lv_at hl 3 rfl) ?_
                obtain ⟨o34, hF⟩ := hF
                refine zd_lald C hH (zChart_n15 hC) (zChart_k15 hC) o34.1 (by rw [zChart_l15 hC]; exact o34.2) (by rw [zChart_l15 hC]; decide) dX1_tips_86 ?_
                refine lv_aload_n C.1 C.2.1 dX1_tips_87 rfl (lv_at hl 4 rfl) ?_
                refine zg1_10 C hH (zChart_n0 hC) (zChart_k0 hC) q_415 (zChart_r15 hC) dX1_tips_88 ?_
                refine lv_aload_n C.1 C.2.1 dX1_tips_91 rfl (lv_at hl 4 rfl) ?_
                refine zg1_11 C hH (zChart_n0 hC) (zChart_k0 hC) q_416 (zChart_r16 hC) dX1_tips_92 ?_
                refine lv_iload C.1 C.2.1 dX1_tips_95 (lv_at hl 0 rfl) ?_
                obtain ⟨o35, hF⟩ := hF
                refine zd_iald C hH (zChart_n16 hC) (zChart_k16 hC) o35.1 (by rw [zChart_l16 hC]; exact o35.2) (by rw [zChart_l16 hC]; decide) dX1_tips_97 ?_
                obtain ⟨o36, hF⟩ := hF
                refine zd_lald C hH (zChart_n15 hC) (zChart_k15 hC) o36.1 (by rw [zChart_l15 hC]; exact o36.2) (by rw [zChart_l15 hC]; decide) dX1_tips_98 ?_
                refine zd_lcmp C (hH.2.2.2 _ _) (hH.2.2.2 _ _) dX1_tips_99 ?_
                refine zd_ifL_ne C 107 dX1_tips_100 (by decide) (fun c37 => ?_) (fun c37 => ?_)
                · have hF := hF.1 c37
                  refine zd_iconst C dX1_tips_107 ?_
                  refine lv_istore (lv' := [(5, .int (zI (0))), (4, .int (zI (X5 (i + 9) (k)))), (1, .int (zI (u))), (2, .int (zI (v))), (3, .int (zI (k))), (0, .ref (bs + (i)))]) C.1 C.2.1 dX1_tips_108 hl (by decide) rfl (fun ls hl => ?_)
                  refine lv_iload C.1 C.2.1 dX1_tips_110 (lv_at hl 0 rfl) ?_
                  refine zd_if_eq C (by decide) 121 dX1_tips_112 (by decide) (fun c38 => ?_) (fun c38 => ?_)
                  · refine lv_iload_n C.1 C.2.1 dX1_tips_121 rfl (lv_at hl 2 rfl) ?_
                    refine lv_iload_n C.1 C.2.1 dX1_tips_122 rfl (lv_at hl 4 rfl) ?_
                    refine zgoi (zrunSN (As := [.int (zI (u)), .int (zI (k))]) (rest := []) C hE hH hS hl.1 (c_X10_isIn (l := l)  (u) hu (k) hk) k_RX1_127 ⟨Nat.le_of_ble_eq_true rfl, Nat.le_of_ble_eq_true rfl⟩ rfl (Nat.le_of_ble_eq_true rfl) dX1_tips_123 ⟨Nat.zero_le _, Nat.zero_le _⟩) hS (fun rq Xq Yq Rq H locs hrq hq hH hS => ?_)
                    obtain ⟨h91, h92⟩ := hq
                    have h93 : Xq = X5 := congrArg (fun z => z.1) h92
                    have h94 : Yq = Y3 := congrArg (fun z => z.2.1) h92
                    have h95 : Rq = R := congrArg (fun z => z.2.2) h92
                    rw [h93, h94, h95] at hH
                    subst h91
                    refine zd_ifB_eq C 144 dX1_tips_126 (by decide) (fun c39 => ?_) (fun c39 => ?_)
                    · have hF := hF.1 c39
                      refine zd_iinc (k := 4) (lv' := [(3, .int (zI (k + 1))), (5, .int (zI (0))), (4, .int (zI (X5 (i + 9) (k)))), (1, .int (zI (u))), (2, .int (zI (v))), (0, .ref (bs + (i)))]) C hl rfl dX1_tips_144 (by decide) rfl (fun ls hl => ?_)
                      refine lv_goto (tgt := 41) C.1 C.2.1 dX1_tips_147 (by decide) ?_
                      obtain ⟨o40, hF⟩ := hF
                      exact ih7 (u) (v) (k + 1) hu hv o40 hF.1 (Nat.lt_of_lt_of_le hF.2 (Nat.le_of_lt_succ hmu7)) _ _ _ hH hS (lv_sub hl [3, 4, 0, 5] rfl)
                    · have hF := hF.2 c39
                      refine lv_aload_n C.1 C.2.1 dX1_tips_129 rfl (lv_at hl 5 rfl) ?_
                      refine zg1_11 C hH (zChart_n0 hC) (zChart_k0 hC) q_416 (zChart_r16 hC) dX1_tips_130 ?_
                      refine lv_iload_n C.1 C.2.1 dX1_tips_133 rfl (lv_at hl 4 rfl) ?_
                      obtain ⟨o41, hF⟩ := hF
                      refine zd_iald C hH (zChart_n16 hC) (zChart_k16 hC) o41.1 (by rw [zChart_l16 hC]; exact o41.2) (by rw [zChart_l16 hC]; decide) dX1_tips_134 ?_
                      refine zd_if_ne C (hH.2.2.1 _ _) 144 dX1_tips_135 (by decide) (fun c42 => ?_) (fun c42 => ?_)
                      · have hF := hF.1 c42
                        refine zd_iinc (k := 4) (lv' := [(3, .int (zI (k + 1))), (5, .int (zI (0))), (4, .int (zI (X5 (i + 9) (k)))), (1, .int (zI (u))), (2, .int (zI (v))), (0, .ref (bs + (i)))]) C hl rfl dX1_tips_144 (by decide) rfl (fun ls hl => ?_)
                        refine lv_goto (tgt := 41) C.1 C.2.1 dX1_tips_147 (by decide) ?_
                        obtain ⟨o43, hF⟩ := hF
                        exact ih7 (u) (v) (k + 1) hu hv o43 hF.1 (Nat.lt_of_lt_of_le hF.2 (Nat.le_of_lt_succ hmu7)) _ _ _ hH hS (lv_sub hl [3, 4, 0, 5] rfl)
                      · have hF := hF.2 c42
                        refine lv_iload_n C.1 C.2.1 dX1_tips_138 rfl (lv_at hl 3 rfl) ?_
                        refine zd_iconst C dX1_tips_139 ?_
                        refine lv_iload_n C.1 C.2.1 dX1_tips_140 rfl (lv_at hl 4 rfl) ?_
                        refine zd_ishl C dX1_tips_141 ?_
                        refine zd_ior C dX1_tips_142 ?_
                        refine lv_istore_n (lv' := [(2, .int (zI (zOr (v) (zShl (1) (k))))), (5, .int (zI (0))), (4, .int (zI (X5 (i + 9) (k)))), (1, .int (zI (u))), (3, .int (zI (k))), (0, .ref (bs + (i)))]) C.1 C.2.1 dX1_tips_143 rfl hl (by decide) rfl (fun ls hl => ?_)
                        refine zd_iinc (k := 4) (lv' := [(3, .int (zI (k + 1))), (2, .int (zI (zOr (v) (zShl (1) (k))))), (5, .int (zI (0))), (4, .int (zI (X5 (i + 9) (k)))), (1, .int (zI (u))), (0, .ref (bs + (i)))]) C hl rfl dX1_tips_144 (by decide) rfl (fun ls hl => ?_)
                        refine lv_goto (tgt := 41) C.1 C.2.1 dX1_tips_147 (by decide) ?_
                        obtain ⟨o44, hF⟩ := hF
                        exact ih7 (u) (zOr (v) (zShl (1) (k))) (k + 1) hu (zI_rg _) o44 hF.1 (Nat.lt_of_lt_of_le hF.2 (Nat.le_of_lt_succ hmu7)) _ _ _ hH hS (lv_sub hl [4, 1, 0, 5] rfl)
                  · exact absurd (by decide) c38
                · have hF := hF.2 c37
                  refine zd_iconst C dX1_tips_103 ?_
                  refine lv_goto (tgt := 108) C.1 C.2.1 dX1_tips_104 (by decide) ?_
                  refine lv_istore (lv' := [(5, .int (zI (1))), (4, .int (zI (X5 (i + 9) (k)))), (1, .int (zI (u))), (2, .int (zI (v))), (3, .int (zI (k))), (0, .ref (bs + (i)))]) C.1 C.2.1 dX1_tips_108 hl (by decide) rfl (fun ls hl => ?_)
                  refine lv_iload C.1 C.2.1 dX1_tips_110 (lv_at hl 0 rfl) ?_
                  refine zd_if_eq C (by decide) 121 dX1_tips_112 (by decide) (fun c45 => ?_) (fun c45 => ?_)
                  · exact absurd c45 (by decide)
                  · refine lv_iload_n C.1 C.2.1 dX1_tips_115 rfl (lv_at hl 2 rfl) ?_
                    refine zd_iconst C dX1_tips_116 ?_
                    refine lv_iload_n C.1 C.2.1 dX1_tips_117 rfl (lv_at hl 4 rfl) ?_
                    refine zd_ishl C dX1_tips_118 ?_
                    refine zd_ior C dX1_tips_119 ?_
                    refine lv_istore_n (lv' := [(1, .int (zI (zOr (u) (zShl (1) (k))))), (5, .int (zI (1))), (4, .int (zI (X5 (i + 9) (k)))), (2, .int (zI (v))), (3, .int (zI (k))), (0, .ref (bs + (i)))]) C.1 C.2.1 dX1_tips_120 rfl hl (by decide) rfl (fun ls hl => ?_)
                    refine lv_iload_n C.1 C.2.1 dX1_tips_121 rfl (lv_at hl 0 rfl) ?_
                    refine lv_iload_n C.1 C.2.1 dX1_tips_122 rfl (lv_at hl 4 rfl) ?_
                    refine zgoi (zrunSN (As := [.int (zI (zOr (u) (zShl (1) (k)))), .int (zI (k))]) (rest := []) C hE hH hS hl.1 (c_X10_isIn (l := l)  (zOr (u) (zShl (1) (k))) (zI_rg _) (k) hk) k_RX1_127 ⟨Nat.le_of_ble_eq_true rfl, Nat.le_of_ble_eq_true rfl⟩ rfl (Nat.le_of_ble_eq_true rfl) dX1_tips_123 ⟨Nat.zero_le _, Nat.zero_le _⟩) hS (fun rq Xq Yq Rq H locs hrq hq hH hS => ?_)
                    obtain ⟨h91, h92⟩ := hq
                    have h93 : Xq = X5 := congrArg (fun z => z.1) h92
                    have h94 : Yq = Y3 := congrArg (fun z => z.2.1) h92
                    have h95 : Rq = R := congrArg (fun z => z.2.2) h92
                    rw [h93, h94, h95] at hH
                    subst h91
                    refine zd_ifB_eq C 144 dX1_tips_126 (by decide) (fun c46 => ?_) (fun c46 => ?_)
                    · have hF := hF.1 c46
                      refine zd_iinc (k := 4) (lv' := [(3, .int (zI (k + 1))), (1, .int (zI (zOr (u) (zShl (1) (k))))), (5, .int (zI (1))), (4, .int (zI (X5 (i + 9) (k)))), (2, .int (zI (v))), (0, .ref (bs + (i)))]) C hl rfl dX1_tips_144 (by decide) rfl (fun ls hl => ?_)
                      refine lv_goto (tgt := 41) C.1 C.2.1 dX1_tips_147 (by decide) ?_
                      obtain ⟨o47, hF⟩ := hF
                      exact ih7 (zOr (u) (zShl (1) (k))) (v) (k + 1) (zI_rg _) hv o47 hF.1 (Nat.lt_of_lt_of_le hF.2 (Nat.le_of_lt_succ hmu7)) _ _ _ hH hS (lv_sub hl [1, 4, 0, 5] rfl)
                    · have hF := hF.2 c46
                      refine lv_aload_n C.1 C.2.1 dX1_tips_129 rfl (lv_at hl 5 rfl) ?_
                      refine zg1_11 C hH (zChart_n0 hC) (zChart_k0 hC) q_416 (zChart_r16 hC) dX1_tips_130 ?_
                      refine lv_iload_n C.1 C.2.1 dX1_tips_133 rfl (lv_at hl 4 rfl) ?_
                      obtain ⟨o48, hF⟩ := hF
                      refine zd_iald C hH (zChart_n16 hC) (zChart_k16 hC) o48.1 (by rw [zChart_l16 hC]; exact o48.2) (by rw [zChart_l16 hC]; decide) dX1_tips_134 ?_
                      refine zd_if_ne C (hH.2.2.1 _ _) 144 dX1_tips_135 (by decide) (fun c49 => ?_) (fun c49 => ?_)
                      · have hF := hF.1 c49
                        refine zd_iinc (k := 4) (lv' := [(3, .int (zI (k + 1))), (1, .int (zI (zOr (u) (zShl (1) (k))))), (5, .int (zI (1))), (4, .int (zI (X5 (i + 9) (k)))), (2, .int (zI (v))), (0, .ref (bs + (i)))]) C hl rfl dX1_tips_144 (by decide) rfl (fun ls hl => ?_)
                        refine lv_goto (tgt := 41) C.1 C.2.1 dX1_tips_147 (by decide) ?_
                        obtain ⟨o50, hF⟩ := hF
                        exact ih7 (zOr (u) (zShl (1) (k))) (v) (k + 1) (zI_rg _) hv o50 hF.1 (Nat.lt_of_lt_of_le hF.2 (Nat.le_of_lt_succ hmu7)) _ _ _ hH hS (lv_sub hl [1, 4, 0, 5] rfl)
                      · have hF := hF.2 c49
                        refine lv_iload_n C.1 C.2.1 dX1_tips_138 rfl (lv_at hl 3 rfl) ?_
                        refine zd_iconst C dX1_tips_139 ?_
                        refine lv_iload_n C.1 C.2.1 dX1_tips_140 rfl (lv_at hl 4 rfl) ?_
                        refine zd_ishl C dX1_tips_141 ?_
                        refine zd_ior C dX1_tips_142 ?_
                        refine lv_istore_n (lv' := [(2, .int (zI (zOr (v) (zShl (1) (k))))), (1, .int (zI (zOr (u) (zShl (1) (k))))), (5, .int (zI (1))), (4, .int (zI (X5 (i + 9) (k)))), (3, .int (zI (k))), (0, .ref (bs + (i)))]) C.1 C.2.1 dX1_tips_143 rfl hl (by decide) rfl (fun ls hl => ?_)
                        refine zd_iinc (k := 4) (lv' := [(3, .int (zI (k + 1))), (2, .int (zI (zOr (v) (zShl (1) (k))))), (1, .int (zI (zOr (u) (zShl (1) (k))))), (5, .int (zI (1))), (4, .int (zI (X5 (i + 9) (k)))), (0, .ref (bs + (i)))]) C hl rfl dX1_tips_144 (by decide) rfl (fun ls hl => ?_)
                        refine lv_goto (tgt := 41) C.1 C.2.1 dX1_tips_147 (by decide) ?_
                        obtain ⟨o51, hF⟩ := hF
                        exact ih7 (zOr (u) (zShl (1) (k))) (zOr (v) (zShl (1) (k))) (k + 1) (zI_rg _) (zI_rg _) o51 hF.1 (Nat.lt_of_lt_of_le hF.2 (Nat.le_of_lt_succ hmu7)) _ _ _ hH hS (lv_sub hl [2, 1, 0, 5] rfl)
    exact L7 (((20 - ((0 : Int))).toNat) + 1) ((1 : Int)) ((0 : Int)) ((0 : Int)) (by decide) (by decide) (by decide) hI7 (Nat.lt_succ_self _) _ _ _ hH hS (lv_sub hl [2, 1, 0, 3] rfl)
  · have hF := hF.2 c1
    refine lv_aload_n C.1 C.2.1 dX1_tips_10 rfl (lv_at hl 0 rfl) ?_
    obtain ⟨o52, hF⟩ := hF
    refine zgoi (zrunV (As := []) (rest := []) C hE hH hS hl.1 (c_X1_heaviestOnes (l := l) hC  o52) k_RX1_152 ⟨Nat.le_of_ble_eq_true rfl, Nat.le_of_ble_eq_true rfl⟩ (zChart_n0 hC) (zChart_k0 hC) rfl rfl rfl (Nat.le_of_ble_eq_true rfl) dX1_tips_11 ⟨Nat.zero_le _, Nat.zero_le _⟩) hS (fun rq Xq Yq Rq H locs hrq hq hH hS => ?_)
    obtain ⟨h91, h92⟩ := hq
    have h93 : Xq = X := congrArg (fun z => z.1) h92
    have h94 : Yq = Y := congrArg (fun z => z.2.1) h92
    have h95 : Rq = R := congrArg (fun z => z.2.2) h92
    rw [h93, h94, h95] at hH
    subst h91
    have hr53 := hrq
    have hF := hF hr53
    exact zd_iret C hr hlk hH hS hr53 (⟨rfl, hF⟩) dX1_tips_14
theorem v_X1_tips {X Y : Nat → Int → Int} {R : Nat → Int → Option Nat} {i : Nat} {Z : Nat → Int → Int} {q : Nat}  (hp : cA Z q X Y R i ∧ X (cn R i) 3 = Z q 28) : F_X1_tips i Z q X Y R  := by
  unfold F_X1_tips
  intro hX hY
  obtain ⟨hq, h28⟩ := hp
  obtain ⟨l27, r27, e27⟩ := cA_l hq
  refine ⟨?_, ?_⟩
  · intro c1
    refine ⟨?_, ?_⟩
    · exact ⟨hq, cl_sdf hq⟩
    intro Y3
    intro rY3
    intro h1
    refine ⟨?_, ?_⟩
    · exact cA_k (X1 := X) ⟨fun _ _ => rfl, h1.1⟩ hq
    intro r6
    intro _
    intro X5
    intro rX5
    intro h2
    obtain ⟨fs, fh⟩ := hv_e hq h1.2
    obtain ⟨_, fo, fk⟩ := h2
    have fk : ∀ e : Nat, (e : Int) < Z q 27 → X5 (i + 16) e = fvN (tHv Z q e) := fun e he => by rw [fk e he, fh e]
    have f5 : X5 i = X i := fo i (by omega)
    refine ⟨?_, ?_⟩
    · refine ⟨by omega, fun e he => ?_, rfl⟩
      rw [decide_eq_false (show ¬ (e : Int) < 0 by omega), Bool.false_and, Bool.or_false]
      by_cases g : e = 0
      · subst g
        decide +kernel
      · rw [decide_eq_false g]
        exact (Bool.eq_false_iff.mpr (fun z => g (mHas_1 e he z)))
    intro u v k
    intro _
    intro _
    intro _
    intro h3
    obtain ⟨⟨k1, k2⟩, hI, rfl⟩ := h3
    obtain ⟨kn, rfl⟩ := nat_of (show 0 ≤ k by omega)
    have hI : rcI Z q u kn := hI
    refine ⟨?_, ?_⟩
    · intro c2
      rw [f5] at c2
      refine ⟨?_, fun z hz => by rw [fo z hz], h1.1⟩
      unfold rCb
      rw [if_neg (by rw [← h28]; exact c1), show Z q 27 = kn by omega]
    intro c3
    rw [f5] at c3
    have kl : (kn : Int) < Z q 27 := by omega
    have es : ((kn : Int) + 1).toNat = kn + 1 := by omega
    have e0 : ((kn : Nat) : Int).toNat = kn := by omega
    have hvb : tHv Z q kn = -1 ∨ ((kn : Int) < tHv Z q kn ∧ tHv Z q kn < (Z q 27).toNat) := aHc_b _
    rw [fk kn kl]
    refine ⟨?_, ?_⟩
    · first | omega | exact ⟨by omega, by omega⟩ | decide | assumption | exact ⟨by omega, by omega, by omega⟩ | exact ⟨by decide, by decide⟩
    refine ⟨?_, ?_⟩
    · intro c4
      have k0 : kn = 0 := by omega
      subst k0
      have u0 : mHas u ((0 : Nat) : Int) = true := by rw [hI 0 (by decide)]; rfl
      rw [isIn_has (by decide) (by decide), u0]
      refine ⟨?_, ?_⟩
      · intro c5
        exact absurd c5 (by decide)
      intro c6
      refine ⟨?_, ?_⟩
      · first | omega | exact ⟨by omega, by omega⟩ | decide | assumption | exact ⟨by omega, by omega, by omega⟩ | exact ⟨by decide, by decide⟩
      refine ⟨?_, ?_⟩
      · intro c7
        refine ⟨?_, ?_⟩
        · first | omega | exact ⟨by omega, by omega⟩ | decide | assumption | exact ⟨by omega, by omega, by omega⟩ | exact ⟨by decide, by decide⟩
        refine ⟨?_, ?_⟩
        · exact ⟨by omega, rcI_n hI (Or.inl rfl), by rw [es, e0, bS_n (by unfold fTp; rw [decide_eq_false (fun g => c7 (by rw [g]; rfl)), Bool.and_false])]⟩
        first | omega | exact ⟨by omega, by omega⟩ | decide | assumption | exact ⟨by omega, by omega, by omega⟩ | exact ⟨by decide, by decide⟩
      intro c8
      refine ⟨?_, ?_⟩
      · first | omega | exact ⟨by omega, by omega⟩ | decide | assumption | exact ⟨by omega, by omega, by omega⟩ | exact ⟨by decide, by decide⟩
      refine ⟨?_, ?_⟩
      · have c8 := Classical.not_not.mp c8
        exact ⟨by omega, rcI_n hI (Or.inl rfl), by rw [es, e0, bS_y (by unfold fTp; rw [tRc_0, decide_eq_true (by by_cases g : tHv Z q 0 = -1; exact g; unfold fvN at c8; rw [if_neg g] at c8; omega)]; rfl)]⟩
      first | omega | exact ⟨by omega, by omega⟩ | decide | assumption | exact ⟨by omega, by omega, by omega⟩ | exact ⟨by decide, by decide⟩
    intro c9
    have hpk := vZ_P hq.1.1.1 (show 1 ≤ kn by omega) kl
    have hx : X5 (i + 9) kn = rP Z q kn := by rw [fo (i + 9) (by omega)]; exact (cA_p hq (by omega) kl).1
    have uk : mHas u kn = false := by rw [hI kn (by omega), decide_eq_false (show ¬ kn = 0 by omega), decide_eq_false (show ¬ (kn : Int) < kn by omega)]; rfl
    rw [f5, hx, isIn_has (by omega) (by omega), cA_s hq kl, isIn_has (by omega) (by omega), uk, isIn_has (by omega) (by omega), rcI_p hI hpk (by omega), isIn_has (by omega) (by omega), mHas_set (by omega) (by omega), uk, decide_eq_true rfl, fk _ (by omega)]
    have hvp : tHv Z q (rP Z q kn) = -1 ∨ (((rP Z q kn : Nat) : Int) < tHv Z q (rP Z q kn) ∧ tHv Z q (rP Z q kn) < (Z q 27).toNat) := aHc_b _
    refine ⟨?_, ?_⟩
    · intro c10
      refine ⟨?_, ?_⟩
      · intro c11
        refine ⟨?_, ?_⟩
        · first | omega | exact ⟨by omega, by omega⟩ | decide | assumption | exact ⟨by omega, by omega, by omega⟩ | exact ⟨by decide, by decide⟩
        refine ⟨?_, ?_⟩
        · exact ⟨by omega, rcI_n hI (Or.inr (show tRc Z q kn = false from by rw [tRc_s hpk]; rw [c10]; rfl)), by rw [es, e0, bS_n (by unfold fTp; rw [(show tRc Z q kn = false from by rw [tRc_s hpk]; rw [c10]; rfl)]; rfl)]⟩
        first | omega | exact ⟨by omega, by omega⟩ | decide | assumption | exact ⟨by omega, by omega, by omega⟩ | exact ⟨by decide, by decide⟩
      intro c12
      exact absurd c12 (by decide)
    intro c15
    have hne : tHv Z q (rP Z q kn) ≠ -1 := by
      have g := aHc_ne (P := rP Z q) (sb := tSb Z q) (w := sdf Z q) (ah := fun x y : Nat => decide (x < y)) hpk c15 ((Z q 27).toNat - (kn + 1))
      rw [show kn + 1 + ((Z q 27).toNat - (kn + 1)) = (Z q 27).toNat by omega] at g
      exact g
    have hfv : fvN (tHv Z q (rP Z q kn)) = ((tHv Z q (rP Z q kn)).toNat : Nat) := by
      unfold fvN
      rw [if_neg hne]
      omega
    have hwp : sdf Z q (tHv Z q (rP Z q kn)).toNat = true := aHc_w _ hne
    rw [hfv, fs kn kl c15, fs _ (by omega) hwp]
    refine ⟨?_, ?_⟩
    · intro c16
      refine ⟨?_, ?_⟩
      · intro c17
        refine ⟨?_, ?_⟩
        · first | omega | exact ⟨by omega, by omega⟩ | decide | assumption | exact ⟨by omega, by omega, by omega⟩ | exact ⟨by decide, by decide⟩
        refine ⟨?_, ?_⟩
        · exact ⟨by omega, rcI_n hI (Or.inr (show tRc Z q kn = false from by rw [tRc_s hpk]; rw [c16, Bool.false_and, Bool.and_false])), by rw [es, e0, bS_n (by unfold fTp; rw [(show tRc Z q kn = false from by rw [tRc_s hpk]; rw [c16, Bool.false_and, Bool.and_false])]; rfl)]⟩
        first | omega | exact ⟨by omega, by omega⟩ | decide | assumption | exact ⟨by omega, by omega, by omega⟩ | exact ⟨by decide, by decide⟩
      intro c18
      exact absurd c18 (by decide)
    intro c21
    refine ⟨?_, ?_⟩
    · first | omega | exact ⟨by omega, by omega⟩ | decide | assumption | exact ⟨by omega, by omega, by omega⟩ | exact ⟨by decide, by decide⟩
    refine ⟨?_, ?_⟩
    · omega
    refine ⟨?_, ?_⟩
    · omega
    refine ⟨?_, ?_⟩
    · intro c22
      refine ⟨?_, ?_⟩
      · intro c23
        refine ⟨?_, ?_⟩
        · first | omega | exact ⟨by omega, by omega⟩ | decide | assumption | exact ⟨by omega, by omega, by omega⟩ | exact ⟨by decide, by decide⟩
        refine ⟨?_, ?_⟩
        · exact ⟨by omega, rcI_n hI (Or.inr (show tRc Z q kn = false from by rw [tRc_s hpk]; rw [decide_eq_false c22, Bool.and_false, Bool.and_false])), by rw [es, e0, bS_n (by unfold fTp; rw [(show tRc Z q kn = false from by rw [tRc_s hpk]; rw [decide_eq_false c22, Bool.and_false, Bool.and_false])]; rfl)]⟩
        first | omega | exact ⟨by omega, by omega⟩ | decide | assumption | exact ⟨by omega, by omega, by omega⟩ | exact ⟨by decide, by decide⟩
      intro c24
      exact absurd c24 (by decide)
    intro c27
    have hR : tRc Z q kn = true := by rw [tRc_s hpk, c15, c21, decide_eq_true (Classical.not_not.mp c27)]; rfl
    refine ⟨?_, ?_⟩
    · intro c28
      exact absurd c28 (by decide)
    intro c29
    refine ⟨?_, ?_⟩
    · first | omega | exact ⟨by omega, by omega⟩ | decide | assumption | exact ⟨by omega, by omega, by omega⟩ | exact ⟨by decide, by decide⟩
    refine ⟨?_, ?_⟩
    · intro c30
      refine ⟨?_, ?_⟩
      · first | omega | exact ⟨by omega, by omega⟩ | decide | assumption | exact ⟨by omega, by omega, by omega⟩ | exact ⟨by decide, by decide⟩
      refine ⟨?_, ?_⟩
      · exact ⟨by omega, rcI_y hI hR (by omega), by rw [es, e0, bS_n (by unfold fTp; rw [decide_eq_false (fun g => c30 (by rw [g]; rfl)), Bool.and_false])]⟩
      first | omega | exact ⟨by omega, by omega⟩ | decide | assumption | exact ⟨by omega, by omega, by omega⟩ | exact ⟨by decide, by decide⟩
    intro c31
    refine ⟨?_, ?_⟩
    · first | omega | exact ⟨by omega, by omega⟩ | decide | assumption | exact ⟨by omega, by omega, by omega⟩ | exact ⟨by decide, by decide⟩
    refine ⟨?_, ?_⟩
    · have c31 := Classical.not_not.mp c31
      exact ⟨by omega, rcI_y hI hR (by omega), by rw [es, e0, bS_y (by unfold fTp; rw [hR, decide_eq_true (by by_cases g : tHv Z q kn = -1; exact g; unfold fvN at c31; rw [if_neg g] at c31; omega)]; rfl)]⟩
    first | omega | exact ⟨by omega, by omega⟩ | decide | assumption | exact ⟨by omega, by omega, by omega⟩ | exact ⟨by decide, by decide⟩
  intro c32
  refine ⟨?_, ?_⟩
  · exact hq
  intro _
  refine ⟨?_, fvK.rf⟩
  unfold rCb
  rw [if_pos (by rw [← h28]; exact Classical.not_not.mp c32)]
theorem c_X1_tips {l : Launch} {D : va_G} {cy : Nat → ClassId} {bs N : Nat} {sa : Nat → Nat} {kd len : Nat → Nat} {X Y : Nat → Int → Int} {R : Nat → Int → Option Nat} {i : Nat} {Z : Nat → Int → Int} {q : Nat} (hC : zChart N kd len R i)  (hp : cA Z q X Y R i ∧ X (cn R i) 3 = Z q 28) : Met l yX1_tips (.code yX1_tips cX1_tips 6 (some .int) :: zTB) (zRm 2 47) (zPc D cy bs sa N kd len X Y R [.ref (bs + (i))]) (zQi D cy bs N kd len (fun r st => st.2.2 = R ∧ (r = rCb Z q ∧ fvK X (st.1) Y (st.2.1) i))) 0 0 (zA bs) := w_X1_tips hC  (v_X1_tips  hp)
