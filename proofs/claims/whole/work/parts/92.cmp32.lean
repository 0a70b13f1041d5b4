/-! LATE ONES; LEAVES; WHAT IS OWN -/
section LT
variable {x : Cx} {rho : Int} {t : Cs} {k : Nat}
def tipK (x : Cx) (rho : Int) (k : Nat) : Nat := sTip rho (xP x) (xW x) (xG x) (fun e => decide (e < k) && xS x e) (fun a b : Nat => decide (a < b)) (xN x)
def ltB (x : Cx) (k : Nat) (t : Cs) : Prop := (∀ j : Nat, j < xN x → mHas (t.1 3) j = (decide (j < k) && xS x j)) ∧ (∀ j j' : Nat, j < j' → j' < k → xS x j = true → xS x j' = true → t.2 j < t.2 j') ∧ ∀ j : Nat, j < k → xS x j = true → t.2 j < t.1 4
def ltI (x : Cx) (rho : Int) (k : Nat) (t : Cs) : Prop := t.1 0 = rho ∧ ltB x k t ∧ (∀ j : Nat, j < xN x → mHas (t.1 1) j = decide (j < k) ∧ mHas (t.1 2) j = decide (j < k)) ∧ t.1 5 = (tipK x rho k : Nat)
theorem lt_tip (hn : 0 < xN x) (hk : 1 ≤ k) (hkn : k ≤ xN x) (h0 : xS x 0 = true) (hr : t.1 0 = rho) (h : ltB x k t) : xTip x t = tipK x rho k := by
  unfold xTip csTip tipK
  rw [hr]
  have w0 : mHas (t.1 3) ((0 : Nat) : Int) = true := by rw [h.1 0 hn, decide_eq_true (show 0 < k by omega), h0]; rfl
  refine sTip_cong hn (by first | exact w0 | (show (decide (0 < k) && xS x 0) = true; rw [decide_eq_true (show 0 < k by omega), h0]; rfl)) (fun _ _ => rfl) (fun _ _ => rfl) (fun j hj => h.1 j hj) fun a b ha hb wa wb => ?_
  have wa : mHas (t.1 3) a = true := wa
  have wb : mHas (t.1 3) b = true := wb
  rw [h.1 a ha, Bool.and_eq_true, decide_eq_true_eq] at wa
  rw [h.1 b hb, Bool.and_eq_true, decide_eq_true_eq] at wb
  unfold ahT
  split
  · refine decide_eq_decide.mpr ⟨fun g => ?_, fun g => h.2.1 a b g wb.1 wa.2 wb.2⟩
    rcases Nat.lt_trichotomy a b with c | c | c
    · exact c
    · subst c
      omega
    · have := h.2.1 b a c wa.1 wb.2 wa.2
      omega
  · exact decide_eq_decide.mpr ⟨fun _ => by omega, fun _ => by omega⟩
theorem ltI_1 (hn : 0 < xN x) (hn15 : xN x ≤ 15) (h0 : xS x 0 = true) : ltI x rho 1 (csI rho) := by
  have m1 : ∀ j : Nat, j < xN x → mHas 1 j = decide (j < 1) := fun j hj => by
    by_cases g : j = 0
    · subst g
      decide +kernel
    · rw [decide_eq_false (show ¬ j < 1 by omega)]
      exact Bool.eq_false_iff.mpr (fun z => g (mHas_1 j (by omega) z))
  have hb : ltB x 1 (csI rho) := ⟨fun j hj => by
    show mHas 1 j = _
    rw [m1 j hj]
    by_cases g : j = 0
    · subst g
      rw [h0, Bool.and_true]
    · rw [decide_eq_false (show ¬ j < 1 by omega)]
      rfl, fun j j' h1 h2 _ _ => by omega, fun j _ _ => by show (0 : Int) < 1; decide⟩
  refine ⟨rfl, hb, fun j hj => ⟨m1 j hj, m1 j hj⟩, ?_⟩
  rw [(csI_k (x := x) (rho := rho) hn hn15).2, lt_tip (rho := rho) hn (Nat.le_refl _) (by omega) h0 rfl hb]
theorem lt_mk (hn15 : xN x ≤ 15) (hP : ∀ j, 1 ≤ j → j < xN x → xP x j < j) (hS : ∀ j, 1 ≤ j → j < xN x → xS x j = true → xS x (xP x j) = true) (h1 : 1 ≤ k) {t0 : Cs} (h3 : ∀ j : Nat, j < xN x → mHas (t0.1 3) j = (decide (j < k) && xS x j)) (hb : ∀ j : Nat, j < xN x → mHas (t0.1 1) j = decide (j < k + 1) ∧ mHas (t0.1 2) j = decide (j < k + 1)) : ∀ m, m ≤ xN x → csMk x t0 m = if k < m ∧ xS x k = true then csBc t0 k else t0
  | 0, _ => by rw [if_neg (by omega)]; rfl
  | m + 1, hm => by
    have ih := lt_mk hn15 hP hS h1 h3 hb m (by omega)
    show (if m = 0 then csMk x t0 m else if csWt x (csMk x t0 m) m then csBc (csMk x t0 m) m else csMk x t0 m) = _
    rw [ih]
    by_cases g0 : m = 0
    · rw [if_pos g0, if_neg (by omega), if_neg (by omega)]
    · rw [if_neg g0]
      rcases Nat.lt_trichotomy m k with c | c | c
      · rw [if_neg (show ¬ (k < m ∧ xS x k = true) by omega), if_neg (show ¬ (k < m + 1 ∧ xS x k = true) by omega)]
        have w : csWt x t0 m = false := by
          unfold csWt
          rw [h3 m (by omega), decide_eq_true c, Bool.true_and]
          cases xS x m <;> simp
        rw [w]
        rfl
      · subst c
        rw [if_neg (show ¬ (m < m ∧ xS x m = true) by omega)]
        have w : csWt x t0 m = xS x m := by
          unfold csWt
          have hp := hP m h1 (by omega)
          rw [h3 m (by omega), (hb m (by omega)).1, (hb m (by omega)).2, h3 _ (by omega), decide_eq_false (show ¬ m < m by omega), decide_eq_true (show m < m + 1 by omega), decide_eq_true hp]
          cases d : xS x m
          · simp
          · rw [hS m h1 (by omega) d]
            rfl
        rw [w]
        cases d : xS x m
        · rw [if_neg (by decide), if_neg (by simp)]
        · rw [if_pos rfl, if_pos ⟨by omega, rfl⟩]
      · have w : csWt x (if k < m ∧ xS x k = true then csBc t0 k else t0) m = false := by
          have e1 : mHas ((if k < m ∧ xS x k = true then csBc t0 k else t0).1 1) m = false := by
            have e : (if k < m ∧ xS x k = true then csBc t0 k else t0).1 1 = t0.1 1 := by split <;> rfl
            rw [e, (hb m (by omega)).1]
            exact decide_eq_false (by omega)
          unfold csWt
          rw [e1]
          simp
        rw [w, if_neg (show ¬ (false = true) by decide)]
        by_cases d : xS x k = true
        · rw [if_pos ⟨c, d⟩, if_pos ⟨by omega, d⟩]
        · rw [if_neg (fun z => d z.2), if_neg (fun z => d z.2)]
theorem ltI_s (hn15 : xN x ≤ 15) (hP : ∀ j, 1 ≤ j → j < xN x → xP x j < j) (hS : ∀ j, 1 ≤ j → j < xN x → xS x j = true → xS x (xP x j) = true) (h0 : xS x 0 = true) (h1 : 1 ≤ k) (hk : k < xN x) (h : ltI x rho k t) : ltI x rho (k + 1) (csL1 x t k) ∧ (csL1 x t k).1 9 = max (t.1 9) (mOnes (zAnd (wyP (xP x) (tipK x rho k)) (zXor (wyP (xP x) (tipK x rho (k + 1))) (-1)))) := by
  obtain ⟨hr, hB, hH, h5⟩ := h
  obtain ⟨t0, e0⟩ : ∃ t0 : Cs, t0 = (cU (cU t.1 1 (zOr (t.1 1) (zShl 1 k))) 2 (zOr (t.1 2) (zShl 1 k)), t.2) := ⟨_, rfl⟩
  have b3 : ∀ j : Nat, j < xN x → mHas (t0.1 3) j = (decide (j < k) && xS x j) := fun j hj => by rw [e0]; exact hB.1 j hj
  have bh : ∀ j : Nat, j < xN x → mHas (t0.1 1) j = decide (j < k + 1) ∧ mHas (t0.1 2) j = decide (j < k + 1) := fun j hj => by
    rw [e0]
    show mHas (zOr (t.1 1) (zShl 1 k)) j = _ ∧ mHas (zOr (t.1 2) (zShl 1 k)) j = _
    rw [mHas_set (by omega) (by omega), mHas_set (by omega) (by omega), (hH j hj).1, (hH j hj).2]
    have e : (decide (j < k) || decide (j = k)) = decide (j < k + 1) := by
      rw [Bool.eq_iff_iff]
      simp only [Bool.or_eq_true, decide_eq_true_eq]
      omega
    exact ⟨e, e⟩
  have hm := lt_mk hn15 hP hS h1 b3 bh (xN x) (Nat.le_refl _)
  obtain ⟨M, eM⟩ : ∃ M : Cs, M = if k < xN x ∧ xS x k = true then csBc t0 k else t0 := ⟨_, rfl⟩
  rw [← eM] at hm
  have eL : csL1 x t k = csC x M := by
    unfold csL1
    rw [← e0, hm]
  have f : ∀ s, s ≠ 3 → s ≠ 4 → M.1 s = t0.1 s := fun s h3 h4 => by
    rw [eM]
    split
    · show (if s = 4 then _ else if s = 3 then _ else t0.1 s) = _
      rw [if_neg h4, if_neg h3]
    · rfl
  have f0 : M.1 0 = rho := by rw [f 0 (by decide) (by decide), e0]; exact hr
  have f5 : M.1 5 = (tipK x rho k : Nat) := by rw [f 5 (by decide) (by decide), e0]; exact h5
  have f9 : M.1 9 = t.1 9 := by rw [f 9 (by decide) (by decide), e0]; rfl
  have MB : ltB x (k + 1) M := by
    rw [eM]
    cases d : xS x k
    · rw [if_neg (by simp)]
      refine ⟨fun j hj => ?_, fun j j' a1 a2 a3 a4 => ?_, fun j a1 a2 => ?_⟩
      · rw [b3 j hj]
        by_cases g : j = k
        · rw [g, d, Bool.and_false, Bool.and_false]
        · rw [show decide (j < k) = decide (j < k + 1) from decide_eq_decide.mpr ⟨fun _ => by omega, fun _ => by omega⟩]
      · have g : j' ≠ k := fun z => by rw [z, d] at a4; cases a4
        rw [e0]
        exact hB.2.1 j j' a1 (by omega) a3 a4
      · have g : j ≠ k := fun z => by rw [z, d] at a2; cases a2
        rw [e0]
        exact hB.2.2 j (by omega) a2
    · rw [if_pos ⟨hk, rfl⟩]
      have e2 : ∀ j, (csBc t0 k).2 j = if j = k then t.1 4 else t.2 j := fun j => by rw [e0]; rfl
      have e4 : (csBc t0 k).1 4 = t.1 4 + 1 := by rw [e0]; rfl
      refine ⟨fun j hj => ?_, fun j j' a1 a2 a3 a4 => ?_, fun j a1 a2 => ?_⟩
      · show mHas (zOr (t0.1 3) (zShl 1 k)) j = _
        rw [mHas_set (by omega) (by omega), b3 j hj]
        by_cases g : j = k
        · rw [g, d, decide_eq_true (show k < k + 1 by omega), decide_eq_true rfl, Bool.or_true]
          rfl
        · rw [decide_eq_false g, Bool.or_false, show decide (j < k) = decide (j < k + 1) from decide_eq_decide.mpr ⟨fun _ => by omega, fun _ => by omega⟩]
      · rw [e2, e2, if_neg (show ¬ j = k by omega)]
        by_cases g : j' = k
        · rw [if_pos g]
          exact hB.2.2 j (by omega) a3
        · rw [if_neg g]
          exact hB.2.1 j j' a1 (by omega) a3 a4
      · rw [e2, e4]
        by_cases g : j = k
        · rw [if_pos g]
          omega
        · rw [if_neg g]
          have := hB.2.2 j (by omega) a2
          omega
  have tp : xTip x M = tipK x rho (k + 1) := lt_tip (by omega) (by omega) (by omega) h0 f0 MB
  have c5 : (csC x M).1 5 = (xTip x M : Nat) := rfl
  have c9 : (csC x M).1 9 = max (M.1 9) (mOnes (zAnd (wyP (xP x) (M.1 5).toNat) (zXor (wyP (xP x) (xTip x M)) (-1)))) := rfl
  rw [eL]
  refine ⟨⟨f0, ⟨MB.1, MB.2.1, MB.2.2⟩, fun j hj => ?_, by rw [c5, tp]⟩, ?_⟩
  · have g1 : (csC x M).1 1 = t0.1 1 := f 1 (by decide) (by decide)
    have g2 : (csC x M).1 2 = t0.1 2 := f 2 (by decide) (by decide)
    rw [g1, g2]
    exact bh j hj
  · rw [c9, f9, f5, tp, show ((tipK x rho k : Nat) : Int).toNat = tipK x rho k by omega]
end LT
theorem msk_b : ∀ k : Nat, k < 15 → ∀ j : Nat, j < 32 → zb (zShl 2 k - 1) j = decide (j ≤ k) := by decide +kernel
abbrev cX1_late : ByteArray := prog_3_method_25_code
def yX1_late : MethodName := ⟨RX1, "late", "()I"⟩
theorem dX1_late_0 : decode cX1_late 0 = .ok (.iconst 0, 1) := by decide +kernel
theorem dX1_late_1 : decode cX1_late 1 = .ok (.istore_n 1, 1) := by decide +kernel
theorem dX1_late_2 : decode cX1_late 2 = .ok (.iconst 0, 1) := by decide +kernel
theorem dX1_late_3 : decode cX1_late 3 = .ok (.istore_n 2, 1) := by decide +kernel
theorem dX1_late_4 : decode cX1_late 4 = .ok (.iconst 1, 1) := by decide +kernel
theorem dX1_late_5 : decode cX1_late 5 = .ok (.istore_n 3, 1) := by decide +kernel
theorem dX1_late_6 : decode cX1_late 6 = .ok (.iload_n 3, 1) := by decide +kernel
theorem dX1_late_7 : decode cX1_late 7 = .ok (.aload_n 0, 1) := by decide +kernel
theorem dX1_late_8 : decode cX1_late 8 = .ok (.getfield 68, 3) := by decide +kernel
theorem dX1_late_11 : decode cX1_late 11 = .ok (.if_icmp .gt 52, 3) := by decide +kernel
theorem dX1_late_14 : decode cX1_late 14 = .ok (.aload_n 0, 1) := by decide +kernel
theorem dX1_late_15 : decode cX1_late 15 = .ok (.aload_n 0, 1) := by decide +kernel
theorem dX1_late_16 : decode cX1_late 16 = .ok (.getfield 69, 3) := by decide +kernel
theorem dX1_late_19 : decode cX1_late 19 = .ok (.iconst 2, 1) := by decide +kernel
theorem dX1_late_20 : decode cX1_late 20 = .ok (.iload_n 3, 1) := by decide +kernel
theorem dX1_late_21 : decode cX1_late 21 = .ok (.ishl, 1) := by decide +kernel
theorem dX1_late_22 : decode cX1_late 22 = .ok (.iconst 1, 1) := by decide +kernel
theorem dX1_late_23 : decode cX1_late 23 = .ok (.isub, 1) := by decide +kernel
theorem dX1_late_24 : decode cX1_late 24 = .ok (.iand, 1) := by decide +kernel
theorem dX1_late_25 : decode cX1_late 25 = .ok (.invokevirtual 165, 3) := by decide +kernel
theorem dX1_late_28 : decode cX1_late 28 = .ok (.istore 4, 2) := by decide +kernel
theorem dX1_late_30 : decode cX1_late 30 = .ok (.iload_n 1, 1) := by decide +kernel
theorem dX1_late_31 : decode cX1_late 31 = .ok (.aload_n 0, 1) := by decide +kernel
theorem dX1_late_32 : decode cX1_late 32 = .ok (.getfield 29, 3) := by decide +kernel
theorem dX1_late_35 : decode cX1_late 35 = .ok (.iload_n 2, 1) := by decide +kernel
theorem dX1_late_36 : decode cX1_late 36 = .ok (.iaload, 1) := by decide +kernel
theorem dX1_late_37 : decode cX1_late 37 = .ok (.aload_n 0, 1) := by decide +kernel
theorem dX1_late_38 : decode cX1_late 38 = .ok (.getfield 29, 3) := by decide +kernel
theorem dX1_late_41 : decode cX1_late 41 = .ok (.iload 4, 2) := by decide +kernel
theorem dX1_late_43 : decode cX1_late 43 = .ok (.iaload, 1) := by decide +kernel
theorem dX1_late_44 : decode cX1_late 44 = .ok (.iconst (-1), 1) := by decide +kernel
theorem dX1_late_45 : decode cX1_late 45 = .ok (.ixor, 1) := by decide +kernel
theorem dX1_late_46 : decode cX1_late 46 = .ok (.iand, 1) := by decide +kernel
theorem dX1_late_47 : decode cX1_late 47 = .ok (.invokestatic 160, 3) := by decide +kernel
theorem dX1_late_50 : decode cX1_late 50 = .ok (.invokestatic 65, 3) := by decide +kernel
theorem dX1_late_53 : decode cX1_late 53 = .ok (.istore_n 1, 1) := by decide +kernel
theorem dX1_late_54 : decode cX1_late 54 = .ok (.iload 4, 2) := by decide +kernel
theorem dX1_late_56 : decode cX1_late 56 = .ok (.istore_n 2, 1) := by decide +kernel
theorem dX1_late_57 : decode cX1_late 57 = .ok (.iinc 3 1, 3) := by decide +kernel
theorem dX1_late_60 : decode cX1_late 60 = .ok (.goto (-54), 3) := by decide +kernel
theorem dX1_late_63 : decode cX1_late 63 = .ok (.iload_n 1, 1) := by decide +kernel
theorem dX1_late_64 : decode cX1_late 64 = .ok (.ireturn, 1) := by decide +kernel
theorem q_1140 : Cond.methodLink RX1 165 yX1_tipOf ∈ zTB := zmem 1140 (by decide +kernel) rfl
theorem k_RX1_165 : zLv RX1 165 RX1 yX1_tipOf cX1_tipOf 2 (some .int) 1 := ⟨⟨q_1140, q_1059, q_1060, q_135, q_1061⟩, rfl, ⟨by decide, by decide⟩, by decide +kernel⟩
def F_X1_late (i : Nat) (Z : Nat → Int → Int) (q : Nat) (X Y : Nat → Int → Int) (R : Nat → Int → Option Nat)  : Prop := (∀ i j, rI (X i j)) → (∀ i j, rL (Y i j)) → ((1 ≤ (1 : Int) ∧ (1 : Int) ≤ Z q 27) ∧ (0 : Int) = (csLt (rCx Z q) (csI (Z q 28)) ((1 : Int)).toNat).1 9 ∧ (0 : Int) = (csLt (rCx Z q) (csI (Z q 28)) ((1 : Int)).toNat).1 5 ∧ fvK X X Y Y i) ∧ (∀ (u : Int) (v : Int) (k : Int) (X2 : Nat → Int → Int) (Y3 : Nat → Int → Int), rI u → rI v → rI k → (∀ i j, rI (X2 i j)) → (∀ i j, rL (Y3 i j)) → ((1 ≤ k ∧ k ≤ Z q 27) ∧ u = (csLt (rCx Z q) (csI (Z q 28)) (k).toNat).1 9 ∧ v = (csLt (rCx Z q) (csI (Z q 28)) (k).toNat).1 5 ∧ fvK X X2 Y Y3 i) → ((((X2 (i) 2) < k) → (u = (csLt (rCx Z q) (csI (Z q 28)) (Z q 27).toNat).1 9 ∧ fvK X (X2) Y (Y3) i)) ∧ ((¬ ((X2 (i) 2) < k)) → ((cA Z q X2 Y3 R i ∧ clF Z q ((zAnd (X2 (i) 3) ((zShl (2) (k)) - 1)))) ∧ (∀ r8 : Int, rI r8 → ∀ X6 : Nat → Int → Int, (∀ i j, rI (X6 i j)) → ∀ Y7 : Nat → Int → Int, (∀ i j, rL (Y7 i j)) → (r8 = ((sTip (X2 (cn R i) 3) (rP Z q) (rW Z q) (rG Z q) (fun e => mHas ((zAnd (X2 (i) 3) ((zShl (2) (k)) - 1))) e) (fun x y : Nat => decide (x < y)) (Z q 27).toNat : Nat) : Int) ∧ fvK X2 (X6) Y3 (Y7) i) → ((0 ≤ v ∧ v < 15) ∧ ((0 ≤ r8 ∧ r8 < 15) ∧ (rI (mBc (zAnd (X6 (i + 10) (v)) (zXor (X6 (i + 10) (r8)) ((-1))))) → ((rI (k + 1)) ∧ ((1 ≤ (k + 1) ∧ (k + 1) ≤ Z q 27) ∧ (max (u) (mBc (zAnd (X6 (i + 10) (v)) (zXor (X6 (i + 10) (r8)) ((-1)))))) = (csLt (rCx Z q) (csI (Z q 28)) ((k + 1)).toNat).1 9 ∧ r8 = (csLt (rCx Z q) (csI (Z q 28)) ((k + 1)).toNat).1 5 ∧ fvK X X6 Y Y7 i) ∧ (((20 - (k + 1)).toNat) < ((20 - (k)).toNat)))))))))))
set_option maxHeartbeats 4000000 in
set_option maxRecDepth 100000 in
theorem w_X1_late {l : Launch} {D : va_G} {cy : Nat → ClassId} {bs N : Nat} {sa : Nat → Nat} {kd len : Nat → Nat} {X Y : Nat → Int → Int} {R : Nat → Int → Option Nat} {i : Nat} {Z : Nat → Int → Int} {q : Nat} (hC : zChart N kd len R i)  (hF : F_X1_late i Z q X Y R ) : Met l yX1_late (.code yX1_late cX1_late 5 (some .int) :: zTB) (zRm 3 69) (zPc D cy bs sa N kd len X Y R [.ref (bs + (i))]) (zQi D cy bs N kd len (fun r st => st.2.2 = R ∧ (r = (csLt (rCx Z q) (csI (Z q 28)) (Z q 27).toNat).1 9 ∧ fvK X (st.1) Y (st.2.1) i))) 0 0 (zA bs) := by
  refine zstart (by decide) (Nat.le_of_ble_eq_true rfl) ?_
  intro p e s m args below meth c ls C hE hH hr hlk hnm hl hargs
  have hF := hF hH.2.2.1 hH.2.2.2
  have hS : va_S (zA bs) s.heap s.heap [] := va_S.rf
  have hl : lv_has ls 5 [(0, .ref (bs + (i)))] := hl
  refine zd_iconst C dX1_late_0 ?_
  refine lv_istore_n (lv' := [(1, .int (zI (0))), (0, .ref (bs + (i)))]) C.1 C.2.1 dX1_late_1 rfl hl (by decide) rfl (fun ls hl => ?_)
  refine zd_iconst C dX1_late_2 ?_
  refine lv_istore_n (lv' := [(2, .int (zI (0))), (1, .int (zI (0))), (0, .ref (bs + (i)))]) C.1 C.2.1 dX1_late_3 rfl hl (by decide) rfl (fun ls hl => ?_)
  refine zd_iconst C dX1_late_4 ?_
  refine lv_istore_n (lv' := [(3, .int (zI (1))), (2, .int (zI (0))), (1, .int (zI (0))), (0, .ref (bs + (i)))]) C.1 C.2.1 dX1_late_5 rfl hl (by decide) rfl (fun ls hl => ?_)
  obtain ⟨hI1, hF⟩ := hF
  have L1 : ∀ (fu : Nat) (u : Int) (v : Int) (k : Int) (X2 : Nat → Int → Int) (Y3 : Nat → Int → Int), rI u → rI v → rI k → ((1 ≤ k ∧ k ≤ Z q 27) ∧ u = (csLt (rCx Z q) (csI (Z q 28)) (k).toNat).1 9 ∧ v = (csLt (rCx Z q) (csI (Z q 28)) (k).toNat).1 5 ∧ fvK X X2 Y Y3 i) → ((20 - (k)).toNat) < fu → ∀ (H : Heap) (locs : List Loc) (ls : Array Slot), zH D cy bs N kd len X2 Y3 R H → va_S (zA bs) s.heap H locs → lv_has ls 5 [(1, .int (zI (u))), (2, .int (zI (v))), (3, .int (zI (k))), (0, .ref (bs + (i)))] → W p l e (zRm 3 69) s m args below meth c H locs 0 0 (MQ below (zQi D cy bs N kd len (fun r st => st.2.2 = R ∧ (r = (csLt (rCx Z q) (csI (Z q 28)) (Z q 27).toNat).1 9 ∧ fvK X (st.1) Y (st.2.1) i))) args s 0 0 (zA bs)) (F0 m 6 ls []) := by
    intro fu
    induction fu with
    | zero => intro u v k X2 Y3 _ _ _ _ hmu; exact absurd hmu (Nat.not_lt_zero _)
    | succ fu ih1 =>
      intro u v k X2 Y3 hu hv hk hI hmu1 H locs ls hH hS hl
      have hF := hF u v k X2 Y3 hu hv hk hH.2.2.1 hH.2.2.2 hI
      refine lv_iload_n C.1 C.2.1 dX1_late_6 rfl (lv_at hl 2 rfl) ?_
      refine lv_aload_n C.1 C.2.1 dX1_late_7 rfl (lv_at hl 3 rfl) ?_
      refine zg1_2 C hH (zChart_n0 hC) (zChart_k0 hC) q_396 dX1_late_8 ?_
      refine zd_icmp_gt C hk (hH.2.2.1 _ _) 63 dX1_late_11 (by decide) (fun c4 => ?_) (fun c4 => ?_)
      · have hF := hF.1 c4
        refine lv_iload_n C.1 C.2.1 dX1_late_63 rfl (lv_at hl 0 rfl) ?_
        exact zd_iret C hr hlk hH hS hu (⟨rfl, hF⟩) dX1_late_64
      · have hF := hF.2 c4
        refine lv_aload_n C.1 C.2.1 dX1_late_14 rfl (lv_at hl 3 rfl) ?_
        refine lv_aload_n C.1 C.2.1 dX1_late_15 rfl (lv_at hl 3 rfl) ?_
        refine zg1_3 C hH (zChart_n0 hC) (zChart_k0 hC) q_399 dX1_late_16 ?_
        refine zd_iconst C dX1_late_19 ?_
        refine lv_iload_n C.1 C.2.1 dX1_late_20 rfl (lv_at hl 2 rfl) ?_
        refine zd_ishl C dX1_late_21 ?_
        refine zd_iconst C dX1_late_22 ?_
        refine zd_isub C dX1_late_23 ?_
        refine zd_iand C dX1_late_24 ?_
        obtain ⟨o5, hF⟩ := hF
        refine zgoi (zrunV (As := [.int (zI (zAnd (X2 (i) 3) ((zShl (2) (k)) - 1)))]) (rest := []) C hE hH hS hl.1 (c_X1_tipOf (l := l) hC (zAnd (X2 (i) 3) ((zShl (2) (k)) - 1)) (zI_rg _) o5) k_RX1_165 ⟨Nat.le_of_ble_eq_true rfl, Nat.le_of_ble_eq_true rfl⟩ (zChart_n0 hC) (zChart_k0 hC) rfl rfl rfl (Nat.le_of_ble_eq_true rfl) dX1_late_25 ⟨Nat.zero_le _, Nat.zero_le _⟩) hS (fun r8 X6 Y7 Rq H locs hrq hq hH hS => ?_)
        obtain ⟨h9R, hq⟩ := hq
        dsimp only at h9R
        rw [h9R] at hH
        have hr8 := hrq
        have hF := hF r8 hrq X6 hH.2.2.1 Y7 hH.2.2.2 hq
        refine lv_istore (lv' := [(4, .int (zI (r8))), (1, .int (zI (u))), (2, .int (zI (v))), (3, .int (zI (k))), (0, .ref (bs + (i)))]) C.1 C.2.1 dX1_late_28 hl (by decide) rfl (fun ls hl => ?_)
        refine lv_iload_n C.1 C.2.1 dX1_late_30 rfl (lv_at hl 1 rfl) ?_
        refine lv_aload_n C.1 C.2.1 dX1_late_31 rfl (lv_at hl 4 rfl) ?_
        refine zg1_5 C hH (zChart_n0 hC) (zChart_k0 hC) q_404 (zChart_r10 hC) dX1_late_32 ?_
        refine lv_iload_n C.1 C.2.1 dX1_late_35 rfl (lv_at hl 2 rfl) ?_
        obtain ⟨o9, hF⟩ := hF
        refine zd_iald C hH (zChart_n10 hC) (zChart_k10 hC) o9.1 (by rw [zChart_l10 hC]; exact o9.2) (by rw [zChart_l10 hC]; decide) dX1_late_36 ?_
        refine lv_aload_n C.1 C.2.1 dX1_late_37 rfl (lv_at hl 4 rfl) ?_
        refine zg1_5 C hH (zChart_n0 hC) (zChart_k0 hC) q_404 (zChart_r10 hC) dX1_late_38 ?_
        refine lv_iload C.1 C.2.1 dX1_late_41 (lv_at hl 0 rfl) ?_
        obtain ⟨o10, hF⟩ := hF
        refine zd_iald C hH (zChart_n10 hC) (zChart_k10 hC) o10.1 (by rw [zChart_l10 hC]; exact o10.2) (by rw [zChart_l10 hC]; decide) dX1_late_43 ?_
        refine zd_iconst C dX1_late_44 ?_
        refine zd_ixor C dX1_late_45 ?_
        refine zd_iand C dX1_late_46 ?_
        refine zgoi (zrunS (As := [.int (zI (zAnd (X6 (i + 10) (v)) (zXor (X6 (i + 10) (r8)) ((-1)))))]) (rest := [.int (zI (u))]) C hE hH hS hl.1 (c_J6_bitCount_0f7a4 (l := l)  (zAnd (X6 (i + 10) (v)) (zXor (X6 (i + 10) (r8)) ((-1)))) (zI_rg _)) k_RX1_160 ⟨Nat.le_of_ble_eq_true rfl, Nat.le_of_ble_eq_true rfl⟩ rfl (Nat.le_of_ble_eq_true rfl) dX1_late_47 ⟨Nat.zero_le _, Nat.zero_le _⟩) hS (fun rq Xq Yq Rq H locs hrq hq hH hS => ?_)
        obtain ⟨h91, h92⟩ := hq
        have h93 : Xq = X6 := congrArg (fun z => z.1) h92
        have h94 : Yq = Y7 := congrArg (fun z => z.2.1) h92
        have h95 : Rq = R := congrArg (fun z => z.2.2) h92
        rw [h93, h94, h95] at hH
        subst h91
        have hr11 := hrq
        have hF := hF hr11
        refine zd_mmax C hl.1 q_902 q_805 q_141 q_806 (Nat.le_of_ble_eq_true rfl) (Nat.le_of_ble_eq_true rfl) (Nat.zero_le _) (Nat.zero_le _) hu hr11 dX1_late_50 ?_
        refine lv_istore_n (lv' := [(1, .int (zI (max (u) (mBc (zAnd (X6 (i + 10) (v)) (zXor (X6 (i + 10) (r8)) ((-1)))))))), (4, .int (zI (r8))), (2, .int (zI (v))), (3, .int (zI (k))), (0, .ref (bs + (i)))]) C.1 C.2.1 dX1_late_53 rfl hl (by decide) rfl (fun ls hl => ?_)
        refine lv_iload C.1 C.2.1 dX1_late_54 (lv_at hl 1 rfl) ?_
        refine lv_istore_n (lv' := [(2, .int (zI (r8))), (1, .int (zI (max (u) (mBc (zAnd (X6 (i + 10) (v)) (zXor (X6 (i + 10) (r8)) ((-1)))))))), (4, .int (zI (r8))), (3, .int (zI (k))), (0, .ref (bs + (i)))]) C.1 C.2.1 dX1_late_56 rfl hl (by decide) rfl (fun ls hl => ?_)
        refine zd_iinc (k := 3) (lv' := [(3, .int (zI (k + 1))), (2, .int (zI (r8))), (1, .int (zI (max (u) (mBc (zAnd (X6 (i + 10) (v)) (zXor (X6 (i + 10) (r8)) ((-1)))))))), (4, .int (zI (r8))), (0, .ref (bs + (i)))]) C hl rfl dX1_late_57 (by decide) rfl (fun ls hl => ?_)
        refine lv_goto (tgt := 6) C.1 C.2.1 dX1_late_60 (by decide) ?_
        obtain ⟨o12, hF⟩ := hF
        exact ih1 (max (u) (mBc (zAnd (X6 (i + 10) (v)) (zXor (X6 (i + 10) (r8)) ((-1)))))) (r8) (k + 1) X6 Y7 (mx_rI hu hr11) hr8 o12 hF.1 (Nat.lt_of_lt_of_le hF.2 (Nat.le_of_lt_succ hmu1)) _ _ _ hH hS (lv_sub hl [2, 1, 0, 4] rfl)
  exact L1 (((20 - ((1 : Int))).toNat) + 1) ((0 : Int)) ((0 : Int)) ((1 : Int)) X Y (by decide) (by decide) (by decide) hI1 (Nat.lt_succ_self _) _ _ _ hH hS (lv_sub hl [2, 1, 0, 3] rfl)
theorem v_X1_late {X Y : Nat → Int → Int} {R : Nat → Int → Option Nat} {i : Nat} {Z : Nat → Int → Int} {q : Nat}  (hp : cA Z q X Y R i ∧ X (cn R i) 3 = Z q 28) : F_X1_late i Z q X Y R  := by
  unfold F_X1_late
  intro hX hY
  obtain ⟨hq, h28⟩ := hp
  obtain ⟨l27, r27, e27⟩ := cA_l hq
  have hn := vZ_n hq.1.1.1
  have hS9 : ∀ j, 1 ≤ j → j < xN (rCx Z q) → xS (rCx Z q) j = true → xS (rCx Z q) (xP (rCx Z q) j) = true := fun j h1 h2 h3 => sdf_p (vZ_P hq.1.1.1 h1 (by have h2 : j < (Z q 27).toNat := h2; omega)) h3
  have hP9 : ∀ j, 1 ≤ j → j < xN (rCx Z q) → xP (rCx Z q) j < j := fun j h1 h2 => vZ_P hq.1.1.1 h1 (by have h2 : j < (Z q 27).toNat := h2; omega)
  have LT9 : ∀ k : Nat, 1 ≤ k → k ≤ (Z q 27).toNat → ltI (rCx Z q) (Z q 28) k (csLt (rCx Z q) (csI (Z q 28)) k) := fun k => by
    induction k with
    | zero => exact fun h => absurd h (by decide)
    | succ k ih =>
      intro _ h2
      by_cases g : k = 0
      · subst g
        exact ltI_1 hn.2.1 hn.2.2 sdf_0
      · have i := ih (by omega) (by omega)
        have s := ltI_s (x := rCx Z q) hn.2.2 hP9 hS9 sdf_0 (show 1 ≤ k by omega) (show k < (Z q 27).toNat by omega) i
        show ltI _ _ _ (if k = 0 then csLt (rCx Z q) (csI (Z q 28)) k else csL1 (rCx Z q) (csLt (rCx Z q) (csI (Z q 28)) k) k)
        rw [if_neg g]
        exact s.1
  refine ⟨?_, ?_⟩
  · exact ⟨by omega, rfl, rfl, fvK.rf⟩
  intro u v k X2 Y3
  intro _
  intro _
  intro _
  intro rX2
  intro rY3
  intro h1
  obtain ⟨⟨k1, k2⟩, hu9, hv9, fk⟩ := h1
  obtain ⟨kn, rfl⟩ := nat_of (show 0 ≤ k by omega)
  have e0 : ((kn : Nat) : Int).toNat = kn := by omega
  rw [e0] at hu9 hv9
  have f2 : X2 i = X i := fk.1 i (by omega)
  have hA2 := cA_k fk hq
  have I := LT9 kn (by omega) (by omega)
  refine ⟨?_, ?_⟩
  · intro c1
    rw [f2] at c1
    exact ⟨by rw [show Z q 27 = kn by omega, e0]; exact hu9, fk⟩
  intro c2
  rw [f2] at c2
  have kl : (kn : Int) < Z q 27 := by omega
  have es : ((kn : Int) + 1).toNat = kn + 1 := by omega
  have tb : tipK (rCx Z q) (Z q 28) kn < (Z q 27).toNat := sTip_b (n := (Z q 27).toNat) (by omega)
  have hv5 : v = (tipK (rCx Z q) (Z q 28) kn : Nat) := hv9.trans I.2.2.2
  have mb : ∀ e : Nat, (e : Int) < Z q 27 → mHas (zAnd (X2 i 3) (zShl 2 kn - 1)) e = (decide (e < kn + 1) && sdf Z q e) := fun e he => by
    rw [mHas_zb _ (by omega), zb_and, msk_b kn (by omega) e (by omega), f2, ← mHas_zb _ (by omega), cA_s hq he, Bool.and_comm]
    rw [show decide (e ≤ kn) = decide (e < kn + 1) from decide_eq_decide.mpr ⟨fun _ => by omega, fun _ => by omega⟩]
  refine ⟨?_, ?_⟩
  · refine ⟨hA2, by have := mb 0 (by omega); rw [show ((0 : Nat) : Int) = 0 from rfl] at this; rw [this, decide_eq_true (show 0 < kn + 1 by omega), sdf_0]; rfl, fun e h1 h2 h3 => ?_⟩
    have hpe := vZ_P hq.1.1.1 h1 h2
    rw [mb e h2, Bool.and_eq_true, decide_eq_true_eq] at h3
    rw [mb _ (by omega), decide_eq_true (show rP Z q e < kn + 1 by omega), sdf_p hpe h3.2]
    rfl
  intro r8
  intro _
  intro X6
  intro rX6
  intro Y7
  intro rY7
  intro h2
  obtain ⟨hr, f6⟩ := h2
  have h3 : X2 (cn R i) 3 = Z q 28 := by rw [fk.1 _ (by have := hq.2.2.1.2; omega)]; exact h28
  have hr8 : r8 = (tipK (rCx Z q) (Z q 28) (kn + 1) : Nat) := by
    rw [hr, h3]
    congr 1
    have b0 := mb 0 (by omega)
    refine sTip_cong (by omega) (by first | (show mHas _ ((0 : Nat) : Int) = true; rw [b0, decide_eq_true (show 0 < kn + 1 by omega), sdf_0]; rfl) | (show (decide (0 < kn + 1) && sdf Z q 0) = true; rw [decide_eq_true (show 0 < kn + 1 by omega), sdf_0]; rfl)) (fun _ _ => rfl) (fun _ _ => rfl) (fun e he => mb e (by omega)) (fun _ _ _ _ _ _ => rfl)
  have tb2 : tipK (rCx Z q) (Z q 28) (kn + 1) < (Z q 27).toNat := sTip_b (n := (Z q 27).toNat) (by omega)
  refine ⟨?_, ?_⟩
  · rw [hv5]
    omega
  refine ⟨?_, ?_⟩
  · rw [hr8]
    omega
  intro _
  refine ⟨?_, ?_⟩
  · first | omega | exact ⟨by omega, by omega⟩ | decide | assumption | exact ⟨by omega, by omega, by omega⟩ | exact ⟨by decide, by decide⟩
  refine ⟨?_, ?_⟩
  · have s := ltI_s (x := rCx Z q) hn.2.2 hP9 hS9 sdf_0 (show 1 ≤ kn by omega) (show kn < (Z q 27).toNat by omega) I
    have eS : csLt (rCx Z q) (csI (Z q 28)) (kn + 1) = csL1 (rCx Z q) (csLt (rCx Z q) (csI (Z q 28)) kn) kn := by
      show (if kn = 0 then _ else _) = _
      rw [if_neg (show ¬ kn = 0 by omega)]
    refine ⟨by omega, ?_, ?_, fk.tr f6⟩
    · rw [es, eS, s.2, hv5, hr8, hu9, f6.1 (i + 10) (by omega), cA_w hA2 (by omega), cA_w hA2 (by omega), mBc_ones (and_sm wy_sm).1 (and_sm wy_sm).2]
      rfl
    · rw [es, eS, hr8]
      exact s.1.2.2.2.symm
  first | omega | exact ⟨by omega, by omega⟩ | decide | assumption | exact ⟨by omega, by omega, by omega⟩ | exact ⟨by decide, by decide⟩
theorem c_X1_late {l : Launch} {D : va_G} {cy : Nat → ClassId} {bs N : Nat} {sa : Nat → Nat} {kd len : Nat → Nat} {X Y : Nat → Int → Int} {R : Nat → Int → Option Nat} {i : Nat} {Z : Nat → Int → Int} {q : Nat} (hC : zChart N kd len R i)  (hp : cA Z q X Y R i ∧ X (cn R i) 3 = Z q 28) : Met l yX1_late (.code yX1_late cX1_late 5 (some .int) :: zTB) (zRm 3 69) (zPc D cy bs sa N kd len X Y R [.ref (bs + (i))]) (zQi D cy bs N kd len (fun r st => st.2.2 = R ∧ (r = (csLt (rCx Z q) (csI (Z q 28)) (Z q 27).toNat).1 9 ∧ fvK X (st.1) Y (st.2.1) i))) 0 0 (zA bs) := w_X1_late hC  (v_X1_late  hp)
abbrev cX10_leaves : ByteArray := prog_1_method_30_code
def yX10_leaves : MethodName := ⟨RX10, "leaves", "(III)I"⟩
theorem dX10_leaves_0 : decode cX10_leaves 0 = .ok (.aload_n 0, 1) := by decide +kernel
theorem dX10_leaves_1 : decode cX10_leaves 1 = .ok (.iload_n 1, 1) := by decide +kernel
theorem dX10_leaves_2 : decode cX10_leaves 2 = .ok (.iload_n 2, 1) := by decide +kernel
theorem dX10_leaves_3 : decode cX10_leaves 3 = .ok (.invokevirtual 202, 3) := by decide +kernel
theorem dX10_leaves_6 : decode cX10_leaves 6 = .ok (.ifCond .ne 6, 3) := by decide +kernel
theorem dX10_leaves_9 : decode cX10_leaves 9 = .ok (.bipush (-2), 2) := by decide +kernel
theorem dX10_leaves_11 : decode cX10_leaves 11 = .ok (.ireturn, 1) := by decide +kernel
theorem dX10_leaves_12 : decode cX10_leaves 12 = .ok (.iload_n 3, 1) := by decide +kernel
theorem dX10_leaves_13 : decode cX10_leaves 13 = .ok (.tableswitch 182 0 9 #[55, 63, 71, 79, 87, 105, 150, 158, 166, 174], 55) := by decide +kernel
theorem dX10_leaves_68 : decode cX10_leaves 68 = .ok (.aload_n 0, 1) := by decide +kernel
theorem dX10_leaves_69 : decode cX10_leaves 69 = .ok (.getfield 34, 3) := by decide +kernel
theorem dX10_leaves_72 : decode cX10_leaves 72 = .ok (.invokevirtual 344, 3) := by decide +kernel
theorem dX10_leaves_75 : decode cX10_leaves 75 = .ok (.ireturn, 1) := by decide +kernel
theorem dX10_leaves_76 : decode cX10_leaves 76 = .ok (.aload_n 0, 1) := by decide +kernel
theorem dX10_leaves_77 : decode cX10_leaves 77 = .ok (.getfield 34, 3) := by decide +kernel
theorem dX10_leaves_80 : decode cX10_leaves 80 = .ok (.invokevirtual 347, 3) := by decide +kernel
theorem dX10_leaves_83 : decode cX10_leaves 83 = .ok (.ireturn, 1) := by decide +kernel
theorem dX10_leaves_84 : decode cX10_leaves 84 = .ok (.aload_n 0, 1) := by decide +kernel
theorem dX10_leaves_85 : decode cX10_leaves 85 = .ok (.getfield 34, 3) := by decide +kernel
theorem dX10_leaves_88 : decode cX10_leaves 88 = .ok (.invokevirtual 350, 3) := by decide +kernel
theorem dX10_leaves_91 : decode cX10_leaves 91 = .ok (.ireturn, 1) := by decide +kernel
theorem dX10_leaves_92 : decode cX10_leaves 92 = .ok (.aload_n 0, 1) := by decide +kernel
theorem dX10_leaves_93 : decode cX10_leaves 93 = .ok (.getfield 34, 3) := by decide +kernel
theorem dX10_leaves_96 : decode cX10_leaves 96 = .ok (.invokevirtual 353, 3) := by decide +kernel
theorem dX10_leaves_99 : decode cX10_leaves 99 = .ok (.ireturn, 1) := by decide +kernel
theorem dX10_leaves_100 : decode cX10_leaves 100 = .ok (.aload_n 0, 1) := by decide +kernel
theorem dX10_leaves_101 : decode cX10_leaves 101 = .ok (.getfield 34, 3) := by decide +kernel
theorem dX10_leaves_104 : decode cX10_leaves 104 = .ok (.invokevirtual 356, 3) := by decide +kernel
theorem dX10_leaves_107 : decode cX10_leaves 107 = .ok (.aload_n 0, 1) := by decide +kernel
theorem dX10_leaves_108 : decode cX10_leaves 108 = .ok (.getfield 34, 3) := by decide +kernel
theorem dX10_leaves_111 : decode cX10_leaves 111 = .ok (.getfield 302, 3) := by decide +kernel
theorem dX10_leaves_114 : decode cX10_leaves 114 = .ok (.iconst (-1), 1) := by decide +kernel
theorem dX10_leaves_115 : decode cX10_leaves 115 = .ok (.ixor, 1) := by decide +kernel
theorem dX10_leaves_116 : decode cX10_leaves 116 = .ok (.iand, 1) := by decide +kernel
theorem dX10_leaves_117 : decode cX10_leaves 117 = .ok (.ireturn, 1) := by decide +kernel
theorem dX10_leaves_118 : decode cX10_leaves 118 = .ok (.aload_n 0, 1) := by decide +kernel
theorem dX10_leaves_119 : decode cX10_leaves 119 = .ok (.getfield 34, 3) := by decide +kernel
theorem dX10_leaves_122 : decode cX10_leaves 122 = .ok (.aload_n 0, 1) := by decide +kernel
theorem dX10_leaves_123 : decode cX10_leaves 123 = .ok (.getfield 34, 3) := by decide +kernel
theorem dX10_leaves_126 : decode cX10_leaves 126 = .ok (.getfield 302, 3) := by decide +kernel
theorem dX10_leaves_129 : decode cX10_leaves 129 = .ok (.iconst 0, 1) := by decide +kernel
theorem dX10_leaves_130 : decode cX10_leaves 130 = .ok (.getstatic 359, 3) := by decide +kernel
theorem dX10_leaves_133 : decode cX10_leaves 133 = .ok (.invokevirtual 362, 3) := by decide +kernel
theorem dX10_leaves_136 : decode cX10_leaves 136 = .ok (.aload_n 0, 1) := by decide +kernel
theorem dX10_leaves_137 : decode cX10_leaves 137 = .ok (.getfield 34, 3) := by decide +kernel
theorem dX10_leaves_140 : decode cX10_leaves 140 = .ok (.aload_n 0, 1) := by decide +kernel
theorem dX10_leaves_141 : decode cX10_leaves 141 = .ok (.getfield 34, 3) := by decide +kernel
theorem dX10_leaves_144 : decode cX10_leaves 144 = .ok (.getfield 302, 3) := by decide +kernel
theorem dX10_leaves_147 : decode cX10_leaves 147 = .ok (.iconst 1, 1) := by decide +kernel
theorem dX10_leaves_148 : decode cX10_leaves 148 = .ok (.getstatic 359, 3) := by decide +kernel
theorem dX10_leaves_151 : decode cX10_leaves 151 = .ok (.invokevirtual 362, 3) := by decide +kernel
theorem dX10_leaves_154 : decode cX10_leaves 154 = .ok (.if_icmp .ne 7, 3) := by decide +kernel
theorem dX10_leaves_157 : decode cX10_leaves 157 = .ok (.iconst 0, 1) := by decide +kernel
theorem dX10_leaves_158 : decode cX10_leaves 158 = .ok (.goto 4, 3) := by decide +kernel
theorem dX10_leaves_161 : decode cX10_leaves 161 = .ok (.iconst 1, 1) := by decide +kernel
theorem dX10_leaves_162 : decode cX10_leaves 162 = .ok (.ireturn, 1) := by decide +kernel
theorem dX10_leaves_163 : decode cX10_leaves 163 = .ok (.aload_n 0, 1) := by decide +kernel
theorem dX10_leaves_164 : decode cX10_leaves 164 = .ok (.getfield 34, 3) := by decide +kernel
theorem dX10_leaves_167 : decode cX10_leaves 167 = .ok (.invokevirtual 366, 3) := by decide +kernel
theorem dX10_leaves_170 : decode cX10_leaves 170 = .ok (.ireturn, 1) := by decide +kernel
theorem dX10_leaves_171 : decode cX10_leaves 171 = .ok (.aload_n 0, 1) := by decide +kernel
theorem dX10_leaves_172 : decode cX10_leaves 172 = .ok (.getfield 34, 3) := by decide +kernel
theorem dX10_leaves_175 : decode cX10_leaves 175 = .ok (.invokevirtual 369, 3) := by decide +kernel
theorem dX10_leaves_178 : decode cX10_leaves 178 = .ok (.ireturn, 1) := by decide +kernel
theorem dX10_leaves_179 : decode cX10_leaves 179 = .ok (.aload_n 0, 1) := by decide +kernel
theorem dX10_leaves_180 : decode cX10_leaves 180 = .ok (.getfield 34, 3) := by decide +kernel
theorem dX10_leaves_183 : decode cX10_leaves 183 = .ok (.invokevirtual 372, 3) := by decide +kernel
theorem dX10_leaves_186 : decode cX10_leaves 186 = .ok (.ireturn, 1) := by decide +kernel
theorem dX10_leaves_187 : decode cX10_leaves 187 = .ok (.aload_n 0, 1) := by decide +kernel
theorem dX10_leaves_188 : decode cX10_leaves 188 = .ok (.getfield 34, 3) := by decide +kernel
theorem dX10_leaves_191 : decode cX10_leaves 191 = .ok (.invokevirtual 375, 3) := by decide +kernel
theorem dX10_leaves_194 : decode cX10_leaves 194 = .ok (.ireturn, 1) := by decide +kernel
theorem dX10_leaves_195 : decode cX10_leaves 195 = .ok (.bipush (-2), 2) := by decide +kernel
theorem dX10_leaves_197 : decode cX10_leaves 197 = .ok (.ireturn, 1) := by decide +kernel
theorem q_1109 : Cond.methodLink RX10 344 yX1_leafBits ∈ zTB := zmem 1109 (by decide +kernel) rfl
theorem k_RX10_344 : zLv RX10 344 RX1 yX1_leafBits cX1_leafBits 3 (some .int) 0 := ⟨⟨q_1109, q_1110, q_1111, q_135, q_1112⟩, rfl, ⟨by decide, by decide⟩, by decide +kernel⟩
theorem q_1117 : Cond.methodLink RX10 347 yX1_forks ∈ zTB := zmem 1117 (by decide +kernel) rfl
theorem q_1118 : Cond.instanceMethod yX1_forks ∈ zTB := zmem 1118 (by decide +kernel) rfl
theorem q_1119 : Cond.selects RX1 yX1_forks yX1_forks ∈ zTB := zmem 1119 (by decide +kernel) rfl
theorem q_1120 : Cond.code yX1_forks cX1_forks 3 (some .int) ∈ zTB := zmem 1120 (by decide +kernel) rfl
theorem k_RX10_347 : zLv RX10 347 RX1 yX1_forks cX1_forks 3 (some .int) 0 := ⟨⟨q_1117, q_1118, q_1119, q_135, q_1120⟩, rfl, ⟨by decide, by decide⟩, by decide +kernel⟩
theorem q_1122 : Cond.methodLink RX10 350 yX1_deepest ∈ zTB := zmem 1122 (by decide +kernel) rfl
theorem q_1123 : Cond.instanceMethod yX1_deepest ∈ zTB := zmem 1123 (by decide +kernel) rfl
theorem q_1124 : Cond.selects RX1 yX1_deepest yX1_deepest ∈ zTB := zmem 1124 (by decide +kernel) rfl
theorem q_1125 : Cond.code yX1_deepest cX1_deepest 3 (some .int) ∈ zTB := zmem 1125 (by decide +kernel) rfl
theorem k_RX10_350 : zLv RX10 350 RX1 yX1_deepest cX1_deepest 3 (some .int) 0 := ⟨⟨q_1122, q_1123, q_1124, q_135, q_1125⟩, rfl, ⟨by decide, by decide⟩, by decide +kernel⟩
theorem q_1126 : Cond.methodLink RX10 353 yX1_hardest ∈ zTB := zmem 1126 (by decide +kernel) rfl
theorem q_1127 : Cond.instanceMethod yX1_hardest ∈ zTB := zmem 1127 (by decide +kernel) rfl
theorem q_1128 : Cond.selects RX1 yX1_hardest yX1_hardest ∈ zTB := zmem 1128 (by decide +kernel) rfl
theorem q_1129 : Cond.code yX1_hardest cX1_hardest 3 (some .int) ∈ zTB := zmem 1129 (by decide +kernel) rfl
theorem k_RX10_353 : zLv RX10 353 RX1 yX1_hardest cX1_hardest 3 (some .int) 0 := ⟨⟨q_1126, q_1127, q_1128, q_135, q_1129⟩, rfl, ⟨by decide, by decide⟩, by decide +kernel⟩
theorem q_1130 : Cond.methodLink RX10 356 yX1_all ∈ zTB := zmem 1130 (by decide +kernel) rfl
theorem q_1131 : Cond.instanceMethod yX1_all ∈ zTB := zmem 1131 (by decide +kernel) rfl
theorem q_1132 : Cond.selects RX1 yX1_all yX1_all ∈ zTB := zmem 1132 (by decide +kernel) rfl
theorem q_1133 : Cond.code yX1_all cX1_all 1 (some .int) ∈ zTB := zmem 1133 (by decide +kernel) rfl
theorem k_RX10_356 : zLv RX10 356 RX1 yX1_all cX1_all 1 (some .int) 0 := ⟨⟨q_1130, q_1131, q_1132, q_135, q_1133⟩, rfl, ⟨by decide, by decide⟩, by decide +kernel⟩
theorem q_1134 : Cond.fieldLink RX10 359 RX10 "BY_NUMBER" "[I" ∈ zTB := zmem 1134 (by decide +kernel) rfl
theorem q_1135 : Cond.methodLink RX10 362 yX1_choose ∈ zTB := zmem 1135 (by decide +kernel) rfl
theorem k_RX10_362 : zLv RX10 362 RX1 yX1_choose cX1_choose 4 (some .int) 3 := ⟨⟨q_1135, q_981, q_982, q_135, q_983⟩, rfl, ⟨by decide, by decide⟩, by decide +kernel⟩
theorem q_1136 : Cond.methodLink RX10 366 yX1_late ∈ zTB := zmem 1136 (by decide +kernel) rfl
theorem q_1137 : Cond.instanceMethod yX1_late ∈ zTB := zmem 1137 (by decide +kernel) rfl
theorem q_1138 : Cond.selects RX1 yX1_late yX1_late ∈ zTB := zmem 1138 (by decide +kernel) rfl
theorem q_1139 : Cond.code yX1_late cX1_late 5 (some .int) ∈ zTB := zmem 1139 (by decide +kernel) rfl
theorem k_RX10_366 : zLv RX10 366 RX1 yX1_late cX1_late 5 (some .int) 0 := ⟨⟨q_1136, q_1137, q_1138, q_135, q_1139⟩, rfl, ⟨by decide, by decide⟩, by decide +kernel⟩
theorem q_1141 : Cond.methodLink RX10 369 yX1_even ∈ zTB := zmem 1141 (by decide +kernel) rfl
theorem q_1142 : Cond.instanceMethod yX1_even ∈ zTB := zmem 1142 (by decide +kernel) rfl
theorem q_1143 : Cond.selects RX1 yX1_even yX1_even ∈ zTB := zmem 1143 (by decide +kernel) rfl
theorem q_1144 : Cond.code yX1_even cX1_even 5 (some .int) ∈ zTB := zmem 1144 (by decide +kernel) rfl
theorem k_RX10_369 : zLv RX10 369 RX1 yX1_even cX1_even 5 (some .int) 0 := ⟨⟨q_1141, q_1142, q_1143, q_135, q_1144⟩, rfl, ⟨by decide, by decide⟩, by decide +kernel⟩
theorem q_1146 : Cond.methodLink RX10 372 yX1_turns ∈ zTB := zmem 1146 (by decide +kernel) rfl
theorem q_1147 : Cond.instanceMethod yX1_turns ∈ zTB := zmem 1147 (by decide +kernel) rfl
theorem q_1148 : Cond.selects RX1 yX1_turns yX1_turns ∈ zTB := zmem 1148 (by decide +kernel) rfl
theorem q_1149 : Cond.code yX1_turns cX1_turns 3 (some .int) ∈ zTB := zmem 1149 (by decide +kernel) rfl
theorem k_RX10_372 : zLv RX10 372 RX1 yX1_turns cX1_turns 3 (some .int) 0 := ⟨⟨q_1146, q_1147, q_1148, q_135, q_1149⟩, rfl, ⟨by decide, by decide⟩, by decide +kernel⟩
theorem q_1150 : Cond.methodLink RX10 375 yX1_steepest ∈ zTB := zmem 1150 (by decide +kernel) rfl
theorem q_1151 : Cond.instanceMethod yX1_steepest ∈ zTB := zmem 1151 (by decide +kernel) rfl
theorem q_1152 : Cond.selects RX1 yX1_steepest yX1_steepest ∈ zTB := zmem 1152 (by decide +kernel) rfl
theorem q_1153 : Cond.code yX1_steepest cX1_steepest 7 (some .int) ∈ zTB := zmem 1153 (by decide +kernel) rfl
theorem k_RX10_375 : zLv RX10 375 RX1 yX1_steepest cX1_steepest 7 (some .int) 0 := ⟨⟨q_1150, q_1151, q_1152, q_135, q_1153⟩, rfl, ⟨by decide, by decide⟩, by decide +kernel⟩
def F_X10_leaves (i : Nat) (Z : Nat → Int → Int) (q : Nat) (X Y : Nat → Int → Int) (R : Nat → Int → Option Nat) (a : Int) (b : Int) (g : Int) : Prop := (∀ i j, rI (X i j)) → (∀ i j, rL (Y i j)) → (wcQ Z q X i) ∧ (∀ r5 : Bool, ∀ X2 : Nat → Int → Int, (∀ i j, rI (X2 i j)) → ∀ Y3 : Nat → Int → Int, (∀ i j, rL (Y3 i j)) → ∀ R4 : Nat → Int → Option Nat, (((R4) = wgR Z q R i (a) (b)) ∧ r5 = rOk Z q (a) (b) ∧ (r5 = false → (X2) = X ∧ (Y3) = Y) ∧ (r5 = true → qK X (X2) i ∧ cA (hZ Z q (a) (b) 0) q (X2) (Y3) (R4) (i + 157) ∧ (X2) (cn (R4) (i + 157)) 3 = hZ Z q (a) (b) 0 q 28 ∧ (X2) (cn (R4) (i + 157)) 4 = hZ Z q (a) (b) 0 q 29)) → (((r5 = true) → ((g = 0 → ((cA (hZ Z q a b 0) q X2 Y3 R4 (i + 157)) ∧ (rI (bS (fLv (rP (hZ Z q a b 0) q) (sdf (hZ Z q a b 0) q) ((hZ Z q a b 0) q 27).toNat) ((hZ Z q a b 0) q 27).toNat) → (((R4) = wgR Z q R i (a) (b)) ∧ (bS (fLv (rP (hZ Z q a b 0) q) (sdf (hZ Z q a b 0) q) ((hZ Z q a b 0) q 27).toNat) ((hZ Z q a b 0) q 27).toNat) = rLeaves Z q (a) (b) (g) ∧ qK X (X2) i)))) ∧ (g = 1 → ((cA (hZ Z q a b 0) q X2 Y3 R4 (i + 157)) ∧ (rI (cN (fFk (rP (hZ Z q a b 0) q) (sdf (hZ Z q a b 0) q) ((hZ Z q a b 0) q 27).toNat) ((hZ Z q a b 0) q 27).toNat) → (((R4) = wgR Z q R i (a) (b)) ∧ (cN (fFk (rP (hZ Z q a b 0) q) (sdf (hZ Z q a b 0) q) ((hZ Z q a b 0) q 27).toNat) ((hZ Z q a b 0) q 27).toNat) = rLeaves Z q (a) (b) (g) ∧ qK X (X2) i)))) ∧ (g = 2 → ((cA (hZ Z q a b 0) q X2 Y3 R4 (i + 157)) ∧ (rI (((grN (sdf (hZ Z q a b 0) q) (grV (hZ Z q a b 0) q false) ((hZ Z q a b 0) q 27).toNat : Nat) : Int)) → (((R4) = wgR Z q R i (a) (b)) ∧ ((grN (sdf (hZ Z q a b 0) q) (grV (hZ Z q a b 0) q false) ((hZ Z q a b 0) q 27).toNat : Nat) : Int) = rLeaves Z q (a) (b) (g) ∧ qK X (X2) i)))) ∧ (g = 3 → ((cA (hZ Z q a b 0) q X2 Y3 R4 (i + 157)) ∧ (rI (((grN (sdf (hZ Z q a b 0) q) (grV (hZ Z q a b 0) q true) ((hZ Z q a b 0) q 27).toNat : Nat) : Int)) → (((R4) = wgR Z q R i (a) (b)) ∧ ((grN (sdf (hZ Z q a b 0) q) (grV (hZ Z q a b 0) q true) ((hZ Z q a b 0) q 27).toNat : Nat) : Int) = rLeaves Z q (a) (b) (g) ∧ qK X (X2) i)))) ∧ (g = 4 → ((cA (hZ Z q a b 0) q X2 Y3 R4 (i + 157)) ∧ (rI (zShl 1 ((hZ Z q a b 0) q 27) - 1) → (((R4) = wgR Z q R i (a) (b)) ∧ (zAnd (zShl 1 ((hZ Z q a b 0) q 27) - 1) (zXor (X2 (i + 157) 3) ((-1)))) = rLeaves Z q (a) (b) (g) ∧ qK X (X2) i)))) ∧ (g = 5 → ((cA (hZ Z q a b 0) q X2 Y3 R4 (i + 157) ∧ clF (hZ Z q a b 0) q ((X2 (i + 157) 3))) ∧ (∀ r21 : Int, rI r21 → ∀ X19 : Nat → Int → Int, (∀ i j, rI (X19 i j)) → ∀ Y20 : Nat → Int → Int, (∀ i j, rL (Y20 i j)) → (r21 = ((sTip ((0 : Int)) (rP (hZ Z q a b 0) q) (rW (hZ Z q a b 0) q) (rG (hZ Z q a b 0) q) (fun e => mHas ((X2 (i + 157) 3)) e) (fun x y : Nat => decide (x < y)) ((hZ Z q a b 0) q 27).toNat : Nat) : Int) ∧ fvK X2 (X19) Y3 (Y20) (i + 157)) → ((cA (hZ Z q a b 0) q X19 Y20 R4 (i + 157) ∧ clF (hZ Z q a b 0) q ((X19 (i + 157) 3))) ∧ (∀ r25 : Int, rI r25 → ∀ X23 : Nat → Int → Int, (∀ i j, rI (X23 i j)) → ∀ Y24 : Nat → Int → Int, (∀ i j, rL (Y24 i j)) → (r25 = ((sTip ((1 : Int)) (rP (hZ Z q a b 0) q) (rW (hZ Z q a b 0) q) (rG (hZ Z q a b 0) q) (fun e => mHas ((X19 (i + 157) 3)) e) (fun x y : Nat => decide (x < y)) ((hZ Z q a b 0) q 27).toNat : Nat) : Int) ∧ fvK X19 (X23) Y20 (Y24) (i + 157)) → (((¬ r21 = r25) → (((R4) = wgR Z q R i (a) (b)) ∧ 1 = rLeaves Z q (a) (b) (g) ∧ qK X (X23) i)) ∧ ((¬ (¬ r21 = r25)) → (((R4) = wgR Z q R i (a) (b)) ∧ 0 = rLeaves Z q (a) (b) (g) ∧ qK X (X23) i)))))))) ∧ (g = 6 → ((cA (hZ Z q a b 0) q X2 Y3 R4 (i + 157) ∧ X2 (cn R4 (i + 157)) 3 = (hZ Z q a b 0) q 28) ∧ (∀ r30 : Int, rI r30 → ∀ X28 : Nat → Int → Int, (∀ i j, rI (X28 i j)) → ∀ Y29 : Nat → Int → Int, (∀ i j, rL (Y29 i j)) → (r30 = (csLt (rCx (hZ Z q a b 0) q) (csI ((hZ Z q a b 0) q 28)) ((hZ Z q a b 0) q 27).toNat).1 9 ∧ fvK X2 (X28) Y3 (Y29) (i + 157)) → (((R4) = wgR Z q R i (a) (b)) ∧ r30 = rLeaves Z q (a) (b) (g) ∧ qK X (X28) i)))) ∧ (g = 7 → ((cA (hZ Z q a b 0) q X2 Y3 R4 (i + 157)) ∧ (rI (evN (fEv (fLv (rP (hZ Z q a b 0) q) (sdf (hZ Z q a b 0) q) ((hZ Z q a b 0) q 27).toNat) (rG (hZ Z q a b 0) q)) ((hZ Z q a b 0) q 27).toNat) → (((R4) = wgR Z q R i (a) (b)) ∧ (evN (fEv (fLv (rP (hZ Z q a b 0) q) (sdf (hZ Z q a b 0) q) ((hZ Z q a b 0) q 27).toNat) (rG (hZ Z q a b 0) q)) ((hZ Z q a b 0) q 27).toNat) = rLeaves Z q (a) (b) (g) ∧ qK X (X2) i)))) ∧ (g = 8 → ((cA (hZ Z q a b 0) q X2 Y3 R4 (i + 157)) ∧ (rI (bS (fTu (rP (hZ Z q a b 0) q) (sdf (hZ Z q a b 0) q) (rW (hZ Z q a b 0) q)) ((hZ Z q a b 0) q 27).toNat) → (((R4) = wgR Z q R i (a) (b)) ∧ (bS (fTu (rP (hZ Z q a b 0) q) (sdf (hZ Z q a b 0) q) (rW (hZ Z q a b 0) q)) ((hZ Z q a b 0) q 27).toNat) = rLeaves Z q (a) (b) (g) ∧ qK X (X2) i)))) ∧ (g = 9 → ((cA (hZ Z q a b 0) q X2 Y3 R4 (i + 157)) ∧ (rI ((stN (sdf (hZ Z q a b 0) q) (rP (hZ Z q a b 0) q) (rW (hZ Z q a b 0) q) ((hZ Z q a b 0) q 27).toNat).1) → (((R4) = wgR Z q R i (a) (b)) ∧ ((stN (sdf (hZ Z q a b 0) q) (rP (hZ Z q a b 0) q) (rW (hZ Z q a b 0) q) ((hZ Z q a b 0) q 27).toNat).1) = rLeaves Z q (a) (b) (g) ∧ qK X (X2) i)))) ∧ ((g < 0 ∨ 9 < g) → (((R4) = wgR Z q R i (a) (b)) ∧ (-2) = rLeaves Z q (a) (b) (g) ∧ qK X (X2) i)))) ∧ ((r5 = false) → (((R4) = wgR Z q R i (a) (b)) ∧ (-2) = rLeaves Z q (a) (b) (g) ∧ qK X (X2) i))))
set_option maxHeartbeats 4000000 in
set_option maxRecDepth 100000 in
theorem w_X10_leaves {l : Launch} {D : va_G} {cy : Nat → ClassId} {bs N : Nat} {sa : Nat → Nat} {kd len : Nat → Nat} {X Y : Nat → Int → Int} {R : Nat → Int → Option Nat} {i : Nat} {Z : Nat → Int → Int} {q : Nat} (hC : zWC N kd len R i) (a : Int) (ha : rI a) (b : Int) (hb : rI b) (g : Int) (hg : rI g) (hF : F_X10_leaves i Z q X Y R a b g) : Met l yX10_leaves (.code yX10_leaves cX10_leaves 4 (some .int) :: zTB) (zRm 5 134) (zPc D cy bs sa N kd len X Y R [.ref (bs + (i)), .int (zI (a)), .int (zI (b)), .int (zI (g))]) (zQi D cy bs N kd len (fun r st => (((st.2.2) = wgR Z q R i (a) (b)) ∧ r = rLeaves Z q (a) (b) (g) ∧ qK X (st.1) i))) 0 0 (zA bs) := by
  refine zstart (by decide) (Nat.le_of_ble_eq_true rfl) ?_
  intro p e s m args below meth c ls C hE hH hr hlk hnm hl hargs
  have hF := hF hH.2.2.1 hH.2.2.2
  have hS : va_S (zA bs) s.heap s.heap [] := va_S.rf
  have hl : lv_has ls 4 [(0, .ref (bs + (i))), (1, .int (zI (a))), (2, .int (zI (b))), (3, .int (zI (g)))] := hl
  refine lv_aload_n C.1 C.2.1 dX10_leaves_0 rfl (lv_at hl 0 rfl) ?_
  refine lv_iload_n C.1 C.2.1 dX10_leaves_1 rfl (lv_at hl 1 rfl) ?_
  refine lv_iload_n C.1 C.2.1 dX10_leaves_2 rfl (lv_at hl 2 rfl) ?_
  obtain ⟨o1, hF⟩ := hF
  refine zgoi (zrunV (As := [.int (zI (a)), .int (zI (b))]) (rest := []) C hE hH hS hl.1 (c_X10_weigh (l := l) hC (a) ha (b) hb o1) k_RX10_202 ⟨Nat.le_of_ble_eq_true rfl, Nat.le_of_ble_eq_true rfl⟩ (zW_n hC) (zW_k hC) rfl rfl rfl (Nat.le_of_ble_eq_true rfl) dX10_leaves_3 ⟨Nat.zero_le _, Nat.zero_le _⟩) hS (fun rq X2 Y3 R4 H locs hrq hq hH hS => ?_)
  obtain ⟨r5, h91, hq⟩ := hq
  subst h91
  have hF := hF r5 X2 hH.2.2.1 Y3 hH.2.2.2 R4 hq
  have hC := zWC_wg hC hq.1
  refine zd_ifB_ne C 12 dX10_leaves_6 (by decide) (fun c6 => ?_) (fun c6 => ?_)
  · have hF := hF.1 c6
    refine lv_iload_n C.1 C.2.1 dX10_leaves_12 rfl (lv_at hl 3 rfl) ?_
    by_cases c7_0 : g = 0
    · have hF := hF.1 c7_0
      refine zd_tabI C hg 68 (0) c7_0 dX10_leaves_13 (by decide) (by decide) rfl (by decide) ?_
      refine lv_aload_n C.1 C.2.1 dX10_leaves_68 rfl (lv_at hl 0 rfl) ?_
      refine zg10_4 C hH (zW_n hC) (zW_k hC) q_573 (zW_lw hC).1 dX10_leaves_69 ?_
      obtain ⟨o8, hF⟩ := hF
      refine zgoi (zrunV (As := []) (rest := []) C hE hH hS hl.1 (c_X1_leafBits (l := l) (zW_lw hC).2.2.2.1.1  o8) k_RX10_344 ⟨Nat.le_of_ble_eq_true rfl, Nat.le_of_ble_eq_true rfl⟩ (zChart_n0 (zW_lw hC).2.2.2.1.1) (zChart_k0 (zW_lw hC).2.2.2.1.1) rfl rfl rfl (Nat.le_of_ble_eq_true rfl) dX10_leaves_72 ⟨Nat.zero_le _, Nat.zero_le _⟩) hS (fun rq Xq Yq Rq H locs hrq hq hH hS => ?_)
      obtain ⟨h91, h92⟩ := hq
      have h93 : Xq = X2 := congrArg (fun z => z.1) h92
      have h94 : Yq = Y3 := congrArg (fun z => z.2.1) h92
      have h95 : Rq = R4 := congrArg (fun z => z.2.2) h92
      rw [h93, h94, h95] at hH
      subst h91
      have hr9 := hrq
      have hF := hF hr9
      exact zd_iret C hr hlk hH hS hr9 (hF) dX10_leaves_75
    · have hF := hF.2
      by_cases c7_1 : g = 1
      · have hF := hF.1 c7_1
        refine zd_tabI C hg 76 (1) c7_1 dX10_leaves_13 (by decide) (by decide) rfl (by decide) ?_
        refine lv_aload_n C.1 C.2.1 dX10_leaves_76 rfl (lv_at hl 0 rfl) ?_
        refine zg10_4 C hH (zW_n hC) (zW_k hC) q_573 (zW_lw hC).1 dX10_leaves_77 ?_
        obtain ⟨o10, hF⟩ := hF
        refine zgoi (zrunV (As := []) (rest := []) C hE hH hS hl.1 (c_X1_forks (l := l) (zW_lw hC).2.2.2.1.1  o10) k_RX10_347 ⟨Nat.le_of_ble_eq_true rfl, Nat.le_of_ble_eq_true rfl⟩ (zChart_n0 (zW_lw hC).2.2.2.1.1) (zChart_k0 (zW_lw hC).2.2.2.1.1) rfl rfl rfl (Nat.le_of_ble_eq_true rfl) dX10_leaves_80 ⟨Nat.zero_le _, Nat.zero_le _⟩) hS (fun rq Xq Yq Rq H locs hrq hq hH hS => ?_)
        obtain ⟨h91, h92⟩ := hq
        have h93 : Xq = X2 := congrArg (fun z => z.1) h92
        have h94 : Yq = Y3 := congrArg (fun z => z.2.1) h92
        have h95 : Rq = R4 := congrArg (fun z => z.2.2) h92
        rw [h93, h94, h95] at hH
        subst h91
        have hr11 := hrq
        have hF := hF hr11
        exact zd_iret C hr hlk hH hS hr11 (hF) dX10_leaves_83
      · have hF := hF.2
        by_cases c7_2 : g = 2
        · have hF := hF.1 c7_2
          refine zd_tabI C hg 84 (2) c7_2 dX10_leaves_13 (by decide) (by decide) rfl (by decide) ?_
          refine lv_aload_n C.1 C.2.1 dX10_leaves_84 rfl (lv_at hl 0 rfl) ?_
          refine zg10_4 C hH (zW_n hC) (zW_k hC) q_573 (zW_lw hC).1 dX10_leaves_85 ?_
          obtain ⟨o12, hF⟩ := hF
          refine zgoi (zrunV (As := []) (rest := []) C hE hH hS hl.1 (c_X1_deepest (l := l) (zW_lw hC).2.2.2.1.1  o12) k_RX10_350 ⟨Nat.le_of_ble_eq_true rfl, Nat.le_of_ble_eq_true rfl⟩ (zChart_n0 (zW_lw hC).2.2.2.1.1) (zChart_k0 (zW_lw hC).2.2.2.1.1) rfl rfl rfl (Nat.le_of_ble_eq_true rfl) dX10_leaves_88 ⟨Nat.zero_le _, Nat.zero_le _⟩) hS (fun rq Xq Yq Rq H locs hrq hq hH hS => ?_)
          obtain ⟨h91, h92⟩ := hq
          have h93 : Xq = X2 := congrArg (fun z => z.1) h92
          have h94 : Yq = Y3 := congrArg (fun z => z.2.1) h92
          have h95 : Rq = R4 := congrArg (fun z => z.2.2) h92
          rw [h93, h94, h95] at hH
          subst h91
          have hr13 := hrq
          have hF := hF hr13
          exact zd_iret C hr hlk hH hS hr13 (hF) dX10_leaves_91
        · have hF := hF.2
          by_cases c7_3 : g = 3
          · have hF := hF.1 c7_3
            refine zd_tabI C hg 92 (3) c7_3 dX10_leaves_13 (by decide) (by decide) rfl (by decide) ?_
            refine lv_aload_n C.1 C.2.1 dX10_leaves_92 rfl (lv_at hl 0 rfl) ?_
            refine zg10_4 C hH (zW_n hC) (zW_k hC) q_573 (zW_lw hC).1 dX10_leaves_93 ?_
            obtain ⟨o14, hF⟩ := hF
            refine zgoi (zrunV (As := []) (rest := []) C hE hH hS hl.1 (c_X1_hardest (l := l) (zW_lw hC).2.2.2.1.1  o14) k_RX10_353 ⟨Nat.le_of_ble_eq_true rfl, Nat.le_of_ble_eq_true rfl⟩ (zChart_n0 (zW_lw hC).2.2.2.1.1) (zChart_k0 (zW_lw hC).2.2.2.1.1) rfl rfl rfl (Nat.le_of_ble_eq_true rfl) dX10_leaves_96 ⟨Nat.zero_le _, Nat.zero_le _⟩) hS (fun rq Xq Yq Rq H locs hrq hq hH hS => ?_)
            obtain ⟨h91, h92⟩ := hq
            have h93 : Xq = X2 := congrArg (fun z => z.1) h92
            have h94 : Yq = Y3 := congrArg (fun z => z.2.1) h92
            have h95 : Rq = R4 := congrArg (fun z => z.2.2) h92
            rw [h93, h94, h95] at hH
            subst h91
            have hr15 := hrq
            have hF := hF hr15
            exact zd_iret C hr hlk hH hS hr15 (hF) dX10_leaves_99
          · have hF := hF.2
            by_cases c7_4 : g = 4
            · have hF := hF.1 c7_4
              refine zd_tabI C hg 100 (4) c7_4 dX10_leaves_13 (by decide) (by decide) rfl (by decide) ?_
              refine lv_aload_n C.1 C.2.1 dX10_leaves_100 rfl (lv_at hl 0 rfl) ?_
              refine zg10_4 C hH (zW_n hC) (zW_k hC) q_573 (zW_lw hC).1 dX10_leaves_101 ?_
              obtain ⟨o16, hF⟩ := hF
              refine zgoi (zrunV (As := []) (rest := []) C hE hH hS hl.1 (c_X1_all (l := l) (zW_lw hC).2.2.2.1.1  o16) k_RX10_356 ⟨Nat.le_of_ble_eq_true rfl, Nat.le_of_ble_eq_true rfl⟩ (zChart_n0 (zW_lw hC).2.2.2.1.1) (zChart_k0 (zW_lw hC).2.2.2.1.1) rfl rfl rfl (Nat.le_of_ble_eq_true rfl) dX10_leaves_104 ⟨Nat.zero_le _, Nat.zero_le _⟩) hS (fun rq Xq Yq Rq H locs hrq hq hH hS => ?_)
              obtain ⟨h91, h92⟩ := hq
              have h93 : Xq = X2 := congrArg (fun z => z.1) h92
              have h94 : Yq = Y3 := congrArg (fun z => z.2.1) h92
              have h95 : Rq = R4 := congrArg (fun z => z.2.2) h92
              rw [h93, h94, h95] at hH
              subst h91
              have hr17 := hrq
              have hF := hF hr17
              refine lv_aload_n C.1 C.2.1 dX10_leaves_107 rfl (lv_at hl 0 rfl) ?_
              refine zg10_4 C hH (zW_n hC) (zW_k hC) q_573 (zW_lw hC).1 dX10_leaves_108 ?_
              refine zg1_3 C hH (zChart_n0 (zW_lw hC).2.2.2.1.1) (zChart_k0 (zW_lw hC).2.2.2.1.1) q_401 dX10_leaves_111 ?_
              refine zd_iconst C dX10_leaves_114 ?_
              refine zd_ixor C dX10_leaves_115 ?_
              refine zd_iand C dX10_leaves_116 ?_
              exact zd_iret C hr hlk hH hS (zI_rg _) (hF) dX10_leaves_117
            · have hF := hF.2
              by_cases c7_5 : g = 5
              · have hF := hF.1 c7_5
                refine zd_tabI C hg 118 (5) c7_5 dX10_leaves_13 (by decide) (by decide) rfl (by decide) ?_
                refine lv_aload_n C.1 C.2.1 dX10_leaves_118 rfl (lv_at hl 0 rfl) ?_
                refine zg10_4 C hH (zW_n hC) (zW_k hC) q_573 (zW_lw hC).1 dX10_leaves_119 ?_
                refine lv_aload_n C.1 C.2.1 dX10_leaves_122 rfl (lv_at hl 0 rfl) ?_
                refine zg10_4 C hH (zW_n hC) (zW_k hC) q_573 (zW_lw hC).1 dX10_leaves_123 ?_
                refine zg1_3 C hH (zChart_n0 (zW_lw hC).2.2.2.1.1) (zChart_k0 (zW_lw hC).2.2.2.1.1) q_401 dX10_leaves_126 ?_
                refine zd_iconst C dX10_leaves_129 ?_
                refine zd_gets C hE hS hE.2.2.1.1 q_1134 dX10_leaves_130 ?_
                obtain ⟨o18, hF⟩ := hF
                refine zgoi (zrunV (As := [.int (zI (X2 (i + 157) 3)), .int (zI (0)), .ref (sa 0)]) (rest := []) C hE hH hS hl.1 (c_X1_chooseS (l := l) (zW_lw hC).2.2.2.1.1 (X2 (i + 157) 3) (hH.2.2.1 _ _) (0) (by decide) o18) k_RX10_362 ⟨Nat.le_of_ble_eq_true rfl, Nat.le_of_ble_eq_true rfl⟩ (zChart_n0 (zW_lw hC).2.2.2.1.1) (zChart_k0 (zW_lw hC).2.2.2.1.1) rfl rfl rfl (Nat.le_of_ble_eq_true rfl) dX10_leaves_133 ⟨Nat.zero_le _, Nat.zero_le _⟩) hS (fun r21 X19 Y20 Rq H locs hrq hq hH hS => ?_)
                obtain ⟨h9R, hq⟩ := hq
                dsimp only at h9R
                rw [h9R] at hH
                have hr21 := hrq
                have hF := hF r21 hrq X19 hH.2.2.1 Y20 hH.2.2.2 hq
                refine lv_aload_n C.1 C.2.1 dX10_leaves_136 rfl (lv_at hl 0 rfl) ?_
                refine zg10_4 C hH (zW_n hC) (zW_k hC) q_573 (zW_lw hC).1 dX10_leaves_137 ?_
                refine lv_aload_n C.1 C.2.1 dX10_leaves_140 rfl (lv_at hl 0 rfl) ?_
                refine zg10_4 C hH (zW_n hC) (zW_k hC) q_573 (zW_lw hC).1 dX10_leaves_141 ?_
                refine zg1_3 C hH (zChart_n0 (zW_lw hC).2.2.2.1.1) (zChart_k0 (zW_lw hC).2.2.2.1.1) q_401 dX10_leaves_144 ?_
                refine zd_iconst C dX10_leaves_147 ?_
                refine zd_gets C hE hS hE.2.2.1.1 q_1134 dX10_leaves_148 ?_
                obtain ⟨o22, hF⟩ := hF
                refine zgoi (zrunV (As := [.int (zI (X19 (i + 157) 3)), .int (zI (1)), .ref (sa 0)]) (rest := [.int (zI (r21))]) C hE hH hS hl.1 (c_X1_chooseS (l := l) (zW_lw hC).2.2.2.1.1 (X19 (i + 157) 3) (hH.2.2.1 _ _) (1) (by decide) o22) k_RX10_362 ⟨Nat.le_of_ble_eq_true rfl, Nat.le_of_ble_eq_true rfl⟩ (zChart_n0 (zW_lw hC).2.2.2.1.1) (zChart_k0 (zW_lw hC).2.2.2.1.1) rfl rfl rfl (Nat.le_of_ble_eq_true rfl) dX10_leaves_151 ⟨Nat.zero_le _, Nat.zero_le _⟩) hS (fun r25 X23 Y24 Rq H locs hrq hq hH hS => ?_)
                obtain ⟨h9R, hq⟩ := hq
                dsimp only at h9R
                rw [h9R] at hH
                have hr25 := hrq
                have hF := hF r25 hrq X23 hH.2.2.1 Y24 hH.2.2.2 hq
                refine zd_icmp_ne C hr21 hr25 161 dX10_leaves_154 (by decide) (fun c26 => ?_) (fun c26 => ?_)
                · have hF := hF.1 c26
                  refine zd_iconst C dX10_leaves_161 ?_
                  exact zd_iret C hr hlk hH hS (by decide) (hF) dX10_leaves_162
                · have hF := hF.2 c26
                  refine zd_iconst C dX10_leaves_157 ?_
                  refine lv_goto (tgt := 162) C.1 C.2.1 dX10_leaves_158 (by decide) ?_
                  exact zd_iret C hr hlk hH hS (by decide) (hF) dX10_leaves_162
              · have hF := hF.2
                by_cases c7_6 : g = 6
                · have hF := hF.1 c7_6
                  refine zd_tabI C hg 163 (6) c7_6 dX10_leaves_13 (by decide) (by decide) rfl (by decide) ?_
                  refine lv_aload_n C.1 C.2.1 dX10_leaves_163 rfl (lv_at hl 0 rfl) ?_
                  refine zg10_4 C hH (zW_n hC) (zW_k hC) q_573 (zW_lw hC).1 dX10_leaves_164 ?_
                  obtain ⟨o27, hF⟩ := hF
                  refine zgoi (zrunV (As := []) (rest := []) C hE hH hS hl.1 (c_X1_late (l := l) (zW_lw hC).2.2.2.1.1  o27) k_RX10_366 ⟨Nat.le_of_ble_eq_true rfl, Nat.le_of_ble_eq_true rfl⟩ (zChart_n0 (zW_lw hC).2.2.2.1.1) (zChart_k0 (zW_lw hC).2.2.2.1.1) rfl rfl rfl (Nat.le_of_ble_eq_true rfl) dX10_leaves_167 ⟨Nat.zero_le _, Nat.zero_le _⟩) hS (fun r30 X28 Y29 Rq H locs hrq hq hH hS => ?_)
                  obtain ⟨h9R, hq⟩ := hq
                  dsimp only at h9R
                  rw [h9R] at hH
                  have hr30 := hrq
                  have hF := hF r30 hrq X28 hH.2.2.1 Y29 hH.2.2.2 hq
                  exact zd_iret C hr hlk hH hS hr30 (hF) dX10_leaves_170
                · have hF := hF.2
                  by_cases c7_7 : g = 7
                  · have hF := hF.1 c7_7
                    refine zd_tabI C hg 171 (7) c7_7 dX10_leaves_13 (by decide) (by decide) rfl (by decide) ?_
                    refine lv_aload_n C.1 C.2.1 dX10_leaves_171 rfl (lv_at hl 0 rfl) ?_
                    refine zg10_4 C hH (zW_n hC) (zW_k hC) q_573 (zW_lw hC).1 dX10_leaves_172 ?_
                    obtain ⟨o31, hF⟩ := hF
                    refine zgoi (zrunV (As := []) (rest := []) C hE hH hS hl.1 (c_X1_even (l := l) (zW_lw hC).2.2.2.1.1  o31) k_RX10_369 ⟨Nat.le_of_ble_eq_true rfl, Nat.le_of_ble_eq_true rfl⟩ (zChart_n0 (zW_lw hC).2.2.2.1.1) (zChart_k0 (zW_lw hC).2.2.2.1.1) rfl rfl rfl (Nat.le_of_ble_eq_true rfl) dX10_leaves_175 ⟨Nat.zero_le _, Nat.zero_le _⟩) hS (fun rq Xq Yq Rq H locs hrq hq hH hS => ?_)
                    obtain ⟨h91, h92⟩ := hq
                    have h93 : Xq = X2 := congrArg (fun z => z.1) h92
                    have h94 : Yq = Y3 := congrArg (fun z => z.2.1) h92
                    have h95 : Rq = R4 := congrArg (fun z => z.2.2) h92
                    rw [h93, h94, h95] at hH
                    subst h91
                    have hr32 := hrq
                    have hF := hF hr32
                    exact zd_iret C hr hlk hH hS hr32 (hF) dX10_leaves_178
                  · have hF := hF.2
                    by_cases c7_8 : g = 8
                    · have hF := hF.1 c7_8
                      refine zd_tabI C hg 179 (8) c7_8 dX10_leaves_13 (by decide) (by decide) rfl (by decide) ?_
                      refine lv_aload_n C.1 C.2.1 dX10_leaves_179 rfl (lv_at hl 0 rfl) ?_
                      refine zg10_4 C hH (zW_n hC) (zW_k hC) q_573 (zW_lw hC).1 dX10_leaves_180 ?_
                      obtain ⟨o33, hF⟩ := hF
                      refine zgoi (zrunV (As := []) (rest := []) C hE hH hS hl.1 (c_X1_turns (l := l) (zW_lw hC).2.2.2.1.1  o33) k_RX10_372 ⟨Nat.le_of_ble_eq_true rfl, Nat.le_of_ble_eq_true rfl⟩ (zChart_n0 (zW_lw hC).2.2.2.1.1) (zChart_k0 (zW_lw hC).2.2.2.1.1) rfl rfl rfl (Nat.le_of_ble_eq_true rfl) dX10_leaves_183 ⟨Nat.zero_le _, Nat.zero_le _⟩) hS (fun rq Xq Yq Rq H locs hrq hq hH hS => ?_)
                      obtain ⟨h91, h92⟩ := hq
                      have h93 : Xq = X2 := congrArg (fun z => z.1) h92
                      have h94 : Yq = Y3 := congrArg (fun z => z.2.1) h92
                      have h95 : Rq = R4 := congrArg (fun z => z.2.2) h92
                      rw [h93, h94, h95] at hH
                      subst h91
                      have hr34 := hrq
                      have hF := hF hr34
                      exact zd_iret C hr hlk hH hS hr34 (hF) dX10_leaves_186
                    · have hF := hF.2
                      by_cases c7_9 : g = 9
                      · have hF := hF.1 c7_9
                        refine zd_tabI C hg 187 (9) c7_9 dX10_leaves_13 (by decide) (by decide) rfl (by decide) ?_
                        refine lv_aload_n C.1 C.2.1 dX10_leaves_187 rfl (lv_at hl 0 rfl) ?_
                        refine zg10_4 C hH (zW_n hC) (zW_k hC) q_573 (zW_lw hC).1 dX10_leaves_188 ?_
                        obtain ⟨o35, hF⟩ := hF
                        refine zgoi (zrunV (As := []) (rest := []) C hE hH hS hl.1 (c_X1_steepest (l := l) (zW_lw hC).2.2.2.1.1  o35) k_RX10_375 ⟨Nat.le_of_ble_eq_true rfl, Nat.le_of_ble_eq_true rfl⟩ (zChart_n0 (zW_lw hC).2.2.2.1.1) (zChart_k0 (zW_lw hC).2.2.2.1.1) rfl rfl rfl (Nat.le_of_ble_eq_true rfl) dX10_leaves_191 ⟨Nat.zero_le _, Nat.zero_le _⟩) hS (fun rq Xq Yq Rq H locs hrq hq hH hS => ?_)
                        obtain ⟨h91, h92⟩ := hq
                        have h93 : Xq = X2 := congrArg (fun z => z.1) h92
                        have h94 : Yq = Y3 := congrArg (fun z => z.2.1) h92
                        have h95 : Rq = R4 := congrArg (fun z => z.2.2) h92
                        rw [h93, h94, h95] at hH
                        subst h91
                        have hr36 := hrq
                        have hF := hF hr36
                        exact zd_iret C hr hlk hH hS hr36 (hF) dX10_leaves_194
                      · have hF := hF.2
                        have c7 := tsw_0_9 (g) c7_0 c7_1 c7_2 c7_3 c7_4 c7_5 c7_6 c7_7 c7_8 c7_9
                        have hF := hF c7
                        refine zd_tabO C hg 195 c7 dX10_leaves_13 (by decide) ?_
                        refine zd_bipush C (by decide) dX10_leaves_195 ?_
                        exact zd_iret C hr hlk hH hS (by decide) (hF) dX10_leaves_197
  · have hF := hF.2 c6
    refine zd_bipush C (by decide) dX10_leaves_9 ?_
    exact zd_iret C hr hlk hH hS (by decide) (hF) dX10_leaves_11
theorem v_X10_leaves {X Y : Nat → Int → Int} {R : Nat → Int → Option Nat} {i : Nat} {Z : Nat → Int → Int} {q : Nat} (a : Int) (ha : rI a) (b : Int) (hb : rI b) (g : Int) (hg : rI g) (hp : wcQ Z q X i) : F_X10_leaves i Z q X Y R a b g := by
  unfold F_X10_leaves
  intro hX hY
  refine ⟨?_, ?_⟩
  · exact hp
  intro r5
  intro X2
  intro rX2
  intro Y3
  intro rY3
  intro R4
  intro h1
  obtain ⟨eR, er, hf, ht⟩ := h1
  refine ⟨?_, ?_⟩
  · intro c1
    obtain ⟨hk, hA, h39, h49⟩ := ht c1
    have e : rOk Z q a b = true := by rw [← er]; exact c1
    have l := cA_l hA
    have b0 := cA_b hA
    have a6 := cA_a hA
    have e27 := hz_27 (Z := Z) (q := q) (n := a) (c := b) (f := 0)
    have e26 := hz_26 (Z := Z) (q := q) (n := a) (c := b) (f := 0)
    refine ⟨?_, ?_⟩
    · intro c2
      refine ⟨?_, ?_⟩
      · exact hA
      intro _
      have E : rLeaves Z q a b g = lvOf (hZ Z q a b 0) q g := by
        unfold rLeaves
        rw [e]
        rfl
      refine ⟨eR, ?_, hk⟩
      rw [E]
      unfold lvOf
      rw [if_pos (show g = 0 by omega)]
    refine ⟨?_, ?_⟩
    · intro c3
      refine ⟨?_, ?_⟩
      · exact hA
      intro _
      have E : rLeaves Z q a b g = lvOf (hZ Z q a b 0) q g := by
        unfold rLeaves
        rw [e]
        rfl
      refine ⟨eR, ?_, hk⟩
      rw [E]
      unfold lvOf
      rw [if_neg (show ¬ g = 0 by omega), if_pos (show g = 1 by omega)]
    refine ⟨?_, ?_⟩
    · intro c4
      refine ⟨?_, ?_⟩
      · exact hA
      intro _
      have E : rLeaves Z q a b g = lvOf (hZ Z q a b 0) q g := by
        unfold rLeaves
        rw [e]
        rfl
      refine ⟨eR, ?_, hk⟩
      rw [E]
      unfold lvOf
      rw [if_neg (show ¬ g = 0 by omega), if_neg (show ¬ g = 1 by omega), if_pos (show g = 2 by omega)]
    refine ⟨?_, ?_⟩
    · intro c5
      refine ⟨?_, ?_⟩
      · exact hA
      intro _
      have E : rLeaves Z q a b g = lvOf (hZ Z q a b 0) q g := by
        unfold rLeaves
        rw [e]
        rfl
      refine ⟨eR, ?_, hk⟩
      rw [E]
      unfold lvOf
      rw [if_neg (show ¬ g = 0 by omega), if_neg (show ¬ g = 1 by omega), if_neg (show ¬ g = 2 by omega), if_pos (show g = 3 by omega)]
    refine ⟨?_, ?_⟩
    · intro c6
      refine ⟨?_, ?_⟩
      · exact hA
      intro _
      have E : rLeaves Z q a b g = lvOf (hZ Z q a b 0) q g := by
        unfold rLeaves
        rw [e]
        rfl
      refine ⟨eR, ?_, hk⟩
      rw [E]
      unfold lvOf
      rw [if_neg (show ¬ g = 0 by omega), if_neg (show ¬ g = 1 by omega), if_neg (show ¬ g = 2 by omega), if_neg (show ¬ g = 3 by omega), if_pos (show g = 4 by omega)]
      rw [hA.2.2.2.2.1]
    refine ⟨?_, ?_⟩
    · intro c7
      refine ⟨?_, ?_⟩
      · exact ⟨hA, cl_sdf hA⟩
      intro r21
      intro _
      intro X19
      intro rX19
      intro Y20
      intro rY20
      intro h2
      refine ⟨?_, ?_⟩
      · exact ⟨cA_k h2.2 hA, cl_sdf (cA_k h2.2 hA)⟩
      intro r25
      intro _
      intro X23
      intro rX23
      intro Y24
      intro rY24
      intro h3
      refine ⟨?_, ?_⟩
      · intro c8
        have r01 := hz_n (n := a) (c := b) (f := 0) hp.1.1 (by unfold rOk mIs at e; rw [Bool.and_eq_true, mIn_t, mIn_t] at e; omega) (by unfold rOk mIs at e; rw [Bool.and_eq_true, mIn_t, mIn_t] at e; omega)
        have fl : ∀ rho, sTip rho (rP (hZ Z q a b 0) q) (rW (hZ Z q a b 0) q) (rG (hZ Z q a b 0) q) (fun e => mHas (X2 (i + 157) 3) e) (fun x y : Nat => decide (x < y)) (hZ Z q a b 0 q 27).toNat = flTip (hZ Z q a b 0) q rho := fun rho => by
          unfold flTip
          refine sTip_cong (by omega) (by first | exact (cA_s hA (k := 0) (by omega)).trans sdf_0 | exact woF_0) (fun _ _ => rfl) (fun _ _ => rfl) (fun k hk => ?_) (fun _ _ _ _ _ _ => rfl)
          rw [cA_s hA (by omega), mWo_e hA.1.1.1 (show mHas 0 0 = false by decide +kernel) k k (Nat.le_refl _) (by omega), decide_eq_true (and_z.mpr (fun j _ => by rw [zb_0, Bool.and_false])), Bool.and_true]
        have h2e := h2.1
        have h3e := h3.1
        rw [h2.2.1 (i + 157) (by omega)] at h3e
        rw [fl] at h2e h3e
        have E : rLeaves Z q a b g = lvOf (hZ Z q a b 0) q g := by
          unfold rLeaves
          rw [e]
          rfl
        refine ⟨eR, ?_, qK_fv h3.2 (qK_fv h2.2 hk)⟩
        rw [E]
        unfold lvOf
        rw [if_neg (show ¬ g = 0 by omega), if_neg (show ¬ g = 1 by omega), if_neg (show ¬ g = 2 by omega), if_neg (show ¬ g = 3 by omega), if_neg (show ¬ g = 4 by omega), if_pos (show g = 5 by omega)]
        rcases (show hZ Z q a b 0 q 28 = 0 ∨ hZ Z q a b 0 q 28 = 1 by have := r01.2.1; omega) with z | z
        · rw [z, show (1 : Int) - 0 = 1 from rfl]
          rw [if_neg (fun y => c8 (by rw [h2e, h3e, y]))]
        · rw [z, show (1 : Int) - 1 = 0 from rfl]
          rw [if_neg (fun y => c8 (by rw [h2e, h3e, y]))]
      intro c9
      have c9 := Classical.not_not.mp c9
      have r01 := hz_n (n := a) (c := b) (f := 0) hp.1.1 (by unfold rOk mIs at e; rw [Bool.and_eq_true, mIn_t, mIn_t] at e; omega) (by unfold rOk mIs at e; rw [Bool.and_eq_true, mIn_t, mIn_t] at e; omega)
      have fl : ∀ rho, sTip rho (rP (hZ Z q a b 0) q) (rW (hZ Z q a b 0) q) (rG (hZ Z q a b 0) q) (fun e => mHas (X2 (i + 157) 3) e) (fun x y : Nat => decide (x < y)) (hZ Z q a b 0 q 27).toNat = flTip (hZ Z q a b 0) q rho := fun rho => by
        unfold flTip
        refine sTip_cong (by omega) (by first | exact (cA_s hA (k := 0) (by omega)).trans sdf_0 | exact woF_0) (fun _ _ => rfl) (fun _ _ => rfl) (fun k hk => ?_) (fun _ _ _ _ _ _ => rfl)
        rw [cA_s hA (by omega), mWo_e hA.1.1.1 (show mHas 0 0 = false by decide +kernel) k k (Nat.le_refl _) (by omega), decide_eq_true (and_z.mpr (fun j _ => by rw [zb_0, Bool.and_false])), Bool.and_true]
      have h2e := h2.1
      have h3e := h3.1
      rw [h2.2.1 (i + 157) (by omega)] at h3e
      rw [fl] at h2e h3e
      have E : rLeaves Z q a b g = lvOf (hZ Z q a b 0) q g := by
        unfold rLeaves
        rw [e]
        rfl
      refine ⟨eR, ?_, qK_fv h3.2 (qK_fv h2.2 hk)⟩
      rw [E]
      unfold lvOf
      rw [if_neg (show ¬ g = 0 by omega), if_neg (show ¬ g = 1 by omega), if_neg (show ¬ g = 2 by omega), if_neg (show ¬ g = 3 by omega), if_neg (show ¬ g = 4 by omega), if_pos (show g = 5 by omega)]
      rcases (show hZ Z q a b 0 q 28 = 0 ∨ hZ Z q a b 0 q 28 = 1 by have := r01.2.1; omega) with z | z
      · rw [z, show (1 : Int) - 0 = 1 from rfl]
        rw [if_pos (by rw [h2e, h3e] at c9; exact (Int.ofNat.inj c9).symm)]
      · rw [z, show (1 : Int) - 1 = 0 from rfl]
        rw [if_pos (by rw [h2e, h3e] at c9; exact Int.ofNat.inj c9)]
    refine ⟨?_, ?_⟩
    · intro c10
      refine ⟨?_, ?_⟩
      · exact ⟨hA, h39⟩
      intro r30
      intro _
      intro X28
      intro rX28
      intro Y29
      intro rY29
      intro h4
      have E : rLeaves Z q a b g = lvOf (hZ Z q a b 0) q g := by
        unfold rLeaves
        rw [e]
        rfl
      refine ⟨eR, ?_, qK_fv h4.2 hk⟩
      rw [E]
      unfold lvOf
      rw [if_neg (show ¬ g = 0 by omega), if_neg (show ¬ g = 1 by omega), if_neg (show ¬ g = 2 by omega), if_neg (show ¬ g = 3 by omega), if_neg (show ¬ g = 4 by omega), if_neg (show ¬ g = 5 by omega), if_pos (show g = 6 by omega)]
      exact h4.1
    refine ⟨?_, ?_⟩
    · intro c11
      refine ⟨?_, ?_⟩
      · exact hA
      intro _
      have E : rLeaves Z q a b g = lvOf (hZ Z q a b 0) q g := by
        unfold rLeaves
        rw [e]
        rfl
      refine ⟨eR, ?_, hk⟩
      rw [E]
      unfold lvOf
      rw [if_neg (show ¬ g = 0 by omega), if_neg (show ¬ g = 1 by omega), if_neg (show ¬ g = 2 by omega), if_neg (show ¬ g = 3 by omega), if_neg (show ¬ g = 4 by omega), if_neg (show ¬ g = 5 by omega), if_neg (show ¬ g = 6 by omega), if_pos (show g = 7 by omega)]
    refine ⟨?_, ?_⟩
    · intro c12
      refine ⟨?_, ?_⟩
      · exact hA
      intro _
      have E : rLeaves Z q a b g = lvOf (hZ Z q a b 0) q g := by
        unfold rLeaves
        rw [e]
        rfl
      refine ⟨eR, ?_, hk⟩
      rw [E]
      unfold lvOf
      rw [if_neg (show ¬ g = 0 by omega), if_neg (show ¬ g = 1 by omega), if_neg (show ¬ g = 2 by omega), if_neg (show ¬ g = 3 by omega), if_neg (show ¬ g = 4 by omega), if_neg (show ¬ g = 5 by omega), if_neg (show ¬ g = 6 by omega), if_neg (show ¬ g = 7 by omega), if_pos (show g = 8 by omega)]
    refine ⟨?_, ?_⟩
    · intro c13
      refine ⟨?_, ?_⟩
      · exact hA
      intro _
      have E : rLeaves Z q a b g = lvOf (hZ Z q a b 0) q g := by
        unfold rLeaves
        rw [e]
        rfl
      refine ⟨eR, ?_, hk⟩
      rw [E]
      unfold lvOf
      rw [if_neg (show ¬ g = 0 by omega), if_neg (show ¬ g = 1 by omega), if_neg (show ¬ g = 2 by omega), if_neg (show ¬ g = 3 by omega), if_neg (show ¬ g = 4 by omega), if_neg (show ¬ g = 5 by omega), if_neg (show ¬ g = 6 by omega), if_neg (show ¬ g = 7 by omega), if_neg (show ¬ g = 8 by omega), if_pos (show g = 9 by omega)]
    intro c14
    have E : rLeaves Z q a b g = lvOf (hZ Z q a b 0) q g := by
      unfold rLeaves
      rw [e]
      rfl
    refine ⟨eR, ?_, hk⟩
    rw [E]
    unfold lvOf
    rw [if_neg (show ¬ g = 0 by omega), if_neg (show ¬ g = 1 by omega), if_neg (show ¬ g = 2 by omega), if_neg (show ¬ g = 3 by omega), if_neg (show ¬ g = 4 by omega), if_neg (show ¬ g = 5 by omega), if_neg (show ¬ g = 6 by omega), if_neg (show ¬ g = 7 by omega), if_neg (show ¬ g = 8 by omega), if_neg (show ¬ g = 9 by omega)]
  intro c15
  obtain ⟨rfl, rfl⟩ := hf c15
  have e : rOk Z q a b = false := by rw [← er]; exact c15
  have hk : qK X2 X2 i := ⟨fun _ _ => rfl, hp.2.2⟩
  exact ⟨eR, by unfold rLeaves; rw [e]; rfl, hk⟩
theorem c_X10_leaves {l : Launch} {D : va_G} {cy : Nat → ClassId} {bs N : Nat} {sa : Nat → Nat} {kd len : Nat → Nat} {X Y : Nat → Int → Int} {R : Nat → Int → Option Nat} {i : Nat} {Z : Nat → Int → Int} {q : Nat} (hC : zWC N kd len R i) (a : Int) (ha : rI a) (b : Int) (hb : rI b) (g : Int) (hg : rI g) (hp : wcQ Z q X i) : Met l yX10_leaves (.code yX10_leaves cX10_leaves 4 (some .int) :: zTB) (zRm 5 134) (zPc D cy bs sa N kd len X Y R [.ref (bs + (i)), .int (zI (a)), .int (zI (b)), .int (zI (g))]) (zQi D cy bs N kd len (fun r st => (((st.2.2) = wgR Z q R i (a) (b)) ∧ r = rLeaves Z q (a) (b) (g) ∧ qK X (st.1) i))) 0 0 (zA bs) := w_X10_leaves hC a ha b hb g hg (v_X10_leaves a ha b hb g hg hp)
