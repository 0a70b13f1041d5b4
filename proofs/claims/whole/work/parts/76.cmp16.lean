/-! WHAT A CHART TELLS: rows of bits -/
/-- a chart of Z: drawn, weighed, judged -/
def cA (Z : Nat → Int → Int) (q : Nat) (X Y : Nat → Int → Int) (R : Nat → Int → Option Nat) (i : Nat) : Prop := dR Z q X R i ∧ vN Z q ∧ (nR Z q X (cn R i) ∧ cn R i + 1 < i) ∧ wR Z q Y i (Z q 27) ∧ jR Z q X i (Z q 27)
/-- only sums and favourites differ -/
def fvK (X X1 Y Y1 : Nat → Int → Int) (i : Nat) : Prop := (∀ z, z ≠ i + 16 → X1 z = X z) ∧ ∀ z, z ≠ i + 15 → Y1 z = Y z
theorem fvK.rf {X Y : Nat → Int → Int} {i : Nat} : fvK X X Y Y i := ⟨fun _ _ => rfl, fun _ _ => rfl⟩
theorem fvK.tr {X X1 X2 Y Y1 Y2 : Nat → Int → Int} {i : Nat} (h : fvK X X1 Y Y1 i) (g : fvK X1 X2 Y1 Y2 i) : fvK X X2 Y Y2 i := ⟨fun z hz => (g.1 z hz).trans (h.1 z hz), fun z hz => (g.2 z hz).trans (h.2 z hz)⟩
theorem cA_k {Z : Nat → Int → Int} {q : Nat} {X X1 Y Y1 : Nat → Int → Int} {R : Nat → Int → Option Nat} {i : Nat} (k : fvK X X1 Y Y1 i) (h : cA Z q X Y R i) : cA Z q X1 Y1 R i := by
  obtain ⟨⟨⟨h1, h2⟩, h3, ⟨h4, h5⟩, h6⟩, hN, ⟨h7, h8⟩, h9, h10⟩ := h
  have b : bR Z q X1 (cb R i) := by
    unfold bR
    rw [k.1 _ (by omega), k.1 (cb R i + 1) (by omega), k.1 (cb R i + 2) (by omega), k.1 (cb R i + 3) (by omega), k.1 (cb R i + 4) (by omega), k.1 (cb R i + 5) (by omega)]
    exact h4
  refine ⟨⟨⟨h1, ?_⟩, by rw [k.1 i (by omega)]; exact h3, ⟨b, h5⟩, fun z hz => ?_⟩, hN, ⟨?_, h8⟩, fun z hz => ?_, ?_, fun z hz M hM => ?_⟩
  · unfold chI
    rw [k.1 (i + 9) (by omega), k.1 (i + 11) (by omega)]
    exact h2
  · rw [k.1 (i + 9) (by omega), k.1 (i + 10) (by omega), k.1 (i + 11) (by omega)]
    exact h6 z hz
  · unfold nR
    rw [k.1 _ (by omega), k.1 (cn R i + 1) (by omega)]
    exact h7
  · rw [k.2 (i + 12) (by omega), k.2 (i + 13) (by omega)]
    exact h9 z hz
  · rw [k.1 i (by omega)]
    exact h10.1
  · rw [k.1 _ (by omega), k.1 (i + 17 + 2 * z + 1) (by omega)]
    exact h10.2 z hz M hM
section CA
variable {Z : Nat → Int → Int} {q : Nat} {X Y : Nat → Int → Int} {R : Nat → Int → Option Nat} {i : Nat}
theorem cA_l (h : cA Z q X Y R i) : X i 2 = Z q 27 - 1 ∧ (1 ≤ Z q 27 ∧ Z q 27 ≤ 15) ∧ ((Z q 27).toNat : Int) = Z q 27 := ⟨h.1.2.1, h.1.1.1.1, (vZ_n h.1.1.1).1⟩
theorem cA_s (h : cA Z q X Y R i) {k : Nat} (hk : (k : Int) < Z q 27) : mHas (X i 3) k = sdf Z q k := by
  have e := cA_l h
  rw [h.2.2.2.2.1, bS_has _ (by omega) (by omega)]
theorem cA_p (h : cA Z q X Y R i) {k : Nat} (h1 : 1 ≤ k) (hk : (k : Int) < Z q 27) : X (i + 9) k = rP Z q k ∧ rP Z q k < k := ⟨(h.1.2.2.2 k hk).1 h1, vZ_P h.1.1.1 h1 hk⟩
theorem cA_w (h : cA Z q X Y R i) {k : Nat} (hk : (k : Int) < Z q 27) : X (i + 10) k = wyP (rP Z q) k := (h.1.2.2.2 k hk).2.1
theorem cA_h (h : cA Z q X Y R i) {k : Nat} (hk : (k : Int) < Z q 27) : X (i + 11) k = sHg (rP Z q) k := (h.1.2.2.2 k hk).2.2
theorem cA_W (h : cA Z q X Y R i) {k : Nat} (hk : (k : Int) < Z q 27) : Y (i + 12) k = rW Z q k ∧ Y (i + 13) k = rG Z q k := h.2.2.2.1 k hk
theorem cA_m (h : cA Z q X Y R i) {k : Nat} (h1 : 1 ≤ k) (hk : (k : Int) < Z q 27) : X (cb R i + 3) k = mC Z q k 2 := (h.1.2.2.1.1.2.2 k (by omega) hk).2.2.1
theorem cA_isIn (h : cA Z q X Y R i) {k : Nat} (hk : (k : Int) < Z q 27) : (decide (0 ≤ (k : Int) ∧ (k : Int) < 15) && decide (¬ zAnd (zShr (X i 3) k) 1 = 0)) = sdf Z q k := by
  have e := cA_l h
  rw [isIn_has (by omega) (by omega), cA_s h hk]
end CA
theorem bS_n {f : Nat → Bool} {q : Nat} (h : f q = false) : bS f (q + 1) = bS f q := by
  show (if f q then _ else _) = _
  rw [h]
  rfl
theorem bS_y {f : Nat → Bool} {q : Nat} (h : f q = true) : bS f (q + 1) = zOr (bS f q) (zShl 1 q) := by
  show (if f q then _ else _) = _
  rw [h]
  rfl
theorem bS_1 {f : Nat → Bool} (h : f 0 = false) : bS f 1 = 0 := bS_n h
theorem sdf_p {Z : Nat → Int → Int} {q k : Nat} (h : rP Z q k < k) (hs : sdf Z q k = true) : sdf Z q (rP Z q k) = true := by
  unfold sdf at hs ⊢
  rw [rS_s h] at hs
  cases c : rS Z q (rP Z q k)
  · rw [c] at hs
    exact absurd (show (none : Option (Int → Int)).isSome = true from hs) (by decide)
  · rfl
theorem bS_z {f : Nat → Bool} {n : Nat} (hn : n ≤ 32) : bS f n = 0 ↔ ∀ k, k < n → f k = false := by
  constructor
  · intro h k hk
    have e := zb_bS f n k hn (by omega)
    rw [h, zb_0, decide_eq_true hk, Bool.true_and] at e
    exact e.symm
  · intro h
    refine zb_ext (bS_rg _ _) (by decide) fun k hk => ?_
    rw [zb_bS f n k hn hk, zb_0]
    by_cases g : k < n
    · rw [h k g, Bool.and_false]
    · rw [decide_eq_false g, Bool.false_and]
theorem cN_z {f : Nat → Bool} {n : Nat} : cN f n = 0 ↔ ∀ k, k < n → f k = false := by
  constructor
  · induction n with
    | zero => exact fun _ k hk => absurd hk (Nat.not_lt_zero _)
    | succ n ih =>
      intro h k hk
      have b := (cN_b f n).1
      have h : cN f n + (if f n then 1 else 0) = 0 := h
      cases c : f n
      · rw [c] at h
        by_cases e : k = n
        · rw [e]
          exact c
        · exact ih (by simpa using h) k (by omega)
      · rw [c] at h
        rw [if_pos rfl] at h
        omega
  · exact cN_0
theorem and_z {a b : Int} : zAnd a b = 0 ↔ ∀ k, k < 32 → (zb a k && zb b k) = false := by
  constructor
  · intro h k _
    rw [← zb_and, h, zb_0]
  · intro h
    refine zb_ext (zI_rg _) (by decide) fun k hk => ?_
    rw [zb_and, zb_0]
    exact h k hk
theorem shl_n : ∀ n : Nat, n ≤ 15 → 1 ≤ n → zShl 2 ((n : Int) - 1) = zShl 1 n := by decide +kernel
abbrev cX1_all : ByteArray := prog_3_method_8_code
def yX1_all : MethodName := ⟨RX1, "all", "()I"⟩
theorem dX1_all_0 : decode cX1_all 0 = .ok (.iconst 2, 1) := by decide +kernel
theorem dX1_all_1 : decode cX1_all 1 = .ok (.aload_n 0, 1) := by decide +kernel
theorem dX1_all_2 : decode cX1_all 2 = .ok (.getfield 68, 3) := by decide +kernel
theorem dX1_all_5 : decode cX1_all 5 = .ok (.ishl, 1) := by decide +kernel
theorem dX1_all_6 : decode cX1_all 6 = .ok (.iconst 1, 1) := by decide +kernel
theorem dX1_all_7 : decode cX1_all 7 = .ok (.isub, 1) := by decide +kernel
theorem dX1_all_8 : decode cX1_all 8 = .ok (.ireturn, 1) := by decide +kernel
def F_X1_all (i : Nat) (Z : Nat → Int → Int) (q : Nat) (X Y : Nat → Int → Int) (R : Nat → Int → Option Nat)  : Prop := (∀ i j, rI (X i j)) → (∀ i j, rL (Y i j)) → (rI ((zShl (2) (X (i) 2)) - 1)) ∧ ((zShl (2) (X (i) 2)) - 1 = zShl 1 (Z q 27) - 1)
set_option maxHeartbeats 4000000 in
set_option maxRecDepth 100000 in
theorem w_X1_all {l : Launch} {D : va_G} {cy : Nat → ClassId} {bs N : Nat} {sa : Nat → Nat} {kd len : Nat → Nat} {X Y : Nat → Int → Int} {R : Nat → Int → Option Nat} {i : Nat} {Z : Nat → Int → Int} {q : Nat} (hC : zChart N kd len R i)  (hF : F_X1_all i Z q X Y R ) : Met l yX1_all (.code yX1_all cX1_all 1 (some .int) :: zTB) (zRm 0 0) (zPc D cy bs sa N kd len X Y R [.ref (bs + (i))]) (zQi D cy bs N kd len (fun r st => r = zShl 1 (Z q 27) - 1 ∧ st = (X, Y, R))) 0 0 (zA bs) := by
  refine zstart (by decide) (Nat.le_of_ble_eq_true rfl) ?_
  intro p e s m args below meth c ls C hE hH hr hlk hnm hl hargs
  have hF := hF hH.2.2.1 hH.2.2.2
  have hS : va_S (zA bs) s.heap s.heap [] := va_S.rf
  have hl : lv_has ls 1 [(0, .ref (bs + (i)))] := hl
  refine zd_iconst C dX1_all_0 ?_
  refine lv_aload_n C.1 C.2.1 dX1_all_1 rfl (lv_at hl 0 rfl) ?_
  refine zg1_2 C hH (zChart_n0 hC) (zChart_k0 hC) q_396 dX1_all_2 ?_
  refine zd_ishl C dX1_all_5 ?_
  refine zd_iconst C dX1_all_6 ?_
  refine zd_isub C dX1_all_7 ?_
  obtain ⟨o1, hF⟩ := hF
  exact zd_iret C hr hlk hH hS o1 (⟨hF, rfl⟩) dX1_all_8
theorem v_X1_all {X Y : Nat → Int → Int} {R : Nat → Int → Option Nat} {i : Nat} {Z : Nat → Int → Int} {q : Nat}  (hp : cA Z q X Y R i) : F_X1_all i Z q X Y R  := by
  unfold F_X1_all
  intro hX hY
  obtain ⟨l27, r27, e27⟩ := cA_l hp
  refine ⟨?_, ?_⟩
  · have e := shl_n (Z q 27).toNat (by omega) (by omega)
    have g := shl_2 (Z q 27).toNat (by omega)
    rw [e27] at e g
    rw [l27, e]
    exact ⟨by omega, by omega⟩
  have e := shl_n (Z q 27).toNat (by omega) (by omega)
  rw [e27] at e
  rw [l27, e]
theorem c_X1_all {l : Launch} {D : va_G} {cy : Nat → ClassId} {bs N : Nat} {sa : Nat → Nat} {kd len : Nat → Nat} {X Y : Nat → Int → Int} {R : Nat → Int → Option Nat} {i : Nat} {Z : Nat → Int → Int} {q : Nat} (hC : zChart N kd len R i)  (hp : cA Z q X Y R i) : Met l yX1_all (.code yX1_all cX1_all 1 (some .int) :: zTB) (zRm 0 0) (zPc D cy bs sa N kd len X Y R [.ref (bs + (i))]) (zQi D cy bs N kd len (fun r st => r = zShl 1 (Z q 27) - 1 ∧ st = (X, Y, R))) 0 0 (zA bs) := w_X1_all hC  (v_X1_all  hp)
theorem and_or {x a : Int} {k : Nat} (hk : k < 32) : zAnd (zOr x (zShl 1 k)) a = 0 ↔ zAnd x a = 0 ∧ zb a k = false := by
  rw [and_z, and_z]
  constructor
  · intro h
    refine ⟨fun j hj => ?_, ?_⟩
    · have e := h j hj
      rw [zb_or] at e
      cases c : zb x j
      · rfl
      · rw [c, Bool.true_or] at e
        exact e
    · have e := h k hk
      rw [zb_or, zb_one hk hk, decide_eq_true rfl, Bool.or_true, Bool.true_and] at e
      exact e
  · rintro ⟨h, g⟩ j hj
    rw [zb_or, zb_one hk hj]
    by_cases e : j = k
    · subst e
      rw [g, Bool.and_false]
    · rw [decide_eq_false e, Bool.or_false]
      exact h j hj
theorem mWo_e {Z : Nat → Int → Int} {q : Nat} (hv : vZ Z q) {a : Int} (ha : mHas a 0 = false) : ∀ (d k : Nat), k ≤ d → (k : Int) < Z q 27 → mWo Z q a k = (sdf Z q k && decide (zAnd (wyP (rP Z q) k) a = 0)) := by
  intro d
  induction d with
  | zero =>
    intro k hk _
    rw [show k = 0 by omega]
    show woF _ _ _ 0 = _
    rw [woF_0, sdf_0, wyP_0, decide_eq_true]
    · rfl
    · rw [and_z]
      intro j hj
      rw [zb_1 j hj]
      by_cases e : j = 0
      · rw [e, ← mHas_zb a (by decide)]
        exact (by rw [show ((0 : Nat) : Int) = 0 from rfl, ha]; rfl)
      · rw [decide_eq_false e, Bool.false_and]
  | succ d ih =>
    intro k hk h
    by_cases e : k = 0
    · exact ih k (by omega) h
    · have hp := vZ_P hv (by omega) h
      have h15 := hv.1
      have i1 := ih (rP Z q k) (by omega) (by omega)
      have w := wy_s hp (by omega)
      show woF _ _ _ k = _
      rw [woF_s hp]
      have i2 : woF (rP Z q) (sdf Z q) (fun k => mHas a k) (rP Z q k) = _ := i1
      rw [i2, ← w]
      have ao := and_or (x := wyP (rP Z q) (rP Z q k)) (a := a) (k := k) (by omega)
      rw [← mHas_zb a (by omega)] at ao
      cases c : sdf Z q k
      · rw [Bool.and_false, Bool.false_and, Bool.false_and]
      · rw [sdf_p hp c, Bool.and_true, Bool.true_and, Bool.true_and]
        cases g : mHas a k
        · rw [Bool.not_false, Bool.true_and]
          exact decide_eq_decide.mpr ⟨fun z => ao.mpr ⟨z, g⟩, fun z => (ao.mp z).1⟩
        · rw [Bool.not_true, Bool.false_and]
          exact (decide_eq_false (fun z => by have := (ao.mp z).2; rw [g] at this; exact absurd this (by decide))).symm
theorem grN_n {w : Nat → Bool} {v : Nat → Int} {q : Nat} (h : (w q && decide (v (grN w v q) < v q)) = false) : grN w v (q + 1) = grN w v q := by
  show (if (w q && decide (v (grN w v q) < v q)) = true then q else grN w v q) = _
  rw [h]
  rfl
theorem grN_y {w : Nat → Bool} {v : Nat → Int} {q : Nat} (h : (w q && decide (v (grN w v q) < v q)) = true) : grN w v (q + 1) = q := by
  show (if (w q && decide (v (grN w v q) < v q)) = true then q else grN w v q) = _
  rw [h]
  rfl
theorem stN_n {w : Nat → Bool} {P : Nat → Nat} {W : Nat → Int} {q : Nat} (h : (decide (1 ≤ q) && (w q && decide ((stN w P W q).2 < W q - W (P q)))) = false) : stN w P W (q + 1) = stN w P W q := by
  show (if (decide (1 ≤ q) && (w q && decide ((stN w P W q).2 < W q - W (P q)))) = true then _ else _) = _
  rw [h]
  rfl
theorem stN_y {w : Nat → Bool} {P : Nat → Nat} {W : Nat → Int} {q : Nat} (h : (decide (1 ≤ q) && (w q && decide ((stN w P W q).2 < W q - W (P q)))) = true) : stN w P W (q + 1) = ((q : Int), W q - W (P q)) := by
  show (if (decide (1 ≤ q) && (w q && decide ((stN w P W q).2 < W q - W (P q)))) = true then _ else _) = _
  rw [h]
  rfl
theorem unA_e {P : Nat → Nat} {k : Nat} (h : P k < k) (hk : k < 15) (hw : ∀ j, onW P (P k) j = true → j ≤ P k) : zAnd (wyP P (P k)) (zXor (zShl 1 (P k)) (-1)) = unA P k := by
  unfold unA
  rw [if_neg (by omega)]
  refine zb_ext (zI_rg _) (zI_rg _) fun j hj => ?_
  rw [← wy_s h hk, zb_and, zb_and, zb_and, zb_or, zb_not _ hj, zb_not _ hj, zb_one (by omega) hj, zb_one (by omega) hj]
  by_cases e : j = k
  · subst e
    have z : zb (wyP P (P j)) j = false := by
      unfold wyP
      rw [zb_bS _ _ _ (by decide) hj]
      cases c : onW P (P j) j
      · exact Bool.and_false _
      · exact absurd (hw j c) (by omega)
    rw [z, decide_eq_true rfl, Bool.false_and, Bool.not_true, Bool.and_false, Bool.false_and]
  · rw [decide_eq_false e, Bool.or_false, Bool.not_false, Bool.and_true]
theorem unA_0 {P : Nat → Nat} : zAnd (wyP P 0) (zXor (zShl 1 0) (-1)) = unA P 0 := by
  unfold unA
  rw [if_pos rfl, wyP_0]
  decide +kernel
abbrev cX1_madeBy : ByteArray := prog_3_method_10_code
def yX1_madeBy : MethodName := ⟨RX1, "madeBy", "(I)I"⟩
theorem dX1_madeBy_0 : decode cX1_madeBy 0 = .ok (.iconst 0, 1) := by decide +kernel
theorem dX1_madeBy_1 : decode cX1_madeBy 1 = .ok (.istore_n 2, 1) := by decide +kernel
theorem dX1_madeBy_2 : decode cX1_madeBy 2 = .ok (.iconst 1, 1) := by decide +kernel
theorem dX1_madeBy_3 : decode cX1_madeBy 3 = .ok (.istore_n 3, 1) := by decide +kernel
theorem dX1_madeBy_4 : decode cX1_madeBy 4 = .ok (.iload_n 3, 1) := by decide +kernel
theorem dX1_madeBy_5 : decode cX1_madeBy 5 = .ok (.aload_n 0, 1) := by decide +kernel
theorem dX1_madeBy_6 : decode cX1_madeBy 6 = .ok (.getfield 68, 3) := by decide +kernel
theorem dX1_madeBy_9 : decode cX1_madeBy 9 = .ok (.if_icmp .gt 28, 3) := by decide +kernel
theorem dX1_madeBy_12 : decode cX1_madeBy 12 = .ok (.aload_n 0, 1) := by decide +kernel
theorem dX1_madeBy_13 : decode cX1_madeBy 13 = .ok (.getfield 21, 3) := by decide +kernel
theorem dX1_madeBy_16 : decode cX1_madeBy 16 = .ok (.getfield 104, 3) := by decide +kernel
theorem dX1_madeBy_19 : decode cX1_madeBy 19 = .ok (.iload_n 3, 1) := by decide +kernel
theorem dX1_madeBy_20 : decode cX1_madeBy 20 = .ok (.iaload, 1) := by decide +kernel
theorem dX1_madeBy_21 : decode cX1_madeBy 21 = .ok (.iload_n 1, 1) := by decide +kernel
theorem dX1_madeBy_22 : decode cX1_madeBy 22 = .ok (.if_icmp .ne 9, 3) := by decide +kernel
theorem dX1_madeBy_25 : decode cX1_madeBy 25 = .ok (.iload_n 2, 1) := by decide +kernel
theorem dX1_madeBy_26 : decode cX1_madeBy 26 = .ok (.iconst 1, 1) := by decide +kernel
theorem dX1_madeBy_27 : decode cX1_madeBy 27 = .ok (.iload_n 3, 1) := by decide +kernel
theorem dX1_madeBy_28 : decode cX1_madeBy 28 = .ok (.ishl, 1) := by decide +kernel
theorem dX1_madeBy_29 : decode cX1_madeBy 29 = .ok (.ior, 1) := by decide +kernel
theorem dX1_madeBy_30 : decode cX1_madeBy 30 = .ok (.istore_n 2, 1) := by decide +kernel
theorem dX1_madeBy_31 : decode cX1_madeBy 31 = .ok (.iinc 3 1, 3) := by decide +kernel
theorem dX1_madeBy_34 : decode cX1_madeBy 34 = .ok (.goto (-30), 3) := by decide +kernel
theorem dX1_madeBy_37 : decode cX1_madeBy 37 = .ok (.iload_n 2, 1) := by decide +kernel
theorem dX1_madeBy_38 : decode cX1_madeBy 38 = .ok (.ireturn, 1) := by decide +kernel
def F_X1_madeBy (i : Nat) (Z : Nat → Int → Int) (q : Nat) (X Y : Nat → Int → Int) (R : Nat → Int → Option Nat) (a : Int) : Prop := (∀ i j, rI (X i j)) → (∀ i j, rL (Y i j)) → ((1 ≤ (1 : Int) ∧ (1 : Int) ≤ Z q 27) ∧ (0 : Int) = bS (fMd Z q a) ((1 : Int)).toNat) ∧ (∀ (u : Int) (k : Int), rI u → rI k → ((1 ≤ k ∧ k ≤ Z q 27) ∧ u = bS (fMd Z q a) (k).toNat) → ((((X (i) 2) < k) → (u = bS (fMd Z q (a)) (Z q 27).toNat)) ∧ ((¬ ((X (i) 2) < k)) → ((0 ≤ k ∧ k < 15) ∧ (((¬ (X (cb R i + 3) (k)) = a) → ((rI (k + 1)) ∧ ((1 ≤ (k + 1) ∧ (k + 1) ≤ Z q 27) ∧ u = bS (fMd Z q a) ((k + 1)).toNat) ∧ (((20 - (k + 1)).toNat) < ((20 - (k)).toNat)))) ∧ ((¬ (¬ (X (cb R i + 3) (k)) = a)) → ((rI (k + 1)) ∧ ((1 ≤ (k + 1) ∧ (k + 1) ≤ Z q 27) ∧ (zOr (u) (zShl (1) (k))) = bS (fMd Z q a) ((k + 1)).toNat) ∧ (((20 - (k + 1)).toNat) < ((20 - (k)).toNat)))))))))
set_option maxHeartbeats 4000000 in
set_option maxRecDepth 100000 in
theorem w_X1_madeBy {l : Launch} {D : va_G} {cy : Nat → ClassId} {bs N : Nat} {sa : Nat → Nat} {kd len : Nat → Nat} {X Y : Nat → Int → Int} {R : Nat → Int → Option Nat} {i : Nat} {Z : Nat → Int → Int} {q : Nat} (hC : zChart N kd len R i) (a : Int) (ha : rI a) (hF : F_X1_madeBy i Z q X Y R a) : Met l yX1_madeBy (.code yX1_madeBy cX1_madeBy 4 (some .int) :: zTB) (zRm 0 0) (zPc D cy bs sa N kd len X Y R [.ref (bs + (i)), .int (zI (a))]) (zQi D cy bs N kd len (fun r st => r = bS (fMd Z q (a)) (Z q 27).toNat ∧ st = (X, Y, R))) 0 0 (zA bs) := by
  refine zstart (by decide) (Nat.le_of_ble_eq_true rfl) ?_
  intro p e s m args below meth c ls C hE hH hr hlk hnm hl hargs
  have hF := hF hH.2.2.1 hH.2.2.2
  have hS : va_S (zA bs) s.heap s.heap [] := va_S.rf
  have hl : lv_has ls 4 [(0, .ref (bs + (i))), (1, .int (zI (a)))] := hl
  refine zd_iconst C dX1_madeBy_0 ?_
  refine lv_istore_n (lv' := [(2, .int (zI (0))), (0, .ref (bs + (i))), (1, .int (zI (a)))]) C.1 C.2.1 dX1_madeBy_1 rfl hl (by decide) rfl (fun ls hl => ?_)
  refine zd_iconst C dX1_madeBy_2 ?_
  refine lv_istore_n (lv' := [(3, .int (zI (1))), (2, .int (zI (0))), (0, .ref (bs + (i))), (1, .int (zI (a)))]) C.1 C.2.1 dX1_madeBy_3 rfl hl (by decide) rfl (fun ls hl => ?_)
  obtain ⟨hI1, hF⟩ := hF
  have L1 : ∀ (fu : Nat) (u : Int) (k : Int), rI u → rI k → ((1 ≤ k ∧ k ≤ Z q 27) ∧ u = bS (fMd Z q a) (k).toNat) → ((20 - (k)).toNat) < fu → ∀ (H : Heap) (locs : List Loc) (ls : Array Slot), zH D cy bs N kd len X Y R H → va_S (zA bs) s.heap H locs → lv_has ls 4 [(2, .int (zI (u))), (3, .int (zI (k))), (0, .ref (bs + (i))), (1, .int (zI (a)))] → W p l e (zRm 0 0) s m args below meth c H locs 0 0 (MQ below (zQi D cy bs N kd len (fun r st => r = bS (fMd Z q (a)) (Z q 27).toNat ∧ st = (X, Y, R))) args s 0 0 (zA bs)) (F0 m 4 ls []) := by
    intro fu
    induction fu with
    | zero => intro u k _ _ _ hmu; exact absurd hmu (Nat.not_lt_zero _)
    | succ fu ih1 =>
      intro u k hu hk hI hmu1 H locs ls hH hS hl
      have hF := hF u k hu hk  hI
      refine lv_iload_n C.1 C.2.1 dX1_madeBy_4 rfl (lv_at hl 1 rfl) ?_
      refine lv_aload_n C.1 C.2.1 dX1_madeBy_5 rfl (lv_at hl 2 rfl) ?_
      refine zg1_2 C hH (zChart_n0 hC) (zChart_k0 hC) q_396 dX1_madeBy_6 ?_
      refine zd_icmp_gt C hk (hH.2.2.1 _ _) 37 dX1_madeBy_9 (by decide) (fun c2 => ?_) (fun c2 => ?_)
      · have hF := hF.1 c2
        refine lv_iload_n C.1 C.2.1 dX1_madeBy_37 rfl (lv_at hl 0 rfl) ?_
        exact zd_iret C hr hlk hH hS hu (⟨hF, rfl⟩) dX1_madeBy_38
      · have hF := hF.2 c2
        refine lv_aload_n C.1 C.2.1 dX1_madeBy_12 rfl (lv_at hl 2 rfl) ?_
        refine zg1_1 C hH (zChart_n0 hC) (zChart_k0 hC) q_394 (zChart_blk hC).1 dX1_madeBy_13 ?_
        refine zg0_3 C hH (zBlocks_n0 (zChart_blk hC).2) (zBlocks_k0 (zChart_blk hC).2) q_235 (zBlocks_r3 (zChart_blk hC).2) dX1_madeBy_16 ?_
        refine lv_iload_n C.1 C.2.1 dX1_madeBy_19 rfl (lv_at hl 1 rfl) ?_
        obtain ⟨o3, hF⟩ := hF
        refine zd_iald C hH (zBlocks_n3 (zChart_blk hC).2) (zBlocks_k3 (zChart_blk hC).2) o3.1 (by rw [zBlocks_l3 (zChart_blk hC).2]; exact o3.2) (by rw [zBlocks_l3 (zChart_blk hC).2]; decide) dX1_madeBy_20 ?_
        refine lv_iload_n C.1 C.2.1 dX1_madeBy_21 rfl (lv_at hl 3 rfl) ?_
        refine zd_icmp_ne C (hH.2.2.1 _ _) ha 31 dX1_madeBy_22 (by decide) (fun c4 => ?_) (fun c4 => ?_)
        · have hF := hF.1 c4
          refine zd_iinc (k := 1) (lv' := [(3, .int (zI (k + 1))), (2, .int (zI (u))), (0, .ref (bs + (i))), (1, .int (zI (a)))]) C hl rfl dX1_madeBy_31 (by decide) rfl (fun ls hl => ?_)
          refine lv_goto (tgt := 4) C.1 C.2.1 dX1_madeBy_34 (by decide) ?_
          obtain ⟨o5, hF⟩ := hF
          exact ih1 (u) (k + 1) hu o5 hF.1 (Nat.lt_of_lt_of_le hF.2 (Nat.le_of_lt_succ hmu1)) _ _ _ hH hS (lv_sub hl [1, 0, 2, 3] rfl)
        · have hF := hF.2 c4
          refine lv_iload_n C.1 C.2.1 dX1_madeBy_25 rfl (lv_at hl 0 rfl) ?_
          refine zd_iconst C dX1_madeBy_26 ?_
          refine lv_iload_n C.1 C.2.1 dX1_madeBy_27 rfl (lv_at hl 1 rfl) ?_
          refine zd_ishl C dX1_madeBy_28 ?_
          refine zd_ior C dX1_madeBy_29 ?_
          refine lv_istore_n (lv' := [(2, .int (zI (zOr (u) (zShl (1) (k))))), (3, .int (zI (k))), (0, .ref (bs + (i))), (1, .int (zI (a)))]) C.1 C.2.1 dX1_madeBy_30 rfl hl (by decide) rfl (fun ls hl => ?_)
          refine zd_iinc (k := 1) (lv' := [(3, .int (zI (k + 1))), (2, .int (zI (zOr (u) (zShl (1) (k))))), (0, .ref (bs + (i))), (1, .int (zI (a)))]) C hl rfl dX1_madeBy_31 (by decide) rfl (fun ls hl => ?_)
          refine lv_goto (tgt := 4) C.1 C.2.1 dX1_madeBy_34 (by decide) ?_
          obtain ⟨o6, hF⟩ := hF
          exact ih1 (zOr (u) (zShl (1) (k))) (k + 1) (zI_rg _) o6 hF.1 (Nat.lt_of_lt_of_le hF.2 (Nat.le_of_lt_succ hmu1)) _ _ _ hH hS (lv_sub hl [1, 0, 2, 3] rfl)
  exact L1 (((20 - ((1 : Int))).toNat) + 1) ((0 : Int)) ((1 : Int)) (by decide) (by decide) hI1 (Nat.lt_succ_self _) _ _ _ hH hS (lv_sub hl [1, 0, 2, 3] rfl)
theorem v_X1_madeBy {X Y : Nat → Int → Int} {R : Nat → Int → Option Nat} {i : Nat} {Z : Nat → Int → Int} {q : Nat} (a : Int) (ha : rI a) (hp : cA Z q X Y R i) : F_X1_madeBy i Z q X Y R a := by
  unfold F_X1_madeBy
  intro hX hY
  obtain ⟨l27, r27, e27⟩ := cA_l hp
  refine ⟨?_, ?_⟩
  · exact ⟨by omega, (bS_1 rfl).symm⟩
  intro u k
  intro _
  intro _
  intro h1
  obtain ⟨⟨k1, k2⟩, hr⟩ := h1
  obtain ⟨kn, rfl⟩ := nat_of (show 0 ≤ k by omega)
  subst hr
  refine ⟨?_, ?_⟩
  · intro c1
    rw [show Z q 27 = kn by omega]
  intro c2
  have kl : (kn : Int) < Z q 27 := by omega
  have es : ((kn : Int) + 1).toNat = kn + 1 := by omega
  have e0 : ((kn : Nat) : Int).toNat = kn := by omega
  rw [cA_m hp (by omega) kl]
  refine ⟨?_, ?_⟩
  · first | omega | exact ⟨by omega, by omega⟩ | decide | assumption | exact ⟨by omega, by omega, by omega⟩ | exact ⟨by decide, by decide⟩
  refine ⟨?_, ?_⟩
  · intro c3
    refine ⟨?_, ?_⟩
    · first | omega | exact ⟨by omega, by omega⟩ | decide | assumption | exact ⟨by omega, by omega, by omega⟩ | exact ⟨by decide, by decide⟩
    refine ⟨?_, ?_⟩
    · exact ⟨by omega, by rw [es, e0, bS_n (by unfold fMd; rw [decide_eq_false c3, Bool.and_false])]⟩
    first | omega | exact ⟨by omega, by omega⟩ | decide | assumption | exact ⟨by omega, by omega, by omega⟩ | exact ⟨by decide, by decide⟩
  intro c4
  refine ⟨?_, ?_⟩
  · first | omega | exact ⟨by omega, by omega⟩ | decide | assumption | exact ⟨by omega, by omega, by omega⟩ | exact ⟨by decide, by decide⟩
  refine ⟨?_, ?_⟩
  · exact ⟨by omega, by rw [es, e0, bS_y (by unfold fMd; rw [decide_eq_true (Classical.not_not.mp c4), decide_eq_true (show 1 ≤ kn by omega)]; rfl)]⟩
  first | omega | exact ⟨by omega, by omega⟩ | decide | assumption | exact ⟨by omega, by omega, by omega⟩ | exact ⟨by decide, by decide⟩
theorem c_X1_madeBy {l : Launch} {D : va_G} {cy : Nat → ClassId} {bs N : Nat} {sa : Nat → Nat} {kd len : Nat → Nat} {X Y : Nat → Int → Int} {R : Nat → Int → Option Nat} {i : Nat} {Z : Nat → Int → Int} {q : Nat} (hC : zChart N kd len R i) (a : Int) (ha : rI a) (hp : cA Z q X Y R i) : Met l yX1_madeBy (.code yX1_madeBy cX1_madeBy 4 (some .int) :: zTB) (zRm 0 0) (zPc D cy bs sa N kd len X Y R [.ref (bs + (i)), .int (zI (a))]) (zQi D cy bs N kd len (fun r st => r = bS (fMd Z q (a)) (Z q 27).toNat ∧ st = (X, Y, R))) 0 0 (zA bs) := w_X1_madeBy hC a ha (v_X1_madeBy a ha hp)
abbrev cX1_soundWithout : ByteArray := prog_3_method_9_code
def yX1_soundWithout : MethodName := ⟨RX1, "soundWithout", "(I)I"⟩
theorem dX1_soundWithout_0 : decode cX1_soundWithout 0 = .ok (.iconst 0, 1) := by decide +kernel
theorem dX1_soundWithout_1 : decode cX1_soundWithout 1 = .ok (.istore_n 2, 1) := by decide +kernel
theorem dX1_soundWithout_2 : decode cX1_soundWithout 2 = .ok (.iconst 0, 1) := by decide +kernel
theorem dX1_soundWithout_3 : decode cX1_soundWithout 3 = .ok (.istore_n 3, 1) := by decide +kernel
theorem dX1_soundWithout_4 : decode cX1_soundWithout 4 = .ok (.iload_n 3, 1) := by decide +kernel
theorem dX1_soundWithout_5 : decode cX1_soundWithout 5 = .ok (.aload_n 0, 1) := by decide +kernel
theorem dX1_soundWithout_6 : decode cX1_soundWithout 6 = .ok (.getfield 68, 3) := by decide +kernel
theorem dX1_soundWithout_9 : decode cX1_soundWithout 9 = .ok (.if_icmp .gt 37, 3) := by decide +kernel
theorem dX1_soundWithout_12 : decode cX1_soundWithout 12 = .ok (.aload_n 0, 1) := by decide +kernel
theorem dX1_soundWithout_13 : decode cX1_soundWithout 13 = .ok (.getfield 69, 3) := by decide +kernel
theorem dX1_soundWithout_16 : decode cX1_soundWithout 16 = .ok (.iload_n 3, 1) := by decide +kernel
theorem dX1_soundWithout_17 : decode cX1_soundWithout 17 = .ok (.invokestatic 127, 3) := by decide +kernel
theorem dX1_soundWithout_20 : decode cX1_soundWithout 20 = .ok (.ifCond .eq 20, 3) := by decide +kernel
theorem dX1_soundWithout_23 : decode cX1_soundWithout 23 = .ok (.aload_n 0, 1) := by decide +kernel
theorem dX1_soundWithout_24 : decode cX1_soundWithout 24 = .ok (.getfield 29, 3) := by decide +kernel
theorem dX1_soundWithout_27 : decode cX1_soundWithout 27 = .ok (.iload_n 3, 1) := by decide +kernel
theorem dX1_soundWithout_28 : decode cX1_soundWithout 28 = .ok (.iaload, 1) := by decide +kernel
theorem dX1_soundWithout_29 : decode cX1_soundWithout 29 = .ok (.iload_n 1, 1) := by decide +kernel
theorem dX1_soundWithout_30 : decode cX1_soundWithout 30 = .ok (.iand, 1) := by decide +kernel
theorem dX1_soundWithout_31 : decode cX1_soundWithout 31 = .ok (.ifCond .ne 9, 3) := by decide +kernel
theorem dX1_soundWithout_34 : decode cX1_soundWithout 34 = .ok (.iload_n 2, 1) := by decide +kernel
theorem dX1_soundWithout_35 : decode cX1_soundWithout 35 = .ok (.iconst 1, 1) := by decide +kernel
theorem dX1_soundWithout_36 : decode cX1_soundWithout 36 = .ok (.iload_n 3, 1) := by decide +kernel
theorem dX1_soundWithout_37 : decode cX1_soundWithout 37 = .ok (.ishl, 1) := by decide +kernel
theorem dX1_soundWithout_38 : decode cX1_soundWithout 38 = .ok (.ior, 1) := by decide +kernel
theorem dX1_soundWithout_39 : decode cX1_soundWithout 39 = .ok (.istore_n 2, 1) := by decide +kernel
theorem dX1_soundWithout_40 : decode cX1_soundWithout 40 = .ok (.iinc 3 1, 3) := by decide +kernel
theorem dX1_soundWithout_43 : decode cX1_soundWithout 43 = .ok (.goto (-39), 3) := by decide +kernel
theorem dX1_soundWithout_46 : decode cX1_soundWithout 46 = .ok (.iload_n 2, 1) := by decide +kernel
theorem dX1_soundWithout_47 : decode cX1_soundWithout 47 = .ok (.ireturn, 1) := by decide +kernel
def F_X1_soundWithout (i : Nat) (Z : Nat → Int → Int) (q : Nat) (X Y : Nat → Int → Int) (R : Nat → Int → Option Nat) (a : Int) : Prop := (∀ i j, rI (X i j)) → (∀ i j, rL (Y i j)) → ((0 ≤ (0 : Int) ∧ (0 : Int) ≤ Z q 27) ∧ (0 : Int) = bS (mWo Z q a) ((0 : Int)).toNat) ∧ (∀ (u : Int) (k : Int), rI u → rI k → ((0 ≤ k ∧ k ≤ Z q 27) ∧ u = bS (mWo Z q a) (k).toNat) → ((((X (i) 2) < k) → (u = bS (mWo Z q (a)) (Z q 27).toNat)) ∧ ((¬ ((X (i) 2) < k)) → ((((decide (0 ≤ k ∧ k < 15) && decide (¬ zAnd (zShr (X (i) 3) (k)) 1 = 0)) = false) → ((rI (k + 1)) ∧ ((0 ≤ (k + 1) ∧ (k + 1) ≤ Z q 27) ∧ u = bS (mWo Z q a) ((k + 1)).toNat) ∧ (((20 - (k + 1)).toNat) < ((20 - (k)).toNat)))) ∧ (((decide (0 ≤ k ∧ k < 15) && decide (¬ zAnd (zShr (X (i) 3) (k)) 1 = 0)) = true) → ((0 ≤ k ∧ k < 15) ∧ (((¬ (zAnd (X (i + 10) (k)) (a)) = 0) → ((rI (k + 1)) ∧ ((0 ≤ (k + 1) ∧ (k + 1) ≤ Z q 27) ∧ u = bS (mWo Z q a) ((k + 1)).toNat) ∧ (((20 - (k + 1)).toNat) < ((20 - (k)).toNat)))) ∧ ((¬ (¬ (zAnd (X (i + 10) (k)) (a)) = 0)) → ((rI (k + 1)) ∧ ((0 ≤ (k + 1) ∧ (k + 1) ≤ Z q 27) ∧ (zOr (u) (zShl (1) (k))) = bS (mWo Z q a) ((k + 1)).toNat) ∧ (((20 - (k + 1)).toNat) < ((20 - (k)).toNat)))))))))))
set_option maxHeartbeats 4000000 in
set_option maxRecDepth 100000 in
theorem w_X1_soundWithout {l : Launch} {D : va_G} {cy : Nat → ClassId} {bs N : Nat} {sa : Nat → Nat} {kd len : Nat → Nat} {X Y : Nat → Int → Int} {R : Nat → Int → Option Nat} {i : Nat} {Z : Nat → Int → Int} {q : Nat} (hC : zChart N kd len R i) (a : Int) (ha : rI a) (hF : F_X1_soundWithout i Z q X Y R a) : Met l yX1_soundWithout (.code yX1_soundWithout cX1_soundWithout 4 (some .int) :: zTB) (zRm 1 21) (zPc D cy bs sa N kd len X Y R [.ref (bs + (i)), .int (zI (a))]) (zQi D cy bs N kd len (fun r st => r = bS (mWo Z q (a)) (Z q 27).toNat ∧ st = (X, Y, R))) 0 0 (zA bs) := by
  refine zstart (by decide) (Nat.le_of_ble_eq_true rfl) ?_
  intro p e s m args below meth c ls C hE hH hr hlk hnm hl hargs
  have hF := hF hH.2.2.1 hH.2.2.2
  have hS : va_S (zA bs) s.heap s.heap [] := va_S.rf
  have hl : lv_has ls 4 [(0, .ref (bs + (i))), (1, .int (zI (a)))] := hl
  refine zd_iconst C dX1_soundWithout_0 ?_
  refine lv_istore_n (lv' := [(2, .int (zI (0))), (0, .ref (bs + (i))), (1, .int (zI (a)))]) C.1 C.2.1 dX1_soundWithout_1 rfl hl (by decide) rfl (fun ls hl => ?_)
  refine zd_iconst C dX1_soundWithout_2 ?_
  refine lv_istore_n (lv' := [(3, .int (zI (0))), (2, .int (zI (0))), (0, .ref (bs + (i))), (1, .int (zI (a)))]) C.1 C.2.1 dX1_soundWithout_3 rfl hl (by decide) rfl (fun ls hl => ?_)
  obtain ⟨hI1, hF⟩ := hF
  have L1 : ∀ (fu : Nat) (u : Int) (k : Int), rI u → rI k → ((0 ≤ k ∧ k ≤ Z q 27) ∧ u = bS (mWo Z q a) (k).toNat) → ((20 - (k)).toNat) < fu → ∀ (H : Heap) (locs : List Loc) (ls : Array Slot), zH D cy bs N kd len X Y R H → va_S (zA bs) s.heap H locs → lv_has ls 4 [(2, .int (zI (u))), (3, .int (zI (k))), (0, .ref (bs + (i))), (1, .int (zI (a)))] → W p l e (zRm 1 21) s m args below meth c H locs 0 0 (MQ below (zQi D cy bs N kd len (fun r st => r = bS (mWo Z q (a)) (Z q 27).toNat ∧ st = (X, Y, R))) args s 0 0 (zA bs)) (F0 m 4 ls []) := by
    intro fu
    induction fu with
    | zero => intro u k _ _ _ hmu; exact absurd hmu (Nat.not_lt_zero _)
    | succ fu ih1 =>
      intro u k hu hk hI hmu1 H locs ls hH hS hl
      have hF := hF u k hu hk  hI
      refine lv_iload_n C.1 C.2.1 dX1_soundWithout_4 rfl (lv_at hl 1 rfl) ?_
      refine lv_aload_n C.1 C.2.1 dX1_soundWithout_5 rfl (lv_at hl 2 rfl) ?_
      refine zg1_2 C hH (zChart_n0 hC) (zChart_k0 hC) q_396 dX1_soundWithout_6 ?_
      refine zd_icmp_gt C hk (hH.2.2.1 _ _) 46 dX1_soundWithout_9 (by decide) (fun c2 => ?_) (fun c2 => ?_)
      · have hF := hF.1 c2
        refine lv_iload_n C.1 C.2.1 dX1_soundWithout_46 rfl (lv_at hl 0 rfl) ?_
        exact zd_iret C hr hlk hH hS hu (⟨hF, rfl⟩) dX1_soundWithout_47
      · have hF := hF.2 c2
        refine lv_aload_n C.1 C.2.1 dX1_soundWithout_12 rfl (lv_at hl 2 rfl) ?_
        refine zg1_3 C hH (zChart_n0 hC) (zChart_k0 hC) q_399 dX1_soundWithout_13 ?_
        refine lv_iload_n C.1 C.2.1 dX1_soundWithout_16 rfl (lv_at hl 1 rfl) ?_
        refine zgoi (zrunSN (As := [.int (zI (X (i) 3)), .int (zI (k))]) (rest := []) C hE hH hS hl.1 (c_X10_isIn (l := l)  (X (i) 3) (hH.2.2.1 _ _) (k) hk) k_RX1_127 ⟨Nat.le_of_ble_eq_true rfl, Nat.le_of_ble_eq_true rfl⟩ rfl (Nat.le_of_ble_eq_true rfl) dX1_soundWithout_17 ⟨Nat.zero_le _, Nat.zero_le _⟩) hS (fun rq Xq Yq Rq H locs hrq hq hH hS => ?_)
        obtain ⟨h91, h92⟩ := hq
        have h93 : Xq = X := congrArg (fun z => z.1) h92
        have h94 : Yq = Y := congrArg (fun z => z.2.1) h92
        have h95 : Rq = R := congrArg (fun z => z.2.2) h92
        rw [h93, h94, h95] at hH
        subst h91
        refine zd_ifB_eq C 40 dX1_soundWithout_20 (by decide) (fun c3 => ?_) (fun c3 => ?_)
        · have hF := hF.1 c3
          refine zd_iinc (k := 1) (lv' := [(3, .int (zI (k + 1))), (2, .int (zI (u))), (0, .ref (bs + (i))), (1, .int (zI (a)))]) C hl rfl dX1_soundWithout_40 (by decide) rfl (fun ls hl => ?_)
          refine lv_goto (tgt := 4) C.1 C.2.1 dX1_soundWithout_43 (by decide) ?_
          obtain ⟨o4, hF⟩ := hF
          exact ih1 (u) (k + 1) hu o4 hF.1 (Nat.lt_of_lt_of_le hF.2 (Nat.le_of_lt_succ hmu1)) _ _ _ hH hS (lv_sub hl [1, 0, 2, 3] rfl)
        · have hF := hF.2 c3
          refine lv_aload_n C.1 C.2.1 dX1_soundWithout_23 rfl (lv_at hl 2 rfl) ?_
          refine zg1_5 C hH (zChart_n0 hC) (zChart_k0 hC) q_404 (zChart_r10 hC) dX1_soundWithout_24 ?_
          refine lv_iload_n C.1 C.2.1 dX1_soundWithout_27 rfl (lv_at hl 1 rfl) ?_
          obtain ⟨o5, hF⟩ := hF
          refine zd_iald C hH (zChart_n10 hC) (zChart_k10 hC) o5.1 (by rw [zChart_l10 hC]; exact o5.2) (by rw [zChart_l10 hC]; decide) dX1_soundWithout_28 ?_
          refine lv_iload_n C.1 C.2.1 dX1_soundWithout_29 rfl (lv_at hl 3 rfl) ?_
          refine zd_iand C dX1_soundWithout_30 ?_
          refine zd_if_ne C (zI_rg _) 40 dX1_soundWithout_31 (by decide) (fun c6 => ?_) (fun c6 => ?_)
          · have hF := hF.1 c6
            refine zd_iinc (k := 1) (lv' := [(3, .int (zI (k + 1))), (2, .int (zI (u))), (0, .ref (bs + (i))), (1, .int (zI (a)))]) C hl rfl dX1_soundWithout_40 (by decide) rfl (fun ls hl => ?_)
            refine lv_goto (tgt := 4) C.1 C.2.1 dX1_soundWithout_43 (by decide) ?_
            obtain ⟨o7, hF⟩ := hF
            exact ih1 (u) (k + 1) hu o7 hF.1 (Nat.lt_of_lt_of_le hF.2 (Nat.le_of_lt_succ hmu1)) _ _ _ hH hS (lv_sub hl [1, 0, 2, 3] rfl)
          · have hF := hF.2 c6
            refine lv_iload_n C.1 C.2.1 dX1_soundWithout_34 rfl (lv_at hl 0 rfl) ?_
            refine zd_iconst C dX1_soundWithout_35 ?_
            refine lv_iload_n C.1 C.2.1 dX1_soundWithout_36 rfl (lv_at hl 1 rfl) ?_
            refine zd_ishl C dX1_soundWithout_37 ?_
            refine zd_ior C dX1_soundWithout_38 ?_
            refine lv_istore_n (lv' := [(2, .int (zI (zOr (u) (zShl (1) (k))))), (3, .int (zI (k))), (0, .ref (bs + (i))), (1, .int (zI (a)))]) C.1 C.2.1 dX1_soundWithout_39 rfl hl (by decide) rfl (fun ls hl => ?_)
            refine zd_iinc (k := 1) (lv' := [(3, .int (zI (k + 1))), (2, .int (zI (zOr (u) (zShl (1) (k))))), (0, .ref (bs + (i))), (1, .int (zI (a)))]) C hl rfl dX1_soundWithout_40 (by decide) rfl (fun ls hl => ?_)
            refine lv_goto (tgt := 4) C.1 C.2.1 dX1_soundWithout_43 (by decide) ?_
            obtain ⟨o8, hF⟩ := hF
            exact ih1 (zOr (u) (zShl (1) (k))) (k + 1) (zI_rg _) o8 hF.1 (Nat.lt_of_lt_of_le hF.2 (Nat.le_of_lt_succ hmu1)) _ _ _ hH hS (lv_sub hl [1, 0, 2, 3] rfl)
  exact L1 (((20 - ((0 : Int))).toNat) + 1) ((0 : Int)) ((0 : Int)) (by decide) (by decide) hI1 (Nat.lt_succ_self _) _ _ _ hH hS (lv_sub hl [1, 0, 2, 3] rfl)
theorem v_X1_soundWithout {X Y : Nat → Int → Int} {R : Nat → Int → Option Nat} {i : Nat} {Z : Nat → Int → Int} {q : Nat} (a : Int) (ha : rI a) (hp : cA Z q X Y R i ∧ mHas (a) 0 = false) : F_X1_soundWithout i Z q X Y R a := by
  unfold F_X1_soundWithout
  intro hX hY
  obtain ⟨hq, ha0⟩ := hp
  obtain ⟨l27, r27, e27⟩ := cA_l hq
  refine ⟨?_, ?_⟩
  · exact ⟨by omega, rfl⟩
  intro u k
  intro _
  intro _
  intro h1
  obtain ⟨⟨k1, k2⟩, hr⟩ := h1
  obtain ⟨kn, rfl⟩ := nat_of (show 0 ≤ k by omega)
  subst hr
  refine ⟨?_, ?_⟩
  · intro c1
    rw [show Z q 27 = kn by omega]
  intro c2
  have kl : (kn : Int) < Z q 27 := by omega
  have es : ((kn : Int) + 1).toNat = kn + 1 := by omega
  have e0 : ((kn : Nat) : Int).toNat = kn := by omega
  refine ⟨?_, ?_⟩
  · intro c3
    have c3 := (cA_isIn hq kl).symm.trans c3
    refine ⟨?_, ?_⟩
    · first | omega | exact ⟨by omega, by omega⟩ | decide | assumption | exact ⟨by omega, by omega, by omega⟩ | exact ⟨by decide, by decide⟩
    refine ⟨?_, ?_⟩
    · exact ⟨by omega, by rw [es, e0, bS_n (by rw [mWo_e hq.1.1.1 ha0 kn kn (Nat.le_refl _) kl, c3]; rfl)]⟩
    first | omega | exact ⟨by omega, by omega⟩ | decide | assumption | exact ⟨by omega, by omega, by omega⟩ | exact ⟨by decide, by decide⟩
  intro c4
  have c4 := (cA_isIn hq kl).symm.trans c4
  refine ⟨?_, ?_⟩
  · first | omega | exact ⟨by omega, by omega⟩ | decide | assumption | exact ⟨by omega, by omega, by omega⟩ | exact ⟨by decide, by decide⟩
  refine ⟨?_, ?_⟩
  · intro c5
    refine ⟨?_, ?_⟩
    · first | omega | exact ⟨by omega, by omega⟩ | decide | assumption | exact ⟨by omega, by omega, by omega⟩ | exact ⟨by decide, by decide⟩
    refine ⟨?_, ?_⟩
    · exact ⟨by omega, by rw [es, e0, bS_n (by rw [mWo_e hq.1.1.1 ha0 kn kn (Nat.le_refl _) kl, decide_eq_false (by rw [← cA_w hq kl]; exact c5), Bool.and_false])]⟩
    first | omega | exact ⟨by omega, by omega⟩ | decide | assumption | exact ⟨by omega, by omega, by omega⟩ | exact ⟨by decide, by decide⟩
  intro c6
  refine ⟨?_, ?_⟩
  · first | omega | exact ⟨by omega, by omega⟩ | decide | assumption | exact ⟨by omega, by omega, by omega⟩ | exact ⟨by decide, by decide⟩
  refine ⟨?_, ?_⟩
  · exact ⟨by omega, by rw [es, e0, bS_y (by rw [mWo_e hq.1.1.1 ha0 kn kn (Nat.le_refl _) kl, c4, decide_eq_true (by rw [← cA_w hq kl]; exact Classical.not_not.mp c6)]; rfl)]⟩
  first | omega | exact ⟨by omega, by omega⟩ | decide | assumption | exact ⟨by omega, by omega, by omega⟩ | exact ⟨by decide, by decide⟩
theorem c_X1_soundWithout {l : Launch} {D : va_G} {cy : Nat → ClassId} {bs N : Nat} {sa : Nat → Nat} {kd len : Nat → Nat} {X Y : Nat → Int → Int} {R : Nat → Int → Option Nat} {i : Nat} {Z : Nat → Int → Int} {q : Nat} (hC : zChart N kd len R i) (a : Int) (ha : rI a) (hp : cA Z q X Y R i ∧ mHas (a) 0 = false) : Met l yX1_soundWithout (.code yX1_soundWithout cX1_soundWithout 4 (some .int) :: zTB) (zRm 1 21) (zPc D cy bs sa N kd len X Y R [.ref (bs + (i)), .int (zI (a))]) (zQi D cy bs N kd len (fun r st => r = bS (mWo Z q (a)) (Z q 27).toNat ∧ st = (X, Y, R))) 0 0 (zA bs) := w_X1_soundWithout hC a ha (v_X1_soundWithout a ha hp)
abbrev cX1_soundChildren : ByteArray := prog_3_method_20_code
def yX1_soundChildren : MethodName := ⟨RX1, "soundChildren", "(I)I"⟩
theorem dX1_soundChildren_0 : decode cX1_soundChildren 0 = .ok (.iconst 0, 1) := by decide +kernel
theorem dX1_soundChildren_1 : decode cX1_soundChildren 1 = .ok (.istore_n 2, 1) := by decide +kernel
theorem dX1_soundChildren_2 : decode cX1_soundChildren 2 = .ok (.iconst 1, 1) := by decide +kernel
theorem dX1_soundChildren_3 : decode cX1_soundChildren 3 = .ok (.istore_n 3, 1) := by decide +kernel
theorem dX1_soundChildren_4 : decode cX1_soundChildren 4 = .ok (.iload_n 3, 1) := by decide +kernel
theorem dX1_soundChildren_5 : decode cX1_soundChildren 5 = .ok (.aload_n 0, 1) := by decide +kernel
theorem dX1_soundChildren_6 : decode cX1_soundChildren 6 = .ok (.getfield 68, 3) := by decide +kernel
theorem dX1_soundChildren_9 : decode cX1_soundChildren 9 = .ok (.if_icmp .gt 36, 3) := by decide +kernel
theorem dX1_soundChildren_12 : decode cX1_soundChildren 12 = .ok (.aload_n 0, 1) := by decide +kernel
theorem dX1_soundChildren_13 : decode cX1_soundChildren 13 = .ok (.getfield 69, 3) := by decide +kernel
theorem dX1_soundChildren_16 : decode cX1_soundChildren 16 = .ok (.iload_n 3, 1) := by decide +kernel
theorem dX1_soundChildren_17 : decode cX1_soundChildren 17 = .ok (.invokestatic 127, 3) := by decide +kernel
theorem dX1_soundChildren_20 : decode cX1_soundChildren 20 = .ok (.ifCond .eq 19, 3) := by decide +kernel
theorem dX1_soundChildren_23 : decode cX1_soundChildren 23 = .ok (.aload_n 0, 1) := by decide +kernel
theorem dX1_soundChildren_24 : decode cX1_soundChildren 24 = .ok (.getfield 25, 3) := by decide +kernel
theorem dX1_soundChildren_27 : decode cX1_soundChildren 27 = .ok (.iload_n 3, 1) := by decide +kernel
theorem dX1_soundChildren_28 : decode cX1_soundChildren 28 = .ok (.iaload, 1) := by decide +kernel
theorem dX1_soundChildren_29 : decode cX1_soundChildren 29 = .ok (.iload_n 1, 1) := by decide +kernel
theorem dX1_soundChildren_30 : decode cX1_soundChildren 30 = .ok (.if_icmp .ne 9, 3) := by decide +kernel
theorem dX1_soundChildren_33 : decode cX1_soundChildren 33 = .ok (.iload_n 2, 1) := by decide +kernel
theorem dX1_soundChildren_34 : decode cX1_soundChildren 34 = .ok (.iconst 1, 1) := by decide +kernel
theorem dX1_soundChildren_35 : decode cX1_soundChildren 35 = .ok (.iload_n 3, 1) := by decide +kernel
theorem dX1_soundChildren_36 : decode cX1_soundChildren 36 = .ok (.ishl, 1) := by decide +kernel
theorem dX1_soundChildren_37 : decode cX1_soundChildren 37 = .ok (.ior, 1) := by decide +kernel
theorem dX1_soundChildren_38 : decode cX1_soundChildren 38 = .ok (.istore_n 2, 1) := by decide +kernel
theorem dX1_soundChildren_39 : decode cX1_soundChildren 39 = .ok (.iinc 3 1, 3) := by decide +kernel
theorem dX1_soundChildren_42 : decode cX1_soundChildren 42 = .ok (.goto (-38), 3) := by decide +kernel
theorem dX1_soundChildren_45 : decode cX1_soundChildren 45 = .ok (.iload_n 2, 1) := by decide +kernel
theorem dX1_soundChildren_46 : decode cX1_soundChildren 46 = .ok (.ireturn, 1) := by decide +kernel
def F_X1_soundChildren (i : Nat) (Z : Nat → Int → Int) (q : Nat) (X Y : Nat → Int → Int) (R : Nat → Int → Option Nat) (a : Int) : Prop := (∀ i j, rI (X i j)) → (∀ i j, rL (Y i j)) → ((1 ≤ (1 : Int) ∧ (1 : Int) ≤ Z q 27) ∧ (0 : Int) = bS (fSc (rP Z q) (sdf Z q) a.toNat) ((1 : Int)).toNat) ∧ (∀ (u : Int) (k : Int), rI u → rI k → ((1 ≤ k ∧ k ≤ Z q 27) ∧ u = bS (fSc (rP Z q) (sdf Z q) a.toNat) (k).toNat) → ((((X (i) 2) < k) → (u = bS (fSc (rP Z q) (sdf Z q) (a).toNat) (Z q 27).toNat)) ∧ ((¬ ((X (i) 2) < k)) → ((((decide (0 ≤ k ∧ k < 15) && decide (¬ zAnd (zShr (X (i) 3) (k)) 1 = 0)) = false) → ((rI (k + 1)) ∧ ((1 ≤ (k + 1) ∧ (k + 1) ≤ Z q 27) ∧ u = bS (fSc (rP Z q) (sdf Z q) a.toNat) ((k + 1)).toNat) ∧ (((20 - (k + 1)).toNat) < ((20 - (k)).toNat)))) ∧ (((decide (0 ≤ k ∧ k < 15) && decide (¬ zAnd (zShr (X (i) 3) (k)) 1 = 0)) = true) → ((0 ≤ k ∧ k < 15) ∧ (((¬ (X (i + 9) (k)) = a) → ((rI (k + 1)) ∧ ((1 ≤ (k + 1) ∧ (k + 1) ≤ Z q 27) ∧ u = bS (fSc (rP Z q) (sdf Z q) a.toNat) ((k + 1)).toNat) ∧ (((20 - (k + 1)).toNat) < ((20 - (k)).toNat)))) ∧ ((¬ (¬ (X (i + 9) (k)) = a)) → ((rI (k + 1)) ∧ ((1 ≤ (k + 1) ∧ (k + 1) ≤ Z q 27) ∧ (zOr (u) (zShl (1) (k))) = bS (fSc (rP Z q) (sdf Z q) a.toNat) ((k + 1)).toNat) ∧ (((20 - (k + 1)).toNat) < ((20 - (k)).toNat)))))))))))
set_option maxHeartbeats 4000000 in
set_option maxRecDepth 100000 in
theorem w_X1_soundChildren {l : Launch} {D : va_G} {cy : Nat → ClassId} {bs N : Nat} {sa : Nat → Nat} {kd len : Nat → Nat} {X Y : Nat → Int → Int} {R : Nat → Int → Option Nat} {i : Nat} {Z : Nat → Int → Int} {q : Nat} (hC : zChart N kd len R i) (a : Int) (ha : rI a) (hF : F_X1_soundChildren i Z q X Y R a) : Met l yX1_soundChildren (.code yX1_soundChildren cX1_soundChildren 4 (some .int) :: zTB) (zRm 1 21) (zPc D cy bs sa N kd len X Y R [.ref (bs + (i)), .int (zI (a))]) (zQi D cy bs N kd len (fun r st => r = bS (fSc (rP Z q) (sdf Z q) (a).toNat) (Z q 27).toNat ∧ st = (X, Y, R))) 0 0 (zA bs) := by
  refine zstart (by decide) (Nat.le_of_ble_eq_true rfl) ?_
  intro p e s m args below meth c ls C hE hH hr hlk hnm hl hargs
  have hF := hF hH.2.2.1 hH.2.2.2
  have hS : va_S (zA bs) s.heap s.heap [] := va_S.rf
  have hl : lv_has ls 4 [(0, .ref (bs + (i))), (1, .int (zI (a)))] := hl
  refine zd_iconst C dX1_soundChildren_0 ?_
  refine lv_istore_n (lv' := [(2, .int (zI (0))), (0, .ref (bs + (i))), (1, .int (zI (a)))]) C.1 C.2.1 dX1_soundChildren_1 rfl hl (by decide) rfl (fun ls hl => ?_)
  refine zd_iconst C dX1_soundChildren_2 ?_
  refine lv_istore_n (lv' := [(3, .int (zI (1))), (2, .int (zI (0))), (0, .ref (bs + (i))), (1, .int (zI (a)))]) C.1 C.2.1 dX1_soundChildren_3 rfl hl (by decide) rfl (fun ls hl => ?_)
  obtain ⟨hI1, hF⟩ := hF
  have L1 : ∀ (fu : Nat) (u : Int) (k : Int), rI u → rI k → ((1 ≤ k ∧ k ≤ Z q 27) ∧ u = bS (fSc (rP Z q) (sdf Z q) a.toNat) (k).toNat) → ((20 - (k)).toNat) < fu → ∀ (H : Heap) (locs : List Loc) (ls : Array Slot), zH D cy bs N kd len X Y R H → va_S (zA bs) s.heap H locs → lv_has ls 4 [(2, .int (zI (u))), (3, .int (zI (k))), (0, .ref (bs + (i))), (1, .int (zI (a)))] → W p l e (zRm 1 21) s m args below meth c H locs 0 0 (MQ below (zQi D cy bs N kd len (fun r st => r = bS (fSc (rP Z q) (sdf Z q) (a).toNat) (Z q 27).toNat ∧ st = (X, Y, R))) args s 0 0 (zA bs)) (F0 m 4 ls []) := by
    intro fu
    induction fu with
    | zero => intro u k _ _ _ hmu; exact absurd hmu (Nat.not_lt_zero _)
    | succ fu ih1 =>
      intro u k hu hk hI hmu1 H locs ls hH hS hl
      have hF := hF u k hu hk  hI
      refine lv_iload_n C.1 C.2.1 dX1_soundChildren_4 rfl (lv_at hl 1 rfl) ?_
      refine lv_aload_n C.1 C.2.1 dX1_soundChildren_5 rfl (lv_at hl 2 rfl) ?_
      refine zg1_2 C hH (zChart_n0 hC) (zChart_k0 hC) q_396 dX1_soundChildren_6 ?_
      refine zd_icmp_gt C hk (hH.2.2.1 _ _) 45 dX1_soundChildren_9 (by decide) (fun c2 => ?_) (fun c2 => ?_)
      · have hF := hF.1 c2
        refine lv_iload_n C.1 C.2.1 dX1_soundChildren_45 rfl (lv_at hl 0 rfl) ?_
        exact zd_iret C hr hlk hH hS hu (⟨hF, rfl⟩) dX1_soundChildren_46
      · have hF := hF.2 c2
        refine lv_aload_n C.1 C.2.1 dX1_soundChildren_12 rfl (lv_at hl 2 rfl) ?_
        refine zg1_3 C hH (zChart_n0 hC) (zChart_k0 hC) q_399 dX1_soundChildren_13 ?_
        refine lv_iload_n C.1 C.2.1 dX1_soundChildren_16 rfl (lv_at hl 1 rfl) ?_
        refine zgoi (zrunSN (As := [.int (zI (X (i) 3)), .int (zI (k))]) (rest := []) C hE hH hS hl.1 (c_X10_isIn (l := l)  (X (i) 3) (hH.2.2.1 _ _) (k) hk) k_RX1_127 ⟨Nat.le_of_ble_eq_true rfl, Nat.le_of_ble_eq_true rfl⟩ rfl (Nat.le_of_ble_eq_true rfl) dX1_soundChildren_17 ⟨Nat.zero_le _, Nat.zero_le _⟩) hS (fun rq Xq Yq Rq H locs hrq hq hH hS => ?_)
        obtain ⟨h91, h92⟩ := hq
        have h93 : Xq = X := congrArg (fun z => z.1) h92
        have h94 : Yq = Y := congrArg (fun z => z.2.1) h92
        have h95 : Rq = R := congrArg (fun z => z.2.2) h92
        rw [h93, h94, h95] at hH
        subst h91
        refine zd_ifB_eq C 39 dX1_soundChildren_20 (by decide) (fun c3 => ?_) (fun c3 => ?_)
        · have hF := hF.1 c3
          refine zd_iinc (k := 1) (lv' := [(3, .int (zI (k + 1))), (2, .int (zI (u))), (0, .ref (bs + (i))), (1, .int (zI (a)))]) C hl rfl dX1_soundChildren_39 (by decide) rfl (fun ls hl => ?_)
          refine lv_goto (tgt := 4) C.1 C.2.1 dX1_soundChildren_42 (by decide) ?_
          obtain ⟨o4, hF⟩ := hF
          exact ih1 (u) (k + 1) hu o4 hF.1 (Nat.lt_of_lt_of_le hF.2 (Nat.le_of_lt_succ hmu1)) _ _ _ hH hS (lv_sub hl [1, 0, 2, 3] rfl)
        · have hF := hF.2 c3
          refine lv_aload_n C.1 C.2.1 dX1_soundChildren_23 rfl (lv_at hl 2 rfl) ?_
          refine zg1_4 C hH (zChart_n0 hC) (zChart_k0 hC) q_402 (zChart_r9 hC) dX1_soundChildren_24 ?_
          refine lv_iload_n C.1 C.2.1 dX1_soundChildren_27 rfl (lv_at hl 1 rfl) ?_
          obtain ⟨o5, hF⟩ := hF
          refine zd_iald C hH (zChart_n9 hC) (zChart_k9 hC) o5.1 (by rw [zChart_l9 hC]; exact o5.2) (by rw [zChart_l9 hC]; decide) dX1_soundChildren_28 ?_
          refine lv_iload_n C.1 C.2.1 dX1_soundChildren_29 rfl (lv_at hl 3 rfl) ?_
          refine zd_icmp_ne C (hH.2.2.1 _ _) ha 39 dX1_soundChildren_30 (by decide) (fun c6 => ?_) (fun c6 => ?_)
          · have hF := hF.1 c6
            refine zd_iinc (k := 1) (lv' := [(3, .int (zI (k + 1))), (2, .int (zI (u))), (0, .ref (bs + (i))), (1, .int (zI (a)))]) C hl rfl dX1_soundChildren_39 (by decide) rfl (fun ls hl => ?_)
            refine lv_goto (tgt := 4) C.1 C.2.1 dX1_soundChildren_42 (by decide) ?_
            obtain ⟨o7, hF⟩ := hF
            exact ih1 (u) (k + 1) hu o7 hF.1 (Nat.lt_of_lt_of_le hF.2 (Nat.le_of_lt_succ hmu1)) _ _ _ hH hS (lv_sub hl [1, 0, 2, 3] rfl)
          · have hF := hF.2 c6
            refine lv_iload_n C.1 C.2.1 dX1_soundChildren_33 rfl (lv_at hl 0 rfl) ?_
            refine zd_iconst C dX1_soundChildren_34 ?_
            refine lv_iload_n C.1 C.2.1 dX1_soundChildren_35 rfl (lv_at hl 1 rfl) ?_
            refine zd_ishl C dX1_soundChildren_36 ?_
            refine zd_ior C dX1_soundChildren_37 ?_
            refine lv_istore_n (lv' := [(2, .int (zI (zOr (u) (zShl (1) (k))))), (3, .int (zI (k))), (0, .ref (bs + (i))), (1, .int (zI (a)))]) C.1 C.2.1 dX1_soundChildren_38 rfl hl (by decide) rfl (fun ls hl => ?_)
            refine zd_iinc (k := 1) (lv' := [(3, .int (zI (k + 1))), (2, .int (zI (zOr (u) (zShl (1) (k))))), (0, .ref (bs + (i))), (1, .int (zI (a)))]) C hl rfl dX1_soundChildren_39 (by decide) rfl (fun ls hl => ?_)
            refine lv_goto (tgt := 4) C.1 C.2.1 dX1_soundChildren_42 (by decide) ?_
            obtain ⟨o8, hF⟩ := hF
            exact ih1 (zOr (u) (zShl (1) (k))) (k + 1) (zI_rg _) o8 hF.1 (Nat.lt_of_lt_of_le hF.2 (Nat.le_of_lt_succ hmu1)) _ _ _ hH hS (lv_sub hl [1, 0, 2, 3] rfl)
  exact L1 (((20 - ((1 : Int))).toNat) + 1) ((0 : Int)) ((1 : Int)) (by decide) (by decide) hI1 (Nat.lt_succ_self _) _ _ _ hH hS (lv_sub hl [1, 0, 2, 3] rfl)
theorem v_X1_soundChildren {X Y : Nat → Int → Int} {R : Nat → Int → Option Nat} {i : Nat} {Z : Nat → Int → Int} {q : Nat} (a : Int) (ha : rI a) (hp : cA Z q X Y R i ∧ 0 ≤ a) : F_X1_soundChildren i Z q X Y R a := by
  unfold F_X1_soundChildren
  intro hX hY
  obtain ⟨hq, ha0⟩ := hp
  obtain ⟨l27, r27, e27⟩ := cA_l hq
  refine ⟨?_, ?_⟩
  · exact ⟨by omega, (bS_1 (by unfold fSc; rw [decide_eq_false (by omega)]; rfl)).symm⟩
  intro u k
  intro _
  intro _
  intro h1
  obtain ⟨⟨k1, k2⟩, hr⟩ := h1
  obtain ⟨kn, rfl⟩ := nat_of (show 0 ≤ k by omega)
  subst hr
  refine ⟨?_, ?_⟩
  · intro c1
    rw [show Z q 27 = kn by omega]
  intro c2
  have kl : (kn : Int) < Z q 27 := by omega
  have es : ((kn : Int) + 1).toNat = kn + 1 := by omega
  have e0 : ((kn : Nat) : Int).toNat = kn := by omega
  refine ⟨?_, ?_⟩
  · intro c3
    have c3 := (cA_isIn hq kl).symm.trans c3
    refine ⟨?_, ?_⟩
    · first | omega | exact ⟨by omega, by omega⟩ | decide | assumption | exact ⟨by omega, by omega, by omega⟩ | exact ⟨by decide, by decide⟩
    refine ⟨?_, ?_⟩
    · exact ⟨by omega, by rw [es, e0, bS_n (by unfold fSc; rw [c3, Bool.false_and, Bool.and_false])]⟩
    first | omega | exact ⟨by omega, by omega⟩ | decide | assumption | exact ⟨by omega, by omega, by omega⟩ | exact ⟨by decide, by decide⟩
  intro c4
  have c4 := (cA_isIn hq kl).symm.trans c4
  have hx := cA_p hq (show 1 ≤ kn by omega) kl
  refine ⟨?_, ?_⟩
  · first | omega | exact ⟨by omega, by omega⟩ | decide | assumption | exact ⟨by omega, by omega, by omega⟩ | exact ⟨by decide, by decide⟩
  refine ⟨?_, ?_⟩
  · intro c5
    refine ⟨?_, ?_⟩
    · first | omega | exact ⟨by omega, by omega⟩ | decide | assumption | exact ⟨by omega, by omega, by omega⟩ | exact ⟨by decide, by decide⟩
    refine ⟨?_, ?_⟩
    · exact ⟨by omega, by rw [es, e0, bS_n (by unfold fSc; rw [decide_eq_false (show ¬ rP Z q kn = a.toNat by omega), Bool.and_false, Bool.and_false])]⟩
    first | omega | exact ⟨by omega, by omega⟩ | decide | assumption | exact ⟨by omega, by omega, by omega⟩ | exact ⟨by decide, by decide⟩
  intro c6
  refine ⟨?_, ?_⟩
  · first | omega | exact ⟨by omega, by omega⟩ | decide | assumption | exact ⟨by omega, by omega, by omega⟩ | exact ⟨by decide, by decide⟩
  refine ⟨?_, ?_⟩
  · exact ⟨by omega, by rw [es, e0, bS_y (by unfold fSc; rw [c4, decide_eq_true (show rP Z q kn = a.toNat by omega), decide_eq_true (show a.toNat < kn by omega)]; rfl)]⟩
  first | omega | exact ⟨by omega, by omega⟩ | decide | assumption | exact ⟨by omega, by omega, by omega⟩ | exact ⟨by decide, by decide⟩
theorem c_X1_soundChildren {l : Launch} {D : va_G} {cy : Nat → ClassId} {bs N : Nat} {sa : Nat → Nat} {kd len : Nat → Nat} {X Y : Nat → Int → Int} {R : Nat → Int → Option Nat} {i : Nat} {Z : Nat → Int → Int} {q : Nat} (hC : zChart N kd len R i) (a : Int) (ha : rI a) (hp : cA Z q X Y R i ∧ 0 ≤ a) : Met l yX1_soundChildren (.code yX1_soundChildren cX1_soundChildren 4 (some .int) :: zTB) (zRm 1 21) (zPc D cy bs sa N kd len X Y R [.ref (bs + (i)), .int (zI (a))]) (zQi D cy bs N kd len (fun r st => r = bS (fSc (rP Z q) (sdf Z q) (a).toNat) (Z q 27).toNat ∧ st = (X, Y, R))) 0 0 (zA bs) := w_X1_soundChildren hC a ha (v_X1_soundChildren a ha hp)
abbrev cX1_leafBits : ByteArray := prog_3_method_21_code
def yX1_leafBits : MethodName := ⟨RX1, "leafBits", "()I"⟩
theorem dX1_leafBits_0 : decode cX1_leafBits 0 = .ok (.iconst 0, 1) := by decide +kernel
theorem dX1_leafBits_1 : decode cX1_leafBits 1 = .ok (.istore_n 1, 1) := by decide +kernel
theorem dX1_leafBits_2 : decode cX1_leafBits 2 = .ok (.iconst 0, 1) := by decide +kernel
theorem dX1_leafBits_3 : decode cX1_leafBits 3 = .ok (.istore_n 2, 1) := by decide +kernel
theorem dX1_leafBits_4 : decode cX1_leafBits 4 = .ok (.iload_n 2, 1) := by decide +kernel
theorem dX1_leafBits_5 : decode cX1_leafBits 5 = .ok (.aload_n 0, 1) := by decide +kernel
theorem dX1_leafBits_6 : decode cX1_leafBits 6 = .ok (.getfield 68, 3) := by decide +kernel
theorem dX1_leafBits_9 : decode cX1_leafBits 9 = .ok (.if_icmp .gt 34, 3) := by decide +kernel
theorem dX1_leafBits_12 : decode cX1_leafBits 12 = .ok (.aload_n 0, 1) := by decide +kernel
theorem dX1_leafBits_13 : decode cX1_leafBits 13 = .ok (.getfield 69, 3) := by decide +kernel
theorem dX1_leafBits_16 : decode cX1_leafBits 16 = .ok (.iload_n 2, 1) := by decide +kernel
theorem dX1_leafBits_17 : decode cX1_leafBits 17 = .ok (.invokestatic 127, 3) := by decide +kernel
theorem dX1_leafBits_20 : decode cX1_leafBits 20 = .ok (.ifCond .eq 17, 3) := by decide +kernel
theorem dX1_leafBits_23 : decode cX1_leafBits 23 = .ok (.aload_n 0, 1) := by decide +kernel
theorem dX1_leafBits_24 : decode cX1_leafBits 24 = .ok (.iload_n 2, 1) := by decide +kernel
theorem dX1_leafBits_25 : decode cX1_leafBits 25 = .ok (.invokevirtual 156, 3) := by decide +kernel
theorem dX1_leafBits_28 : decode cX1_leafBits 28 = .ok (.ifCond .ne 9, 3) := by decide +kernel
theorem dX1_leafBits_31 : decode cX1_leafBits 31 = .ok (.iload_n 1, 1) := by decide +kernel
theorem dX1_leafBits_32 : decode cX1_leafBits 32 = .ok (.iconst 1, 1) := by decide +kernel
theorem dX1_leafBits_33 : decode cX1_leafBits 33 = .ok (.iload_n 2, 1) := by decide +kernel
theorem dX1_leafBits_34 : decode cX1_leafBits 34 = .ok (.ishl, 1) := by decide +kernel
theorem dX1_leafBits_35 : decode cX1_leafBits 35 = .ok (.ior, 1) := by decide +kernel
theorem dX1_leafBits_36 : decode cX1_leafBits 36 = .ok (.istore_n 1, 1) := by decide +kernel
theorem dX1_leafBits_37 : decode cX1_leafBits 37 = .ok (.iinc 2 1, 3) := by decide +kernel
theorem dX1_leafBits_40 : decode cX1_leafBits 40 = .ok (.goto (-36), 3) := by decide +kernel
theorem dX1_leafBits_43 : decode cX1_leafBits 43 = .ok (.iload_n 1, 1) := by decide +kernel
theorem dX1_leafBits_44 : decode cX1_leafBits 44 = .ok (.ireturn, 1) := by decide +kernel
theorem q_1113 : Cond.methodLink RX1 156 yX1_soundChildren ∈ zTB := zmem 1113 (by decide +kernel) rfl
theorem q_1115 : Cond.instanceMethod yX1_soundChildren ∈ zTB := zmem 1115 (by decide +kernel) rfl
theorem q_27 : Cond.selects RX1 yX1_soundChildren yX1_soundChildren ∈ zTB := zmem 27 (by decide +kernel) rfl
theorem q_1116 : Cond.code yX1_soundChildren cX1_soundChildren 4 (some .int) ∈ zTB := zmem 1116 (by decide +kernel) rfl
theorem k_RX1_156 : zLv RX1 156 RX1 yX1_soundChildren cX1_soundChildren 4 (some .int) 1 := ⟨⟨q_1113, q_1115, q_27, q_135, q_1116⟩, rfl, ⟨by decide, by decide⟩, by decide +kernel⟩
def F_X1_leafBits (i : Nat) (Z : Nat → Int → Int) (q : Nat) (X Y : Nat → Int → Int) (R : Nat → Int → Option Nat)  : Prop := (∀ i j, rI (X i j)) → (∀ i j, rL (Y i j)) → ((0 ≤ (0 : Int) ∧ (0 : Int) ≤ Z q 27) ∧ (0 : Int) = bS (fLv (rP Z q) (sdf Z q) (Z q 27).toNat) ((0 : Int)).toNat) ∧ (∀ (u : Int) (k : Int), rI u → rI k → ((0 ≤ k ∧ k ≤ Z q 27) ∧ u = bS (fLv (rP Z q) (sdf Z q) (Z q 27).toNat) (k).toNat) → ((((X (i) 2) < k) → (u = bS (fLv (rP Z q) (sdf Z q) (Z q 27).toNat) (Z q 27).toNat)) ∧ ((¬ ((X (i) 2) < k)) → ((((decide (0 ≤ k ∧ k < 15) && decide (¬ zAnd (zShr (X (i) 3) (k)) 1 = 0)) = false) → ((rI (k + 1)) ∧ ((0 ≤ (k + 1) ∧ (k + 1) ≤ Z q 27) ∧ u = bS (fLv (rP Z q) (sdf Z q) (Z q 27).toNat) ((k + 1)).toNat) ∧ (((20 - (k + 1)).toNat) < ((20 - (k)).toNat)))) ∧ (((decide (0 ≤ k ∧ k < 15) && decide (¬ zAnd (zShr (X (i) 3) (k)) 1 = 0)) = true) → ((cA Z q X Y R i ∧ 0 ≤ (k)) ∧ (rI (bS (fSc (rP Z q) (sdf Z q) (k).toNat) (Z q 27).toNat) → (((¬ (bS (fSc (rP Z q) (sdf Z q) (k).toNat) (Z q 27).toNat) = 0) → ((rI (k + 1)) ∧ ((0 ≤ (k + 1) ∧ (k + 1) ≤ Z q 27) ∧ u = bS (fLv (rP Z q) (sdf Z q) (Z q 27).toNat) ((k + 1)).toNat) ∧ (((20 - (k + 1)).toNat) < ((20 - (k)).toNat)))) ∧ ((¬ (¬ (bS (fSc (rP Z q) (sdf Z q) (k).toNat) (Z q 27).toNat) = 0)) → ((rI (k + 1)) ∧ ((0 ≤ (k + 1) ∧ (k + 1) ≤ Z q 27) ∧ (zOr (u) (zShl (1) (k))) = bS (fLv (rP Z q) (sdf Z q) (Z q 27).toNat) ((k + 1)).toNat) ∧ (((20 - (k + 1)).toNat) < ((20 - (k)).toNat))))))))))))
set_option maxHeartbeats 4000000 in
set_option maxRecDepth 100000 in
theorem w_X1_leafBits {l : Launch} {D : va_G} {cy : Nat → ClassId} {bs N : Nat} {sa : Nat → Nat} {kd len : Nat → Nat} {X Y : Nat → Int → Int} {R : Nat → Int → Option Nat} {i : Nat} {Z : Nat → Int → Int} {q : Nat} (hC : zChart N kd len R i)  (hF : F_X1_leafBits i Z q X Y R ) : Met l yX1_leafBits (.code yX1_leafBits cX1_leafBits 3 (some .int) :: zTB) (zRm 2 44) (zPc D cy bs sa N kd len X Y R [.ref (bs + (i))]) (zQi D cy bs N kd len (fun r st => r = bS (fLv (rP Z q) (sdf Z q) (Z q 27).toNat) (Z q 27).toNat ∧ st = (X, Y, R))) 0 0 (zA bs) := by
  refine zstart (by decide) (Nat.le_of_ble_eq_true rfl) ?_
  intro p e s m args below meth c ls C hE hH hr hlk hnm hl hargs
  have hF := hF hH.2.2.1 hH.2.2.2
  have hS : va_S (zA bs) s.heap s.heap [] := va_S.rf
  have hl : lv_has ls 3 [(0, .ref (bs + (i)))] := hl
  refine zd_iconst C dX1_leafBits_0 ?_
  refine lv_istore_n (lv' := [(1, .int (zI (0))), (0, .ref (bs + (i)))]) C.1 C.2.1 dX1_leafBits_1 rfl hl (by decide) rfl (fun ls hl => ?_)
  refine zd_iconst C dX1_leafBits_2 ?_
  refine lv_istore_n (lv' := [(2, .int (zI (0))), (1, .int (zI (0))), (0, .ref (bs + (i)))]) C.1 C.2.1 dX1_leafBits_3 rfl hl (by decide) rfl (fun ls hl => ?_)
  obtain ⟨hI1, hF⟩ := hF
  have L1 : ∀ (fu : Nat) (u : Int) (k : Int), rI u → rI k → ((0 ≤ k ∧ k ≤ Z q 27) ∧ u = bS (fLv (rP Z q) (sdf Z q) (Z q 27).toNat) (k).toNat) → ((20 - (k)).toNat) < fu → ∀ (H : Heap) (locs : List Loc) (ls : Array Slot), zH D cy bs N kd len X Y R H → va_S (zA bs) s.heap H locs → lv_has ls 3 [(1, .int (zI (u))), (2, .int (zI (k))), (0, .ref (bs + (i)))] → W p l e (zRm 2 44) s m args below meth c H locs 0 0 (MQ below (zQi D cy bs N kd len (fun r st => r = bS (fLv (rP Z q) (sdf Z q) (Z q 27).toNat) (Z q 27).toNat ∧ st = (X, Y, R))) args s 0 0 (zA bs)) (F0 m 4 ls []) := by
    intro fu
    induction fu with
    | zero => intro u k _ _ _ hmu; exact absurd hmu (Nat.not_lt_zero _)
    | succ fu ih1 =>
      intro u k hu hk hI hmu1 H locs ls hH hS hl
      have hF := hF u k hu hk  hI
      refine lv_iload_n C.1 C.2.1 dX1_leafBits_4 rfl (lv_at hl 1 rfl) ?_
      refine lv_aload_n C.1 C.2.1 dX1_leafBits_5 rfl (lv_at hl 2 rfl) ?_
      refine zg1_2 C hH (zChart_n0 hC) (zChart_k0 hC) q_396 dX1_leafBits_6 ?_
      refine zd_icmp_gt C hk (hH.2.2.1 _ _) 43 dX1_leafBits_9 (by decide) (fun c2 => ?_) (fun c2 => ?_)
      · have hF := hF.1 c2
        refine lv_iload_n C.1 C.2.1 dX1_leafBits_43 rfl (lv_at hl 0 rfl) ?_
        exact zd_iret C hr hlk hH hS hu (⟨hF, rfl⟩) dX1_leafBits_44
      · have hF := hF.2 c2
        refine lv_aload_n C.1 C.2.1 dX1_leafBits_12 rfl (lv_at hl 2 rfl) ?_
        refine zg1_3 C hH (zChart_n0 hC) (zChart_k0 hC) q_399 dX1_leafBits_13 ?_
        refine lv_iload_n C.1 C.2.1 dX1_leafBits_16 rfl (lv_at hl 1 rfl) ?_
        refine zgoi (zrunSN (As := [.int (zI (X (i) 3)), .int (zI (k))]) (rest := []) C hE hH hS hl.1 (c_X10_isIn (l := l)  (X (i) 3) (hH.2.2.1 _ _) (k) hk) k_RX1_127 ⟨Nat.le_of_ble_eq_true rfl, Nat.le_of_ble_eq_true rfl⟩ rfl (Nat.le_of_ble_eq_true rfl) dX1_leafBits_17 ⟨Nat.zero_le _, Nat.zero_le _⟩) hS (fun rq Xq Yq Rq H locs hrq hq hH hS => ?_)
        obtain ⟨h91, h92⟩ := hq
        have h93 : Xq = X := congrArg (fun z => z.1) h92
        have h94 : Yq = Y := congrArg (fun z => z.2.1) h92
        have h95 : Rq = R := congrArg (fun z => z.2.2) h92
        rw [h93, h94, h95] at hH
        subst h91
        refine zd_ifB_eq C 37 dX1_leafBits_20 (by decide) (fun c3 => ?_) (fun c3 => ?_)
        · have hF := hF.1 c3
          refine zd_iinc (k := 1) (lv' := [(2, .int (zI (k + 1))), (1, .int (zI (u))), (0, .ref (bs + (i)))]) C hl rfl dX1_leafBits_37 (by decide) rfl (fun ls hl => ?_)
          refine lv_goto (tgt := 4) C.1 C.2.1 dX1_leafBits_40 (by decide) ?_
          obtain ⟨o4, hF⟩ := hF
          exact ih1 (u) (k + 1) hu o4 hF.1 (Nat.lt_of_lt_of_le hF.2 (Nat.le_of_lt_succ hmu1)) _ _ _ hH hS (lv_sub hl [1, 0, 2] rfl)
        · have hF := hF.2 c3
          refine lv_aload_n C.1 C.2.1 dX1_leafBits_23 rfl (lv_at hl 2 rfl) ?_
          refine lv_iload_n C.1 C.2.1 dX1_leafBits_24 rfl (lv_at hl 1 rfl) ?_
          obtain ⟨o5, hF⟩ := hF
          refine zgoi (zrunV (As := [.int (zI (k))]) (rest := []) C hE hH hS hl.1 (c_X1_soundChildren (l := l) hC (k) hk o5) k_RX1_156 ⟨Nat.le_of_ble_eq_true rfl, Nat.le_of_ble_eq_true rfl⟩ (zChart_n0 hC) (zChart_k0 hC) rfl rfl rfl (Nat.le_of_ble_eq_true rfl) dX1_leafBits_25 ⟨Nat.zero_le _, Nat.zero_le _⟩) hS (fun rq Xq Yq Rq H locs hrq hq hH hS => ?_)
          obtain ⟨h91, h92⟩ := hq
          have h93 : Xq = X := congrArg (fun z => z.1) h92
          have h94 : Yq = Y := congrArg (fun z => z.2.1) h92
          have h95 : Rq = R := congrArg (fun z => z.2.2) h92
          rw [h93, h94, h95] at hH
          subst h91
          have hr6 := hrq
          have hF := hF hr6
          refine zd_if_ne C hr6 37 dX1_leafBits_28 (by decide) (fun c7 => ?_) (fun c7 => ?_)
          · have hF := hF.1 c7
            refine zd_iinc (k := 1) (lv' := [(2, .int (zI (k + 1))), (1, .int (zI (u))), (0, .ref (bs + (i)))]) C hl rfl dX1_leafBits_37 (by decide) rfl (fun ls hl => ?_)
            refine lv_goto (tgt := 4) C.1 C.2.1 dX1_leafBits_40 (by decide) ?_
            obtain ⟨o8, hF⟩ := hF
            exact ih1 (u) (k + 1) hu o8 hF.1 (Nat.lt_of_lt_of_le hF.2 (Nat.le_of_lt_succ hmu1)) _ _ _ hH hS (lv_sub hl [1, 0, 2] rfl)
          · have hF := hF.2 c7
            refine lv_iload_n C.1 C.2.1 dX1_leafBits_31 rfl (lv_at hl 0 rfl) ?_
            refine zd_iconst C dX1_leafBits_32 ?_
            refine lv_iload_n C.1 C.2.1 dX1_leafBits_33 rfl (lv_at hl 1 rfl) ?_
            refine zd_ishl C dX1_leafBits_34 ?_
            refine zd_ior C dX1_leafBits_35 ?_
            refine lv_istore_n (lv' := [(1, .int (zI (zOr (u) (zShl (1) (k))))), (2, .int (zI (k))), (0, .ref (bs + (i)))]) C.1 C.2.1 dX1_leafBits_36 rfl hl (by decide) rfl (fun ls hl => ?_)
            refine zd_iinc (k := 1) (lv' := [(2, .int (zI (k + 1))), (1, .int (zI (zOr (u) (zShl (1) (k))))), (0, .ref (bs + (i)))]) C hl rfl dX1_leafBits_37 (by decide) rfl (fun ls hl => ?_)
            refine lv_goto (tgt := 4) C.1 C.2.1 dX1_leafBits_40 (by decide) ?_
            obtain ⟨o9, hF⟩ := hF
            exact ih1 (zOr (u) (zShl (1) (k))) (k + 1) (zI_rg _) o9 hF.1 (Nat.lt_of_lt_of_le hF.2 (Nat.le_of_lt_succ hmu1)) _ _ _ hH hS (lv_sub hl [1, 0, 2] rfl)
  exact L1 (((20 - ((0 : Int))).toNat) + 1) ((0 : Int)) ((0 : Int)) (by decide) (by decide) hI1 (Nat.lt_succ_self _) _ _ _ hH hS (lv_sub hl [1, 0, 2] rfl)
theorem v_X1_leafBits {X Y : Nat → Int → Int} {R : Nat → Int → Option Nat} {i : Nat} {Z : Nat → Int → Int} {q : Nat}  (hp : cA Z q X Y R i) : F_X1_leafBits i Z q X Y R  := by
  unfold F_X1_leafBits
  intro hX hY
  obtain ⟨l27, r27, e27⟩ := cA_l hp
  refine ⟨?_, ?_⟩
  · exact ⟨by omega, rfl⟩
  intro u k
  intro _
  intro _
  intro h1
  obtain ⟨⟨k1, k2⟩, hr⟩ := h1
  obtain ⟨kn, rfl⟩ := nat_of (show 0 ≤ k by omega)
  subst hr
  refine ⟨?_, ?_⟩
  · intro c1
    rw [show Z q 27 = kn by omega]
  intro c2
  have kl : (kn : Int) < Z q 27 := by omega
  have es : ((kn : Int) + 1).toNat = kn + 1 := by omega
  have e0 : ((kn : Nat) : Int).toNat = kn := by omega
  refine ⟨?_, ?_⟩
  · intro c3
    have c3 := (cA_isIn hp kl).symm.trans c3
    refine ⟨?_, ?_⟩
    · first | omega | exact ⟨by omega, by omega⟩ | decide | assumption | exact ⟨by omega, by omega, by omega⟩ | exact ⟨by decide, by decide⟩
    refine ⟨?_, ?_⟩
    · exact ⟨by omega, by rw [es, e0, bS_n (by unfold fLv; rw [c3]; rfl)]⟩
    first | omega | exact ⟨by omega, by omega⟩ | decide | assumption | exact ⟨by omega, by omega, by omega⟩ | exact ⟨by decide, by decide⟩
  intro c4
  have c4 := (cA_isIn hp kl).symm.trans c4
  refine ⟨?_, ?_⟩
  · exact ⟨hp, by omega⟩
  intro _
  refine ⟨?_, ?_⟩
  · intro c5
    refine ⟨?_, ?_⟩
    · first | omega | exact ⟨by omega, by omega⟩ | decide | assumption | exact ⟨by omega, by omega, by omega⟩ | exact ⟨by decide, by decide⟩
    refine ⟨?_, ?_⟩
    · exact ⟨by omega, by rw [es, e0, bS_n (by unfold fLv; rw [decide_eq_false (fun g => c5 ((show bS (fSc (rP Z q) (sdf Z q) kn) (Z q 27).toNat = 0 ↔ cN (fSc (rP Z q) (sdf Z q) kn) (Z q 27).toNat = 0 from (bS_z (by omega)).trans cN_z.symm).mpr g)), Bool.and_false])]⟩
    first | omega | exact ⟨by omega, by omega⟩ | decide | assumption | exact ⟨by omega, by omega, by omega⟩ | exact ⟨by decide, by decide⟩
  intro c6
  refine ⟨?_, ?_⟩
  · first | omega | exact ⟨by omega, by omega⟩ | decide | assumption | exact ⟨by omega, by omega, by omega⟩ | exact ⟨by decide, by decide⟩
  refine ⟨?_, ?_⟩
  · exact ⟨by omega, by rw [es, e0, bS_y (by unfold fLv; rw [c4, decide_eq_true ((show bS (fSc (rP Z q) (sdf Z q) kn) (Z q 27).toNat = 0 ↔ cN (fSc (rP Z q) (sdf Z q) kn) (Z q 27).toNat = 0 from (bS_z (by omega)).trans cN_z.symm).mp (Classical.not_not.mp c6))]; rfl)]⟩
  first | omega | exact ⟨by omega, by omega⟩ | decide | assumption | exact ⟨by omega, by omega, by omega⟩ | exact ⟨by decide, by decide⟩
theorem c_X1_leafBits {l : Launch} {D : va_G} {cy : Nat → ClassId} {bs N : Nat} {sa : Nat → Nat} {kd len : Nat → Nat} {X Y : Nat → Int → Int} {R : Nat → Int → Option Nat} {i : Nat} {Z : Nat → Int → Int} {q : Nat} (hC : zChart N kd len R i)  (hp : cA Z q X Y R i) : Met l yX1_leafBits (.code yX1_leafBits cX1_leafBits 3 (some .int) :: zTB) (zRm 2 44) (zPc D cy bs sa N kd len X Y R [.ref (bs + (i))]) (zQi D cy bs N kd len (fun r st => r = bS (fLv (rP Z q) (sdf Z q) (Z q 27).toNat) (Z q 27).toNat ∧ st = (X, Y, R))) 0 0 (zA bs) := w_X1_leafBits hC  (v_X1_leafBits  hp)
abbrev cX1_deepest : ByteArray := prog_3_method_23_code
def yX1_deepest : MethodName := ⟨RX1, "deepest", "()I"⟩
theorem dX1_deepest_0 : decode cX1_deepest 0 = .ok (.iconst 0, 1) := by decide +kernel
theorem dX1_deepest_1 : decode cX1_deepest 1 = .ok (.istore_n 1, 1) := by decide +kernel
theorem dX1_deepest_2 : decode cX1_deepest 2 = .ok (.iconst 1, 1) := by decide +kernel
theorem dX1_deepest_3 : decode cX1_deepest 3 = .ok (.istore_n 2, 1) := by decide +kernel
theorem dX1_deepest_4 : decode cX1_deepest 4 = .ok (.iload_n 2, 1) := by decide +kernel
theorem dX1_deepest_5 : decode cX1_deepest 5 = .ok (.aload_n 0, 1) := by decide +kernel
theorem dX1_deepest_6 : decode cX1_deepest 6 = .ok (.getfield 68, 3) := by decide +kernel
theorem dX1_deepest_9 : decode cX1_deepest 9 = .ok (.if_icmp .gt 37, 3) := by decide +kernel
theorem dX1_deepest_12 : decode cX1_deepest 12 = .ok (.aload_n 0, 1) := by decide +kernel
theorem dX1_deepest_13 : decode cX1_deepest 13 = .ok (.getfield 69, 3) := by decide +kernel
theorem dX1_deepest_16 : decode cX1_deepest 16 = .ok (.iload_n 2, 1) := by decide +kernel
theorem dX1_deepest_17 : decode cX1_deepest 17 = .ok (.invokestatic 127, 3) := by decide +kernel
theorem dX1_deepest_20 : decode cX1_deepest 20 = .ok (.ifCond .eq 20, 3) := by decide +kernel
theorem dX1_deepest_23 : decode cX1_deepest 23 = .ok (.aload_n 0, 1) := by decide +kernel
theorem dX1_deepest_24 : decode cX1_deepest 24 = .ok (.getfield 32, 3) := by decide +kernel
theorem dX1_deepest_27 : decode cX1_deepest 27 = .ok (.iload_n 2, 1) := by decide +kernel
theorem dX1_deepest_28 : decode cX1_deepest 28 = .ok (.iaload, 1) := by decide +kernel
theorem dX1_deepest_29 : decode cX1_deepest 29 = .ok (.aload_n 0, 1) := by decide +kernel
theorem dX1_deepest_30 : decode cX1_deepest 30 = .ok (.getfield 32, 3) := by decide +kernel
theorem dX1_deepest_33 : decode cX1_deepest 33 = .ok (.iload_n 1, 1) := by decide +kernel
theorem dX1_deepest_34 : decode cX1_deepest 34 = .ok (.iaload, 1) := by decide +kernel
theorem dX1_deepest_35 : decode cX1_deepest 35 = .ok (.if_icmp .le 5, 3) := by decide +kernel
theorem dX1_deepest_38 : decode cX1_deepest 38 = .ok (.iload_n 2, 1) := by decide +kernel
theorem dX1_deepest_39 : decode cX1_deepest 39 = .ok (.istore_n 1, 1) := by decide +kernel
theorem dX1_deepest_40 : decode cX1_deepest 40 = .ok (.iinc 2 1, 3) := by decide +kernel
theorem dX1_deepest_43 : decode cX1_deepest 43 = .ok (.goto (-39), 3) := by decide +kernel
theorem dX1_deepest_46 : decode cX1_deepest 46 = .ok (.iload_n 1, 1) := by decide +kernel
theorem dX1_deepest_47 : decode cX1_deepest 47 = .ok (.ireturn, 1) := by decide +kernel
def F_X1_deepest (i : Nat) (Z : Nat → Int → Int) (q : Nat) (X Y : Nat → Int → Int) (R : Nat → Int → Option Nat)  : Prop := (∀ i j, rI (X i j)) → (∀ i j, rL (Y i j)) → ((1 ≤ (1 : Int) ∧ (1 : Int) ≤ Z q 27) ∧ (0 : Int) = ((grN (sdf Z q) (grV Z q false) ((1 : Int)).toNat : Nat) : Int)) ∧ (∀ (u : Int) (k : Int), rI u → rI k → ((1 ≤ k ∧ k ≤ Z q 27) ∧ u = ((grN (sdf Z q) (grV Z q false) (k).toNat : Nat) : Int)) → ((((X (i) 2) < k) → (u = ((grN (sdf Z q) (grV Z q false) (Z q 27).toNat : Nat) : Int))) ∧ ((¬ ((X (i) 2) < k)) → ((((decide (0 ≤ k ∧ k < 15) && decide (¬ zAnd (zShr (X (i) 3) (k)) 1 = 0)) = false) → ((rI (k + 1)) ∧ ((1 ≤ (k + 1) ∧ (k + 1) ≤ Z q 27) ∧ u = ((grN (sdf Z q) (grV Z q false) ((k + 1)).toNat : Nat) : Int)) ∧ (((20 - (k + 1)).toNat) < ((20 - (k)).toNat)))) ∧ (((decide (0 ≤ k ∧ k < 15) && decide (¬ zAnd (zShr (X (i) 3) (k)) 1 = 0)) = true) → ((0 ≤ k ∧ k < 15) ∧ ((0 ≤ u ∧ u < 15) ∧ ((((X (i + 11) (k)) ≤ (X (i + 11) (u))) → ((rI (k + 1)) ∧ ((1 ≤ (k + 1) ∧ (k + 1) ≤ Z q 27) ∧ u = ((grN (sdf Z q) (grV Z q false) ((k + 1)).toNat : Nat) : Int)) ∧ (((20 - (k + 1)).toNat) < ((20 - (k)).toNat)))) ∧ ((¬ ((X (i + 11) (k)) ≤ (X (i + 11) (u)))) → ((rI (k + 1)) ∧ ((1 ≤ (k + 1) ∧ (k + 1) ≤ Z q 27) ∧ k = ((grN (sdf Z q) (grV Z q false) ((k + 1)).toNat : Nat) : Int)) ∧ (((20 - (k + 1)).toNat) < ((20 - (k)).toNat))))))))))))
set_option maxHeartbeats 4000000 in
set_option maxRecDepth 100000 in
theorem w_X1_deepest {l : Launch} {D : va_G} {cy : Nat → ClassId} {bs N : Nat} {sa : Nat → Nat} {kd len : Nat → Nat} {X Y : Nat → Int → Int} {R : Nat → Int → Option Nat} {i : Nat} {Z : Nat → Int → Int} {q : Nat} (hC : zChart N kd len R i)  (hF : F_X1_deepest i Z q X Y R ) : Met l yX1_deepest (.code yX1_deepest cX1_deepest 3 (some .int) :: zTB) (zRm 1 21) (zPc D cy bs sa N kd len X Y R [.ref (bs + (i))]) (zQi D cy bs N kd len (fun r st => r = ((grN (sdf Z q) (grV Z q false) (Z q 27).toNat : Nat) : Int) ∧ st = (X, Y, R))) 0 0 (zA bs) := by
  refine zstart (by decide) (Nat.le_of_ble_eq_true rfl) ?_
  intro p e s m args below meth c ls C hE hH hr hlk hnm hl hargs
  have hF := hF hH.2.2.1 hH.2.2.2
  have hS : va_S (zA bs) s.heap s.heap [] := va_S.rf
  have hl : lv_has ls 3 [(0, .ref (bs + (i)))] := hl
  refine zd_iconst C dX1_deepest_0 ?_
  refine lv_istore_n (lv' := [(1, .int (zI (0))), (0, .ref (bs + (i)))]) C.1 C.2.1 dX1_deepest_1 rfl hl (by decide) rfl (fun ls hl => ?_)
  refine zd_iconst C dX1_deepest_2 ?_
  refine lv_istore_n (lv' := [(2, .int (zI (1))), (1, .int (zI (0))), (0, .ref (bs + (i)))]) C.1 C.2.1 dX1_deepest_3 rfl hl (by decide) rfl (fun ls hl => ?_)
  obtain ⟨hI1, hF⟩ := hF
  have L1 : ∀ (fu : Nat) (u : Int) (k : Int), rI u → rI k → ((1 ≤ k ∧ k ≤ Z q 27) ∧ u = ((grN (sdf Z q) (grV Z q false) (k).toNat : Nat) : Int)) → ((20 - (k)).toNat) < fu → ∀ (H : Heap) (locs : List Loc) (ls : Array Slot), zH D cy bs N kd len X Y R H → va_S (zA bs) s.heap H locs → lv_has ls 3 [(1, .int (zI (u))), (2, .int (zI (k))), (0, .ref (bs + (i)))] → W p l e (zRm 1 21) s m args below meth c H locs 0 0 (MQ below (zQi D cy bs N kd len (fun r st => r = ((grN (sdf Z q) (grV Z q false) (Z q 27).toNat : Nat) : Int) ∧ st = (X, Y, R))) args s 0 0 (zA bs)) (F0 m 4 ls []) := by
    intro fu
    induction fu with
    | zero => intro u k _ _ _ hmu; exact absurd hmu (Nat.not_lt_zero _)
    | succ fu ih1 =>
      intro u k hu hk hI hmu1 H locs ls hH hS hl
      have hF := hF u k hu hk  hI
      refine lv_iload_n C.1 C.2.1 dX1_deepest_4 rfl (lv_at hl 1 rfl) ?_
      refine lv_aload_n C.1 C.2.1 dX1_deepest_5 rfl (lv_at hl 2 rfl) ?_
      refine zg1_2 C hH (zChart_n0 hC) (zChart_k0 hC) q_396 dX1_deepest_6 ?_
      refine zd_icmp_gt C hk (hH.2.2.1 _ _) 46 dX1_deepest_9 (by decide) (fun c2 => ?_) (fun c2 => ?_)
      · have hF := hF.1 c2
        refine lv_iload_n C.1 C.2.1 dX1_deepest_46 rfl (lv_at hl 0 rfl) ?_
        exact zd_iret C hr hlk hH hS hu (⟨hF, rfl⟩) dX1_deepest_47
      · have hF := hF.2 c2
        refine lv_aload_n C.1 C.2.1 dX1_deepest_12 rfl (lv_at hl 2 rfl) ?_
        refine zg1_3 C hH (zChart_n0 hC) (zChart_k0 hC) q_399 dX1_deepest_13 ?_
        refine lv_iload_n C.1 C.2.1 dX1_deepest_16 rfl (lv_at hl 1 rfl) ?_
        refine zgoi (zrunSN (As := [.int (zI (X (i) 3)), .int (zI (k))]) (rest := []) C hE hH hS hl.1 (c_X10_isIn (l := l)  (X (i) 3) (hH.2.2.1 _ _) (k) hk) k_RX1_127 ⟨Nat.le_of_ble_eq_true rfl, Nat.le_of_ble_eq_true rfl⟩ rfl (Nat.le_of_ble_eq_true rfl) dX1_deepest_17 ⟨Nat.zero_le _, Nat.zero_le _⟩) hS (fun rq Xq Yq Rq H locs hrq hq hH hS => ?_)
        obtain ⟨h91, h92⟩ := hq
        have h93 : Xq = X := congrArg (fun z => z.1) h92
        have h94 : Yq = Y := congrArg (fun z => z.2.1) h92
        have h95 : Rq = R := congrArg (fun z => z.2.2) h92
        rw [h93, h94, h95] at hH
        subst h91
        refine zd_ifB_eq C 40 dX1_deepest_20 (by decide) (fun c3 => ?_) (fun c3 => ?_)
        · have hF := hF.1 c3
          refine zd_iinc (k := 1) (lv' := [(2, .int (zI (k + 1))), (1, .int (zI (u))), (0, .ref (bs + (i)))]) C hl rfl dX1_deepest_40 (by decide) rfl (fun ls hl => ?_)
          refine lv_goto (tgt := 4) C.1 C.2.1 dX1_deepest_43 (by decide) ?_
          obtain ⟨o4, hF⟩ := hF
          exact ih1 (u) (k + 1) hu o4 hF.1 (Nat.lt_of_lt_of_le hF.2 (Nat.le_of_lt_succ hmu1)) _ _ _ hH hS (lv_sub hl [1, 0, 2] rfl)
        · have hF := hF.2 c3
          refine lv_aload_n C.1 C.2.1 dX1_deepest_23 rfl (lv_at hl 2 rfl) ?_
          refine zg1_6 C hH (zChart_n0 hC) (zChart_k0 hC) q_407 (zChart_r11 hC) dX1_deepest_24 ?_
          refine lv_iload_n C.1 C.2.1 dX1_deepest_27 rfl (lv_at hl 1 rfl) ?_
          obtain ⟨o5, hF⟩ := hF
          refine zd_iald C hH (zChart_n11 hC) (zChart_k11 hC) o5.1 (by rw [zChart_l11 hC]; exact o5.2) (by rw [zChart_l11 hC]; decide) dX1_deepest_28 ?_
          refine lv_aload_n C.1 C.2.1 dX1_deepest_29 rfl (lv_at hl 2 rfl) ?_
          refine zg1_6 C hH (zChart_n0 hC) (zChart_k0 hC) q_407 (zChart_r11 hC) dX1_deepest_30 ?_
          refine lv_iload_n C.1 C.2.1 dX1_deepest_33 rfl (lv_at hl 0 rfl) ?_
          obtain ⟨o6, hF⟩ := hF
          refine zd_iald C hH (zChart_n11 hC) (zChart_k11 hC) o6.1 (by rw [zChart_l11 hC]; exact o6.2) (by rw [zChart_l11 hC]; decide) dX1_deepest_34 ?_
          refine zd_icmp_le C (hH.2.2.1 _ _) (hH.2.2.1 _ _) 40 dX1_deepest_35 (by decide) (fun c7 => ?_) (fun c7 => ?_)
          · have hF := hF.1 c7
            refine zd_iinc (k := 1) (lv' := [(2, .int (zI (k + 1))), (1, .int (zI (u))), (0, .ref (bs + (i)))]) C hl rfl dX1_deepest_40 (by decide) rfl (fun ls hl => ?_)
            refine lv_goto (tgt := 4) C.1 C.2.1 dX1_deepest_43 (by decide) ?_
            obtain ⟨o8, hF⟩ := hF
            exact ih1 (u) (k + 1) hu o8 hF.1 (Nat.lt_of_lt_of_le hF.2 (Nat.le_of_lt_succ hmu1)) _ _ _ hH hS (lv_sub hl [1, 0, 2] rfl)
          · have hF := hF.2 c7
            refine lv_iload_n C.1 C.2.1 dX1_deepest_38 rfl (lv_at hl 1 rfl) ?_
            refine lv_istore_n (lv' := [(1, .int (zI (k))), (2, .int (zI (k))), (0, .ref (bs + (i)))]) C.1 C.2.1 dX1_deepest_39 rfl hl (by decide) rfl (fun ls hl => ?_)
            refine zd_iinc (k := 1) (lv' := [(2, .int (zI (k + 1))), (1, .int (zI (k))), (0, .ref (bs + (i)))]) C hl rfl dX1_deepest_40 (by decide) rfl (fun ls hl => ?_)
            refine lv_goto (tgt := 4) C.1 C.2.1 dX1_deepest_43 (by decide) ?_
            obtain ⟨o9, hF⟩ := hF
            exact ih1 (k) (k + 1) hk o9 hF.1 (Nat.lt_of_lt_of_le hF.2 (Nat.le_of_lt_succ hmu1)) _ _ _ hH hS (lv_sub hl [1, 0, 2] rfl)
  exact L1 (((20 - ((1 : Int))).toNat) + 1) ((0 : Int)) ((1 : Int)) (by decide) (by decide) hI1 (Nat.lt_succ_self _) _ _ _ hH hS (lv_sub hl [1, 0, 2] rfl)
theorem v_X1_deepest {X Y : Nat → Int → Int} {R : Nat → Int → Option Nat} {i : Nat} {Z : Nat → Int → Int} {q : Nat}  (hp : cA Z q X Y R i) : F_X1_deepest i Z q X Y R  := by
  unfold F_X1_deepest
  intro hX hY
  obtain ⟨l27, r27, e27⟩ := cA_l hp
  refine ⟨?_, ?_⟩
  · refine ⟨by omega, ?_⟩
    have g := grN_b (sdf Z q) (grV Z q false) 1
    rw [show (1 : Int).toNat = 1 from rfl]
    omega
  intro u k
  intro _
  intro _
  intro h1
  obtain ⟨⟨k1, k2⟩, hr⟩ := h1
  obtain ⟨kn, rfl⟩ := nat_of (show 0 ≤ k by omega)
  subst hr
  refine ⟨?_, ?_⟩
  · intro c1
    rw [show Z q 27 = kn by omega]
  intro c2
  have kl : (kn : Int) < Z q 27 := by omega
  have es : ((kn : Int) + 1).toNat = kn + 1 := by omega
  have e0 : ((kn : Nat) : Int).toNat = kn := by omega
  refine ⟨?_, ?_⟩
  · intro c3
    have c3 := (cA_isIn hp kl).symm.trans c3
    refine ⟨?_, ?_⟩
    · first | omega | exact ⟨by omega, by omega⟩ | decide | assumption | exact ⟨by omega, by omega, by omega⟩ | exact ⟨by decide, by decide⟩
    refine ⟨?_, ?_⟩
    · exact ⟨by omega, by rw [es, e0, grN_n (by rw [c3]; rfl)]⟩
    first | omega | exact ⟨by omega, by omega⟩ | decide | assumption | exact ⟨by omega, by omega, by omega⟩ | exact ⟨by decide, by decide⟩
  intro c4
  have c4 := (cA_isIn hp kl).symm.trans c4
  have gb := grN_b (sdf Z q) (grV Z q false) kn
  refine ⟨?_, ?_⟩
  · first | omega | exact ⟨by omega, by omega⟩ | decide | assumption | exact ⟨by omega, by omega, by omega⟩ | exact ⟨by decide, by decide⟩
  refine ⟨?_, ?_⟩
  · rw [e0]
    omega
  refine ⟨?_, ?_⟩
  · intro c5
    rw [e0, (cA_h hp kl), (cA_h hp (show ((grN (sdf Z q) (grV Z q false) kn : Nat) : Int) < Z q 27 by omega))] at c5
    have d5 : ¬ grV Z q false (grN (sdf Z q) (grV Z q false) kn) < grV Z q false kn := Int.not_lt.mpr c5
    refine ⟨?_, ?_⟩
    · exact ⟨by omega, by omega⟩
    refine ⟨?_, ?_⟩
    · exact ⟨by omega, by rw [es, e0, grN_n (by rw [decide_eq_false d5, Bool.and_false])]⟩
    first | omega | exact ⟨by omega, by omega⟩ | decide | assumption | exact ⟨by omega, by omega, by omega⟩ | exact ⟨by decide, by decide⟩
  intro c6
  rw [e0, (cA_h hp kl), (cA_h hp (show ((grN (sdf Z q) (grV Z q false) kn : Nat) : Int) < Z q 27 by omega))] at c6
  have d6 : grV Z q false (grN (sdf Z q) (grV Z q false) kn) < grV Z q false kn := Int.not_le.mp c6
  refine ⟨?_, ?_⟩
  · first | omega | exact ⟨by omega, by omega⟩ | decide | assumption | exact ⟨by omega, by omega, by omega⟩ | exact ⟨by decide, by decide⟩
  refine ⟨?_, ?_⟩
  · exact ⟨by omega, by rw [es, grN_y (by rw [c4, decide_eq_true d6]; rfl)]⟩
  first | omega | exact ⟨by omega, by omega⟩ | decide | assumption | exact ⟨by omega, by omega, by omega⟩ | exact ⟨by decide, by decide⟩
theorem c_X1_deepest {l : Launch} {D : va_G} {cy : Nat → ClassId} {bs N : Nat} {sa : Nat → Nat} {kd len : Nat → Nat} {X Y : Nat → Int → Int} {R : Nat → Int → Option Nat} {i : Nat} {Z : Nat → Int → Int} {q : Nat} (hC : zChart N kd len R i)  (hp : cA Z q X Y R i) : Met l yX1_deepest (.code yX1_deepest cX1_deepest 3 (some .int) :: zTB) (zRm 1 21) (zPc D cy bs sa N kd len X Y R [.ref (bs + (i))]) (zQi D cy bs N kd len (fun r st => r = ((grN (sdf Z q) (grV Z q false) (Z q 27).toNat : Nat) : Int) ∧ st = (X, Y, R))) 0 0 (zA bs) := w_X1_deepest hC  (v_X1_deepest  hp)
abbrev cX1_hardest : ByteArray := prog_3_method_24_code
def yX1_hardest : MethodName := ⟨RX1, "hardest", "()I"⟩
theorem dX1_hardest_0 : decode cX1_hardest 0 = .ok (.iconst 0, 1) := by decide +kernel
theorem dX1_hardest_1 : decode cX1_hardest 1 = .ok (.istore_n 1, 1) := by decide +kernel
theorem dX1_hardest_2 : decode cX1_hardest 2 = .ok (.iconst 1, 1) := by decide +kernel
theorem dX1_hardest_3 : decode cX1_hardest 3 = .ok (.istore_n 2, 1) := by decide +kernel
theorem dX1_hardest_4 : decode cX1_hardest 4 = .ok (.iload_n 2, 1) := by decide +kernel
theorem dX1_hardest_5 : decode cX1_hardest 5 = .ok (.aload_n 0, 1) := by decide +kernel
theorem dX1_hardest_6 : decode cX1_hardest 6 = .ok (.getfield 68, 3) := by decide +kernel
theorem dX1_hardest_9 : decode cX1_hardest 9 = .ok (.if_icmp .gt 38, 3) := by decide +kernel
theorem dX1_hardest_12 : decode cX1_hardest 12 = .ok (.aload_n 0, 1) := by decide +kernel
theorem dX1_hardest_13 : decode cX1_hardest 13 = .ok (.getfield 69, 3) := by decide +kernel
theorem dX1_hardest_16 : decode cX1_hardest 16 = .ok (.iload_n 2, 1) := by decide +kernel
theorem dX1_hardest_17 : decode cX1_hardest 17 = .ok (.invokestatic 127, 3) := by decide +kernel
theorem dX1_hardest_20 : decode cX1_hardest 20 = .ok (.ifCond .eq 21, 3) := by decide +kernel
theorem dX1_hardest_23 : decode cX1_hardest 23 = .ok (.aload_n 0, 1) := by decide +kernel
theorem dX1_hardest_24 : decode cX1_hardest 24 = .ok (.getfield 35, 3) := by decide +kernel
theorem dX1_hardest_27 : decode cX1_hardest 27 = .ok (.iload_n 2, 1) := by decide +kernel
theorem dX1_hardest_28 : decode cX1_hardest 28 = .ok (.laload, 1) := by decide +kernel
theorem dX1_hardest_29 : decode cX1_hardest 29 = .ok (.aload_n 0, 1) := by decide +kernel
theorem dX1_hardest_30 : decode cX1_hardest 30 = .ok (.getfield 35, 3) := by decide +kernel
theorem dX1_hardest_33 : decode cX1_hardest 33 = .ok (.iload_n 1, 1) := by decide +kernel
theorem dX1_hardest_34 : decode cX1_hardest 34 = .ok (.laload, 1) := by decide +kernel
theorem dX1_hardest_35 : decode cX1_hardest 35 = .ok (.lcmp, 1) := by decide +kernel
theorem dX1_hardest_36 : decode cX1_hardest 36 = .ok (.ifCond .le 5, 3) := by decide +kernel
theorem dX1_hardest_39 : decode cX1_hardest 39 = .ok (.iload_n 2, 1) := by decide +kernel
theorem dX1_hardest_40 : decode cX1_hardest 40 = .ok (.istore_n 1, 1) := by decide +kernel
theorem dX1_hardest_41 : decode cX1_hardest 41 = .ok (.iinc 2 1, 3) := by decide +kernel
theorem dX1_hardest_44 : decode cX1_hardest 44 = .ok (.goto (-40), 3) := by decide +kernel
theorem dX1_hardest_47 : decode cX1_hardest 47 = .ok (.iload_n 1, 1) := by decide +kernel
theorem dX1_hardest_48 : decode cX1_hardest 48 = .ok (.ireturn, 1) := by decide +kernel
def F_X1_hardest (i : Nat) (Z : Nat → Int → Int) (q : Nat) (X Y : Nat → Int → Int) (R : Nat → Int → Option Nat)  : Prop := (∀ i j, rI (X i j)) → (∀ i j, rL (Y i j)) → ((1 ≤ (1 : Int) ∧ (1 : Int) ≤ Z q 27) ∧ (0 : Int) = ((grN (sdf Z q) (grV Z q true) ((1 : Int)).toNat : Nat) : Int)) ∧ (∀ (u : Int) (k : Int), rI u → rI k → ((1 ≤ k ∧ k ≤ Z q 27) ∧ u = ((grN (sdf Z q) (grV Z q true) (k).toNat : Nat) : Int)) → ((((X (i) 2) < k) → (u = ((grN (sdf Z q) (grV Z q true) (Z q 27).toNat : Nat) : Int))) ∧ ((¬ ((X (i) 2) < k)) → ((((decide (0 ≤ k ∧ k < 15) && decide (¬ zAnd (zShr (X (i) 3) (k)) 1 = 0)) = false) → ((rI (k + 1)) ∧ ((1 ≤ (k + 1) ∧ (k + 1) ≤ Z q 27) ∧ u = ((grN (sdf Z q) (grV Z q true) ((k + 1)).toNat : Nat) : Int)) ∧ (((20 - (k + 1)).toNat) < ((20 - (k)).toNat)))) ∧ (((decide (0 ≤ k ∧ k < 15) && decide (¬ zAnd (zShr (X (i) 3) (k)) 1 = 0)) = true) → ((0 ≤ k ∧ k < 15) ∧ ((0 ≤ u ∧ u < 15) ∧ ((((Y (i + 12) (k)) ≤ (Y (i + 12) (u))) → ((rI (k + 1)) ∧ ((1 ≤ (k + 1) ∧ (k + 1) ≤ Z q 27) ∧ u = ((grN (sdf Z q) (grV Z q true) ((k + 1)).toNat : Nat) : Int)) ∧ (((20 - (k + 1)).toNat) < ((20 - (k)).toNat)))) ∧ ((¬ ((Y (i + 12) (k)) ≤ (Y (i + 12) (u)))) → ((rI (k + 1)) ∧ ((1 ≤ (k + 1) ∧ (k + 1) ≤ Z q 27) ∧ k = ((grN (sdf Z q) (grV Z q true) ((k + 1)).toNat : Nat) : Int)) ∧ (((20 - (k + 1)).toNat) < ((20 - (k)).toNat))))))))))))
set_option maxHeartbeats 4000000 in
set_option maxRecDepth 100000 in
theorem w_X1_hardest {l : Launch} {D : va_G} {cy : Nat → ClassId} {bs N : Nat} {sa : Nat → Nat} {kd len : Nat → Nat} {X Y : Nat → Int → Int} {R : Nat → Int → Option Nat} {i : Nat} {Z : Nat → Int → Int} {q : Nat} (hC : zChart N kd len R i)  (hF : F_X1_hardest i Z q X Y R ) : Met l yX1_hardest (.code yX1_hardest cX1_hardest 3 (some .int) :: zTB) (zRm 1 21) (zPc D cy bs sa N kd len X Y R [.ref (bs + (i))]) (zQi D cy bs N kd len (fun r st => r = ((grN (sdf Z q) (grV Z q true) (Z q 27).toNat : Nat) : Int) ∧ st = (X, Y, R))) 0 0 (zA bs) := by
  refine zstart (by decide) (Nat.le_of_ble_eq_true rfl) ?_
  intro p e s m args below meth c ls C hE hH hr hlk hnm hl hargs
  have hF := hF hH.2.2.1 hH.2.2.2
  have hS : va_S (zA bs) s.heap s.heap [] := va_S.rf
  have hl : lv_has ls 3 [(0, .ref (bs + (i)))] := hl
  refine zd_iconst C dX1_hardest_0 ?_
  refine lv_istore_n (lv' := [(1, .int (zI (0))), (0, .ref (bs + (i)))]) C.1 C.2.1 dX1_hardest_1 rfl hl (by decide) rfl (fun ls hl => ?_)
  refine zd_iconst C dX1_hardest_2 ?_
  refine lv_istore_n (lv' := [(2, .int (zI (1))), (1, .int (zI (0))), (0, .ref (bs + (i)))]) C.1 C.2.1 dX1_hardest_3 rfl hl (by decide) rfl (fun ls hl => ?_)
  obtain ⟨hI1, hF⟩ := hF
  have L1 : ∀ (fu : Nat) (u : Int) (k : Int), rI u → rI k → ((1 ≤ k ∧ k ≤ Z q 27) ∧ u = ((grN (sdf Z q) (grV Z q true) (k).toNat : Nat) : Int)) → ((20 - (k)).toNat) < fu → ∀ (H : Heap) (locs : List Loc) (ls : Array Slot), zH D cy bs N kd len X Y R H → va_S (zA bs) s.heap H locs → lv_has ls 3 [(1, .int (zI (u))), (2, .int (zI (k))), (0, .ref (bs + (i)))] → W p l e (zRm 1 21) s m args below meth c H locs 0 0 (MQ below (zQi D cy bs N kd len (fun r st => r = ((grN (sdf Z q) (grV Z q true) (Z q 27).toNat : Nat) : Int) ∧ st = (X, Y, R))) args s 0 0 (zA bs)) (F0 m 4 ls []) := by
    intro fu
    induction fu with
    | zero => intro u k _ _ _ hmu; exact absurd hmu (Nat.not_lt_zero _)
    | succ fu ih1 =>
      intro u k hu hk hI hmu1 H locs ls hH hS hl
      have hF := hF u k hu hk  hI
      refine lv_iload_n C.1 C.2.1 dX1_hardest_4 rfl (lv_at hl 1 rfl) ?_
      refine lv_aload_n C.1 C.2.1 dX1_hardest_5 rfl (lv_at hl 2 rfl) ?_
      refine zg1_2 C hH (zChart_n0 hC) (zChart_k0 hC) q_396 dX1_hardest_6 ?_
      refine zd_icmp_gt C hk (hH.2.2.1 _ _) 47 dX1_hardest_9 (by decide) (fun c2 => ?_) (fun c2 => ?_)
      · have hF := hF.1 c2
        refine lv_iload_n C.1 C.2.1 dX1_hardest_47 rfl (lv_at hl 0 rfl) ?_
        exact zd_iret C hr hlk hH hS hu (⟨hF, rfl⟩) dX1_hardest_48
      · have hF := hF.2 c2
        refine lv_aload_n C.1 C.2.1 dX1_hardest_12 rfl (lv_at hl 2 rfl) ?_
        refine zg1_3 C hH (zChart_n0 hC) (zChart_k0 hC) q_399 dX1_hardest_13 ?_
        refine lv_iload_n C.1 C.2.1 dX1_hardest_16 rfl (lv_at hl 1 rfl) ?_
        refine zgoi (zrunSN (As := [.int (zI (X (i) 3)), .int (zI (k))]) (rest := []) C hE hH hS hl.1 (c_X10_isIn (l := l)  (X (i) 3) (hH.2.2.1 _ _) (k) hk) k_RX1_127 ⟨Nat.le_of_ble_eq_true rfl, Nat.le_of_ble_eq_true rfl⟩ rfl (Nat.le_of_ble_eq_true rfl) dX1_hardest_17 ⟨Nat.zero_le _, Nat.zero_le _⟩) hS (fun rq Xq Yq Rq H locs hrq hq hH hS => ?_)
        obtain ⟨h91, h92⟩ := hq
        have h93 : Xq = X := congrArg (fun z => z.1) h92
        have h94 : Yq = Y := congrArg (fun z => z.2.1) h92
        have h95 : Rq = R := congrArg (fun z => z.2.2) h92
        rw [h93, h94, h95] at hH
        subst h91
        refine zd_ifB_eq C 41 dX1_hardest_20 (by decide) (fun c3 => ?_) (fun c3 => ?_)
        · have hF := hF.1 c3
          refine zd_iinc (k := 1) (lv' := [(2, .int (zI (k + 1))), (1, .int (zI (u))), (0, .ref (bs + (i)))]) C hl rfl dX1_hardest_41 (by decide) rfl (fun ls hl => ?_)
          refine lv_goto (tgt := 4) C.1 C.2.1 dX1_hardest_44 (by decide) ?_
          obtain ⟨o4, hF⟩ := hF
          exact ih1 (u) (k + 1) hu o4 hF.1 (Nat.lt_of_lt_of_le hF.2 (Nat.le_of_lt_succ hmu1)) _ _ _ hH hS (lv_sub hl [1, 0, 2] rfl)
        · have hF := hF.2 c3
          refine lv_aload_n C.1 C.2.1 dX1_hardest_23 rfl (lv_at hl 2 rfl) ?_
          refine zg1_7 C hH (zChart_n0 hC) (zChart_k0 hC) q_409 (zChart_r12 hC) dX1_hardest_24 ?_
          refine lv_iload_n C.1 C.2.1 dX1_hardest_27 rfl (lv_at hl 1 rfl) ?_
          obtain ⟨o5, hF⟩ := hF
          refine zd_lald C hH (zChart_n12 hC) (zChart_k12 hC) o5.1 (by rw [zChart_l12 hC]; exact o5.2) (by rw [zChart_l12 hC]; decide) dX1_hardest_28 ?_
          refine lv_aload_n C.1 C.2.1 dX1_hardest_29 rfl (lv_at hl 2 rfl) ?_
          refine zg1_7 C hH (zChart_n0 hC) (zChart_k0 hC) q_409 (zChart_r12 hC) dX1_hardest_30 ?_
          refine lv_iload_n C.1 C.2.1 dX1_hardest_33 rfl (lv_at hl 0 rfl) ?_
          obtain ⟨o6, hF⟩ := hF
          refine zd_lald C hH (zChart_n12 hC) (zChart_k12 hC) o6.1 (by rw [zChart_l12 hC]; exact o6.2) (by rw [zChart_l12 hC]; decide) dX1_hardest_34 ?_
          refine zd_lcmp C (hH.2.2.2 _ _) (hH.2.2.2 _ _) dX1_hardest_35 ?_
          refine zd_ifL_le C 41 dX1_hardest_36 (by decide) (fun c7 => ?_) (fun c7 => ?_)
          · have hF := hF.1 c7
            refine zd_iinc (k := 1) (lv' := [(2, .int (zI (k + 1))), (1, .int (zI (u))), (0, .ref (bs + (i)))]) C hl rfl dX1_hardest_41 (by decide) rfl (fun ls hl => ?_)
            refine lv_goto (tgt := 4) C.1 C.2.1 dX1_hardest_44 (by decide) ?_
            obtain ⟨o8, hF⟩ := hF
            exact ih1 (u) (k + 1) hu o8 hF.1 (Nat.lt_of_lt_of_le hF.2 (Nat.le_of_lt_succ hmu1)) _ _ _ hH hS (lv_sub hl [1, 0, 2] rfl)
          · have hF := hF.2 c7
            refine lv_iload_n C.1 C.2.1 dX1_hardest_39 rfl (lv_at hl 1 rfl) ?_
            refine lv_istore_n (lv' := [(1, .int (zI (k))), (2, .int (zI (k))), (0, .ref (bs + (i)))]) C.1 C.2.1 dX1_hardest_40 rfl hl (by decide) rfl (fun ls hl => ?_)
            refine zd_iinc (k := 1) (lv' := [(2, .int (zI (k + 1))), (1, .int (zI (k))), (0, .ref (bs + (i)))]) C hl rfl dX1_hardest_41 (by decide) rfl (fun ls hl => ?_)
            refine lv_goto (tgt := 4) C.1 C.2.1 dX1_hardest_44 (by decide) ?_
            obtain ⟨o9, hF⟩ := hF
            exact ih1 (k) (k + 1) hk o9 hF.1 (Nat.lt_of_lt_of_le hF.2 (Nat.le_of_lt_succ hmu1)) _ _ _ hH hS (lv_sub hl [1, 0, 2] rfl)
  exact L1 (((20 - ((1 : Int))).toNat) + 1) ((0 : Int)) ((1 : Int)) (by decide) (by decide) hI1 (Nat.lt_succ_self _) _ _ _ hH hS (lv_sub hl [1, 0, 2] rfl)
theorem v_X1_hardest {X Y : Nat → Int → Int} {R : Nat → Int → Option Nat} {i : Nat} {Z : Nat → Int → Int} {q : Nat}  (hp : cA Z q X Y R i) : F_X1_hardest i Z q X Y R  := by
  unfold F_X1_hardest
  intro hX hY
  obtain ⟨l27, r27, e27⟩ := cA_l hp
  refine ⟨?_, ?_⟩
  · refine ⟨by omega, ?_⟩
    have g := grN_b (sdf Z q) (grV Z q true) 1
    rw [show (1 : Int).toNat = 1 from rfl]
    omega
  intro u k
  intro _
  intro _
  intro h1
  obtain ⟨⟨k1, k2⟩, hr⟩ := h1
  obtain ⟨kn, rfl⟩ := nat_of (show 0 ≤ k by omega)
  subst hr
  refine ⟨?_, ?_⟩
  · intro c1
    rw [show Z q 27 = kn by omega]
  intro c2
  have kl : (kn : Int) < Z q 27 := by omega
  have es : ((kn : Int) + 1).toNat = kn + 1 := by omega
  have e0 : ((kn : Nat) : Int).toNat = kn := by omega
  refine ⟨?_, ?_⟩
  · intro c3
    have c3 := (cA_isIn hp kl).symm.trans c3
    refine ⟨?_, ?_⟩
    · first | omega | exact ⟨by omega, by omega⟩ | decide | assumption | exact ⟨by omega, by omega, by omega⟩ | exact ⟨by decide, by decide⟩
    refine ⟨?_, ?_⟩
    · exact ⟨by omega, by rw [es, e0, grN_n (by rw [c3]; rfl)]⟩
    first | omega | exact ⟨by omega, by omega⟩ | decide | assumption | exact ⟨by omega, by omega, by omega⟩ | exact ⟨by decide, by decide⟩
  intro c4
  have c4 := (cA_isIn hp kl).symm.trans c4
  have gb := grN_b (sdf Z q) (grV Z q true) kn
  refine ⟨?_, ?_⟩
  · first | omega | exact ⟨by omega, by omega⟩ | decide | assumption | exact ⟨by omega, by omega, by omega⟩ | exact ⟨by decide, by decide⟩
  refine ⟨?_, ?_⟩
  · rw [e0]
    omega
  refine ⟨?_, ?_⟩
  · intro c5
    rw [e0, (cA_W hp kl).1, (cA_W hp (show ((grN (sdf Z q) (grV Z q true) kn : Nat) : Int) < Z q 27 by omega)).1] at c5
    have d5 : ¬ grV Z q true (grN (sdf Z q) (grV Z q true) kn) < grV Z q true kn := Int.not_lt.mpr c5
    refine ⟨?_, ?_⟩
    · exact ⟨by omega, by omega⟩
    refine ⟨?_, ?_⟩
    · exact ⟨by omega, by rw [es, e0, grN_n (by rw [decide_eq_false d5, Bool.and_false])]⟩
    first | omega | exact ⟨by omega, by omega⟩ | decide | assumption | exact ⟨by omega, by omega, by omega⟩ | exact ⟨by decide, by decide⟩
  intro c6
  rw [e0, (cA_W hp kl).1, (cA_W hp (show ((grN (sdf Z q) (grV Z q true) kn : Nat) : Int) < Z q 27 by omega)).1] at c6
  have d6 : grV Z q true (grN (sdf Z q) (grV Z q true) kn) < grV Z q true kn := Int.not_le.mp c6
  refine ⟨?_, ?_⟩
  · first | omega | exact ⟨by omega, by omega⟩ | decide | assumption | exact ⟨by omega, by omega, by omega⟩ | exact ⟨by decide, by decide⟩
  refine ⟨?_, ?_⟩
  · exact ⟨by omega, by rw [es, grN_y (by rw [c4, decide_eq_true d6]; rfl)]⟩
  first | omega | exact ⟨by omega, by omega⟩ | decide | assumption | exact ⟨by omega, by omega, by omega⟩ | exact ⟨by decide, by decide⟩
theorem c_X1_hardest {l : Launch} {D : va_G} {cy : Nat → ClassId} {bs N : Nat} {sa : Nat → Nat} {kd len : Nat → Nat} {X Y : Nat → Int → Int} {R : Nat → Int → Option Nat} {i : Nat} {Z : Nat → Int → Int} {q : Nat} (hC : zChart N kd len R i)  (hp : cA Z q X Y R i) : Met l yX1_hardest (.code yX1_hardest cX1_hardest 3 (some .int) :: zTB) (zRm 1 21) (zPc D cy bs sa N kd len X Y R [.ref (bs + (i))]) (zQi D cy bs N kd len (fun r st => r = ((grN (sdf Z q) (grV Z q true) (Z q 27).toNat : Nat) : Int) ∧ st = (X, Y, R))) 0 0 (zA bs) := w_X1_hardest hC  (v_X1_hardest  hp)
abbrev cX1_turns : ByteArray := prog_3_method_27_code
def yX1_turns : MethodName := ⟨RX1, "turns", "()I"⟩
theorem dX1_turns_0 : decode cX1_turns 0 = .ok (.iconst 0, 1) := by decide +kernel
theorem dX1_turns_1 : decode cX1_turns 1 = .ok (.istore_n 1, 1) := by decide +kernel
theorem dX1_turns_2 : decode cX1_turns 2 = .ok (.iconst 1, 1) := by decide +kernel
theorem dX1_turns_3 : decode cX1_turns 3 = .ok (.istore_n 2, 1) := by decide +kernel
theorem dX1_turns_4 : decode cX1_turns 4 = .ok (.iload_n 2, 1) := by decide +kernel
theorem dX1_turns_5 : decode cX1_turns 5 = .ok (.aload_n 0, 1) := by decide +kernel
theorem dX1_turns_6 : decode cX1_turns 6 = .ok (.getfield 68, 3) := by decide +kernel
theorem dX1_turns_9 : decode cX1_turns 9 = .ok (.if_icmp .gt 47, 3) := by decide +kernel
theorem dX1_turns_12 : decode cX1_turns 12 = .ok (.aload_n 0, 1) := by decide +kernel
theorem dX1_turns_13 : decode cX1_turns 13 = .ok (.getfield 69, 3) := by decide +kernel
theorem dX1_turns_16 : decode cX1_turns 16 = .ok (.iload_n 2, 1) := by decide +kernel
theorem dX1_turns_17 : decode cX1_turns 17 = .ok (.invokestatic 127, 3) := by decide +kernel
theorem dX1_turns_20 : decode cX1_turns 20 = .ok (.ifCond .eq 30, 3) := by decide +kernel
theorem dX1_turns_23 : decode cX1_turns 23 = .ok (.aload_n 0, 1) := by decide +kernel
theorem dX1_turns_24 : decode cX1_turns 24 = .ok (.getfield 35, 3) := by decide +kernel
theorem dX1_turns_27 : decode cX1_turns 27 = .ok (.iload_n 2, 1) := by decide +kernel
theorem dX1_turns_28 : decode cX1_turns 28 = .ok (.laload, 1) := by decide +kernel
theorem dX1_turns_29 : decode cX1_turns 29 = .ok (.aload_n 0, 1) := by decide +kernel
theorem dX1_turns_30 : decode cX1_turns 30 = .ok (.getfield 35, 3) := by decide +kernel
theorem dX1_turns_33 : decode cX1_turns 33 = .ok (.aload_n 0, 1) := by decide +kernel
theorem dX1_turns_34 : decode cX1_turns 34 = .ok (.getfield 25, 3) := by decide +kernel
theorem dX1_turns_37 : decode cX1_turns 37 = .ok (.iload_n 2, 1) := by decide +kernel
theorem dX1_turns_38 : decode cX1_turns 38 = .ok (.iaload, 1) := by decide +kernel
theorem dX1_turns_39 : decode cX1_turns 39 = .ok (.laload, 1) := by decide +kernel
theorem dX1_turns_40 : decode cX1_turns 40 = .ok (.lcmp, 1) := by decide +kernel
theorem dX1_turns_41 : decode cX1_turns 41 = .ok (.ifCond .eq 9, 3) := by decide +kernel
theorem dX1_turns_44 : decode cX1_turns 44 = .ok (.iload_n 1, 1) := by decide +kernel
theorem dX1_turns_45 : decode cX1_turns 45 = .ok (.iconst 1, 1) := by decide +kernel
theorem dX1_turns_46 : decode cX1_turns 46 = .ok (.iload_n 2, 1) := by decide +kernel
theorem dX1_turns_47 : decode cX1_turns 47 = .ok (.ishl, 1) := by decide +kernel
theorem dX1_turns_48 : decode cX1_turns 48 = .ok (.ior, 1) := by decide +kernel
theorem dX1_turns_49 : decode cX1_turns 49 = .ok (.istore_n 1, 1) := by decide +kernel
theorem dX1_turns_50 : decode cX1_turns 50 = .ok (.iinc 2 1, 3) := by decide +kernel
theorem dX1_turns_53 : decode cX1_turns 53 = .ok (.goto (-49), 3) := by decide +kernel
theorem dX1_turns_56 : decode cX1_turns 56 = .ok (.iload_n 1, 1) := by decide +kernel
theorem dX1_turns_57 : decode cX1_turns 57 = .ok (.ireturn, 1) := by decide +kernel
def F_X1_turns (i : Nat) (Z : Nat → Int → Int) (q : Nat) (X Y : Nat → Int → Int) (R : Nat → Int → Option Nat)  : Prop := (∀ i j, rI (X i j)) → (∀ i j, rL (Y i j)) → ((1 ≤ (1 : Int) ∧ (1 : Int) ≤ Z q 27) ∧ (0 : Int) = bS (fTu (rP Z q) (sdf Z q) (rW Z q)) ((1 : Int)).toNat) ∧ (∀ (u : Int) (k : Int), rI u → rI k → ((1 ≤ k ∧ k ≤ Z q 27) ∧ u = bS (fTu (rP Z q) (sdf Z q) (rW Z q)) (k).toNat) → ((((X (i) 2) < k) → (u = bS (fTu (rP Z q) (sdf Z q) (rW Z q)) (Z q 27).toNat)) ∧ ((¬ ((X (i) 2) < k)) → ((((decide (0 ≤ k ∧ k < 15) && decide (¬ zAnd (zShr (X (i) 3) (k)) 1 = 0)) = false) → ((rI (k + 1)) ∧ ((1 ≤ (k + 1) ∧ (k + 1) ≤ Z q 27) ∧ u = bS (fTu (rP Z q) (sdf Z q) (rW Z q)) ((k + 1)).toNat) ∧ (((20 - (k + 1)).toNat) < ((20 - (k)).toNat)))) ∧ (((decide (0 ≤ k ∧ k < 15) && decide (¬ zAnd (zShr (X (i) 3) (k)) 1 = 0)) = true) → ((0 ≤ k ∧ k < 15) ∧ ((0 ≤ k ∧ k < 15) ∧ ((0 ≤ (X (i + 9) (k)) ∧ (X (i + 9) (k)) < 15) ∧ ((((Y (i + 12) (k)) = (Y (i + 12) (X (i + 9) (k)))) → ((rI (k + 1)) ∧ ((1 ≤ (k + 1) ∧ (k + 1) ≤ Z q 27) ∧ u = bS (fTu (rP Z q) (sdf Z q) (rW Z q)) ((k + 1)).toNat) ∧ (((20 - (k + 1)).toNat) < ((20 - (k)).toNat)))) ∧ ((¬ ((Y (i + 12) (k)) = (Y (i + 12) (X (i + 9) (k))))) → ((rI (k + 1)) ∧ ((1 ≤ (k + 1) ∧ (k + 1) ≤ Z q 27) ∧ (zOr (u) (zShl (1) (k))) = bS (fTu (rP Z q) (sdf Z q) (rW Z q)) ((k + 1)).toNat) ∧ (((20 - (k + 1)).toNat) < ((20 - (k)).toNat)))))))))))))
set_option maxHeartbeats 4000000 in
set_option maxRecDepth 100000 in
theorem w_X1_turns {l : Launch} {D : va_G} {cy : Nat → ClassId} {bs N : Nat} {sa : Nat → Nat} {kd len : Nat → Nat} {X Y : Nat → Int → Int} {R : Nat → Int → Option Nat} {i : Nat} {Z : Nat → Int → Int} {q : Nat} (hC : zChart N kd len R i)  (hF : F_X1_turns i Z q X Y R ) : Met l yX1_turns (.code yX1_turns cX1_turns 3 (some .int) :: zTB) (zRm 1 21) (zPc D cy bs sa N kd len X Y R [.ref (bs + (i))]) (zQi D cy bs N kd len (fun r st => r = bS (fTu (rP Z q) (sdf Z q) (rW Z q)) (Z q 27).toNat ∧ st = (X, Y, R))) 0 0 (zA bs) := by
  refine zstart (by decide) (Nat.le_of_ble_eq_true rfl) ?_
  intro p e s m args below meth c ls C hE hH hr hlk hnm hl hargs
  have hF := hF hH.2.2.1 hH.2.2.2
  have hS : va_S (zA bs) s.heap s.heap [] := va_S.rf
  have hl : lv_has ls 3 [(0, .ref (bs + (i)))] := hl
  refine zd_iconst C dX1_turns_0 ?_
  refine lv_istore_n (lv' := [(1, .int (zI (0))), (0, .ref (bs + (i)))]) C.1 C.2.1 dX1_turns_1 rfl hl (by decide) rfl (fun ls hl => ?_)
  refine zd_iconst C dX1_turns_2 ?_
  refine lv_istore_n (lv' := [(2, .int (zI (1))), (1, .int (zI (0))), (0, .ref (bs + (i)))]) C.1 C.2.1 dX1_turns_3 rfl hl (by decide) rfl (fun ls hl => ?_)
  obtain ⟨hI1, hF⟩ := hF
  have L1 : ∀ (fu : Nat) (u : Int) (k : Int), rI u → rI k → ((1 ≤ k ∧ k ≤ Z q 27) ∧ u = bS (fTu (rP Z q) (sdf Z q) (rW Z q)) (k).toNat) → ((20 - (k)).toNat) < fu → ∀ (H : Heap) (locs : List Loc) (ls : Array Slot), zH D cy bs N kd len X Y R H → va_S (zA bs) s.heap H locs → lv_has ls 3 [(1, .int (zI (u))), (2, .int (zI (k))), (0, .ref (bs + (i)))] → W p l e (zRm 1 21) s m args below meth c H locs 0 0 (MQ below (zQi D cy bs N kd len (fun r st => r = bS (fTu (rP Z q) (sdf Z q) (rW Z q)) (Z q 27).toNat ∧ st = (X, Y, R))) args s 0 0 (zA bs)) (F0 m 4 ls []) := by
    intro fu
    induction fu with
    | zero => intro u k _ _ _ hmu; exact absurd hmu (Nat.not_lt_zero _)
    | succ fu ih1 =>
      intro u k hu hk hI hmu1 H locs ls hH hS hl
      have hF := hF u k hu hk  hI
      refine lv_iload_n C.1 C.2.1 dX1_turns_4 rfl (lv_at hl 1 rfl) ?_
      refine lv_aload_n C.1 C.2.1 dX1_turns_5 rfl (lv_at hl 2 rfl) ?_
      refine zg1_2 C hH (zChart_n0 hC) (zChart_k0 hC) q_396 dX1_turns_6 ?_
      refine zd_icmp_gt C hk (hH.2.2.1 _ _) 56 dX1_turns_9 (by decide) (fun c2 => ?_) (fun c2 => ?_)
      · have hF := hF.1 c2
        refine lv_iload_n C.1 C.2.1 dX1_turns_56 rfl (lv_at hl 0 rfl) ?_
        exact zd_iret C hr hlk hH hS hu (⟨hF, rfl⟩) dX1_turns_57
      · have hF := hF.2 c2
        refine lv_aload_n C.1 C.2.1 dX1_turns_12 rfl (lv_at hl 2 rfl) ?_
        refine zg1_3 C hH (zChart_n0 hC) (zChart_k0 hC) q_399 dX1_turns_13 ?_
        refine lv_iload_n C.1 C.2.1 dX1_turns_16 rfl (lv_at hl 1 rfl) ?_
        refine zgoi (zrunSN (As := [.int (zI (X (i) 3)), .int (zI (k))]) (rest := []) C hE hH hS hl.1 (c_X10_isIn (l := l)  (X (i) 3) (hH.2.2.1 _ _) (k) hk) k_RX1_127 ⟨Nat.le_of_ble_eq_true rfl, Nat.le_of_ble_eq_true rfl⟩ rfl (Nat.le_of_ble_eq_true rfl) dX1_turns_17 ⟨Nat.zero_le _, Nat.zero_le _⟩) hS (fun rq Xq Yq Rq H locs hrq hq hH hS => ?_)
        obtain ⟨h91, h92⟩ := hq
        have h93 : Xq = X := congrArg (fun z => z.1) h92
        have h94 : Yq = Y := congrArg (fun z => z.2.1) h92
        have h95 : Rq = R := congrArg (fun z => z.2.2) h92
        rw [h93, h94, h95] at hH
        subst h91
        refine zd_ifB_eq C 50 dX1_turns_20 (by decide) (fun c3 => ?_) (fun c3 => ?_)
        · have hF := hF.1 c3
          refine zd_iinc (k := 1) (lv' := [(2, .int (zI (k + 1))), (1, .int (zI (u))), (0, .ref (bs + (i)))]) C hl rfl dX1_turns_50 (by decide) rfl (fun ls hl => ?_)
          refine lv_goto (tgt := 4) C.1 C.2.1 dX1_turns_53 (by decide) ?_
          obtain ⟨o4, hF⟩ := hF
          exact ih1 (u) (k + 1) hu o4 hF.1 (Nat.lt_of_lt_of_le hF.2 (Nat.le_of_lt_succ hmu1)) _ _ _ hH hS (lv_sub hl [1, 0, 2] rfl)
        · have hF := hF.2 c3
          refine lv_aload_n C.1 C.2.1 dX1_turns_23 rfl (lv_at hl 2 rfl) ?_
          refine zg1_7 C hH (zChart_n0 hC) (zChart_k0 hC) q_409 (zChart_r12 hC) dX1_turns_24 ?_
          refine lv_iload_n C.1 C.2.1 dX1_turns_27 rfl (lv_at hl 1 rfl) ?_
          obtain ⟨o5, hF⟩ := hF
          refine zd_lald C hH (zChart_n12 hC) (zChart_k12 hC) o5.1 (by rw [zChart_l12 hC]; exact o5.2) (by rw [zChart_l12 hC]; decide) dX1_turns_28 ?_
          refine lv_aload_n C.1 C.2.1 dX1_turns_29 rfl (lv_at hl 2 rfl) ?_
          refine zg1_7 C hH (zChart_n0 hC) (zChart_k0 hC) q_409 (zChart_r12 hC) dX1_turns_30 ?_
          refine lv_aload_n C.1 C.2.1 dX1_turns_33 rfl (lv_at hl 2 rfl) ?_
          refine zg1_4 C hH (zChart_n0 hC) (zChart_k0 hC) q_402 (zChart_r9 hC) dX1_turns_34 ?_
          refine lv_iload_n C.1 C.2.1 dX1_turns_37 rfl (lv_at hl 1 rfl) ?_
          obtain ⟨o6, hF⟩ := hF
          refine zd_iald C hH (zChart_n9 hC) (zChart_k9 hC) o6.1 (by rw [zChart_l9 hC]; exact o6.2) (by rw [zChart_l9 hC]; decide) dX1_turns_38 ?_
          obtain ⟨o7, hF⟩ := hF
          refine zd_lald C hH (zChart_n12 hC) (zChart_k12 hC) o7.1 (by rw [zChart_l12 hC]; exact o7.2) (by rw [zChart_l12 hC]; decide) dX1_turns_39 ?_
          refine zd_lcmp C (hH.2.2.2 _ _) (hH.2.2.2 _ _) dX1_turns_40 ?_
          refine zd_ifL_eq C 50 dX1_turns_41 (by decide) (fun c8 => ?_) (fun c8 => ?_)
          · have hF := hF.1 c8
            refine zd_iinc (k := 1) (lv' := [(2, .int (zI (k + 1))), (1, .int (zI (u))), (0, .ref (bs + (i)))]) C hl rfl dX1_turns_50 (by decide) rfl (fun ls hl => ?_)
            refine lv_goto (tgt := 4) C.1 C.2.1 dX1_turns_53 (by decide) ?_
            obtain ⟨o9, hF⟩ := hF
            exact ih1 (u) (k + 1) hu o9 hF.1 (Nat.lt_of_lt_of_le hF.2 (Nat.le_of_lt_succ hmu1)) _ _ _ hH hS (lv_sub hl [1, 0, 2] rfl)
          · have hF := hF.2 c8
            refine lv_iload_n C.1 C.2.1 dX1_turns_44 rfl (lv_at hl 0 rfl) ?_
            refine zd_iconst C dX1_turns_45 ?_
            refine lv_iload_n C.1 C.2.1 dX1_turns_46 rfl (lv_at hl 1 rfl) ?_
            refine zd_ishl C dX1_turns_47 ?_
            refine zd_ior C dX1_turns_48 ?_
            refine lv_istore_n (lv' := [(1, .int (zI (zOr (u) (zShl (1) (k))))), (2, .int (zI (k))), (0, .ref (bs + (i)))]) C.1 C.2.1 dX1_turns_49 rfl hl (by decide) rfl (fun ls hl => ?_)
            refine zd_iinc (k := 1) (lv' := [(2, .int (zI (k + 1))), (1, .int (zI (zOr (u) (zShl (1) (k))))), (0, .ref (bs + (i)))]) C hl rfl dX1_turns_50 (by decide) rfl (fun ls hl => ?_)
            refine lv_goto (tgt := 4) C.1 C.2.1 dX1_turns_53 (by decide) ?_
            obtain ⟨o10, hF⟩ := hF
            exact ih1 (zOr (u) (zShl (1) (k))) (k + 1) (zI_rg _) o10 hF.1 (Nat.lt_of_lt_of_le hF.2 (Nat.le_of_lt_succ hmu1)) _ _ _ hH hS (lv_sub hl [1, 0, 2] rfl)
  exact L1 (((20 - ((1 : Int))).toNat) + 1) ((0 : Int)) ((1 : Int)) (by decide) (by decide) hI1 (Nat.lt_succ_self _) _ _ _ hH hS (lv_sub hl [1, 0, 2] rfl)
theorem v_X1_turns {X Y : Nat → Int → Int} {R : Nat → Int → Option Nat} {i : Nat} {Z : Nat → Int → Int} {q : Nat}  (hp : cA Z q X Y R i) : F_X1_turns i Z q X Y R  := by
  unfold F_X1_turns
  intro hX hY
  obtain ⟨l27, r27, e27⟩ := cA_l hp
  refine ⟨?_, ?_⟩
  · exact ⟨by omega, (bS_1 rfl).symm⟩
  intro u k
  intro _
  intro _
  intro h1
  obtain ⟨⟨k1, k2⟩, hr⟩ := h1
  obtain ⟨kn, rfl⟩ := nat_of (show 0 ≤ k by omega)
  subst hr
  refine ⟨?_, ?_⟩
  · intro c1
    rw [show Z q 27 = kn by omega]
  intro c2
  have kl : (kn : Int) < Z q 27 := by omega
  have es : ((kn : Int) + 1).toNat = kn + 1 := by omega
  have e0 : ((kn : Nat) : Int).toNat = kn := by omega
  refine ⟨?_, ?_⟩
  · intro c3
    have c3 := (cA_isIn hp kl).symm.trans c3
    refine ⟨?_, ?_⟩
    · first | omega | exact ⟨by omega, by omega⟩ | decide | assumption | exact ⟨by omega, by omega, by omega⟩ | exact ⟨by decide, by decide⟩
    refine ⟨?_, ?_⟩
    · exact ⟨by omega, by rw [es, e0, bS_n (by unfold fTu; rw [c3, Bool.false_and, Bool.and_false])]⟩
    first | omega | exact ⟨by omega, by omega⟩ | decide | assumption | exact ⟨by omega, by omega, by omega⟩ | exact ⟨by decide, by decide⟩
  intro c4
  have c4 := (cA_isIn hp kl).symm.trans c4
  have hx := cA_p hp (show 1 ≤ kn by omega) kl
  have hw1 := (cA_W hp kl).1
  have hw2 := (cA_W hp (show ((rP Z q kn : Nat) : Int) < Z q 27 by omega)).1
  rw [hx.1, hw1, hw2]
  refine ⟨?_, ?_⟩
  · first | omega | exact ⟨by omega, by omega⟩ | decide | assumption | exact ⟨by omega, by omega, by omega⟩ | exact ⟨by decide, by decide⟩
  refine ⟨?_, ?_⟩
  · first | omega | exact ⟨by omega, by omega⟩ | decide | assumption | exact ⟨by omega, by omega, by omega⟩ | exact ⟨by decide, by decide⟩
  refine ⟨?_, ?_⟩
  · first | omega | exact ⟨by omega, by omega⟩ | decide | assumption | exact ⟨by omega, by omega, by omega⟩ | exact ⟨by decide, by decide⟩
  refine ⟨?_, ?_⟩
  · intro c5
    refine ⟨?_, ?_⟩
    · first | omega | exact ⟨by omega, by omega⟩ | decide | assumption | exact ⟨by omega, by omega, by omega⟩ | exact ⟨by decide, by decide⟩
    refine ⟨?_, ?_⟩
    · exact ⟨by omega, by rw [es, e0, bS_n (by unfold fTu; rw [decide_eq_false (p := rW Z q kn ≠ rW Z q (rP Z q kn)) (fun g => g c5), Bool.and_false, Bool.and_false])]⟩
    first | omega | exact ⟨by omega, by omega⟩ | decide | assumption | exact ⟨by omega, by omega, by omega⟩ | exact ⟨by decide, by decide⟩
  intro c6
  refine ⟨?_, ?_⟩
  · first | omega | exact ⟨by omega, by omega⟩ | decide | assumption | exact ⟨by omega, by omega, by omega⟩ | exact ⟨by decide, by decide⟩
  refine ⟨?_, ?_⟩
  · exact ⟨by omega, by rw [es, e0, bS_y (by unfold fTu; rw [c4, decide_eq_true c6, decide_eq_true (show 1 ≤ kn by omega)]; rfl)]⟩
  first | omega | exact ⟨by omega, by omega⟩ | decide | assumption | exact ⟨by omega, by omega, by omega⟩ | exact ⟨by decide, by decide⟩
theorem c_X1_turns {l : Launch} {D : va_G} {cy : Nat → ClassId} {bs N : Nat} {sa : Nat → Nat} {kd len : Nat → Nat} {X Y : Nat → Int → Int} {R : Nat → Int → Option Nat} {i : Nat} {Z : Nat → Int → Int} {q : Nat} (hC : zChart N kd len R i)  (hp : cA Z q X Y R i) : Met l yX1_turns (.code yX1_turns cX1_turns 3 (some .int) :: zTB) (zRm 1 21) (zPc D cy bs sa N kd len X Y R [.ref (bs + (i))]) (zQi D cy bs N kd len (fun r st => r = bS (fTu (rP Z q) (sdf Z q) (rW Z q)) (Z q 27).toNat ∧ st = (X, Y, R))) 0 0 (zA bs) := w_X1_turns hC  (v_X1_turns  hp)
abbrev cX1_steepest : ByteArray := prog_3_method_28_code
def yX1_steepest : MethodName := ⟨RX1, "steepest", "()I"⟩
theorem dX1_steepest_0 : decode cX1_steepest 0 = .ok (.iconst (-1), 1) := by decide +kernel
theorem dX1_steepest_1 : decode cX1_steepest 1 = .ok (.istore_n 1, 1) := by decide +kernel
theorem dX1_steepest_2 : decode cX1_steepest 2 = .ok (.lconst 0, 1) := by decide +kernel
theorem dX1_steepest_3 : decode cX1_steepest 3 = .ok (.lstore_n 2, 1) := by decide +kernel
theorem dX1_steepest_4 : decode cX1_steepest 4 = .ok (.iconst 1, 1) := by decide +kernel
theorem dX1_steepest_5 : decode cX1_steepest 5 = .ok (.istore 4, 2) := by decide +kernel
theorem dX1_steepest_7 : decode cX1_steepest 7 = .ok (.iload 4, 2) := by decide +kernel
theorem dX1_steepest_9 : decode cX1_steepest 9 = .ok (.aload_n 0, 1) := by decide +kernel
theorem dX1_steepest_10 : decode cX1_steepest 10 = .ok (.getfield 68, 3) := by decide +kernel
theorem dX1_steepest_13 : decode cX1_steepest 13 = .ok (.if_icmp .gt 59, 3) := by decide +kernel
theorem dX1_steepest_16 : decode cX1_steepest 16 = .ok (.aload_n 0, 1) := by decide +kernel
theorem dX1_steepest_17 : decode cX1_steepest 17 = .ok (.getfield 35, 3) := by decide +kernel
theorem dX1_steepest_20 : decode cX1_steepest 20 = .ok (.iload 4, 2) := by decide +kernel
theorem dX1_steepest_22 : decode cX1_steepest 22 = .ok (.laload, 1) := by decide +kernel
theorem dX1_steepest_23 : decode cX1_steepest 23 = .ok (.aload_n 0, 1) := by decide +kernel
theorem dX1_steepest_24 : decode cX1_steepest 24 = .ok (.getfield 35, 3) := by decide +kernel
theorem dX1_steepest_27 : decode cX1_steepest 27 = .ok (.aload_n 0, 1) := by decide +kernel
theorem dX1_steepest_28 : decode cX1_steepest 28 = .ok (.getfield 25, 3) := by decide +kernel
theorem dX1_steepest_31 : decode cX1_steepest 31 = .ok (.iload 4, 2) := by decide +kernel
theorem dX1_steepest_33 : decode cX1_steepest 33 = .ok (.iaload, 1) := by decide +kernel
theorem dX1_steepest_34 : decode cX1_steepest 34 = .ok (.laload, 1) := by decide +kernel
theorem dX1_steepest_35 : decode cX1_steepest 35 = .ok (.lsub, 1) := by decide +kernel
theorem dX1_steepest_36 : decode cX1_steepest 36 = .ok (.lstore 5, 2) := by decide +kernel
theorem dX1_steepest_38 : decode cX1_steepest 38 = .ok (.aload_n 0, 1) := by decide +kernel
theorem dX1_steepest_39 : decode cX1_steepest 39 = .ok (.getfield 69, 3) := by decide +kernel
theorem dX1_steepest_42 : decode cX1_steepest 42 = .ok (.iload 4, 2) := by decide +kernel
theorem dX1_steepest_44 : decode cX1_steepest 44 = .ok (.invokestatic 127, 3) := by decide +kernel
theorem dX1_steepest_47 : decode cX1_steepest 47 = .ok (.ifCond .eq 19, 3) := by decide +kernel
theorem dX1_steepest_50 : decode cX1_steepest 50 = .ok (.lload 5, 2) := by decide +kernel
theorem dX1_steepest_52 : decode cX1_steepest 52 = .ok (.lload_n 2, 1) := by decide +kernel
theorem dX1_steepest_53 : decode cX1_steepest 53 = .ok (.lcmp, 1) := by decide +kernel
theorem dX1_steepest_54 : decode cX1_steepest 54 = .ok (.ifCond .gt 6, 3) := by decide +kernel
theorem dX1_steepest_57 : decode cX1_steepest 57 = .ok (.goto 9, 3) := by decide +kernel
theorem dX1_steepest_60 : decode cX1_steepest 60 = .ok (.iload 4, 2) := by decide +kernel
theorem dX1_steepest_62 : decode cX1_steepest 62 = .ok (.istore_n 1, 1) := by decide +kernel
theorem dX1_steepest_63 : decode cX1_steepest 63 = .ok (.lload 5, 2) := by decide +kernel
theorem dX1_steepest_65 : decode cX1_steepest 65 = .ok (.lstore_n 2, 1) := by decide +kernel
theorem dX1_steepest_66 : decode cX1_steepest 66 = .ok (.iinc 4 1, 3) := by decide +kernel
theorem dX1_steepest_69 : decode cX1_steepest 69 = .ok (.goto (-62), 3) := by decide +kernel
theorem dX1_steepest_72 : decode cX1_steepest 72 = .ok (.iload_n 1, 1) := by decide +kernel
theorem dX1_steepest_73 : decode cX1_steepest 73 = .ok (.ireturn, 1) := by decide +kernel
def F_X1_steepest (i : Nat) (Z : Nat → Int → Int) (q : Nat) (X Y : Nat → Int → Int) (R : Nat → Int → Option Nat)  : Prop := (∀ i j, rI (X i j)) → (∀ i j, rL (Y i j)) → ((1 ≤ (1 : Int) ∧ (1 : Int) ≤ Z q 27) ∧ ((-1 : Int), (0 : Int)) = stN (sdf Z q) (rP Z q) (rW Z q) ((1 : Int)).toNat) ∧ (∀ (u : Int) (g : Int) (k : Int), rI u → rL g → rI k → ((1 ≤ k ∧ k ≤ Z q 27) ∧ (u, g) = stN (sdf Z q) (rP Z q) (rW Z q) (k).toNat) → ((((X (i) 2) < k) → (u = (stN (sdf Z q) (rP Z q) (rW Z q) (Z q 27).toNat).1)) ∧ ((¬ ((X (i) 2) < k)) → ((0 ≤ k ∧ k < 15) ∧ ((0 ≤ k ∧ k < 15) ∧ ((0 ≤ (X (i + 9) (k)) ∧ (X (i + 9) (k)) < 15) ∧ ((((decide (0 ≤ k ∧ k < 15) && decide (¬ zAnd (zShr (X (i) 3) (k)) 1 = 0)) = false) → ((rI (k + 1)) ∧ ((1 ≤ (k + 1) ∧ (k + 1) ≤ Z q 27) ∧ (u, g) = stN (sdf Z q) (rP Z q) (rW Z q) ((k + 1)).toNat) ∧ (((20 - (k + 1)).toNat) < ((20 - (k)).toNat)))) ∧ (((decide (0 ≤ k ∧ k < 15) && decide (¬ zAnd (zShr (X (i) 3) (k)) 1 = 0)) = true) → ((rL ((Y (i + 12) (k)) - (Y (i + 12) (X (i + 9) (k))))) ∧ (((g < ((Y (i + 12) (k)) - (Y (i + 12) (X (i + 9) (k))))) → ((rI (k + 1)) ∧ ((1 ≤ (k + 1) ∧ (k + 1) ≤ Z q 27) ∧ (k, ((Y (i + 12) (k)) - (Y (i + 12) (X (i + 9) (k))))) = stN (sdf Z q) (rP Z q) (rW Z q) ((k + 1)).toNat) ∧ (((20 - (k + 1)).toNat) < ((20 - (k)).toNat)))) ∧ ((¬ (g < ((Y (i + 12) (k)) - (Y (i + 12) (X (i + 9) (k)))))) → ((rI (k + 1)) ∧ ((1 ≤ (k + 1) ∧ (k + 1) ≤ Z q 27) ∧ (u, g) = stN (sdf Z q) (rP Z q) (rW Z q) ((k + 1)).toNat) ∧ (((20 - (k + 1)).toNat) < ((20 - (k)).toNat))))))))))))))
set_option maxHeartbeats 4000000 in
set_option maxRecDepth 100000 in
theorem w_X1_steepest {l : Launch} {D : va_G} {cy : Nat → ClassId} {bs N : Nat} {sa : Nat → Nat} {kd len : Nat → Nat} {X Y : Nat → Int → Int} {R : Nat → Int → Option Nat} {i : Nat} {Z : Nat → Int → Int} {q : Nat} (hC : zChart N kd len R i)  (hF : F_X1_steepest i Z q X Y R ) : Met l yX1_steepest (.code yX1_steepest cX1_steepest 7 (some .int) :: zTB) (zRm 1 21) (zPc D cy bs sa N kd len X Y R [.ref (bs + (i))]) (zQi D cy bs N kd len (fun r st => r = (stN (sdf Z q) (rP Z q) (rW Z q) (Z q 27).toNat).1 ∧ st = (X, Y, R))) 0 0 (zA bs) := by
  refine zstart (by decide) (Nat.le_of_ble_eq_true rfl) ?_
  intro p e s m args below meth c ls C hE hH hr hlk hnm hl hargs
  have hF := hF hH.2.2.1 hH.2.2.2
  have hS : va_S (zA bs) s.heap s.heap [] := va_S.rf
  have hl : lv_has ls 7 [(0, .ref (bs + (i)))] := hl
  refine zd_iconst C dX1_steepest_0 ?_
  refine lv_istore_n (lv' := [(1, .int (zI ((-1)))), (0, .ref (bs + (i)))]) C.1 C.2.1 dX1_steepest_1 rfl hl (by decide) rfl (fun ls hl => ?_)
  refine lv_lconst (v := zL 0) C.1 C.2.1 dX1_steepest_2 rfl ?_
  refine lv_lstore_n (lv' := [(2, .long (zL (0))), (1, .int (zI ((-1)))), (0, .ref (bs + (i)))]) C.1 C.2.1 dX1_steepest_3 rfl hl (by decide) rfl (fun ls hl => ?_)
  refine zd_iconst C dX1_steepest_4 ?_
  refine lv_istore (lv' := [(4, .int (zI (1))), (2, .long (zL (0))), (1, .int (zI ((-1)))), (0, .ref (bs + (i)))]) C.1 C.2.1 dX1_steepest_5 hl (by decide) rfl (fun ls hl => ?_)
  obtain ⟨hI1, hF⟩ := hF
  have L1 : ∀ (fu : Nat) (u : Int) (g : Int) (k : Int), rI u → rL g → rI k → ((1 ≤ k ∧ k ≤ Z q 27) ∧ (u, g) = stN (sdf Z q) (rP Z q) (rW Z q) (k).toNat) → ((20 - (k)).toNat) < fu → ∀ (H : Heap) (locs : List Loc) (ls : Array Slot), zH D cy bs N kd len X Y R H → va_S (zA bs) s.heap H locs → lv_has ls 7 [(1, .int (zI (u))), (2, .long (zL (g))), (4, .int (zI (k))), (0, .ref (bs + (i)))] → W p l e (zRm 1 21) s m args below meth c H locs 0 0 (MQ below (zQi D cy bs N kd len (fun r st => r = (stN (sdf Z q) (rP Z q) (rW Z q) (Z q 27).toNat).1 ∧ st = (X, Y, R))) args s 0 0 (zA bs)) (F0 m 7 ls []) := by
    intro fu
    induction fu with
    | zero => intro u g k _ _ _ _ hmu; exact absurd hmu (Nat.not_lt_zero _)
    | succ fu ih1 =>
      intro u g k hu hg hk hI hmu1 H locs ls hH hS hl
      have hF := hF u g k hu hg hk  hI
      refine lv_iload C.1 C.2.1 dX1_steepest_7 (lv_at hl 2 rfl) ?_
      refine lv_aload_n C.1 C.2.1 dX1_steepest_9 rfl (lv_at hl 3 rfl) ?_
      refine zg1_2 C hH (zChart_n0 hC) (zChart_k0 hC) q_396 dX1_steepest_10 ?_
      refine zd_icmp_gt C hk (hH.2.2.1 _ _) 72 dX1_steepest_13 (by decide) (fun c2 => ?_) (fun c2 => ?_)
      · have hF := hF.1 c2
        refine lv_iload_n C.1 C.2.1 dX1_steepest_72 rfl (lv_at hl 0 rfl) ?_
        exact zd_iret C hr hlk hH hS hu (⟨hF, rfl⟩) dX1_steepest_73
      · have hF := hF.2 c2
        refine lv_aload_n C.1 C.2.1 dX1_steepest_16 rfl (lv_at hl 3 rfl) ?_
        refine zg1_7 C hH (zChart_n0 hC) (zChart_k0 hC) q_409 (zChart_r12 hC) dX1_steepest_17 ?_
        refine lv_iload C.1 C.2.1 dX1_steepest_20 (lv_at hl 2 rfl) ?_
        obtain ⟨o3, hF⟩ := hF
        refine zd_lald C hH (zChart_n12 hC) (zChart_k12 hC) o3.1 (by rw [zChart_l12 hC]; exact o3.2) (by rw [zChart_l12 hC]; decide) dX1_steepest_22 ?_
        refine lv_aload_n C.1 C.2.1 dX1_steepest_23 rfl (lv_at hl 3 rfl) ?_
        refine zg1_7 C hH (zChart_n0 hC) (zChart_k0 hC) q_409 (zChart_r12 hC) dX1_steepest_24 ?_
        refine lv_aload_n C.1 C.2.1 dX1_steepest_27 rfl (lv_at hl 3 rfl) ?_
        refine zg1_4 C hH (zChart_n0 hC) (zChart_k0 hC) q_402 (zChart_r9 hC) dX1_steepest_28 ?_
        refine lv_iload C.1 C.2.1 dX1_steepest_31 (lv_at hl 2 rfl) ?_
        obtain ⟨o4, hF⟩ := hF
        refine zd_iald C hH (zChart_n9 hC) (zChart_k9 hC) o4.1 (by rw [zChart_l9 hC]; exact o4.2) (by rw [zChart_l9 hC]; decide) dX1_steepest_33 ?_
        obtain ⟨o5, hF⟩ := hF
        refine zd_lald C hH (zChart_n12 hC) (zChart_k12 hC) o5.1 (by rw [zChart_l12 hC]; exact o5.2) (by rw [zChart_l12 hC]; decide) dX1_steepest_34 ?_
        refine zd_lsub C dX1_steepest_35 ?_
        refine lv_lstore (lv' := [(5, .long (zL ((Y (i + 12) (k)) - (Y (i + 12) (X (i + 9) (k)))))), (1, .int (zI (u))), (2, .long (zL (g))), (4, .int (zI (k))), (0, .ref (bs + (i)))]) C.1 C.2.1 dX1_steepest_36 hl (by decide) rfl (fun ls hl => ?_)
        refine lv_aload_n C.1 C.2.1 dX1_steepest_38 rfl (lv_at hl 4 rfl) ?_
        refine zg1_3 C hH (zChart_n0 hC) (zChart_k0 hC) q_399 dX1_steepest_39 ?_
        refine lv_iload C.1 C.2.1 dX1_steepest_42 (lv_at hl 3 rfl) ?_
        refine zgoi (zrunSN (As := [.int (zI (X (i) 3)), .int (zI (k))]) (rest := []) C hE hH hS hl.1 (c_X10_isIn (l := l)  (X (i) 3) (hH.2.2.1 _ _) (k) hk) k_RX1_127 ⟨Nat.le_of_ble_eq_true rfl, Nat.le_of_ble_eq_true rfl⟩ rfl (Nat.le_of_ble_eq_true rfl) dX1_steepest_44 ⟨Nat.zero_le _, Nat.zero_le _⟩) hS (fun rq Xq Yq Rq H locs hrq hq hH hS => ?_)
        obtain ⟨h91, h92⟩ := hq
        have h93 : Xq = X := congrArg (fun z => z.1) h92
        have h94 : Yq = Y := congrArg (fun z => z.2.1) h92
        have h95 : Rq = R := congrArg (fun z => z.2.2) h92
        rw [h93, h94, h95] at hH
        subst h91
        refine zd_ifB_eq C 66 dX1_steepest_47 (by decide) (fun c6 => ?_) (fun c6 => ?_)
        · have hF := hF.1 c6
          refine zd_iinc (k := 3) (lv' := [(4, .int (zI (k + 1))), (5, .long (zL ((Y (i + 12) (k)) - (Y (i + 12) (X (i + 9) (k)))))), (1, .int (zI (u))), (2, .long (zL (g))), (0, .ref (bs + (i)))]) C hl rfl dX1_steepest_66 (by decide) rfl (fun ls hl => ?_)
          refine lv_goto (tgt := 7) C.1 C.2.1 dX1_steepest_69 (by decide) ?_
          obtain ⟨o7, hF⟩ := hF
          exact ih1 (u) (g) (k + 1) hu hg o7 hF.1 (Nat.lt_of_lt_of_le hF.2 (Nat.le_of_lt_succ hmu1)) _ _ _ hH hS (lv_sub hl [2, 3, 0, 4] rfl)
        · have hF := hF.2 c6
          refine lv_lload C.1 C.2.1 dX1_steepest_50 (lv_at hl 0 rfl) ?_
          refine lv_lload_n C.1 C.2.1 dX1_steepest_52 rfl (lv_at hl 2 rfl) ?_
          obtain ⟨o8, hF⟩ := hF
          refine zd_lcmp C o8 hg dX1_steepest_53 ?_
          refine zd_ifL_gt C 60 dX1_steepest_54 (by decide) (fun c9 => ?_) (fun c9 => ?_)
          · have hF := hF.1 c9
            refine lv_iload C.1 C.2.1 dX1_steepest_60 (lv_at hl 3 rfl) ?_
            refine lv_istore_n (lv' := [(1, .int (zI (k))), (5, .long (zL ((Y (i + 12) (k)) - (Y (i + 12) (X (i + 9) (k)))))), (2, .long (zL (g))), (4, .int (zI (k))), (0, .ref (bs + (i)))]) C.1 C.2.1 dX1_steepest_62 rfl hl (by decide) rfl (fun ls hl => ?_)
            refine lv_lload C.1 C.2.1 dX1_steepest_63 (lv_at hl 1 rfl) ?_
            refine lv_lstore_n (lv' := [(2, .long (zL ((Y (i + 12) (k)) - (Y (i + 12) (X (i + 9) (k)))))), (1, .int (zI (k))), (5, .long (zL ((Y (i + 12) (k)) - (Y (i + 12) (X (i + 9) (k)))))), (4, .int (zI (k))), (0, .ref (bs + (i)))]) C.1 C.2.1 dX1_steepest_65 rfl hl (by decide) rfl (fun ls hl => ?_)
            refine zd_iinc (k := 3) (lv' := [(4, .int (zI (k + 1))), (2, .long (zL ((Y (i + 12) (k)) - (Y (i + 12) (X (i + 9) (k)))))), (1, .int (zI (k))), (5, .long (zL ((Y (i + 12) (k)) - (Y (i + 12) (X (i + 9) (k)))))), (0, .ref (bs + (i)))]) C hl rfl dX1_steepest_66 (by decide) rfl (fun ls hl => ?_)
            refine lv_goto (tgt := 7) C.1 C.2.1 dX1_steepest_69 (by decide) ?_
            obtain ⟨o10, hF⟩ := hF
            exact ih1 (k) ((Y (i + 12) (k)) - (Y (i + 12) (X (i + 9) (k)))) (k + 1) hk o8 o10 hF.1 (Nat.lt_of_lt_of_le hF.2 (Nat.le_of_lt_succ hmu1)) _ _ _ hH hS (lv_sub hl [2, 1, 0, 4] rfl)
          · have hF := hF.2 c9
            refine lv_goto (tgt := 66) C.1 C.2.1 dX1_steepest_57 (by decide) ?_
            refine zd_iinc (k := 3) (lv' := [(4, .int (zI (k + 1))), (5, .long (zL ((Y (i + 12) (k)) - (Y (i + 12) (X (i + 9) (k)))))), (1, .int (zI (u))), (2, .long (zL (g))), (0, .ref (bs + (i)))]) C hl rfl dX1_steepest_66 (by decide) rfl (fun ls hl => ?_)
            refine lv_goto (tgt := 7) C.1 C.2.1 dX1_steepest_69 (by decide) ?_
            obtain ⟨o11, hF⟩ := hF
            exact ih1 (u) (g) (k + 1) hu hg o11 hF.1 (Nat.lt_of_lt_of_le hF.2 (Nat.le_of_lt_succ hmu1)) _ _ _ hH hS (lv_sub hl [2, 3, 0, 4] rfl)
  exact L1 (((20 - ((1 : Int))).toNat) + 1) ((-1 : Int)) ((0 : Int)) ((1 : Int)) (by decide) (by decide) (by decide) hI1 (Nat.lt_succ_self _) _ _ _ hH hS (lv_sub hl [2, 1, 0, 3] rfl)
theorem v_X1_steepest {X Y : Nat → Int → Int} {R : Nat → Int → Option Nat} {i : Nat} {Z : Nat → Int → Int} {q : Nat}  (hp : cA Z q X Y R i) : F_X1_steepest i Z q X Y R  := by
  unfold F_X1_steepest
  intro hX hY
  obtain ⟨l27, r27, e27⟩ := cA_l hp
  refine ⟨?_, ?_⟩
  · refine ⟨by omega, ?_⟩
    rw [show (1 : Int).toNat = 0 + 1 from rfl, stN_n rfl]
    rfl
  intro u g k
  intro _
  intro _
  intro _
  intro h1
  obtain ⟨⟨k1, k2⟩, hr⟩ := h1
  obtain ⟨kn, rfl⟩ := nat_of (show 0 ≤ k by omega)
  rw [show ((kn : Nat) : Int).toNat = kn by omega] at hr
  refine ⟨?_, ?_⟩
  · intro c1
    rw [show Z q 27 = kn by omega, show ((kn : Nat) : Int).toNat = kn by omega, ← hr]
  intro c2
  have kl : (kn : Int) < Z q 27 := by omega
  have es : ((kn : Int) + 1).toNat = kn + 1 := by omega
  have e0 : ((kn : Nat) : Int).toNat = kn := by omega
  have hx := cA_p hp (show 1 ≤ kn by omega) kl
  have hw1 := (cA_W hp kl).1
  have hw2 := (cA_W hp (show ((rP Z q kn : Nat) : Int) < Z q 27 by omega)).1
  have b1 := (rW_b hp.1.1.1 hp.2.1 kn kl).1
  have b2 := (rW_b hp.1.1.1 hp.2.1 (rP Z q kn) (by omega)).1
  have hg : g = (stN (sdf Z q) (rP Z q) (rW Z q) kn).2 := congrArg Prod.snd hr
  rw [hx.1, hw1, hw2]
  refine ⟨?_, ?_⟩
  · first | omega | exact ⟨by omega, by omega⟩ | decide | assumption | exact ⟨by omega, by omega, by omega⟩ | exact ⟨by decide, by decide⟩
  refine ⟨?_, ?_⟩
  · first | omega | exact ⟨by omega, by omega⟩ | decide | assumption | exact ⟨by omega, by omega, by omega⟩ | exact ⟨by decide, by decide⟩
  refine ⟨?_, ?_⟩
  · omega
  refine ⟨?_, ?_⟩
  · intro c3
    have c3 := (cA_isIn hp kl).symm.trans c3
    refine ⟨?_, ?_⟩
    · first | omega | exact ⟨by omega, by omega⟩ | decide | assumption | exact ⟨by omega, by omega, by omega⟩ | exact ⟨by decide, by decide⟩
    refine ⟨?_, ?_⟩
    · exact ⟨by omega, by rw [es, stN_n (by rw [c3, Bool.false_and, Bool.and_false])]; exact hr⟩
    first | omega | exact ⟨by omega, by omega⟩ | decide | assumption | exact ⟨by omega, by omega, by omega⟩ | exact ⟨by decide, by decide⟩
  intro c4
  have c4 := (cA_isIn hp kl).symm.trans c4
  refine ⟨?_, ?_⟩
  · exact ⟨by omega, by omega⟩
  refine ⟨?_, ?_⟩
  · intro c5
    refine ⟨?_, ?_⟩
    · first | omega | exact ⟨by omega, by omega⟩ | decide | assumption | exact ⟨by omega, by omega, by omega⟩ | exact ⟨by decide, by decide⟩
    refine ⟨?_, ?_⟩
    · rw [hg] at c5
      exact ⟨by omega, by rw [es, stN_y (by rw [c4, decide_eq_true c5, decide_eq_true (show 1 ≤ kn by omega)]; rfl)]⟩
    first | omega | exact ⟨by omega, by omega⟩ | decide | assumption | exact ⟨by omega, by omega, by omega⟩ | exact ⟨by decide, by decide⟩
  intro c6
  refine ⟨?_, ?_⟩
  · first | omega | exact ⟨by omega, by omega⟩ | decide | assumption | exact ⟨by omega, by omega, by omega⟩ | exact ⟨by decide, by decide⟩
  refine ⟨?_, ?_⟩
  · rw [hg] at c6
    exact ⟨by omega, by rw [es, stN_n (by rw [decide_eq_false c6, Bool.and_false, Bool.and_false])]; exact hr⟩
  first | omega | exact ⟨by omega, by omega⟩ | decide | assumption | exact ⟨by omega, by omega, by omega⟩ | exact ⟨by decide, by decide⟩
theorem c_X1_steepest {l : Launch} {D : va_G} {cy : Nat → ClassId} {bs N : Nat} {sa : Nat → Nat} {kd len : Nat → Nat} {X Y : Nat → Int → Int} {R : Nat → Int → Option Nat} {i : Nat} {Z : Nat → Int → Int} {q : Nat} (hC : zChart N kd len R i)  (hp : cA Z q X Y R i) : Met l yX1_steepest (.code yX1_steepest cX1_steepest 7 (some .int) :: zTB) (zRm 1 21) (zPc D cy bs sa N kd len X Y R [.ref (bs + (i))]) (zQi D cy bs N kd len (fun r st => r = (stN (sdf Z q) (rP Z q) (rW Z q) (Z q 27).toNat).1 ∧ st = (X, Y, R))) 0 0 (zA bs) := w_X1_steepest hC  (v_X1_steepest  hp)
abbrev cX1_uncles : ByteArray := prog_3_method_29_code
def yX1_uncles : MethodName := ⟨RX1, "uncles", "(I)I"⟩
theorem dX1_uncles_0 : decode cX1_uncles 0 = .ok (.aload_n 0, 1) := by decide +kernel
theorem dX1_uncles_1 : decode cX1_uncles 1 = .ok (.getfield 29, 3) := by decide +kernel
theorem dX1_uncles_4 : decode cX1_uncles 4 = .ok (.aload_n 0, 1) := by decide +kernel
theorem dX1_uncles_5 : decode cX1_uncles 5 = .ok (.getfield 25, 3) := by decide +kernel
theorem dX1_uncles_8 : decode cX1_uncles 8 = .ok (.iload_n 1, 1) := by decide +kernel
theorem dX1_uncles_9 : decode cX1_uncles 9 = .ok (.iaload, 1) := by decide +kernel
theorem dX1_uncles_10 : decode cX1_uncles 10 = .ok (.iaload, 1) := by decide +kernel
theorem dX1_uncles_11 : decode cX1_uncles 11 = .ok (.iconst 1, 1) := by decide +kernel
theorem dX1_uncles_12 : decode cX1_uncles 12 = .ok (.aload_n 0, 1) := by decide +kernel
theorem dX1_uncles_13 : decode cX1_uncles 13 = .ok (.getfield 25, 3) := by decide +kernel
theorem dX1_uncles_16 : decode cX1_uncles 16 = .ok (.iload_n 1, 1) := by decide +kernel
theorem dX1_uncles_17 : decode cX1_uncles 17 = .ok (.iaload, 1) := by decide +kernel
theorem dX1_uncles_18 : decode cX1_uncles 18 = .ok (.ishl, 1) := by decide +kernel
theorem dX1_uncles_19 : decode cX1_uncles 19 = .ok (.iconst (-1), 1) := by decide +kernel
theorem dX1_uncles_20 : decode cX1_uncles 20 = .ok (.ixor, 1) := by decide +kernel
theorem dX1_uncles_21 : decode cX1_uncles 21 = .ok (.iand, 1) := by decide +kernel
theorem dX1_uncles_22 : decode cX1_uncles 22 = .ok (.istore_n 2, 1) := by decide +kernel
theorem dX1_uncles_23 : decode cX1_uncles 23 = .ok (.iconst 0, 1) := by decide +kernel
theorem dX1_uncles_24 : decode cX1_uncles 24 = .ok (.istore_n 3, 1) := by decide +kernel
theorem dX1_uncles_25 : decode cX1_uncles 25 = .ok (.iconst 1, 1) := by decide +kernel
theorem dX1_uncles_26 : decode cX1_uncles 26 = .ok (.istore 4, 2) := by decide +kernel
theorem dX1_uncles_28 : decode cX1_uncles 28 = .ok (.iload 4, 2) := by decide +kernel
theorem dX1_uncles_30 : decode cX1_uncles 30 = .ok (.aload_n 0, 1) := by decide +kernel
theorem dX1_uncles_31 : decode cX1_uncles 31 = .ok (.getfield 68, 3) := by decide +kernel
theorem dX1_uncles_34 : decode cX1_uncles 34 = .ok (.if_icmp .gt 56, 3) := by decide +kernel
theorem dX1_uncles_37 : decode cX1_uncles 37 = .ok (.aload_n 0, 1) := by decide +kernel
theorem dX1_uncles_38 : decode cX1_uncles 38 = .ok (.getfield 69, 3) := by decide +kernel
theorem dX1_uncles_41 : decode cX1_uncles 41 = .ok (.iload 4, 2) := by decide +kernel
theorem dX1_uncles_43 : decode cX1_uncles 43 = .ok (.invokestatic 127, 3) := by decide +kernel
theorem dX1_uncles_46 : decode cX1_uncles 46 = .ok (.ifCond .eq 38, 3) := by decide +kernel
theorem dX1_uncles_49 : decode cX1_uncles 49 = .ok (.iload_n 2, 1) := by decide +kernel
theorem dX1_uncles_50 : decode cX1_uncles 50 = .ok (.aload_n 0, 1) := by decide +kernel
theorem dX1_uncles_51 : decode cX1_uncles 51 = .ok (.getfield 25, 3) := by decide +kernel
theorem dX1_uncles_54 : decode cX1_uncles 54 = .ok (.iload 4, 2) := by decide +kernel
theorem dX1_uncles_56 : decode cX1_uncles 56 = .ok (.iaload, 1) := by decide +kernel
theorem dX1_uncles_57 : decode cX1_uncles 57 = .ok (.invokestatic 127, 3) := by decide +kernel
theorem dX1_uncles_60 : decode cX1_uncles 60 = .ok (.ifCond .eq 24, 3) := by decide +kernel
theorem dX1_uncles_63 : decode cX1_uncles 63 = .ok (.aload_n 0, 1) := by decide +kernel
theorem dX1_uncles_64 : decode cX1_uncles 64 = .ok (.getfield 29, 3) := by decide +kernel
theorem dX1_uncles_67 : decode cX1_uncles 67 = .ok (.iload_n 1, 1) := by decide +kernel
theorem dX1_uncles_68 : decode cX1_uncles 68 = .ok (.iaload, 1) := by decide +kernel
theorem dX1_uncles_69 : decode cX1_uncles 69 = .ok (.iload 4, 2) := by decide +kernel
theorem dX1_uncles_71 : decode cX1_uncles 71 = .ok (.invokestatic 127, 3) := by decide +kernel
theorem dX1_uncles_74 : decode cX1_uncles 74 = .ok (.ifCond .ne 10, 3) := by decide +kernel
theorem dX1_uncles_77 : decode cX1_uncles 77 = .ok (.iload_n 3, 1) := by decide +kernel
theorem dX1_uncles_78 : decode cX1_uncles 78 = .ok (.iconst 1, 1) := by decide +kernel
theorem dX1_uncles_79 : decode cX1_uncles 79 = .ok (.iload 4, 2) := by decide +kernel
theorem dX1_uncles_81 : decode cX1_uncles 81 = .ok (.ishl, 1) := by decide +kernel
theorem dX1_uncles_82 : decode cX1_uncles 82 = .ok (.ior, 1) := by decide +kernel
theorem dX1_uncles_83 : decode cX1_uncles 83 = .ok (.istore_n 3, 1) := by decide +kernel
theorem dX1_uncles_84 : decode cX1_uncles 84 = .ok (.iinc 4 1, 3) := by decide +kernel
theorem dX1_uncles_87 : decode cX1_uncles 87 = .ok (.goto (-59), 3) := by decide +kernel
theorem dX1_uncles_90 : decode cX1_uncles 90 = .ok (.iload_n 3, 1) := by decide +kernel
theorem dX1_uncles_91 : decode cX1_uncles 91 = .ok (.ireturn, 1) := by decide +kernel
def F_X1_uncles (i : Nat) (Z : Nat → Int → Int) (q : Nat) (X Y : Nat → Int → Int) (R : Nat → Int → Option Nat) (a : Int) : Prop := (∀ i j, rI (X i j)) → (∀ i j, rL (Y i j)) → (0 ≤ a ∧ a < 15) ∧ ((0 ≤ (X (i + 9) (a)) ∧ (X (i + 9) (a)) < 15) ∧ ((0 ≤ a ∧ a < 15) ∧ (((1 ≤ (1 : Int) ∧ (1 : Int) ≤ Z q 27) ∧ (0 : Int) = bS (fUn (rP Z q) (sdf Z q) a.toNat) ((1 : Int)).toNat) ∧ (∀ (u : Int) (k : Int), rI u → rI k → ((1 ≤ k ∧ k ≤ Z q 27) ∧ u = bS (fUn (rP Z q) (sdf Z q) a.toNat) (k).toNat) → ((((X (i) 2) < k) → (u = bS (fUn (rP Z q) (sdf Z q) (a).toNat) (Z q 27).toNat)) ∧ ((¬ ((X (i) 2) < k)) → ((((decide (0 ≤ k ∧ k < 15) && decide (¬ zAnd (zShr (X (i) 3) (k)) 1 = 0)) = false) → ((rI (k + 1)) ∧ ((1 ≤ (k + 1) ∧ (k + 1) ≤ Z q 27) ∧ u = bS (fUn (rP Z q) (sdf Z q) a.toNat) ((k + 1)).toNat) ∧ (((20 - (k + 1)).toNat) < ((20 - (k)).toNat)))) ∧ (((decide (0 ≤ k ∧ k < 15) && decide (¬ zAnd (zShr (X (i) 3) (k)) 1 = 0)) = true) → ((0 ≤ k ∧ k < 15) ∧ ((((decide (0 ≤ X (i + 9) (k) ∧ X (i + 9) (k) < 15) && decide (¬ zAnd (zShr (zAnd (X (i + 10) (X (i + 9) (a))) (zXor (zShl (1) (X (i + 9) (a))) ((-1)))) (X (i + 9) (k))) 1 = 0)) = false) → ((rI (k + 1)) ∧ ((1 ≤ (k + 1) ∧ (k + 1) ≤ Z q 27) ∧ u = bS (fUn (rP Z q) (sdf Z q) a.toNat) ((k + 1)).toNat) ∧ (((20 - (k + 1)).toNat) < ((20 - (k)).toNat)))) ∧ (((decide (0 ≤ X (i + 9) (k) ∧ X (i + 9) (k) < 15) && decide (¬ zAnd (zShr (zAnd (X (i + 10) (X (i + 9) (a))) (zXor (zShl (1) (X (i + 9) (a))) ((-1)))) (X (i + 9) (k))) 1 = 0)) = true) → ((0 ≤ a ∧ a < 15) ∧ ((((decide (0 ≤ k ∧ k < 15) && decide (¬ zAnd (zShr (X (i + 10) (a)) (k)) 1 = 0)) = true) → ((rI (k + 1)) ∧ ((1 ≤ (k + 1) ∧ (k + 1) ≤ Z q 27) ∧ u = bS (fUn (rP Z q) (sdf Z q) a.toNat) ((k + 1)).toNat) ∧ (((20 - (k + 1)).toNat) < ((20 - (k)).toNat)))) ∧ (((decide (0 ≤ k ∧ k < 15) && decide (¬ zAnd (zShr (X (i + 10) (a)) (k)) 1 = 0)) = false) → ((rI (k + 1)) ∧ ((1 ≤ (k + 1) ∧ (k + 1) ≤ Z q 27) ∧ (zOr (u) (zShl (1) (k))) = bS (fUn (rP Z q) (sdf Z q) a.toNat) ((k + 1)).toNat) ∧ (((20 - (k + 1)).toNat) < ((20 - (k)).toNat)))))))))))))))))
set_option maxHeartbeats 4000000 in
set_option maxRecDepth 100000 in
theorem w_X1_uncles {l : Launch} {D : va_G} {cy : Nat → ClassId} {bs N : Nat} {sa : Nat → Nat} {kd len : Nat → Nat} {X Y : Nat → Int → Int} {R : Nat → Int → Option Nat} {i : Nat} {Z : Nat → Int → Int} {q : Nat} (hC : zChart N kd len R i) (a : Int) (ha : rI a) (hF : F_X1_uncles i Z q X Y R a) : Met l yX1_uncles (.code yX1_uncles cX1_uncles 5 (some .int) :: zTB) (zRm 1 21) (zPc D cy bs sa N kd len X Y R [.ref (bs + (i)), .int (zI (a))]) (zQi D cy bs N kd len (fun r st => r = bS (fUn (rP Z q) (sdf Z q) (a).toNat) (Z q 27).toNat ∧ st = (X, Y, R))) 0 0 (zA bs) := by
  refine zstart (by decide) (Nat.le_of_ble_eq_true rfl) ?_
  intro p e s m args below meth c ls C hE hH hr hlk hnm hl hargs
  have hF := hF hH.2.2.1 hH.2.2.2
  have hS : va_S (zA bs) s.heap s.heap [] := va_S.rf
  have hl : lv_has ls 5 [(0, .ref (bs + (i))), (1, .int (zI (a)))] := hl
  refine lv_aload_n C.1 C.2.1 dX1_uncles_0 rfl (lv_at hl 0 rfl) ?_
  refine zg1_5 C hH (zChart_n0 hC) (zChart_k0 hC) q_404 (zChart_r10 hC) dX1_uncles_1 ?_
  refine lv_aload_n C.1 C.2.1 dX1_uncles_4 rfl (lv_at hl 0 rfl) ?_
  refine zg1_4 C hH (zChart_n0 hC) (zChart_k0 hC) q_402 (zChart_r9 hC) dX1_uncles_5 ?_
  refine lv_iload_n C.1 C.2.1 dX1_uncles_8 rfl (lv_at hl 1 rfl) ?_
  obtain ⟨o1, hF⟩ := hF
  refine zd_iald C hH (zChart_n9 hC) (zChart_k9 hC) o1.1 (by rw [zChart_l9 hC]; exact o1.2) (by rw [zChart_l9 hC]; decide) dX1_uncles_9 ?_
  obtain ⟨o2, hF⟩ := hF
  refine zd_iald C hH (zChart_n10 hC) (zChart_k10 hC) o2.1 (by rw [zChart_l10 hC]; exact o2.2) (by rw [zChart_l10 hC]; decide) dX1_uncles_10 ?_
  refine zd_iconst C dX1_uncles_11 ?_
  refine lv_aload_n C.1 C.2.1 dX1_uncles_12 rfl (lv_at hl 0 rfl) ?_
  refine zg1_4 C hH (zChart_n0 hC) (zChart_k0 hC) q_402 (zChart_r9 hC) dX1_uncles_13 ?_
  refine lv_iload_n C.1 C.2.1 dX1_uncles_16 rfl (lv_at hl 1 rfl) ?_
  obtain ⟨o3, hF⟩ := hF
  refine zd_iald C hH (zChart_n9 hC) (zChart_k9 hC) o3.1 (by rw [zChart_l9 hC]; exact o3.2) (by rw [zChart_l9 hC]; decide) dX1_uncles_17 ?_
  refine zd_ishl C dX1_uncles_18 ?_
  refine zd_iconst C dX1_uncles_19 ?_
  refine zd_ixor C dX1_uncles_20 ?_
  refine zd_iand C dX1_uncles_21 ?_
  refine lv_istore_n (lv' := [(2, .int (zI (zAnd (X (i + 10) (X (i + 9) (a))) (zXor (zShl (1) (X (i + 9) (a))) ((-1)))))), (0, .ref (bs + (i))), (1, .int (zI (a)))]) C.1 C.2.1 dX1_uncles_22 rfl hl (by decide) rfl (fun ls hl => ?_)
  refine zd_iconst C dX1_uncles_23 ?_
  refine lv_istore_n (lv' := [(3, .int (zI (0))), (2, .int (zI (zAnd (X (i + 10) (X (i + 9) (a))) (zXor (zShl (1) (X (i + 9) (a))) ((-1)))))), (0, .ref (bs + (i))), (1, .int (zI (a)))]) C.1 C.2.1 dX1_uncles_24 rfl hl (by decide) rfl (fun ls hl => ?_)
  refine zd_iconst C dX1_uncles_25 ?_
  refine lv_istore (lv' := [(4, .int (zI (1))), (3, .int (zI (0))), (2, .int (zI (zAnd (X (i + 10) (X (i + 9) (a))) (zXor (zShl (1) (X (i + 9) (a))) ((-1)))))), (0, .ref (bs + (i))), (1, .int (zI (a)))]) C.1 C.2.1 dX1_uncles_26 hl (by decide) rfl (fun ls hl => ?_)
  obtain ⟨hI4, hF⟩ := hF
  have L4 : ∀ (fu : Nat) (u : Int) (k : Int), rI u → rI k → ((1 ≤ k ∧ k ≤ Z q 27) ∧ u = bS (fUn (rP Z q) (sdf Z q) a.toNat) (k).toNat) → ((20 - (k)).toNat) < fu → ∀ (H : Heap) (locs : List Loc) (ls : Array Slot), zH D cy bs N kd len X Y R H → va_S (zA bs) s.heap H locs → lv_has ls 5 [(3, .int (zI (u))), (4, .int (zI (k))), (2, .int (zI (zAnd (X (i + 10) (X (i + 9) (a))) (zXor (zShl (1) (X (i + 9) (a))) ((-1)))))), (0, .ref (bs + (i))), (1, .int (zI (a)))] → W p l e (zRm 1 21) s m args below meth c H locs 0 0 (MQ below (zQi D cy bs N kd len (fun r st => r = bS (fUn (rP Z q) (sdf Z q) (a).toNat) (Z q 27).toNat ∧ st = (X, Y, R))) args s 0 0 (zA bs)) (F0 m 28 ls []) := by
    intro fu
    induction fu with
    | zero => intro u k _ _ _ hmu; exact absurd hmu (Nat.not_lt_zero _)
    | succ fu ih4 =>
      intro u k hu hk hI hmu4 H locs ls hH hS hl
      have hF := hF u k hu hk  hI
      refine lv_iload C.1 C.2.1 dX1_uncles_28 (lv_at hl 1 rfl) ?_
      refine lv_aload_n C.1 C.2.1 dX1_uncles_30 rfl (lv_at hl 3 rfl) ?_
      refine zg1_2 C hH (zChart_n0 hC) (zChart_k0 hC) q_396 dX1_uncles_31 ?_
      refine zd_icmp_gt C hk (hH.2.2.1 _ _) 90 dX1_uncles_34 (by decide) (fun c5 => ?_) (fun c5 => ?_)
      · have hF := hF.1 c5
        refine lv_iload_n C.1 C.2.1 dX1_uncles_90 rfl (lv_at hl 0 rfl) ?_
        exact zd_iret C hr hlk hH hS hu (⟨hF, rfl⟩) dX1_uncles_91
      · have hF := hF.2 c5
        refine lv_aload_n C.1 C.2.1 dX1_uncles_37 rfl (lv_at hl 3 rfl) ?_
        refine zg1_3 C hH (zChart_n0 hC) (zChart_k0 hC) q_399 dX1_uncles_38 ?_
        refine lv_iload C.1 C.2.1 dX1_uncles_41 (lv_at hl 1 rfl) ?_
        refine zgoi (zrunSN (As := [.int (zI (X (i) 3)), .int (zI (k))]) (rest := []) C hE hH hS hl.1 (c_X10_isIn (l := l)  (X (i) 3) (hH.2.2.1 _ _) (k) hk) k_RX1_127 ⟨Nat.le_of_ble_eq_true rfl, Nat.le_of_ble_eq_true rfl⟩ rfl (Nat.le_of_ble_eq_true rfl) dX1_uncles_43 ⟨Nat.zero_le _, Nat.zero_le _⟩) hS (fun rq Xq Yq Rq H locs hrq hq hH hS => ?_)
        obtain ⟨h91, h92⟩ := hq
        have h93 : Xq = X := congrArg (fun z => z.1) h92
        have h94 : Yq = Y := congrArg (fun z => z.2.1) h92
        have h95 : Rq = R := congrArg (fun z => z.2.2) h92
        rw [h93, h94, h95] at hH
        subst h91
        refine zd_ifB_eq C 84 dX1_uncles_46 (by decide) (fun c6 => ?_) (fun c6 => ?_)
        · have hF := hF.1 c6
          refine zd_iinc (k := 1) (lv' := [(4, .int (zI (k + 1))), (3, .int (zI (u))), (2, .int (zI (zAnd (X (i + 10) (X (i + 9) (a))) (zXor (zShl (1) (X (i + 9) (a))) ((-1)))))), (0, .ref (bs + (i))), (1, .int (zI (a)))]) C hl rfl dX1_uncles_84 (by decide) rfl (fun ls hl => ?_)
          refine lv_goto (tgt := 28) C.1 C.2.1 dX1_uncles_87 (by decide) ?_
          obtain ⟨o7, hF⟩ := hF
          exact ih4 (u) (k + 1) hu o7 hF.1 (Nat.lt_of_lt_of_le hF.2 (Nat.le_of_lt_succ hmu4)) _ _ _ hH hS (lv_sub hl [1, 0, 2, 3, 4] rfl)
        · have hF := hF.2 c6
          refine lv_iload_n C.1 C.2.1 dX1_uncles_49 rfl (lv_at hl 2 rfl) ?_
          refine lv_aload_n C.1 C.2.1 dX1_uncles_50 rfl (lv_at hl 3 rfl) ?_
          refine zg1_4 C hH (zChart_n0 hC) (zChart_k0 hC) q_402 (zChart_r9 hC) dX1_uncles_51 ?_
          refine lv_iload C.1 C.2.1 dX1_uncles_54 (lv_at hl 1 rfl) ?_
          obtain ⟨o8, hF⟩ := hF
          refine zd_iald C hH (zChart_n9 hC) (zChart_k9 hC) o8.1 (by rw [zChart_l9 hC]; exact o8.2) (by rw [zChart_l9 hC]; decide) dX1_uncles_56 ?_
          refine zgoi (zrunSN (As := [.int (zI (zAnd (X (i + 10) (X (i + 9) (a))) (zXor (zShl (1) (X (i + 9) (a))) ((-1))))), .int (zI (X (i + 9) (k)))]) (rest := []) C hE hH hS hl.1 (c_X10_isIn (l := l)  (zAnd (X (i + 10) (X (i + 9) (a))) (zXor (zShl (1) (X (i + 9) (a))) ((-1)))) (zI_rg _) (X (i + 9) (k)) (hH.2.2.1 _ _)) k_RX1_127 ⟨Nat.le_of_ble_eq_true rfl, Nat.le_of_ble_eq_true rfl⟩ rfl (Nat.le_of_ble_eq_true rfl) dX1_uncles_57 ⟨Nat.zero_le _, Nat.zero_le _⟩) hS (fun rq Xq Yq Rq H locs hrq hq hH hS => ?_)
          obtain ⟨h91, h92⟩ := hq
          have h93 : Xq = X := congrArg (fun z => z.1) h92
          have h94 : Yq = Y := congrArg (fun z => z.2.1) h92
          have h95 : Rq = R := congrArg (fun z => z.2.2) h92
          rw [h93, h94, h95] at hH
          subst h91
          refine zd_ifB_eq C 84 dX1_uncles_60 (by decide) (fun c9 => ?_) (fun c9 => ?_)
          · have hF := hF.1 c9
            refine zd_iinc (k := 1) (lv' := [(4, .int (zI (k + 1))), (3, .int (zI (u))), (2, .int (zI (zAnd (X (i + 10) (X (i + 9) (a))) (zXor (zShl (1) (X (i + 9) (a))) ((-1)))))), (0, .ref (bs + (i))), (1, .int (zI (a)))]) C hl rfl dX1_uncles_84 (by decide) rfl (fun ls hl => ?_)
            refine lv_goto (tgt := 28) C.1 C.2.1 dX1_uncles_87 (by decide) ?_
            obtain ⟨o10, hF⟩ := hF
            exact ih4 (u) (k + 1) hu o10 hF.1 (Nat.lt_of_lt_of_le hF.2 (Nat.le_of_lt_succ hmu4)) _ _ _ hH hS (lv_sub hl [1, 0, 2, 3, 4] rfl)
          · have hF := hF.2 c9
            refine lv_aload_n C.1 C.2.1 dX1_uncles_63 rfl (lv_at hl 3 rfl) ?_
            refine zg1_5 C hH (zChart_n0 hC) (zChart_k0 hC) q_404 (zChart_r10 hC) dX1_uncles_64 ?_
            refine lv_iload_n C.1 C.2.1 dX1_uncles_67 rfl (lv_at hl 4 rfl) ?_
            obtain ⟨o11, hF⟩ := hF
            refine zd_iald C hH (zChart_n10 hC) (zChart_k10 hC) o11.1 (by rw [zChart_l10 hC]; exact o11.2) (by rw [zChart_l10 hC]; decide) dX1_uncles_68 ?_
            refine lv_iload C.1 C.2.1 dX1_uncles_69 (lv_at hl 1 rfl) ?_
            refine zgoi (zrunSN (As := [.int (zI (X (i + 10) (a))), .int (zI (k))]) (rest := []) C hE hH hS hl.1 (c_X10_isIn (l := l)  (X (i + 10) (a)) (hH.2.2.1 _ _) (k) hk) k_RX1_127 ⟨Nat.le_of_ble_eq_true rfl, Nat.le_of_ble_eq_true rfl⟩ rfl (Nat.le_of_ble_eq_true rfl) dX1_uncles_71 ⟨Nat.zero_le _, Nat.zero_le _⟩) hS (fun rq Xq Yq Rq H locs hrq hq hH hS => ?_)
            obtain ⟨h91, h92⟩ := hq
            have h93 : Xq = X := congrArg (fun z => z.1) h92
            have h94 : Yq = Y := congrArg (fun z => z.2.1) h92
            have h95 : Rq = R := congrArg (fun z => z.2.2) h92
            rw [h93, h94, h95] at hH
            subst h91
            refine zd_ifB_ne C 84 dX1_uncles_74 (by decide) (fun c12 => ?_) (fun c12 => ?_)
            · have hF := hF.1 c12
              refine zd_iinc (k := 1) (lv' := [(4, .int (zI (k + 1))), (3, .int (zI (u))), (2, .int (zI (zAnd (X (i + 10) (X (i + 9) (a))) (zXor (zShl (1) (X (i + 9) (a))) ((-1)))))), (0, .ref (bs + (i))), (1, .int (zI (a)))]) C hl rfl dX1_uncles_84 (by decide) rfl (fun ls hl => ?_)
              refine lv_goto (tgt := 28) C.1 C.2.1 dX1_uncles_87 (by decide) ?_
              obtain ⟨o13, hF⟩ := hF
              exact ih4 (u) (k + 1) hu o13 hF.1 (Nat.lt_of_lt_of_le hF.2 (Nat.le_of_lt_succ hmu4)) _ _ _ hH hS (lv_sub hl [1, 0, 2, 3, 4] rfl)
            · have hF := hF.2 c12
              refine lv_iload_n C.1 C.2.1 dX1_uncles_77 rfl (lv_at hl 0 rfl) ?_
              refine zd_iconst C dX1_uncles_78 ?_
              refine lv_iload C.1 C.2.1 dX1_uncles_79 (lv_at hl 1 rfl) ?_
              refine zd_ishl C dX1_uncles_81 ?_
              refine zd_ior C dX1_uncles_82 ?_
              refine lv_istore_n (lv' := [(3, .int (zI (zOr (u) (zShl (1) (k))))), (4, .int (zI (k))), (2, .int (zI (zAnd (X (i + 10) (X (i + 9) (a))) (zXor (zShl (1) (X (i + 9) (a))) ((-1)))))), (0, .ref (bs + (i))), (1, .int (zI (a)))]) C.1 C.2.1 dX1_uncles_83 rfl hl (by decide) rfl (fun ls hl => ?_)
              refine zd_iinc (k := 1) (lv' := [(4, .int (zI (k + 1))), (3, .int (zI (zOr (u) (zShl (1) (k))))), (2, .int (zI (zAnd (X (i + 10) (X (i + 9) (a))) (zXor (zShl (1) (X (i + 9) (a))) ((-1)))))), (0, .ref (bs + (i))), (1, .int (zI (a)))]) C hl rfl dX1_uncles_84 (by decide) rfl (fun ls hl => ?_)
              refine lv_goto (tgt := 28) C.1 C.2.1 dX1_uncles_87 (by decide) ?_
              obtain ⟨o14, hF⟩ := hF
              exact ih4 (zOr (u) (zShl (1) (k))) (k + 1) (zI_rg _) o14 hF.1 (Nat.lt_of_lt_of_le hF.2 (Nat.le_of_lt_succ hmu4)) _ _ _ hH hS (lv_sub hl [1, 0, 2, 3, 4] rfl)
  exact L4 (((20 - ((1 : Int))).toNat) + 1) ((0 : Int)) ((1 : Int)) (by decide) (by decide) hI4 (Nat.lt_succ_self _) _ _ _ hH hS (lv_sub hl [1, 0, 2, 3, 4] rfl)
theorem v_X1_uncles {X Y : Nat → Int → Int} {R : Nat → Int → Option Nat} {i : Nat} {Z : Nat → Int → Int} {q : Nat} (a : Int) (ha : rI a) (hp : cA Z q X Y R i ∧ 0 ≤ a ∧ a < Z q 27) : F_X1_uncles i Z q X Y R a := by
  unfold F_X1_uncles
  intro hX hY
  obtain ⟨hq, a0, a1⟩ := hp
  obtain ⟨l27, r27, e27⟩ := cA_l hq
  obtain ⟨an, rfl⟩ := nat_of a0
  have ea : ((an : Nat) : Int).toNat = an := by omega
  have hU : zAnd (X (i + 10) (X (i + 9) an)) (zXor (zShl 1 (X (i + 9) an)) (-1)) = unA (rP Z q) an ∧ 0 ≤ X (i + 9) an ∧ X (i + 9) an < 15 := by
    by_cases g : an = 0
    · subst g
      have e : X (i + 9) 0 = 0 := hq.1.1.2.1
      rw [show ((0 : Nat) : Int) = 0 from rfl, e]
      exact ⟨by rw [show X (i + 10) 0 = _ from cA_w hq (k := 0) a1]; exact unA_0, by decide, by decide⟩
    · have hx := cA_p hq (show 1 ≤ an by omega) a1
      rw [hx.1, cA_w hq (by omega)]
      exact ⟨unA_e hx.2 (by omega) (fun j hj => onW_le (vZ_p hq.1.1.1) _ (by omega) j hj), by omega, by omega⟩
  refine ⟨?_, ?_⟩
  · first | omega | exact ⟨by omega, by omega⟩ | decide | assumption | exact ⟨by omega, by omega, by omega⟩ | exact ⟨by decide, by decide⟩
  refine ⟨?_, ?_⟩
  · exact hU.2
  refine ⟨?_, ?_⟩
  · first | omega | exact ⟨by omega, by omega⟩ | decide | assumption | exact ⟨by omega, by omega, by omega⟩ | exact ⟨by decide, by decide⟩
  refine ⟨?_, ?_⟩
  · exact ⟨by omega, (bS_1 rfl).symm⟩
  intro u k
  intro _
  intro _
  intro h1
  obtain ⟨⟨k1, k2⟩, hr⟩ := h1
  obtain ⟨kn, rfl⟩ := nat_of (show 0 ≤ k by omega)
  subst hr
  refine ⟨?_, ?_⟩
  · intro c1
    rw [show Z q 27 = kn by omega]
  intro c2
  have kl : (kn : Int) < Z q 27 := by omega
  have es : ((kn : Int) + 1).toNat = kn + 1 := by omega
  have e0 : ((kn : Nat) : Int).toNat = kn := by omega
  refine ⟨?_, ?_⟩
  · intro c3
    have c3 := (cA_isIn hq kl).symm.trans c3
    refine ⟨?_, ?_⟩
    · first | omega | exact ⟨by omega, by omega⟩ | decide | assumption | exact ⟨by omega, by omega, by omega⟩ | exact ⟨by decide, by decide⟩
    refine ⟨?_, ?_⟩
    · exact ⟨by omega, by rw [es, e0, bS_n (by unfold fUn; rw [c3, Bool.false_and, Bool.and_false])]⟩
    first | omega | exact ⟨by omega, by omega⟩ | decide | assumption | exact ⟨by omega, by omega, by omega⟩ | exact ⟨by decide, by decide⟩
  intro c4
  have c4 := (cA_isIn hq kl).symm.trans c4
  have hx := cA_p hq (show 1 ≤ kn by omega) kl
  rw [hx.1, hU.1, isIn_has (s := unA (rP Z q) an) (by omega) (by omega)]
  refine ⟨?_, ?_⟩
  · first | omega | exact ⟨by omega, by omega⟩ | decide | assumption | exact ⟨by omega, by omega, by omega⟩ | exact ⟨by decide, by decide⟩
  refine ⟨?_, ?_⟩
  · intro c5
    refine ⟨?_, ?_⟩
    · first | omega | exact ⟨by omega, by omega⟩ | decide | assumption | exact ⟨by omega, by omega, by omega⟩ | exact ⟨by decide, by decide⟩
    refine ⟨?_, ?_⟩
    · exact ⟨by omega, by rw [es, e0, bS_n (by unfold fUn; rw [ea, c5, Bool.and_false, Bool.and_false, Bool.and_false])]⟩
    first | omega | exact ⟨by omega, by omega⟩ | decide | assumption | exact ⟨by omega, by omega, by omega⟩ | exact ⟨by decide, by decide⟩
  intro c6
  rw [cA_w hq a1, isIn_has (s := wyP (rP Z q) an) (by omega) (by omega)]
  refine ⟨?_, ?_⟩
  · first | omega | exact ⟨by omega, by omega⟩ | decide | assumption | exact ⟨by omega, by omega, by omega⟩ | exact ⟨by decide, by decide⟩
  refine ⟨?_, ?_⟩
  · intro c7
    refine ⟨?_, ?_⟩
    · first | omega | exact ⟨by omega, by omega⟩ | decide | assumption | exact ⟨by omega, by omega, by omega⟩ | exact ⟨by decide, by decide⟩
    refine ⟨?_, ?_⟩
    · exact ⟨by omega, by rw [es, e0, bS_n (by unfold fUn; rw [ea, c7, Bool.not_true, Bool.false_and, Bool.and_false, Bool.and_false])]⟩
    first | omega | exact ⟨by omega, by omega⟩ | decide | assumption | exact ⟨by omega, by omega, by omega⟩ | exact ⟨by decide, by decide⟩
  intro c8
  refine ⟨?_, ?_⟩
  · first | omega | exact ⟨by omega, by omega⟩ | decide | assumption | exact ⟨by omega, by omega, by omega⟩ | exact ⟨by decide, by decide⟩
  refine ⟨?_, ?_⟩
  · exact ⟨by omega, by rw [es, e0, bS_y (by unfold fUn; rw [ea, c4, c6, c8, decide_eq_true (show 1 ≤ kn by omega)]; rfl)]⟩
  first | omega | exact ⟨by omega, by omega⟩ | decide | assumption | exact ⟨by omega, by omega, by omega⟩ | exact ⟨by decide, by decide⟩
theorem c_X1_uncles {l : Launch} {D : va_G} {cy : Nat → ClassId} {bs N : Nat} {sa : Nat → Nat} {kd len : Nat → Nat} {X Y : Nat → Int → Int} {R : Nat → Int → Option Nat} {i : Nat} {Z : Nat → Int → Int} {q : Nat} (hC : zChart N kd len R i) (a : Int) (ha : rI a) (hp : cA Z q X Y R i ∧ 0 ≤ a ∧ a < Z q 27) : Met l yX1_uncles (.code yX1_uncles cX1_uncles 5 (some .int) :: zTB) (zRm 1 21) (zPc D cy bs sa N kd len X Y R [.ref (bs + (i)), .int (zI (a))]) (zQi D cy bs N kd len (fun r st => r = bS (fUn (rP Z q) (sdf Z q) (a).toNat) (Z q 27).toNat ∧ st = (X, Y, R))) 0 0 (zA bs) := w_X1_uncles hC a ha (v_X1_uncles a ha hp)
