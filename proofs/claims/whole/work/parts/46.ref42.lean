/-! BY A LAW -/
/-- a feed till it can't go on: whether it goes on yet, and where it is -/
def csSq (x : Cx) (dw dv : Nat → Int) (dn : Int) (t : Cs) : Nat → Bool × Cs
  | 0 => (true, t)
  | k + 1 => if (csSq x dw dv dn t k).1 && (decide ((k : Int) < dn) && csOk (xN x) (csSq x dw dv dn t k).2.1 (dw k) (dv k)) then (true, csDo x (csSq x dw dv dn t k).2 (dw k) (dv k)) else (false, (csSq x dw dv dn t k).2)
def csTa (x : Cx) (dw dv : Nat → Int) (dn : Int) (t : Cs) (k : Nat) : Int := if (csSq x dw dv dn t k).1 then (csSq x dw dv dn t k).2.1 5 else -1
def lwZ (X : Nat → Int → Int) (i : Nat) (law : Int) : Nat → Int → Int := zU (zU (zU X i 28 (law.tdiv 20)) i 29 ((law.tdiv 10).tmod 2)) i 30 (law.tmod 10)
def lwT (X : Nat → Int → Int) (i : Nat) (law : Int) (k : Nat) : Int := csTa (rCx (lwZ X i law) i) (fW X i) (fV X i) (mDn X i) (csI (law.tdiv 20)) k
def lwK (X X1 Y Y1 : Nat → Int → Int) (i : Nat) : Prop := (∀ a, a ≠ i → a ≠ i + 13 → a ≠ i + 16 → a ≠ i + 17 → a ≠ i + 23 → X1 a = X a) ∧ (∀ s, (s < 28 ∨ (30 < s ∧ s < 35) ∨ (37 < s ∧ s < 41) ∨ 47 < s) → X1 i s = X i s) ∧ ∀ a, a ≠ i + 14 → a ≠ i + 15 → a ≠ i + 18 → Y1 a = Y a
/-- what stays, but for the row of tips -/
def fK3 (X X1 Y Y1 : Nat → Int → Int) (i : Nat) : Prop := (∀ a, a ≠ i → a ≠ i + 17 → a ≠ i + 23 → X1 a = X a) ∧ (∀ s, (s < 28 ∨ (28 < s ∧ s < 36) ∨ (37 < s ∧ s < 41) ∨ 47 < s) → X1 i s = X i s) ∧ ∀ a, a ≠ i + 18 → Y1 a = Y a
theorem fK3.rf {X Y : Nat → Int → Int} {i : Nat} : fK3 X X Y Y i := ⟨fun _ _ _ _ => rfl, fun _ _ => rfl, fun _ _ => rfl⟩
theorem fK3.tr {X X1 X2 Y Y1 Y2 : Nat → Int → Int} {i : Nat} (h : fK3 X X1 Y Y1 i) (g : fK3 X1 X2 Y1 Y2 i) : fK3 X X2 Y Y2 i :=
  ⟨fun a h1 h2 h3 => (g.1 a h1 h2 h3).trans (h.1 a h1 h2 h3), fun s h1 => (g.2.1 s h1).trans (h.2.1 s h1), fun a h1 => (g.2.2 a h1).trans (h.2.2 a h1)⟩
theorem fK.to3 {X X1 Y Y1 : Nat → Int → Int} {i : Nat} (h : fK X X1 Y Y1 i) : fK3 X X1 Y Y1 i := ⟨fun a h1 h2 _ => h.1 a h1 h2, h.2.1, h.2.2⟩
theorem fK3_t {X X1 Y Y1 : Nat → Int → Int} {i : Nat} (h : fK3 X X1 Y Y1 i) : tS X X1 i := ⟨h.1 _ (by omega) (by omega) (by omega), h.1 _ (by omega) (by omega) (by omega), h.2.1 _ (by omega), h.2.1 _ (by omega), h.2.1 _ (by omega), h.2.1 _ (by omega), h.2.1 _ (by omega)⟩
theorem rCx_3 {X X1 Y Y1 : Nat → Int → Int} {i : Nat} (h : fK3 X X1 Y Y1 i) : rCx X1 i = rCx X i := by
  have t := fK3_t h
  unfold rCx
  rw [rP_t t, rW_t t, rG_t t, sdf_t t, t.2.2.2.2.2.1, h.2.1 29 (by omega)]
/-- a row that nothing looks at -/
theorem oH_23 {X X1 Y : Nat → Int → Int} {i : Nat} (h1 : ∀ a, a ≠ i + 23 → X1 a = X a) (h : oH X Y i) : oH X1 Y i := by
  have t : tS X X1 i := tS_of (h1 _ (by omega)) (h1 _ (by omega)) (h1 _ (by omega))
  have e0 : X1 i = X i := h1 _ (by omega)
  obtain ⟨⟨hg, ha, hb, hbs⟩, hr, hl, h35, hM⟩ := h
  refine ⟨⟨oG_t t hg, oA_t t ha, by rw [e0]; exact hb, by rw [e0]; exact oBs_t t hbs⟩, by rw [e0]; exact hr, fun j hj => ?_, ?_, fun j hj M hm => ?_⟩
  · rw [e0] at hj
    rw [rP_t t, rW_t t, rG_t t, h1 (i + 13) (by omega)]
    exact hl j hj
  · rw [e0, sdf_t t]
    exact h35
  · rw [e0] at hj
    rw [rS_t t] at hm
    unfold lM
    rw [h1 (i + 16) (by omega)]
    exact hM j hj M hm
theorem cR_23 {X X1 : Nat → Int → Int} {i n : Nat} {t : Cs} (h1 : ∀ a, a ≠ i + 23 → X1 a = X a) (h : cR X i n t) : cR X1 i n t := by
  refine ⟨?_, fun j hj hw => ?_⟩
  · rw [cX_k (h1 i (by omega))]
    exact h.1
  · rw [h1 _ (by omega)]
    exact h.2 j hj hw
theorem csSq_t {x : Cx} {dw dv : Nat → Int} {dn : Int} {t : Cs} {k : Nat} (h1 : (csSq x dw dv dn t k).1 = true) (h2 : (k : Int) < dn) (h3 : csOk (xN x) (csSq x dw dv dn t k).2.1 (dw k) (dv k) = true) : csSq x dw dv dn t (k + 1) = (true, csDo x (csSq x dw dv dn t k).2 (dw k) (dv k)) := by
  conv => lhs; unfold csSq
  rw [h1, decide_eq_true h2, h3]
  rfl
theorem csSq_f {x : Cx} {dw dv : Nat → Int} {dn : Int} {t : Cs} {k : Nat} (h : (csSq x dw dv dn t k).1 = false ∨ dn ≤ (k : Int) ∨ csOk (xN x) (csSq x dw dv dn t k).2.1 (dw k) (dv k) = false) : csSq x dw dv dn t (k + 1) = (false, (csSq x dw dv dn t k).2) := by
  conv => lhs; unfold csSq
  rcases h with h | h | h
  · rw [h]
    rfl
  · rw [decide_eq_false (show ¬ (k : Int) < dn by omega), Bool.false_and, Bool.and_false]
    rfl
  · rw [h, Bool.and_false, Bool.and_false]
    rfl
/-- rule, tie, step are others -/
theorem lw_ok {X X3 : Nat → Int → Int} {i : Nat} (o6 : X3 (i + 6) = X (i + 6)) (o7 : X3 (i + 7) = X (i + 7)) (n24 : X3 i 24 = X i 24) (n25 : X3 i 25 = X i 25) (n26 : X3 i 26 = X i 26) : (oA X i → oA X3 i) ∧ (∀ m, oBs X i m → oBs X3 i m) ∧ (∀ t, mG X3 i t = mG X i t) ∧ (∀ k w, mC X3 i k w = mC X i k w) := by
  have eC : ∀ k w, mC X3 i k w = mC X i k w := fun k w => by
    unfold mC
    rw [o7, n25]
  have eG : ∀ t, mG X3 i t = mG X i t := fun t => by
    unfold mG
    rw [o6, n24]
  have eN : oN X i → oN X3 i := fun h => by
    show 0 ≤ X3 i 24 ∧ X3 i 24 ≤ 1
    rw [n24]
    exact h
  have eCc : oC X i → oC X3 i := fun h => by
    show 0 ≤ X3 i 25 ∧ X3 i 25 ≤ 1
    rw [n25]
    exact h
  refine ⟨fun h => ⟨by rw [n26]; exact h.1, eN h.2.1, by rw [eG]; exact h.2.2.1, fun y y0 y1 => ?_⟩, fun m h => ⟨⟨eCc h.1.1, h.1.2.1, fun k k1 k2 => by rw [eC]; exact h.1.2.2 k k1 k2⟩, fun k k1 k2 => by rw [eC]; exact h.2.1 k k1 k2, fun k k1 k2 => ⟨?_, by rw [eC]; exact (h.2.2 k k1 k2).2⟩⟩, eG, eC⟩
  · show 0 ≤ mG X3 i (7 + y) ∧ mG X3 i (7 + y) ≤ 99
    rw [eG]
    exact h.2.2.2 y y0 y1
  · have q := (h.2.2 k k1 k2).1
    unfold oP rF rO rM at q ⊢
    simp only [eC]
    exact q
theorem oPl_up {X Y : Nat → Int → Int} {i : Nat} {a b : Int} (hab : a ≤ b) (h : oPl X Y i a) : oPl X Y i b := ⟨h.1, oCs_up (by omega) (by omega) h.2.1, h.2.2⟩
abbrev cX11_playBy : ByteArray := prog_13_method_107_code
def yX11_playBy : MethodName := ⟨RX11, "playBy", "(I)V"⟩
theorem dX11_playBy_0 : decode cX11_playBy 0 = .ok (.aload_n 0, 1) := by decide +kernel
theorem dX11_playBy_1 : decode cX11_playBy 1 = .ok (.iload_n 1, 1) := by decide +kernel
theorem dX11_playBy_2 : decode cX11_playBy 2 = .ok (.bipush 20, 2) := by decide +kernel
theorem dX11_playBy_4 : decode cX11_playBy 4 = .ok (.idiv, 1) := by decide +kernel
theorem dX11_playBy_5 : decode cX11_playBy 5 = .ok (.putfield 307, 3) := by decide +kernel
theorem dX11_playBy_8 : decode cX11_playBy 8 = .ok (.aload_n 0, 1) := by decide +kernel
theorem dX11_playBy_9 : decode cX11_playBy 9 = .ok (.iload_n 1, 1) := by decide +kernel
theorem dX11_playBy_10 : decode cX11_playBy 10 = .ok (.bipush 10, 2) := by decide +kernel
theorem dX11_playBy_12 : decode cX11_playBy 12 = .ok (.idiv, 1) := by decide +kernel
theorem dX11_playBy_13 : decode cX11_playBy 13 = .ok (.iconst 2, 1) := by decide +kernel
theorem dX11_playBy_14 : decode cX11_playBy 14 = .ok (.irem, 1) := by decide +kernel
theorem dX11_playBy_15 : decode cX11_playBy 15 = .ok (.putfield 310, 3) := by decide +kernel
theorem dX11_playBy_18 : decode cX11_playBy 18 = .ok (.aload_n 0, 1) := by decide +kernel
theorem dX11_playBy_19 : decode cX11_playBy 19 = .ok (.iload_n 1, 1) := by decide +kernel
theorem dX11_playBy_20 : decode cX11_playBy 20 = .ok (.bipush 10, 2) := by decide +kernel
theorem dX11_playBy_22 : decode cX11_playBy 22 = .ok (.irem, 1) := by decide +kernel
theorem dX11_playBy_23 : decode cX11_playBy 23 = .ok (.putfield 268, 3) := by decide +kernel
theorem dX11_playBy_26 : decode cX11_playBy 26 = .ok (.aload_n 0, 1) := by decide +kernel
theorem dX11_playBy_27 : decode cX11_playBy 27 = .ok (.invokevirtual 313, 3) := by decide +kernel
theorem dX11_playBy_30 : decode cX11_playBy 30 = .ok (.aload_n 0, 1) := by decide +kernel
theorem dX11_playBy_31 : decode cX11_playBy 31 = .ok (.invokevirtual 316, 3) := by decide +kernel
theorem dX11_playBy_34 : decode cX11_playBy 34 = .ok (.aload_n 0, 1) := by decide +kernel
theorem dX11_playBy_35 : decode cX11_playBy 35 = .ok (.invokevirtual 400, 3) := by decide +kernel
theorem dX11_playBy_38 : decode cX11_playBy 38 = .ok (.iconst 1, 1) := by decide +kernel
theorem dX11_playBy_39 : decode cX11_playBy 39 = .ok (.istore_n 2, 1) := by decide +kernel
theorem dX11_playBy_40 : decode cX11_playBy 40 = .ok (.iconst 0, 1) := by decide +kernel
theorem dX11_playBy_41 : decode cX11_playBy 41 = .ok (.istore_n 3, 1) := by decide +kernel
theorem dX11_playBy_42 : decode cX11_playBy 42 = .ok (.iload_n 3, 1) := by decide +kernel
theorem dX11_playBy_43 : decode cX11_playBy 43 = .ok (.bipush 40, 2) := by decide +kernel
theorem dX11_playBy_45 : decode cX11_playBy 45 = .ok (.if_icmp .gt 64, 3) := by decide +kernel
theorem dX11_playBy_48 : decode cX11_playBy 48 = .ok (.aload_n 0, 1) := by decide +kernel
theorem dX11_playBy_49 : decode cX11_playBy 49 = .ok (.getfield 78, 3) := by decide +kernel
theorem dX11_playBy_52 : decode cX11_playBy 52 = .ok (.iload_n 3, 1) := by decide +kernel
theorem dX11_playBy_53 : decode cX11_playBy 53 = .ok (.iload_n 2, 1) := by decide +kernel
theorem dX11_playBy_54 : decode cX11_playBy 54 = .ok (.ifCond .eq 10, 3) := by decide +kernel
theorem dX11_playBy_57 : decode cX11_playBy 57 = .ok (.aload_n 0, 1) := by decide +kernel
theorem dX11_playBy_58 : decode cX11_playBy 58 = .ok (.getfield 367, 3) := by decide +kernel
theorem dX11_playBy_61 : decode cX11_playBy 61 = .ok (.goto 4, 3) := by decide +kernel
theorem dX11_playBy_64 : decode cX11_playBy 64 = .ok (.iconst (-1), 1) := by decide +kernel
theorem dX11_playBy_65 : decode cX11_playBy 65 = .ok (.iastore, 1) := by decide +kernel
theorem dX11_playBy_66 : decode cX11_playBy 66 = .ok (.iload_n 2, 1) := by decide +kernel
theorem dX11_playBy_67 : decode cX11_playBy 67 = .ok (.ifCond .eq 34, 3) := by decide +kernel
theorem dX11_playBy_70 : decode cX11_playBy 70 = .ok (.iload_n 3, 1) := by decide +kernel
theorem dX11_playBy_71 : decode cX11_playBy 71 = .ok (.aload_n 0, 1) := by decide +kernel
theorem dX11_playBy_72 : decode cX11_playBy 72 = .ok (.invokevirtual 355, 3) := by decide +kernel
theorem dX11_playBy_75 : decode cX11_playBy 75 = .ok (.if_icmp .ge 26, 3) := by decide +kernel
theorem dX11_playBy_78 : decode cX11_playBy 78 = .ok (.aload_n 0, 1) := by decide +kernel
theorem dX11_playBy_79 : decode cX11_playBy 79 = .ok (.aload_n 0, 1) := by decide +kernel
theorem dX11_playBy_80 : decode cX11_playBy 80 = .ok (.iload_n 3, 1) := by decide +kernel
theorem dX11_playBy_81 : decode cX11_playBy 81 = .ok (.iconst 0, 1) := by decide +kernel
theorem dX11_playBy_82 : decode cX11_playBy 82 = .ok (.invokevirtual 358, 3) := by decide +kernel
theorem dX11_playBy_85 : decode cX11_playBy 85 = .ok (.aload_n 0, 1) := by decide +kernel
theorem dX11_playBy_86 : decode cX11_playBy 86 = .ok (.iload_n 3, 1) := by decide +kernel
theorem dX11_playBy_87 : decode cX11_playBy 87 = .ok (.iconst 1, 1) := by decide +kernel
theorem dX11_playBy_88 : decode cX11_playBy 88 = .ok (.invokevirtual 358, 3) := by decide +kernel
theorem dX11_playBy_91 : decode cX11_playBy 91 = .ok (.invokevirtual 394, 3) := by decide +kernel
theorem dX11_playBy_94 : decode cX11_playBy 94 = .ok (.ifCond .eq 7, 3) := by decide +kernel
theorem dX11_playBy_97 : decode cX11_playBy 97 = .ok (.iconst 1, 1) := by decide +kernel
theorem dX11_playBy_98 : decode cX11_playBy 98 = .ok (.goto 4, 3) := by decide +kernel
theorem dX11_playBy_101 : decode cX11_playBy 101 = .ok (.iconst 0, 1) := by decide +kernel
theorem dX11_playBy_102 : decode cX11_playBy 102 = .ok (.istore_n 2, 1) := by decide +kernel
theorem dX11_playBy_103 : decode cX11_playBy 103 = .ok (.iinc 3 1, 3) := by decide +kernel
theorem dX11_playBy_106 : decode cX11_playBy 106 = .ok (.goto (-64), 3) := by decide +kernel
theorem dX11_playBy_109 : decode cX11_playBy 109 = .ok (.return_, 1) := by decide +kernel
theorem q_1349 : Cond.fieldLink RX11 78 RX11 "tipAt" "[I" ∈ zTB := zmem 1349 (by decide +kernel) rfl
def F_X11_playBy (i : Nat) (X Y : Nat → Int → Int) (R : Nat → Int → Option Nat) (a : Int) : Prop := (∀ i j, rI (X i j)) → (∀ i j, rL (Y i j)) → ∀ X1 : Nat → Int → Int, X1 = zU X (i) 28 ((a).tdiv (20)) → (∀ i j, rI (X1 i j)) → (∀ X2 : Nat → Int → Int, X2 = zU X1 (i) 29 (((a).tdiv (10)).tmod (2)) → (∀ i j, rI (X2 i j)) → (∀ X3 : Nat → Int → Int, X3 = zU X2 (i) 30 ((a).tmod (10)) → (∀ i j, rI (X3 i j)) → ((oG X3 i ∧ 1 ≤ X3 i 27 ∧ oB X3 i (X3 i 27 - 1) ∧ oT X3 i (X3 i 27 - 1)) ∧ (∀ X5 : Nat → Int → Int, (∀ i j, rI (X5 i j)) → ∀ Y6 : Nat → Int → Int, (∀ i j, rL (Y6 i j)) → (lW X3 Y (X5) (Y6) i (X3 i 27).toNat) → ((oA X5 i ∧ 1 ≤ X5 i 27 ∧ oBs X5 i (X5 i 27 - 1).toNat) ∧ (∀ X8 : Nat → Int → Int, (∀ i j, rI (X8 i j)) → (lS X5 (X8) i (X5 i 27).toNat) → (∀ X9 : Nat → Int → Int, (∀ i j, rI (X9 i j)) → (X9 = zU (zU (zU (zU (zU (zU (zU (bgW X8 i) i 41 1) i 42 1) i 43 0) i 44 0) i 45 0) i 46 0) i 47 0) → ((∃ q : Nat, (0 : Int) = q ∧ q ≤ 41 ∧ fK3 X9 X9 Y6 Y6 i ∧ oPl X9 Y6 i q ∧ cR X9 i (X i 27).toNat (csSq (rCx (lwZ X i a) i) (fW X i) (fV X i) (mDn X i) (csI (a.tdiv 20)) q).2 ∧ true = (csSq (rCx (lwZ X i a) i) (fW X i) (fV X i) (mDn X i) (csI (a.tdiv 20)) q).1 ∧ ∀ y : Nat, y < q → X9 (i + 23) y = lwT X i a y ∧ -1 ≤ lwT X i a y ∧ lwT X i a y < X i 27) ∧ (∀ (can : Bool) (k : Int) (X11 : Nat → Int → Int) (Y12 : Nat → Int → Int), rI k → (∀ i j, rI (X11 i j)) → (∀ i j, rL (Y12 i j)) → (∃ q : Nat, k = q ∧ q ≤ 41 ∧ fK3 X9 X11 Y6 Y12 i ∧ oPl X11 Y12 i q ∧ cR X11 i (X i 27).toNat (csSq (rCx (lwZ X i a) i) (fW X i) (fV X i) (mDn X i) (csI (a.tdiv 20)) q).2 ∧ can = (csSq (rCx (lwZ X i a) i) (fW X i) (fV X i) (mDn X i) (csI (a.tdiv 20)) q).1 ∧ ∀ y : Nat, y < q → X11 (i + 23) y = lwT X i a y ∧ -1 ≤ lwT X i a y ∧ lwT X i a y < X i 27) → (((40 < k) → (lwK X (X11) Y (Y12) i ∧ ∀ yy : Nat, yy ≤ 40 → (X11) (i + 23) yy = lwT X i (a) yy ∧ -1 ≤ lwT X i (a) yy ∧ lwT X i (a) yy < X i 27)) ∧ ((¬ (40 < k)) → ((∀ (X14 : Nat → Int → Int), (∀ i j, rI (X14 i j)) → ((∀ z, z ≠ i + 23 → X14 z = X11 z) ∧ (∀ y : Int, y ≠ k → X14 (i + 23) y = X11 (i + 23) y) ∧ X14 (i + 23) k = if can then X11 i 43 else -1) → ((∀ (can2 : Bool) (X15 : Nat → Int → Int) (Y16 : Nat → Int → Int), (∀ i j, rI (X15 i j)) → (∀ i j, rL (Y16 i j)) → (fK X14 X15 Y12 Y16 i ∧ ∀ q : Nat, k = q → oPl X15 Y16 i (q + 1) ∧ cR X15 i (X i 27).toNat (csSq (rCx (lwZ X i a) i) (fW X i) (fV X i) (mDn X i) (csI (a.tdiv 20)) (q + 1)).2 ∧ can2 = (csSq (rCx (lwZ X i a) i) (fW X i) (fV X i) (mDn X i) (csI (a.tdiv 20)) (q + 1)).1) → ((rI (k + 1)) ∧ (∃ q : Nat, k + 1 = q ∧ q ≤ 41 ∧ fK3 X9 X15 Y6 Y16 i ∧ oPl X15 Y16 i q ∧ cR X15 i (X i 27).toNat (csSq (rCx (lwZ X i a) i) (fW X i) (fV X i) (mDn X i) (csI (a.tdiv 20)) q).2 ∧ can2 = (csSq (rCx (lwZ X i a) i) (fW X i) (fV X i) (mDn X i) (csI (a.tdiv 20)) q).1 ∧ ∀ y : Nat, y < q → X15 (i + 23) y = lwT X i a y ∧ -1 ≤ lwT X i a y ∧ lwT X i a y < X i 27) ∧ (((41 - (k + 1)).toNat) < ((41 - (k)).toNat)))) ∧ (((can = false) → (fK X14 X14 Y12 Y12 i ∧ ∀ q : Nat, k = q → oPl X14 Y12 i (q + 1) ∧ cR X14 i (X i 27).toNat (csSq (rCx (lwZ X i a) i) (fW X i) (fV X i) (mDn X i) (csI (a.tdiv 20)) (q + 1)).2 ∧ false = (csSq (rCx (lwZ X i a) i) (fW X i) (fV X i) (mDn X i) (csI (a.tdiv 20)) (q + 1)).1)) ∧ ((can = true) → ((oFd X14 i) ∧ (rI (mDn X14 i) → ((((mDn X14 i) ≤ k) → (fK X14 X14 Y12 Y12 i ∧ ∀ q : Nat, k = q → oPl X14 Y12 i (q + 1) ∧ cR X14 i (X i 27).toNat (csSq (rCx (lwZ X i a) i) (fW X i) (fV X i) (mDn X i) (csI (a.tdiv 20)) (q + 1)).2 ∧ false = (csSq (rCx (lwZ X i a) i) (fW X i) (fV X i) (mDn X i) (csI (a.tdiv 20)) (q + 1)).1)) ∧ ((¬ ((mDn X14 i) ≤ k)) → ((oFd X14 i ∧ (0 ≤ k ∧ k ≤ 39) ∧ 0 ≤ (0 : Int) ∧ (0 : Int) ≤ 1) ∧ (rI (mDd X14 i (k) ((0 : Int))) → ((oFd X14 i ∧ (0 ≤ k ∧ k ≤ 39) ∧ 0 ≤ (1 : Int) ∧ (1 : Int) ≤ 1) ∧ (rI (mDd X14 i (k) ((1 : Int))) → ((oH X14 Y12 i ∧ oCS (cX X14 i, kX X14 i) (X14 i 27).toNat 900 900 ∧ (0 ≤ mDd X14 i (k) ((0 : Int)) ∧ mDd X14 i (k) ((0 : Int)) ≤ 3) ∧ (mDd X14 i (k) ((0 : Int)) = 3 → 0 ≤ mDd X14 i (k) ((1 : Int)) ∧ mDd X14 i (k) ((1 : Int)) ≤ 1) ∧ (mDd X14 i (k) ((0 : Int)) ≠ 3 → 1 ≤ mDd X14 i (k) ((1 : Int)) ∧ mDd X14 i (k) ((1 : Int)) ≤ 14)) ∧ (∀ r29 : Bool, ∀ X27 : Nat → Int → Int, (∀ i j, rI (X27 i j)) → ∀ Y28 : Nat → Int → Int, (∀ i j, rL (Y28 i j)) → (r29 = csOk (X14 i 27).toNat (cX X14 i) (mDd X14 i (k) ((0 : Int))) (mDd X14 i (k) ((1 : Int))) ∧ fK X14 (X27) Y12 (Y28) i ∧ (r29 = false → (X27) = X14 ∧ (Y28) = Y12) ∧ (r29 = true → ∀ t, cR X14 i (X14 i 27).toNat t → cR (X27) i (X14 i 27).toNat (csDo (rCx X14 i) t (mDd X14 i (k) ((0 : Int))) (mDd X14 i (k) ((1 : Int)))))) → (((r29 = false) → (fK X14 X27 Y12 Y28 i ∧ ∀ q : Nat, k = q → oPl X27 Y28 i (q + 1) ∧ cR X27 i (X i 27).toNat (csSq (rCx (lwZ X i a) i) (fW X i) (fV X i) (mDn X i) (csI (a.tdiv 20)) (q + 1)).2 ∧ false = (csSq (rCx (lwZ X i a) i) (fW X i) (fV X i) (mDn X i) (csI (a.tdiv 20)) (q + 1)).1)) ∧ ((r29 = true) → (fK X14 X27 Y12 Y28 i ∧ ∀ q : Nat, k = q → oPl X27 Y28 i (q + 1) ∧ cR X27 i (X i 27).toNat (csSq (rCx (lwZ X i a) i) (fW X i) (fV X i) (mDn X i) (csI (a.tdiv 20)) (q + 1)).2 ∧ true = (csSq (rCx (lwZ X i a) i) (fW X i) (fV X i) (mDn X i) (csI (a.tdiv 20)) (q + 1)).1))))))))))))))))) ∧ (((can = false) → ((0 ≤ k ∧ k < 41) ∧ (∀ X33 : Nat → Int → Int, X33 = zU X11 (i + 23) (k) ((-1)) → (∀ i j, rI (X33 i j)) → ((∀ z, z ≠ i + 23 → X33 z = X11 z) ∧ (∀ y : Int, y ≠ k → X33 (i + 23) y = X11 (i + 23) y) ∧ X33 (i + 23) k = if can then X11 i 43 else -1)))) ∧ ((can = true) → ((0 ≤ k ∧ k < 41) ∧ (∀ X35 : Nat → Int → Int, X35 = zU X11 (i + 23) (k) (X11 (i) 43) → (∀ i j, rI (X35 i j)) → ((∀ z, z ≠ i + 23 → X35 z = X11 z) ∧ (∀ y : Int, y ≠ k → X35 (i + 23) y = X11 (i + 23) y) ∧ X35 (i + 23) k = if can then X11 i 43 else -1)))))))))))))))))
set_option maxHeartbeats 4000000 in
set_option maxRecDepth 100000 in
theorem w_X11_playBy {l : Launch} {D : va_G} {cy : Nat → ClassId} {bs N : Nat} {sa : Nat → Nat} {kd len : Nat → Nat} {X Y : Nat → Int → Int} {R : Nat → Int → Option Nat} {i : Nat} (hM : zM N kd len R i) (a : Int) (ha : rI a) (hF : F_X11_playBy i X Y R a) : Met l yX11_playBy (.code yX11_playBy cX11_playBy 4 none :: zTB) (zRm 6 135) (zPc D cy bs sa N kd len X Y R [.ref (bs + (i)), .int (zI (a))]) (zQv D cy bs N kd len (fun st => st.2.2 = R ∧ (lwK X (st.1) Y (st.2.1) i ∧ ∀ yy : Nat, yy ≤ 40 → (st.1) (i + 23) yy = lwT X i (a) yy ∧ -1 ≤ lwT X i (a) yy ∧ lwT X i (a) yy < X i 27))) 0 0 (zA bs) := by
  refine zstart (by decide) (Nat.le_of_ble_eq_true rfl) ?_
  intro p e s m args below meth c ls C hE hH hr hlk hnm hl hargs
  have hF := hF hH.2.2.1 hH.2.2.2
  have hS : va_S (zA bs) s.heap s.heap [] := va_S.rf
  have hl : lv_has ls 4 [(0, .ref (bs + (i))), (1, .int (zI (a)))] := hl
  refine lv_aload_n C.1 C.2.1 dX11_playBy_0 rfl (lv_at hl 0 rfl) ?_
  refine lv_iload_n C.1 C.2.1 dX11_playBy_1 rfl (lv_at hl 1 rfl) ?_
  refine zd_bipush C (by decide) dX11_playBy_2 ?_
  refine zd_idiv C ha (by decide) (by decide) (by decide) dX11_playBy_4 ?_
  refine zp11_28 C hH hS (zM_n0 hM) (zM_k0 hM) q_1315 (tdiv_rI ha (show (20 : Int) ≠ -1 from (by decide))) dX11_playBy_5 (fun H locs hH hS => ?_)
  obtain ⟨X1, eX1⟩ : ∃ z, z = zU X (i) 28 ((a).tdiv (20)) := ⟨_, rfl⟩
  rw [← eX1] at hH
  have hF := hF X1 eX1 hH.2.2.1
  refine lv_aload_n C.1 C.2.1 dX11_playBy_8 rfl (lv_at hl 0 rfl) ?_
  refine lv_iload_n C.1 C.2.1 dX11_playBy_9 rfl (lv_at hl 1 rfl) ?_
  refine zd_bipush C (by decide) dX11_playBy_10 ?_
  refine zd_idiv C ha (by decide) (by decide) (by decide) dX11_playBy_12 ?_
  refine zd_iconst C dX11_playBy_13 ?_
  refine zd_irem C (tdiv_rI ha (show (10 : Int) ≠ -1 from (by decide))) (by decide) (by decide) (by decide) dX11_playBy_14 ?_
  refine zp11_29 C hH hS (zM_n0 hM) (zM_k0 hM) q_1316 (tmod_rI (tdiv_rI ha (show (10 : Int) ≠ -1 from (by decide))) (show (2 : Int) ≠ -1 from (by decide))) dX11_playBy_15 (fun H locs hH hS => ?_)
  obtain ⟨X2, eX2⟩ : ∃ z, z = zU X1 (i) 29 (((a).tdiv (10)).tmod (2)) := ⟨_, rfl⟩
  rw [← eX2] at hH
  have hF := hF X2 eX2 hH.2.2.1
  refine lv_aload_n C.1 C.2.1 dX11_playBy_18 rfl (lv_at hl 0 rfl) ?_
  refine lv_iload_n C.1 C.2.1 dX11_playBy_19 rfl (lv_at hl 1 rfl) ?_
  refine zd_bipush C (by decide) dX11_playBy_20 ?_
  refine zd_irem C ha (by decide) (by decide) (by decide) dX11_playBy_22 ?_
  refine zp11_30 C hH hS (zM_n0 hM) (zM_k0 hM) q_1317 (tmod_rI ha (show (10 : Int) ≠ -1 from (by decide))) dX11_playBy_23 (fun H locs hH hS => ?_)
  obtain ⟨X3, eX3⟩ : ∃ z, z = zU X2 (i) 30 ((a).tmod (10)) := ⟨_, rfl⟩
  rw [← eX3] at hH
  have hF := hF X3 eX3 hH.2.2.1
  refine lv_aload_n C.1 C.2.1 dX11_playBy_26 rfl (lv_at hl 0 rfl) ?_
  obtain ⟨o4, hF⟩ := hF
  refine zgov (zrunV (As := []) (rest := []) C hE hH hS hl.1 (c_X11_layWorks (l := l) hM  o4) k_RX11_313 ⟨Nat.le_of_ble_eq_true rfl, Nat.le_of_ble_eq_true rfl⟩ (zM_n0 hM) (zM_k0 hM) rfl rfl rfl (Nat.le_of_ble_eq_true rfl) dX11_playBy_27 ⟨Nat.zero_le _, Nat.zero_le _⟩) hS (fun X5 Y6 Rq H locs hq hH hS => ?_)
  obtain ⟨h9R, hq⟩ := hq
  dsimp only at h9R
  rw [h9R] at hH
  have hF := hF X5 hH.2.2.1 Y6 hH.2.2.2 hq
  refine lv_aload_n C.1 C.2.1 dX11_playBy_30 rfl (lv_at hl 0 rfl) ?_
  obtain ⟨o7, hF⟩ := hF
  refine zgov (zrunV (As := []) (rest := []) C hE hH hS hl.1 (c_X11_laySound (l := l) hM  o7) k_RX11_316 ⟨Nat.le_of_ble_eq_true rfl, Nat.le_of_ble_eq_true rfl⟩ (zM_n0 hM) (zM_k0 hM) rfl rfl rfl (Nat.le_of_ble_eq_true rfl) dX11_playBy_31 ⟨Nat.zero_le _, Nat.zero_le _⟩) hS (fun X8 Yq Rq H locs hq hH hS => ?_)
  obtain ⟨h9Y, h9R, hq⟩ := hq
  dsimp only at h9Y h9R
  rw [h9Y, h9R] at hH
  have hF := hF X8 hH.2.2.1 hq
  refine lv_aload_n C.1 C.2.1 dX11_playBy_34 rfl (lv_at hl 0 rfl) ?_
  refine zgov (zrunV (As := []) (rest := []) C hE hH hS hl.1 (c_X11_beginFeed (l := l) hM ) k_RX11_400 ⟨Nat.le_of_ble_eq_true rfl, Nat.le_of_ble_eq_true rfl⟩ (zM_n0 hM) (zM_k0 hM) rfl rfl rfl (Nat.le_of_ble_eq_true rfl) dX11_playBy_35 ⟨Nat.zero_le _, Nat.zero_le _⟩) hS (fun X9 Yq Rq H locs hq hH hS => ?_)
  obtain ⟨h9Y, h9R, hq⟩ := hq
  dsimp only at h9Y h9R
  rw [h9Y, h9R] at hH
  have hF := hF X9 hH.2.2.1 hq
  refine zd_iconst C dX11_playBy_38 ?_
  refine lv_istore_n (lv' := [(2, .int (zI (1))), (0, .ref (bs + (i))), (1, .int (zI (a)))]) C.1 C.2.1 dX11_playBy_39 rfl hl (by decide) rfl (fun ls hl => ?_)
  refine zd_iconst C dX11_playBy_40 ?_
  refine lv_istore_n (lv' := [(3, .int (zI (0))), (2, .int (zI (1))), (0, .ref (bs + (i))), (1, .int (zI (a)))]) C.1 C.2.1 dX11_playBy_41 rfl hl (by decide) rfl (fun ls hl => ?_)
  obtain ⟨hI10, hF⟩ := hF
  have L10 : ∀ (fu : Nat) (can : Bool) (k : Int) (X11 : Nat → Int → Int) (Y12 : Nat → Int → Int), rI k → (∃ q : Nat, k = q ∧ q ≤ 41 ∧ fK3 X9 X11 Y6 Y12 i ∧ oPl X11 Y12 i q ∧ cR X11 i (X i 27).toNat (csSq (rCx (lwZ X i a) i) (fW X i) (fV X i) (mDn X i) (csI (a.tdiv 20)) q).2 ∧ can = (csSq (rCx (lwZ X i a) i) (fW X i) (fV X i) (mDn X i) (csI (a.tdiv 20)) q).1 ∧ ∀ y : Nat, y < q → X11 (i + 23) y = lwT X i a y ∧ -1 ≤ lwT X i a y ∧ lwT X i a y < X i 27) → ((41 - (k)).toNat) < fu → ∀ (H : Heap) (locs : List Loc) (ls : Array Slot), zH D cy bs N kd len X11 Y12 R H → va_S (zA bs) s.heap H locs → lv_has ls 4 [(2, .int (zI (bz (can)))), (3, .int (zI (k))), (0, .ref (bs + (i))), (1, .int (zI (a)))] → W p l e (zRm 6 135) s m args below meth c H locs 0 0 (MQ below (zQv D cy bs N kd len (fun st => st.2.2 = R ∧ (lwK X (st.1) Y (st.2.1) i ∧ ∀ yy : Nat, yy ≤ 40 → (st.1) (i + 23) yy = lwT X i (a) yy ∧ -1 ≤ lwT X i (a) yy ∧ lwT X i (a) yy < X i 27))) args s 0 0 (zA bs)) (F0 m 42 ls []) := by
    intro fu
    induction fu with
    | zero => intro can k X11 Y12 _ _ hmu; exact absurd hmu (Nat.not_lt_zero _)
    | succ fu ih10 =>
      intro can k X11 Y12 hk hI hmu10 H locs ls hH hS hl
      have hF := hF can k X11 Y12 hk hH.2.2.1 hH.2.2.2 hI
      refine lv_iload_n C.1 C.2.1 dX11_playBy_42 rfl (lv_at hl 1 rfl) ?_
      refine zd_bipush C (by decide) dX11_playBy_43 ?_
      refine zd_icmp_gt C hk (by decide) 109 dX11_playBy_45 (by decide) (fun c13 => ?_) (fun c13 => ?_)
      · have hF := hF.1 c13
        exact zd_vret C hr hlk hH hS (⟨rfl, hF⟩) dX11_playBy_109
      · have hF := hF.2 c13
        have J1 : ∀ (X14 : Nat → Int → Int), ((∀ z, z ≠ i + 23 → X14 z = X11 z) ∧ (∀ y : Int, y ≠ k → X14 (i + 23) y = X11 (i + 23) y) ∧ X14 (i + 23) k = if can then X11 i 43 else -1) → ∀ (H : Heap) (locs : List Loc) (ls : Array Slot), zH D cy bs N kd len X14 Y12 R H → va_S (zA bs) s.heap H locs → lv_has ls 4 [(2, .int (zI (bz (can)))), (3, .int (zI (k))), (0, .ref (bs + (i))), (1, .int (zI (a)))] → W p l e (zRm 6 135) s m args below meth c H locs 0 0 (MQ below (zQv D cy bs N kd len (fun st => st.2.2 = R ∧ (lwK X (st.1) Y (st.2.1) i ∧ ∀ yy : Nat, yy ≤ 40 → (st.1) (i + 23) yy = lwT X i (a) yy ∧ -1 ≤ lwT X i (a) yy ∧ lwT X i (a) yy < X i 27))) args s 0 0 (zA bs)) (F0 m 66 ls []) := by
          intro X14  hI H locs ls hH hS hl
          have hF := hF.1 X14  hH.2.2.1 hI
          have J2 : ∀ (can2 : Bool) (X15 : Nat → Int → Int) (Y16 : Nat → Int → Int), (fK X14 X15 Y12 Y16 i ∧ ∀ q : Nat, k = q → oPl X15 Y16 i (q + 1) ∧ cR X15 i (X i 27).toNat (csSq (rCx (lwZ X i a) i) (fW X i) (fV X i) (mDn X i) (csI (a.tdiv 20)) (q + 1)).2 ∧ can2 = (csSq (rCx (lwZ X i a) i) (fW X i) (fV X i) (mDn X i) (csI (a.tdiv 20)) (q + 1)).1) → ∀ (H : Heap) (locs : List Loc) (ls : Array Slot), zH D cy bs N kd len X15 Y16 R H → va_S (zA bs) s.heap H locs → lv_has ls 4 [(2, .int (zI (bz (can2)))), (3, .int (zI (k))), (0, .ref (bs + (i))), (1, .int (zI (a)))] → W p l e (zRm 6 135) s m args below meth c H locs 0 0 (MQ below (zQv D cy bs N kd len (fun st => st.2.2 = R ∧ (lwK X (st.1) Y (st.2.1) i ∧ ∀ yy : Nat, yy ≤ 40 → (st.1) (i + 23) yy = lwT X i (a) yy ∧ -1 ≤ lwT X i (a) yy ∧ lwT X i (a) yy < X i 27))) args s 0 0 (zA bs)) (F0 m 103 ls []) := by
            intro can2 X15 Y16  hI H locs ls hH hS hl
            have hF := hF.1 can2 X15 Y16  hH.2.2.1 hH.2.2.2 hI
            refine zd_iinc (k := 1) (lv' := [(3, .int (zI (k + 1))), (2, .int (zI (bz (can2)))), (0, .ref (bs + (i))), (1, .int (zI (a)))]) C hl rfl dX11_playBy_103 (by decide) rfl (fun ls hl => ?_)
            refine lv_goto (tgt := 42) C.1 C.2.1 dX11_playBy_106 (by decide) ?_
            obtain ⟨o17, hF⟩ := hF
            exact ih10 (can2) (k + 1) X15 Y16 o17 hF.1 (Nat.lt_of_lt_of_le hF.2 (Nat.le_of_lt_succ hmu10)) _ _ _ hH hS (lv_sub hl [1, 0, 2, 3] rfl)
          have hF := hF.2
          refine lv_iload_n C.1 C.2.1 dX11_playBy_66 rfl (lv_at hl 0 rfl) ?_
          refine zd_ifB_eq C 101 dX11_playBy_67 (by decide) (fun c18 => ?_) (fun c18 => ?_)
          · have hF := hF.1 c18
            refine zd_iconst C dX11_playBy_101 ?_
            refine lv_istore_n (lv' := [(2, .int (zI (0))), (3, .int (zI (k))), (0, .ref (bs + (i))), (1, .int (zI (a)))]) C.1 C.2.1 dX11_playBy_102 rfl hl (by decide) rfl (fun ls hl => ?_)
            exact J2 (false) X14 Y12  hF _ _ _ hH hS (lv_sub hl [0, 1, 2, 3] rfl)
          · have hF := hF.2 c18
            refine lv_iload_n C.1 C.2.1 dX11_playBy_70 rfl (lv_at hl 1 rfl) ?_
            refine lv_aload_n C.1 C.2.1 dX11_playBy_71 rfl (lv_at hl 2 rfl) ?_
            obtain ⟨o19, hF⟩ := hF
            refine zgoi (zrunV (As := []) (rest := [.int (zI (k))]) C hE hH hS hl.1 (c_X11_deeds (l := l) hM  o19) k_RX11_355 ⟨Nat.le_of_ble_eq_true rfl, Nat.le_of_ble_eq_true rfl⟩ (zM_n0 hM) (zM_k0 hM) rfl rfl rfl (Nat.le_of_ble_eq_true rfl) dX11_playBy_72 ⟨Nat.zero_le _, Nat.zero_le _⟩) hS (fun rq Xq Yq Rq H locs hrq hq hH hS => ?_)
            obtain ⟨h91, h92⟩ := hq
            have h93 : Xq = X14 := congrArg (fun z => z.1) h92
            have h94 : Yq = Y12 := congrArg (fun z => z.2.1) h92
            have h95 : Rq = R := congrArg (fun z => z.2.2) h92
            rw [h93, h94, h95] at hH
            subst h91
            have hr20 := hrq
            have hF := hF hr20
            refine zd_icmp_ge C hk hr20 101 dX11_playBy_75 (by decide) (fun c21 => ?_) (fun c21 => ?_)
            · have hF := hF.1 c21
              refine zd_iconst C dX11_playBy_101 ?_
              refine lv_istore_n (lv' := [(2, .int (zI (0))), (3, .int (zI (k))), (0, .ref (bs + (i))), (1, .int (zI (a)))]) C.1 C.2.1 dX11_playBy_102 rfl hl (by decide) rfl (fun ls hl => ?_)
              exact J2 (false) X14 Y12  hF _ _ _ hH hS (lv_sub hl [0, 1, 2, 3] rfl)
            · have hF := hF.2 c21
              refine lv_aload_n C.1 C.2.1 dX11_playBy_78 rfl (lv_at hl 2 rfl) ?_
              refine lv_aload_n C.1 C.2.1 dX11_playBy_79 rfl (lv_at hl 2 rfl) ?_
              refine lv_iload_n C.1 C.2.1 dX11_playBy_80 rfl (lv_at hl 1 rfl) ?_
              refine zd_iconst C dX11_playBy_81 ?_
              obtain ⟨o22, hF⟩ := hF
              refine zgoi (zrunV (As := [.int (zI (k)), .int (zI (0))]) (rest := [.ref (bs + (i))]) C hE hH hS hl.1 (c_X11_deedOf (l := l) hM (k) hk (0) (by decide) o22) k_RX11_358 ⟨Nat.le_of_ble_eq_true rfl, Nat.le_of_ble_eq_true rfl⟩ (zM_n0 hM) (zM_k0 hM) rfl rfl rfl (Nat.le_of_ble_eq_true rfl) dX11_playBy_82 ⟨Nat.zero_le _, Nat.zero_le _⟩) hS (fun rq Xq Yq Rq H locs hrq hq hH hS => ?_)
              obtain ⟨h91, h92⟩ := hq
              have h93 : Xq = X14 := congrArg (fun z => z.1) h92
              have h94 : Yq = Y12 := congrArg (fun z => z.2.1) h92
              have h95 : Rq = R := congrArg (fun z => z.2.2) h92
              rw [h93, h94, h95] at hH
              subst h91
              have hr23 := hrq
              have hF := hF hr23
              refine lv_aload_n C.1 C.2.1 dX11_playBy_85 rfl (lv_at hl 2 rfl) ?_
              refine lv_iload_n C.1 C.2.1 dX11_playBy_86 rfl (lv_at hl 1 rfl) ?_
              refine zd_iconst C dX11_playBy_87 ?_
              obtain ⟨o24, hF⟩ := hF
              refine zgoi (zrunV (As := [.int (zI (k)), .int (zI (1))]) (rest := [.int (zI (mDd X14 i (k) ((0 : Int)))), .ref (bs + (i))]) C hE hH hS hl.1 (c_X11_deedOf (l := l) hM (k) hk (1) (by decide) o24) k_RX11_358 ⟨Nat.le_of_ble_eq_true rfl, Nat.le_of_ble_eq_true rfl⟩ (zM_n0 hM) (zM_k0 hM) rfl rfl rfl (Nat.le_of_ble_eq_true rfl) dX11_playBy_88 ⟨Nat.zero_le _, Nat.zero_le _⟩) hS (fun rq Xq Yq Rq H locs hrq hq hH hS => ?_)
              obtain ⟨h91, h92⟩ := hq
              have h93 : Xq = X14 := congrArg (fun z => z.1) h92
              have h94 : Yq = Y12 := congrArg (fun z => z.2.1) h92
              have h95 : Rq = R := congrArg (fun z => z.2.2) h92
              rw [h93, h94, h95] at hH
              subst h91
              have hr25 := hrq
              have hF := hF hr25
              obtain ⟨o26, hF⟩ := hF
              refine zgoi (zrunV (As := [.int (zI (mDd X14 i (k) ((0 : Int)))), .int (zI (mDd X14 i (k) ((1 : Int))))]) (rest := []) C hE hH hS hl.1 (c_X11_does (l := l) hM (mDd X14 i (k) ((0 : Int))) hr23 (mDd X14 i (k) ((1 : Int))) hr25 o26) k_RX11_394 ⟨Nat.le_of_ble_eq_true rfl, Nat.le_of_ble_eq_true rfl⟩ (zM_n0 hM) (zM_k0 hM) rfl rfl rfl (Nat.le_of_ble_eq_true rfl) dX11_playBy_91 ⟨Nat.zero_le _, Nat.zero_le _⟩) hS (fun rq X27 Y28 Rq H locs hrq hq hH hS => ?_)
              obtain ⟨h9R, hq⟩ := hq
              dsimp only at h9R
              rw [h9R] at hH
              obtain ⟨r29, h91, hq⟩ := hq
              subst h91
              have hF := hF r29 X27 hH.2.2.1 Y28 hH.2.2.2 hq
              refine zd_ifB_eq C 101 dX11_playBy_94 (by decide) (fun c30 => ?_) (fun c30 => ?_)
              · have hF := hF.1 c30
                refine zd_iconst C dX11_playBy_101 ?_
                refine lv_istore_n (lv' := [(2, .int (zI (0))), (3, .int (zI (k))), (0, .ref (bs + (i))), (1, .int (zI (a)))]) C.1 C.2.1 dX11_playBy_102 rfl hl (by decide) rfl (fun ls hl => ?_)
                exact J2 (false) X27 Y28  hF _ _ _ hH hS (lv_sub hl [0, 1, 2, 3] rfl)
              · have hF := hF.2 c30
                refine zd_iconst C dX11_playBy_97 ?_
                refine lv_goto (tgt := 102) C.1 C.2.1 dX11_playBy_98 (by decide) ?_
                refine lv_istore_n (lv' := [(2, .int (zI (1))), (3, .int (zI (k))), (0, .ref (bs + (i))), (1, .int (zI (a)))]) C.1 C.2.1 dX11_playBy_102 rfl hl (by decide) rfl (fun ls hl => ?_)
                exact J2 (true) X27 Y28  hF _ _ _ hH hS (lv_sub hl [0, 1, 2, 3] rfl)
        have hF := hF.2
        refine lv_aload_n C.1 C.2.1 dX11_playBy_48 rfl (lv_at hl 2 rfl) ?_
        refine zg11_62 C hH (zM_n0 hM) (zM_k0 hM) q_1349 (zM_r23 hM) dX11_playBy_49 ?_
        refine lv_iload_n C.1 C.2.1 dX11_playBy_52 rfl (lv_at hl 1 rfl) ?_
        refine lv_iload_n C.1 C.2.1 dX11_playBy_53 rfl (lv_at hl 0 rfl) ?_
        refine zd_ifB_eq C 64 dX11_playBy_54 (by decide) (fun c31 => ?_) (fun c31 => ?_)
        · have hF := hF.1 c31
          refine zd_iconst C dX11_playBy_64 ?_
          obtain ⟨o32, hF⟩ := hF
          refine zd_iast C hH hS (zM_n23 hM) (zM_k23 hM) o32.1 (by rw [zM_l23 hM]; exact o32.2) (by rw [zM_l23 hM]; decide) (by decide) dX11_playBy_65 (fun H locs hH hS => ?_)
          obtain ⟨X33, eX33⟩ : ∃ z, z = zU X11 (i + 23) (k) ((-1)) := ⟨_, rfl⟩
          rw [← eX33] at hH
          have hF := hF X33 eX33 hH.2.2.1
          exact J1 X33  hF _ _ _ hH hS (lv_sub hl [0, 1, 2, 3] rfl)
        · have hF := hF.2 c31
          refine lv_aload_n C.1 C.2.1 dX11_playBy_57 rfl (lv_at hl 2 rfl) ?_
          refine zg11_43 C hH (zM_n0 hM) (zM_k0 hM) q_1330 dX11_playBy_58 ?_
          refine lv_goto (tgt := 65) C.1 C.2.1 dX11_playBy_61 (by decide) ?_
          obtain ⟨o34, hF⟩ := hF
          refine zd_iast C hH hS (zM_n23 hM) (zM_k23 hM) o34.1 (by rw [zM_l23 hM]; exact o34.2) (by rw [zM_l23 hM]; decide) (hH.2.2.1 _ _) dX11_playBy_65 (fun H locs hH hS => ?_)
          obtain ⟨X35, eX35⟩ : ∃ z, z = zU X11 (i + 23) (k) (X11 (i) 43) := ⟨_, rfl⟩
          rw [← eX35] at hH
          have hF := hF X35 eX35 hH.2.2.1
          exact J1 X35  hF _ _ _ hH hS (lv_sub hl [0, 1, 2, 3] rfl)
  exact L10 (((41 - ((0 : Int))).toNat) + 1) (true) ((0 : Int)) X9 Y6 (by decide) hI10 (Nat.lt_succ_self _) _ _ _ hH hS (lv_sub hl [1, 0, 2, 3] rfl)
theorem v_X11_playBy {X Y : Nat → Int → Int} {R : Nat → Int → Option Nat} {i : Nat} (a : Int) (ha : rI a) (hp : (oA X i ∧ (1 ≤ X i 27 ∧ X i 27 ≤ 15) ∧ oBs X i (X i 27 - 1).toNat ∧ (1 ≤ mG X i 1 ∧ mG X i 1 ≤ 99) ∧ (1 ≤ mG X i 2 ∧ mG X i 2 ≤ 99)) ∧ (oFd X i ∧ oFdr X i (X i 40)) ∧ (1 ≤ a ∧ a < 40) ∧ 0 < (a).tmod 10) : F_X11_playBy i X Y R a := by
  unfold F_X11_playBy
  intro hX hY
  obtain ⟨⟨hA, hb, hbs, hg1, hg2⟩, ⟨hfd, hf⟩, hlaw, hl10⟩ := hp
  have t1 : a.tdiv 20 = a / 20 := Int.tdiv_eq_ediv_of_nonneg (by omega)
  have t2 : a.tdiv 10 = a / 10 := Int.tdiv_eq_ediv_of_nonneg (by omega)
  have t3 : (a.tdiv 10).tmod 2 = a / 10 % 2 := by rw [t2]; exact Int.tmod_eq_emod_of_nonneg (by omega)
  have t4 : a.tmod 10 = a % 10 := Int.tmod_eq_emod_of_nonneg (by omega)
  intro X1
  intro eX1
  intro rX1
  intro X2
  intro eX2
  intro rX2
  intro X3
  intro eX3
  have eZ : X3 = lwZ X i a := by rw [eX3, eX2, eX1]; rfl
  have o3 : ∀ z, z ≠ i → X3 z = X z := fun z h => by rw [eX3, zU_o h, eX2, zU_o h, eX1, zU_o h]
  have n3 : ∀ s, s ≠ 28 → s ≠ 29 → s ≠ 30 → X3 i s = X i s := fun s h1 h2 h3 => by rw [eX3, zU_n (by omega), eX2, zU_n (by omega), eX1, zU_n (by omega)]
  have s30 : X3 i 30 = a.tmod 10 := by rw [eX3, zU_s]
  have s29 : X3 i 29 = (a.tdiv 10).tmod 2 := by rw [eX3, zU_n (by omega), eX2, zU_s]
  have s28 : X3 i 28 = a.tdiv 20 := by rw [eX3, zU_n (by omega), eX2, zU_n (by omega), eX1, zU_s]
  have s27 : X3 i 27 = X i 27 := n3 27 (by decide) (by decide) (by decide)
  obtain ⟨kA, kB, kG, kC⟩ := lw_ok (o3 _ (by omega)) (o3 _ (by omega)) (n3 24 (by decide) (by decide) (by decide)) (n3 25 (by decide) (by decide) (by decide)) (n3 26 (by decide) (by decide) (by decide))
  have oa3 := kA hA
  have ob3 := kB _ hbs
  have og3 : oG X3 i := ⟨oa3.2.1, by rw [s30]; omega, by rw [kG]; exact hg1, by rw [kG]; exact hg2⟩
  have en : (((X i 27 - 1).toNat : Nat) : Int) = X i 27 - 1 := by omega
  have oB3 : oB X3 i (X i 27 - 1) := by
    have q := ob3.1
    rwa [en] at q
  have oT3 : oT X3 i (X i 27 - 1) := by
    have q := ob3.2.1
    rwa [en] at q
  rw [s27]
  intro rX3
  refine ⟨?_, ?_⟩
  · exact ⟨og3, hb.1, oB3, oT3⟩
  intro X5
  intro rX5
  intro Y6
  intro rY6
  intro h1
  have tL : tS X3 X5 i := tS_of (h1.1 _ (by omega)) (h1.1 _ (by omega)) (h1.1 _ (by omega))
  have s27' : X5 i 27 = X i 27 := by rw [h1.1 _ (by omega), s27]
  rw [s27']
  refine ⟨?_, ?_⟩
  · exact ⟨oA_t tL oa3, hb.1, oBs_t tL ob3⟩
  intro X8
  intro rX8
  intro h2
  have tS8 : tS X3 X8 i := tL.trans (lS_t h2)
  have hH8 : oH X8 Y6 i := hand_ok (n := (X i 27).toNat) og3 oa3 (by rw [s27]; omega) (by omega) (by omega) (by rw [show (X i 27).toNat - 1 = (X i 27 - 1).toNat by omega]; exact ob3) (by rw [s28]; omega) (by rw [s29]; omega) h1 h2
  have o8 : ∀ z, z ≠ i → z ≠ i + 13 → z ≠ i + 16 → X8 z = X z := fun z z1 z2 z3 => by rw [h2.1 z z1 z3, h1.1 z z2, o3 z z1]
  have n8 : ∀ s, s ≠ 28 → s ≠ 29 → s ≠ 30 → s ≠ 35 → X8 i s = X i s := fun s s1 s2 s3 s4 => by rw [h2.2.1 s s4, h1.1 i (by omega), n3 s s1 s2 s3]
  have m8 : ∀ s, s ≠ 35 → X8 i s = X3 i s := fun s s4 => by rw [h2.2.1 s s4, h1.1 i (by omega)]
  have x8 : rCx X8 i = rCx (lwZ X i a) i := by
    rw [← eZ]
    unfold rCx
    rw [rP_t tS8, rW_t tS8, rG_t tS8, sdf_t tS8, tS8.2.2.2.2.2.1, m8 29 (by decide)]
  have y6 : ∀ z, z ≠ i + 14 → z ≠ i + 15 → Y6 z = Y z := h1.2.1
  intro X9
  intro rX9
  intro h3
  have e9 : X9 = bfW X8 i := h3
  have f9 : fK X8 X9 Y6 Y6 i := by rw [e9]; exact bfW_f
  have bp := bfW_pl hH8
  rw [← e9] at bp
  have s27 : X9 i 27 = X i 27 := (f9.2.1 _ (by omega)).trans (n8 27 (by decide) (by decide) (by decide) (by decide))
  have s289 : X9 i 28 = a.tdiv 20 := by rw [e9, bfW_n (by omega), m8 28 (by decide), s28]
  rw [s27, s289] at bp
  refine ⟨?_, ?_⟩
  · exact ⟨0, rfl, by decide, fK3.rf, bp.1, bp.2, rfl, fun y hy => absurd hy (Nat.not_lt_zero _)⟩
  intro can k X11 Y12
  intro _
  intro rX11
  intro rY12
  intro h4
  obtain ⟨q, hq, q41, f3, pl, hc, hcan, hrow⟩ := h4
  subst hq
  have g3 := f9.to3.tr f3
  have s27' : X11 i 27 = X i 27 := (f3.2.1 _ (by omega)).trans s27
  have s40 : X11 i 40 = X i 40 := (g3.2.1 _ (by omega)).trans (n8 40 (by decide) (by decide) (by decide) (by decide))
  have r8 : X11 (i + 8) = X (i + 8) := (g3.1 _ (by omega) (by omega) (by omega)).trans (o8 _ (by omega) (by omega) (by omega))
  have h43 : X11 i 43 = (csSq (rCx (lwZ X i a) i) (fW X i) (fV X i) (mDn X i) (csI (a.tdiv 20)) q).2.1 5 := congrFun hc.1 5
  have b43 : 0 ≤ X11 i 43 ∧ X11 i 43 < (X11 i 27).toNat := pl.2.1.1
  refine ⟨?_, ?_⟩
  · intro c1
    refine ⟨⟨fun z z1 z2 z3 z4 z5 => by rw [f3.1 z z1 z4 z5, f9.1 z z1 z4, o8 z z1 z2 z3], fun s hs => by rw [f3.2.1 s (by omega), f9.2.1 s (by omega)]; exact n8 s (by omega) (by omega) (by omega) (by omega), fun z z1 z2 z3 => by rw [f3.2.2 z z3, y6 z z1 z2]⟩, fun y hy => hrow y (by omega)⟩
  intro c2
  refine ⟨?_, ?_⟩
  · intro X14
    intro rX14
    intro h5
    obtain ⟨o14, b14, d14⟩ := h5
    have e14 : X14 i = X11 i := o14 i (by omega)
    have hH14 := oH_23 o14 pl.1
    have cs14 : oCS (cX X14 i, kX X14 i) (X i 27).toNat (15 + 15 * (q : Int)) (15 + 15 * (q : Int)) := by
      have p2 := pl.2
      rw [s27'] at p2
      refine ⟨?_, ?_, ?_⟩
      · show oCs (cX X14 i) _ _ _
        rw [cX_k e14]
        exact p2.1
      · show mHas (X14 i 36) 0 = true
        rw [e14]
        exact p2.2.1
      · show 0 ≤ X14 i 28 ∧ X14 i 28 ≤ 1
        rw [e14]
        exact p2.2.2
    have s27b : X14 i 27 = X i 27 := by rw [e14, s27']
    have pl14 : oPl X14 Y12 i q := ⟨hH14, by rw [s27b]; exact cs14⟩
    have hc14 := cR_23 o14 hc
    have eDn : mDn X14 i = mDn X i := by
      unfold mDn
      rw [e14, s40, o14 _ (by omega), r8]
    have eD : ∀ w, mDd X14 i q w = mDd X i q w := fun w => by
      unfold mDd
      rw [e14, s40, o14 _ (by omega), r8]
    have x14 : rCx X14 i = rCx (lwZ X i a) i := by
      have t : tS X11 X14 i := tS_of (o14 _ (by omega)) (o14 _ (by omega)) e14
      have e : rCx X14 i = rCx X11 i := by
        unfold rCx
        rw [rP_t t, rW_t t, rG_t t, sdf_t t, e14]
      rw [e, rCx_3 g3, x8]
    have fd14 : oFd X14 i := by
      show 0 ≤ X14 i 40 ∧ X14 i 40 ≤ 1
      rw [e14, s40]
      exact hfd
    rw [eDn, eD, eD, s27b, x14]
    have row14 : ∀ y : Nat, y < q + 1 → X14 (i + 23) y = lwT X i a y ∧ -1 ≤ lwT X i a y ∧ lwT X i a y < X i 27 := fun y hy => by
      by_cases e : y = q
      · subst e
        have el : lwT X i a y = if can then X11 i 43 else -1 := by
          unfold lwT csTa
          rw [← hcan, ← h43]
        rw [d14, el]
        refine ⟨rfl, ?_, ?_⟩
        · split <;> omega
        · split <;> omega
      · rw [b14 _ (by omega)]
        exact hrow y (by omega)
    refine ⟨?_, ?_⟩
    · intro can2 X15 Y16
      intro rX15
      intro rY16
      intro h6
      obtain ⟨f6, h6⟩ := h6
      obtain ⟨pl6, hc6, hcan6⟩ := h6 q rfl
      refine ⟨?_, ?_⟩
      · first | omega | exact ⟨by omega, by omega⟩ | decide | assumption | exact ⟨by omega, by omega, by omega⟩ | exact ⟨by decide, by decide⟩
      refine ⟨?_, ?_⟩
      · refine ⟨q + 1, by omega, by omega, (f3.tr ⟨fun z z1 z2 z3 => by rw [f6.1 z z1 z2, o14 z z3], fun s hs => by rw [f6.2.1 s hs, e14], f6.2.2⟩), by
          have e : ((q + 1 : Nat) : Int) = (q : Int) + 1 := by omega
          rw [e]
          exact pl6, hc6, hcan6, fun y hy => ?_⟩
        rw [f6.1 _ (by omega) (by omega)]
        exact row14 y hy
      first | omega | exact ⟨by omega, by omega⟩ | decide | assumption | exact ⟨by omega, by omega, by omega⟩ | exact ⟨by decide, by decide⟩
    refine ⟨?_, ?_⟩
    · intro c3
      rw [c3] at hcan
      refine ⟨fK.rf, ?_⟩
      intro q' hq'
      obtain rfl : q = q' := by omega
      rw [csSq_f (Or.inl hcan.symm)]
      exact ⟨oPl_up (by omega) pl14, hc14, rfl⟩
    intro c4
    rw [c4] at hcan
    refine ⟨?_, ?_⟩
    · exact fd14
    intro _
    refine ⟨?_, ?_⟩
    · intro c5
      refine ⟨fK.rf, ?_⟩
      intro q' hq'
      obtain rfl : q = q' := by omega
      rw [csSq_f (Or.inr (Or.inl c5))]
      exact ⟨oPl_up (by omega) pl14, hc14, rfl⟩
    intro c6
    have hf1 := hf.1
    have hf2 : (q : Int) < X (i + 8) (81 * X i 40) := by
      show (q : Int) < mDn X i
      omega
    obtain ⟨d1, d2, d3⟩ := hf.2 q (by omega) hf2
    have ok : ∀ {u : Bool}, u = csOk (X i 27).toNat (cX X14 i) (mDd X i q 0) (mDd X i q 1) → csOk (xN (rCx (lwZ X i a) i)) (csSq (rCx (lwZ X i a) i) (fW X i) (fV X i) (mDn X i) (csI (a.tdiv 20)) q).2.1 (fW X i q) (fV X i q) = u := fun {u} hu => by
      rw [hu, hc14.1]
      show csOk (lwZ X i a i 27).toNat _ _ _ = _
      rw [← eZ, n3 27 (by decide) (by decide) (by decide)]
      rfl
    refine ⟨?_, ?_⟩
    · exact ⟨fd14, ⟨by omega, by omega⟩, by decide, by decide⟩
    intro _
    refine ⟨?_, ?_⟩
    · exact ⟨fd14, ⟨by omega, by omega⟩, by decide, by decide⟩
    intro _
    refine ⟨?_, ?_⟩
    · exact ⟨hH14, ⟨oCs_up (by omega) (by omega) cs14.1, cs14.2⟩, d1, d2, d3⟩
    intro r29
    intro X27
    intro rX27
    intro Y28
    intro rY28
    intro h7
    obtain ⟨er, f7, hx, hn⟩ := h7
    refine ⟨?_, ?_⟩
    · intro c7
      obtain ⟨e1, e2⟩ := hx c7
      rw [e1, e2]
      refine ⟨fK.rf, ?_⟩
      intro q' hq'
      obtain rfl : q = q' := by omega
      rw [csSq_f (Or.inr (Or.inr (ok (c7.symm.trans er))))]
      exact ⟨oPl_up (by omega) pl14, hc14, rfl⟩
    intro c8
    refine ⟨f7, ?_⟩
    intro q' hq'
    obtain rfl : q = q' := by omega
    rw [csSq_t hcan.symm (by omega) (ok (c8.symm.trans er))]
    have own := hn c8 (cX X14 i, kX X14 i) ⟨rfl, fun _ _ _ => rfl⟩
    have xn : xN (rCx (lwZ X i a) i) = (X i 27).toNat := by
      show (lwZ X i a i 27).toNat = _
      rw [← eZ, n3 27 (by decide) (by decide) (by decide)]
    have od := oCS_do (x := rCx (lwZ X i a) i) (t := (cX X14 i, kX X14 i)) (w := mDd X i q 0) (v := mDd X i q 1) (by rw [xn]; omega) (by rw [xn]; omega) (by rw [xn]; exact cs14) d2
    rw [xn] at od
    have e28 : X27 i 28 = _ := congrFun own.1 0
    have e36 : X27 i 36 = _ := congrFun own.1 3
    have s27c : X27 i 27 = X i 27 := (f7.2.1 _ (by omega)).trans s27b
    refine ⟨⟨oH_f f7 (by rw [e28]; exact od.2.2) hH14, ?_⟩, hn c8 _ hc14, rfl⟩
    rw [s27c]
    refine ⟨?_, ?_, ?_⟩
    · show oCs (cX X27 i) _ _ _
      rw [own.1]
      exact oCs_up (by omega) (by omega) od.1
    · show mHas (X27 i 36) 0 = true
      rw [e36]
      exact od.2.1
    · show 0 ≤ X27 i 28 ∧ X27 i 28 ≤ 1
      rw [e28]
      exact od.2.2
  refine ⟨?_, ?_⟩
  · intro c9
    refine ⟨?_, ?_⟩
    · first | omega | exact ⟨by omega, by omega⟩ | decide | assumption | exact ⟨by omega, by omega, by omega⟩ | exact ⟨by decide, by decide⟩
    intro X33
    intro eX33
    intro rX33
    exact ⟨fun z hz => by rw [eX33, zU_o hz], fun y hy => by rw [eX33, zU_n (by omega)], by rw [eX33, zU_s, c9]; rfl⟩
  intro c10
  refine ⟨?_, ?_⟩
  · first | omega | exact ⟨by omega, by omega⟩ | decide | assumption | exact ⟨by omega, by omega, by omega⟩ | exact ⟨by decide, by decide⟩
  intro X35
  intro eX35
  intro rX35
  exact ⟨fun z hz => by rw [eX35, zU_o hz], fun y hy => by rw [eX35, zU_n (by omega)], by rw [eX35, zU_s, c10]; rfl⟩
theorem c_X11_playBy {l : Launch} {D : va_G} {cy : Nat → ClassId} {bs N : Nat} {sa : Nat → Nat} {kd len : Nat → Nat} {X Y : Nat → Int → Int} {R : Nat → Int → Option Nat} {i : Nat} (hM : zM N kd len R i) (a : Int) (ha : rI a) (hp : (oA X i ∧ (1 ≤ X i 27 ∧ X i 27 ≤ 15) ∧ oBs X i (X i 27 - 1).toNat ∧ (1 ≤ mG X i 1 ∧ mG X i 1 ≤ 99) ∧ (1 ≤ mG X i 2 ∧ mG X i 2 ≤ 99)) ∧ (oFd X i ∧ oFdr X i (X i 40)) ∧ (1 ≤ a ∧ a < 40) ∧ 0 < (a).tmod 10) : Met l yX11_playBy (.code yX11_playBy cX11_playBy 4 none :: zTB) (zRm 6 135) (zPc D cy bs sa N kd len X Y R [.ref (bs + (i)), .int (zI (a))]) (zQv D cy bs N kd len (fun st => st.2.2 = R ∧ (lwK X (st.1) Y (st.2.1) i ∧ ∀ yy : Nat, yy ≤ 40 → (st.1) (i + 23) yy = lwT X i (a) yy ∧ -1 ≤ lwT X i (a) yy ∧ lwT X i (a) yy < X i 27))) 0 0 (zA bs) := w_X11_playBy hM a ha (v_X11_playBy a ha hp)
