/-! THE TIP OF A CHART -/
def clF (Z : Nat → Int → Int) (q : Nat) (a : Int) : Prop := mHas a 0 = true ∧ ∀ e : Nat, 1 ≤ e → (e : Int) < Z q 27 → mHas a e = true → mHas a (rP Z q e) = true
def finF (Z : Nat → Int → Int) (q : Nat) (a : Int) (k : Nat) : Int := if mHas a k then sSb (rP Z q) (rW Z q) (fun e => mHas a e) (Z q 27).toNat k else 0
def sgF (P : Nat → Nat) (f : Nat → Int) (k j : Nat) : Nat → Int := fun e => if k < e ∧ P e = j then f e else 0
def swA (W : Nat → Int) (s : Int) : Nat → Int
  | 0 => 0
  | k + 1 => swA W s k + if mHas s k then W k else 0
theorem sumN_1 {g h : Nat → Int} {k : Nat} : ∀ {n : Nat}, (∀ e, e < n → e ≠ k → g e = h e) → h k = 0 → sumN g n = sumN h n + if k < n then g k else 0
  | 0, _, _ => rfl
  | n + 1, hh, h0 => by
    have ih := sumN_1 (n := n) (fun e he => hh e (by omega)) h0
    show sumN g n + g n = sumN h n + h n + _
    by_cases e : n = k
    · subst e
      rw [ih, h0, if_neg (by omega), if_pos (by omega)]
    · rw [ih, hh n (by omega) e]
      by_cases c : k < n
      · rw [if_pos c, if_pos (by omega)]
        omega
      · rw [if_neg c, if_neg (by omega)]
        omega
def fvN (x : Int) : Int := if x = -1 then 0 else x
theorem swA_b {W : Nat → Int} {s : Int} : ∀ {n : Nat}, (∀ k, k < n → 1 ≤ W k ∧ W k ≤ 26575110144) → 0 ≤ swA W s n ∧ swA W s n ≤ 26575110144 * n
  | 0, _ => ⟨Int.le_refl _, Int.le_refl _⟩
  | n + 1, h => by
    have ih := swA_b (W := W) (s := s) (n := n) (fun k hk => h k (by omega))
    have b := h n (by omega)
    show 0 ≤ swA W s n + _ ∧ swA W s n + _ ≤ _
    split
    · exact ⟨by omega, by omega⟩
    · exact ⟨by omega, by omega⟩
theorem sumN_le {g : Nat → Int} {B : Int} (hB : 0 ≤ B) : ∀ {n : Nat}, (∀ k, k < n → 0 ≤ g k ∧ g k ≤ B) → 0 ≤ sumN g n ∧ sumN g n ≤ B * n
  | 0, _ => ⟨Int.le_refl _, by show (0 : Int) ≤ _; rw [show ((0 : Nat) : Int) = 0 from rfl, Int.mul_zero]; exact Int.le_refl _⟩
  | n + 1, h => by
    have ih := sumN_le hB (n := n) (fun k hk => h k (by omega))
    have b := h n (by omega)
    show 0 ≤ sumN g n + g n ∧ sumN g n + g n ≤ _
    rw [show B * ((n + 1 : Nat) : Int) = B * n + B by rw [Int.natCast_add, Int.mul_add, show ((1 : Nat) : Int) = 1 from rfl, Int.mul_one]]
    exact ⟨by omega, by omega⟩
theorem finF_b {Z : Nat → Int → Int} {q : Nat} (hv : vZ Z q) (hn : vN Z q) {a : Int} {k : Nat} (hk : (k : Int) < Z q 27) : 0 ≤ finF Z q a k ∧ finF Z q a k ≤ 435406604599296 := by
  have e := hv.1
  unfold finF
  split
  · have b := sSb_14 (P := rP Z q) (w := rW Z q) (f := fun e => mHas a e) (n := (Z q 27).toNat) (k := k) (fun k hk => (rW_b hv hn k (by omega)).1) (by omega) (by omega)
    exact ⟨by omega, b.2⟩
  · decide
theorem sum_fin {Z : Nat → Int → Int} {q : Nat} (hv : vZ Z q) {a : Int} (hcl : clF Z q a) {k j : Nat} (hk : k ≤ j) (hj : (j : Int) < Z q 27) : (if mHas a j then rW Z q j else 0) + sumN (sgF (rP Z q) (finF Z q a) k j) (Z q 27).toNat = finF Z q a j := by
  cases c : mHas a j
  · have z : sumN (sgF (rP Z q) (finF Z q a) k j) (Z q 27).toNat = 0 := sumN_0 fun e he => by
      unfold sgF
      split
      · rename_i g
        unfold finF
        cases d : mHas a e
        · rfl
        · have := hcl.2 e (by omega) (by omega) d
          rw [g.2, c] at this
          cases this
      · rfl
    rw [z]
    unfold finF
    rw [c]
    rfl
  · rw [if_pos rfl]
    show _ = if mHas a j then _ else _
    rw [c, if_pos rfl, sSb_e (by omega)]
    congr 1
    refine sumN_cong fun e he => ?_
    unfold sgF
    by_cases g : rP Z q e = j
    · by_cases g0 : e = 0
      · rw [if_neg (by omega), if_neg (by omega)]
      · have hp := vZ_P hv (show 1 ≤ e by omega) (by omega)
        rw [if_pos ⟨by omega, g⟩]
        unfold finF
        cases d : mHas a e
        · rw [if_neg (by decide), if_neg (fun z => by exact absurd z.2.1 (by decide))]
        · rw [if_pos rfl, if_pos ⟨by omega, rfl, g⟩]
    · rw [if_neg (fun z => g z.2), if_neg (fun z => g z.2.2)]
theorem psum_b {Z : Nat → Int → Int} {q : Nat} (hv : vZ Z q) (hn : vN Z q) {a : Int} {k j : Nat} (hj : (j : Int) < Z q 27) : 0 ≤ (if mHas a j then rW Z q j else 0) + sumN (sgF (rP Z q) (finF Z q a) k j) (Z q 27).toNat ∧ (if mHas a j then rW Z q j else 0) + sumN (sgF (rP Z q) (finF Z q a) k j) (Z q 27).toNat ≤ 7000000000000000 := by
  have e := hv.1
  have b := sumN_le (g := sgF (rP Z q) (finF Z q a) k j) (B := 435406604599296) (by decide) (n := (Z q 27).toNat) (fun x hx => by
    unfold sgF
    split
    · exact finF_b hv hn (by omega)
    · decide)
  have w := (rW_b hv hn j hj).1
  have c : 435406604599296 * (((Z q 27).toNat : Nat) : Int) ≤ 435406604599296 * 15 := by omega
  split <;> exact ⟨by omega, by omega⟩
theorem cl_sdf {Z : Nat → Int → Int} {q : Nat} {X Y : Nat → Int → Int} {R : Nat → Int → Option Nat} {i : Nat} (h : cA Z q X Y R i) : clF Z q (X i 3) := by
  have e := cA_l h
  refine ⟨by have := cA_s h (k := 0) (by omega); rw [show ((0 : Nat) : Int) = 0 from rfl] at this; rw [this]; exact sdf_0, fun x h1 h2 hx => ?_⟩
  have hp := cA_p h h1 h2
  rw [cA_s h h2] at hx
  rw [cA_s h (by omega)]
  exact sdf_p hp.2 hx
theorem aHv_y {wt : Nat → Int} {w : Nat → Bool} {ah : Nat → Nat → Bool} {n : Nat} (h : (w n && (decide (wt (aHv wt w ah n) < wt n) || (decide (wt n = wt (aHv wt w ah n)) && ah n (aHv wt w ah n)))) = true) : aHv wt w ah (n + 1) = n := by
  show (if (w n && (decide (wt (aHv wt w ah n) < wt n) || (decide (wt n = wt (aHv wt w ah n)) && ah n (aHv wt w ah n)))) = true then n else aHv wt w ah n) = _
  rw [h]
  rfl
theorem aHv_n {wt : Nat → Int} {w : Nat → Bool} {ah : Nat → Nat → Bool} {n : Nat} (h : (w n && (decide (wt (aHv wt w ah n) < wt n) || (decide (wt n = wt (aHv wt w ah n)) && ah n (aHv wt w ah n)))) = false) : aHv wt w ah (n + 1) = aHv wt w ah n := by
  show (if (w n && (decide (wt (aHv wt w ah n) < wt n) || (decide (wt n = wt (aHv wt w ah n)) && ah n (aHv wt w ah n)))) = true then n else aHv wt w ah n) = _
  rw [h]
  rfl
theorem aHv_1 {wt : Nat → Int} {w : Nat → Bool} {ah : Nat → Nat → Bool} : aHv wt w ah 1 = 0 := by
  have := aHv_b (wt := wt) (w := w) (ah := ah) 1
  omega
section CB
variable {P : Nat → Nat} {sb : Nat → Int} {w : Nat → Bool} {ah : Nat → Nat → Bool} {k n : Nat} {f : Int → Int}
def cbC (P : Nat → Nat) (sb : Nat → Int) (w : Nat → Bool) (ah : Nat → Nat → Bool) (k : Nat) : Bool := w k && (decide (aHc P sb w ah (P k) k = -1) || decide (sb (aHc P sb w ah (P k) k).toNat < sb k) || (decide (sb k = sb (aHc P sb w ah (P k) k).toNat) && ah k (aHc P sb w ah (P k) k).toNat))
theorem cb_e {e : Nat} (h : P k < k) : aHc P sb w ah e (k + 1) = if e = P k ∧ cbC P sb w ah k = true then (k : Int) else aHc P sb w ah e k := by
  show (if (decide (e < k) && w k && decide (P k = e) && (decide (aHc P sb w ah e k = -1) || decide (sb (aHc P sb w ah e k).toNat < sb k) || (decide (sb k = sb (aHc P sb w ah e k).toNat) && ah k (aHc P sb w ah e k).toNat))) = true then (k : Int) else _) = _
  by_cases g : e = P k
  · subst g
    unfold cbC
    rw [decide_eq_true h, decide_eq_true rfl, Bool.true_and, Bool.and_true]
    by_cases c : (w k && (decide (aHc P sb w ah (P k) k = -1) || decide (sb (aHc P sb w ah (P k) k).toNat < sb k) || (decide (sb k = sb (aHc P sb w ah (P k) k).toNat) && ah k (aHc P sb w ah (P k) k).toNat))) = true
    · rw [if_pos c, if_pos ⟨rfl, c⟩]
    · rw [if_neg c, if_neg (fun z => c z.2)]
  · rw [decide_eq_false (p := P k = e) (fun z => g z.symm), Bool.and_false, Bool.false_and, if_neg (by decide), if_neg (fun z => g z.1)]
theorem cb_y (h : P k < k) (hc : cbC P sb w ah k = true) (hf : ∀ e : Nat, (e : Int) < n → f e = fvN (aHc P sb w ah e k)) : ∀ e : Nat, (e : Int) < n → upI f (P k : Nat) k e = fvN (aHc P sb w ah e (k + 1)) := fun e he => by
  rw [cb_e h]
  unfold upI
  by_cases g : e = P k
  · rw [if_pos (by omega), if_pos ⟨g, hc⟩]
    unfold fvN
    rw [if_neg (by omega)]
  · rw [if_neg (by omega), if_neg (fun z => g z.1)]
    exact hf e he
theorem cb_n (h : P k < k) (hc : cbC P sb w ah k = false) (hf : ∀ e : Nat, (e : Int) < n → f e = fvN (aHc P sb w ah e k)) : ∀ e : Nat, (e : Int) < n → f e = fvN (aHc P sb w ah e (k + 1)) := fun e he => by
  rw [cb_e h, if_neg (fun z => by rw [hc] at z; exact absurd z.2 (by decide))]
  exact hf e he
theorem aHc_cw {sb' : Nat → Int} {at_ : Nat} : ∀ n, (∀ k, k < n → w k = true → sb k = sb' k) → aHc P sb w ah at_ n = aHc P sb' w ah at_ n
  | 0, _ => rfl
  | n + 1, h => by
    have ih := aHc_cw (sb' := sb') (at_ := at_) n (fun k hk => h k (by omega))
    show (if (decide (at_ < n) && w n && decide (P n = at_) && (decide (aHc P sb w ah at_ n = -1) || decide (sb (aHc P sb w ah at_ n).toNat < sb n) || (decide (sb n = sb (aHc P sb w ah at_ n).toNat) && ah n (aHc P sb w ah at_ n).toNat))) = true then (n : Int) else _) = if (decide (at_ < n) && w n && decide (P n = at_) && (decide (aHc P sb' w ah at_ n = -1) || decide (sb' (aHc P sb' w ah at_ n).toNat < sb' n) || (decide (sb' n = sb' (aHc P sb' w ah at_ n).toNat) && ah n (aHc P sb' w ah at_ n).toNat))) = true then (n : Int) else _
    rw [← ih]
    cases c : w n
    · simp only [Bool.and_false, Bool.false_and]
    · rw [h n (by omega) c]
      by_cases g : aHc P sb w ah at_ n = -1
      · rw [decide_eq_true g, Bool.true_or, Bool.true_or, Bool.true_or, Bool.true_or]
      · have b := aHc_b (P := P) (sb := sb) (w := w) (ah := ah) (at_ := at_) n
        rw [h (aHc P sb w ah at_ n).toNat (by omega) (aHc_w n g)]
end CB
abbrev cX1_sumUp : ByteArray := prog_3_method_13_code
def yX1_sumUp : MethodName := ⟨RX1, "sumUp", "(I)V"⟩
theorem dX1_sumUp_0 : decode cX1_sumUp 0 = .ok (.iconst 0, 1) := by decide +kernel
theorem dX1_sumUp_1 : decode cX1_sumUp 1 = .ok (.istore_n 2, 1) := by decide +kernel
theorem dX1_sumUp_2 : decode cX1_sumUp 2 = .ok (.iload_n 2, 1) := by decide +kernel
theorem dX1_sumUp_3 : decode cX1_sumUp 3 = .ok (.aload_n 0, 1) := by decide +kernel
theorem dX1_sumUp_4 : decode cX1_sumUp 4 = .ok (.getfield 68, 3) := by decide +kernel
theorem dX1_sumUp_7 : decode cX1_sumUp 7 = .ok (.if_icmp .gt 33, 3) := by decide +kernel
theorem dX1_sumUp_10 : decode cX1_sumUp 10 = .ok (.aload_n 0, 1) := by decide +kernel
theorem dX1_sumUp_11 : decode cX1_sumUp 11 = .ok (.getfield 48, 3) := by decide +kernel
theorem dX1_sumUp_14 : decode cX1_sumUp 14 = .ok (.iload_n 2, 1) := by decide +kernel
theorem dX1_sumUp_15 : decode cX1_sumUp 15 = .ok (.iload_n 1, 1) := by decide +kernel
theorem dX1_sumUp_16 : decode cX1_sumUp 16 = .ok (.iload_n 2, 1) := by decide +kernel
theorem dX1_sumUp_17 : decode cX1_sumUp 17 = .ok (.ishr, 1) := by decide +kernel
theorem dX1_sumUp_18 : decode cX1_sumUp 18 = .ok (.iconst 1, 1) := by decide +kernel
theorem dX1_sumUp_19 : decode cX1_sumUp 19 = .ok (.iand, 1) := by decide +kernel
theorem dX1_sumUp_20 : decode cX1_sumUp 20 = .ok (.ifCond .eq 12, 3) := by decide +kernel
theorem dX1_sumUp_23 : decode cX1_sumUp 23 = .ok (.aload_n 0, 1) := by decide +kernel
theorem dX1_sumUp_24 : decode cX1_sumUp 24 = .ok (.getfield 35, 3) := by decide +kernel
theorem dX1_sumUp_27 : decode cX1_sumUp 27 = .ok (.iload_n 2, 1) := by decide +kernel
theorem dX1_sumUp_28 : decode cX1_sumUp 28 = .ok (.laload, 1) := by decide +kernel
theorem dX1_sumUp_29 : decode cX1_sumUp 29 = .ok (.goto 4, 3) := by decide +kernel
theorem dX1_sumUp_32 : decode cX1_sumUp 32 = .ok (.lconst 0, 1) := by decide +kernel
theorem dX1_sumUp_33 : decode cX1_sumUp 33 = .ok (.lastore, 1) := by decide +kernel
theorem dX1_sumUp_34 : decode cX1_sumUp 34 = .ok (.iinc 2 1, 3) := by decide +kernel
theorem dX1_sumUp_37 : decode cX1_sumUp 37 = .ok (.goto (-35), 3) := by decide +kernel
theorem dX1_sumUp_40 : decode cX1_sumUp 40 = .ok (.aload_n 0, 1) := by decide +kernel
theorem dX1_sumUp_41 : decode cX1_sumUp 41 = .ok (.getfield 68, 3) := by decide +kernel
theorem dX1_sumUp_44 : decode cX1_sumUp 44 = .ok (.istore_n 2, 1) := by decide +kernel
theorem dX1_sumUp_45 : decode cX1_sumUp 45 = .ok (.iload_n 2, 1) := by decide +kernel
theorem dX1_sumUp_46 : decode cX1_sumUp 46 = .ok (.ifCond .le 29, 3) := by decide +kernel
theorem dX1_sumUp_49 : decode cX1_sumUp 49 = .ok (.aload_n 0, 1) := by decide +kernel
theorem dX1_sumUp_50 : decode cX1_sumUp 50 = .ok (.getfield 48, 3) := by decide +kernel
theorem dX1_sumUp_53 : decode cX1_sumUp 53 = .ok (.aload_n 0, 1) := by decide +kernel
theorem dX1_sumUp_54 : decode cX1_sumUp 54 = .ok (.getfield 25, 3) := by decide +kernel
theorem dX1_sumUp_57 : decode cX1_sumUp 57 = .ok (.iload_n 2, 1) := by decide +kernel
theorem dX1_sumUp_58 : decode cX1_sumUp 58 = .ok (.iaload, 1) := by decide +kernel
theorem dX1_sumUp_59 : decode cX1_sumUp 59 = .ok (.dup2, 1) := by decide +kernel
theorem dX1_sumUp_60 : decode cX1_sumUp 60 = .ok (.laload, 1) := by decide +kernel
theorem dX1_sumUp_61 : decode cX1_sumUp 61 = .ok (.aload_n 0, 1) := by decide +kernel
theorem dX1_sumUp_62 : decode cX1_sumUp 62 = .ok (.getfield 48, 3) := by decide +kernel
theorem dX1_sumUp_65 : decode cX1_sumUp 65 = .ok (.iload_n 2, 1) := by decide +kernel
theorem dX1_sumUp_66 : decode cX1_sumUp 66 = .ok (.laload, 1) := by decide +kernel
theorem dX1_sumUp_67 : decode cX1_sumUp 67 = .ok (.ladd, 1) := by decide +kernel
theorem dX1_sumUp_68 : decode cX1_sumUp 68 = .ok (.lastore, 1) := by decide +kernel
theorem dX1_sumUp_69 : decode cX1_sumUp 69 = .ok (.iinc 2 (-1), 3) := by decide +kernel
theorem dX1_sumUp_72 : decode cX1_sumUp 72 = .ok (.goto (-27), 3) := by decide +kernel
theorem dX1_sumUp_75 : decode cX1_sumUp 75 = .ok (.return_, 1) := by decide +kernel
theorem q_415 : Cond.fieldLink RX1 48 RX1 "sum" "[J" ∈ zTB := zmem 415 (by decide +kernel) rfl
def F_X1_sumUp (i : Nat) (Z : Nat → Int → Int) (q : Nat) (X Y : Nat → Int → Int) (R : Nat → Int → Option Nat) (a : Int) : Prop := (∀ i j, rI (X i j)) → (∀ i j, rL (Y i j)) → ((0 ≤ (0 : Int) ∧ (0 : Int) ≤ Z q 27) ∧ (∀ z, z ≠ i + 15 → Y z = Y z) ∧ ∀ e : Nat, (e : Int) < (0 : Int) → Y (i + 15) e = if mHas a e then rW Z q e else 0) ∧ (∀ (k : Int) (Y2 : Nat → Int → Int), rI k → (∀ i j, rL (Y2 i j)) → ((0 ≤ k ∧ k ≤ Z q 27) ∧ (∀ z, z ≠ i + 15 → Y2 z = Y z) ∧ ∀ e : Nat, (e : Int) < k → Y2 (i + 15) e = if mHas a e then rW Z q e else 0) → ((((X (i) 2) < k) → (((0 ≤ (X (i) 2) ∧ (X (i) 2) < Z q 27) ∧ (∀ z, z ≠ i + 15 → Y2 z = Y z) ∧ ∀ e : Nat, (e : Int) < Z q 27 → Y2 (i + 15) e = (if mHas a e then rW Z q e else 0) + sumN (sgF (rP Z q) (finF Z q a) ((X (i) 2)).toNat e) (Z q 27).toNat) ∧ (∀ (k : Int) (Y5 : Nat → Int → Int), rI k → (∀ i j, rL (Y5 i j)) → ((0 ≤ k ∧ k < Z q 27) ∧ (∀ z, z ≠ i + 15 → Y5 z = Y z) ∧ ∀ e : Nat, (e : Int) < Z q 27 → Y5 (i + 15) e = (if mHas a e then rW Z q e else 0) + sumN (sgF (rP Z q) (finF Z q a) (k).toNat e) (Z q 27).toNat) → (((k ≤ 0) → ((∀ z, z ≠ i + 15 → (Y5) z = Y z) ∧ ∀ k : Nat, (k : Int) < Z q 27 → (Y5) (i + 15) k = finF Z q (a) k)) ∧ ((¬ (k ≤ 0)) → ((0 ≤ k ∧ k < 15) ∧ ((0 ≤ (X (i + 9) (k)) ∧ (X (i + 9) (k)) < 15) ∧ ((0 ≤ k ∧ k < 15) ∧ ((0 ≤ (X (i + 9) (k)) ∧ (X (i + 9) (k)) < 15) ∧ ((rL ((Y5 (i + 15) (X (i + 9) (k))) + (Y5 (i + 15) (k)))) ∧ (∀ Y12 : Nat → Int → Int, Y12 = zU Y5 (i + 15) (X (i + 9) (k)) ((Y5 (i + 15) (X (i + 9) (k))) + (Y5 (i + 15) (k))) → (∀ i j, rL (Y12 i j)) → ((rI (k + (-1))) ∧ ((0 ≤ (k + (-1)) ∧ (k + (-1)) < Z q 27) ∧ (∀ z, z ≠ i + 15 → Y12 z = Y z) ∧ ∀ e : Nat, (e : Int) < Z q 27 → Y12 (i + 15) e = (if mHas a e then rW Z q e else 0) + sumN (sgF (rP Z q) (finF Z q a) ((k + (-1))).toNat e) (Z q 27).toNat) ∧ (((k + (-1)).toNat) < ((k).toNat)))))))))))))) ∧ ((¬ ((X (i) 2) < k)) → ((((zAnd (zShr (a) (k)) (1)) = 0) → ((0 ≤ k ∧ k < 15) ∧ (∀ Y16 : Nat → Int → Int, Y16 = zU Y2 (i + 15) (k) (0) → (∀ i j, rL (Y16 i j)) → ((rI (k + 1)) ∧ ((0 ≤ (k + 1) ∧ (k + 1) ≤ Z q 27) ∧ (∀ z, z ≠ i + 15 → Y16 z = Y z) ∧ ∀ e : Nat, (e : Int) < (k + 1) → Y16 (i + 15) e = if mHas a e then rW Z q e else 0) ∧ (((20 - (k + 1)).toNat) < ((20 - (k)).toNat)))))) ∧ ((¬ ((zAnd (zShr (a) (k)) (1)) = 0)) → ((0 ≤ k ∧ k < 15) ∧ ((0 ≤ k ∧ k < 15) ∧ (∀ Y20 : Nat → Int → Int, Y20 = zU Y2 (i + 15) (k) (Y2 (i + 12) (k)) → (∀ i j, rL (Y20 i j)) → ((rI (k + 1)) ∧ ((0 ≤ (k + 1) ∧ (k + 1) ≤ Z q 27) ∧ (∀ z, z ≠ i + 15 → Y20 z = Y z) ∧ ∀ e : Nat, (e : Int) < (k + 1) → Y20 (i + 15) e = if mHas a e then rW Z q e else 0) ∧ (((20 - (k + 1)).toNat) < ((20 - (k)).toNat)))))))))))
set_option maxHeartbeats 4000000 in
set_option maxRecDepth 100000 in
theorem w_X1_sumUp {l : Launch} {D : va_G} {cy : Nat → ClassId} {bs N : Nat} {sa : Nat → Nat} {kd len : Nat → Nat} {X Y : Nat → Int → Int} {R : Nat → Int → Option Nat} {i : Nat} {Z : Nat → Int → Int} {q : Nat} (hC : zChart N kd len R i) (a : Int) (ha : rI a) (hF : F_X1_sumUp i Z q X Y R a) : Met l yX1_sumUp (.code yX1_sumUp cX1_sumUp 3 none :: zTB) (zRm 0 0) (zPc D cy bs sa N kd len X Y R [.ref (bs + (i)), .int (zI (a))]) (zQv D cy bs N kd len (fun st => st.1 = X ∧ st.2.2 = R ∧ ((∀ z, z ≠ i + 15 → (st.2.1) z = Y z) ∧ ∀ k : Nat, (k : Int) < Z q 27 → (st.2.1) (i + 15) k = finF Z q (a) k))) 0 0 (zA bs) := by
  refine zstart (by decide) (Nat.le_of_ble_eq_true rfl) ?_
  intro p e s m args below meth c ls C hE hH hr hlk hnm hl hargs
  have hF := hF hH.2.2.1 hH.2.2.2
  have hS : va_S (zA bs) s.heap s.heap [] := va_S.rf
  have hl : lv_has ls 3 [(0, .ref (bs + (i))), (1, .int (zI (a)))] := hl
  refine zd_iconst C dX1_sumUp_0 ?_
  refine lv_istore_n (lv' := [(2, .int (zI (0))), (0, .ref (bs + (i))), (1, .int (zI (a)))]) C.1 C.2.1 dX1_sumUp_1 rfl hl (by decide) rfl (fun ls hl => ?_)
  obtain ⟨hI1, hF⟩ := hF
  have L1 : ∀ (fu : Nat) (k : Int) (Y2 : Nat → Int → Int), rI k → ((0 ≤ k ∧ k ≤ Z q 27) ∧ (∀ z, z ≠ i + 15 → Y2 z = Y z) ∧ ∀ e : Nat, (e : Int) < k → Y2 (i + 15) e = if mHas a e then rW Z q e else 0) → ((20 - (k)).toNat) < fu → ∀ (H : Heap) (locs : List Loc) (ls : Array Slot), zH D cy bs N kd len X Y2 R H → va_S (zA bs) s.heap H locs → lv_has ls 3 [(2, .int (zI (k))), (0, .ref (bs + (i))), (1, .int (zI (a)))] → W p l e (zRm 0 0) s m args below meth c H locs 0 0 (MQ below (zQv D cy bs N kd len (fun st => st.1 = X ∧ st.2.2 = R ∧ ((∀ z, z ≠ i + 15 → (st.2.1) z = Y z) ∧ ∀ k : Nat, (k : Int) < Z q 27 → (st.2.1) (i + 15) k = finF Z q (a) k))) args s 0 0 (zA bs)) (F0 m 2 ls []) := by
    intro fu
    induction fu with
    | zero => intro k Y2 _ _ hmu; exact absurd hmu (Nat.not_lt_zero _)
    | succ fu ih1 =>
      intro k Y2 hk hI hmu1 H locs ls hH hS hl
      have hF := hF k Y2 hk hH.2.2.2 hI
      refine lv_iload_n C.1 C.2.1 dX1_sumUp_2 rfl (lv_at hl 0 rfl) ?_
      refine lv_aload_n C.1 C.2.1 dX1_sumUp_3 rfl (lv_at hl 1 rfl) ?_
      refine zg1_2 C hH (zChart_n0 hC) (zChart_k0 hC) q_396 dX1_sumUp_4 ?_
      refine zd_icmp_gt C hk (hH.2.2.1 _ _) 40 dX1_sumUp_7 (by decide) (fun c3 => ?_) (fun c3 => ?_)
      · have hF := hF.1 c3
        refine lv_aload_n C.1 C.2.1 dX1_sumUp_40 rfl (lv_at hl 1 rfl) ?_
        refine zg1_2 C hH (zChart_n0 hC) (zChart_k0 hC) q_396 dX1_sumUp_41 ?_
        refine lv_istore_n (lv' := [(2, .int (zI (X (i) 2))), (0, .ref (bs + (i))), (1, .int (zI (a)))]) C.1 C.2.1 dX1_sumUp_44 rfl hl (by decide) rfl (fun ls hl => ?_)
        obtain ⟨hI4, hF⟩ := hF
        have L4 : ∀ (fu : Nat) (k : Int) (Y5 : Nat → Int → Int), rI k → ((0 ≤ k ∧ k < Z q 27) ∧ (∀ z, z ≠ i + 15 → Y5 z = Y z) ∧ ∀ e : Nat, (e : Int) < Z q 27 → Y5 (i + 15) e = (if mHas a e then rW Z q e else 0) + sumN (sgF (rP Z q) (finF Z q a) (k).toNat e) (Z q 27).toNat) → ((k).toNat) < fu → ∀ (H : Heap) (locs : List Loc) (ls : Array Slot), zH D cy bs N kd len X Y5 R H → va_S (zA bs) s.heap H locs → lv_has ls 3 [(2, .int (zI (k))), (0, .ref (bs + (i))), (1, .int (zI (a)))] → W p l e (zRm 0 0) s m args below meth c H locs 0 0 (MQ below (zQv D cy bs N kd len (fun st => st.1 = X ∧ st.2.2 = R ∧ ((∀ z, z ≠ i + 15 → (st.2.1) z = Y z) ∧ ∀ k : Nat, (k : Int) < Z q 27 → (st.2.1) (i + 15) k = finF Z q (a) k))) args s 0 0 (zA bs)) (F0 m 45 ls []) := by
          intro fu
          induction fu with
          | zero => intro k Y5 _ _ hmu; exact absurd hmu (Nat.not_lt_zero _)
          | succ fu ih4 =>
            intro k Y5 hk hI hmu4 H locs ls hH hS hl
            have hF := hF k Y5 hk hH.2.2.2 hI
            refine lv_iload_n C.1 C.2.1 dX1_sumUp_45 rfl (lv_at hl 0 rfl) ?_
            refine zd_if_le C hk 75 dX1_sumUp_46 (by decide) (fun c6 => ?_) (fun c6 => ?_)
            · have hF := hF.1 c6
              exact zd_vret C hr hlk hH hS (⟨rfl, rfl, hF⟩) dX1_sumUp_75
            · have hF := hF.2 c6
              refine lv_aload_n C.1 C.2.1 dX1_sumUp_49 rfl (lv_at hl 1 rfl) ?_
              refine zg1_10 C hH (zChart_n0 hC) (zChart_k0 hC) q_415 (zChart_r15 hC) dX1_sumUp_50 ?_
              refine lv_aload_n C.1 C.2.1 dX1_sumUp_53 rfl (lv_at hl 1 rfl) ?_
              refine zg1_4 C hH (zChart_n0 hC) (zChart_k0 hC) q_402 (zChart_r9 hC) dX1_sumUp_54 ?_
              refine lv_iload_n C.1 C.2.1 dX1_sumUp_57 rfl (lv_at hl 0 rfl) ?_
              obtain ⟨o7, hF⟩ := hF
              refine zd_iald C hH (zChart_n9 hC) (zChart_k9 hC) o7.1 (by rw [zChart_l9 hC]; exact o7.2) (by rw [zChart_l9 hC]; decide) dX1_sumUp_58 ?_
              refine lv_dup2_11 C.1 C.2.1 dX1_sumUp_59 rfl rfl ?_
              obtain ⟨o8, hF⟩ := hF
              refine zd_lald C hH (zChart_n15 hC) (zChart_k15 hC) o8.1 (by rw [zChart_l15 hC]; exact o8.2) (by rw [zChart_l15 hC]; decide) dX1_sumUp_60 ?_
              refine lv_aload_n C.1 C.2.1 dX1_sumUp_61 rfl (lv_at hl 1 rfl) ?_
              refine zg1_10 C hH (zChart_n0 hC) (zChart_k0 hC) q_415 (zChart_r15 hC) dX1_sumUp_62 ?_
              refine lv_iload_n C.1 C.2.1 dX1_sumUp_65 rfl (lv_at hl 0 rfl) ?_
              obtain ⟨o9, hF⟩ := hF
              refine zd_lald C hH (zChart_n15 hC) (zChart_k15 hC) o9.1 (by rw [zChart_l15 hC]; exact o9.2) (by rw [zChart_l15 hC]; decide) dX1_sumUp_66 ?_
              refine zd_ladd C dX1_sumUp_67 ?_
              obtain ⟨o10, hF⟩ := hF
              obtain ⟨o11, hF⟩ := hF
              refine zd_last C hH hS (zChart_n15 hC) (zChart_k15 hC) o10.1 (by rw [zChart_l15 hC]; exact o10.2) (by rw [zChart_l15 hC]; decide) o11 dX1_sumUp_68 (fun H locs hH hS => ?_)
              obtain ⟨Y12, eY12⟩ : ∃ z, z = zU Y5 (i + 15) (X (i + 9) (k)) ((Y5 (i + 15) (X (i + 9) (k))) + (Y5 (i + 15) (k))) := ⟨_, rfl⟩
              rw [← eY12] at hH
              have hF := hF Y12 eY12 hH.2.2.2
              refine zd_iinc (k := 0) (lv' := [(2, .int (zI (k + (-1)))), (0, .ref (bs + (i))), (1, .int (zI (a)))]) C hl rfl dX1_sumUp_69 (by decide) rfl (fun ls hl => ?_)
              refine lv_goto (tgt := 45) C.1 C.2.1 dX1_sumUp_72 (by decide) ?_
              obtain ⟨o13, hF⟩ := hF
              exact ih4 (k + (-1)) Y12 o13 hF.1 (Nat.lt_of_lt_of_le hF.2 (Nat.le_of_lt_succ hmu4)) _ _ _ hH hS (lv_sub hl [0, 1, 2] rfl)
        exact L4 (((X (i) 2).toNat) + 1) (X (i) 2) Y2 (hH.2.2.1 _ _) hI4 (Nat.lt_succ_self _) _ _ _ hH hS (lv_sub hl [0, 1, 2] rfl)
      · have hF := hF.2 c3
        refine lv_aload_n C.1 C.2.1 dX1_sumUp_10 rfl (lv_at hl 1 rfl) ?_
        refine zg1_10 C hH (zChart_n0 hC) (zChart_k0 hC) q_415 (zChart_r15 hC) dX1_sumUp_11 ?_
        refine lv_iload_n C.1 C.2.1 dX1_sumUp_14 rfl (lv_at hl 0 rfl) ?_
        refine lv_iload_n C.1 C.2.1 dX1_sumUp_15 rfl (lv_at hl 2 rfl) ?_
        refine lv_iload_n C.1 C.2.1 dX1_sumUp_16 rfl (lv_at hl 0 rfl) ?_
        refine zd_ishr C dX1_sumUp_17 ?_
        refine zd_iconst C dX1_sumUp_18 ?_
        refine zd_iand C dX1_sumUp_19 ?_
        refine zd_if_eq C (zI_rg _) 32 dX1_sumUp_20 (by decide) (fun c14 => ?_) (fun c14 => ?_)
        · have hF := hF.1 c14
          refine lv_lconst (v := zL 0) C.1 C.2.1 dX1_sumUp_32 rfl ?_
          obtain ⟨o15, hF⟩ := hF
          refine zd_last C hH hS (zChart_n15 hC) (zChart_k15 hC) o15.1 (by rw [zChart_l15 hC]; exact o15.2) (by rw [zChart_l15 hC]; decide) (by decide) dX1_sumUp_33 (fun H locs hH hS => ?_)
          obtain ⟨Y16, eY16⟩ : ∃ z, z = zU Y2 (i + 15) (k) (0) := ⟨_, rfl⟩
          rw [← eY16] at hH
          have hF := hF Y16 eY16 hH.2.2.2
          refine zd_iinc (k := 0) (lv' := [(2, .int (zI (k + 1))), (0, .ref (bs + (i))), (1, .int (zI (a)))]) C hl rfl dX1_sumUp_34 (by decide) rfl (fun ls hl => ?_)
          refine lv_goto (tgt := 2) C.1 C.2.1 dX1_sumUp_37 (by decide) ?_
          obtain ⟨o17, hF⟩ := hF
          exact ih1 (k + 1) Y16 o17 hF.1 (Nat.lt_of_lt_of_le hF.2 (Nat.le_of_lt_succ hmu1)) _ _ _ hH hS (lv_sub hl [0, 1, 2] rfl)
        · have hF := hF.2 c14
          refine lv_aload_n C.1 C.2.1 dX1_sumUp_23 rfl (lv_at hl 1 rfl) ?_
          refine zg1_7 C hH (zChart_n0 hC) (zChart_k0 hC) q_409 (zChart_r12 hC) dX1_sumUp_24 ?_
          refine lv_iload_n C.1 C.2.1 dX1_sumUp_27 rfl (lv_at hl 0 rfl) ?_
          obtain ⟨o18, hF⟩ := hF
          refine zd_lald C hH (zChart_n12 hC) (zChart_k12 hC) o18.1 (by rw [zChart_l12 hC]; exact o18.2) (by rw [zChart_l12 hC]; decide) dX1_sumUp_28 ?_
          refine lv_goto (tgt := 33) C.1 C.2.1 dX1_sumUp_29 (by decide) ?_
          obtain ⟨o19, hF⟩ := hF
          refine zd_last C hH hS (zChart_n15 hC) (zChart_k15 hC) o19.1 (by rw [zChart_l15 hC]; exact o19.2) (by rw [zChart_l15 hC]; decide) (hH.2.2.2 _ _) dX1_sumUp_33 (fun H locs hH hS => ?_)
          obtain ⟨Y20, eY20⟩ : ∃ z, z = zU Y2 (i + 15) (k) (Y2 (i + 12) (k)) := ⟨_, rfl⟩
          rw [← eY20] at hH
          have hF := hF Y20 eY20 hH.2.2.2
          refine zd_iinc (k := 0) (lv' := [(2, .int (zI (k + 1))), (0, .ref (bs + (i))), (1, .int (zI (a)))]) C hl rfl dX1_sumUp_34 (by decide) rfl (fun ls hl => ?_)
          refine lv_goto (tgt := 2) C.1 C.2.1 dX1_sumUp_37 (by decide) ?_
          obtain ⟨o21, hF⟩ := hF
          exact ih1 (k + 1) Y20 o21 hF.1 (Nat.lt_of_lt_of_le hF.2 (Nat.le_of_lt_succ hmu1)) _ _ _ hH hS (lv_sub hl [0, 1, 2] rfl)
  exact L1 (((20 - ((0 : Int))).toNat) + 1) ((0 : Int)) Y (by decide) hI1 (Nat.lt_succ_self _) _ _ _ hH hS (lv_sub hl [0, 1, 2] rfl)
theorem v_X1_sumUp {X Y : Nat → Int → Int} {R : Nat → Int → Option Nat} {i : Nat} {Z : Nat → Int → Int} {q : Nat} (a : Int) (ha : rI a) (hp : cA Z q X Y R i ∧ clF Z q (a)) : F_X1_sumUp i Z q X Y R a := by
  unfold F_X1_sumUp
  intro hX hY
  obtain ⟨hq, hcl⟩ := hp
  obtain ⟨l27, r27, e27⟩ := cA_l hq
  have hv := hq.1.1.1
  have hvn := hq.2.1
  refine ⟨?_, ?_⟩
  · exact ⟨by omega, fun _ _ => rfl, fun e he => absurd he (by omega)⟩
  intro k Y2
  intro _
  intro rY2
  intro h1
  obtain ⟨⟨k1, k2⟩, fo, fk⟩ := h1
  obtain ⟨kn, rfl⟩ := nat_of (show 0 ≤ k by omega)
  have e0 : ((kn : Nat) : Int).toNat = kn := by omega
  refine ⟨?_, ?_⟩
  · intro c1
    refine ⟨?_, ?_⟩
    · refine ⟨by omega, fo, fun e he => ?_⟩
      rw [fk e (by omega), sumN_0 (fun x hx => by unfold sgF; rw [if_neg (by omega)]), Int.add_zero]
    intro k Y5
    intro _
    intro rY5
    intro h2
    obtain ⟨⟨k1, k2⟩, fo, fk⟩ := h2
    obtain ⟨kn, rfl⟩ := nat_of (show 0 ≤ k by omega)
    have e0 : ((kn : Nat) : Int).toNat = kn := by omega
    refine ⟨?_, ?_⟩
    · intro c2
      refine ⟨fo, fun e he => ?_⟩
      rw [fk e he]
      exact sum_fin hv hcl (by omega) he
    intro c3
    have kl : (kn : Int) < Z q 27 := by omega
    have es : ((kn : Int) + 1).toNat = kn + 1 := by omega
    have hx := cA_p hq (show 1 ≤ kn by omega) kl
    have f1 := fk kn kl
    rw [e0, sum_fin hv hcl (Nat.le_refl kn) kl] at f1
    have f2 := fk (rP Z q kn) (by omega)
    rw [e0] at f2
    have b1 := finF_b hv hvn (a := a) kl
    have b2 := psum_b hv hvn (a := a) (k := kn) (j := rP Z q kn) (by omega)
    have em : ((kn : Int) + (-1)).toNat = kn - 1 := by omega
    refine ⟨?_, ?_⟩
    · first | omega | exact ⟨by omega, by omega⟩ | decide | assumption | exact ⟨by omega, by omega, by omega⟩ | exact ⟨by decide, by decide⟩
    refine ⟨?_, ?_⟩
    · rw [hx.1]
      omega
    refine ⟨?_, ?_⟩
    · first | omega | exact ⟨by omega, by omega⟩ | decide | assumption | exact ⟨by omega, by omega, by omega⟩ | exact ⟨by decide, by decide⟩
    refine ⟨?_, ?_⟩
    · rw [hx.1]
      omega
    refine ⟨?_, ?_⟩
    · rw [hx.1, f1, f2]
      exact ⟨by omega, by omega⟩
    intro Y12
    intro eY12
    rw [hx.1, f1] at eY12
    intro rY12
    refine ⟨?_, ?_⟩
    · first | omega | exact ⟨by omega, by omega⟩ | decide | assumption | exact ⟨by omega, by omega, by omega⟩ | exact ⟨by decide, by decide⟩
    refine ⟨?_, ?_⟩
    · refine ⟨by omega, fun z hz => by rw [eY12, zU_o hz]; exact fo z hz, fun e he => ?_⟩
      have s1 := sumN_1 (g := sgF (rP Z q) (finF Z q a) (kn - 1) e) (h := sgF (rP Z q) (finF Z q a) kn e) (k := kn) (n := (Z q 27).toNat) (fun x hx hne => by
        unfold sgF
        by_cases g : kn < x ∧ rP Z q x = e
        · rw [if_pos g, if_pos ⟨by omega, g.2⟩]
        · rw [if_neg g, if_neg (fun z => g ⟨by omega, z.2⟩)]) (by unfold sgF; rw [if_neg (by omega)])
      rw [em, s1, if_pos (show kn < (Z q 27).toNat by omega), eY12, zU_up]
      unfold upI
      have f3 := fk e he
      rw [e0] at f3
      by_cases g : (e : Int) = rP Z q kn
      · have g2 : e = rP Z q kn := by omega
        rw [if_pos g, f2, g2]
        unfold sgF
        rw [if_pos (show kn - 1 < kn ∧ rP Z q kn = rP Z q kn from ⟨by omega, rfl⟩)]
        omega
      · rw [if_neg g, f3]
        show _ = _ + (_ + if kn - 1 < kn ∧ rP Z q kn = e then finF Z q a kn else 0)
        rw [if_neg (show ¬ (kn - 1 < kn ∧ rP Z q kn = e) by omega), Int.add_zero]
    first | omega | exact ⟨by omega, by omega⟩ | decide | assumption | exact ⟨by omega, by omega, by omega⟩ | exact ⟨by decide, by decide⟩
  intro c4
  have kl : (kn : Int) < Z q 27 := by omega
  have es : ((kn : Int) + 1).toNat = kn + 1 := by omega
  refine ⟨?_, ?_⟩
  · intro c5
    have c5 := has_0.mpr c5
    refine ⟨?_, ?_⟩
    · first | omega | exact ⟨by omega, by omega⟩ | decide | assumption | exact ⟨by omega, by omega, by omega⟩ | exact ⟨by decide, by decide⟩
    intro Y16
    intro eY16
    intro rY16
    refine ⟨?_, ?_⟩
    · first | omega | exact ⟨by omega, by omega⟩ | decide | assumption | exact ⟨by omega, by omega, by omega⟩ | exact ⟨by decide, by decide⟩
    refine ⟨?_, ?_⟩
    · refine ⟨by omega, fun z hz => by rw [eY16, zU_o hz]; exact fo z hz, fun e he => ?_⟩
      rw [eY16, zU_up]
      unfold upI
      by_cases g : (e : Int) = kn
      · have g2 : e = kn := by omega
        subst g2
        rw [if_pos rfl, c5]
        rfl
      · rw [if_neg g]
        exact fk e (by omega)
    first | omega | exact ⟨by omega, by omega⟩ | decide | assumption | exact ⟨by omega, by omega, by omega⟩ | exact ⟨by decide, by decide⟩
  intro c6
  have c6 := has_1.mpr c6
  refine ⟨?_, ?_⟩
  · first | omega | exact ⟨by omega, by omega⟩ | decide | assumption | exact ⟨by omega, by omega, by omega⟩ | exact ⟨by decide, by decide⟩
  refine ⟨?_, ?_⟩
  · first | omega | exact ⟨by omega, by omega⟩ | decide | assumption | exact ⟨by omega, by omega, by omega⟩ | exact ⟨by decide, by decide⟩
  intro Y20
  intro eY20
  intro rY20
  refine ⟨?_, ?_⟩
  · first | omega | exact ⟨by omega, by omega⟩ | decide | assumption | exact ⟨by omega, by omega, by omega⟩ | exact ⟨by decide, by decide⟩
  refine ⟨?_, ?_⟩
  · refine ⟨by omega, fun z hz => by rw [eY20, zU_o hz]; exact fo z hz, fun e he => ?_⟩
    rw [eY20, zU_up]
    unfold upI
    by_cases g : (e : Int) = kn
    · have g2 : e = kn := by omega
      subst g2
      rw [if_pos rfl, c6, if_pos rfl, fo (i + 12) (by omega)]
      exact (cA_W hq kl).1
    · rw [if_neg g]
      exact fk e (by omega)
  first | omega | exact ⟨by omega, by omega⟩ | decide | assumption | exact ⟨by omega, by omega, by omega⟩ | exact ⟨by decide, by decide⟩
theorem c_X1_sumUp {l : Launch} {D : va_G} {cy : Nat → ClassId} {bs N : Nat} {sa : Nat → Nat} {kd len : Nat → Nat} {X Y : Nat → Int → Int} {R : Nat → Int → Option Nat} {i : Nat} {Z : Nat → Int → Int} {q : Nat} (hC : zChart N kd len R i) (a : Int) (ha : rI a) (hp : cA Z q X Y R i ∧ clF Z q (a)) : Met l yX1_sumUp (.code yX1_sumUp cX1_sumUp 3 none :: zTB) (zRm 0 0) (zPc D cy bs sa N kd len X Y R [.ref (bs + (i)), .int (zI (a))]) (zQv D cy bs N kd len (fun st => st.1 = X ∧ st.2.2 = R ∧ ((∀ z, z ≠ i + 15 → (st.2.1) z = Y z) ∧ ∀ k : Nat, (k : Int) < Z q 27 → (st.2.1) (i + 15) k = finF Z q (a) k))) 0 0 (zA bs) := w_X1_sumUp hC a ha (v_X1_sumUp a ha hp)
abbrev cX1_workOf : ByteArray := prog_3_method_11_code
def yX1_workOf : MethodName := ⟨RX1, "workOf", "(I)J"⟩
theorem dX1_workOf_0 : decode cX1_workOf 0 = .ok (.lconst 0, 1) := by decide +kernel
theorem dX1_workOf_1 : decode cX1_workOf 1 = .ok (.lstore_n 2, 1) := by decide +kernel
theorem dX1_workOf_2 : decode cX1_workOf 2 = .ok (.iconst 0, 1) := by decide +kernel
theorem dX1_workOf_3 : decode cX1_workOf 3 = .ok (.istore 4, 2) := by decide +kernel
theorem dX1_workOf_5 : decode cX1_workOf 5 = .ok (.iload 4, 2) := by decide +kernel
theorem dX1_workOf_7 : decode cX1_workOf 7 = .ok (.aload_n 0, 1) := by decide +kernel
theorem dX1_workOf_8 : decode cX1_workOf 8 = .ok (.getfield 68, 3) := by decide +kernel
theorem dX1_workOf_11 : decode cX1_workOf 11 = .ok (.if_icmp .gt 28, 3) := by decide +kernel
theorem dX1_workOf_14 : decode cX1_workOf 14 = .ok (.iload_n 1, 1) := by decide +kernel
theorem dX1_workOf_15 : decode cX1_workOf 15 = .ok (.iload 4, 2) := by decide +kernel
theorem dX1_workOf_17 : decode cX1_workOf 17 = .ok (.invokestatic 127, 3) := by decide +kernel
theorem dX1_workOf_20 : decode cX1_workOf 20 = .ok (.ifCond .eq 13, 3) := by decide +kernel
theorem dX1_workOf_23 : decode cX1_workOf 23 = .ok (.lload_n 2, 1) := by decide +kernel
theorem dX1_workOf_24 : decode cX1_workOf 24 = .ok (.aload_n 0, 1) := by decide +kernel
theorem dX1_workOf_25 : decode cX1_workOf 25 = .ok (.getfield 35, 3) := by decide +kernel
theorem dX1_workOf_28 : decode cX1_workOf 28 = .ok (.iload 4, 2) := by decide +kernel
theorem dX1_workOf_30 : decode cX1_workOf 30 = .ok (.laload, 1) := by decide +kernel
theorem dX1_workOf_31 : decode cX1_workOf 31 = .ok (.ladd, 1) := by decide +kernel
theorem dX1_workOf_32 : decode cX1_workOf 32 = .ok (.lstore_n 2, 1) := by decide +kernel
theorem dX1_workOf_33 : decode cX1_workOf 33 = .ok (.iinc 4 1, 3) := by decide +kernel
theorem dX1_workOf_36 : decode cX1_workOf 36 = .ok (.goto (-31), 3) := by decide +kernel
theorem dX1_workOf_39 : decode cX1_workOf 39 = .ok (.lload_n 2, 1) := by decide +kernel
theorem dX1_workOf_40 : decode cX1_workOf 40 = .ok (.lreturn, 1) := by decide +kernel
def F_X1_workOf (i : Nat) (Z : Nat → Int → Int) (q : Nat) (X Y : Nat → Int → Int) (R : Nat → Int → Option Nat) (a : Int) : Prop := (∀ i j, rI (X i j)) → (∀ i j, rL (Y i j)) → ((0 ≤ (0 : Int) ∧ (0 : Int) ≤ Z q 27) ∧ (0 : Int) = swA (rW Z q) a ((0 : Int)).toNat) ∧ (∀ (u : Int) (k : Int), rL u → rI k → ((0 ≤ k ∧ k ≤ Z q 27) ∧ u = swA (rW Z q) a (k).toNat) → ((((X (i) 2) < k) → (u = swA (rW Z q) (a) (Z q 27).toNat)) ∧ ((¬ ((X (i) 2) < k)) → ((((decide (0 ≤ k ∧ k < 15) && decide (¬ zAnd (zShr (a) (k)) 1 = 0)) = false) → ((rI (k + 1)) ∧ ((0 ≤ (k + 1) ∧ (k + 1) ≤ Z q 27) ∧ u = swA (rW Z q) a ((k + 1)).toNat) ∧ (((20 - (k + 1)).toNat) < ((20 - (k)).toNat)))) ∧ (((decide (0 ≤ k ∧ k < 15) && decide (¬ zAnd (zShr (a) (k)) 1 = 0)) = true) → ((0 ≤ k ∧ k < 15) ∧ ((rL ((u) + (Y (i + 12) (k)))) ∧ (rI (k + 1)) ∧ ((0 ≤ (k + 1) ∧ (k + 1) ≤ Z q 27) ∧ ((u) + (Y (i + 12) (k))) = swA (rW Z q) a ((k + 1)).toNat) ∧ (((20 - (k + 1)).toNat) < ((20 - (k)).toNat)))))))))
set_option maxHeartbeats 4000000 in
set_option maxRecDepth 100000 in
theorem w_X1_workOf {l : Launch} {D : va_G} {cy : Nat → ClassId} {bs N : Nat} {sa : Nat → Nat} {kd len : Nat → Nat} {X Y : Nat → Int → Int} {R : Nat → Int → Option Nat} {i : Nat} {Z : Nat → Int → Int} {q : Nat} (hC : zChart N kd len R i) (a : Int) (ha : rI a) (hF : F_X1_workOf i Z q X Y R a) : Met l yX1_workOf (.code yX1_workOf cX1_workOf 5 (some .long) :: zTB) (zRm 1 21) (zPc D cy bs sa N kd len X Y R [.ref (bs + (i)), .int (zI (a))]) (zQl D cy bs N kd len (fun r st => r = swA (rW Z q) (a) (Z q 27).toNat ∧ st = (X, Y, R))) 0 0 (zA bs) := by
  refine zstart (by decide) (Nat.le_of_ble_eq_true rfl) ?_
  intro p e s m args below meth c ls C hE hH hr hlk hnm hl hargs
  have hF := hF hH.2.2.1 hH.2.2.2
  have hS : va_S (zA bs) s.heap s.heap [] := va_S.rf
  have hl : lv_has ls 5 [(0, .ref (bs + (i))), (1, .int (zI (a)))] := hl
  refine lv_lconst (v := zL 0) C.1 C.2.1 dX1_workOf_0 rfl ?_
  refine lv_lstore_n (lv' := [(2, .long (zL (0))), (0, .ref (bs + (i))), (1, .int (zI (a)))]) C.1 C.2.1 dX1_workOf_1 rfl hl (by decide) rfl (fun ls hl => ?_)
  refine zd_iconst C dX1_workOf_2 ?_
  refine lv_istore (lv' := [(4, .int (zI (0))), (2, .long (zL (0))), (0, .ref (bs + (i))), (1, .int (zI (a)))]) C.1 C.2.1 dX1_workOf_3 hl (by decide) rfl (fun ls hl => ?_)
  obtain ⟨hI1, hF⟩ := hF
  have L1 : ∀ (fu : Nat) (u : Int) (k : Int), rL u → rI k → ((0 ≤ k ∧ k ≤ Z q 27) ∧ u = swA (rW Z q) a (k).toNat) → ((20 - (k)).toNat) < fu → ∀ (H : Heap) (locs : List Loc) (ls : Array Slot), zH D cy bs N kd len X Y R H → va_S (zA bs) s.heap H locs → lv_has ls 5 [(2, .long (zL (u))), (4, .int (zI (k))), (0, .ref (bs + (i))), (1, .int (zI (a)))] → W p l e (zRm 1 21) s m args below meth c H locs 0 0 (MQ below (zQl D cy bs N kd len (fun r st => r = swA (rW Z q) (a) (Z q 27).toNat ∧ st = (X, Y, R))) args s 0 0 (zA bs)) (F0 m 5 ls []) := by
    intro fu
    induction fu with
    | zero => intro u k _ _ _ hmu; exact absurd hmu (Nat.not_lt_zero _)
    | succ fu ih1 =>
      intro u k hu hk hI hmu1 H locs ls hH hS hl
      have hF := hF u k hu hk  hI
      refine lv_iload C.1 C.2.1 dX1_workOf_5 (lv_at hl 1 rfl) ?_
      refine lv_aload_n C.1 C.2.1 dX1_workOf_7 rfl (lv_at hl 2 rfl) ?_
      refine zg1_2 C hH (zChart_n0 hC) (zChart_k0 hC) q_396 dX1_workOf_8 ?_
      refine zd_icmp_gt C hk (hH.2.2.1 _ _) 39 dX1_workOf_11 (by decide) (fun c2 => ?_) (fun c2 => ?_)
      · have hF := hF.1 c2
        refine lv_lload_n C.1 C.2.1 dX1_workOf_39 rfl (lv_at hl 0 rfl) ?_
        exact zd_lret C hr hlk hH hS hu (⟨hF, rfl⟩) dX1_workOf_40
      · have hF := hF.2 c2
        refine lv_iload_n C.1 C.2.1 dX1_workOf_14 rfl (lv_at hl 3 rfl) ?_
        refine lv_iload C.1 C.2.1 dX1_workOf_15 (lv_at hl 1 rfl) ?_
        refine zgoi (zrunSN (As := [.int (zI (a)), .int (zI (k))]) (rest := []) C hE hH hS hl.1 (c_X10_isIn (l := l)  (a) ha (k) hk) k_RX1_127 ⟨Nat.le_of_ble_eq_true rfl, Nat.le_of_ble_eq_true rfl⟩ rfl (Nat.le_of_ble_eq_true rfl) dX1_workOf_17 ⟨Nat.zero_le _, Nat.zero_le _⟩) hS (fun rq Xq Yq Rq H locs hrq hq hH hS => ?_)
        obtain ⟨h91, h92⟩ := hq
        have h93 : Xq = X := congrArg (fun z => z.1) h92
        have h94 : Yq = Y := congrArg (fun z => z.2.1) h92
        have h95 : Rq = R := congrArg (fun z => z.2.2) h92
        rw [h93, h94, h95] at hH
        subst h91
        refine zd_ifB_eq C 33 dX1_workOf_20 (by decide) (fun c3 => ?_) (fun c3 => ?_)
        · have hF := hF.1 c3
          refine zd_iinc (k := 1) (lv' := [(4, .int (zI (k + 1))), (2, .long (zL (u))), (0, .ref (bs + (i))), (1, .int (zI (a)))]) C hl rfl dX1_workOf_33 (by decide) rfl (fun ls hl => ?_)
          refine lv_goto (tgt := 5) C.1 C.2.1 dX1_workOf_36 (by decide) ?_
          obtain ⟨o4, hF⟩ := hF
          exact ih1 (u) (k + 1) hu o4 hF.1 (Nat.lt_of_lt_of_le hF.2 (Nat.le_of_lt_succ hmu1)) _ _ _ hH hS (lv_sub hl [1, 0, 2, 3] rfl)
        · have hF := hF.2 c3
          refine lv_lload_n C.1 C.2.1 dX1_workOf_23 rfl (lv_at hl 0 rfl) ?_
          refine lv_aload_n C.1 C.2.1 dX1_workOf_24 rfl (lv_at hl 2 rfl) ?_
          refine zg1_7 C hH (zChart_n0 hC) (zChart_k0 hC) q_409 (zChart_r12 hC) dX1_workOf_25 ?_
          refine lv_iload C.1 C.2.1 dX1_workOf_28 (lv_at hl 1 rfl) ?_
          obtain ⟨o5, hF⟩ := hF
          refine zd_lald C hH (zChart_n12 hC) (zChart_k12 hC) o5.1 (by rw [zChart_l12 hC]; exact o5.2) (by rw [zChart_l12 hC]; decide) dX1_workOf_30 ?_
          refine zd_ladd C dX1_workOf_31 ?_
          refine lv_lstore_n (lv' := [(2, .long (zL ((u) + (Y (i + 12) (k))))), (4, .int (zI (k))), (0, .ref (bs + (i))), (1, .int (zI (a)))]) C.1 C.2.1 dX1_workOf_32 rfl hl (by decide) rfl (fun ls hl => ?_)
          refine zd_iinc (k := 1) (lv' := [(4, .int (zI (k + 1))), (2, .long (zL ((u) + (Y (i + 12) (k))))), (0, .ref (bs + (i))), (1, .int (zI (a)))]) C hl rfl dX1_workOf_33 (by decide) rfl (fun ls hl => ?_)
          refine lv_goto (tgt := 5) C.1 C.2.1 dX1_workOf_36 (by decide) ?_
          obtain ⟨o6, hF⟩ := hF
          obtain ⟨o7, hF⟩ := hF
          exact ih1 ((u) + (Y (i + 12) (k))) (k + 1) o6 o7 hF.1 (Nat.lt_of_lt_of_le hF.2 (Nat.le_of_lt_succ hmu1)) _ _ _ hH hS (lv_sub hl [1, 0, 2, 3] rfl)
  exact L1 (((20 - ((0 : Int))).toNat) + 1) ((0 : Int)) ((0 : Int)) (by decide) (by decide) hI1 (Nat.lt_succ_self _) _ _ _ hH hS (lv_sub hl [1, 0, 2, 3] rfl)
theorem v_X1_workOf {X Y : Nat → Int → Int} {R : Nat → Int → Option Nat} {i : Nat} {Z : Nat → Int → Int} {q : Nat} (a : Int) (ha : rI a) (hp : cA Z q X Y R i) : F_X1_workOf i Z q X Y R a := by
  unfold F_X1_workOf
  intro hX hY
  obtain ⟨l27, r27, e27⟩ := cA_l hp
  refine ⟨?_, ?_⟩
  · exact ⟨by omega, rfl⟩
  intro u k
  intro _
  intro _
  intro h1
  obtain ⟨⟨k1, k2⟩, hr⟩ := h1
  obtain ⟨kn, rfl⟩ := nat_of (show 0 ≤ k by omega)
  have e0 : ((kn : Nat) : Int).toNat = kn := by omega
  rw [e0] at hr
  refine ⟨?_, ?_⟩
  · intro c1
    rw [show Z q 27 = kn by omega, e0]
    exact hr
  intro c2
  have kl : (kn : Int) < Z q 27 := by omega
  have es : ((kn : Int) + 1).toNat = kn + 1 := by omega
  have st : swA (rW Z q) a (kn + 1) = swA (rW Z q) a kn + if mHas a kn then rW Z q kn else 0 := rfl
  have sb := swA_b (W := rW Z q) (s := a) (n := kn) (fun k hk => (rW_b hp.1.1.1 hp.2.1 k (by omega)).1)
  have wb := (rW_b hp.1.1.1 hp.2.1 kn kl).1
  refine ⟨?_, ?_⟩
  · intro c3
    rw [isIn_has (by omega) (by omega)] at c3
    rw [c3] at st
    refine ⟨?_, ?_⟩
    · first | omega | exact ⟨by omega, by omega⟩ | decide | assumption | exact ⟨by omega, by omega, by omega⟩ | exact ⟨by decide, by decide⟩
    refine ⟨?_, ?_⟩
    · exact ⟨by omega, by rw [es, st, hr]; exact (Int.add_zero _).symm⟩
    first | omega | exact ⟨by omega, by omega⟩ | decide | assumption | exact ⟨by omega, by omega, by omega⟩ | exact ⟨by decide, by decide⟩
  intro c4
  rw [isIn_has (by omega) (by omega)] at c4
  rw [c4, if_pos rfl] at st
  rw [(cA_W hp kl).1]
  refine ⟨?_, ?_⟩
  · first | omega | exact ⟨by omega, by omega⟩ | decide | assumption | exact ⟨by omega, by omega, by omega⟩ | exact ⟨by decide, by decide⟩
  refine ⟨?_, ?_⟩
  · rw [hr]
    exact ⟨by omega, by omega⟩
  refine ⟨?_, ?_⟩
  · first | omega | exact ⟨by omega, by omega⟩ | decide | assumption | exact ⟨by omega, by omega, by omega⟩ | exact ⟨by decide, by decide⟩
  refine ⟨?_, ?_⟩
  · exact ⟨by omega, by rw [es, st, hr]⟩
  first | omega | exact ⟨by omega, by omega⟩ | decide | assumption | exact ⟨by omega, by omega, by omega⟩ | exact ⟨by decide, by decide⟩
theorem c_X1_workOf {l : Launch} {D : va_G} {cy : Nat → ClassId} {bs N : Nat} {sa : Nat → Nat} {kd len : Nat → Nat} {X Y : Nat → Int → Int} {R : Nat → Int → Option Nat} {i : Nat} {Z : Nat → Int → Int} {q : Nat} (hC : zChart N kd len R i) (a : Int) (ha : rI a) (hp : cA Z q X Y R i) : Met l yX1_workOf (.code yX1_workOf cX1_workOf 5 (some .long) :: zTB) (zRm 1 21) (zPc D cy bs sa N kd len X Y R [.ref (bs + (i)), .int (zI (a))]) (zQl D cy bs N kd len (fun r st => r = swA (rW Z q) (a) (Z q 27).toNat ∧ st = (X, Y, R))) 0 0 (zA bs) := w_X1_workOf hC a ha (v_X1_workOf a ha hp)
abbrev cX1_subtree : ByteArray := prog_3_method_12_code
def yX1_subtree : MethodName := ⟨RX1, "subtree", "(I)J"⟩
theorem dX1_subtree_0 : decode cX1_subtree 0 = .ok (.aload_n 0, 1) := by decide +kernel
theorem dX1_subtree_1 : decode cX1_subtree 1 = .ok (.aload_n 0, 1) := by decide +kernel
theorem dX1_subtree_2 : decode cX1_subtree 2 = .ok (.getfield 69, 3) := by decide +kernel
theorem dX1_subtree_5 : decode cX1_subtree 5 = .ok (.invokevirtual 131, 3) := by decide +kernel
theorem dX1_subtree_8 : decode cX1_subtree 8 = .ok (.aload_n 0, 1) := by decide +kernel
theorem dX1_subtree_9 : decode cX1_subtree 9 = .ok (.getfield 48, 3) := by decide +kernel
theorem dX1_subtree_12 : decode cX1_subtree 12 = .ok (.iload_n 1, 1) := by decide +kernel
theorem dX1_subtree_13 : decode cX1_subtree 13 = .ok (.laload, 1) := by decide +kernel
theorem dX1_subtree_14 : decode cX1_subtree 14 = .ok (.lreturn, 1) := by decide +kernel
theorem q_988 : Cond.methodLink RX1 131 yX1_sumUp ∈ zTB := zmem 988 (by decide +kernel) rfl
theorem q_990 : Cond.instanceMethod yX1_sumUp ∈ zTB := zmem 990 (by decide +kernel) rfl
theorem q_19 : Cond.selects RX1 yX1_sumUp yX1_sumUp ∈ zTB := zmem 19 (by decide +kernel) rfl
theorem q_991 : Cond.code yX1_sumUp cX1_sumUp 3 none ∈ zTB := zmem 991 (by decide +kernel) rfl
theorem k_RX1_131 : zLv RX1 131 RX1 yX1_sumUp cX1_sumUp 3 none 1 := ⟨⟨q_988, q_990, q_19, q_135, q_991⟩, rfl, ⟨by decide, by decide⟩, by decide +kernel⟩
def F_X1_subtree (i : Nat) (Z : Nat → Int → Int) (q : Nat) (X Y : Nat → Int → Int) (R : Nat → Int → Option Nat) (a : Int) : Prop := (∀ i j, rI (X i j)) → (∀ i j, rL (Y i j)) → (cA Z q X Y R i ∧ clF Z q ((X (i) 3))) ∧ (∀ Y2 : Nat → Int → Int, (∀ i j, rL (Y2 i j)) → ((∀ z, z ≠ i + 15 → (Y2) z = Y z) ∧ ∀ k : Nat, (k : Int) < Z q 27 → (Y2) (i + 15) k = finF Z q ((X (i) 3)) k) → ((0 ≤ a ∧ a < 15) ∧ (fvK X X Y (Y2) i ∧ (sdf Z q (a).toNat = true → Y2 (i + 15) (a) = sSb (rP Z q) (rW Z q) (sdf Z q) (Z q 27).toNat (a).toNat))))
set_option maxHeartbeats 4000000 in
set_option maxRecDepth 100000 in
theorem w_X1_subtree {l : Launch} {D : va_G} {cy : Nat → ClassId} {bs N : Nat} {sa : Nat → Nat} {kd len : Nat → Nat} {X Y : Nat → Int → Int} {R : Nat → Int → Option Nat} {i : Nat} {Z : Nat → Int → Int} {q : Nat} (hC : zChart N kd len R i) (a : Int) (ha : rI a) (hF : F_X1_subtree i Z q X Y R a) : Met l yX1_subtree (.code yX1_subtree cX1_subtree 2 (some .long) :: zTB) (zRm 1 22) (zPc D cy bs sa N kd len X Y R [.ref (bs + (i)), .int (zI (a))]) (zQl D cy bs N kd len (fun r st => st.1 = X ∧ st.2.2 = R ∧ (fvK X X Y (st.2.1) i ∧ (sdf Z q (a).toNat = true → r = sSb (rP Z q) (rW Z q) (sdf Z q) (Z q 27).toNat (a).toNat)))) 0 0 (zA bs) := by
  refine zstart (by decide) (Nat.le_of_ble_eq_true rfl) ?_
  intro p e s m args below meth c ls C hE hH hr hlk hnm hl hargs
  have hF := hF hH.2.2.1 hH.2.2.2
  have hS : va_S (zA bs) s.heap s.heap [] := va_S.rf
  have hl : lv_has ls 2 [(0, .ref (bs + (i))), (1, .int (zI (a)))] := hl
  refine lv_aload_n C.1 C.2.1 dX1_subtree_0 rfl (lv_at hl 0 rfl) ?_
  refine lv_aload_n C.1 C.2.1 dX1_subtree_1 rfl (lv_at hl 0 rfl) ?_
  refine zg1_3 C hH (zChart_n0 hC) (zChart_k0 hC) q_399 dX1_subtree_2 ?_
  obtain ⟨o1, hF⟩ := hF
  refine zgov (zrunV (As := [.int (zI (X (i) 3))]) (rest := []) C hE hH hS hl.1 (c_X1_sumUp (l := l) hC (X (i) 3) (hH.2.2.1 _ _) o1) k_RX1_131 ⟨Nat.le_of_ble_eq_true rfl, Nat.le_of_ble_eq_true rfl⟩ (zChart_n0 hC) (zChart_k0 hC) rfl rfl rfl (Nat.le_of_ble_eq_true rfl) dX1_subtree_5 ⟨Nat.zero_le _, Nat.zero_le _⟩) hS (fun Xq Y2 Rq H locs hq hH hS => ?_)
  obtain ⟨h9X, h9R, hq⟩ := hq
  dsimp only at h9X h9R
  rw [h9X, h9R] at hH
  have hF := hF Y2 hH.2.2.2 hq
  refine lv_aload_n C.1 C.2.1 dX1_subtree_8 rfl (lv_at hl 0 rfl) ?_
  refine zg1_10 C hH (zChart_n0 hC) (zChart_k0 hC) q_415 (zChart_r15 hC) dX1_subtree_9 ?_
  refine lv_iload_n C.1 C.2.1 dX1_subtree_12 rfl (lv_at hl 1 rfl) ?_
  obtain ⟨o3, hF⟩ := hF
  refine zd_lald C hH (zChart_n15 hC) (zChart_k15 hC) o3.1 (by rw [zChart_l15 hC]; exact o3.2) (by rw [zChart_l15 hC]; decide) dX1_subtree_13 ?_
  exact zd_lret C hr hlk hH hS (hH.2.2.2 _ _) (⟨rfl, rfl, hF⟩) dX1_subtree_14
theorem v_X1_subtree {X Y : Nat → Int → Int} {R : Nat → Int → Option Nat} {i : Nat} {Z : Nat → Int → Int} {q : Nat} (a : Int) (ha : rI a) (hp : cA Z q X Y R i ∧ 0 ≤ a ∧ a < Z q 27) : F_X1_subtree i Z q X Y R a := by
  unfold F_X1_subtree
  intro hX hY
  obtain ⟨hq, a0, a1⟩ := hp
  obtain ⟨l27, r27, e27⟩ := cA_l hq
  refine ⟨?_, ?_⟩
  · exact ⟨hq, cl_sdf hq⟩
  intro Y2
  intro rY2
  intro h1
  refine ⟨?_, ?_⟩
  · first | omega | exact ⟨by omega, by omega⟩ | decide | assumption | exact ⟨by omega, by omega, by omega⟩ | exact ⟨by decide, by decide⟩
  refine ⟨⟨fun _ _ => rfl, h1.1⟩, fun hs => ?_⟩
  obtain ⟨an, rfl⟩ := nat_of a0
  have e0 : ((an : Nat) : Int).toNat = an := by omega
  rw [e0] at hs ⊢
  rw [h1.2 an a1]
  unfold finF
  rw [cA_s hq a1, hs, if_pos rfl]
  exact sSb_cong (fun _ _ => rfl) (fun k hk => cA_s hq (by omega)) an (by omega)
theorem c_X1_subtree {l : Launch} {D : va_G} {cy : Nat → ClassId} {bs N : Nat} {sa : Nat → Nat} {kd len : Nat → Nat} {X Y : Nat → Int → Int} {R : Nat → Int → Option Nat} {i : Nat} {Z : Nat → Int → Int} {q : Nat} (hC : zChart N kd len R i) (a : Int) (ha : rI a) (hp : cA Z q X Y R i ∧ 0 ≤ a ∧ a < Z q 27) : Met l yX1_subtree (.code yX1_subtree cX1_subtree 2 (some .long) :: zTB) (zRm 1 22) (zPc D cy bs sa N kd len X Y R [.ref (bs + (i)), .int (zI (a))]) (zQl D cy bs N kd len (fun r st => st.1 = X ∧ st.2.2 = R ∧ (fvK X X Y (st.2.1) i ∧ (sdf Z q (a).toNat = true → r = sSb (rP Z q) (rW Z q) (sdf Z q) (Z q 27).toNat (a).toNat)))) 0 0 (zA bs) := w_X1_subtree hC a ha (v_X1_subtree a ha hp)
abbrev cX1_heaviest : ByteArray := prog_3_method_16_code
def yX1_heaviest : MethodName := ⟨RX1, "heaviest", "(I[I)I"⟩
theorem dX1_heaviest_0 : decode cX1_heaviest 0 = .ok (.iconst 0, 1) := by decide +kernel
theorem dX1_heaviest_1 : decode cX1_heaviest 1 = .ok (.istore_n 3, 1) := by decide +kernel
theorem dX1_heaviest_2 : decode cX1_heaviest 2 = .ok (.iconst 1, 1) := by decide +kernel
theorem dX1_heaviest_3 : decode cX1_heaviest 3 = .ok (.istore 4, 2) := by decide +kernel
theorem dX1_heaviest_5 : decode cX1_heaviest 5 = .ok (.iload 4, 2) := by decide +kernel
theorem dX1_heaviest_7 : decode cX1_heaviest 7 = .ok (.aload_n 0, 1) := by decide +kernel
theorem dX1_heaviest_8 : decode cX1_heaviest 8 = .ok (.getfield 68, 3) := by decide +kernel
theorem dX1_heaviest_11 : decode cX1_heaviest 11 = .ok (.if_icmp .gt 68, 3) := by decide +kernel
theorem dX1_heaviest_14 : decode cX1_heaviest 14 = .ok (.iload_n 1, 1) := by decide +kernel
theorem dX1_heaviest_15 : decode cX1_heaviest 15 = .ok (.iload 4, 2) := by decide +kernel
theorem dX1_heaviest_17 : decode cX1_heaviest 17 = .ok (.ishr, 1) := by decide +kernel
theorem dX1_heaviest_18 : decode cX1_heaviest 18 = .ok (.iconst 1, 1) := by decide +kernel
theorem dX1_heaviest_19 : decode cX1_heaviest 19 = .ok (.iand, 1) := by decide +kernel
theorem dX1_heaviest_20 : decode cX1_heaviest 20 = .ok (.ifCond .eq 53, 3) := by decide +kernel
theorem dX1_heaviest_23 : decode cX1_heaviest 23 = .ok (.aload_n 0, 1) := by decide +kernel
theorem dX1_heaviest_24 : decode cX1_heaviest 24 = .ok (.getfield 39, 3) := by decide +kernel
theorem dX1_heaviest_27 : decode cX1_heaviest 27 = .ok (.iload 4, 2) := by decide +kernel
theorem dX1_heaviest_29 : decode cX1_heaviest 29 = .ok (.laload, 1) := by decide +kernel
theorem dX1_heaviest_30 : decode cX1_heaviest 30 = .ok (.aload_n 0, 1) := by decide +kernel
theorem dX1_heaviest_31 : decode cX1_heaviest 31 = .ok (.getfield 39, 3) := by decide +kernel
theorem dX1_heaviest_34 : decode cX1_heaviest 34 = .ok (.iload_n 3, 1) := by decide +kernel
theorem dX1_heaviest_35 : decode cX1_heaviest 35 = .ok (.laload, 1) := by decide +kernel
theorem dX1_heaviest_36 : decode cX1_heaviest 36 = .ok (.lcmp, 1) := by decide +kernel
theorem dX1_heaviest_37 : decode cX1_heaviest 37 = .ok (.ifCond .ge 6, 3) := by decide +kernel
theorem dX1_heaviest_40 : decode cX1_heaviest 40 = .ok (.goto 33, 3) := by decide +kernel
theorem dX1_heaviest_43 : decode cX1_heaviest 43 = .ok (.aload_n 0, 1) := by decide +kernel
theorem dX1_heaviest_44 : decode cX1_heaviest 44 = .ok (.getfield 39, 3) := by decide +kernel
theorem dX1_heaviest_47 : decode cX1_heaviest 47 = .ok (.iload 4, 2) := by decide +kernel
theorem dX1_heaviest_49 : decode cX1_heaviest 49 = .ok (.laload, 1) := by decide +kernel
theorem dX1_heaviest_50 : decode cX1_heaviest 50 = .ok (.aload_n 0, 1) := by decide +kernel
theorem dX1_heaviest_51 : decode cX1_heaviest 51 = .ok (.getfield 39, 3) := by decide +kernel
theorem dX1_heaviest_54 : decode cX1_heaviest 54 = .ok (.iload_n 3, 1) := by decide +kernel
theorem dX1_heaviest_55 : decode cX1_heaviest 55 = .ok (.laload, 1) := by decide +kernel
theorem dX1_heaviest_56 : decode cX1_heaviest 56 = .ok (.lcmp, 1) := by decide +kernel
theorem dX1_heaviest_57 : decode cX1_heaviest 57 = .ok (.ifCond .gt 13, 3) := by decide +kernel
theorem dX1_heaviest_60 : decode cX1_heaviest 60 = .ok (.aload_n 2, 1) := by decide +kernel
theorem dX1_heaviest_61 : decode cX1_heaviest 61 = .ok (.iload 4, 2) := by decide +kernel
theorem dX1_heaviest_63 : decode cX1_heaviest 63 = .ok (.iaload, 1) := by decide +kernel
theorem dX1_heaviest_64 : decode cX1_heaviest 64 = .ok (.aload_n 2, 1) := by decide +kernel
theorem dX1_heaviest_65 : decode cX1_heaviest 65 = .ok (.iload_n 3, 1) := by decide +kernel
theorem dX1_heaviest_66 : decode cX1_heaviest 66 = .ok (.iaload, 1) := by decide +kernel
theorem dX1_heaviest_67 : decode cX1_heaviest 67 = .ok (.if_icmp .ge 6, 3) := by decide +kernel
theorem dX1_heaviest_70 : decode cX1_heaviest 70 = .ok (.iload 4, 2) := by decide +kernel
theorem dX1_heaviest_72 : decode cX1_heaviest 72 = .ok (.istore_n 3, 1) := by decide +kernel
theorem dX1_heaviest_73 : decode cX1_heaviest 73 = .ok (.iinc 4 1, 3) := by decide +kernel
theorem dX1_heaviest_76 : decode cX1_heaviest 76 = .ok (.goto (-71), 3) := by decide +kernel
theorem dX1_heaviest_79 : decode cX1_heaviest 79 = .ok (.iload_n 3, 1) := by decide +kernel
theorem dX1_heaviest_80 : decode cX1_heaviest 80 = .ok (.ireturn, 1) := by decide +kernel
def F_X1_heaviest (i : Nat) (Z : Nat → Int → Int) (q : Nat) (j : Nat) (X Y : Nat → Int → Int) (R : Nat → Int → Option Nat) (a : Int) : Prop := (∀ i j, rI (X i j)) → (∀ i j, rL (Y i j)) → ((1 ≤ (1 : Int) ∧ (1 : Int) ≤ Z q 27) ∧ (0 : Int) = ((aHv (rG Z q) (fun e => mHas a e) (fun x y : Nat => decide (X j x < X j y)) ((1 : Int)).toNat : Nat) : Int)) ∧ (∀ (u : Int) (k : Int), rI u → rI k → ((1 ≤ k ∧ k ≤ Z q 27) ∧ u = ((aHv (rG Z q) (fun e => mHas a e) (fun x y : Nat => decide (X j x < X j y)) (k).toNat : Nat) : Int)) → ((((X (i) 2) < k) → (u = ((aHv (rG Z q) (fun e => mHas (a) e) (fun x y : Nat => decide (X j x < X j y)) (Z q 27).toNat : Nat) : Int))) ∧ ((¬ ((X (i) 2) < k)) → ((((zAnd (zShr (a) (k)) (1)) = 0) → ((rI (k + 1)) ∧ ((1 ≤ (k + 1) ∧ (k + 1) ≤ Z q 27) ∧ u = ((aHv (rG Z q) (fun e => mHas a e) (fun x y : Nat => decide (X j x < X j y)) ((k + 1)).toNat : Nat) : Int)) ∧ (((20 - (k + 1)).toNat) < ((20 - (k)).toNat)))) ∧ ((¬ ((zAnd (zShr (a) (k)) (1)) = 0)) → ((0 ≤ k ∧ k < 15) ∧ ((0 ≤ u ∧ u < 15) ∧ ((((Y (i + 13) (u)) ≤ (Y (i + 13) (k))) → ((0 ≤ k ∧ k < 15) ∧ ((0 ≤ u ∧ u < 15) ∧ ((((Y (i + 13) (u)) < (Y (i + 13) (k))) → ((rI (k + 1)) ∧ ((1 ≤ (k + 1) ∧ (k + 1) ≤ Z q 27) ∧ k = ((aHv (rG Z q) (fun e => mHas a e) (fun x y : Nat => decide (X j x < X j y)) ((k + 1)).toNat : Nat) : Int)) ∧ (((20 - (k + 1)).toNat) < ((20 - (k)).toNat)))) ∧ ((¬ ((Y (i + 13) (u)) < (Y (i + 13) (k)))) → ((0 ≤ k ∧ k < 15) ∧ ((0 ≤ u ∧ u < 15) ∧ ((((X (j) (u)) ≤ (X (j) (k))) → ((rI (k + 1)) ∧ ((1 ≤ (k + 1) ∧ (k + 1) ≤ Z q 27) ∧ u = ((aHv (rG Z q) (fun e => mHas a e) (fun x y : Nat => decide (X j x < X j y)) ((k + 1)).toNat : Nat) : Int)) ∧ (((20 - (k + 1)).toNat) < ((20 - (k)).toNat)))) ∧ ((¬ ((X (j) (u)) ≤ (X (j) (k)))) → ((rI (k + 1)) ∧ ((1 ≤ (k + 1) ∧ (k + 1) ≤ Z q 27) ∧ k = ((aHv (rG Z q) (fun e => mHas a e) (fun x y : Nat => decide (X j x < X j y)) ((k + 1)).toNat : Nat) : Int)) ∧ (((20 - (k + 1)).toNat) < ((20 - (k)).toNat)))))))))))) ∧ ((¬ ((Y (i + 13) (u)) ≤ (Y (i + 13) (k)))) → ((rI (k + 1)) ∧ ((1 ≤ (k + 1) ∧ (k + 1) ≤ Z q 27) ∧ u = ((aHv (rG Z q) (fun e => mHas a e) (fun x y : Nat => decide (X j x < X j y)) ((k + 1)).toNat : Nat) : Int)) ∧ (((20 - (k + 1)).toNat) < ((20 - (k)).toNat))))))))))))
set_option maxHeartbeats 4000000 in
set_option maxRecDepth 100000 in
theorem w_X1_heaviest {l : Launch} {D : va_G} {cy : Nat → ClassId} {bs N : Nat} {sa : Nat → Nat} {kd len : Nat → Nat} {X Y : Nat → Int → Int} {R : Nat → Int → Option Nat} {i : Nat} {Z : Nat → Int → Int} {q : Nat} (hC : zChart N kd len R i) {j : Nat} (hj : j < N ∧ kd j = 13 ∧ len j = 15) (a : Int) (ha : rI a) (hF : F_X1_heaviest i Z q j X Y R a) : Met l yX1_heaviest (.code yX1_heaviest cX1_heaviest 5 (some .int) :: zTB) (zRm 0 0) (zPc D cy bs sa N kd len X Y R [.ref (bs + (i)), .int (zI (a)), .ref (bs + (j))]) (zQi D cy bs N kd len (fun r st => r = ((aHv (rG Z q) (fun e => mHas (a) e) (fun x y : Nat => decide (X j x < X j y)) (Z q 27).toNat : Nat) : Int) ∧ st = (X, Y, R))) 0 0 (zA bs) := by
  refine zstart (by decide) (Nat.le_of_ble_eq_true rfl) ?_
  intro p e s m args below meth c ls C hE hH hr hlk hnm hl hargs
  have hF := hF hH.2.2.1 hH.2.2.2
  have hS : va_S (zA bs) s.heap s.heap [] := va_S.rf
  have hl : lv_has ls 5 [(0, .ref (bs + (i))), (1, .int (zI (a))), (2, .ref (bs + (j)))] := hl
  refine zd_iconst C dX1_heaviest_0 ?_
  refine lv_istore_n (lv' := [(3, .int (zI (0))), (0, .ref (bs + (i))), (1, .int (zI (a))), (2, .ref (bs + (j)))]) C.1 C.2.1 dX1_heaviest_1 rfl hl (by decide) rfl (fun ls hl => ?_)
  refine zd_iconst C dX1_heaviest_2 ?_
  refine lv_istore (lv' := [(4, .int (zI (1))), (3, .int (zI (0))), (0, .ref (bs + (i))), (1, .int (zI (a))), (2, .ref (bs + (j)))]) C.1 C.2.1 dX1_heaviest_3 hl (by decide) rfl (fun ls hl => ?_)
  obtain ⟨hI1, hF⟩ := hF
  have L1 : ∀ (fu : Nat) (u : Int) (k : Int), rI u → rI k → ((1 ≤ k ∧ k ≤ Z q 27) ∧ u = ((aHv (rG Z q) (fun e => mHas a e) (fun x y : Nat => decide (X j x < X j y)) (k).toNat : Nat) : Int)) → ((20 - (k)).toNat) < fu → ∀ (H : Heap) (locs : List Loc) (ls : Array Slot), zH D cy bs N kd len X Y R H → va_S (zA bs) s.heap H locs → lv_has ls 5 [(3, .int (zI (u))), (4, .int (zI (k))), (0, .ref (bs + (i))), (1, .int (zI (a))), (2, .ref (bs + (j)))] → W p l e (zRm 0 0) s m args below meth c H locs 0 0 (MQ below (zQi D cy bs N kd len (fun r st => r = ((aHv (rG Z q) (fun e => mHas (a) e) (fun x y : Nat => decide (X j x < X j y)) (Z q 27).toNat : Nat) : Int) ∧ st = (X, Y, R))) args s 0 0 (zA bs)) (F0 m 5 ls []) := by
    intro fu
    induction fu with
    | zero => intro u k _ _ _ hmu; exact absurd hmu (Nat.not_lt_zero _)
    | succ fu ih1 =>
      intro u k hu hk hI hmu1 H locs ls hH hS hl
      have hF := hF u k hu hk  hI
      refine lv_iload C.1 C.2.1 dX1_heaviest_5 (lv_at hl 1 rfl) ?_
      refine lv_aload_n C.1 C.2.1 dX1_heaviest_7 rfl (lv_at hl 2 rfl) ?_
      refine zg1_2 C hH (zChart_n0 hC) (zChart_k0 hC) q_396 dX1_heaviest_8 ?_
      refine zd_icmp_gt C hk (hH.2.2.1 _ _) 79 dX1_heaviest_11 (by decide) (fun c2 => ?_) (fun c2 => ?_)
      · have hF := hF.1 c2
        refine lv_iload_n C.1 C.2.1 dX1_heaviest_79 rfl (lv_at hl 0 rfl) ?_
        exact zd_iret C hr hlk hH hS hu (⟨hF, rfl⟩) dX1_heaviest_80
      · have hF := hF.2 c2
        refine lv_iload_n C.1 C.2.1 dX1_heaviest_14 rfl (lv_at hl 3 rfl) ?_
        refine lv_iload C.1 C.2.1 dX1_heaviest_15 (lv_at hl 1 rfl) ?_
        refine zd_ishr C dX1_heaviest_17 ?_
        refine zd_iconst C dX1_heaviest_18 ?_
        refine zd_iand C dX1_heaviest_19 ?_
        refine zd_if_eq C (zI_rg _) 73 dX1_heaviest_20 (by decide) (fun c3 => ?_) (fun c3 => ?_)
        · have hF := hF.1 c3
          refine zd_iinc (k := 1) (lv' := [(4, .int (zI (k + 1))), (3, .int (zI (u))), (0, .ref (bs + (i))), (1, .int (zI (a))), (2, .ref (bs + (j)))]) C hl rfl dX1_heaviest_73 (by decide) rfl (fun ls hl => ?_)
          refine lv_goto (tgt := 5) C.1 C.2.1 dX1_heaviest_76 (by decide) ?_
          obtain ⟨o4, hF⟩ := hF
          exact ih1 (u) (k + 1) hu o4 hF.1 (Nat.lt_of_lt_of_le hF.2 (Nat.le_of_lt_succ hmu1)) _ _ _ hH hS (lv_sub hl [1, 0, 2, 3, 4] rfl)
        · have hF := hF.2 c3
          refine lv_aload_n C.1 C.2.1 dX1_heaviest_23 rfl (lv_at hl 2 rfl) ?_
          refine zg1_8 C hH (zChart_n0 hC) (zChart_k0 hC) q_411 (zChart_r13 hC) dX1_heaviest_24 ?_
          refine lv_iload C.1 C.2.1 dX1_heaviest_27 (lv_at hl 1 rfl) ?_
          obtain ⟨o5, hF⟩ := hF
          refine zd_lald C hH (zChart_n13 hC) (zChart_k13 hC) o5.1 (by rw [zChart_l13 hC]; exact o5.2) (by rw [zChart_l13 hC]; decide) dX1_heaviest_29 ?_
          refine lv_aload_n C.1 C.2.1 dX1_heaviest_30 rfl (lv_at hl 2 rfl) ?_
          refine zg1_8 C hH (zChart_n0 hC) (zChart_k0 hC) q_411 (zChart_r13 hC) dX1_heaviest_31 ?_
          refine lv_iload_n C.1 C.2.1 dX1_heaviest_34 rfl (lv_at hl 0 rfl) ?_
          obtain ⟨o6, hF⟩ := hF
          refine zd_lald C hH (zChart_n13 hC) (zChart_k13 hC) o6.1 (by rw [zChart_l13 hC]; exact o6.2) (by rw [zChart_l13 hC]; decide) dX1_heaviest_35 ?_
          refine zd_lcmp C (hH.2.2.2 _ _) (hH.2.2.2 _ _) dX1_heaviest_36 ?_
          refine zd_ifL_ge C 43 dX1_heaviest_37 (by decide) (fun c7 => ?_) (fun c7 => ?_)
          · have hF := hF.1 c7
            refine lv_aload_n C.1 C.2.1 dX1_heaviest_43 rfl (lv_at hl 2 rfl) ?_
            refine zg1_8 C hH (zChart_n0 hC) (zChart_k0 hC) q_411 (zChart_r13 hC) dX1_heaviest_44 ?_
            refine lv_iload C.1 C.2.1 dX1_heaviest_47 (lv_at hl 1 rfl) ?_
            obtain ⟨o8, hF⟩ := hF
            refine zd_lald C hH (zChart_n13 hC) (zChart_k13 hC) o8.1 (by rw [zChart_l13 hC]; exact o8.2) (by rw [zChart_l13 hC]; decide) dX1_heaviest_49 ?_
            refine lv_aload_n C.1 C.2.1 dX1_heaviest_50 rfl (lv_at hl 2 rfl) ?_
            refine zg1_8 C hH (zChart_n0 hC) (zChart_k0 hC) q_411 (zChart_r13 hC) dX1_heaviest_51 ?_
            refine lv_iload_n C.1 C.2.1 dX1_heaviest_54 rfl (lv_at hl 0 rfl) ?_
            obtain ⟨o9, hF⟩ := hF
            refine zd_lald C hH (zChart_n13 hC) (zChart_k13 hC) o9.1 (by rw [zChart_l13 hC]; exact o9.2) (by rw [zChart_l13 hC]; decide) dX1_heaviest_55 ?_
            refine zd_lcmp C (hH.2.2.2 _ _) (hH.2.2.2 _ _) dX1_heaviest_56 ?_
            refine zd_ifL_gt C 70 dX1_heaviest_57 (by decide) (fun c10 => ?_) (fun c10 => ?_)
            · have hF := hF.1 c10
              refine lv_iload C.1 C.2.1 dX1_heaviest_70 (lv_at hl 1 rfl) ?_
              refine lv_istore_n (lv' := [(3, .int (zI (k))), (4, .int (zI (k))), (0, .ref (bs + (i))), (1, .int (zI (a))), (2, .ref (bs + (j)))]) C.1 C.2.1 dX1_heaviest_72 rfl hl (by decide) rfl (fun ls hl => ?_)
              refine zd_iinc (k := 1) (lv' := [(4, .int (zI (k + 1))), (3, .int (zI (k))), (0, .ref (bs + (i))), (1, .int (zI (a))), (2, .ref (bs + (j)))]) C hl rfl dX1_heaviest_73 (by decide) rfl (fun ls hl => ?_)
              refine lv_goto (tgt := 5) C.1 C.2.1 dX1_heaviest_76 (by decide) ?_
              obtain ⟨o11, hF⟩ := hF
              exact ih1 (k) (k + 1) hk o11 hF.1 (Nat.lt_of_lt_of_le hF.2 (Nat.le_of_lt_succ hmu1)) _ _ _ hH hS (lv_sub hl [1, 0, 2, 3, 4] rfl)
            · have hF := hF.2 c10
              refine lv_aload_n C.1 C.2.1 dX1_heaviest_60 rfl (lv_at hl 4 rfl) ?_
              refine lv_iload C.1 C.2.1 dX1_heaviest_61 (lv_at hl 1 rfl) ?_
              obtain ⟨o12, hF⟩ := hF
              refine zd_iald C hH hj.1 hj.2.1 o12.1 (by rw [hj.2.2]; exact o12.2) (by rw [hj.2.2]; decide) dX1_heaviest_63 ?_
              refine lv_aload_n C.1 C.2.1 dX1_heaviest_64 rfl (lv_at hl 4 rfl) ?_
              refine lv_iload_n C.1 C.2.1 dX1_heaviest_65 rfl (lv_at hl 0 rfl) ?_
              obtain ⟨o13, hF⟩ := hF
              refine zd_iald C hH hj.1 hj.2.1 o13.1 (by rw [hj.2.2]; exact o13.2) (by rw [hj.2.2]; decide) dX1_heaviest_66 ?_
              refine zd_icmp_ge C (hH.2.2.1 _ _) (hH.2.2.1 _ _) 73 dX1_heaviest_67 (by decide) (fun c14 => ?_) (fun c14 => ?_)
              · have hF := hF.1 c14
                refine zd_iinc (k := 1) (lv' := [(4, .int (zI (k + 1))), (3, .int (zI (u))), (0, .ref (bs + (i))), (1, .int (zI (a))), (2, .ref (bs + (j)))]) C hl rfl dX1_heaviest_73 (by decide) rfl (fun ls hl => ?_)
                refine lv_goto (tgt := 5) C.1 C.2.1 dX1_heaviest_76 (by decide) ?_
                obtain ⟨o15, hF⟩ := hF
                exact ih1 (u) (k + 1) hu o15 hF.1 (Nat.lt_of_lt_of_le hF.2 (Nat.le_of_lt_succ hmu1)) _ _ _ hH hS (lv_sub hl [1, 0, 2, 3, 4] rfl)
              · have hF := hF.2 c14
                refine lv_iload C.1 C.2.1 dX1_heaviest_70 (lv_at hl 1 rfl) ?_
                refine lv_istore_n (lv' := [(3, .int (zI (k))), (4, .int (zI (k))), (0, .ref (bs + (i))), (1, .int (zI (a))), (2, .ref (bs + (j)))]) C.1 C.2.1 dX1_heaviest_72 rfl hl (by decide) rfl (fun ls hl => ?_)
                refine zd_iinc (k := 1) (lv' := [(4, .int (zI (k + 1))), (3, .int (zI (k))), (0, .ref (bs + (i))), (1, .int (zI (a))), (2, .ref (bs + (j)))]) C hl rfl dX1_heaviest_73 (by decide) rfl (fun ls hl => ?_)
                refine lv_goto (tgt := 5) C.1 C.2.1 dX1_heaviest_76 (by decide) ?_
                obtain ⟨o16, hF⟩ := hF
                exact ih1 (k) (k + 1) hk o16 hF.1 (Nat.lt_of_lt_of_le hF.2 (Nat.le_of_lt_succ hmu1)) _ _ _ hH hS (lv_sub hl [1, 0, 2, 3, 4] rfl)
          · have hF := hF.2 c7
            refine lv_goto (tgt := 73) C.1 C.2.1 dX1_heaviest_40 (by decide) ?_
            refine zd_iinc (k := 1) (lv' := [(4, .int (zI (k + 1))), (3, .int (zI (u))), (0, .ref (bs + (i))), (1, .int (zI (a))), (2, .ref (bs + (j)))]) C hl rfl dX1_heaviest_73 (by decide) rfl (fun ls hl => ?_)
            refine lv_goto (tgt := 5) C.1 C.2.1 dX1_heaviest_76 (by decide) ?_
            obtain ⟨o17, hF⟩ := hF
            exact ih1 (u) (k + 1) hu o17 hF.1 (Nat.lt_of_lt_of_le hF.2 (Nat.le_of_lt_succ hmu1)) _ _ _ hH hS (lv_sub hl [1, 0, 2, 3, 4] rfl)
  exact L1 (((20 - ((1 : Int))).toNat) + 1) ((0 : Int)) ((1 : Int)) (by decide) (by decide) hI1 (Nat.lt_succ_self _) _ _ _ hH hS (lv_sub hl [1, 0, 2, 3, 4] rfl)
theorem v_X1_heaviest {X Y : Nat → Int → Int} {R : Nat → Int → Option Nat} {i : Nat} {Z : Nat → Int → Int} {q : Nat} {j : Nat} (a : Int) (ha : rI a) (hp : cA Z q X Y R i ∧ j ≠ i + 16 ∧ j ≠ i) : F_X1_heaviest i Z q j X Y R a := by
  unfold F_X1_heaviest
  intro hX hY
  obtain ⟨hq, hj⟩ := hp
  obtain ⟨l27, r27, e27⟩ := cA_l hq
  refine ⟨?_, ?_⟩
  · exact ⟨by omega, by rw [show (1 : Int).toNat = 1 from rfl, aHv_1]; rfl⟩
  intro u k
  intro _
  intro _
  intro h1
  obtain ⟨⟨k1, k2⟩, hr⟩ := h1
  obtain ⟨kn, rfl⟩ := nat_of (show 0 ≤ k by omega)
  have e0 : ((kn : Nat) : Int).toNat = kn := by omega
  rw [e0] at hr
  have ub := aHv_b (wt := rG Z q) (w := fun e => mHas a e) (ah := (fun x y : Nat => decide (X j x < X j y))) kn
  refine ⟨?_, ?_⟩
  · intro c1
    rw [show Z q 27 = kn by omega, e0]
    exact hr
  intro c2
  have kl : (kn : Int) < Z q 27 := by omega
  have es : ((kn : Int) + 1).toNat = kn + 1 := by omega
  have hg1 := (cA_W hq kl).2
  have hg2 := (cA_W hq (k := (aHv (rG Z q) (fun e => mHas a e) (fun x y : Nat => decide (X j x < X j y)) kn)) (by omega)).2
  refine ⟨?_, ?_⟩
  · intro c3
    have c3 := has_0.mpr c3
    refine ⟨?_, ?_⟩
    · first | omega | exact ⟨by omega, by omega⟩ | decide | assumption | exact ⟨by omega, by omega, by omega⟩ | exact ⟨by decide, by decide⟩
    refine ⟨?_, ?_⟩
    · exact ⟨by omega, by rw [es, hr, aHv_n (show (mHas a kn && (decide (rG Z q (aHv (rG Z q) (fun e => mHas a e) (fun x y : Nat => decide (X j x < X j y)) kn) < rG Z q kn) || (decide (rG Z q kn = rG Z q (aHv (rG Z q) (fun e => mHas a e) (fun x y : Nat => decide (X j x < X j y)) kn)) && decide (X j kn < X j (aHv (rG Z q) (fun e => mHas a e) (fun x y : Nat => decide (X j x < X j y)) kn : Nat))))) = false from by rw [c3]; rfl)]⟩
    first | omega | exact ⟨by omega, by omega⟩ | decide | assumption | exact ⟨by omega, by omega, by omega⟩ | exact ⟨by decide, by decide⟩
  intro c4
  have c4 := has_1.mpr c4
  rw [hr, hg1, hg2]
  refine ⟨?_, ?_⟩
  · first | omega | exact ⟨by omega, by omega⟩ | decide | assumption | exact ⟨by omega, by omega, by omega⟩ | exact ⟨by decide, by decide⟩
  refine ⟨?_, ?_⟩
  · first | omega | exact ⟨by omega, by omega⟩ | decide | assumption | exact ⟨by omega, by omega, by omega⟩ | exact ⟨by decide, by decide⟩
  refine ⟨?_, ?_⟩
  · intro c5
    refine ⟨?_, ?_⟩
    · first | omega | exact ⟨by omega, by omega⟩ | decide | assumption | exact ⟨by omega, by omega, by omega⟩ | exact ⟨by decide, by decide⟩
    refine ⟨?_, ?_⟩
    · first | omega | exact ⟨by omega, by omega⟩ | decide | assumption | exact ⟨by omega, by omega, by omega⟩ | exact ⟨by decide, by decide⟩
    refine ⟨?_, ?_⟩
    · intro c6
      refine ⟨?_, ?_⟩
      · first | omega | exact ⟨by omega, by omega⟩ | decide | assumption | exact ⟨by omega, by omega, by omega⟩ | exact ⟨by decide, by decide⟩
      refine ⟨?_, ?_⟩
      · exact ⟨by omega, by rw [es, aHv_y (show (mHas a kn && (decide (rG Z q (aHv (rG Z q) (fun e => mHas a e) (fun x y : Nat => decide (X j x < X j y)) kn) < rG Z q kn) || (decide (rG Z q kn = rG Z q (aHv (rG Z q) (fun e => mHas a e) (fun x y : Nat => decide (X j x < X j y)) kn)) && decide (X j kn < X j (aHv (rG Z q) (fun e => mHas a e) (fun x y : Nat => decide (X j x < X j y)) kn : Nat))))) = true from by rw [c4, decide_eq_true c6]; rfl)]⟩
      first | omega | exact ⟨by omega, by omega⟩ | decide | assumption | exact ⟨by omega, by omega, by omega⟩ | exact ⟨by decide, by decide⟩
    intro c7
    refine ⟨?_, ?_⟩
    · first | omega | exact ⟨by omega, by omega⟩ | decide | assumption | exact ⟨by omega, by omega, by omega⟩ | exact ⟨by decide, by decide⟩
    refine ⟨?_, ?_⟩
    · first | omega | exact ⟨by omega, by omega⟩ | decide | assumption | exact ⟨by omega, by omega, by omega⟩ | exact ⟨by decide, by decide⟩
    refine ⟨?_, ?_⟩
    · intro c8
      refine ⟨?_, ?_⟩
      · first | omega | exact ⟨by omega, by omega⟩ | decide | assumption | exact ⟨by omega, by omega, by omega⟩ | exact ⟨by decide, by decide⟩
      refine ⟨?_, ?_⟩
      · exact ⟨by omega, by rw [es, aHv_n (show (mHas a kn && (decide (rG Z q (aHv (rG Z q) (fun e => mHas a e) (fun x y : Nat => decide (X j x < X j y)) kn) < rG Z q kn) || (decide (rG Z q kn = rG Z q (aHv (rG Z q) (fun e => mHas a e) (fun x y : Nat => decide (X j x < X j y)) kn)) && decide (X j kn < X j (aHv (rG Z q) (fun e => mHas a e) (fun x y : Nat => decide (X j x < X j y)) kn : Nat))))) = false from by rw [decide_eq_false c7, decide_eq_false (show ¬ (X j kn < X j (aHv (rG Z q) (fun e => mHas a e) (fun x y : Nat => decide (X j x < X j y)) kn : Nat)) by omega), Bool.and_false, Bool.or_false, Bool.and_false])]⟩
      first | omega | exact ⟨by omega, by omega⟩ | decide | assumption | exact ⟨by omega, by omega, by omega⟩ | exact ⟨by decide, by decide⟩
    intro c9
    refine ⟨?_, ?_⟩
    · first | omega | exact ⟨by omega, by omega⟩ | decide | assumption | exact ⟨by omega, by omega, by omega⟩ | exact ⟨by decide, by decide⟩
    refine ⟨?_, ?_⟩
    · exact ⟨by omega, by rw [es, aHv_y (show (mHas a kn && (decide (rG Z q (aHv (rG Z q) (fun e => mHas a e) (fun x y : Nat => decide (X j x < X j y)) kn) < rG Z q kn) || (decide (rG Z q kn = rG Z q (aHv (rG Z q) (fun e => mHas a e) (fun x y : Nat => decide (X j x < X j y)) kn)) && decide (X j kn < X j (aHv (rG Z q) (fun e => mHas a e) (fun x y : Nat => decide (X j x < X j y)) kn : Nat))))) = true from by rw [c4, decide_eq_true (show rG Z q kn = rG Z q (aHv (rG Z q) (fun e => mHas a e) (fun x y : Nat => decide (X j x < X j y)) kn) by omega), decide_eq_true (show X j kn < X j (aHv (rG Z q) (fun e => mHas a e) (fun x y : Nat => decide (X j x < X j y)) kn : Nat) by omega), Bool.and_true, Bool.or_true]; rfl)]⟩
    first | omega | exact ⟨by omega, by omega⟩ | decide | assumption | exact ⟨by omega, by omega, by omega⟩ | exact ⟨by decide, by decide⟩
  intro c10
  refine ⟨?_, ?_⟩
  · first | omega | exact ⟨by omega, by omega⟩ | decide | assumption | exact ⟨by omega, by omega, by omega⟩ | exact ⟨by decide, by decide⟩
  refine ⟨?_, ?_⟩
  · exact ⟨by omega, by rw [es, aHv_n (show (mHas a kn && (decide (rG Z q (aHv (rG Z q) (fun e => mHas a e) (fun x y : Nat => decide (X j x < X j y)) kn) < rG Z q kn) || (decide (rG Z q kn = rG Z q (aHv (rG Z q) (fun e => mHas a e) (fun x y : Nat => decide (X j x < X j y)) kn)) && decide (X j kn < X j (aHv (rG Z q) (fun e => mHas a e) (fun x y : Nat => decide (X j x < X j y)) kn : Nat))))) = false from by rw [decide_eq_false (show ¬ rG Z q (aHv (rG Z q) (fun e => mHas a e) (fun x y : Nat => decide (X j x < X j y)) kn) < rG Z q kn by omega), decide_eq_false (show ¬ rG Z q kn = rG Z q (aHv (rG Z q) (fun e => mHas a e) (fun x y : Nat => decide (X j x < X j y)) kn) by omega)]; exact Bool.and_false _)]⟩
  first | omega | exact ⟨by omega, by omega⟩ | decide | assumption | exact ⟨by omega, by omega, by omega⟩ | exact ⟨by decide, by decide⟩
theorem c_X1_heaviest {l : Launch} {D : va_G} {cy : Nat → ClassId} {bs N : Nat} {sa : Nat → Nat} {kd len : Nat → Nat} {X Y : Nat → Int → Int} {R : Nat → Int → Option Nat} {i : Nat} {Z : Nat → Int → Int} {q : Nat} (hC : zChart N kd len R i) {j : Nat} (hj : j < N ∧ kd j = 13 ∧ len j = 15) (a : Int) (ha : rI a) (hp : cA Z q X Y R i ∧ j ≠ i + 16 ∧ j ≠ i) : Met l yX1_heaviest (.code yX1_heaviest cX1_heaviest 5 (some .int) :: zTB) (zRm 0 0) (zPc D cy bs sa N kd len X Y R [.ref (bs + (i)), .int (zI (a)), .ref (bs + (j))]) (zQi D cy bs N kd len (fun r st => r = ((aHv (rG Z q) (fun e => mHas (a) e) (fun x y : Nat => decide (X j x < X j y)) (Z q 27).toNat : Nat) : Int) ∧ st = (X, Y, R))) 0 0 (zA bs) := w_X1_heaviest hC hj a ha (v_X1_heaviest a ha hp)
def F_X1_heaviestS (i : Nat) (Z : Nat → Int → Int) (q : Nat) (X Y : Nat → Int → Int) (R : Nat → Int → Option Nat) (a : Int) : Prop := (∀ i j, rI (X i j)) → (∀ i j, rL (Y i j)) → ((1 ≤ (1 : Int) ∧ (1 : Int) ≤ Z q 27) ∧ (0 : Int) = ((aHv (rG Z q) (fun e => mHas a e) (fun x y : Nat => decide (x < y)) ((1 : Int)).toNat : Nat) : Int)) ∧ (∀ (u : Int) (k : Int), rI u → rI k → ((1 ≤ k ∧ k ≤ Z q 27) ∧ u = ((aHv (rG Z q) (fun e => mHas a e) (fun x y : Nat => decide (x < y)) (k).toNat : Nat) : Int)) → ((((X (i) 2) < k) → (u = ((aHv (rG Z q) (fun e => mHas (a) e) (fun x y : Nat => decide (x < y)) (Z q 27).toNat : Nat) : Int))) ∧ ((¬ ((X (i) 2) < k)) → ((((zAnd (zShr (a) (k)) (1)) = 0) → ((rI (k + 1)) ∧ ((1 ≤ (k + 1) ∧ (k + 1) ≤ Z q 27) ∧ u = ((aHv (rG Z q) (fun e => mHas a e) (fun x y : Nat => decide (x < y)) ((k + 1)).toNat : Nat) : Int)) ∧ (((20 - (k + 1)).toNat) < ((20 - (k)).toNat)))) ∧ ((¬ ((zAnd (zShr (a) (k)) (1)) = 0)) → ((0 ≤ k ∧ k < 15) ∧ ((0 ≤ u ∧ u < 15) ∧ ((((Y (i + 13) (u)) ≤ (Y (i + 13) (k))) → ((0 ≤ k ∧ k < 15) ∧ ((0 ≤ u ∧ u < 15) ∧ ((((Y (i + 13) (u)) < (Y (i + 13) (k))) → ((rI (k + 1)) ∧ ((1 ≤ (k + 1) ∧ (k + 1) ≤ Z q 27) ∧ k = ((aHv (rG Z q) (fun e => mHas a e) (fun x y : Nat => decide (x < y)) ((k + 1)).toNat : Nat) : Int)) ∧ (((20 - (k + 1)).toNat) < ((20 - (k)).toNat)))) ∧ ((¬ ((Y (i + 13) (u)) < (Y (i + 13) (k)))) → ((0 ≤ k ∧ k < 15) ∧ ((0 ≤ u ∧ u < 15) ∧ (((u ≤ k) → ((rI (k + 1)) ∧ ((1 ≤ (k + 1) ∧ (k + 1) ≤ Z q 27) ∧ u = ((aHv (rG Z q) (fun e => mHas a e) (fun x y : Nat => decide (x < y)) ((k + 1)).toNat : Nat) : Int)) ∧ (((20 - (k + 1)).toNat) < ((20 - (k)).toNat)))) ∧ ((¬ (u ≤ k)) → ((rI (k + 1)) ∧ ((1 ≤ (k + 1) ∧ (k + 1) ≤ Z q 27) ∧ k = ((aHv (rG Z q) (fun e => mHas a e) (fun x y : Nat => decide (x < y)) ((k + 1)).toNat : Nat) : Int)) ∧ (((20 - (k + 1)).toNat) < ((20 - (k)).toNat)))))))))))) ∧ ((¬ ((Y (i + 13) (u)) ≤ (Y (i + 13) (k)))) → ((rI (k + 1)) ∧ ((1 ≤ (k + 1) ∧ (k + 1) ≤ Z q 27) ∧ u = ((aHv (rG Z q) (fun e => mHas a e) (fun x y : Nat => decide (x < y)) ((k + 1)).toNat : Nat) : Int)) ∧ (((20 - (k + 1)).toNat) < ((20 - (k)).toNat))))))))))))
set_option maxHeartbeats 4000000 in
set_option maxRecDepth 100000 in
theorem w_X1_heaviestS {l : Launch} {D : va_G} {cy : Nat → ClassId} {bs N : Nat} {sa : Nat → Nat} {kd len : Nat → Nat} {X Y : Nat → Int → Int} {R : Nat → Int → Option Nat} {i : Nat} {Z : Nat → Int → Int} {q : Nat} (hC : zChart N kd len R i) (a : Int) (ha : rI a) (hF : F_X1_heaviestS i Z q X Y R a) : Met l yX1_heaviest (.code yX1_heaviest cX1_heaviest 5 (some .int) :: zTB) (zRm 0 0) (zPc D cy bs sa N kd len X Y R [.ref (bs + (i)), .int (zI (a)), .ref (sa 0)]) (zQi D cy bs N kd len (fun r st => r = ((aHv (rG Z q) (fun e => mHas (a) e) (fun x y : Nat => decide (x < y)) (Z q 27).toNat : Nat) : Int) ∧ st = (X, Y, R))) 0 0 (zA bs) := by
  refine zstart (by decide) (Nat.le_of_ble_eq_true rfl) ?_
  intro p e s m args below meth c ls C hE hH hr hlk hnm hl hargs
  have hF := hF hH.2.2.1 hH.2.2.2
  have hS : va_S (zA bs) s.heap s.heap [] := va_S.rf
  have hl : lv_has ls 5 [(0, .ref (bs + (i))), (1, .int (zI (a))), (2, .ref (sa 0))] := hl
  refine zd_iconst C dX1_heaviest_0 ?_
  refine lv_istore_n (lv' := [(3, .int (zI (0))), (0, .ref (bs + (i))), (1, .int (zI (a))), (2, .ref (sa 0))]) C.1 C.2.1 dX1_heaviest_1 rfl hl (by decide) rfl (fun ls hl => ?_)
  refine zd_iconst C dX1_heaviest_2 ?_
  refine lv_istore (lv' := [(4, .int (zI (1))), (3, .int (zI (0))), (0, .ref (bs + (i))), (1, .int (zI (a))), (2, .ref (sa 0))]) C.1 C.2.1 dX1_heaviest_3 hl (by decide) rfl (fun ls hl => ?_)
  obtain ⟨hI1, hF⟩ := hF
  have L1 : ∀ (fu : Nat) (u : Int) (k : Int), rI u → rI k → ((1 ≤ k ∧ k ≤ Z q 27) ∧ u = ((aHv (rG Z q) (fun e => mHas a e) (fun x y : Nat => decide (x < y)) (k).toNat : Nat) : Int)) → ((20 - (k)).toNat) < fu → ∀ (H : Heap) (locs : List Loc) (ls : Array Slot), zH D cy bs N kd len X Y R H → va_S (zA bs) s.heap H locs → lv_has ls 5 [(3, .int (zI (u))), (4, .int (zI (k))), (0, .ref (bs + (i))), (1, .int (zI (a))), (2, .ref (sa 0))] → W p l e (zRm 0 0) s m args below meth c H locs 0 0 (MQ below (zQi D cy bs N kd len (fun r st => r = ((aHv (rG Z q) (fun e => mHas (a) e) (fun x y : Nat => decide (x < y)) (Z q 27).toNat : Nat) : Int) ∧ st = (X, Y, R))) args s 0 0 (zA bs)) (F0 m 5 ls []) := by
    intro fu
    induction fu with
    | zero => intro u k _ _ _ hmu; exact absurd hmu (Nat.not_lt_zero _)
    | succ fu ih1 =>
      intro u k hu hk hI hmu1 H locs ls hH hS hl
      have hF := hF u k hu hk  hI
      refine lv_iload C.1 C.2.1 dX1_heaviest_5 (lv_at hl 1 rfl) ?_
      refine lv_aload_n C.1 C.2.1 dX1_heaviest_7 rfl (lv_at hl 2 rfl) ?_
      refine zg1_2 C hH (zChart_n0 hC) (zChart_k0 hC) q_396 dX1_heaviest_8 ?_
      refine zd_icmp_gt C hk (hH.2.2.1 _ _) 79 dX1_heaviest_11 (by decide) (fun c2 => ?_) (fun c2 => ?_)
      · have hF := hF.1 c2
        refine lv_iload_n C.1 C.2.1 dX1_heaviest_79 rfl (lv_at hl 0 rfl) ?_
        exact zd_iret C hr hlk hH hS hu (⟨hF, rfl⟩) dX1_heaviest_80
      · have hF := hF.2 c2
        refine lv_iload_n C.1 C.2.1 dX1_heaviest_14 rfl (lv_at hl 3 rfl) ?_
        refine lv_iload C.1 C.2.1 dX1_heaviest_15 (lv_at hl 1 rfl) ?_
        refine zd_ishr C dX1_heaviest_17 ?_
        refine zd_iconst C dX1_heaviest_18 ?_
        refine zd_iand C dX1_heaviest_19 ?_
        refine zd_if_eq C (zI_rg _) 73 dX1_heaviest_20 (by decide) (fun c3 => ?_) (fun c3 => ?_)
        · have hF := hF.1 c3
          refine zd_iinc (k := 1) (lv' := [(4, .int (zI (k + 1))), (3, .int (zI (u))), (0, .ref (bs + (i))), (1, .int (zI (a))), (2, .ref (sa 0))]) C hl rfl dX1_heaviest_73 (by decide) rfl (fun ls hl => ?_)
          refine lv_goto (tgt := 5) C.1 C.2.1 dX1_heaviest_76 (by decide) ?_
          obtain ⟨o4, hF⟩ := hF
          exact ih1 (u) (k + 1) hu o4 hF.1 (Nat.lt_of_lt_of_le hF.2 (Nat.le_of_lt_succ hmu1)) _ _ _ hH hS (lv_sub hl [1, 0, 2, 3, 4] rfl)
        · have hF := hF.2 c3
          refine lv_aload_n C.1 C.2.1 dX1_heaviest_23 rfl (lv_at hl 2 rfl) ?_
          refine zg1_8 C hH (zChart_n0 hC) (zChart_k0 hC) q_411 (zChart_r13 hC) dX1_heaviest_24 ?_
          refine lv_iload C.1 C.2.1 dX1_heaviest_27 (lv_at hl 1 rfl) ?_
          obtain ⟨o5, hF⟩ := hF
          refine zd_lald C hH (zChart_n13 hC) (zChart_k13 hC) o5.1 (by rw [zChart_l13 hC]; exact o5.2) (by rw [zChart_l13 hC]; decide) dX1_heaviest_29 ?_
          refine lv_aload_n C.1 C.2.1 dX1_heaviest_30 rfl (lv_at hl 2 rfl) ?_
          refine zg1_8 C hH (zChart_n0 hC) (zChart_k0 hC) q_411 (zChart_r13 hC) dX1_heaviest_31 ?_
          refine lv_iload_n C.1 C.2.1 dX1_heaviest_34 rfl (lv_at hl 0 rfl) ?_
          obtain ⟨o6, hF⟩ := hF
          refine zd_lald C hH (zChart_n13 hC) (zChart_k13 hC) o6.1 (by rw [zChart_l13 hC]; exact o6.2) (by rw [zChart_l13 hC]; decide) dX1_heaviest_35 ?_
          refine zd_lcmp C (hH.2.2.2 _ _) (hH.2.2.2 _ _) dX1_heaviest_36 ?_
          refine zd_ifL_ge C 43 dX1_heaviest_37 (by decide) (fun c7 => ?_) (fun c7 => ?_)
          · have hF := hF.1 c7
            refine lv_aload_n C.1 C.2.1 dX1_heaviest_43 rfl (lv_at hl 2 rfl) ?_
            refine zg1_8 C hH (zChart_n0 hC) (zChart_k0 hC) q_411 (zChart_r13 hC) dX1_heaviest_44 ?_
            refine lv_iload C.1 C.2.1 dX1_heaviest_47 (lv_at hl 1 rfl) ?_
            obtain ⟨o8, hF⟩ := hF
            refine zd_lald C hH (zChart_n13 hC) (zChart_k13 hC) o8.1 (by rw [zChart_l13 hC]; exact o8.2) (by rw [zChart_l13 hC]; decide) dX1_heaviest_49 ?_
            refine lv_aload_n C.1 C.2.1 dX1_heaviest_50 rfl (lv_at hl 2 rfl) ?_
            refine zg1_8 C hH (zChart_n0 hC) (zChart_k0 hC) q_411 (zChart_r13 hC) dX1_heaviest_51 ?_
            refine lv_iload_n C.1 C.2.1 dX1_heaviest_54 rfl (lv_at hl 0 rfl) ?_
            obtain ⟨o9, hF⟩ := hF
            refine zd_lald C hH (zChart_n13 hC) (zChart_k13 hC) o9.1 (by rw [zChart_l13 hC]; exact o9.2) (by rw [zChart_l13 hC]; decide) dX1_heaviest_55 ?_
            refine zd_lcmp C (hH.2.2.2 _ _) (hH.2.2.2 _ _) dX1_heaviest_56 ?_
            refine zd_ifL_gt C 70 dX1_heaviest_57 (by decide) (fun c10 => ?_) (fun c10 => ?_)
            · have hF := hF.1 c10
              refine lv_iload C.1 C.2.1 dX1_heaviest_70 (lv_at hl 1 rfl) ?_
              refine lv_istore_n (lv' := [(3, .int (zI (k))), (4, .int (zI (k))), (0, .ref (bs + (i))), (1, .int (zI (a))), (2, .ref (sa 0))]) C.1 C.2.1 dX1_heaviest_72 rfl hl (by decide) rfl (fun ls hl => ?_)
              refine zd_iinc (k := 1) (lv' := [(4, .int (zI (k + 1))), (3, .int (zI (k))), (0, .ref (bs + (i))), (1, .int (zI (a))), (2, .ref (sa 0))]) C hl rfl dX1_heaviest_73 (by decide) rfl (fun ls hl => ?_)
              refine lv_goto (tgt := 5) C.1 C.2.1 dX1_heaviest_76 (by decide) ?_
              obtain ⟨o11, hF⟩ := hF
              exact ih1 (k) (k + 1) hk o11 hF.1 (Nat.lt_of_lt_of_le hF.2 (Nat.le_of_lt_succ hmu1)) _ _ _ hH hS (lv_sub hl [1, 0, 2, 3, 4] rfl)
            · have hF := hF.2 c10
              refine lv_aload_n C.1 C.2.1 dX1_heaviest_60 rfl (lv_at hl 4 rfl) ?_
              refine lv_iload C.1 C.2.1 dX1_heaviest_61 (lv_at hl 1 rfl) ?_
              obtain ⟨o12, hF⟩ := hF
              refine zd_taldN C hS hE.2.2.1.1 o12.1 o12.2 (by decide) dX1_heaviest_63 ?_
              refine lv_aload_n C.1 C.2.1 dX1_heaviest_64 rfl (lv_at hl 4 rfl) ?_
              refine lv_iload_n C.1 C.2.1 dX1_heaviest_65 rfl (lv_at hl 0 rfl) ?_
              obtain ⟨o13, hF⟩ := hF
              refine zd_taldN C hS hE.2.2.1.1 o13.1 o13.2 (by decide) dX1_heaviest_66 ?_
              refine zd_icmp_ge C (show rI _ from ⟨Int.le_trans (by decide) o12.1, Int.le_trans (Int.le_of_lt o12.2) (by decide)⟩) (show rI _ from ⟨Int.le_trans (by decide) o13.1, Int.le_trans (Int.le_of_lt o13.2) (by decide)⟩) 73 dX1_heaviest_67 (by decide) (fun c14 => ?_) (fun c14 => ?_)
              · have hF := hF.1 c14
                refine zd_iinc (k := 1) (lv' := [(4, .int (zI (k + 1))), (3, .int (zI (u))), (0, .ref (bs + (i))), (1, .int (zI (a))), (2, .ref (sa 0))]) C hl rfl dX1_heaviest_73 (by decide) rfl (fun ls hl => ?_)
                refine lv_goto (tgt := 5) C.1 C.2.1 dX1_heaviest_76 (by decide) ?_
                obtain ⟨o15, hF⟩ := hF
                exact ih1 (u) (k + 1) (show rI _ from ⟨Int.le_trans (by decide) o13.1, Int.le_trans (Int.le_of_lt o13.2) (by decide)⟩) o15 hF.1 (Nat.lt_of_lt_of_le hF.2 (Nat.le_of_lt_succ hmu1)) _ _ _ hH hS (lv_sub hl [1, 0, 2, 3, 4] rfl)
              · have hF := hF.2 c14
                refine lv_iload C.1 C.2.1 dX1_heaviest_70 (lv_at hl 1 rfl) ?_
                refine lv_istore_n (lv' := [(3, .int (zI (k))), (4, .int (zI (k))), (0, .ref (bs + (i))), (1, .int (zI (a))), (2, .ref (sa 0))]) C.1 C.2.1 dX1_heaviest_72 rfl hl (by decide) rfl (fun ls hl => ?_)
                refine zd_iinc (k := 1) (lv' := [(4, .int (zI (k + 1))), (3, .int (zI (k))), (0, .ref (bs + (i))), (1, .int (zI (a))), (2, .ref (sa 0))]) C hl rfl dX1_heaviest_73 (by decide) rfl (fun ls hl => ?_)
                refine lv_goto (tgt := 5) C.1 C.2.1 dX1_heaviest_76 (by decide) ?_
                obtain ⟨o16, hF⟩ := hF
                exact ih1 (k) (k + 1) (show rI _ from ⟨Int.le_trans (by decide) o12.1, Int.le_trans (Int.le_of_lt o12.2) (by decide)⟩) o16 hF.1 (Nat.lt_of_lt_of_le hF.2 (Nat.le_of_lt_succ hmu1)) _ _ _ hH hS (lv_sub hl [1, 0, 2, 3, 4] rfl)
          · have hF := hF.2 c7
            refine lv_goto (tgt := 73) C.1 C.2.1 dX1_heaviest_40 (by decide) ?_
            refine zd_iinc (k := 1) (lv' := [(4, .int (zI (k + 1))), (3, .int (zI (u))), (0, .ref (bs + (i))), (1, .int (zI (a))), (2, .ref (sa 0))]) C hl rfl dX1_heaviest_73 (by decide) rfl (fun ls hl => ?_)
            refine lv_goto (tgt := 5) C.1 C.2.1 dX1_heaviest_76 (by decide) ?_
            obtain ⟨o17, hF⟩ := hF
            exact ih1 (u) (k + 1) hu o17 hF.1 (Nat.lt_of_lt_of_le hF.2 (Nat.le_of_lt_succ hmu1)) _ _ _ hH hS (lv_sub hl [1, 0, 2, 3, 4] rfl)
  exact L1 (((20 - ((1 : Int))).toNat) + 1) ((0 : Int)) ((1 : Int)) (by decide) (by decide) hI1 (Nat.lt_succ_self _) _ _ _ hH hS (lv_sub hl [1, 0, 2, 3, 4] rfl)
theorem v_X1_heaviestS {X Y : Nat → Int → Int} {R : Nat → Int → Option Nat} {i : Nat} {Z : Nat → Int → Int} {q : Nat} (a : Int) (ha : rI a) (hp : cA Z q X Y R i) : F_X1_heaviestS i Z q X Y R a := by
  unfold F_X1_heaviestS
  intro hX hY
  have hq := hp
  obtain ⟨l27, r27, e27⟩ := cA_l hq
  refine ⟨?_, ?_⟩
  · exact ⟨by omega, by rw [show (1 : Int).toNat = 1 from rfl, aHv_1]; rfl⟩
  intro u k
  intro _
  intro _
  intro h1
  obtain ⟨⟨k1, k2⟩, hr⟩ := h1
  obtain ⟨kn, rfl⟩ := nat_of (show 0 ≤ k by omega)
  have e0 : ((kn : Nat) : Int).toNat = kn := by omega
  rw [e0] at hr
  have ub := aHv_b (wt := rG Z q) (w := fun e => mHas a e) (ah := (fun x y : Nat => decide (x < y))) kn
  refine ⟨?_, ?_⟩
  · intro c1
    rw [show Z q 27 = kn by omega, e0]
    exact hr
  intro c2
  have kl : (kn : Int) < Z q 27 := by omega
  have es : ((kn : Int) + 1).toNat = kn + 1 := by omega
  have hg1 := (cA_W hq kl).2
  have hg2 := (cA_W hq (k := (aHv (rG Z q) (fun e => mHas a e) (fun x y : Nat => decide (x < y)) kn)) (by omega)).2
  refine ⟨?_, ?_⟩
  · intro c3
    have c3 := has_0.mpr c3
    refine ⟨?_, ?_⟩
    · first | omega | exact ⟨by omega, by omega⟩ | decide | assumption | exact ⟨by omega, by omega, by omega⟩ | exact ⟨by decide, by decide⟩
    refine ⟨?_, ?_⟩
    · exact ⟨by omega, by rw [es, hr, aHv_n (show (mHas a kn && (decide (rG Z q (aHv (rG Z q) (fun e => mHas a e) (fun x y : Nat => decide (x < y)) kn) < rG Z q kn) || (decide (rG Z q kn = rG Z q (aHv (rG Z q) (fun e => mHas a e) (fun x y : Nat => decide (x < y)) kn)) && decide (kn < aHv (rG Z q) (fun e => mHas a e) (fun x y : Nat => decide (x < y)) kn)))) = false from by rw [c3]; rfl)]⟩
    first | omega | exact ⟨by omega, by omega⟩ | decide | assumption | exact ⟨by omega, by omega, by omega⟩ | exact ⟨by decide, by decide⟩
  intro c4
  have c4 := has_1.mpr c4
  rw [hr, hg1, hg2]
  refine ⟨?_, ?_⟩
  · first | omega | exact ⟨by omega, by omega⟩ | decide | assumption | exact ⟨by omega, by omega, by omega⟩ | exact ⟨by decide, by decide⟩
  refine ⟨?_, ?_⟩
  · first | omega | exact ⟨by omega, by omega⟩ | decide | assumption | exact ⟨by omega, by omega, by omega⟩ | exact ⟨by decide, by decide⟩
  refine ⟨?_, ?_⟩
  · intro c5
    refine ⟨?_, ?_⟩
    · first | omega | exact ⟨by omega, by omega⟩ | decide | assumption | exact ⟨by omega, by omega, by omega⟩ | exact ⟨by decide, by decide⟩
    refine ⟨?_, ?_⟩
    · first | omega | exact ⟨by omega, by omega⟩ | decide | assumption | exact ⟨by omega, by omega, by omega⟩ | exact ⟨by decide, by decide⟩
    refine ⟨?_, ?_⟩
    · intro c6
      refine ⟨?_, ?_⟩
      · first | omega | exact ⟨by omega, by omega⟩ | decide | assumption | exact ⟨by omega, by omega, by omega⟩ | exact ⟨by decide, by decide⟩
      refine ⟨?_, ?_⟩
      · exact ⟨by omega, by rw [es, aHv_y (show (mHas a kn && (decide (rG Z q (aHv (rG Z q) (fun e => mHas a e) (fun x y : Nat => decide (x < y)) kn) < rG Z q kn) || (decide (rG Z q kn = rG Z q (aHv (rG Z q) (fun e => mHas a e) (fun x y : Nat => decide (x < y)) kn)) && decide (kn < aHv (rG Z q) (fun e => mHas a e) (fun x y : Nat => decide (x < y)) kn)))) = true from by rw [c4, decide_eq_true c6]; rfl)]⟩
      first | omega | exact ⟨by omega, by omega⟩ | decide | assumption | exact ⟨by omega, by omega, by omega⟩ | exact ⟨by decide, by decide⟩
    intro c7
    refine ⟨?_, ?_⟩
    · first | omega | exact ⟨by omega, by omega⟩ | decide | assumption | exact ⟨by omega, by omega, by omega⟩ | exact ⟨by decide, by decide⟩
    refine ⟨?_, ?_⟩
    · first | omega | exact ⟨by omega, by omega⟩ | decide | assumption | exact ⟨by omega, by omega, by omega⟩ | exact ⟨by decide, by decide⟩
    refine ⟨?_, ?_⟩
    · intro c8
      refine ⟨?_, ?_⟩
      · first | omega | exact ⟨by omega, by omega⟩ | decide | assumption | exact ⟨by omega, by omega, by omega⟩ | exact ⟨by decide, by decide⟩
      refine ⟨?_, ?_⟩
      · exact ⟨by omega, by rw [es, aHv_n (show (mHas a kn && (decide (rG Z q (aHv (rG Z q) (fun e => mHas a e) (fun x y : Nat => decide (x < y)) kn) < rG Z q kn) || (decide (rG Z q kn = rG Z q (aHv (rG Z q) (fun e => mHas a e) (fun x y : Nat => decide (x < y)) kn)) && decide (kn < aHv (rG Z q) (fun e => mHas a e) (fun x y : Nat => decide (x < y)) kn)))) = false from by rw [decide_eq_false c7, decide_eq_false (show ¬ (kn < aHv (rG Z q) (fun e => mHas a e) (fun x y : Nat => decide (x < y)) kn) by omega), Bool.and_false, Bool.or_false, Bool.and_false])]⟩
      first | omega | exact ⟨by omega, by omega⟩ | decide | assumption | exact ⟨by omega, by omega, by omega⟩ | exact ⟨by decide, by decide⟩
    intro c9
    refine ⟨?_, ?_⟩
    · first | omega | exact ⟨by omega, by omega⟩ | decide | assumption | exact ⟨by omega, by omega, by omega⟩ | exact ⟨by decide, by decide⟩
    refine ⟨?_, ?_⟩
    · exact ⟨by omega, by rw [es, aHv_y (show (mHas a kn && (decide (rG Z q (aHv (rG Z q) (fun e => mHas a e) (fun x y : Nat => decide (x < y)) kn) < rG Z q kn) || (decide (rG Z q kn = rG Z q (aHv (rG Z q) (fun e => mHas a e) (fun x y : Nat => decide (x < y)) kn)) && decide (kn < aHv (rG Z q) (fun e => mHas a e) (fun x y : Nat => decide (x < y)) kn)))) = true from by rw [c4, decide_eq_true (show rG Z q kn = rG Z q (aHv (rG Z q) (fun e => mHas a e) (fun x y : Nat => decide (x < y)) kn) by omega), decide_eq_true (show kn < aHv (rG Z q) (fun e => mHas a e) (fun x y : Nat => decide (x < y)) kn by omega), Bool.and_true, Bool.or_true]; rfl)]⟩
    first | omega | exact ⟨by omega, by omega⟩ | decide | assumption | exact ⟨by omega, by omega, by omega⟩ | exact ⟨by decide, by decide⟩
  intro c10
  refine ⟨?_, ?_⟩
  · first | omega | exact ⟨by omega, by omega⟩ | decide | assumption | exact ⟨by omega, by omega, by omega⟩ | exact ⟨by decide, by decide⟩
  refine ⟨?_, ?_⟩
  · exact ⟨by omega, by rw [es, aHv_n (show (mHas a kn && (decide (rG Z q (aHv (rG Z q) (fun e => mHas a e) (fun x y : Nat => decide (x < y)) kn) < rG Z q kn) || (decide (rG Z q kn = rG Z q (aHv (rG Z q) (fun e => mHas a e) (fun x y : Nat => decide (x < y)) kn)) && decide (kn < aHv (rG Z q) (fun e => mHas a e) (fun x y : Nat => decide (x < y)) kn)))) = false from by rw [decide_eq_false (show ¬ rG Z q (aHv (rG Z q) (fun e => mHas a e) (fun x y : Nat => decide (x < y)) kn) < rG Z q kn by omega), decide_eq_false (show ¬ rG Z q kn = rG Z q (aHv (rG Z q) (fun e => mHas a e) (fun x y : Nat => decide (x < y)) kn) by omega)]; exact Bool.and_false _)]⟩
  first | omega | exact ⟨by omega, by omega⟩ | decide | assumption | exact ⟨by omega, by omega, by omega⟩ | exact ⟨by decide, by decide⟩
theorem c_X1_heaviestS {l : Launch} {D : va_G} {cy : Nat → ClassId} {bs N : Nat} {sa : Nat → Nat} {kd len : Nat → Nat} {X Y : Nat → Int → Int} {R : Nat → Int → Option Nat} {i : Nat} {Z : Nat → Int → Int} {q : Nat} (hC : zChart N kd len R i) (a : Int) (ha : rI a) (hp : cA Z q X Y R i) : Met l yX1_heaviest (.code yX1_heaviest cX1_heaviest 5 (some .int) :: zTB) (zRm 0 0) (zPc D cy bs sa N kd len X Y R [.ref (bs + (i)), .int (zI (a)), .ref (sa 0)]) (zQi D cy bs N kd len (fun r st => r = ((aHv (rG Z q) (fun e => mHas (a) e) (fun x y : Nat => decide (x < y)) (Z q 27).toNat : Nat) : Int) ∧ st = (X, Y, R))) 0 0 (zA bs) := w_X1_heaviestS hC a ha (v_X1_heaviestS a ha hp)
