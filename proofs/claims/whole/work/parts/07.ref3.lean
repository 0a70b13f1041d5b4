/-! WHAT THE DOCUMENT'S WORDS ARE, over parents -/
/-- along the way from block 0 on -/
def pr {α : Type} (P : Nat → Nat) (z : α) (f : Nat → α → α) (k : Nat) : α := if _ : P k < k then f k (pr P z f (P k)) else z
termination_by k
theorem pr_0 {α : Type} {P : Nat → Nat} {z : α} {f : Nat → α → α} : pr P z f 0 = z := by
  rw [pr, dif_neg (Nat.not_lt_zero _)]
theorem pr_s {α : Type} {P : Nat → Nat} {z : α} {f : Nat → α → α} {k : Nat} (h : P k < k) : pr P z f k = f k (pr P z f (P k)) := by
  rw [pr, dif_pos h]
/-- a parent is less, but block 0's -/
def sPar (P : Nat → Nat) (n : Nat) : Prop := ∀ k, 1 ≤ k → k ≤ n → P k < k
theorem pr_ind {α : Type} {P : Nat → Nat} {z : α} {f : Nat → α → α} {n : Nat} (hP : sPar P n) (Q : Nat → α → Prop) (h0 : Q 0 z) (hs : ∀ k x, 1 ≤ k → k ≤ n → Q (P k) x → Q k (f k x)) : ∀ k, k ≤ n → Q k (pr P z f k) := by
  intro k
  induction k using Nat.strongRecOn with
  | _ k ih =>
    intro hk
    by_cases h : k = 0
    · subst h
      rw [pr_0]
      exact h0
    · have hp := hP k (by omega) hk
      rw [pr_s hp]
      exact hs k _ (by omega) hk (ih _ hp (by omega))
def sHg (P : Nat → Nat) : Nat → Nat := pr P 0 (fun _ x => x + 1)
/-- so many ahead; -1: none -/
def aN (P : Nat → Nat) (k : Nat) : Nat → Int
  | 0 => k
  | n + 1 => if aN P k n ≤ 0 then -1 else P (aN P k n).toNat
theorem aN_b {P : Nat → Nat} {m k : Nat} (h : sPar P m) (hk : k ≤ m) : ∀ n, -1 ≤ aN P k n ∧ aN P k n ≤ k
  | 0 => ⟨by unfold aN; omega, by unfold aN; omega⟩
  | n + 1 => by
    have ih := aN_b h hk n
    show -1 ≤ (if aN P k n ≤ 0 then -1 else (P (aN P k n).toNat : Int)) ∧ (if aN P k n ≤ 0 then -1 else (P (aN P k n).toNat : Int)) ≤ k
    split
    · exact ⟨by omega, by omega⟩
    · have := h (aN P k n).toNat (by omega) (by omega)
      exact ⟨by omega, by omega⟩
theorem sHg_0 {P : Nat → Nat} : sHg P 0 = 0 := pr_0
theorem sHg_s {P : Nat → Nat} {k : Nat} (h : P k < k) : sHg P k = sHg P (P k) + 1 := pr_s h
theorem sHg_le {P : Nat → Nat} {n : Nat} (h : sPar P n) : ∀ k, k ≤ n → sHg P k ≤ k := fun k hk => pr_ind h (fun k x => x ≤ k) (Nat.le_refl 0) (fun k x h1 h2 hx => by have := h k h1 h2; omega) k hk
theorem aN_h {P : Nat → Nat} {m k : Nat} (h : sPar P m) (hk : k ≤ m) : ∀ n, n ≤ sHg P k → 0 ≤ aN P k n ∧ sHg P (aN P k n).toNat = sHg P k - n
  | 0, _ => ⟨by unfold aN; omega, by unfold aN; simp⟩
  | n + 1, hn => by
    obtain ⟨h1, h2⟩ := aN_h h hk n (by omega)
    have hb := aN_b h hk n
    have h3 : aN P k n ≠ 0 := by
      intro e
      rw [e] at h2
      have : sHg P 0 = sHg P k - n := h2
      rw [sHg_0] at this
      omega
    have hp := h (aN P k n).toNat (by omega) (by omega)
    have e : aN P k (n + 1) = P (aN P k n).toNat := by
      show (if aN P k n ≤ 0 then -1 else (P (aN P k n).toNat : Int)) = _
      rw [if_neg (by omega)]
    rw [e]
    refine ⟨by omega, ?_⟩
    rw [Int.toNat_natCast]
    rw [sHg_s hp] at h2
    omega
def sStep (x tgt dt : Int) : Int := max 1 (max (x / 4) (min (x * 4) (x * tgt / max 1 dt)))
theorem sStep_b {x tgt dt : Int} (h : 1 ≤ x) : 1 ≤ sStep x tgt dt ∧ sStep x tgt dt ≤ 4 * x := by
  unfold sStep
  have : x / 4 ≤ x := by omega
  constructor <;> omega
def sWk (P : Nat → Nat) (T : Nat → Int) (tgt start : Int) (st : Nat) : Nat → Int :=
  pr P start (fun k x => if sHg P k % st ≠ 0 then x else sStep x tgt (T (P k) - T (aN P (P k) (st - 1)).toNat))
def sWg (P : Nat → Nat) (T : Nat → Int) (tgt start : Int) (st : Nat) : Nat → Int := pr P start (fun k x => x + sWk P T tgt start st k)
theorem sWk_b {P : Nat → Nat} {T : Nat → Int} {tgt start : Int} {st n : Nat} (h : sPar P n) (h1 : 1 ≤ start) (h2 : start ≤ 99) : ∀ k, k ≤ n → 1 ≤ sWk P T tgt start st k ∧ sWk P T tgt start st k ≤ 99 * 4 ^ k :=
  pr_ind h (fun k x => 1 ≤ x ∧ x ≤ 99 * 4 ^ k) ⟨h1, by omega⟩ (fun k x k1 k2 hx => by
    have hp := h k k1 k2
    have h4 : (4 : Int) ^ (P k) * 4 ≤ 4 ^ k := by
      obtain ⟨d, hd⟩ : ∃ d, k = P k + 1 + d := ⟨k - P k - 1, by omega⟩
      have e : (4 : Int) ^ k = 4 ^ (P k) * 4 * 4 ^ d := by
        conv => lhs; rw [hd]
        rw [Int.pow_add, Int.pow_succ]
      rw [e]
      have p1 : (0 : Int) < 4 ^ (P k) := Int.pow_pos (by decide)
      have p2 : (1 : Int) ≤ 4 ^ d := by have : (0 : Int) < 4 ^ d := Int.pow_pos (by decide); omega
      have := Int.mul_le_mul_of_nonneg_left p2 (show (0 : Int) ≤ 4 ^ (P k) * 4 by omega)
      omega
    have p1 : (0 : Int) < 4 ^ (P k) := Int.pow_pos (by decide)
    split
    · exact ⟨hx.1, by omega⟩
    · have := sStep_b (tgt := tgt) (dt := T (P k) - T (aN P (P k) (st - 1)).toNat) hx.1
      exact ⟨this.1, by omega⟩)
theorem sWk_14 {P : Nat → Nat} {T : Nat → Int} {tgt start : Int} {st n : Nat} (h : sPar P n) (hn : n ≤ 14) (h1 : 1 ≤ start) (h2 : start ≤ 99) (k : Nat) (hk : k ≤ n) : 1 ≤ sWk P T tgt start st k ∧ sWk P T tgt start st k ≤ 26575110144 := by
  have := sWk_b (T := T) (tgt := tgt) (st := st) h h1 h2 k hk
  have h4 : (4 : Int) ^ k ≤ 4 ^ 14 := by
    have h5 : (4 : Nat) ^ k ≤ 4 ^ 14 := Nat.pow_le_pow_right (by decide) (by omega)
    exact_mod_cast h5
  have e : (4 : Int) ^ 14 = 268435456 := by decide
  omega
theorem sWg_14 {P : Nat → Nat} {T : Nat → Int} {tgt start : Int} {st n : Nat} (h : sPar P n) (hn : n ≤ 14) (h1 : 1 ≤ start) (h2 : start ≤ 99) : ∀ k, k ≤ n → 1 ≤ sWg P T tgt start st k ∧ sWg P T tgt start st k ≤ 26575110144 * (k + 1) :=
  pr_ind h (fun (k : Nat) (x : Int) => 1 ≤ x ∧ x ≤ 26575110144 * (k + 1)) ⟨h1, by omega⟩ (fun k x k1 k2 hx => by
    have hp := h k k1 k2
    have := sWk_14 (T := T) (tgt := tgt) (st := st) h hn h1 h2 k k2
    exact ⟨by omega, by omega⟩)
/-! THE REFERENCE'S OWN -/
def rP (X : Nat → Int → Int) (i : Nat) (k : Nat) : Nat := (mC X i k 0).toNat
def rT (X : Nat → Int → Int) (i : Nat) (k : Nat) : Int := mTim X i k
theorem rP_par {X : Nat → Int → Int} {i n : Nat} (h : oB X i n) : sPar (rP X i) n := fun k h1 h2 => by
  have := h.2.2 k (by omega) (by omega)
  unfold rP
  omega
theorem rP_c {X : Nat → Int → Int} {i n k : Nat} (h : oB X i n) (h1 : 1 ≤ k) (h2 : k ≤ n) : mPar X i k = rP X i k := by
  have := h.2.2 k (by omega) (by omega)
  unfold mPar rP
  rw [if_neg (by omega)]
  omega
theorem mAh_aN {X : Nat → Int → Int} {i n k : Nat} (h : oB X i n) (hk : k ≤ n) : ∀ m, mAh X i k m = aN (rP X i) k m
  | 0 => rfl
  | m + 1 => by
    have ih := mAh_aN h hk m
    have hb := aN_b (rP_par h) hk m
    show (if mAh X i k m = -1 then -1 else mPar X i (mAh X i k m)) = if aN (rP X i) k m ≤ 0 then -1 else (rP X i (aN (rP X i) k m).toNat : Int)
    rw [ih]
    by_cases h0 : aN (rP X i) k m ≤ 0
    · rw [if_pos h0]
      split
      · rfl
      · have e : aN (rP X i) k m = 0 := by omega
        rw [e]
        rfl
    · rw [if_neg h0, if_neg (by omega)]
      have := rP_c (k := (aN (rP X i) k m).toNat) h (by omega) (by omega)
      rw [← this]
      congr 1
      omega
