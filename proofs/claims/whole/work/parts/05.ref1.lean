theorem rI_rL {a : Int} (h : rI a) : rL a := ⟨by have := h.1; omega, by have := h.2; omega⟩
theorem zByt_rg (a : Int) : rI (zByt a) := ⟨by have := Int8.le_toInt (zI a).toInt8; unfold zByt; omega, by have := Int8.toInt_lt (zI a).toInt8; unfold zByt; omega⟩
theorem zByt_b (a : Int) : -128 ≤ zByt a ∧ zByt a ≤ 127 := ⟨by have := Int8.le_toInt (zI a).toInt8; unfold zByt; omega, by have := Int8.toInt_lt (zI a).toInt8; unfold zByt; omega⟩
theorem tdiv_rI {a b : Int} (h : rI a) (hb : b ≠ -1) : rI (a.tdiv b) := by
  have e := Int.natAbs_tdiv a b
  by_cases h1 : b.natAbs ≤ 1
  · rcases (show b = 0 ∨ b = 1 ∨ b = -1 by omega) with rfl | rfl | rfl
    · rw [Int.tdiv_zero]
      decide
    · rw [Int.tdiv_one]
      exact h
    · exact absurd rfl hb
  · have h2 : a.natAbs / b.natAbs ≤ a.natAbs / 2 := Nat.div_le_div_left (by omega) (by decide)
    have h3 : (a.tdiv b).natAbs = a.natAbs / b.natAbs := e
    exact ⟨by have := h.1; have := h.2; omega, by have := h.1; have := h.2; omega⟩
theorem tmod_rI {a b : Int} (h : rI a) (_ : b ≠ -1) : rI (a.tmod b) := by
  have e := Int.natAbs_tmod a b
  have h2 : a.natAbs % b.natAbs ≤ a.natAbs := Nat.mod_le _ _
  have h3 : (a.tmod b).natAbs = a.natAbs % b.natAbs := e
  by_cases h4 : 0 ≤ a
  · have := Int.tmod_nonneg b h4
    exact ⟨by have := h.1; have := h.2; omega, by have := h.1; have := h.2; omega⟩
  · exact ⟨by have := h.1; have := h.2; omega, by
      have h5 : a.tmod b ≤ 0 := by
        have := Int.tmod_nonneg b (show 0 ≤ -a by omega)
        rw [Int.neg_tmod] at this
        omega
      omega⟩
/-! THE REFERENCE'S CELLS: the object at i, its rows behind it -/
def mK : List Nat := [12, 13, 13, 13, 13, 13, 13, 13, 13, 13, 13, 13, 13, 14, 14, 13, 13, 14, 13, 13, 14, 14, 13, 13, 15]
def mL : List Nat := [2400, 4, 4, 4, 20, 104, 1464, 648, 136, 200, 183, 4, 15, 15, 15, 90, 15, 15, 6, 3, 20, 20, 41, 656, 3]
def mS : List Int := [1, 2, 3, 4, 5, 6, 7, 8, 9, 10, 20, 21, 31, 32, 33, 34, 38, 39, 49, 50, 53, 54, 62, 63, 65]
def zM (N : Nat) (kd len : Nat → Nat) (R : Nat → Int → Option Nat) (i : Nat) : Prop := i + 25 < N ∧ kd i = 11 ∧ (∀ o, o < 25 → kd (i + 1 + o) = mK.getD o 0 ∧ len (i + 1 + o) = mL.getD o 0) ∧ ∀ o, o < 25 → R i (mS.getD o 0) = some (i + 1 + o)
theorem zM_n0 {N : Nat} {kd len : Nat → Nat} {R : Nat → Int → Option Nat} {i : Nat} (h : zM N kd len R i) : i < N := by have := h.1; omega
theorem zM_k0 {N : Nat} {kd len : Nat → Nat} {R : Nat → Int → Option Nat} {i : Nat} (h : zM N kd len R i) : kd i = 11 := h.2.1
theorem zM_n1 {N : Nat} {kd len : Nat → Nat} {R : Nat → Int → Option Nat} {i : Nat} (h : zM N kd len R i) : i + 1 < N := by have := h.1; omega
theorem zM_k1 {N : Nat} {kd len : Nat → Nat} {R : Nat → Int → Option Nat} {i : Nat} (h : zM N kd len R i) : kd (i + 1) = 12 := (h.2.2.1 0 (by decide)).1
theorem zM_l1 {N : Nat} {kd len : Nat → Nat} {R : Nat → Int → Option Nat} {i : Nat} (h : zM N kd len R i) : len (i + 1) = 2400 := (h.2.2.1 0 (by decide)).2
theorem zM_r1 {N : Nat} {kd len : Nat → Nat} {R : Nat → Int → Option Nat} {i : Nat} (h : zM N kd len R i) : R i 1 = some (i + 1) := h.2.2.2 0 (by decide)
theorem zM_n2 {N : Nat} {kd len : Nat → Nat} {R : Nat → Int → Option Nat} {i : Nat} (h : zM N kd len R i) : i + 2 < N := by have := h.1; omega
theorem zM_k2 {N : Nat} {kd len : Nat → Nat} {R : Nat → Int → Option Nat} {i : Nat} (h : zM N kd len R i) : kd (i + 2) = 13 := (h.2.2.1 1 (by decide)).1
theorem zM_l2 {N : Nat} {kd len : Nat → Nat} {R : Nat → Int → Option Nat} {i : Nat} (h : zM N kd len R i) : len (i + 2) = 4 := (h.2.2.1 1 (by decide)).2
theorem zM_r2 {N : Nat} {kd len : Nat → Nat} {R : Nat → Int → Option Nat} {i : Nat} (h : zM N kd len R i) : R i 2 = some (i + 2) := h.2.2.2 1 (by decide)
theorem zM_n3 {N : Nat} {kd len : Nat → Nat} {R : Nat → Int → Option Nat} {i : Nat} (h : zM N kd len R i) : i + 3 < N := by have := h.1; omega
theorem zM_k3 {N : Nat} {kd len : Nat → Nat} {R : Nat → Int → Option Nat} {i : Nat} (h : zM N kd len R i) : kd (i + 3) = 13 := (h.2.2.1 2 (by decide)).1
theorem zM_l3 {N : Nat} {kd len : Nat → Nat} {R : Nat → Int → Option Nat} {i : Nat} (h : zM N kd len R i) : len (i + 3) = 4 := (h.2.2.1 2 (by decide)).2
theorem zM_r3 {N : Nat} {kd len : Nat → Nat} {R : Nat → Int → Option Nat} {i : Nat} (h : zM N kd len R i) : R i 3 = some (i + 3) := h.2.2.2 2 (by decide)
theorem zM_n4 {N : Nat} {kd len : Nat → Nat} {R : Nat → Int → Option Nat} {i : Nat} (h : zM N kd len R i) : i + 4 < N := by have := h.1; omega
theorem zM_k4 {N : Nat} {kd len : Nat → Nat} {R : Nat → Int → Option Nat} {i : Nat} (h : zM N kd len R i) : kd (i + 4) = 13 := (h.2.2.1 3 (by decide)).1
theorem zM_l4 {N : Nat} {kd len : Nat → Nat} {R : Nat → Int → Option Nat} {i : Nat} (h : zM N kd len R i) : len (i + 4) = 4 := (h.2.2.1 3 (by decide)).2
theorem zM_r4 {N : Nat} {kd len : Nat → Nat} {R : Nat → Int → Option Nat} {i : Nat} (h : zM N kd len R i) : R i 4 = some (i + 4) := h.2.2.2 3 (by decide)
theorem zM_n5 {N : Nat} {kd len : Nat → Nat} {R : Nat → Int → Option Nat} {i : Nat} (h : zM N kd len R i) : i + 5 < N := by have := h.1; omega
theorem zM_k5 {N : Nat} {kd len : Nat → Nat} {R : Nat → Int → Option Nat} {i : Nat} (h : zM N kd len R i) : kd (i + 5) = 13 := (h.2.2.1 4 (by decide)).1
theorem zM_l5 {N : Nat} {kd len : Nat → Nat} {R : Nat → Int → Option Nat} {i : Nat} (h : zM N kd len R i) : len (i + 5) = 20 := (h.2.2.1 4 (by decide)).2
theorem zM_r5 {N : Nat} {kd len : Nat → Nat} {R : Nat → Int → Option Nat} {i : Nat} (h : zM N kd len R i) : R i 5 = some (i + 5) := h.2.2.2 4 (by decide)
theorem zM_n6 {N : Nat} {kd len : Nat → Nat} {R : Nat → Int → Option Nat} {i : Nat} (h : zM N kd len R i) : i + 6 < N := by have := h.1; omega
theorem zM_k6 {N : Nat} {kd len : Nat → Nat} {R : Nat → Int → Option Nat} {i : Nat} (h : zM N kd len R i) : kd (i + 6) = 13 := (h.2.2.1 5 (by decide)).1
theorem zM_l6 {N : Nat} {kd len : Nat → Nat} {R : Nat → Int → Option Nat} {i : Nat} (h : zM N kd len R i) : len (i + 6) = 104 := (h.2.2.1 5 (by decide)).2
theorem zM_r6 {N : Nat} {kd len : Nat → Nat} {R : Nat → Int → Option Nat} {i : Nat} (h : zM N kd len R i) : R i 6 = some (i + 6) := h.2.2.2 5 (by decide)
theorem zM_n7 {N : Nat} {kd len : Nat → Nat} {R : Nat → Int → Option Nat} {i : Nat} (h : zM N kd len R i) : i + 7 < N := by have := h.1; omega
theorem zM_k7 {N : Nat} {kd len : Nat → Nat} {R : Nat → Int → Option Nat} {i : Nat} (h : zM N kd len R i) : kd (i + 7) = 13 := (h.2.2.1 6 (by decide)).1
theorem zM_l7 {N : Nat} {kd len : Nat → Nat} {R : Nat → Int → Option Nat} {i : Nat} (h : zM N kd len R i) : len (i + 7) = 1464 := (h.2.2.1 6 (by decide)).2
theorem zM_r7 {N : Nat} {kd len : Nat → Nat} {R : Nat → Int → Option Nat} {i : Nat} (h : zM N kd len R i) : R i 7 = some (i + 7) := h.2.2.2 6 (by decide)
theorem zM_n8 {N : Nat} {kd len : Nat → Nat} {R : Nat → Int → Option Nat} {i : Nat} (h : zM N kd len R i) : i + 8 < N := by have := h.1; omega
theorem zM_k8 {N : Nat} {kd len : Nat → Nat} {R : Nat → Int → Option Nat} {i : Nat} (h : zM N kd len R i) : kd (i + 8) = 13 := (h.2.2.1 7 (by decide)).1
theorem zM_l8 {N : Nat} {kd len : Nat → Nat} {R : Nat → Int → Option Nat} {i : Nat} (h : zM N kd len R i) : len (i + 8) = 648 := (h.2.2.1 7 (by decide)).2
theorem zM_r8 {N : Nat} {kd len : Nat → Nat} {R : Nat → Int → Option Nat} {i : Nat} (h : zM N kd len R i) : R i 8 = some (i + 8) := h.2.2.2 7 (by decide)
theorem zM_n9 {N : Nat} {kd len : Nat → Nat} {R : Nat → Int → Option Nat} {i : Nat} (h : zM N kd len R i) : i + 9 < N := by have := h.1; omega
theorem zM_k9 {N : Nat} {kd len : Nat → Nat} {R : Nat → Int → Option Nat} {i : Nat} (h : zM N kd len R i) : kd (i + 9) = 13 := (h.2.2.1 8 (by decide)).1
theorem zM_l9 {N : Nat} {kd len : Nat → Nat} {R : Nat → Int → Option Nat} {i : Nat} (h : zM N kd len R i) : len (i + 9) = 136 := (h.2.2.1 8 (by decide)).2
theorem zM_r9 {N : Nat} {kd len : Nat → Nat} {R : Nat → Int → Option Nat} {i : Nat} (h : zM N kd len R i) : R i 9 = some (i + 9) := h.2.2.2 8 (by decide)
theorem zM_n10 {N : Nat} {kd len : Nat → Nat} {R : Nat → Int → Option Nat} {i : Nat} (h : zM N kd len R i) : i + 10 < N := by have := h.1; omega
theorem zM_k10 {N : Nat} {kd len : Nat → Nat} {R : Nat → Int → Option Nat} {i : Nat} (h : zM N kd len R i) : kd (i + 10) = 13 := (h.2.2.1 9 (by decide)).1
theorem zM_l10 {N : Nat} {kd len : Nat → Nat} {R : Nat → Int → Option Nat} {i : Nat} (h : zM N kd len R i) : len (i + 10) = 200 := (h.2.2.1 9 (by decide)).2
theorem zM_r10 {N : Nat} {kd len : Nat → Nat} {R : Nat → Int → Option Nat} {i : Nat} (h : zM N kd len R i) : R i 10 = some (i + 10) := h.2.2.2 9 (by decide)
theorem zM_n11 {N : Nat} {kd len : Nat → Nat} {R : Nat → Int → Option Nat} {i : Nat} (h : zM N kd len R i) : i + 11 < N := by have := h.1; omega
theorem zM_k11 {N : Nat} {kd len : Nat → Nat} {R : Nat → Int → Option Nat} {i : Nat} (h : zM N kd len R i) : kd (i + 11) = 13 := (h.2.2.1 10 (by decide)).1
theorem zM_l11 {N : Nat} {kd len : Nat → Nat} {R : Nat → Int → Option Nat} {i : Nat} (h : zM N kd len R i) : len (i + 11) = 183 := (h.2.2.1 10 (by decide)).2
theorem zM_r11 {N : Nat} {kd len : Nat → Nat} {R : Nat → Int → Option Nat} {i : Nat} (h : zM N kd len R i) : R i 20 = some (i + 11) := h.2.2.2 10 (by decide)
theorem zM_n12 {N : Nat} {kd len : Nat → Nat} {R : Nat → Int → Option Nat} {i : Nat} (h : zM N kd len R i) : i + 12 < N := by have := h.1; omega
theorem zM_k12 {N : Nat} {kd len : Nat → Nat} {R : Nat → Int → Option Nat} {i : Nat} (h : zM N kd len R i) : kd (i + 12) = 13 := (h.2.2.1 11 (by decide)).1
theorem zM_l12 {N : Nat} {kd len : Nat → Nat} {R : Nat → Int → Option Nat} {i : Nat} (h : zM N kd len R i) : len (i + 12) = 4 := (h.2.2.1 11 (by decide)).2
theorem zM_r12 {N : Nat} {kd len : Nat → Nat} {R : Nat → Int → Option Nat} {i : Nat} (h : zM N kd len R i) : R i 21 = some (i + 12) := h.2.2.2 11 (by decide)
theorem zM_n13 {N : Nat} {kd len : Nat → Nat} {R : Nat → Int → Option Nat} {i : Nat} (h : zM N kd len R i) : i + 13 < N := by have := h.1; omega
theorem zM_k13 {N : Nat} {kd len : Nat → Nat} {R : Nat → Int → Option Nat} {i : Nat} (h : zM N kd len R i) : kd (i + 13) = 13 := (h.2.2.1 12 (by decide)).1
theorem zM_l13 {N : Nat} {kd len : Nat → Nat} {R : Nat → Int → Option Nat} {i : Nat} (h : zM N kd len R i) : len (i + 13) = 15 := (h.2.2.1 12 (by decide)).2
theorem zM_r13 {N : Nat} {kd len : Nat → Nat} {R : Nat → Int → Option Nat} {i : Nat} (h : zM N kd len R i) : R i 31 = some (i + 13) := h.2.2.2 12 (by decide)
theorem zM_n14 {N : Nat} {kd len : Nat → Nat} {R : Nat → Int → Option Nat} {i : Nat} (h : zM N kd len R i) : i + 14 < N := by have := h.1; omega
theorem zM_k14 {N : Nat} {kd len : Nat → Nat} {R : Nat → Int → Option Nat} {i : Nat} (h : zM N kd len R i) : kd (i + 14) = 14 := (h.2.2.1 13 (by decide)).1
theorem zM_l14 {N : Nat} {kd len : Nat → Nat} {R : Nat → Int → Option Nat} {i : Nat} (h : zM N kd len R i) : len (i + 14) = 15 := (h.2.2.1 13 (by decide)).2
theorem zM_r14 {N : Nat} {kd len : Nat → Nat} {R : Nat → Int → Option Nat} {i : Nat} (h : zM N kd len R i) : R i 32 = some (i + 14) := h.2.2.2 13 (by decide)
theorem zM_n15 {N : Nat} {kd len : Nat → Nat} {R : Nat → Int → Option Nat} {i : Nat} (h : zM N kd len R i) : i + 15 < N := by have := h.1; omega
theorem zM_k15 {N : Nat} {kd len : Nat → Nat} {R : Nat → Int → Option Nat} {i : Nat} (h : zM N kd len R i) : kd (i + 15) = 14 := (h.2.2.1 14 (by decide)).1
theorem zM_l15 {N : Nat} {kd len : Nat → Nat} {R : Nat → Int → Option Nat} {i : Nat} (h : zM N kd len R i) : len (i + 15) = 15 := (h.2.2.1 14 (by decide)).2
theorem zM_r15 {N : Nat} {kd len : Nat → Nat} {R : Nat → Int → Option Nat} {i : Nat} (h : zM N kd len R i) : R i 33 = some (i + 15) := h.2.2.2 14 (by decide)
theorem zM_n16 {N : Nat} {kd len : Nat → Nat} {R : Nat → Int → Option Nat} {i : Nat} (h : zM N kd len R i) : i + 16 < N := by have := h.1; omega
theorem zM_k16 {N : Nat} {kd len : Nat → Nat} {R : Nat → Int → Option Nat} {i : Nat} (h : zM N kd len R i) : kd (i + 16) = 13 := (h.2.2.1 15 (by decide)).1
theorem zM_l16 {N : Nat} {kd len : Nat → Nat} {R : Nat → Int → Option Nat} {i : Nat} (h : zM N kd len R i) : len (i + 16) = 90 := (h.2.2.1 15 (by decide)).2
theorem zM_r16 {N : Nat} {kd len : Nat → Nat} {R : Nat → Int → Option Nat} {i : Nat} (h : zM N kd len R i) : R i 34 = some (i + 16) := h.2.2.2 15 (by decide)
theorem zM_n17 {N : Nat} {kd len : Nat → Nat} {R : Nat → Int → Option Nat} {i : Nat} (h : zM N kd len R i) : i + 17 < N := by have := h.1; omega
theorem zM_k17 {N : Nat} {kd len : Nat → Nat} {R : Nat → Int → Option Nat} {i : Nat} (h : zM N kd len R i) : kd (i + 17) = 13 := (h.2.2.1 16 (by decide)).1
theorem zM_l17 {N : Nat} {kd len : Nat → Nat} {R : Nat → Int → Option Nat} {i : Nat} (h : zM N kd len R i) : len (i + 17) = 15 := (h.2.2.1 16 (by decide)).2
theorem zM_r17 {N : Nat} {kd len : Nat → Nat} {R : Nat → Int → Option Nat} {i : Nat} (h : zM N kd len R i) : R i 38 = some (i + 17) := h.2.2.2 16 (by decide)
theorem zM_n18 {N : Nat} {kd len : Nat → Nat} {R : Nat → Int → Option Nat} {i : Nat} (h : zM N kd len R i) : i + 18 < N := by have := h.1; omega
theorem zM_k18 {N : Nat} {kd len : Nat → Nat} {R : Nat → Int → Option Nat} {i : Nat} (h : zM N kd len R i) : kd (i + 18) = 14 := (h.2.2.1 17 (by decide)).1
theorem zM_l18 {N : Nat} {kd len : Nat → Nat} {R : Nat → Int → Option Nat} {i : Nat} (h : zM N kd len R i) : len (i + 18) = 15 := (h.2.2.1 17 (by decide)).2
theorem zM_r18 {N : Nat} {kd len : Nat → Nat} {R : Nat → Int → Option Nat} {i : Nat} (h : zM N kd len R i) : R i 39 = some (i + 18) := h.2.2.2 17 (by decide)
theorem zM_n19 {N : Nat} {kd len : Nat → Nat} {R : Nat → Int → Option Nat} {i : Nat} (h : zM N kd len R i) : i + 19 < N := by have := h.1; omega
theorem zM_k19 {N : Nat} {kd len : Nat → Nat} {R : Nat → Int → Option Nat} {i : Nat} (h : zM N kd len R i) : kd (i + 19) = 13 := (h.2.2.1 18 (by decide)).1
theorem zM_l19 {N : Nat} {kd len : Nat → Nat} {R : Nat → Int → Option Nat} {i : Nat} (h : zM N kd len R i) : len (i + 19) = 6 := (h.2.2.1 18 (by decide)).2
theorem zM_r19 {N : Nat} {kd len : Nat → Nat} {R : Nat → Int → Option Nat} {i : Nat} (h : zM N kd len R i) : R i 49 = some (i + 19) := h.2.2.2 18 (by decide)
theorem zM_n20 {N : Nat} {kd len : Nat → Nat} {R : Nat → Int → Option Nat} {i : Nat} (h : zM N kd len R i) : i + 20 < N := by have := h.1; omega
theorem zM_k20 {N : Nat} {kd len : Nat → Nat} {R : Nat → Int → Option Nat} {i : Nat} (h : zM N kd len R i) : kd (i + 20) = 13 := (h.2.2.1 19 (by decide)).1
theorem zM_l20 {N : Nat} {kd len : Nat → Nat} {R : Nat → Int → Option Nat} {i : Nat} (h : zM N kd len R i) : len (i + 20) = 3 := (h.2.2.1 19 (by decide)).2
theorem zM_r20 {N : Nat} {kd len : Nat → Nat} {R : Nat → Int → Option Nat} {i : Nat} (h : zM N kd len R i) : R i 50 = some (i + 20) := h.2.2.2 19 (by decide)
theorem zM_n21 {N : Nat} {kd len : Nat → Nat} {R : Nat → Int → Option Nat} {i : Nat} (h : zM N kd len R i) : i + 21 < N := by have := h.1; omega
theorem zM_k21 {N : Nat} {kd len : Nat → Nat} {R : Nat → Int → Option Nat} {i : Nat} (h : zM N kd len R i) : kd (i + 21) = 14 := (h.2.2.1 20 (by decide)).1
theorem zM_l21 {N : Nat} {kd len : Nat → Nat} {R : Nat → Int → Option Nat} {i : Nat} (h : zM N kd len R i) : len (i + 21) = 20 := (h.2.2.1 20 (by decide)).2
theorem zM_r21 {N : Nat} {kd len : Nat → Nat} {R : Nat → Int → Option Nat} {i : Nat} (h : zM N kd len R i) : R i 53 = some (i + 21) := h.2.2.2 20 (by decide)
theorem zM_n22 {N : Nat} {kd len : Nat → Nat} {R : Nat → Int → Option Nat} {i : Nat} (h : zM N kd len R i) : i + 22 < N := by have := h.1; omega
theorem zM_k22 {N : Nat} {kd len : Nat → Nat} {R : Nat → Int → Option Nat} {i : Nat} (h : zM N kd len R i) : kd (i + 22) = 14 := (h.2.2.1 21 (by decide)).1
theorem zM_l22 {N : Nat} {kd len : Nat → Nat} {R : Nat → Int → Option Nat} {i : Nat} (h : zM N kd len R i) : len (i + 22) = 20 := (h.2.2.1 21 (by decide)).2
theorem zM_r22 {N : Nat} {kd len : Nat → Nat} {R : Nat → Int → Option Nat} {i : Nat} (h : zM N kd len R i) : R i 54 = some (i + 22) := h.2.2.2 21 (by decide)
theorem zM_n23 {N : Nat} {kd len : Nat → Nat} {R : Nat → Int → Option Nat} {i : Nat} (h : zM N kd len R i) : i + 23 < N := by have := h.1; omega
theorem zM_k23 {N : Nat} {kd len : Nat → Nat} {R : Nat → Int → Option Nat} {i : Nat} (h : zM N kd len R i) : kd (i + 23) = 13 := (h.2.2.1 22 (by decide)).1
theorem zM_l23 {N : Nat} {kd len : Nat → Nat} {R : Nat → Int → Option Nat} {i : Nat} (h : zM N kd len R i) : len (i + 23) = 41 := (h.2.2.1 22 (by decide)).2
theorem zM_r23 {N : Nat} {kd len : Nat → Nat} {R : Nat → Int → Option Nat} {i : Nat} (h : zM N kd len R i) : R i 62 = some (i + 23) := h.2.2.2 22 (by decide)
theorem zM_n24 {N : Nat} {kd len : Nat → Nat} {R : Nat → Int → Option Nat} {i : Nat} (h : zM N kd len R i) : i + 24 < N := by have := h.1; omega
theorem zM_k24 {N : Nat} {kd len : Nat → Nat} {R : Nat → Int → Option Nat} {i : Nat} (h : zM N kd len R i) : kd (i + 24) = 13 := (h.2.2.1 23 (by decide)).1
theorem zM_l24 {N : Nat} {kd len : Nat → Nat} {R : Nat → Int → Option Nat} {i : Nat} (h : zM N kd len R i) : len (i + 24) = 656 := (h.2.2.1 23 (by decide)).2
theorem zM_r24 {N : Nat} {kd len : Nat → Nat} {R : Nat → Int → Option Nat} {i : Nat} (h : zM N kd len R i) : R i 63 = some (i + 24) := h.2.2.2 23 (by decide)
theorem zM_n25 {N : Nat} {kd len : Nat → Nat} {R : Nat → Int → Option Nat} {i : Nat} (h : zM N kd len R i) : i + 25 < N := by have := h.1; omega
theorem zM_k25 {N : Nat} {kd len : Nat → Nat} {R : Nat → Int → Option Nat} {i : Nat} (h : zM N kd len R i) : kd (i + 25) = 15 := (h.2.2.1 24 (by decide)).1
theorem zM_l25 {N : Nat} {kd len : Nat → Nat} {R : Nat → Int → Option Nat} {i : Nat} (h : zM N kd len R i) : len (i + 25) = 3 := (h.2.2.1 24 (by decide)).2
theorem zM_r25 {N : Nat} {kd len : Nat → Nat} {R : Nat → Int → Option Nat} {i : Nat} (h : zM N kd len R i) : R i 65 = some (i + 25) := h.2.2.2 24 (by decide)
def mIn (a b c : Int) : Bool := decide (b ≤ a ∧ a ≤ c)
abbrev cX11_in : ByteArray := prog_13_method_3_code
def yX11_in : MethodName := ⟨RX11, "in", "(III)Z"⟩
theorem dX11_in_0 : decode cX11_in 0 = .ok (.iload_n 0, 1) := by decide +kernel
theorem dX11_in_1 : decode cX11_in 1 = .ok (.iload_n 1, 1) := by decide +kernel
theorem dX11_in_2 : decode cX11_in 2 = .ok (.if_icmp .lt 12, 3) := by decide +kernel
theorem dX11_in_5 : decode cX11_in 5 = .ok (.iload_n 0, 1) := by decide +kernel
theorem dX11_in_6 : decode cX11_in 6 = .ok (.iload_n 2, 1) := by decide +kernel
theorem dX11_in_7 : decode cX11_in 7 = .ok (.if_icmp .gt 7, 3) := by decide +kernel
theorem dX11_in_10 : decode cX11_in 10 = .ok (.iconst 1, 1) := by decide +kernel
theorem dX11_in_11 : decode cX11_in 11 = .ok (.goto 4, 3) := by decide +kernel
theorem dX11_in_14 : decode cX11_in 14 = .ok (.iconst 0, 1) := by decide +kernel
theorem dX11_in_15 : decode cX11_in 15 = .ok (.ireturn, 1) := by decide +kernel
def F_X11_in (X Y : Nat → Int → Int) (R : Nat → Int → Option Nat) (a : Int) (b : Int) (g : Int) : Prop := (∀ i j, rI (X i j)) → (∀ i j, rL (Y i j)) → ((a < b) → (0 = bz (mIn (a) (b) (g)))) ∧ ((¬ (a < b)) → (((g < a) → (0 = bz (mIn (a) (b) (g)))) ∧ ((¬ (g < a)) → (1 = bz (mIn (a) (b) (g))))))
set_option maxHeartbeats 4000000 in
set_option maxRecDepth 100000 in
theorem w_X11_in {l : Launch} {D : va_G} {cy : Nat → ClassId} {bs N : Nat} {sa : Nat → Nat} {kd len : Nat → Nat} {X Y : Nat → Int → Int} {R : Nat → Int → Option Nat}  (a : Int) (ha : rI a) (b : Int) (hb : rI b) (g : Int) (hg : rI g) (hF : F_X11_in  X Y R a b g) : Met l yX11_in (.code yX11_in cX11_in 3 (some .boolean) :: zTB) (zRm 0 0) (zPc D cy bs sa N kd len X Y R [.int (zI (a)), .int (zI (b)), .int (zI (g))]) (zQi D cy bs N kd len (fun r st => r = bz (mIn (a) (b) (g)) ∧ st = (X, Y, R))) 0 0 (zA bs) := by
  refine zstart (by decide) (Nat.le_of_ble_eq_true rfl) ?_
  intro p e s m args below meth c ls C hE hH hr hlk hnm hl hargs
  have hF := hF hH.2.2.1 hH.2.2.2
  have hS : va_S (zA bs) s.heap s.heap [] := va_S.rf
  have hl : lv_has ls 3 [(0, .int (zI (a))), (1, .int (zI (b))), (2, .int (zI (g)))] := hl
  refine lv_iload_n C.1 C.2.1 dX11_in_0 rfl (lv_at hl 0 rfl) ?_
  refine lv_iload_n C.1 C.2.1 dX11_in_1 rfl (lv_at hl 1 rfl) ?_
  refine zd_icmp_lt C ha hb 14 dX11_in_2 (by decide) (fun c1 => ?_) (fun c1 => ?_)
  · have hF := hF.1 c1
    refine zd_iconst C dX11_in_14 ?_
    exact zd_zret C hr hlk hH hS (by decide) (⟨hF, rfl⟩) dX11_in_15
  · have hF := hF.2 c1
    refine lv_iload_n C.1 C.2.1 dX11_in_5 rfl (lv_at hl 0 rfl) ?_
    refine lv_iload_n C.1 C.2.1 dX11_in_6 rfl (lv_at hl 2 rfl) ?_
    refine zd_icmp_gt C ha hg 14 dX11_in_7 (by decide) (fun c2 => ?_) (fun c2 => ?_)
    · have hF := hF.1 c2
      refine zd_iconst C dX11_in_14 ?_
      exact zd_zret C hr hlk hH hS (by decide) (⟨hF, rfl⟩) dX11_in_15
    · have hF := hF.2 c2
      refine zd_iconst C dX11_in_10 ?_
      refine lv_goto (tgt := 15) C.1 C.2.1 dX11_in_11 (by decide) ?_
      exact zd_zret C hr hlk hH hS (by decide) (⟨hF, rfl⟩) dX11_in_15
theorem v_X11_in {X Y : Nat → Int → Int} {R : Nat → Int → Option Nat}  (a : Int) (ha : rI a) (b : Int) (hb : rI b) (g : Int) (hg : rI g) : F_X11_in  X Y R a b g := by
  unfold F_X11_in mIn bz
  intro hX hY
  refine ⟨fun h => ?_, fun h => ⟨fun h2 => ?_, fun h2 => ?_⟩⟩ <;> simp <;> omega
theorem c_X11_in {l : Launch} {D : va_G} {cy : Nat → ClassId} {bs N : Nat} {sa : Nat → Nat} {kd len : Nat → Nat} {X Y : Nat → Int → Int} {R : Nat → Int → Option Nat}  (a : Int) (ha : rI a) (b : Int) (hb : rI b) (g : Int) (hg : rI g) : Met l yX11_in (.code yX11_in cX11_in 3 (some .boolean) :: zTB) (zRm 0 0) (zPc D cy bs sa N kd len X Y R [.int (zI (a)), .int (zI (b)), .int (zI (g))]) (zQi D cy bs N kd len (fun r st => r = bz (mIn (a) (b) (g)) ∧ st = (X, Y, R))) 0 0 (zA bs) := w_X11_in  a ha b hb g hg (v_X11_in a ha b hb g hg)
abbrev cX11_greater : ByteArray := prog_13_method_5_code
def yX11_greater : MethodName := ⟨RX11, "greater", "(II)I"⟩
theorem dX11_greater_0 : decode cX11_greater 0 = .ok (.iload_n 0, 1) := by decide +kernel
theorem dX11_greater_1 : decode cX11_greater 1 = .ok (.iload_n 1, 1) := by decide +kernel
theorem dX11_greater_2 : decode cX11_greater 2 = .ok (.if_icmp .le 7, 3) := by decide +kernel
theorem dX11_greater_5 : decode cX11_greater 5 = .ok (.iload_n 0, 1) := by decide +kernel
theorem dX11_greater_6 : decode cX11_greater 6 = .ok (.goto 4, 3) := by decide +kernel
theorem dX11_greater_9 : decode cX11_greater 9 = .ok (.iload_n 1, 1) := by decide +kernel
theorem dX11_greater_10 : decode cX11_greater 10 = .ok (.ireturn, 1) := by decide +kernel
def F_X11_greater (X Y : Nat → Int → Int) (R : Nat → Int → Option Nat) (a : Int) (b : Int) : Prop := (∀ i j, rI (X i j)) → (∀ i j, rL (Y i j)) → ((a ≤ b) → (b = max (a) (b))) ∧ ((¬ (a ≤ b)) → (a = max (a) (b)))
set_option maxHeartbeats 4000000 in
set_option maxRecDepth 100000 in
theorem w_X11_greater {l : Launch} {D : va_G} {cy : Nat → ClassId} {bs N : Nat} {sa : Nat → Nat} {kd len : Nat → Nat} {X Y : Nat → Int → Int} {R : Nat → Int → Option Nat}  (a : Int) (ha : rI a) (b : Int) (hb : rI b) (hF : F_X11_greater  X Y R a b) : Met l yX11_greater (.code yX11_greater cX11_greater 2 (some .int) :: zTB) (zRm 0 0) (zPc D cy bs sa N kd len X Y R [.int (zI (a)), .int (zI (b))]) (zQi D cy bs N kd len (fun r st => r = max (a) (b) ∧ st = (X, Y, R))) 0 0 (zA bs) := by
  refine zstart (by decide) (Nat.le_of_ble_eq_true rfl) ?_
  intro p e s m args below meth c ls C hE hH hr hlk hnm hl hargs
  have hF := hF hH.2.2.1 hH.2.2.2
  have hS : va_S (zA bs) s.heap s.heap [] := va_S.rf
  have hl : lv_has ls 2 [(0, .int (zI (a))), (1, .int (zI (b)))] := hl
  refine lv_iload_n C.1 C.2.1 dX11_greater_0 rfl (lv_at hl 0 rfl) ?_
  refine lv_iload_n C.1 C.2.1 dX11_greater_1 rfl (lv_at hl 1 rfl) ?_
  refine zd_icmp_le C ha hb 9 dX11_greater_2 (by decide) (fun c1 => ?_) (fun c1 => ?_)
  · have hF := hF.1 c1
    refine lv_iload_n C.1 C.2.1 dX11_greater_9 rfl (lv_at hl 1 rfl) ?_
    exact zd_iret C hr hlk hH hS hb (⟨hF, rfl⟩) dX11_greater_10
  · have hF := hF.2 c1
    refine lv_iload_n C.1 C.2.1 dX11_greater_5 rfl (lv_at hl 0 rfl) ?_
    refine lv_goto (tgt := 10) C.1 C.2.1 dX11_greater_6 (by decide) ?_
    exact zd_iret C hr hlk hH hS ha (⟨hF, rfl⟩) dX11_greater_10
theorem v_X11_greater {X Y : Nat → Int → Int} {R : Nat → Int → Option Nat}  (a : Int) (ha : rI a) (b : Int) (hb : rI b) : F_X11_greater  X Y R a b := by
  unfold F_X11_greater
  intro hX hY
  refine ⟨fun h => ?_, fun h => ?_⟩ <;> omega
theorem c_X11_greater {l : Launch} {D : va_G} {cy : Nat → ClassId} {bs N : Nat} {sa : Nat → Nat} {kd len : Nat → Nat} {X Y : Nat → Int → Int} {R : Nat → Int → Option Nat}  (a : Int) (ha : rI a) (b : Int) (hb : rI b) : Met l yX11_greater (.code yX11_greater cX11_greater 2 (some .int) :: zTB) (zRm 0 0) (zPc D cy bs sa N kd len X Y R [.int (zI (a)), .int (zI (b))]) (zQi D cy bs N kd len (fun r st => r = max (a) (b) ∧ st = (X, Y, R))) 0 0 (zA bs) := w_X11_greater  a ha b hb (v_X11_greater a ha b hb)
abbrev cX11_lesser : ByteArray := prog_13_method_6_code
def yX11_lesser : MethodName := ⟨RX11, "lesser", "(II)I"⟩
theorem dX11_lesser_0 : decode cX11_lesser 0 = .ok (.iload_n 0, 1) := by decide +kernel
theorem dX11_lesser_1 : decode cX11_lesser 1 = .ok (.iload_n 1, 1) := by decide +kernel
theorem dX11_lesser_2 : decode cX11_lesser 2 = .ok (.if_icmp .ge 7, 3) := by decide +kernel
theorem dX11_lesser_5 : decode cX11_lesser 5 = .ok (.iload_n 0, 1) := by decide +kernel
theorem dX11_lesser_6 : decode cX11_lesser 6 = .ok (.goto 4, 3) := by decide +kernel
theorem dX11_lesser_9 : decode cX11_lesser 9 = .ok (.iload_n 1, 1) := by decide +kernel
theorem dX11_lesser_10 : decode cX11_lesser 10 = .ok (.ireturn, 1) := by decide +kernel
def F_X11_lesser (X Y : Nat → Int → Int) (R : Nat → Int → Option Nat) (a : Int) (b : Int) : Prop := (∀ i j, rI (X i j)) → (∀ i j, rL (Y i j)) → ((b ≤ a) → (b = min (a) (b))) ∧ ((¬ (b ≤ a)) → (a = min (a) (b)))
set_option maxHeartbeats 4000000 in
set_option maxRecDepth 100000 in
theorem w_X11_lesser {l : Launch} {D : va_G} {cy : Nat → ClassId} {bs N : Nat} {sa : Nat → Nat} {kd len : Nat → Nat} {X Y : Nat → Int → Int} {R : Nat → Int → Option Nat}  (a : Int) (ha : rI a) (b : Int) (hb : rI b) (hF : F_X11_lesser  X Y R a b) : Met l yX11_lesser (.code yX11_lesser cX11_lesser 2 (some .int) :: zTB) (zRm 0 0) (zPc D cy bs sa N kd len X Y R [.int (zI (a)), .int (zI (b))]) (zQi D cy bs N kd len (fun r st => r = min (a) (b) ∧ st = (X, Y, R))) 0 0 (zA bs) := by
  refine zstart (by decide) (Nat.le_of_ble_eq_true rfl) ?_
  intro p e s m args below meth c ls C hE hH hr hlk hnm hl hargs
  have hF := hF hH.2.2.1 hH.2.2.2
  have hS : va_S (zA bs) s.heap s.heap [] := va_S.rf
  have hl : lv_has ls 2 [(0, .int (zI (a))), (1, .int (zI (b)))] := hl
  refine lv_iload_n C.1 C.2.1 dX11_lesser_0 rfl (lv_at hl 0 rfl) ?_
  refine lv_iload_n C.1 C.2.1 dX11_lesser_1 rfl (lv_at hl 1 rfl) ?_
  refine zd_icmp_ge C ha hb 9 dX11_lesser_2 (by decide) (fun c1 => ?_) (fun c1 => ?_)
  · have hF := hF.1 c1
    refine lv_iload_n C.1 C.2.1 dX11_lesser_9 rfl (lv_at hl 1 rfl) ?_
    exact zd_iret C hr hlk hH hS hb (⟨hF, rfl⟩) dX11_lesser_10
  · have hF := hF.2 c1
    refine lv_iload_n C.1 C.2.1 dX11_lesser_5 rfl (lv_at hl 0 rfl) ?_
    refine lv_goto (tgt := 10) C.1 C.2.1 dX11_lesser_6 (by decide) ?_
    exact zd_iret C hr hlk hH hS ha (⟨hF, rfl⟩) dX11_lesser_10
theorem v_X11_lesser {X Y : Nat → Int → Int} {R : Nat → Int → Option Nat}  (a : Int) (ha : rI a) (b : Int) (hb : rI b) : F_X11_lesser  X Y R a b := by
  unfold F_X11_lesser
  intro hX hY
  refine ⟨fun h => ?_, fun h => ?_⟩ <;> omega
theorem c_X11_lesser {l : Launch} {D : va_G} {cy : Nat → ClassId} {bs N : Nat} {sa : Nat → Nat} {kd len : Nat → Nat} {X Y : Nat → Int → Int} {R : Nat → Int → Option Nat}  (a : Int) (ha : rI a) (b : Int) (hb : rI b) : Met l yX11_lesser (.code yX11_lesser cX11_lesser 2 (some .int) :: zTB) (zRm 0 0) (zPc D cy bs sa N kd len X Y R [.int (zI (a)), .int (zI (b))]) (zQi D cy bs N kd len (fun r st => r = min (a) (b) ∧ st = (X, Y, R))) 0 0 (zA bs) := w_X11_lesser  a ha b hb (v_X11_lesser a ha b hb)
def mIs (i : Nat) (X : Nat → Int → Int) (s k : Int) : Bool := mIn k 0 (X (i + 5) s - 1)
abbrev cX11_is : ByteArray := prog_13_method_10_code
def yX11_is : MethodName := ⟨RX11, "is", "(II)Z"⟩
theorem dX11_is_0 : decode cX11_is 0 = .ok (.iload_n 2, 1) := by decide +kernel
theorem dX11_is_1 : decode cX11_is 1 = .ok (.iconst 0, 1) := by decide +kernel
theorem dX11_is_2 : decode cX11_is 2 = .ok (.aload_n 0, 1) := by decide +kernel
theorem dX11_is_3 : decode cX11_is 3 = .ok (.getfield 23, 3) := by decide +kernel
theorem dX11_is_6 : decode cX11_is 6 = .ok (.iload_n 1, 1) := by decide +kernel
theorem dX11_is_7 : decode cX11_is 7 = .ok (.iaload, 1) := by decide +kernel
theorem dX11_is_8 : decode cX11_is 8 = .ok (.iconst 1, 1) := by decide +kernel
theorem dX11_is_9 : decode cX11_is 9 = .ok (.isub, 1) := by decide +kernel
theorem dX11_is_10 : decode cX11_is 10 = .ok (.invokestatic 100, 3) := by decide +kernel
theorem dX11_is_13 : decode cX11_is 13 = .ok (.ireturn, 1) := by decide +kernel
theorem q_1292 : Cond.fieldLink RX11 23 RX11 "many" "[I" ∈ zTB := zmem 1292 (by decide +kernel) rfl
theorem q_1499 : Cond.static yX11_in ∈ zTB := zmem 1499 (by decide +kernel) rfl
theorem q_140 : Cond.initialized yX11_in.cls ∈ zTB := zmem 140 (by decide +kernel) rfl
theorem q_1500 : Cond.code yX11_in cX11_in 3 (some .boolean) ∈ zTB := zmem 1500 (by decide +kernel) rfl
theorem q_1498 : Cond.methodLink RX11 100 yX11_in ∈ zTB := zmem 1498 (by decide +kernel) rfl
theorem k_RX11_100 : zLs RX11 100 yX11_in cX11_in 3 (some .boolean) 3 := ⟨⟨q_1498, q_1499, q_140, q_1500⟩, ⟨by decide, by decide⟩, by decide +kernel⟩
def F_X11_is (i : Nat) (X Y : Nat → Int → Int) (R : Nat → Int → Option Nat) (a : Int) (b : Int) : Prop := (∀ i j, rI (X i j)) → (∀ i j, rL (Y i j)) → (0 ≤ a ∧ a < 20) ∧ ((rI ((X (i + 5) (a)) - 1)) ∧ (bz (mIn (b) ((0 : Int)) ((X (i + 5) (a)) - 1)) = bz (mIs i X (a) (b))))
set_option maxHeartbeats 4000000 in
set_option maxRecDepth 100000 in
theorem w_X11_is {l : Launch} {D : va_G} {cy : Nat → ClassId} {bs N : Nat} {sa : Nat → Nat} {kd len : Nat → Nat} {X Y : Nat → Int → Int} {R : Nat → Int → Option Nat} {i : Nat} (hM : zM N kd len R i) (a : Int) (ha : rI a) (b : Int) (hb : rI b) (hF : F_X11_is i X Y R a b) : Met l yX11_is (.code yX11_is cX11_is 3 (some .boolean) :: zTB) (zRm 1 22) (zPc D cy bs sa N kd len X Y R [.ref (bs + (i)), .int (zI (a)), .int (zI (b))]) (zQi D cy bs N kd len (fun r st => r = bz (mIs i X (a) (b)) ∧ st = (X, Y, R))) 0 0 (zA bs) := by
  refine zstart (by decide) (Nat.le_of_ble_eq_true rfl) ?_
  intro p e s m args below meth c ls C hE hH hr hlk hnm hl hargs
  have hF := hF hH.2.2.1 hH.2.2.2
  have hS : va_S (zA bs) s.heap s.heap [] := va_S.rf
  have hl : lv_has ls 3 [(0, .ref (bs + (i))), (1, .int (zI (a))), (2, .int (zI (b)))] := hl
  refine lv_iload_n C.1 C.2.1 dX11_is_0 rfl (lv_at hl 2 rfl) ?_
  refine zd_iconst C dX11_is_1 ?_
  refine lv_aload_n C.1 C.2.1 dX11_is_2 rfl (lv_at hl 0 rfl) ?_
  refine zg11_5 C hH (zM_n0 hM) (zM_k0 hM) q_1292 (zM_r5 hM) dX11_is_3 ?_
  refine lv_iload_n C.1 C.2.1 dX11_is_6 rfl (lv_at hl 1 rfl) ?_
  obtain ⟨o1, hF⟩ := hF
  refine zd_iald C hH (zM_n5 hM) (zM_k5 hM) o1.1 (by rw [zM_l5 hM]; exact o1.2) (by rw [zM_l5 hM]; decide) dX11_is_7 ?_
  refine zd_iconst C dX11_is_8 ?_
  refine zd_isub C dX11_is_9 ?_
  obtain ⟨o2, hF⟩ := hF
  refine zgoi (zrunS (As := [.int (zI (b)), .int (zI (0)), .int (zI ((X (i + 5) (a)) - 1))]) (rest := []) C hE hH hS hl.1 (c_X11_in (l := l)  (b) hb (0) (by decide) ((X (i + 5) (a)) - 1) o2) k_RX11_100 ⟨Nat.le_of_ble_eq_true rfl, Nat.le_of_ble_eq_true rfl⟩ rfl (Nat.le_of_ble_eq_true rfl) dX11_is_10 ⟨Nat.zero_le _, Nat.zero_le _⟩) hS (fun rq Xq Yq Rq H locs hrq hq hH hS => ?_)
  obtain ⟨h91, h92⟩ := hq
  have h93 : Xq = X := congrArg (fun z => z.1) h92
  have h94 : Yq = Y := congrArg (fun z => z.2.1) h92
  have h95 : Rq = R := congrArg (fun z => z.2.2) h92
  rw [h93, h94, h95] at hH
  subst h91
  exact zd_zret C hr hlk hH hS bz_01 (⟨hF, rfl⟩) dX11_is_13
theorem v_X11_is {X Y : Nat → Int → Int} {R : Nat → Int → Option Nat} {i : Nat} (a : Int) (ha : rI a) (b : Int) (hb : rI b) (hp : 0 ≤ a ∧ a < 5 ∧ 0 ≤ X (i + 5) a) : F_X11_is i X Y R a b := by
  unfold F_X11_is
  intro hX hY
  have := hX (i + 5) a
  exact ⟨⟨by omega, by omega⟩, ⟨by omega, by omega⟩, rfl⟩
theorem c_X11_is {l : Launch} {D : va_G} {cy : Nat → ClassId} {bs N : Nat} {sa : Nat → Nat} {kd len : Nat → Nat} {X Y : Nat → Int → Int} {R : Nat → Int → Option Nat} {i : Nat} (hM : zM N kd len R i) (a : Int) (ha : rI a) (b : Int) (hb : rI b) (hp : 0 ≤ a ∧ a < 5 ∧ 0 ≤ X (i + 5) a) : Met l yX11_is (.code yX11_is cX11_is 3 (some .boolean) :: zTB) (zRm 1 22) (zPc D cy bs sa N kd len X Y R [.ref (bs + (i)), .int (zI (a)), .int (zI (b))]) (zQi D cy bs N kd len (fun r st => r = bz (mIs i X (a) (b)) ∧ st = (X, Y, R))) 0 0 (zA bs) := w_X11_is hM a ha b hb (v_X11_is a ha b hb hp)
def mHas (s k : Int) : Bool := decide (zAnd (zShr s k) 1 = 1)
abbrev cX11_has : ByteArray := prog_13_method_4_code
def yX11_has : MethodName := ⟨RX11, "has", "(II)Z"⟩
theorem dX11_has_0 : decode cX11_has 0 = .ok (.iload_n 0, 1) := by decide +kernel
theorem dX11_has_1 : decode cX11_has 1 = .ok (.iload_n 1, 1) := by decide +kernel
theorem dX11_has_2 : decode cX11_has 2 = .ok (.ishr, 1) := by decide +kernel
theorem dX11_has_3 : decode cX11_has 3 = .ok (.iconst 1, 1) := by decide +kernel
theorem dX11_has_4 : decode cX11_has 4 = .ok (.iand, 1) := by decide +kernel
theorem dX11_has_5 : decode cX11_has 5 = .ok (.iconst 1, 1) := by decide +kernel
theorem dX11_has_6 : decode cX11_has 6 = .ok (.if_icmp .ne 7, 3) := by decide +kernel
theorem dX11_has_9 : decode cX11_has 9 = .ok (.iconst 1, 1) := by decide +kernel
theorem dX11_has_10 : decode cX11_has 10 = .ok (.goto 4, 3) := by decide +kernel
theorem dX11_has_13 : decode cX11_has 13 = .ok (.iconst 0, 1) := by decide +kernel
theorem dX11_has_14 : decode cX11_has 14 = .ok (.ireturn, 1) := by decide +kernel
def F_X11_has (X Y : Nat → Int → Int) (R : Nat → Int → Option Nat) (a : Int) (b : Int) : Prop := (∀ i j, rI (X i j)) → (∀ i j, rL (Y i j)) → ((¬ (zAnd (zShr (a) (b)) (1)) = 1) → (0 = bz (mHas (a) (b)))) ∧ ((¬ (¬ (zAnd (zShr (a) (b)) (1)) = 1)) → (1 = bz (mHas (a) (b))))
set_option maxHeartbeats 4000000 in
set_option maxRecDepth 100000 in
theorem w_X11_has {l : Launch} {D : va_G} {cy : Nat → ClassId} {bs N : Nat} {sa : Nat → Nat} {kd len : Nat → Nat} {X Y : Nat → Int → Int} {R : Nat → Int → Option Nat}  (a : Int) (ha : rI a) (b : Int) (hb : rI b) (hF : F_X11_has  X Y R a b) : Met l yX11_has (.code yX11_has cX11_has 2 (some .boolean) :: zTB) (zRm 0 0) (zPc D cy bs sa N kd len X Y R [.int (zI (a)), .int (zI (b))]) (zQi D cy bs N kd len (fun r st => r = bz (mHas (a) (b)) ∧ st = (X, Y, R))) 0 0 (zA bs) := by
  refine zstart (by decide) (Nat.le_of_ble_eq_true rfl) ?_
  intro p e s m args below meth c ls C hE hH hr hlk hnm hl hargs
  have hF := hF hH.2.2.1 hH.2.2.2
  have hS : va_S (zA bs) s.heap s.heap [] := va_S.rf
  have hl : lv_has ls 2 [(0, .int (zI (a))), (1, .int (zI (b)))] := hl
  refine lv_iload_n C.1 C.2.1 dX11_has_0 rfl (lv_at hl 0 rfl) ?_
  refine lv_iload_n C.1 C.2.1 dX11_has_1 rfl (lv_at hl 1 rfl) ?_
  refine zd_ishr C dX11_has_2 ?_
  refine zd_iconst C dX11_has_3 ?_
  refine zd_iand C dX11_has_4 ?_
  refine zd_iconst C dX11_has_5 ?_
  refine zd_icmp_ne C (zI_rg _) (by decide) 13 dX11_has_6 (by decide) (fun c1 => ?_) (fun c1 => ?_)
  · have hF := hF.1 c1
    refine zd_iconst C dX11_has_13 ?_
    exact zd_zret C hr hlk hH hS (by decide) (⟨hF, rfl⟩) dX11_has_14
  · have hF := hF.2 c1
    refine zd_iconst C dX11_has_9 ?_
    refine lv_goto (tgt := 14) C.1 C.2.1 dX11_has_10 (by decide) ?_
    exact zd_zret C hr hlk hH hS (by decide) (⟨hF, rfl⟩) dX11_has_14
theorem v_X11_has {X Y : Nat → Int → Int} {R : Nat → Int → Option Nat}  (a : Int) (ha : rI a) (b : Int) (hb : rI b) : F_X11_has  X Y R a b := by
  unfold F_X11_has mHas bz
  intro hX hY
  refine ⟨fun h => ?_, fun h => ?_⟩
  · simp [h]
  · simp only [Decidable.not_not] at h
    simp [h]
theorem c_X11_has {l : Launch} {D : va_G} {cy : Nat → ClassId} {bs N : Nat} {sa : Nat → Nat} {kd len : Nat → Nat} {X Y : Nat → Int → Int} {R : Nat → Int → Option Nat}  (a : Int) (ha : rI a) (b : Int) (hb : rI b) : Met l yX11_has (.code yX11_has cX11_has 2 (some .boolean) :: zTB) (zRm 0 0) (zPc D cy bs sa N kd len X Y R [.int (zI (a)), .int (zI (b))]) (zQi D cy bs N kd len (fun r st => r = bz (mHas (a) (b)) ∧ st = (X, Y, R))) 0 0 (zA bs) := w_X11_has  a ha b hb (v_X11_has a ha b hb)
def mOnesN (s : Int) : Nat → Int
  | 0 => 0
  | n + 1 => mOnesN s n + bz (mHas s n)
def mOnes (s : Int) : Int := mOnesN s 15
theorem mOnesN_b (s : Int) : ∀ n, 0 ≤ mOnesN s n ∧ mOnesN s n ≤ n
  | 0 => by simp [mOnesN]
  | n + 1 => by
    have := mOnesN_b s n
    unfold mOnesN
    cases mHas s n <;> simp only [bz] <;> constructor <;> simp <;> omega
abbrev cX11_ones : ByteArray := prog_13_method_7_code
def yX11_ones : MethodName := ⟨RX11, "ones", "(I)I"⟩
theorem dX11_ones_0 : decode cX11_ones 0 = .ok (.iconst 0, 1) := by decide +kernel
theorem dX11_ones_1 : decode cX11_ones 1 = .ok (.istore_n 1, 1) := by decide +kernel
theorem dX11_ones_2 : decode cX11_ones 2 = .ok (.iconst 0, 1) := by decide +kernel
theorem dX11_ones_3 : decode cX11_ones 3 = .ok (.istore_n 2, 1) := by decide +kernel
theorem dX11_ones_4 : decode cX11_ones 4 = .ok (.iload_n 2, 1) := by decide +kernel
theorem dX11_ones_5 : decode cX11_ones 5 = .ok (.bipush 15, 2) := by decide +kernel
theorem dX11_ones_7 : decode cX11_ones 7 = .ok (.if_icmp .ge 25, 3) := by decide +kernel
theorem dX11_ones_10 : decode cX11_ones 10 = .ok (.iload_n 1, 1) := by decide +kernel
theorem dX11_ones_11 : decode cX11_ones 11 = .ok (.iload_n 0, 1) := by decide +kernel
theorem dX11_ones_12 : decode cX11_ones 12 = .ok (.iload_n 2, 1) := by decide +kernel
theorem dX11_ones_13 : decode cX11_ones 13 = .ok (.invokestatic 92, 3) := by decide +kernel
theorem dX11_ones_16 : decode cX11_ones 16 = .ok (.ifCond .eq 7, 3) := by decide +kernel
theorem dX11_ones_19 : decode cX11_ones 19 = .ok (.iconst 1, 1) := by decide +kernel
theorem dX11_ones_20 : decode cX11_ones 20 = .ok (.goto 4, 3) := by decide +kernel
theorem dX11_ones_23 : decode cX11_ones 23 = .ok (.iconst 0, 1) := by decide +kernel
theorem dX11_ones_24 : decode cX11_ones 24 = .ok (.iadd, 1) := by decide +kernel
theorem dX11_ones_25 : decode cX11_ones 25 = .ok (.istore_n 1, 1) := by decide +kernel
theorem dX11_ones_26 : decode cX11_ones 26 = .ok (.iinc 2 1, 3) := by decide +kernel
theorem dX11_ones_29 : decode cX11_ones 29 = .ok (.goto (-25), 3) := by decide +kernel
theorem dX11_ones_32 : decode cX11_ones 32 = .ok (.iload_n 1, 1) := by decide +kernel
theorem dX11_ones_33 : decode cX11_ones 33 = .ok (.ireturn, 1) := by decide +kernel
theorem q_1702 : Cond.static yX11_has ∈ zTB := zmem 1702 (by decide +kernel) rfl
theorem q_1703 : Cond.code yX11_has cX11_has 2 (some .boolean) ∈ zTB := zmem 1703 (by decide +kernel) rfl
theorem q_1701 : Cond.methodLink RX11 92 yX11_has ∈ zTB := zmem 1701 (by decide +kernel) rfl
theorem k_RX11_92 : zLs RX11 92 yX11_has cX11_has 2 (some .boolean) 2 := ⟨⟨q_1701, q_1702, q_140, q_1703⟩, ⟨by decide, by decide⟩, by decide +kernel⟩
def F_X11_ones (X Y : Nat → Int → Int) (R : Nat → Int → Option Nat) (a : Int) : Prop := (∀ i j, rI (X i j)) → (∀ i j, rL (Y i j)) → (∃ j : Nat, (0 : Int) = j ∧ j ≤ 15 ∧ (0 : Int) = mOnesN a j) ∧ (∀ (n : Int) (k : Int), rI n → rI k → (∃ j : Nat, k = j ∧ j ≤ 15 ∧ n = mOnesN a j) → (((15 ≤ k) → (n = mOnes (a))) ∧ ((¬ (15 ≤ k)) → ((((mHas (a) (k)) = false) → ((rI (n + 0)) ∧ (rI (k + 1)) ∧ (∃ j : Nat, k + 1 = j ∧ j ≤ 15 ∧ n + 0 = mOnesN a j) ∧ (((15 - (k + 1)).toNat) < ((15 - (k)).toNat)))) ∧ (((mHas (a) (k)) = true) → ((rI (n + 1)) ∧ (rI (k + 1)) ∧ (∃ j : Nat, k + 1 = j ∧ j ≤ 15 ∧ n + 1 = mOnesN a j) ∧ (((15 - (k + 1)).toNat) < ((15 - (k)).toNat))))))))
set_option maxHeartbeats 4000000 in
set_option maxRecDepth 100000 in
theorem w_X11_ones {l : Launch} {D : va_G} {cy : Nat → ClassId} {bs N : Nat} {sa : Nat → Nat} {kd len : Nat → Nat} {X Y : Nat → Int → Int} {R : Nat → Int → Option Nat}  (a : Int) (ha : rI a) (hF : F_X11_ones  X Y R a) : Met l yX11_ones (.code yX11_ones cX11_ones 3 (some .int) :: zTB) (zRm 1 21) (zPc D cy bs sa N kd len X Y R [.int (zI (a))]) (zQi D cy bs N kd len (fun r st => r = mOnes (a) ∧ st = (X, Y, R))) 0 0 (zA bs) := by
  refine zstart (by decide) (Nat.le_of_ble_eq_true rfl) ?_
  intro p e s m args below meth c ls C hE hH hr hlk hnm hl hargs
  have hF := hF hH.2.2.1 hH.2.2.2
  have hS : va_S (zA bs) s.heap s.heap [] := va_S.rf
  have hl : lv_has ls 3 [(0, .int (zI (a)))] := hl
  refine zd_iconst C dX11_ones_0 ?_
  refine lv_istore_n (lv' := [(1, .int (zI (0))), (0, .int (zI (a)))]) C.1 C.2.1 dX11_ones_1 rfl hl (by decide) rfl (fun ls hl => ?_)
  refine zd_iconst C dX11_ones_2 ?_
  refine lv_istore_n (lv' := [(2, .int (zI (0))), (1, .int (zI (0))), (0, .int (zI (a)))]) C.1 C.2.1 dX11_ones_3 rfl hl (by decide) rfl (fun ls hl => ?_)
  obtain ⟨hI1, hF⟩ := hF
  have L1 : ∀ (fu : Nat) (n : Int) (k : Int), rI n → rI k → (∃ j : Nat, k = j ∧ j ≤ 15 ∧ n = mOnesN a j) → ((15 - (k)).toNat) < fu → ∀ (H : Heap) (locs : List Loc) (ls : Array Slot), zH D cy bs N kd len X Y R H → va_S (zA bs) s.heap H locs → lv_has ls 3 [(1, .int (zI (n))), (2, .int (zI (k))), (0, .int (zI (a)))] → W p l e (zRm 1 21) s m args below meth c H locs 0 0 (MQ below (zQi D cy bs N kd len (fun r st => r = mOnes (a) ∧ st = (X, Y, R))) args s 0 0 (zA bs)) (F0 m 4 ls []) := by
    intro fu
    induction fu with
    | zero => intro n k _ _ _ hmu; exact absurd hmu (Nat.not_lt_zero _)
    | succ fu ih1 =>
      intro n k hn hk hI hmu1 H locs ls hH hS hl
      have hF := hF n k hn hk  hI
      refine lv_iload_n C.1 C.2.1 dX11_ones_4 rfl (lv_at hl 1 rfl) ?_
      refine zd_bipush C (by decide) dX11_ones_5 ?_
      refine zd_icmp_ge C hk (by decide) 32 dX11_ones_7 (by decide) (fun c2 => ?_) (fun c2 => ?_)
      · have hF := hF.1 c2
        refine lv_iload_n C.1 C.2.1 dX11_ones_32 rfl (lv_at hl 0 rfl) ?_
        exact zd_iret C hr hlk hH hS hn (⟨hF, rfl⟩) dX11_ones_33
      · have hF := hF.2 c2
        refine lv_iload_n C.1 C.2.1 dX11_ones_10 rfl (lv_at hl 0 rfl) ?_
        refine lv_iload_n C.1 C.2.1 dX11_ones_11 rfl (lv_at hl 2 rfl) ?_
        refine lv_iload_n C.1 C.2.1 dX11_ones_12 rfl (lv_at hl 1 rfl) ?_
        refine zgoi (zrunS (As := [.int (zI (a)), .int (zI (k))]) (rest := [.int (zI (n))]) C hE hH hS hl.1 (c_X11_has (l := l)  (a) ha (k) hk) k_RX11_92 ⟨Nat.le_of_ble_eq_true rfl, Nat.le_of_ble_eq_true rfl⟩ rfl (Nat.le_of_ble_eq_true rfl) dX11_ones_13 ⟨Nat.zero_le _, Nat.zero_le _⟩) hS (fun rq Xq Yq Rq H locs hrq hq hH hS => ?_)
        obtain ⟨h91, h92⟩ := hq
        have h93 : Xq = X := congrArg (fun z => z.1) h92
        have h94 : Yq = Y := congrArg (fun z => z.2.1) h92
        have h95 : Rq = R := congrArg (fun z => z.2.2) h92
        rw [h93, h94, h95] at hH
        subst h91
        refine zd_ifB_eq C 23 dX11_ones_16 (by decide) (fun c3 => ?_) (fun c3 => ?_)
        · have hF := hF.1 c3
          refine zd_iconst C dX11_ones_23 ?_
          refine zd_iadd C dX11_ones_24 ?_
          refine lv_istore_n (lv' := [(1, .int (zI (n + 0))), (2, .int (zI (k))), (0, .int (zI (a)))]) C.1 C.2.1 dX11_ones_25 rfl hl (by decide) rfl (fun ls hl => ?_)
          refine zd_iinc (k := 1) (lv' := [(2, .int (zI (k + 1))), (1, .int (zI (n + 0))), (0, .int (zI (a)))]) C hl rfl dX11_ones_26 (by decide) rfl (fun ls hl => ?_)
          refine lv_goto (tgt := 4) C.1 C.2.1 dX11_ones_29 (by decide) ?_
          obtain ⟨o4, hF⟩ := hF
          obtain ⟨o5, hF⟩ := hF
          exact ih1 (n + 0) (k + 1) o4 o5 hF.1 (Nat.lt_of_lt_of_le hF.2 (Nat.le_of_lt_succ hmu1)) _ _ _ hH hS (lv_sub hl [1, 0, 2] rfl)
        · have hF := hF.2 c3
          refine zd_iconst C dX11_ones_19 ?_
          refine lv_goto (tgt := 24) C.1 C.2.1 dX11_ones_20 (by decide) ?_
          refine zd_iadd C dX11_ones_24 ?_
          refine lv_istore_n (lv' := [(1, .int (zI (n + 1))), (2, .int (zI (k))), (0, .int (zI (a)))]) C.1 C.2.1 dX11_ones_25 rfl hl (by decide) rfl (fun ls hl => ?_)
          refine zd_iinc (k := 1) (lv' := [(2, .int (zI (k + 1))), (1, .int (zI (n + 1))), (0, .int (zI (a)))]) C hl rfl dX11_ones_26 (by decide) rfl (fun ls hl => ?_)
          refine lv_goto (tgt := 4) C.1 C.2.1 dX11_ones_29 (by decide) ?_
          obtain ⟨o6, hF⟩ := hF
          obtain ⟨o7, hF⟩ := hF
          exact ih1 (n + 1) (k + 1) o6 o7 hF.1 (Nat.lt_of_lt_of_le hF.2 (Nat.le_of_lt_succ hmu1)) _ _ _ hH hS (lv_sub hl [1, 0, 2] rfl)
  exact L1 (((15 - ((0 : Int))).toNat) + 1) ((0 : Int)) ((0 : Int)) (by decide) (by decide) hI1 (Nat.lt_succ_self _) _ _ _ hH hS (lv_sub hl [1, 0, 2] rfl)
theorem v_X11_ones {X Y : Nat → Int → Int} {R : Nat → Int → Option Nat}  (a : Int) (ha : rI a) : F_X11_ones  X Y R a := by
  unfold F_X11_ones
  intro hX hY
  refine ⟨⟨0, rfl, by decide, rfl⟩, ?_⟩
  rintro n k hn hk ⟨j, rfl, hj, rfl⟩
  have hb := mOnesN_b a j
  refine ⟨fun h => ?_, fun h => ⟨fun h2 => ?_, fun h2 => ?_⟩⟩
  · rw [show j = 15 by omega]
    rfl
  · refine ⟨⟨by omega, by omega⟩, ⟨by omega, by omega⟩, ⟨j + 1, by omega, by omega, ?_⟩, by omega⟩
    simp [mOnesN, h2, bz]
  · refine ⟨⟨by omega, by omega⟩, ⟨by omega, by omega⟩, ⟨j + 1, by omega, by omega, ?_⟩, by omega⟩
    simp [mOnesN, h2, bz]
theorem c_X11_ones {l : Launch} {D : va_G} {cy : Nat → ClassId} {bs N : Nat} {sa : Nat → Nat} {kd len : Nat → Nat} {X Y : Nat → Int → Int} {R : Nat → Int → Option Nat}  (a : Int) (ha : rI a) : Met l yX11_ones (.code yX11_ones cX11_ones 3 (some .int) :: zTB) (zRm 1 21) (zPc D cy bs sa N kd len X Y R [.int (zI (a))]) (zQi D cy bs N kd len (fun r st => r = mOnes (a) ∧ st = (X, Y, R))) 0 0 (zA bs) := w_X11_ones  a ha (v_X11_ones a ha)
