/-! TABLES OF CELLS, THE SMALL CONSTRUCTORS -/
theorem zO0 : ∀ j, j < 6 → defaultValue (tyX0 j) = vp_V [.int (zI 0), va_rf none, va_rf none, va_rf none, va_rf none, va_rf none] j := by
  intro j hj
  have h : j = 0 ∨ j = 1 ∨ j = 2 ∨ j = 3 ∨ j = 4 ∨ j = 5 := by omega
  rcases h with rfl | rfl | rfl | rfl | rfl | rfl <;> rfl
theorem zO1 : ∀ j, j < 12 → defaultValue (tyX1 j) = vp_V [va_rf none, va_rf none, .int (zI 0), .int (zI 0), va_rf none, va_rf none, va_rf none, va_rf none, va_rf none, va_rf none, va_rf none, va_rf none] j := by
  intro j hj
  have h : j = 0 ∨ j = 1 ∨ j = 2 ∨ j = 3 ∨ j = 4 ∨ j = 5 ∨ j = 6 ∨ j = 7 ∨ j = 8 ∨ j = 9 ∨ j = 10 ∨ j = 11 := by omega
  rcases h with rfl | rfl | rfl | rfl | rfl | rfl | rfl | rfl | rfl | rfl | rfl | rfl <;> rfl
theorem zO2 : ∀ j, j < 15 → defaultValue (tyX2 j) = vp_V [va_rf none, .int (zI 0), .int (zI 0), va_rf none, .int (zI 0), .int (zI 0), .int (zI 0), .int (zI 0), .int (zI 0), .int (zI 0), .int (zI 0), .int (zI 0), .int (zI 0), .int (zI 0), .int (zI 0)] j := by
  intro j hj
  have h : j = 0 ∨ j = 1 ∨ j = 2 ∨ j = 3 ∨ j = 4 ∨ j = 5 ∨ j = 6 ∨ j = 7 ∨ j = 8 ∨ j = 9 ∨ j = 10 ∨ j = 11 ∨ j = 12 ∨ j = 13 ∨ j = 14 := by omega
  rcases h with rfl | rfl | rfl | rfl | rfl | rfl | rfl | rfl | rfl | rfl | rfl | rfl | rfl | rfl | rfl <;> rfl
theorem zO3 : ∀ j, j < 6 → defaultValue (tyX3 j) = vp_V [va_rf none, va_rf none, va_rf none, va_rf none, .int (zI 0), .int (zI 0)] j := by
  intro j hj
  have h : j = 0 ∨ j = 1 ∨ j = 2 ∨ j = 3 ∨ j = 4 ∨ j = 5 := by omega
  rcases h with rfl | rfl | rfl | rfl | rfl | rfl <;> rfl
theorem zO4 : ∀ j, j < 6 → defaultValue (tyX4 j) = vp_V [va_rf none, va_rf none, va_rf none, va_rf none, va_rf none, .int (zI 0)] j := by
  intro j hj
  have h : j = 0 ∨ j = 1 ∨ j = 2 ∨ j = 3 ∨ j = 4 ∨ j = 5 := by omega
  rcases h with rfl | rfl | rfl | rfl | rfl | rfl <;> rfl
theorem zO5 : ∀ j, j < 2 → defaultValue (tyX5 j) = vp_V [.int (zI 0), va_rf none] j := by
  intro j hj
  have h : j = 0 ∨ j = 1 := by omega
  rcases h with rfl | rfl <;> rfl
theorem zO6 : ∀ j, j < 8 → defaultValue (tyX6 j) = vp_V [.int (zI 0), .int (zI 0), .int (zI 0), .int (zI 0), .int (zI 0), .int (zI 0), .int (zI 0), va_rf none] j := by
  intro j hj
  have h : j = 0 ∨ j = 1 ∨ j = 2 ∨ j = 3 ∨ j = 4 ∨ j = 5 ∨ j = 6 ∨ j = 7 := by omega
  rcases h with rfl | rfl | rfl | rfl | rfl | rfl | rfl | rfl <;> rfl
theorem zO7 : ∀ j, j < 12 → defaultValue (tyX7 j) = vp_V [va_rf none, va_rf none, va_rf none, .int (zI 0), .int (zI 0), va_rf none, .int (zI 0), .int (zI 0), .int (zI 0), .int (zI 0), .int (zI 0), va_rf none] j := by
  intro j hj
  have h : j = 0 ∨ j = 1 ∨ j = 2 ∨ j = 3 ∨ j = 4 ∨ j = 5 ∨ j = 6 ∨ j = 7 ∨ j = 8 ∨ j = 9 ∨ j = 10 ∨ j = 11 := by omega
  rcases h with rfl | rfl | rfl | rfl | rfl | rfl | rfl | rfl | rfl | rfl | rfl | rfl <;> rfl
theorem zO8 : ∀ j, j < 4 → defaultValue (tyX8 j) = vp_V [.int (zI 0), .int (zI 0), .int (zI 0), va_rf none] j := by
  intro j hj
  have h : j = 0 ∨ j = 1 ∨ j = 2 ∨ j = 3 := by omega
  rcases h with rfl | rfl | rfl | rfl <;> rfl
theorem zO9 : ∀ j, j < 8 → defaultValue (tyX9 j) = vp_V [va_rf none, .int (zI 0), .int (zI 0), .int (zI 0), va_rf none, va_rf none, va_rf none, va_rf none] j := by
  intro j hj
  have h : j = 0 ∨ j = 1 ∨ j = 2 ∨ j = 3 ∨ j = 4 ∨ j = 5 ∨ j = 6 ∨ j = 7 := by omega
  rcases h with rfl | rfl | rfl | rfl | rfl | rfl | rfl | rfl <;> rfl
theorem zO10 : ∀ j, j < 9 → defaultValue (tyX10 j) = vp_V [va_rf none, va_rf none, va_rf none, va_rf none, va_rf none, va_rf none, va_rf none, va_rf none, va_rf none] j := by
  intro j hj
  have h : j = 0 ∨ j = 1 ∨ j = 2 ∨ j = 3 ∨ j = 4 ∨ j = 5 ∨ j = 6 ∨ j = 7 ∨ j = 8 := by omega
  rcases h with rfl | rfl | rfl | rfl | rfl | rfl | rfl | rfl | rfl <;> rfl
theorem zO11 : ∀ j, j < 66 → defaultValue (tyX11 j) = vp_V [.int (zI 0), va_rf none, va_rf none, va_rf none, va_rf none, va_rf none, va_rf none, va_rf none, va_rf none, va_rf none, va_rf none, .int (zI 0), .int (zI 0), .int (zI 0), .int (zI 0), .int (zI 0), .long (zL 0), .int (zI 0), .int (zI 0), .int (zI 0), va_rf none, va_rf none, .int (zI 0), .int (zI 0), .int (zI 0), .int (zI 0), .int (zI 0), .int (zI 0), .int (zI 0), .int (zI 0), .int (zI 0), va_rf none, va_rf none, va_rf none, va_rf none, .int (zI 0), .int (zI 0), .int (zI 0), va_rf none, va_rf none, .int (zI 0), .int (zI 0), .int (zI 0), .int (zI 0), .int (zI 0), .int (zI 0), .int (zI 0), .int (zI 0), .int (zI 0), va_rf none, va_rf none, .int (zI 0), .int (zI 0), va_rf none, va_rf none, .int (zI 0), .int (zI 0), .int (zI 0), .int (zI 0), .int (zI 0), .int (zI 0), .int (zI 0), va_rf none, va_rf none, .int (zI 0), va_rf none] j := by
  intro j hj
  have h : j = 0 ∨ j = 1 ∨ j = 2 ∨ j = 3 ∨ j = 4 ∨ j = 5 ∨ j = 6 ∨ j = 7 ∨ j = 8 ∨ j = 9 ∨ j = 10 ∨ j = 11 ∨ j = 12 ∨ j = 13 ∨ j = 14 ∨ j = 15 ∨ j = 16 ∨ j = 17 ∨ j = 18 ∨ j = 19 ∨ j = 20 ∨ j = 21 ∨ j = 22 ∨ j = 23 ∨ j = 24 ∨ j = 25 ∨ j = 26 ∨ j = 27 ∨ j = 28 ∨ j = 29 ∨ j = 30 ∨ j = 31 ∨ j = 32 ∨ j = 33 ∨ j = 34 ∨ j = 35 ∨ j = 36 ∨ j = 37 ∨ j = 38 ∨ j = 39 ∨ j = 40 ∨ j = 41 ∨ j = 42 ∨ j = 43 ∨ j = 44 ∨ j = 45 ∨ j = 46 ∨ j = 47 ∨ j = 48 ∨ j = 49 ∨ j = 50 ∨ j = 51 ∨ j = 52 ∨ j = 53 ∨ j = 54 ∨ j = 55 ∨ j = 56 ∨ j = 57 ∨ j = 58 ∨ j = 59 ∨ j = 60 ∨ j = 61 ∨ j = 62 ∨ j = 63 ∨ j = 64 ∨ j = 65 := by omega
  rcases h with rfl | rfl | rfl | rfl | rfl | rfl | rfl | rfl | rfl | rfl | rfl | rfl | rfl | rfl | rfl | rfl | rfl | rfl | rfl | rfl | rfl | rfl | rfl | rfl | rfl | rfl | rfl | rfl | rfl | rfl | rfl | rfl | rfl | rfl | rfl | rfl | rfl | rfl | rfl | rfl | rfl | rfl | rfl | rfl | rfl | rfl | rfl | rfl | rfl | rfl | rfl | rfl | rfl | rfl | rfl | rfl | rfl | rfl | rfl | rfl | rfl | rfl | rfl | rfl | rfl | rfl <;> rfl
def tNet : List (Nat × Nat) := [(6, 0), (13, 6)]
def tLedger : List (Nat × Nat) := [(5, 0), (13, 6)]
def tBlocks : List (Nat × Nat) := [(0, 0), (13, 15), (13, 15), (13, 15), (13, 15), (13, 135)]
def tRows2 : List (Nat × Nat) := [(8, 0), (13, 80)]
def tRows3 : List (Nat × Nat) := [(8, 0), (13, 16)]
def tRows4 : List (Nat × Nat) := [(8, 0), (13, 24)]
def tChart : List (Nat × Nat) := [(1, 0), (6, 0), (13, 6), (0, 0), (13, 15), (13, 15), (13, 15), (13, 15), (13, 135), (13, 15), (13, 15), (13, 15), (14, 15), (14, 15), (17, 15), (14, 15), (13, 15), (5, 0), (13, 6), (5, 0), (13, 6), (5, 0), (13, 6), (5, 0), (13, 6), (5, 0), (13, 6), (5, 0), (13, 6), (5, 0), (13, 6), (5, 0), (13, 6), (5, 0), (13, 6), (5, 0), (13, 6), (5, 0), (13, 6), (5, 0), (13, 6), (5, 0), (13, 6), (5, 0), (13, 6), (5, 0), (13, 6)]
def tCourse : List (Nat × Nat) := [(2, 0), (13, 15)]
def tLaws : List (Nat × Nat) := [(4, 0), (21, 36), (13, 41), (13, 41), (13, 41), (13, 41), (13, 41), (13, 41), (13, 41), (13, 41), (13, 41), (13, 41), (13, 41), (13, 41), (13, 41), (13, 41), (13, 41), (13, 41), (13, 41), (13, 41), (13, 41), (13, 41), (13, 41), (13, 41), (13, 41), (13, 41), (13, 41), (13, 41), (13, 41), (13, 41), (13, 41), (13, 41), (13, 41), (13, 41), (13, 41), (13, 41), (13, 41), (13, 41), (13, 16), (13, 36)]
def tFilling : List (Nat × Nat) := [(3, 0), (8, 0), (13, 24), (17, 4), (13, 3), (13, 3), (5, 0), (13, 6), (5, 0), (13, 6), (5, 0), (13, 6), (5, 0), (13, 6)]
def tReader : List (Nat × Nat) := [(7, 0), (6, 0), (13, 6), (0, 0), (13, 15), (13, 15), (13, 15), (13, 15), (13, 135), (19, 3), (12, 0), (13, 4), (8, 0), (13, 80), (8, 0), (13, 16), (8, 0), (13, 24)]
def tTold : List (Nat × Nat) := [(9, 0), (12, 600), (13, 5), (18, 2), (16, 2), (19, 6), (6, 0), (13, 6), (0, 0), (13, 15), (13, 15), (13, 15), (13, 15), (13, 135), (6, 0), (13, 6), (0, 0), (13, 15), (13, 15), (13, 15), (13, 15), (13, 135), (8, 0), (13, 80), (8, 0), (13, 80), (8, 0), (13, 16), (8, 0), (13, 16), (8, 0), (13, 24), (8, 0), (13, 24)]
def tWC : List (Nat × Nat) := [(10, 0), (9, 0), (12, 600), (13, 5), (18, 2), (16, 2), (19, 6), (6, 0), (13, 6), (0, 0), (13, 15), (13, 15), (13, 15), (13, 15), (13, 135), (6, 0), (13, 6), (0, 0), (13, 15), (13, 15), (13, 15), (13, 15), (13, 135), (8, 0), (13, 80), (8, 0), (13, 80), (8, 0), (13, 16), (8, 0), (13, 16), (8, 0), (13, 24), (8, 0), (13, 24), (20, 3), (9, 0), (12, 600), (13, 5), (18, 2), (16, 2), (19, 6), (6, 0), (13, 6), (0, 0), (13, 15), (13, 15), (13, 15), (13, 15), (13, 135), (6, 0), (13, 6), (0, 0), (13, 15), (13, 15), (13, 15), (13, 15), (13, 135), (8, 0), (13, 80), (8, 0), (13, 80), (8, 0), (13, 16), (8, 0), (13, 16), (8, 0), (13, 24), (8, 0), (13, 24), (9, 0), (12, 600), (13, 5), (18, 2), (16, 2), (19, 6), (6, 0), (13, 6), (0, 0), (13, 15), (13, 15), (13, 15), (13, 15), (13, 135), (6, 0), (13, 6), (0, 0), (13, 15), (13, 15), (13, 15), (13, 15), (13, 135), (8, 0), (13, 80), (8, 0), (13, 80), (8, 0), (13, 16), (8, 0), (13, 16), (8, 0), (13, 24), (8, 0), (13, 24), (9, 0), (12, 600), (13, 5), (18, 2), (16, 2), (19, 6), (6, 0), (13, 6), (0, 0), (13, 15), (13, 15), (13, 15), (13, 15), (13, 135), (6, 0), (13, 6), (0, 0), (13, 15), (13, 15), (13, 15), (13, 15), (13, 135), (8, 0), (13, 80), (8, 0), (13, 80), (8, 0), (13, 16), (8, 0), (13, 16), (8, 0), (13, 24), (8, 0), (13, 24), (15, 3), (7, 0), (6, 0), (13, 6), (0, 0), (13, 15), (13, 15), (13, 15), (13, 15), (13, 135), (19, 3), (12, 0), (13, 4), (8, 0), (13, 80), (8, 0), (13, 16), (8, 0), (13, 24), (1, 0), (6, 0), (13, 6), (0, 0), (13, 15), (13, 15), (13, 15), (13, 15), (13, 135), (13, 15), (13, 15), (13, 15), (14, 15), (14, 15), (17, 15), (14, 15), (13, 15), (5, 0), (13, 6), (5, 0), (13, 6), (5, 0), (13, 6), (5, 0), (13, 6), (5, 0), (13, 6), (5, 0), (13, 6), (5, 0), (13, 6), (5, 0), (13, 6), (5, 0), (13, 6), (5, 0), (13, 6), (5, 0), (13, 6), (5, 0), (13, 6), (5, 0), (13, 6), (5, 0), (13, 6), (5, 0), (13, 6), (2, 0), (13, 15), (4, 0), (21, 36), (13, 41), (13, 41), (13, 41), (13, 41), (13, 41), (13, 41), (13, 41), (13, 41), (13, 41), (13, 41), (13, 41), (13, 41), (13, 41), (13, 41), (13, 41), (13, 41), (13, 41), (13, 41), (13, 41), (13, 41), (13, 41), (13, 41), (13, 41), (13, 41), (13, 41), (13, 41), (13, 41), (13, 41), (13, 41), (13, 41), (13, 41), (13, 41), (13, 41), (13, 41), (13, 41), (13, 41), (13, 16), (13, 36), (3, 0), (8, 0), (13, 24), (17, 4), (13, 3), (13, 3), (5, 0), (13, 6), (5, 0), (13, 6), (5, 0), (13, 6), (5, 0), (13, 6), (5, 0), (13, 6)]
theorem kT_0 {kd len : Nat → Nat} {i : Nat} {T : List (Nat × Nat)} {k l : Nat} (h : kT kd len i T) (e : T[0]? = some (k, l)) : kd i = k := by
  have b := (h 0 (List.getElem?_eq_some_iff.mp e).1).1
  rw [List.getD_eq_getElem?_getD, e] at b
  exact b
theorem kT_k {kd len : Nat → Nat} {i : Nat} {T : List (Nat × Nat)} {k l : Nat} (h : kT kd len i T) (o : Nat) (e : T[o]? = some (k, l)) : kd (i + o) = k := by
  have b := (h o (List.getElem?_eq_some_iff.mp e).1).1
  rw [List.getD_eq_getElem?_getD, e] at b
  exact b
theorem kT_l {kd len : Nat → Nat} {i : Nat} {T : List (Nat × Nat)} {k l : Nat} (h : kT kd len i T) (o : Nat) (e : T[o]? = some (k, l)) : len (i + o) = l := by
  have b := (h o (List.getElem?_eq_some_iff.mp e).1).2
  rw [List.getD_eq_getElem?_getD, e] at b
  exact b
def eNt (R : Nat → Int → Option Nat) (i : Nat) : Prop := R i 7 = some (i + 1)
def eLd (R : Nat → Int → Option Nat) (i : Nat) : Prop := R i 1 = some (i + 1)
def eRw (R : Nat → Int → Option Nat) (i : Nat) : Prop := R i 3 = some (i + 1)
def eBk (R : Nat → Int → Option Nat) (i : Nat) : Prop := R i 1 = some (i + 1) ∧ R i 2 = some (i + 2) ∧ R i 3 = some (i + 3) ∧ R i 4 = some (i + 4) ∧ R i 5 = some (i + 5)
/-- the whole of a new block's rows -/
def z0B (X : Nat → Int → Int) (i : Nat) : Prop := ∀ s : Nat, s ≤ 5 → ∀ y, X (i + s) y = 0
def z0R (X : Nat → Int → Int) (i : Nat) (w m : Int) : Prop := X i 0 = w ∧ X i 1 = m ∧ X i 2 = 0 ∧ ∀ y, X (i + 1) y = 0
def z0N (X : Nat → Int → Int) (i : Nat) : Prop := X i 6 = 0 ∧ ∀ y, X (i + 1) y = 0
theorem zNet_of {N : Nat} {kd len : Nat → Nat} {R : Nat → Int → Option Nat} {i : Nat} (hK : kT kd len i tNet) (hN : i + 1 < N) (h : eNt R i) : zNet N kd len R i :=
  ⟨hN, kT_0 hK rfl, kT_k hK 1 rfl, kT_l hK 1 rfl, h⟩
theorem zLedger_of {N : Nat} {kd len : Nat → Nat} {R : Nat → Int → Option Nat} {i : Nat} (hK : kT kd len i tLedger) (hN : i + 1 < N) (h : eLd R i) : zLedger N kd len R i :=
  ⟨hN, kT_0 hK rfl, kT_k hK 1 rfl, kT_l hK 1 rfl, h⟩
theorem zBlocks_of {N : Nat} {kd len : Nat → Nat} {R : Nat → Int → Option Nat} {i : Nat} (hK : kT kd len i tBlocks) (hN : i + 5 < N) (h : eBk R i) : zBlocks N kd len R i :=
  ⟨hN, kT_0 hK rfl, kT_k hK 1 rfl, kT_l hK 1 rfl, h.1, kT_k hK 2 rfl, kT_l hK 2 rfl, h.2.1, kT_k hK 3 rfl, kT_l hK 3 rfl, h.2.2.1, kT_k hK 4 rfl, kT_l hK 4 rfl, h.2.2.2.1, kT_k hK 5 rfl, kT_l hK 5 rfl, h.2.2.2.2⟩
theorem zRows2_of {N : Nat} {kd len : Nat → Nat} {R : Nat → Int → Option Nat} {i : Nat} (hK : kT kd len i tRows2) (hN : i + 1 < N) (h : eRw R i) : zRows N kd len R i 80 :=
  ⟨hN, kT_0 hK rfl, kT_k hK 1 rfl, kT_l hK 1 rfl, h⟩
theorem zRows3_of {N : Nat} {kd len : Nat → Nat} {R : Nat → Int → Option Nat} {i : Nat} (hK : kT kd len i tRows3) (hN : i + 1 < N) (h : eRw R i) : zRows N kd len R i 16 :=
  ⟨hN, kT_0 hK rfl, kT_k hK 1 rfl, kT_l hK 1 rfl, h⟩
theorem zRows4_of {N : Nat} {kd len : Nat → Nat} {R : Nat → Int → Option Nat} {i : Nat} (hK : kT kd len i tRows4) (hN : i + 1 < N) (h : eRw R i) : zRows N kd len R i 24 :=
  ⟨hN, kT_0 hK rfl, kT_k hK 1 rfl, kT_l hK 1 rfl, h⟩
theorem nV_0 {X : Nat → Int → Int} {i : Nat} (h : z0N X i) : nV X i := fun a _ _ => by rw [h.2 a]; decide
theorem bV_0 {X : Nat → Int → Int} {i : Nat} (h : z0B X i) : bV X i :=
  ⟨fun y _ _ => by rw [h 5 (by decide) y]; decide, h 2 (by decide) 0, h 4 (by decide) 0⟩
theorem rowV_0 {X : Nat → Int → Int} {i nn : Nat} {w m : Int} (h : z0R X i w m) (hw : w = 2 ∨ w = 4) (hm : 0 ≤ m ∧ m ≤ 40) (hn : (nn : Int) = m * w) : rowV X i w m nn :=
  ⟨⟨by rw [h.1]; exact hw, ⟨by rw [h.2.2.1]; decide, by rw [h.2.2.1, h.2.1]; exact hm.1⟩, by rw [h.2.1]; exact hm.2, by rw [h.1, h.2.1]; exact hn⟩, h.1, h.2.1⟩
/-! the constructors -/
abbrev cX6_init : ByteArray := prog_8_method_1_code
def yX6_init : MethodName := ⟨RX6, "<init>", "()V"⟩
theorem dX6_init_0 : decode cX6_init 0 = .ok (.aload_n 0, 1) := by decide +kernel
theorem dX6_init_1 : decode cX6_init 1 = .ok (.invokespecial 3, 3) := by decide +kernel
theorem dX6_init_4 : decode cX6_init 4 = .ok (.aload_n 0, 1) := by decide +kernel
theorem dX6_init_5 : decode cX6_init 5 = .ok (.bipush 6, 2) := by decide +kernel
theorem dX6_init_7 : decode cX6_init 7 = .ok (.newarray .int, 2) := by decide +kernel
theorem dX6_init_9 : decode cX6_init 9 = .ok (.putfield 9, 3) := by decide +kernel
theorem dX6_init_12 : decode cX6_init 12 = .ok (.aload_n 0, 1) := by decide +kernel
theorem dX6_init_13 : decode cX6_init 13 = .ok (.invokevirtual 15, 3) := by decide +kernel
theorem dX6_init_16 : decode cX6_init 16 = .ok (.return_, 1) := by decide +kernel
theorem q_172 : Cond.methodLink RX6 3 Lib.objectInit ∈ zTB := zmem 172 (by decide +kernel) rfl
theorem q_154 : Cond.instanceMethod Lib.objectInit ∈ zTB := zmem 154 (by decide +kernel) rfl
theorem q_155 : Cond.code Lib.objectInit ⟨#[0xb1]⟩ 1 none ∈ zTB := zmem 155 (by decide +kernel) rfl
theorem q_218 : Cond.arrayClass .int ∈ zTB := zmem 218 (by decide +kernel) rfl
theorem q_173 : Cond.methodLink RX6 15 yX6_clear ∈ zTB := zmem 173 (by decide +kernel) rfl
theorem k_RX6_15 : zLv RX6 15 RX6 yX6_clear cX6_clear 1 none 0 := ⟨⟨q_173, q_174, q_175, q_131, q_176⟩, rfl, ⟨by decide, by decide⟩, by decide +kernel⟩
set_option maxHeartbeats 4000000 in
set_option maxRecDepth 100000 in
def F_X6_init (i : Nat) (X Y : Nat → Int → Int) (R : Nat → Int → Option Nat)  : Prop := (∀ i j, rI (X i j)) → (∀ i j, rL (Y i j)) → ∀ X1 : Nat → Int → Int, X1 = zZ X (i + 1) 0 → (∀ i j, rI (X1 i j)) → (∀ R2 : Nat → Int → Option Nat, R2 = zU R (i) 7 (some ((i + 1))) → ((eNt R2 i) ∧ (∀ X4 : Nat → Int → Int, (∀ i j, rI (X4 i j)) → ((X4) = zU (zU (zU (zU (zU (zU (zU X1 i 0 2) i 1 10) i 2 10) i 3 0) i 4 0) i 5 5) i 6 0) → ((∀ z, z ≠ i → z ≠ i + 1 → X4 z = X z) ∧ (∀ z, z ≠ i → R2 z = R z) ∧ eNt R2 i ∧ z0N X4 i))))
set_option maxHeartbeats 4000000 in
set_option maxRecDepth 100000 in
theorem w_X6_init {l : Launch} {D : va_G} {cy : Nat → ClassId} {bs : Nat} {sa : Nat → Nat} {kd len : Nat → Nat} {X Y : Nat → Int → Int} {R : Nat → Int → Option Nat} {i : Nat} (hK : kT kd len i tNet)  (hF : F_X6_init i X Y R ) : Met l yX6_init (.code yX6_init cX6_init 1 none :: zTB) (zRmG 1 60 1 6) (zPcA D cy bs sa (i + 1) kd len X Y R [.ref (bs + (i))]) (zQv D cy bs (i + 2) kd len (fun st => st.2.1 = Y ∧ ((∀ z, z ≠ i → z ≠ i + 1 → st.1 z = X z) ∧ (∀ z, z ≠ i → st.2.2 z = R z) ∧ eNt st.2.2 i ∧ z0N st.1 i))) 1 6 (zA bs) := by
  refine zstartGA (by decide) (Nat.le_of_ble_eq_true rfl) ?_
  intro p e s m args below meth c ls C hE hA hH hr hlk hnm hl hargs
  have hF := hF hH.2.2.1 hH.2.2.2
  have hS : va_S (zA bs) s.heap s.heap [] := va_S.rf
  have hl : lv_has ls 1 [(0, .ref (bs + (i)))] := hl
  refine lv_aload_n C.1 C.2.1 dX6_init_0 rfl (lv_at hl 0 rfl) ?_
  refine zd_oinit C hl.1 q_172 q_154 q_155 (Nat.le_of_ble_eq_true rfl) dX6_init_1 (Nat.le_of_ble_eq_true rfl) (Nat.le_of_ble_eq_true rfl) ?_
  refine lv_aload_n C.1 C.2.1 dX6_init_4 rfl (lv_at hl 0 rfl) ?_
  refine zd_bipush C (by decide) dX6_init_5 ?_
  refine zd_newI C hH hS q_218 (n := 6) rfl (by decide) (kT_k (k := 13) (l := 6) hK 1 (by decide +kernel)) (kT_l (k := 13) (l := 6) hK 1 (by decide +kernel)) (Nat.le_of_ble_eq_true rfl) (Nat.le_of_ble_eq_true rfl) dX6_init_7 (fun H hH hS => ?_)
  obtain ⟨X1, eX1⟩ : ∃ z, z = zZ X (i + 1) 0 := ⟨_, rfl⟩
  rw [← eX1] at hH
  have hF := hF X1 eX1 hH.2.2.1
  refine zp6_7 C hH hS (by omega) (kT_0 (k := 6) (l := 0) hK (by decide +kernel)) q_197 hnm rfl dX6_init_9 (fun H locs hH hS => ?_)
  obtain ⟨R2, eR2⟩ : ∃ z, z = zU R (i) 7 (some ((i + 1))) := ⟨_, rfl⟩
  rw [← eR2] at hH
  have hF := hF R2 eR2
  refine lv_aload_n C.1 C.2.1 dX6_init_12 rfl (lv_at hl 0 rfl) ?_
  obtain ⟨o3, hF⟩ := hF
  refine zgov (zrunV (As := []) (rest := []) C hE hH hS hl.1 (c_X6_clear (l := l) (zNet_of hK (by omega) o3) ) k_RX6_15 ⟨Nat.le_of_ble_eq_true rfl, Nat.le_of_ble_eq_true rfl⟩ (by omega) (kT_0 (k := 6) (l := 0) hK (by decide +kernel)) rfl rfl rfl (Nat.le_of_ble_eq_true rfl) dX6_init_13 ⟨Nat.le_of_ble_eq_true rfl, Nat.le_of_ble_eq_true rfl⟩) hS (fun X4 Yq Rq H locs hq hH hS => ?_)
  obtain ⟨h9Y, h9R, hq⟩ := hq
  dsimp only at h9Y h9R
  rw [h9Y, h9R] at hH
  have hF := hF X4 hH.2.2.1 hq
  refine W_raise (cells := 1) (slots := 6) (Nat.le_of_ble_eq_true rfl) (Nat.le_of_ble_eq_true rfl) ?_
  exact zd_vretG C hr hlk hH hS (⟨rfl, hF⟩) dX6_init_16
set_option maxHeartbeats 8000000 in
set_option maxRecDepth 100000 in
theorem v_X6_init {X Y : Nat → Int → Int} {R : Nat → Int → Option Nat} {i : Nat}  (hp : X i = fun _ => 0) : F_X6_init i X Y R  := by
  unfold F_X6_init
  intro hX hY
  intro X1
  intro eX1
  intro rX1
  intro R2
  intro eR2
  refine ⟨?_, ?_⟩
  · rw [eR2]
    exact zU_s
  intro X4
  intro rX4
  intro h1
  refine ⟨fun z g1 g2 => by rw [h1, zU_o g1, zU_o g1, zU_o g1, zU_o g1, zU_o g1, zU_o g1, zU_o g1, eX1, zZ_o g2], fun z g => by rw [eR2, zU_o g], by rw [eR2]; exact zU_s, by rw [h1]; exact zU_s, fun y => ?_⟩
  have g : i + 1 ≠ i := by omega
  rw [h1, zU_o g, zU_o g, zU_o g, zU_o g, zU_o g, zU_o g, zU_o g, eX1, zZ_at]
theorem c_X6_init {l : Launch} {D : va_G} {cy : Nat → ClassId} {bs : Nat} {sa : Nat → Nat} {kd len : Nat → Nat} {X Y : Nat → Int → Int} {R : Nat → Int → Option Nat} {i : Nat} (hK : kT kd len i tNet)  (hp : X i = fun _ => 0) : Met l yX6_init (.code yX6_init cX6_init 1 none :: zTB) (zRmG 1 60 1 6) (zPcA D cy bs sa (i + 1) kd len X Y R [.ref (bs + (i))]) (zQv D cy bs (i + 2) kd len (fun st => st.2.1 = Y ∧ ((∀ z, z ≠ i → z ≠ i + 1 → st.1 z = X z) ∧ (∀ z, z ≠ i → st.2.2 z = R z) ∧ eNt st.2.2 i ∧ z0N st.1 i))) 1 6 (zA bs) := w_X6_init hK  (v_X6_init  hp)
abbrev cX5_init : ByteArray := prog_7_method_1_code
def yX5_init : MethodName := ⟨RX5, "<init>", "()V"⟩
theorem dX5_init_0 : decode cX5_init 0 = .ok (.aload_n 0, 1) := by decide +kernel
theorem dX5_init_1 : decode cX5_init 1 = .ok (.invokespecial 3, 3) := by decide +kernel
theorem dX5_init_4 : decode cX5_init 4 = .ok (.aload_n 0, 1) := by decide +kernel
theorem dX5_init_5 : decode cX5_init 5 = .ok (.bipush 6, 2) := by decide +kernel
theorem dX5_init_7 : decode cX5_init 7 = .ok (.newarray .int, 2) := by decide +kernel
theorem dX5_init_9 : decode cX5_init 9 = .ok (.putfield 9, 3) := by decide +kernel
theorem dX5_init_12 : decode cX5_init 12 = .ok (.return_, 1) := by decide +kernel
theorem q_381 : Cond.methodLink RX5 3 Lib.objectInit ∈ zTB := zmem 381 (by decide +kernel) rfl
set_option maxHeartbeats 4000000 in
set_option maxRecDepth 100000 in
def F_X5_init (i : Nat) (X Y : Nat → Int → Int) (R : Nat → Int → Option Nat)  : Prop := (∀ i j, rI (X i j)) → (∀ i j, rL (Y i j)) → ∀ X1 : Nat → Int → Int, X1 = zZ X (i + 1) 0 → (∀ i j, rI (X1 i j)) → (∀ R2 : Nat → Int → Option Nat, R2 = zU R (i) 1 (some ((i + 1))) → ((∀ z, z ≠ i → z ≠ i + 1 → X1 z = X z) ∧ (∀ z, z ≠ i → R2 z = R z) ∧ eLd R2 i))
set_option maxHeartbeats 4000000 in
set_option maxRecDepth 100000 in
theorem w_X5_init {l : Launch} {D : va_G} {cy : Nat → ClassId} {bs : Nat} {sa : Nat → Nat} {kd len : Nat → Nat} {X Y : Nat → Int → Int} {R : Nat → Int → Option Nat} {i : Nat} (hK : kT kd len i tLedger)  (hF : F_X5_init i X Y R ) : Met l yX5_init (.code yX5_init cX5_init 1 none :: zTB) (zRmG 1 60 1 6) (zPcA D cy bs sa (i + 1) kd len X Y R [.ref (bs + (i))]) (zQv D cy bs (i + 2) kd len (fun st => st.2.1 = Y ∧ ((∀ z, z ≠ i → z ≠ i + 1 → st.1 z = X z) ∧ (∀ z, z ≠ i → st.2.2 z = R z) ∧ eLd st.2.2 i))) 1 6 (zA bs) := by
  refine zstartGA (by decide) (Nat.le_of_ble_eq_true rfl) ?_
  intro p e s m args below meth c ls C hE hA hH hr hlk hnm hl hargs
  have hF := hF hH.2.2.1 hH.2.2.2
  have hS : va_S (zA bs) s.heap s.heap [] := va_S.rf
  have hl : lv_has ls 1 [(0, .ref (bs + (i)))] := hl
  refine lv_aload_n C.1 C.2.1 dX5_init_0 rfl (lv_at hl 0 rfl) ?_
  refine zd_oinit C hl.1 q_381 q_154 q_155 (Nat.le_of_ble_eq_true rfl) dX5_init_1 (Nat.le_of_ble_eq_true rfl) (Nat.le_of_ble_eq_true rfl) ?_
  refine lv_aload_n C.1 C.2.1 dX5_init_4 rfl (lv_at hl 0 rfl) ?_
  refine zd_bipush C (by decide) dX5_init_5 ?_
  refine zd_newI C hH hS q_218 (n := 6) rfl (by decide) (kT_k (k := 13) (l := 6) hK 1 (by decide +kernel)) (kT_l (k := 13) (l := 6) hK 1 (by decide +kernel)) (Nat.le_of_ble_eq_true rfl) (Nat.le_of_ble_eq_true rfl) dX5_init_7 (fun H hH hS => ?_)
  obtain ⟨X1, eX1⟩ : ∃ z, z = zZ X (i + 1) 0 := ⟨_, rfl⟩
  rw [← eX1] at hH
  have hF := hF X1 eX1 hH.2.2.1
  refine zp5_1 C hH hS (by omega) (kT_0 (k := 5) (l := 0) hK (by decide +kernel)) q_383 hnm rfl dX5_init_9 (fun H locs hH hS => ?_)
  obtain ⟨R2, eR2⟩ : ∃ z, z = zU R (i) 1 (some ((i + 1))) := ⟨_, rfl⟩
  rw [← eR2] at hH
  have hF := hF R2 eR2
  refine W_raise (cells := 1) (slots := 6) (Nat.le_of_ble_eq_true rfl) (Nat.le_of_ble_eq_true rfl) ?_
  exact zd_vretG C hr hlk hH hS (⟨rfl, hF⟩) dX5_init_12
set_option maxHeartbeats 8000000 in
set_option maxRecDepth 100000 in
theorem v_X5_init {X Y : Nat → Int → Int} {R : Nat → Int → Option Nat} {i : Nat}  (hp : X i = fun _ => 0) : F_X5_init i X Y R  := by
  unfold F_X5_init
  intro hX hY
  intro X1
  intro eX1
  intro rX1
  intro R2
  intro eR2
  exact ⟨fun z g1 g2 => by rw [eX1, zZ_o g2], fun z g => by rw [eR2, zU_o g], by rw [eR2]; exact zU_s⟩
theorem c_X5_init {l : Launch} {D : va_G} {cy : Nat → ClassId} {bs : Nat} {sa : Nat → Nat} {kd len : Nat → Nat} {X Y : Nat → Int → Int} {R : Nat → Int → Option Nat} {i : Nat} (hK : kT kd len i tLedger)  (hp : X i = fun _ => 0) : Met l yX5_init (.code yX5_init cX5_init 1 none :: zTB) (zRmG 1 60 1 6) (zPcA D cy bs sa (i + 1) kd len X Y R [.ref (bs + (i))]) (zQv D cy bs (i + 2) kd len (fun st => st.2.1 = Y ∧ ((∀ z, z ≠ i → z ≠ i + 1 → st.1 z = X z) ∧ (∀ z, z ≠ i → st.2.2 z = R z) ∧ eLd st.2.2 i))) 1 6 (zA bs) := w_X5_init hK  (v_X5_init  hp)
abbrev cX8_init : ByteArray := prog_10_method_1_code
def yX8_init : MethodName := ⟨RX8, "<init>", "(I)V"⟩
theorem dX8_init_0 : decode cX8_init 0 = .ok (.aload_n 0, 1) := by decide +kernel
theorem dX8_init_1 : decode cX8_init 1 = .ok (.invokespecial 3, 3) := by decide +kernel
theorem dX8_init_4 : decode cX8_init 4 = .ok (.aload_n 0, 1) := by decide +kernel
theorem dX8_init_5 : decode cX8_init 5 = .ok (.iload_n 1, 1) := by decide +kernel
theorem dX8_init_6 : decode cX8_init 6 = .ok (.iconst 4, 1) := by decide +kernel
theorem dX8_init_7 : decode cX8_init 7 = .ok (.if_icmp .ne 7, 3) := by decide +kernel
theorem dX8_init_10 : decode cX8_init 10 = .ok (.iconst 4, 1) := by decide +kernel
theorem dX8_init_11 : decode cX8_init 11 = .ok (.goto 4, 3) := by decide +kernel
theorem dX8_init_14 : decode cX8_init 14 = .ok (.iconst 2, 1) := by decide +kernel
theorem dX8_init_15 : decode cX8_init 15 = .ok (.putfield 9, 3) := by decide +kernel
theorem dX8_init_18 : decode cX8_init 18 = .ok (.aload_n 0, 1) := by decide +kernel
theorem dX8_init_19 : decode cX8_init 19 = .ok (.iload_n 1, 1) := by decide +kernel
theorem dX8_init_20 : decode cX8_init 20 = .ok (.iconst 2, 1) := by decide +kernel
theorem dX8_init_21 : decode cX8_init 21 = .ok (.if_icmp .ne 8, 3) := by decide +kernel
theorem dX8_init_24 : decode cX8_init 24 = .ok (.bipush 40, 2) := by decide +kernel
theorem dX8_init_26 : decode cX8_init 26 = .ok (.goto 15, 3) := by decide +kernel
theorem dX8_init_29 : decode cX8_init 29 = .ok (.iload_n 1, 1) := by decide +kernel
theorem dX8_init_30 : decode cX8_init 30 = .ok (.iconst 3, 1) := by decide +kernel
theorem dX8_init_31 : decode cX8_init 31 = .ok (.if_icmp .ne 8, 3) := by decide +kernel
theorem dX8_init_34 : decode cX8_init 34 = .ok (.bipush 8, 2) := by decide +kernel
theorem dX8_init_36 : decode cX8_init 36 = .ok (.goto 5, 3) := by decide +kernel
theorem dX8_init_39 : decode cX8_init 39 = .ok (.bipush 6, 2) := by decide +kernel
theorem dX8_init_41 : decode cX8_init 41 = .ok (.putfield 15, 3) := by decide +kernel
theorem dX8_init_44 : decode cX8_init 44 = .ok (.aload_n 0, 1) := by decide +kernel
theorem dX8_init_45 : decode cX8_init 45 = .ok (.aload_n 0, 1) := by decide +kernel
theorem dX8_init_46 : decode cX8_init 46 = .ok (.getfield 15, 3) := by decide +kernel
theorem dX8_init_49 : decode cX8_init 49 = .ok (.aload_n 0, 1) := by decide +kernel
theorem dX8_init_50 : decode cX8_init 50 = .ok (.getfield 9, 3) := by decide +kernel
theorem dX8_init_53 : decode cX8_init 53 = .ok (.imul, 1) := by decide +kernel
theorem dX8_init_54 : decode cX8_init 54 = .ok (.newarray .int, 2) := by decide +kernel
theorem dX8_init_56 : decode cX8_init 56 = .ok (.putfield 18, 3) := by decide +kernel
theorem dX8_init_59 : decode cX8_init 59 = .ok (.return_, 1) := by decide +kernel
theorem q_258 : Cond.methodLink RX8 3 Lib.objectInit ∈ zTB := zmem 258 (by decide +kernel) rfl
set_option maxHeartbeats 4000000 in
set_option maxRecDepth 100000 in
def F_X8_init2 (i : Nat) (X Y : Nat → Int → Int) (R : Nat → Int → Option Nat)  : Prop := (∀ i j, rI (X i j)) → (∀ i j, rL (Y i j)) → ∀ X2 : Nat → Int → Int, X2 = zU X (i) 0 (2) → (∀ i j, rI (X2 i j)) → (∀ X4 : Nat → Int → Int, X4 = zU X2 (i) 1 (40) → (∀ i j, rI (X4 i j)) → (((X4 (i) 1) * (X4 (i) 0) = 80) ∧ (∀ X6 : Nat → Int → Int, X6 = zZ X4 (i + 1) 0 → (∀ i j, rI (X6 i j)) → (∀ R7 : Nat → Int → Option Nat, R7 = zU R (i) 3 (some ((i + 1))) → ((∀ z, z ≠ i → z ≠ i + 1 → X6 z = X z) ∧ (∀ z, z ≠ i → R7 z = R z) ∧ eRw R7 i ∧ z0R X6 i 2 40)))))
set_option maxHeartbeats 4000000 in
set_option maxRecDepth 100000 in
theorem w_X8_init2 {l : Launch} {D : va_G} {cy : Nat → ClassId} {bs : Nat} {sa : Nat → Nat} {kd len : Nat → Nat} {X Y : Nat → Int → Int} {R : Nat → Int → Option Nat} {i : Nat} (hK : kT kd len i tRows2)  (hF : F_X8_init2 i X Y R ) : Met l yX8_init (.code yX8_init cX8_init 2 none :: zTB) (zRmG 1 60 1 80) (zPcA D cy bs sa (i + 1) kd len X Y R [.ref (bs + (i)), .int (zI (2))]) (zQv D cy bs (i + 2) kd len (fun st => st.2.1 = Y ∧ ((∀ z, z ≠ i → z ≠ i + 1 → st.1 z = X z) ∧ (∀ z, z ≠ i → st.2.2 z = R z) ∧ eRw st.2.2 i ∧ z0R st.1 i 2 40))) 1 80 (zA bs) := by
  refine zstartGA (by decide) (Nat.le_of_ble_eq_true rfl) ?_
  intro p e s m args below meth c ls C hE hA hH hr hlk hnm hl hargs
  have hF := hF hH.2.2.1 hH.2.2.2
  have hS : va_S (zA bs) s.heap s.heap [] := va_S.rf
  have hl : lv_has ls 2 [(0, .ref (bs + (i))), (1, .int (zI (2)))] := hl
  refine lv_aload_n C.1 C.2.1 dX8_init_0 rfl (lv_at hl 0 rfl) ?_
  refine zd_oinit C hl.1 q_258 q_154 q_155 (Nat.le_of_ble_eq_true rfl) dX8_init_1 (Nat.le_of_ble_eq_true rfl) (Nat.le_of_ble_eq_true rfl) ?_
  refine lv_aload_n C.1 C.2.1 dX8_init_4 rfl (lv_at hl 0 rfl) ?_
  refine lv_iload_n C.1 C.2.1 dX8_init_5 rfl (lv_at hl 1 rfl) ?_
  refine zd_iconst C dX8_init_6 ?_
  refine zd_icmp_ne C (by decide) (by decide) 14 dX8_init_7 (by decide) (fun c1 => ?_) (fun c1 => ?_)
  · refine zd_iconst C dX8_init_14 ?_
    refine zp8_0 C hH hS (by omega) (kT_0 (k := 8) (l := 0) hK (by decide +kernel)) q_259 hnm rfl (by decide) dX8_init_15 (fun H locs hH hS => ?_)
    obtain ⟨X2, eX2⟩ : ∃ z, z = zU X (i) 0 (2) := ⟨_, rfl⟩
    rw [← eX2] at hH
    have hF := hF X2 eX2 hH.2.2.1
    refine lv_aload_n C.1 C.2.1 dX8_init_18 rfl (lv_at hl 0 rfl) ?_
    refine lv_iload_n C.1 C.2.1 dX8_init_19 rfl (lv_at hl 1 rfl) ?_
    refine zd_iconst C dX8_init_20 ?_
    refine zd_icmp_ne C (by decide) (by decide) 29 dX8_init_21 (by decide) (fun c3 => ?_) (fun c3 => ?_)
    · exact absurd c3 (by decide)
    · refine zd_bipush C (by decide) dX8_init_24 ?_
      refine lv_goto (tgt := 41) C.1 C.2.1 dX8_init_26 (by decide) ?_
      refine zp8_1 C hH hS (by omega) (kT_0 (k := 8) (l := 0) hK (by decide +kernel)) q_261 hnm rfl (by decide) dX8_init_41 (fun H locs hH hS => ?_)
      obtain ⟨X4, eX4⟩ : ∃ z, z = zU X2 (i) 1 (40) := ⟨_, rfl⟩
      rw [← eX4] at hH
      have hF := hF X4 eX4 hH.2.2.1
      refine lv_aload_n C.1 C.2.1 dX8_init_44 rfl (lv_at hl 0 rfl) ?_
      refine lv_aload_n C.1 C.2.1 dX8_init_45 rfl (lv_at hl 0 rfl) ?_
      refine zg8_1 C hH (by omega) (kT_0 (k := 8) (l := 0) hK (by decide +kernel)) q_261 dX8_init_46 ?_
      refine lv_aload_n C.1 C.2.1 dX8_init_49 rfl (lv_at hl 0 rfl) ?_
      refine zg8_0 C hH (by omega) (kT_0 (k := 8) (l := 0) hK (by decide +kernel)) q_259 dX8_init_50 ?_
      refine zd_imul C dX8_init_53 ?_
      obtain ⟨o5, hF⟩ := hF
      refine zd_newI C hH hS q_218 (n := 80) o5 (by decide) (kT_k (k := 13) (l := 80) hK 1 (by decide +kernel)) (kT_l (k := 13) (l := 80) hK 1 (by decide +kernel)) (Nat.le_of_ble_eq_true rfl) (Nat.le_of_ble_eq_true rfl) dX8_init_54 (fun H hH hS => ?_)
      obtain ⟨X6, eX6⟩ : ∃ z, z = zZ X4 (i + 1) 0 := ⟨_, rfl⟩
      rw [← eX6] at hH
      have hF := hF X6 eX6 hH.2.2.1
      refine zp8_3 C hH hS (by omega) (kT_0 (k := 8) (l := 0) hK (by decide +kernel)) q_269 hnm rfl dX8_init_56 (fun H locs hH hS => ?_)
      obtain ⟨R7, eR7⟩ : ∃ z, z = zU R (i) 3 (some ((i + 1))) := ⟨_, rfl⟩
      rw [← eR7] at hH
      have hF := hF R7 eR7
      refine W_raise (cells := 1) (slots := 80) (Nat.le_of_ble_eq_true rfl) (Nat.le_of_ble_eq_true rfl) ?_
      exact zd_vretG C hr hlk hH hS (⟨rfl, hF⟩) dX8_init_59
  · exact absurd (by decide) c1
set_option maxHeartbeats 8000000 in
set_option maxRecDepth 100000 in
theorem v_X8_init2 {X Y : Nat → Int → Int} {R : Nat → Int → Option Nat} {i : Nat}  (hp : X i = fun _ => 0) : F_X8_init2 i X Y R  := by
  unfold F_X8_init2
  intro hX hY
  intro X2
  intro eX2
  intro rX2
  intro X4
  intro eX4
  have v1 : X4 i 1 = 40 := by rw [eX4]; exact zU_s
  have v0 : X4 i 0 = 2 := by rw [eX4, zU_n (by omega), eX2]; exact zU_s
  intro rX4
  refine ⟨?_, ?_⟩
  · rw [v1, v0]
    rfl
  intro X6
  intro eX6
  intro rX6
  intro R7
  intro eR7
  have g : i ≠ i + 1 := by omega
  exact ⟨fun z g1 g2 => by rw [eX6, zZ_o g2, eX4, zU_o g1, eX2, zU_o g1], fun z g => by rw [eR7, zU_o g], by rw [eR7]; exact zU_s, by rw [eX6, zZ_o g, v0], by rw [eX6, zZ_o g, v1], by rw [eX6, zZ_o g, eX4, zU_n (by omega), eX2, zU_n (by omega), hp], fun y => by rw [eX6, zZ_at]⟩
theorem c_X8_init2 {l : Launch} {D : va_G} {cy : Nat → ClassId} {bs : Nat} {sa : Nat → Nat} {kd len : Nat → Nat} {X Y : Nat → Int → Int} {R : Nat → Int → Option Nat} {i : Nat} (hK : kT kd len i tRows2)  (hp : X i = fun _ => 0) : Met l yX8_init (.code yX8_init cX8_init 2 none :: zTB) (zRmG 1 60 1 80) (zPcA D cy bs sa (i + 1) kd len X Y R [.ref (bs + (i)), .int (zI (2))]) (zQv D cy bs (i + 2) kd len (fun st => st.2.1 = Y ∧ ((∀ z, z ≠ i → z ≠ i + 1 → st.1 z = X z) ∧ (∀ z, z ≠ i → st.2.2 z = R z) ∧ eRw st.2.2 i ∧ z0R st.1 i 2 40))) 1 80 (zA bs) := w_X8_init2 hK  (v_X8_init2  hp)
set_option maxHeartbeats 4000000 in
set_option maxRecDepth 100000 in
def F_X8_init3 (i : Nat) (X Y : Nat → Int → Int) (R : Nat → Int → Option Nat)  : Prop := (∀ i j, rI (X i j)) → (∀ i j, rL (Y i j)) → ∀ X2 : Nat → Int → Int, X2 = zU X (i) 0 (2) → (∀ i j, rI (X2 i j)) → (∀ X5 : Nat → Int → Int, X5 = zU X2 (i) 1 (8) → (∀ i j, rI (X5 i j)) → (((X5 (i) 1) * (X5 (i) 0) = 16) ∧ (∀ X7 : Nat → Int → Int, X7 = zZ X5 (i + 1) 0 → (∀ i j, rI (X7 i j)) → (∀ R8 : Nat → Int → Option Nat, R8 = zU R (i) 3 (some ((i + 1))) → ((∀ z, z ≠ i → z ≠ i + 1 → X7 z = X z) ∧ (∀ z, z ≠ i → R8 z = R z) ∧ eRw R8 i ∧ z0R X7 i 2 8)))))
set_option maxHeartbeats 4000000 in
set_option maxRecDepth 100000 in
theorem w_X8_init3 {l : Launch} {D : va_G} {cy : Nat → ClassId} {bs : Nat} {sa : Nat → Nat} {kd len : Nat → Nat} {X Y : Nat → Int → Int} {R : Nat → Int → Option Nat} {i : Nat} (hK : kT kd len i tRows3)  (hF : F_X8_init3 i X Y R ) : Met l yX8_init (.code yX8_init cX8_init 2 none :: zTB) (zRmG 1 60 1 16) (zPcA D cy bs sa (i + 1) kd len X Y R [.ref (bs + (i)), .int (zI (3))]) (zQv D cy bs (i + 2) kd len (fun st => st.2.1 = Y ∧ ((∀ z, z ≠ i → z ≠ i + 1 → st.1 z = X z) ∧ (∀ z, z ≠ i → st.2.2 z = R z) ∧ eRw st.2.2 i ∧ z0R st.1 i 2 8))) 1 16 (zA bs) := by
  refine zstartGA (by decide) (Nat.le_of_ble_eq_true rfl) ?_
  intro p e s m args below meth c ls C hE hA hH hr hlk hnm hl hargs
  have hF := hF hH.2.2.1 hH.2.2.2
  have hS : va_S (zA bs) s.heap s.heap [] := va_S.rf
  have hl : lv_has ls 2 [(0, .ref (bs + (i))), (1, .int (zI (3)))] := hl
  refine lv_aload_n C.1 C.2.1 dX8_init_0 rfl (lv_at hl 0 rfl) ?_
  refine zd_oinit C hl.1 q_258 q_154 q_155 (Nat.le_of_ble_eq_true rfl) dX8_init_1 (Nat.le_of_ble_eq_true rfl) (Nat.le_of_ble_eq_true rfl) ?_
  refine lv_aload_n C.1 C.2.1 dX8_init_4 rfl (lv_at hl 0 rfl) ?_
  refine lv_iload_n C.1 C.2.1 dX8_init_5 rfl (lv_at hl 1 rfl) ?_
  refine zd_iconst C dX8_init_6 ?_
  refine zd_icmp_ne C (by decide) (by decide) 14 dX8_init_7 (by decide) (fun c1 => ?_) (fun c1 => ?_)
  · refine zd_iconst C dX8_init_14 ?_
    refine zp8_0 C hH hS (by omega) (kT_0 (k := 8) (l := 0) hK (by decide +kernel)) q_259 hnm rfl (by decide) dX8_init_15 (fun H locs hH hS => ?_)
    obtain ⟨X2, eX2⟩ : ∃ z, z = zU X (i) 0 (2) := ⟨_, rfl⟩
    rw [← eX2] at hH
    have hF := hF X2 eX2 hH.2.2.1
    refine lv_aload_n C.1 C.2.1 dX8_init_18 rfl (lv_at hl 0 rfl) ?_
    refine lv_iload_n C.1 C.2.1 dX8_init_19 rfl (lv_at hl 1 rfl) ?_
    refine zd_iconst C dX8_init_20 ?_
    refine zd_icmp_ne C (by decide) (by decide) 29 dX8_init_21 (by decide) (fun c3 => ?_) (fun c3 => ?_)
    · refine lv_iload_n C.1 C.2.1 dX8_init_29 rfl (lv_at hl 1 rfl) ?_
      refine zd_iconst C dX8_init_30 ?_
      refine zd_icmp_ne C (by decide) (by decide) 39 dX8_init_31 (by decide) (fun c4 => ?_) (fun c4 => ?_)
      · exact absurd c4 (by decide)
      · refine zd_bipush C (by decide) dX8_init_34 ?_
        refine lv_goto (tgt := 41) C.1 C.2.1 dX8_init_36 (by decide) ?_
        refine zp8_1 C hH hS (by omega) (kT_0 (k := 8) (l := 0) hK (by decide +kernel)) q_261 hnm rfl (by decide) dX8_init_41 (fun H locs hH hS => ?_)
        obtain ⟨X5, eX5⟩ : ∃ z, z = zU X2 (i) 1 (8) := ⟨_, rfl⟩
        rw [← eX5] at hH
        have hF := hF X5 eX5 hH.2.2.1
        refine lv_aload_n C.1 C.2.1 dX8_init_44 rfl (lv_at hl 0 rfl) ?_
        refine lv_aload_n C.1 C.2.1 dX8_init_45 rfl (lv_at hl 0 rfl) ?_
        refine zg8_1 C hH (by omega) (kT_0 (k := 8) (l := 0) hK (by decide +kernel)) q_261 dX8_init_46 ?_
        refine lv_aload_n C.1 C.2.1 dX8_init_49 rfl (lv_at hl 0 rfl) ?_
        refine zg8_0 C hH (by omega) (kT_0 (k := 8) (l := 0) hK (by decide +kernel)) q_259 dX8_init_50 ?_
        refine zd_imul C dX8_init_53 ?_
        obtain ⟨o6, hF⟩ := hF
        refine zd_newI C hH hS q_218 (n := 16) o6 (by decide) (kT_k (k := 13) (l := 16) hK 1 (by decide +kernel)) (kT_l (k := 13) (l := 16) hK 1 (by decide +kernel)) (Nat.le_of_ble_eq_true rfl) (Nat.le_of_ble_eq_true rfl) dX8_init_54 (fun H hH hS => ?_)
        obtain ⟨X7, eX7⟩ : ∃ z, z = zZ X5 (i + 1) 0 := ⟨_, rfl⟩
        rw [← eX7] at hH
        have hF := hF X7 eX7 hH.2.2.1
        refine zp8_3 C hH hS (by omega) (kT_0 (k := 8) (l := 0) hK (by decide +kernel)) q_269 hnm rfl dX8_init_56 (fun H locs hH hS => ?_)
        obtain ⟨R8, eR8⟩ : ∃ z, z = zU R (i) 3 (some ((i + 1))) := ⟨_, rfl⟩
        rw [← eR8] at hH
        have hF := hF R8 eR8
        refine W_raise (cells := 1) (slots := 16) (Nat.le_of_ble_eq_true rfl) (Nat.le_of_ble_eq_true rfl) ?_
        exact zd_vretG C hr hlk hH hS (⟨rfl, hF⟩) dX8_init_59
    · exact absurd (by decide) c3
  · exact absurd (by decide) c1
set_option maxHeartbeats 8000000 in
set_option maxRecDepth 100000 in
theorem v_X8_init3 {X Y : Nat → Int → Int} {R : Nat → Int → Option Nat} {i : Nat}  (hp : X i = fun _ => 0) : F_X8_init3 i X Y R  := by
  unfold F_X8_init3
  intro hX hY
  intro X2
  intro eX2
  intro rX2
  intro X5
  intro eX5
  have v1 : X5 i 1 = 8 := by rw [eX5]; exact zU_s
  have v0 : X5 i 0 = 2 := by rw [eX5, zU_n (by omega), eX2]; exact zU_s
  intro rX5
  refine ⟨?_, ?_⟩
  · rw [v1, v0]
    rfl
  intro X7
  intro eX7
  intro rX7
  intro R8
  intro eR8
  have g : i ≠ i + 1 := by omega
  exact ⟨fun z g1 g2 => by rw [eX7, zZ_o g2, eX5, zU_o g1, eX2, zU_o g1], fun z g => by rw [eR8, zU_o g], by rw [eR8]; exact zU_s, by rw [eX7, zZ_o g, v0], by rw [eX7, zZ_o g, v1], by rw [eX7, zZ_o g, eX5, zU_n (by omega), eX2, zU_n (by omega), hp], fun y => by rw [eX7, zZ_at]⟩
theorem c_X8_init3 {l : Launch} {D : va_G} {cy : Nat → ClassId} {bs : Nat} {sa : Nat → Nat} {kd len : Nat → Nat} {X Y : Nat → Int → Int} {R : Nat → Int → Option Nat} {i : Nat} (hK : kT kd len i tRows3)  (hp : X i = fun _ => 0) : Met l yX8_init (.code yX8_init cX8_init 2 none :: zTB) (zRmG 1 60 1 16) (zPcA D cy bs sa (i + 1) kd len X Y R [.ref (bs + (i)), .int (zI (3))]) (zQv D cy bs (i + 2) kd len (fun st => st.2.1 = Y ∧ ((∀ z, z ≠ i → z ≠ i + 1 → st.1 z = X z) ∧ (∀ z, z ≠ i → st.2.2 z = R z) ∧ eRw st.2.2 i ∧ z0R st.1 i 2 8))) 1 16 (zA bs) := w_X8_init3 hK  (v_X8_init3  hp)
set_option maxHeartbeats 4000000 in
set_option maxRecDepth 100000 in
def F_X8_init4 (i : Nat) (X Y : Nat → Int → Int) (R : Nat → Int → Option Nat)  : Prop := (∀ i j, rI (X i j)) → (∀ i j, rL (Y i j)) → ∀ X2 : Nat → Int → Int, X2 = zU X (i) 0 (4) → (∀ i j, rI (X2 i j)) → (∀ X5 : Nat → Int → Int, X5 = zU X2 (i) 1 (6) → (∀ i j, rI (X5 i j)) → (((X5 (i) 1) * (X5 (i) 0) = 24) ∧ (∀ X7 : Nat → Int → Int, X7 = zZ X5 (i + 1) 0 → (∀ i j, rI (X7 i j)) → (∀ R8 : Nat → Int → Option Nat, R8 = zU R (i) 3 (some ((i + 1))) → ((∀ z, z ≠ i → z ≠ i + 1 → X7 z = X z) ∧ (∀ z, z ≠ i → R8 z = R z) ∧ eRw R8 i ∧ z0R X7 i 4 6)))))
set_option maxHeartbeats 4000000 in
set_option maxRecDepth 100000 in
theorem w_X8_init4 {l : Launch} {D : va_G} {cy : Nat → ClassId} {bs : Nat} {sa : Nat → Nat} {kd len : Nat → Nat} {X Y : Nat → Int → Int} {R : Nat → Int → Option Nat} {i : Nat} (hK : kT kd len i tRows4)  (hF : F_X8_init4 i X Y R ) : Met l yX8_init (.code yX8_init cX8_init 2 none :: zTB) (zRmG 1 60 1 24) (zPcA D cy bs sa (i + 1) kd len X Y R [.ref (bs + (i)), .int (zI (4))]) (zQv D cy bs (i + 2) kd len (fun st => st.2.1 = Y ∧ ((∀ z, z ≠ i → z ≠ i + 1 → st.1 z = X z) ∧ (∀ z, z ≠ i → st.2.2 z = R z) ∧ eRw st.2.2 i ∧ z0R st.1 i 4 6))) 1 24 (zA bs) := by
  refine zstartGA (by decide) (Nat.le_of_ble_eq_true rfl) ?_
  intro p e s m args below meth c ls C hE hA hH hr hlk hnm hl hargs
  have hF := hF hH.2.2.1 hH.2.2.2
  have hS : va_S (zA bs) s.heap s.heap [] := va_S.rf
  have hl : lv_has ls 2 [(0, .ref (bs + (i))), (1, .int (zI (4)))] := hl
  refine lv_aload_n C.1 C.2.1 dX8_init_0 rfl (lv_at hl 0 rfl) ?_
  refine zd_oinit C hl.1 q_258 q_154 q_155 (Nat.le_of_ble_eq_true rfl) dX8_init_1 (Nat.le_of_ble_eq_true rfl) (Nat.le_of_ble_eq_true rfl) ?_
  refine lv_aload_n C.1 C.2.1 dX8_init_4 rfl (lv_at hl 0 rfl) ?_
  refine lv_iload_n C.1 C.2.1 dX8_init_5 rfl (lv_at hl 1 rfl) ?_
  refine zd_iconst C dX8_init_6 ?_
  refine zd_icmp_ne C (by decide) (by decide) 14 dX8_init_7 (by decide) (fun c1 => ?_) (fun c1 => ?_)
  · exact absurd c1 (by decide)
  · refine zd_iconst C dX8_init_10 ?_
    refine lv_goto (tgt := 15) C.1 C.2.1 dX8_init_11 (by decide) ?_
    refine zp8_0 C hH hS (by omega) (kT_0 (k := 8) (l := 0) hK (by decide +kernel)) q_259 hnm rfl (by decide) dX8_init_15 (fun H locs hH hS => ?_)
    obtain ⟨X2, eX2⟩ : ∃ z, z = zU X (i) 0 (4) := ⟨_, rfl⟩
    rw [← eX2] at hH
    have hF := hF X2 eX2 hH.2.2.1
    refine lv_aload_n C.1 C.2.1 dX8_init_18 rfl (lv_at hl 0 rfl) ?_
    refine lv_iload_n C.1 C.2.1 dX8_init_19 rfl (lv_at hl 1 rfl) ?_
    refine zd_iconst C dX8_init_20 ?_
    refine zd_icmp_ne C (by decide) (by decide) 29 dX8_init_21 (by decide) (fun c3 => ?_) (fun c3 => ?_)
    · refine lv_iload_n C.1 C.2.1 dX8_init_29 rfl (lv_at hl 1 rfl) ?_
      refine zd_iconst C dX8_init_30 ?_
      refine zd_icmp_ne C (by decide) (by decide) 39 dX8_init_31 (by decide) (fun c4 => ?_) (fun c4 => ?_)
      · refine zd_bipush C (by decide) dX8_init_39 ?_
        refine zp8_1 C hH hS (by omega) (kT_0 (k := 8) (l := 0) hK (by decide +kernel)) q_261 hnm rfl (by decide) dX8_init_41 (fun H locs hH hS => ?_)
        obtain ⟨X5, eX5⟩ : ∃ z, z = zU X2 (i) 1 (6) := ⟨_, rfl⟩
        rw [← eX5] at hH
        have hF := hF X5 eX5 hH.2.2.1
        refine lv_aload_n C.1 C.2.1 dX8_init_44 rfl (lv_at hl 0 rfl) ?_
        refine lv_aload_n C.1 C.2.1 dX8_init_45 rfl (lv_at hl 0 rfl) ?_
        refine zg8_1 C hH (by omega) (kT_0 (k := 8) (l := 0) hK (by decide +kernel)) q_261 dX8_init_46 ?_
        refine lv_aload_n C.1 C.2.1 dX8_init_49 rfl (lv_at hl 0 rfl) ?_
        refine zg8_0 C hH (by omega) (kT_0 (k := 8) (l := 0) hK (by decide +kernel)) q_259 dX8_init_50 ?_
        refine zd_imul C dX8_init_53 ?_
        obtain ⟨o6, hF⟩ := hF
        refine zd_newI C hH hS q_218 (n := 24) o6 (by decide) (kT_k (k := 13) (l := 24) hK 1 (by decide +kernel)) (kT_l (k := 13) (l := 24) hK 1 (by decide +kernel)) (Nat.le_of_ble_eq_true rfl) (Nat.le_of_ble_eq_true rfl) dX8_init_54 (fun H hH hS => ?_)
        obtain ⟨X7, eX7⟩ : ∃ z, z = zZ X5 (i + 1) 0 := ⟨_, rfl⟩
        rw [← eX7] at hH
        have hF := hF X7 eX7 hH.2.2.1
        refine zp8_3 C hH hS (by omega) (kT_0 (k := 8) (l := 0) hK (by decide +kernel)) q_269 hnm rfl dX8_init_56 (fun H locs hH hS => ?_)
        obtain ⟨R8, eR8⟩ : ∃ z, z = zU R (i) 3 (some ((i + 1))) := ⟨_, rfl⟩
        rw [← eR8] at hH
        have hF := hF R8 eR8
        refine W_raise (cells := 1) (slots := 24) (Nat.le_of_ble_eq_true rfl) (Nat.le_of_ble_eq_true rfl) ?_
        exact zd_vretG C hr hlk hH hS (⟨rfl, hF⟩) dX8_init_59
      · exact absurd (by decide) c4
    · exact absurd (by decide) c3
set_option maxHeartbeats 8000000 in
set_option maxRecDepth 100000 in
theorem v_X8_init4 {X Y : Nat → Int → Int} {R : Nat → Int → Option Nat} {i : Nat}  (hp : X i = fun _ => 0) : F_X8_init4 i X Y R  := by
  unfold F_X8_init4
  intro hX hY
  intro X2
  intro eX2
  intro rX2
  intro X5
  intro eX5
  have v1 : X5 i 1 = 6 := by rw [eX5]; exact zU_s
  have v0 : X5 i 0 = 4 := by rw [eX5, zU_n (by omega), eX2]; exact zU_s
  intro rX5
  refine ⟨?_, ?_⟩
  · rw [v1, v0]
    rfl
  intro X7
  intro eX7
  intro rX7
  intro R8
  intro eR8
  have g : i ≠ i + 1 := by omega
  exact ⟨fun z g1 g2 => by rw [eX7, zZ_o g2, eX5, zU_o g1, eX2, zU_o g1], fun z g => by rw [eR8, zU_o g], by rw [eR8]; exact zU_s, by rw [eX7, zZ_o g, v0], by rw [eX7, zZ_o g, v1], by rw [eX7, zZ_o g, eX5, zU_n (by omega), eX2, zU_n (by omega), hp], fun y => by rw [eX7, zZ_at]⟩
theorem c_X8_init4 {l : Launch} {D : va_G} {cy : Nat → ClassId} {bs : Nat} {sa : Nat → Nat} {kd len : Nat → Nat} {X Y : Nat → Int → Int} {R : Nat → Int → Option Nat} {i : Nat} (hK : kT kd len i tRows4)  (hp : X i = fun _ => 0) : Met l yX8_init (.code yX8_init cX8_init 2 none :: zTB) (zRmG 1 60 1 24) (zPcA D cy bs sa (i + 1) kd len X Y R [.ref (bs + (i)), .int (zI (4))]) (zQv D cy bs (i + 2) kd len (fun st => st.2.1 = Y ∧ ((∀ z, z ≠ i → z ≠ i + 1 → st.1 z = X z) ∧ (∀ z, z ≠ i → st.2.2 z = R z) ∧ eRw st.2.2 i ∧ z0R st.1 i 4 6))) 1 24 (zA bs) := w_X8_init4 hK  (v_X8_init4  hp)
abbrev cX0_init : ByteArray := prog_2_method_1_code
def yX0_init : MethodName := ⟨RX0, "<init>", "()V"⟩
theorem dX0_init_0 : decode cX0_init 0 = .ok (.aload_n 0, 1) := by decide +kernel
theorem dX0_init_1 : decode cX0_init 1 = .ok (.invokespecial 3, 3) := by decide +kernel
theorem dX0_init_4 : decode cX0_init 4 = .ok (.aload_n 0, 1) := by decide +kernel
theorem dX0_init_5 : decode cX0_init 5 = .ok (.bipush 15, 2) := by decide +kernel
theorem dX0_init_7 : decode cX0_init 7 = .ok (.newarray .int, 2) := by decide +kernel
theorem dX0_init_9 : decode cX0_init 9 = .ok (.putfield 9, 3) := by decide +kernel
theorem dX0_init_12 : decode cX0_init 12 = .ok (.aload_n 0, 1) := by decide +kernel
theorem dX0_init_13 : decode cX0_init 13 = .ok (.bipush 15, 2) := by decide +kernel
theorem dX0_init_15 : decode cX0_init 15 = .ok (.newarray .int, 2) := by decide +kernel
theorem dX0_init_17 : decode cX0_init 17 = .ok (.putfield 15, 3) := by decide +kernel
theorem dX0_init_20 : decode cX0_init 20 = .ok (.aload_n 0, 1) := by decide +kernel
theorem dX0_init_21 : decode cX0_init 21 = .ok (.bipush 15, 2) := by decide +kernel
theorem dX0_init_23 : decode cX0_init 23 = .ok (.newarray .int, 2) := by decide +kernel
theorem dX0_init_25 : decode cX0_init 25 = .ok (.putfield 18, 3) := by decide +kernel
theorem dX0_init_28 : decode cX0_init 28 = .ok (.aload_n 0, 1) := by decide +kernel
theorem dX0_init_29 : decode cX0_init 29 = .ok (.bipush 15, 2) := by decide +kernel
theorem dX0_init_31 : decode cX0_init 31 = .ok (.newarray .int, 2) := by decide +kernel
theorem dX0_init_33 : decode cX0_init 33 = .ok (.putfield 21, 3) := by decide +kernel
theorem dX0_init_36 : decode cX0_init 36 = .ok (.aload_n 0, 1) := by decide +kernel
theorem dX0_init_37 : decode cX0_init 37 = .ok (.sipush 135, 3) := by decide +kernel
theorem dX0_init_40 : decode cX0_init 40 = .ok (.newarray .int, 2) := by decide +kernel
theorem dX0_init_42 : decode cX0_init 42 = .ok (.putfield 24, 3) := by decide +kernel
theorem dX0_init_45 : decode cX0_init 45 = .ok (.return_, 1) := by decide +kernel
theorem q_223 : Cond.methodLink RX0 3 Lib.objectInit ∈ zTB := zmem 223 (by decide +kernel) rfl
set_option maxHeartbeats 4000000 in
set_option maxRecDepth 100000 in
def F_X0_init (i : Nat) (X Y : Nat → Int → Int) (R : Nat → Int → Option Nat)  : Prop := (∀ i j, rI (X i j)) → (∀ i j, rL (Y i j)) → ∀ X1 : Nat → Int → Int, X1 = zZ X (i + 1) 0 → (∀ i j, rI (X1 i j)) → (∀ R2 : Nat → Int → Option Nat, R2 = zU R (i) 1 (some ((i + 1))) → (∀ X3 : Nat → Int → Int, X3 = zZ X1 (i + 2) 0 → (∀ i j, rI (X3 i j)) → (∀ R4 : Nat → Int → Option Nat, R4 = zU R2 (i) 2 (some ((i + 2))) → (∀ X5 : Nat → Int → Int, X5 = zZ X3 (i + 3) 0 → (∀ i j, rI (X5 i j)) → (∀ R6 : Nat → Int → Option Nat, R6 = zU R4 (i) 3 (some ((i + 3))) → (∀ X7 : Nat → Int → Int, X7 = zZ X5 (i + 4) 0 → (∀ i j, rI (X7 i j)) → (∀ R8 : Nat → Int → Option Nat, R8 = zU R6 (i) 4 (some ((i + 4))) → (∀ X9 : Nat → Int → Int, X9 = zZ X7 (i + 5) 0 → (∀ i j, rI (X9 i j)) → (∀ R10 : Nat → Int → Option Nat, R10 = zU R8 (i) 5 (some ((i + 5))) → ((∀ z, (z < i ∨ i + 5 < z) → X9 z = X z) ∧ (∀ z, z ≠ i → R10 z = R z) ∧ eBk R10 i ∧ z0B X9 i))))))))))
set_option maxHeartbeats 4000000 in
set_option maxRecDepth 100000 in
theorem w_X0_init {l : Launch} {D : va_G} {cy : Nat → ClassId} {bs : Nat} {sa : Nat → Nat} {kd len : Nat → Nat} {X Y : Nat → Int → Int} {R : Nat → Int → Option Nat} {i : Nat} (hK : kT kd len i tBlocks)  (hF : F_X0_init i X Y R ) : Met l yX0_init (.code yX0_init cX0_init 1 none :: zTB) (zRmG 1 60 5 195) (zPcA D cy bs sa (i + 1) kd len X Y R [.ref (bs + (i))]) (zQv D cy bs (i + 6) kd len (fun st => st.2.1 = Y ∧ ((∀ z, (z < i ∨ i + 5 < z) → st.1 z = X z) ∧ (∀ z, z ≠ i → st.2.2 z = R z) ∧ eBk st.2.2 i ∧ z0B st.1 i))) 5 195 (zA bs) := by
  refine zstartGA (by decide) (Nat.le_of_ble_eq_true rfl) ?_
  intro p e s m args below meth c ls C hE hA hH hr hlk hnm hl hargs
  have hF := hF hH.2.2.1 hH.2.2.2
  have hS : va_S (zA bs) s.heap s.heap [] := va_S.rf
  have hl : lv_has ls 1 [(0, .ref (bs + (i)))] := hl
  refine lv_aload_n C.1 C.2.1 dX0_init_0 rfl (lv_at hl 0 rfl) ?_
  refine zd_oinit C hl.1 q_223 q_154 q_155 (Nat.le_of_ble_eq_true rfl) dX0_init_1 (Nat.le_of_ble_eq_true rfl) (Nat.le_of_ble_eq_true rfl) ?_
  refine lv_aload_n C.1 C.2.1 dX0_init_4 rfl (lv_at hl 0 rfl) ?_
  refine zd_bipush C (by decide) dX0_init_5 ?_
  refine zd_newI C hH hS q_218 (n := 15) rfl (by decide) (kT_k (k := 13) (l := 15) hK 1 (by decide +kernel)) (kT_l (k := 13) (l := 15) hK 1 (by decide +kernel)) (Nat.le_of_ble_eq_true rfl) (Nat.le_of_ble_eq_true rfl) dX0_init_7 (fun H hH hS => ?_)
  obtain ⟨X1, eX1⟩ : ∃ z, z = zZ X (i + 1) 0 := ⟨_, rfl⟩
  rw [← eX1] at hH
  have hF := hF X1 eX1 hH.2.2.1
  refine zp0_1 C hH hS (by omega) (kT_0 (k := 0) (l := 0) hK (by decide +kernel)) q_228 hnm rfl dX0_init_9 (fun H locs hH hS => ?_)
  obtain ⟨R2, eR2⟩ : ∃ z, z = zU R (i) 1 (some ((i + 1))) := ⟨_, rfl⟩
  rw [← eR2] at hH
  have hF := hF R2 eR2
  refine lv_aload_n C.1 C.2.1 dX0_init_12 rfl (lv_at hl 0 rfl) ?_
  refine zd_bipush C (by decide) dX0_init_13 ?_
  refine zd_newI C hH hS q_218 (n := 15) rfl (by decide) (kT_k (k := 13) (l := 15) hK 2 (by decide +kernel)) (kT_l (k := 13) (l := 15) hK 2 (by decide +kernel)) (Nat.le_of_ble_eq_true rfl) (Nat.le_of_ble_eq_true rfl) dX0_init_15 (fun H hH hS => ?_)
  obtain ⟨X3, eX3⟩ : ∃ z, z = zZ X1 (i + 2) 0 := ⟨_, rfl⟩
  rw [← eX3] at hH
  have hF := hF X3 eX3 hH.2.2.1
  refine zp0_2 C hH hS (by omega) (kT_0 (k := 0) (l := 0) hK (by decide +kernel)) q_231 hnm rfl dX0_init_17 (fun H locs hH hS => ?_)
  obtain ⟨R4, eR4⟩ : ∃ z, z = zU R2 (i) 2 (some ((i + 2))) := ⟨_, rfl⟩
  rw [← eR4] at hH
  have hF := hF R4 eR4
  refine lv_aload_n C.1 C.2.1 dX0_init_20 rfl (lv_at hl 0 rfl) ?_
  refine zd_bipush C (by decide) dX0_init_21 ?_
  refine zd_newI C hH hS q_218 (n := 15) rfl (by decide) (kT_k (k := 13) (l := 15) hK 3 (by decide +kernel)) (kT_l (k := 13) (l := 15) hK 3 (by decide +kernel)) (Nat.le_of_ble_eq_true rfl) (Nat.le_of_ble_eq_true rfl) dX0_init_23 (fun H hH hS => ?_)
  obtain ⟨X5, eX5⟩ : ∃ z, z = zZ X3 (i + 3) 0 := ⟨_, rfl⟩
  rw [← eX5] at hH
  have hF := hF X5 eX5 hH.2.2.1
  refine zp0_3 C hH hS (by omega) (kT_0 (k := 0) (l := 0) hK (by decide +kernel)) q_234 hnm rfl dX0_init_25 (fun H locs hH hS => ?_)
  obtain ⟨R6, eR6⟩ : ∃ z, z = zU R4 (i) 3 (some ((i + 3))) := ⟨_, rfl⟩
  rw [← eR6] at hH
  have hF := hF R6 eR6
  refine lv_aload_n C.1 C.2.1 dX0_init_28 rfl (lv_at hl 0 rfl) ?_
  refine zd_bipush C (by decide) dX0_init_29 ?_
  refine zd_newI C hH hS q_218 (n := 15) rfl (by decide) (kT_k (k := 13) (l := 15) hK 4 (by decide +kernel)) (kT_l (k := 13) (l := 15) hK 4 (by decide +kernel)) (Nat.le_of_ble_eq_true rfl) (Nat.le_of_ble_eq_true rfl) dX0_init_31 (fun H hH hS => ?_)
  obtain ⟨X7, eX7⟩ : ∃ z, z = zZ X5 (i + 4) 0 := ⟨_, rfl⟩
  rw [← eX7] at hH
  have hF := hF X7 eX7 hH.2.2.1
  refine zp0_4 C hH hS (by omega) (kT_0 (k := 0) (l := 0) hK (by decide +kernel)) q_237 hnm rfl dX0_init_33 (fun H locs hH hS => ?_)
  obtain ⟨R8, eR8⟩ : ∃ z, z = zU R6 (i) 4 (some ((i + 4))) := ⟨_, rfl⟩
  rw [← eR8] at hH
  have hF := hF R8 eR8
  refine lv_aload_n C.1 C.2.1 dX0_init_36 rfl (lv_at hl 0 rfl) ?_
  refine zd_sipush C (by decide) dX0_init_37 ?_
  refine zd_newI C hH hS q_218 (n := 135) rfl (by decide) (kT_k (k := 13) (l := 135) hK 5 (by decide +kernel)) (kT_l (k := 13) (l := 135) hK 5 (by decide +kernel)) (Nat.le_of_ble_eq_true rfl) (Nat.le_of_ble_eq_true rfl) dX0_init_40 (fun H hH hS => ?_)
  obtain ⟨X9, eX9⟩ : ∃ z, z = zZ X7 (i + 5) 0 := ⟨_, rfl⟩
  rw [← eX9] at hH
  have hF := hF X9 eX9 hH.2.2.1
  refine zp0_5 C hH hS (by omega) (kT_0 (k := 0) (l := 0) hK (by decide +kernel)) q_240 hnm rfl dX0_init_42 (fun H locs hH hS => ?_)
  obtain ⟨R10, eR10⟩ : ∃ z, z = zU R8 (i) 5 (some ((i + 5))) := ⟨_, rfl⟩
  rw [← eR10] at hH
  have hF := hF R10 eR10
  refine W_raise (cells := 5) (slots := 195) (Nat.le_of_ble_eq_true rfl) (Nat.le_of_ble_eq_true rfl) ?_
  exact zd_vretG C hr hlk hH hS (⟨rfl, hF⟩) dX0_init_45
set_option maxHeartbeats 8000000 in
set_option maxRecDepth 100000 in
theorem v_X0_init {X Y : Nat → Int → Int} {R : Nat → Int → Option Nat} {i : Nat}  (hp : X i = fun _ => 0) : F_X0_init i X Y R  := by
  unfold F_X0_init
  intro hX hY
  intro X1
  intro eX1
  intro rX1
  intro R2
  intro eR2
  intro X3
  intro eX3
  intro rX3
  intro R4
  intro eR4
  intro X5
  intro eX5
  intro rX5
  intro R6
  intro eR6
  intro X7
  intro eX7
  intro rX7
  intro R8
  intro eR8
  intro X9
  intro eX9
  intro rX9
  intro R10
  intro eR10
  refine ⟨fun z g => by rw [eX9, zZ_o (by omega), eX7, zZ_o (by omega), eX5, zZ_o (by omega), eX3, zZ_o (by omega), eX1, zZ_o (by omega)], fun z g => by rw [eR10, zU_o g, eR8, zU_o g, eR6, zU_o g, eR4, zU_o g, eR2, zU_o g], ⟨?_, ?_, ?_, ?_, ?_⟩, fun s hs y => ?_⟩
  · rw [eR10, zU_n (by omega), eR8, zU_n (by omega), eR6, zU_n (by omega), eR4, zU_n (by omega), eR2, zU_s]
  · rw [eR10, zU_n (by omega), eR8, zU_n (by omega), eR6, zU_n (by omega), eR4, zU_s]
  · rw [eR10, zU_n (by omega), eR8, zU_n (by omega), eR6, zU_s]
  · rw [eR10, zU_n (by omega), eR8, zU_s]
  · rw [eR10, zU_s]
  · have q : s = 0 ∨ s = 1 ∨ s = 2 ∨ s = 3 ∨ s = 4 ∨ s = 5 := by omega
    rcases q with rfl | rfl | rfl | rfl | rfl | rfl
    · rw [eX9, zZ_o (by omega), eX7, zZ_o (by omega), eX5, zZ_o (by omega), eX3, zZ_o (by omega), eX1, zZ_o (by omega), Nat.add_zero, hp]
    · rw [eX9, zZ_o (by omega), eX7, zZ_o (by omega), eX5, zZ_o (by omega), eX3, zZ_o (by omega), eX1, zZ_at]
    · rw [eX9, zZ_o (by omega), eX7, zZ_o (by omega), eX5, zZ_o (by omega), eX3, zZ_at]
    · rw [eX9, zZ_o (by omega), eX7, zZ_o (by omega), eX5, zZ_at]
    · rw [eX9, zZ_o (by omega), eX7, zZ_at]
    · rw [eX9, zZ_at]
theorem c_X0_init {l : Launch} {D : va_G} {cy : Nat → ClassId} {bs : Nat} {sa : Nat → Nat} {kd len : Nat → Nat} {X Y : Nat → Int → Int} {R : Nat → Int → Option Nat} {i : Nat} (hK : kT kd len i tBlocks)  (hp : X i = fun _ => 0) : Met l yX0_init (.code yX0_init cX0_init 1 none :: zTB) (zRmG 1 60 5 195) (zPcA D cy bs sa (i + 1) kd len X Y R [.ref (bs + (i))]) (zQv D cy bs (i + 6) kd len (fun st => st.2.1 = Y ∧ ((∀ z, (z < i ∨ i + 5 < z) → st.1 z = X z) ∧ (∀ z, z ≠ i → st.2.2 z = R z) ∧ eBk st.2.2 i ∧ z0B st.1 i))) 5 195 (zA bs) := w_X0_init hK  (v_X0_init  hp)
abbrev cX2_init : ByteArray := prog_4_method_1_code
def yX2_init : MethodName := ⟨RX2, "<init>", "(LWorkChains$Chart;)V"⟩
theorem dX2_init_0 : decode cX2_init 0 = .ok (.aload_n 0, 1) := by decide +kernel
theorem dX2_init_1 : decode cX2_init 1 = .ok (.invokespecial 3, 3) := by decide +kernel
theorem dX2_init_4 : decode cX2_init 4 = .ok (.aload_n 0, 1) := by decide +kernel
theorem dX2_init_5 : decode cX2_init 5 = .ok (.bipush 15, 2) := by decide +kernel
theorem dX2_init_7 : decode cX2_init 7 = .ok (.newarray .int, 2) := by decide +kernel
theorem dX2_init_9 : decode cX2_init 9 = .ok (.putfield 9, 3) := by decide +kernel
theorem dX2_init_12 : decode cX2_init 12 = .ok (.aload_n 0, 1) := by decide +kernel
theorem dX2_init_13 : decode cX2_init 13 = .ok (.aload_n 1, 1) := by decide +kernel
theorem dX2_init_14 : decode cX2_init 14 = .ok (.putfield 15, 3) := by decide +kernel
theorem dX2_init_17 : decode cX2_init 17 = .ok (.return_, 1) := by decide +kernel
theorem q_447 : Cond.methodLink RX2 3 Lib.objectInit ∈ zTB := zmem 447 (by decide +kernel) rfl
set_option maxHeartbeats 4000000 in
set_option maxRecDepth 100000 in
def F_X2_init (i j : Nat) (X Y : Nat → Int → Int) (R : Nat → Int → Option Nat)  : Prop := (∀ i j, rI (X i j)) → (∀ i j, rL (Y i j)) → ∀ X1 : Nat → Int → Int, X1 = zZ X (i + 1) 0 → (∀ i j, rI (X1 i j)) → (∀ R2 : Nat → Int → Option Nat, R2 = zU R (i) 3 (some ((i + 1))) → (∀ R3 : Nat → Int → Option Nat, R3 = zU R2 (i) 0 (some (j)) → ((∀ z, z ≠ i → z ≠ i + 1 → X1 z = X z) ∧ (∀ z, z ≠ i → R3 z = R z) ∧ R3 i 0 = some j ∧ R3 i 3 = some (i + 1))))
set_option maxHeartbeats 4000000 in
set_option maxRecDepth 100000 in
theorem w_X2_init {l : Launch} {D : va_G} {cy : Nat → ClassId} {bs : Nat} {sa : Nat → Nat} {kd len : Nat → Nat} {X Y : Nat → Int → Int} {R : Nat → Int → Option Nat} {i j : Nat} (hK : kT kd len i tCourse)  (hF : F_X2_init i j X Y R ) : Met l yX2_init (.code yX2_init cX2_init 2 none :: zTB) (zRmG 1 60 1 15) (zPcA D cy bs sa (i + 1) kd len X Y R [.ref (bs + (i)), .ref (bs + (j))]) (zQv D cy bs (i + 2) kd len (fun st => st.2.1 = Y ∧ ((∀ z, z ≠ i → z ≠ i + 1 → st.1 z = X z) ∧ (∀ z, z ≠ i → st.2.2 z = R z) ∧ st.2.2 i 0 = some j ∧ st.2.2 i 3 = some (i + 1)))) 1 15 (zA bs) := by
  refine zstartGA (by decide) (Nat.le_of_ble_eq_true rfl) ?_
  intro p e s m args below meth c ls C hE hA hH hr hlk hnm hl hargs
  have hF := hF hH.2.2.1 hH.2.2.2
  have hS : va_S (zA bs) s.heap s.heap [] := va_S.rf
  have hl : lv_has ls 2 [(0, .ref (bs + (i))), (1, .ref (bs + (j)))] := hl
  refine lv_aload_n C.1 C.2.1 dX2_init_0 rfl (lv_at hl 0 rfl) ?_
  refine zd_oinit C hl.1 q_447 q_154 q_155 (Nat.le_of_ble_eq_true rfl) dX2_init_1 (Nat.le_of_ble_eq_true rfl) (Nat.le_of_ble_eq_true rfl) ?_
  refine lv_aload_n C.1 C.2.1 dX2_init_4 rfl (lv_at hl 0 rfl) ?_
  refine zd_bipush C (by decide) dX2_init_5 ?_
  refine zd_newI C hH hS q_218 (n := 15) rfl (by decide) (kT_k (k := 13) (l := 15) hK 1 (by decide +kernel)) (kT_l (k := 13) (l := 15) hK 1 (by decide +kernel)) (Nat.le_of_ble_eq_true rfl) (Nat.le_of_ble_eq_true rfl) dX2_init_7 (fun H hH hS => ?_)
  obtain ⟨X1, eX1⟩ : ∃ z, z = zZ X (i + 1) 0 := ⟨_, rfl⟩
  rw [← eX1] at hH
  have hF := hF X1 eX1 hH.2.2.1
  refine zp2_3 C hH hS (by omega) (kT_0 (k := 2) (l := 0) hK (by decide +kernel)) q_451 hnm rfl dX2_init_9 (fun H locs hH hS => ?_)
  obtain ⟨R2, eR2⟩ : ∃ z, z = zU R (i) 3 (some ((i + 1))) := ⟨_, rfl⟩
  rw [← eR2] at hH
  have hF := hF R2 eR2
  refine lv_aload_n C.1 C.2.1 dX2_init_12 rfl (lv_at hl 0 rfl) ?_
  refine lv_aload_n C.1 C.2.1 dX2_init_13 rfl (lv_at hl 1 rfl) ?_
  refine zp2_0 C hH hS (by omega) (kT_0 (k := 2) (l := 0) hK (by decide +kernel)) q_448 hnm rfl dX2_init_14 (fun H locs hH hS => ?_)
  obtain ⟨R3, eR3⟩ : ∃ z, z = zU R2 (i) 0 (some (j)) := ⟨_, rfl⟩
  rw [← eR3] at hH
  have hF := hF R3 eR3
  refine W_raise (cells := 1) (slots := 15) (Nat.le_of_ble_eq_true rfl) (Nat.le_of_ble_eq_true rfl) ?_
  exact zd_vretG C hr hlk hH hS (⟨rfl, hF⟩) dX2_init_17
set_option maxHeartbeats 8000000 in
set_option maxRecDepth 100000 in
theorem v_X2_init {X Y : Nat → Int → Int} {R : Nat → Int → Option Nat} {i j : Nat}  (hp : X i = fun _ => 0) : F_X2_init i j X Y R  := by
  unfold F_X2_init
  intro hX hY
  intro X1
  intro eX1
  intro rX1
  intro R2
  intro eR2
  intro R3
  intro eR3
  exact ⟨fun z g1 g2 => by rw [eX1, zZ_o g2], fun z g => by rw [eR3, zU_o g, eR2, zU_o g], by rw [eR3]; exact zU_s, by rw [eR3, zU_n (by omega), eR2]; exact zU_s⟩
theorem c_X2_init {l : Launch} {D : va_G} {cy : Nat → ClassId} {bs : Nat} {sa : Nat → Nat} {kd len : Nat → Nat} {X Y : Nat → Int → Int} {R : Nat → Int → Option Nat} {i j : Nat} (hK : kT kd len i tCourse)  (hp : X i = fun _ => 0) : Met l yX2_init (.code yX2_init cX2_init 2 none :: zTB) (zRmG 1 60 1 15) (zPcA D cy bs sa (i + 1) kd len X Y R [.ref (bs + (i)), .ref (bs + (j))]) (zQv D cy bs (i + 2) kd len (fun st => st.2.1 = Y ∧ ((∀ z, z ≠ i → z ≠ i + 1 → st.1 z = X z) ∧ (∀ z, z ≠ i → st.2.2 z = R z) ∧ st.2.2 i 0 = some j ∧ st.2.2 i 3 = some (i + 1)))) 1 15 (zA bs) := w_X2_init hK  (v_X2_init  hp)
