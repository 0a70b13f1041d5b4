/-! WHAT A LINE TELLS -/
def tNt (X : Nat → Int → Int) (n : Nat) (s : (Int → Int) × Int) : Prop := (∀ w : Int, 0 ≤ w → w ≤ 6 → X n w = s.1 w) ∧ ∀ y : Int, 0 ≤ y → y < s.1 6 → X (n + 1) y = s.1 (7 + y)
def tBl (X : Nat → Int → Int) (n : Nat) (s : (Int → Int) × Int) : Prop := (X n 0 = s.1 0 ∧ s.2 = if s.1 0 = 0 then 0 else 4 + 13 * (s.1 0 - 1)) ∧ ∀ k : Int, 1 ≤ k → k ≤ s.1 0 → (X (n + 1) k = s.1 (1 + 13 * (k - 1)) ∧ X (n + 2) k = s.1 (1 + 13 * (k - 1) + 1) ∧ X (n + 3) k = s.1 (1 + 13 * (k - 1) + 2) ∧ X (n + 4) k = s.1 (1 + 13 * (k - 1) + 3)) ∧ ∀ j w : Int, 0 ≤ j → j < X (n + 4) k → 0 ≤ w → w < 3 → X (n + 5) ((k * 3 + j) * 3 + w) = s.1 (1 + 13 * (k - 1) + (4 + 3 * j + w))
def tRw (X : Nat → Int → Int) (r : Nat) (wd : Int) (s : (Int → Int) × Int) : Prop := X r 2 = s.1 0 ∧ ∀ k w : Int, 0 ≤ k → k < X r 2 → 0 ≤ w → w < wd → X (r + 1) (k * wd + w) = s.1 (1 + wd * k + w)
def wiO (a : Int) : Int := if a = 4 then 4 else 2
def toldR (X : Nat → Int → Int) (i : Nat) (a : Int) (s : (Int → Int) × Int) : Prop := if a = 0 then tNt X (i + 1) s else if a = 1 then tBl X (i + 3) s else tRw X (i + 12 + 2 * (a - 2).toNat) (wiO a) s
def tlK (X X1 : Nat → Int → Int) (i : Nat) : Prop := ∀ z, (z ≤ i ∨ (i + 8 < z ∧ z < i + 12) ∨ i + 17 < z) → X1 z = X z
section TL
variable {X X1 : Nat → Int → Int} {n : Nat} {s : (Int → Int) × Int}
theorem tl_0 {b v : Int} (h : X1 = cNt X n b v) (hb : 0 ≤ b ∧ b ≤ 6) (h6 : 0 ≤ X n 6 ∧ X n 6 ≤ 6) (hn : nV X n) (hm : ¬ (b = 6 ∧ X n 6 = 6)) (hv : 0 ≤ v ∧ v ≤ 99) : (∀ z, z ≠ n → z ≠ n + 1 → X1 z = X z) ∧ (0 ≤ X1 n 6 ∧ X1 n 6 ≤ 6) ∧ nV X1 n ∧ ∀ {t : Nat → Int}, t 0 = v → tNt X n s → tNt X1 n (tlN 0 b t s) := by
  unfold cNt at h
  by_cases c : 0 ≤ b ∧ b ≤ 5
  · rw [if_pos c] at h
    subst h
    refine ⟨fun z h1 _ => zU_o h1, by rw [zU_n (by omega)]; exact h6, fun a a0 a6 => by rw [zU_o (by omega)]; exact hn a a0 a6, fun {t} ht hs => ?_⟩
    unfold tlN
    rw [if_pos rfl, if_neg (by omega), ht]
    refine ⟨fun w w0 w6 => ?_, fun y y0 y1 => ?_⟩
    · show zU X n b v n w = upI s.1 b v w
      unfold upI
      by_cases e : w = b
      · rw [e, zU_s, if_pos rfl]
      · rw [zU_n (by omega), if_neg e]
        exact hs.1 w w0 w6
    · have y1 : y < upI s.1 b v 6 := y1
      rw [upI_ne (by omega)] at y1
      show zU X n b v (n + 1) y = upI s.1 b v (7 + y)
      rw [zU_o (by omega), upI_ne (by omega)]
      exact hs.2 y y0 y1
  · obtain rfl : b = 6 := by omega
    rw [if_neg c, if_pos (by omega)] at h
    have l6 : X n 6 < 6 := by omega
    subst h
    refine ⟨fun z h1 h2 => by rw [zU_o h2, zU_o h1], by rw [zU_o (by omega), zU_s]; omega, fun a a0 a6 => ?_, fun {t} ht hs => ?_⟩
    · by_cases e : a = X n 6
      · rw [e, zU_s]
        exact hv
      · rw [zU_n (by omega), zU_o (by omega)]
        exact hn a a0 a6
    · unfold tlN
      rw [if_pos rfl, if_pos rfl, ht]
      have e6 := hs.1 6 (by decide) (by decide)
      refine ⟨fun w w0 w6 => ?_, fun y y0 y1 => ?_⟩
      · show zU (zU X n 6 (X n 6 + 1)) (n + 1) (X n 6) v n w = upI (upI s.1 (7 + s.1 6) v) 6 (s.1 6 + 1) w
        rw [zU_o (by omega)]
        by_cases e : w = 6
        · rw [e, zU_s, ← e6]
          exact (if_pos rfl).symm
        · rw [zU_n (by omega), upI_ne e, upI_ne (by omega)]
          exact hs.1 w w0 w6
      · have y1 : y < upI (upI s.1 (7 + s.1 6) v) 6 (s.1 6 + 1) 6 := y1
        rw [show upI (upI s.1 (7 + s.1 6) v) 6 (s.1 6 + 1) 6 = s.1 6 + 1 from if_pos rfl] at y1
        show zU (zU X n 6 (X n 6 + 1)) (n + 1) (X n 6) v (n + 1) y = upI (upI s.1 (7 + s.1 6) v) 6 (s.1 6 + 1) (7 + y)
        rw [upI_ne (by omega)]
        by_cases e : y = X n 6
        · rw [e, zU_s, e6]
          exact (if_pos rfl).symm
        · rw [zU_n (by omega), zU_o (by omega), upI_ne (by omega)]
          exact hs.2 y y0 (by omega)
theorem tl_b {a b g : Int} (h : X1 = cBk X n a b g) (h0 : 0 ≤ X n 0 ∧ X n 0 ≤ 14) (hb : bV X n) (hp : ∀ k : Int, 0 ≤ k → k < 15 → 0 ≤ X (n + 4) k ∧ X (n + 4) k ≤ 3) (hm : ¬ X n 0 + 1 = 15) : (∀ z, (z < n ∨ n + 5 < z) → X1 z = X z) ∧ (0 ≤ X1 n 0 ∧ X1 n 0 ≤ 14) ∧ bV X1 n ∧ (∀ k : Int, 0 ≤ k → k < 15 → 0 ≤ X1 (n + 4) k ∧ X1 (n + 4) k ≤ 3) ∧ ∀ {t : Nat → Int}, t 0 = a → t 1 = b → t 2 = g → tBl X n s → tBl X1 n (tlN 1 0 t s) := by
  unfold cBk at h
  rw [if_neg (by omega)] at h
  generalize hL : X n 0 = L at h h0 hm
  subst h
  refine ⟨fun z hz => by rw [zU_o (by omega), zU_o (by omega), zU_o (by omega), zU_o (by omega), zU_o (by omega)], ?_, ⟨?_, ?_, ?_⟩, fun k k0 k1 => ?_, fun {t} t0 t1 t2 hs => ?_⟩
  · rw [zU_o (by omega), zU_o (by omega), zU_o (by omega), zU_o (by omega), zU_s]
    omega
  · unfold pyP
    rw [zU_o (by omega), zU_o (by omega), zU_o (by omega), zU_o (by omega), zU_o (by omega)]
    exact hb.1
  · rw [zU_o (by omega), zU_o (by omega), zU_n (by omega), zU_o (by omega), zU_o (by omega)]
    exact hb.2.1
  · rw [zU_n (by omega), zU_o (by omega), zU_o (by omega), zU_o (by omega), zU_o (by omega)]
    exact hb.2.2
  · by_cases e : k = L + 1
    · rw [e, zU_s]
      decide
    · rw [zU_n (by omega), zU_o (by omega), zU_o (by omega), zU_o (by omega), zU_o (by omega)]
      exact hp k k0 k1
  · obtain ⟨⟨s0, s2⟩, sk⟩ := hs
    rw [hL] at s0
    have fE : ∀ y : Int, y ≠ 0 → y ≠ 182 → y ≠ 4 + 13 * L → (tlN 1 0 t s).1 y = upS s.1 (1 + 13 * L) t 3 y := fun y y0 y1 y2 => by
      unfold tlN
      rw [if_neg (by decide), if_pos rfl, if_pos rfl]
      show upI (upI (upI (upS s.1 (1 + 13 * s.1 0) t 3) (4 + 13 * s.1 0) 0) 182 0) 0 (s.1 0 + 1) y = _
      rw [upI_ne y0, upI_ne y1, upI_ne (by omega), s0]
    have f0 : (tlN 1 0 t s).1 0 = L + 1 := by
      unfold tlN
      rw [if_neg (by decide), if_pos rfl, if_pos rfl, s0]
      show upI (upI (upI (upS s.1 (1 + 13 * s.1 0) t 3) (4 + 13 * s.1 0) 0) 182 0) 0 (s.1 0 + 1) 0 = s.1 0 + 1
      exact if_pos rfl
    have f4 : (tlN 1 0 t s).1 (4 + 13 * L) = 0 := by
      unfold tlN
      rw [if_neg (by decide), if_pos rfl, if_pos rfl]
      show upI (upI (upI (upS s.1 (1 + 13 * s.1 0) t 3) (4 + 13 * s.1 0) 0) 182 0) 0 (s.1 0 + 1) (4 + 13 * L) = 0
      rw [upI_ne (by omega), upI_ne (by omega), s0]
      exact if_pos rfl
    have p2 : (tlN 1 0 t s).2 = 4 + 13 * L := by
      unfold tlN
      rw [if_neg (by decide), if_pos rfl, if_pos rfl, s0]
    refine ⟨⟨?_, ?_⟩, fun k k1 kL => ?_⟩
    · rw [f0, zU_o (by omega), zU_o (by omega), zU_o (by omega), zU_o (by omega), zU_s]
    · rw [f0, p2, if_neg (by omega)]
      omega
    · rw [f0] at kL
      by_cases e : k = L + 1
      · rw [e, show L + 1 - 1 = L by omega]
        have u : ∀ (j : Nat) (y : Int), j < 3 → y = 1 + 13 * L + j → (tlN 1 0 t s).1 y = t j := fun j y hj hy => by
          rw [fE y (by omega) (by omega) (by omega)]
          exact upS_y 3 j hj hy
        refine ⟨⟨?_, ?_, ?_, ?_⟩, fun j w j0 j1 w0 w1 => ?_⟩
        · rw [zU_o (by omega), zU_o (by omega), zU_o (by omega), zU_s, u 0 _ (by decide) (by omega), t0]
        · rw [zU_o (by omega), zU_o (by omega), zU_s, u 1 _ (by decide) (by omega), t1]
        · rw [zU_o (by omega), zU_s, u 2 _ (by decide) (by omega), t2]
        · rw [zU_s, show 1 + 13 * L + 3 = 4 + 13 * L by omega, f4]
        · rw [zU_s] at j1
          omega
      · have g := sk k k1 (by omega)
        have v : ∀ y : Int, 1 ≤ y → y ≤ 13 * L → (tlN 1 0 t s).1 y = s.1 y := fun y y0 y1 => by
          rw [fE y (by omega) (by omega) (by omega)]
          exact upS_n 3 (by omega)
        refine ⟨⟨?_, ?_, ?_, ?_⟩, fun j w j0 j1 w0 w1 => ?_⟩
        · rw [zU_o (by omega), zU_o (by omega), zU_o (by omega), zU_n (by omega), zU_o (by omega), v _ (by omega) (by omega)]
          exact g.1.1
        · rw [zU_o (by omega), zU_o (by omega), zU_n (by omega), zU_o (by omega), zU_o (by omega), v _ (by omega) (by omega)]
          exact g.1.2.1
        · rw [zU_o (by omega), zU_n (by omega), zU_o (by omega), zU_o (by omega), zU_o (by omega), v _ (by omega) (by omega)]
          exact g.1.2.2.1
        · rw [zU_n (by omega), zU_o (by omega), zU_o (by omega), zU_o (by omega), zU_o (by omega), v _ (by omega) (by omega)]
          exact g.1.2.2.2
        · rw [zU_n (by omega), zU_o (by omega), zU_o (by omega), zU_o (by omega), zU_o (by omega)] at j1
          have p3 := (hp k (by omega) (by omega)).2
          rw [zU_o (by omega), zU_o (by omega), zU_o (by omega), zU_o (by omega), zU_o (by omega), v _ (by omega) (by omega)]
          exact g.2 j w j0 j1 w0 w1
theorem tl_p {a b g : Int} (h : X1 = cPy X n a b g) (h0 : 0 ≤ X n 0 ∧ X n 0 ≤ 14) (hb : bV X n) (hp : ∀ k : Int, 0 ≤ k → k < 15 → 0 ≤ X (n + 4) k ∧ X (n + 4) k ≤ 3) (hm : 0 < X n 0 ∧ X n 0 < 15 ∧ X (n + 4) (X n 0) < 3) (hv : (0 ≤ a ∧ a ≤ 99) ∧ (0 ≤ b ∧ b ≤ 99) ∧ 0 ≤ g ∧ g ≤ 99) : (∀ z, (z < n ∨ n + 5 < z) → X1 z = X z) ∧ (0 ≤ X1 n 0 ∧ X1 n 0 ≤ 14) ∧ bV X1 n ∧ (∀ k : Int, 0 ≤ k → k < 15 → 0 ≤ X1 (n + 4) k ∧ X1 (n + 4) k ≤ 3) ∧ ∀ {t : Nat → Int} {w : Int}, w ≠ 0 → t 0 = a → t 1 = b → t 2 = g → tBl X n s → tBl X1 n (tlN 1 w t s) := by
  unfold cPy at h
  rw [if_pos hm] at h
  have hP := hp (X n 0) (by omega) (by omega)
  generalize hL : X n 0 = L at h h0 hm hP
  generalize hQ : X (n + 4) L = P at h hm hP
  subst h
  refine ⟨fun z hz => by rw [zU_o (by omega), zU_o (by omega), zU_o (by omega), zU_o (by omega)], ?_, ⟨?_, ?_, ?_⟩, fun k k0 k1 => ?_, fun {t} {w} w0 t0 t1 t2 hs => ?_⟩
  · rw [zU_o (by omega), zU_o (by omega), zU_o (by omega), zU_o (by omega), hL]
    omega
  · intro y y0 y1
    rw [zU_o (by omega)]
    by_cases e2 : y = (L * 3 + P) * 3 + 2
    · rw [e2, zU_s]
      exact hv.2.2
    · rw [zU_n (by omega)]
      by_cases e1 : y = (L * 3 + P) * 3 + 1
      · rw [e1, zU_s]
        exact hv.2.1
      · rw [zU_n (by omega)]
        by_cases e0 : y = (L * 3 + P) * 3
        · rw [e0, zU_s]
          exact hv.1
        · rw [zU_n (by omega)]
          exact hb.1 y y0 y1
  · rw [zU_o (by omega), zU_o (by omega), zU_o (by omega), zU_o (by omega)]
    exact hb.2.1
  · rw [zU_n (by omega), zU_o (by omega), zU_o (by omega), zU_o (by omega)]
    exact hb.2.2
  · by_cases e : k = L
    · rw [e, zU_s]
      omega
    · rw [zU_n (by omega), zU_o (by omega), zU_o (by omega), zU_o (by omega)]
      exact hp k k0 k1
  · obtain ⟨⟨s0, s2⟩, sk⟩ := hs
    rw [hL] at s0
    rw [← s0, if_neg (by omega)] at s2
    have gL := sk L (by omega) (by omega)
    have sp : s.1 s.2 = P := by
      rw [s2, show 4 + 13 * (L - 1) = 1 + 13 * (L - 1) + 3 by omega, ← gL.1.2.2.2, hQ]
    have fE : ∀ y : Int, y ≠ s.2 → (tlN 1 w t s).1 y = upS s.1 (s.2 + 1 + 3 * P) t 3 y := fun y y0 => by
      unfold tlN
      rw [if_neg (by decide), if_pos rfl, if_neg w0, sp]
      exact upI_ne y0
    have fp : (tlN 1 w t s).1 s.2 = P + 1 := by
      unfold tlN
      rw [if_neg (by decide), if_pos rfl, if_neg w0, sp]
      exact if_pos rfl
    have p2 : (tlN 1 w t s).2 = s.2 := by
      unfold tlN
      rw [if_neg (by decide), if_pos rfl, if_neg w0]
    have v : ∀ y : Int, y ≠ s.2 → (y < s.2 + 1 + 3 * P ∨ s.2 + 1 + 3 * P + 3 ≤ y) → (tlN 1 w t s).1 y = s.1 y := fun y y0 y1 => by
      rw [fE y y0]
      exact upS_n 3 (by omega)
    have u : ∀ (j : Nat) (y : Int), j < 3 → y = s.2 + 1 + 3 * P + j → (tlN 1 w t s).1 y = t j := fun j y hj hy => by
      rw [fE y (by omega)]
      exact upS_y 3 j hj hy
    have f0 : (tlN 1 w t s).1 0 = L := by rw [v 0 (by omega) (by omega)]; exact s0.symm
    refine ⟨⟨?_, ?_⟩, fun k k1 kL => ?_⟩
    · rw [f0, zU_o (by omega), zU_o (by omega), zU_o (by omega), zU_o (by omega), hL]
    · rw [f0, p2, if_neg (by omega), s2]
    · rw [f0] at kL
      have g := sk k k1 (by omega)
      refine ⟨⟨?_, ?_, ?_, ?_⟩, fun j x j0 j1 x0 x1 => ?_⟩
      · rw [zU_o (by omega), zU_o (by omega), zU_o (by omega), zU_o (by omega), v _ (by omega) (by omega)]
        exact g.1.1
      · rw [zU_o (by omega), zU_o (by omega), zU_o (by omega), zU_o (by omega), v _ (by omega) (by omega)]
        exact g.1.2.1
      · rw [zU_o (by omega), zU_o (by omega), zU_o (by omega), zU_o (by omega), v _ (by omega) (by omega)]
        exact g.1.2.2.1
      · by_cases e : k = L
        · rw [e, zU_s, show 1 + 13 * (L - 1) + 3 = s.2 by omega, fp]
        · rw [zU_n (by omega), zU_o (by omega), zU_o (by omega), zU_o (by omega), v _ (by omega) (by omega)]
          exact g.1.2.2.2
      · rw [zU_o (by omega)]
        by_cases e : k = L
        · rw [e, zU_s] at j1
          rw [e]
          by_cases ej : j = P
          · rw [ej]
            have ex : x = 0 ∨ x = 1 ∨ x = 2 := by omega
            rcases ex with rfl | rfl | rfl
            · rw [zU_n (by omega), zU_n (by omega), show (L * 3 + P) * 3 + 0 = (L * 3 + P) * 3 by omega, zU_s, u 0 _ (by decide) (by omega), t0]
            · rw [zU_n (by omega), zU_s, u 1 _ (by decide) (by omega), t1]
            · rw [zU_s, u 2 _ (by decide) (by omega), t2]
          · rw [zU_n (by omega), zU_n (by omega), zU_n (by omega), v _ (by omega) (by omega)]
            rw [e] at g
            exact g.2 j x j0 (by rw [hQ]; omega) x0 x1
        · rw [zU_n (by omega), zU_o (by omega), zU_o (by omega), zU_o (by omega)] at j1
          have p3 := (hp k (by omega) (by omega)).2
          rw [zU_n (by omega), zU_n (by omega), zU_n (by omega), v _ (by omega) (by omega)]
          exact g.2 j x j0 j1 x0 x1
theorem tl_r {a b g d wd mo : Int} {nn : Nat} {vv : Nat → Int} (h : X1 = cRw X n a b g d) (hr : rowV X n wd mo nn) (hw : wd = 2 ∨ wd = 4) (hm : ¬ X n 2 = X n 1) (h0 : vv 0 = a) (h1 : vv 1 = b) (h2 : wd = 4 → vv 2 = g ∧ vv 3 = d) : (∀ z, z ≠ n → z ≠ n + 1 → X1 z = X z) ∧ rowV X1 n wd mo nn ∧ (tRw X n wd s → tRw X1 n wd (upI (upS s.1 (1 + wd * s.1 0) vv wd.toNat) 0 (s.1 0 + 1), s.2)) := by
  obtain ⟨⟨o1, o2, o3, o4⟩, r0, r1⟩ := hr
  unfold cRw at h
  rw [if_neg (by omega)] at h
  obtain ⟨S, hS⟩ : ∃ S : Int, X n 2 = S := ⟨_, rfl⟩
  have f : (∀ z, z ≠ n → z ≠ n + 1 → X1 z = X z) ∧ (∀ y : Int, y ≠ 2 → X1 n y = X n y) ∧ X1 n 2 = S + 1 ∧ (∀ y : Int, y < S * wd → X1 (n + 1) y = X (n + 1) y) ∧ ∀ j : Nat, j < wd.toNat → X1 (n + 1) (S * wd + j) = vv j := by
    rcases hw with rfl | rfl
    · have e : X1 = zU (zU (zU X (n + 1) (S * 2 + 0) a) (n + 1) (S * 2 + 1) b) n 2 (S + 1) := by
        rw [h]
        unfold cPt
        rw [if_pos (show (0 : Int) < X n 0 by omega)]
        rw [zU_o (show n ≠ n + 1 by omega), if_pos (show (1 : Int) < X n 0 by omega)]
        rw [zU_o (show n ≠ n + 1 by omega), zU_o (show n ≠ n + 1 by omega), if_neg (show ¬ (2 : Int) < X n 0 by omega)]
        rw [zU_o (show n ≠ n + 1 by omega), zU_o (show n ≠ n + 1 by omega), if_neg (show ¬ (3 : Int) < X n 0 by omega), hS, r0]
      subst e
      refine ⟨fun z z1 z2 => by rw [zU_o z1, zU_o z2, zU_o z2], fun y hy => by rw [zU_n (by omega), zU_o (by omega), zU_o (by omega)], by rw [zU_s], fun y hy => by rw [zU_o (by omega), zU_n (by omega), zU_n (by omega)], fun j hj => ?_⟩
      have ej : j = 0 ∨ j = 1 := by
        have hj : j < 2 := hj
        omega
      rcases ej with rfl | rfl
      · rw [zU_o (by omega), zU_n (by omega), h0]
        exact zU_s
      · rw [zU_o (by omega), h1]
        exact zU_s
    · have e : X1 = zU (zU (zU (zU (zU X (n + 1) (S * 4 + 0) a) (n + 1) (S * 4 + 1) b) (n + 1) (S * 4 + 2) g) (n + 1) (S * 4 + 3) d) n 2 (S + 1) := by
        rw [h]
        unfold cPt
        rw [if_pos (show (0 : Int) < X n 0 by omega)]
        rw [zU_o (show n ≠ n + 1 by omega), if_pos (show (1 : Int) < X n 0 by omega)]
        rw [zU_o (show n ≠ n + 1 by omega), zU_o (show n ≠ n + 1 by omega), if_pos (show (2 : Int) < X n 0 by omega)]
        rw [zU_o (show n ≠ n + 1 by omega), zU_o (show n ≠ n + 1 by omega), zU_o (show n ≠ n + 1 by omega), if_pos (show (3 : Int) < X n 0 by omega), hS, r0]
      subst e
      refine ⟨fun z z1 z2 => by rw [zU_o z1, zU_o z2, zU_o z2, zU_o z2, zU_o z2], fun y hy => by rw [zU_n (by omega), zU_o (by omega), zU_o (by omega), zU_o (by omega), zU_o (by omega)], by rw [zU_s], fun y hy => by rw [zU_o (by omega), zU_n (by omega), zU_n (by omega), zU_n (by omega), zU_n (by omega)], fun j hj => ?_⟩
      have ej : j = 0 ∨ j = 1 ∨ j = 2 ∨ j = 3 := by
        have hj : j < 4 := hj
        omega
      rcases ej with rfl | rfl | rfl | rfl
      · rw [zU_o (by omega), zU_n (by omega), zU_n (by omega), zU_n (by omega), h0]
        exact zU_s
      · rw [zU_o (by omega), zU_n (by omega), zU_n (by omega), h1]
        exact zU_s
      · rw [zU_o (by omega), zU_n (by omega), (h2 rfl).1]
        exact zU_s
      · rw [zU_o (by omega), (h2 rfl).2]
        exact zU_s
  obtain ⟨f1, f2, f3, f4, f5⟩ := f
  refine ⟨f1, ⟨⟨by rw [f2 0 (by decide)]; exact o1, by rw [f3, f2 1 (by decide)]; omega, by rw [f2 1 (by decide)]; exact o3, by rw [f2 0 (by decide), f2 1 (by decide)]; exact o4⟩, by rw [f2 0 (by decide)]; exact r0, by rw [f2 1 (by decide)]; exact r1⟩, fun hs => ?_⟩
  have s0 : S = s.1 0 := by rw [← hS]; exact hs.1
  refine ⟨?_, fun k w k0 k1 w0 w1 => ?_⟩
  · rw [f3, s0]
    show s.1 0 + 1 = upI (upS s.1 (1 + wd * s.1 0) vv wd.toNat) 0 (s.1 0 + 1) 0
    exact (if_pos rfl).symm
  · rw [f3] at k1
    show X1 (n + 1) (k * wd + w) = upI (upS s.1 (1 + wd * s.1 0) vv wd.toNat) 0 (s.1 0 + 1) (1 + wd * k + w)
    have hk0 : 0 ≤ wd * k := by rcases hw with rfl | rfl <;> omega
    rw [upI_ne (by omega)]
    by_cases e : k = S
    · have ew : ((w.toNat : Nat) : Int) = w := by omega
      rw [e, ← ew, f5 w.toNat (by omega)]
      symm
      exact upS_y wd.toNat w.toNat (by omega) (by rw [s0])
    · have lt : k * wd + w < S * wd := by rcases hw with rfl | rfl <;> omega
      rw [f4 _ lt, upS_n _ (by rcases hw with rfl | rfl <;> omega)]
      exact hs.2 k w k0 (by omega) w0 w1
end TL
section VK
variable {X X1 : Nat → Int → Int} {i : Nat}
theorem vN_k (e1 : X1 (i + 1) = X (i + 1)) (e2 : X1 (i + 2) = X (i + 2)) (h : rdV X i) : (0 ≤ X1 (i + 1) 6 ∧ X1 (i + 1) 6 ≤ 6) ∧ nV X1 (i + 1) := by
  unfold nV
  rw [e1, show i + 1 + 1 = i + 2 from rfl, e2]
  exact h.1
theorem vB_k (e : ∀ z, i + 3 ≤ z → z ≤ i + 8 → X1 z = X z) (h : rdV X i) : (0 ≤ X1 (i + 3) 0 ∧ X1 (i + 3) 0 ≤ 14) ∧ bV X1 (i + 3) ∧ ∀ k : Int, 0 ≤ k → k < 15 → 0 ≤ X1 (i + 7) k ∧ X1 (i + 7) k ≤ 3 := by
  show (0 ≤ X1 (i + 3) 0 ∧ X1 (i + 3) 0 ≤ 14) ∧ bV X1 (i + 3) ∧ ∀ k : Int, 0 ≤ k → k < 15 → 0 ≤ X1 (i + 3 + 4) k ∧ X1 (i + 3 + 4) k ≤ 3
  unfold bV pyP
  rw [e (i + 3) (by omega) (by omega), e (i + 3 + 5) (by omega) (by omega), e (i + 3 + 2) (by omega) (by omega), e (i + 3 + 4) (by omega) (by omega)]
  exact h.2.1
theorem vR_k {r : Nat} {wd mo : Int} {nn : Nat} (e : X1 r = X r) (h : rowV X r wd mo nn) : rowV X1 r wd mo nn := by
  unfold rowV oRw
  rw [e]
  exact h
end VK
abbrev cX7_tellLine : ByteArray := prog_9_method_6_code
def yX7_tellLine : MethodName := ⟨RX7, "tellLine", "(II)V"⟩
theorem dX7_tellLine_0 : decode cX7_tellLine 0 = .ok (.iload_n 1, 1) := by decide +kernel
theorem dX7_tellLine_1 : decode cX7_tellLine 1 = .ok (.ifCond .ne 20, 3) := by decide +kernel
theorem dX7_tellLine_4 : decode cX7_tellLine 4 = .ok (.aload_n 0, 1) := by decide +kernel
theorem dX7_tellLine_5 : decode cX7_tellLine 5 = .ok (.getfield 12, 3) := by decide +kernel
theorem dX7_tellLine_8 : decode cX7_tellLine 8 = .ok (.iload_n 2, 1) := by decide +kernel
theorem dX7_tellLine_9 : decode cX7_tellLine 9 = .ok (.aload_n 0, 1) := by decide +kernel
theorem dX7_tellLine_10 : decode cX7_tellLine 10 = .ok (.getfield 35, 3) := by decide +kernel
theorem dX7_tellLine_13 : decode cX7_tellLine 13 = .ok (.iconst 0, 1) := by decide +kernel
theorem dX7_tellLine_14 : decode cX7_tellLine 14 = .ok (.iaload, 1) := by decide +kernel
theorem dX7_tellLine_15 : decode cX7_tellLine 15 = .ok (.invokevirtual 112, 3) := by decide +kernel
theorem dX7_tellLine_18 : decode cX7_tellLine 18 = .ok (.goto 163, 3) := by decide +kernel
theorem dX7_tellLine_21 : decode cX7_tellLine 21 = .ok (.iload_n 1, 1) := by decide +kernel
theorem dX7_tellLine_22 : decode cX7_tellLine 22 = .ok (.iconst 1, 1) := by decide +kernel
theorem dX7_tellLine_23 : decode cX7_tellLine 23 = .ok (.if_icmp .ne 35, 3) := by decide +kernel
theorem dX7_tellLine_26 : decode cX7_tellLine 26 = .ok (.iload_n 2, 1) := by decide +kernel
theorem dX7_tellLine_27 : decode cX7_tellLine 27 = .ok (.ifCond .ne 31, 3) := by decide +kernel
theorem dX7_tellLine_30 : decode cX7_tellLine 30 = .ok (.aload_n 0, 1) := by decide +kernel
theorem dX7_tellLine_31 : decode cX7_tellLine 31 = .ok (.getfield 21, 3) := by decide +kernel
theorem dX7_tellLine_34 : decode cX7_tellLine 34 = .ok (.aload_n 0, 1) := by decide +kernel
theorem dX7_tellLine_35 : decode cX7_tellLine 35 = .ok (.getfield 35, 3) := by decide +kernel
theorem dX7_tellLine_38 : decode cX7_tellLine 38 = .ok (.iconst 0, 1) := by decide +kernel
theorem dX7_tellLine_39 : decode cX7_tellLine 39 = .ok (.iaload, 1) := by decide +kernel
theorem dX7_tellLine_40 : decode cX7_tellLine 40 = .ok (.aload_n 0, 1) := by decide +kernel
theorem dX7_tellLine_41 : decode cX7_tellLine 41 = .ok (.getfield 35, 3) := by decide +kernel
theorem dX7_tellLine_44 : decode cX7_tellLine 44 = .ok (.iconst 1, 1) := by decide +kernel
theorem dX7_tellLine_45 : decode cX7_tellLine 45 = .ok (.iaload, 1) := by decide +kernel
theorem dX7_tellLine_46 : decode cX7_tellLine 46 = .ok (.aload_n 0, 1) := by decide +kernel
theorem dX7_tellLine_47 : decode cX7_tellLine 47 = .ok (.getfield 35, 3) := by decide +kernel
theorem dX7_tellLine_50 : decode cX7_tellLine 50 = .ok (.iconst 2, 1) := by decide +kernel
theorem dX7_tellLine_51 : decode cX7_tellLine 51 = .ok (.iaload, 1) := by decide +kernel
theorem dX7_tellLine_52 : decode cX7_tellLine 52 = .ok (.invokevirtual 115, 3) := by decide +kernel
theorem dX7_tellLine_55 : decode cX7_tellLine 55 = .ok (.goto 126, 3) := by decide +kernel
theorem dX7_tellLine_58 : decode cX7_tellLine 58 = .ok (.iload_n 1, 1) := by decide +kernel
theorem dX7_tellLine_59 : decode cX7_tellLine 59 = .ok (.iconst 1, 1) := by decide +kernel
theorem dX7_tellLine_60 : decode cX7_tellLine 60 = .ok (.if_icmp .ne 31, 3) := by decide +kernel
theorem dX7_tellLine_63 : decode cX7_tellLine 63 = .ok (.aload_n 0, 1) := by decide +kernel
theorem dX7_tellLine_64 : decode cX7_tellLine 64 = .ok (.getfield 21, 3) := by decide +kernel
theorem dX7_tellLine_67 : decode cX7_tellLine 67 = .ok (.aload_n 0, 1) := by decide +kernel
theorem dX7_tellLine_68 : decode cX7_tellLine 68 = .ok (.getfield 35, 3) := by decide +kernel
theorem dX7_tellLine_71 : decode cX7_tellLine 71 = .ok (.iconst 0, 1) := by decide +kernel
theorem dX7_tellLine_72 : decode cX7_tellLine 72 = .ok (.iaload, 1) := by decide +kernel
theorem dX7_tellLine_73 : decode cX7_tellLine 73 = .ok (.aload_n 0, 1) := by decide +kernel
theorem dX7_tellLine_74 : decode cX7_tellLine 74 = .ok (.getfield 35, 3) := by decide +kernel
theorem dX7_tellLine_77 : decode cX7_tellLine 77 = .ok (.iconst 1, 1) := by decide +kernel
theorem dX7_tellLine_78 : decode cX7_tellLine 78 = .ok (.iaload, 1) := by decide +kernel
theorem dX7_tellLine_79 : decode cX7_tellLine 79 = .ok (.aload_n 0, 1) := by decide +kernel
theorem dX7_tellLine_80 : decode cX7_tellLine 80 = .ok (.getfield 35, 3) := by decide +kernel
theorem dX7_tellLine_83 : decode cX7_tellLine 83 = .ok (.iconst 2, 1) := by decide +kernel
theorem dX7_tellLine_84 : decode cX7_tellLine 84 = .ok (.iaload, 1) := by decide +kernel
theorem dX7_tellLine_85 : decode cX7_tellLine 85 = .ok (.invokevirtual 119, 3) := by decide +kernel
theorem dX7_tellLine_88 : decode cX7_tellLine 88 = .ok (.goto 93, 3) := by decide +kernel
theorem dX7_tellLine_91 : decode cX7_tellLine 91 = .ok (.iload_n 1, 1) := by decide +kernel
theorem dX7_tellLine_92 : decode cX7_tellLine 92 = .ok (.iconst 2, 1) := by decide +kernel
theorem dX7_tellLine_93 : decode cX7_tellLine 93 = .ok (.if_icmp .ne 24, 3) := by decide +kernel
theorem dX7_tellLine_96 : decode cX7_tellLine 96 = .ok (.aload_n 0, 1) := by decide +kernel
theorem dX7_tellLine_97 : decode cX7_tellLine 97 = .ok (.getfield 27, 3) := by decide +kernel
theorem dX7_tellLine_100 : decode cX7_tellLine 100 = .ok (.iconst 0, 1) := by decide +kernel
theorem dX7_tellLine_101 : decode cX7_tellLine 101 = .ok (.aaload, 1) := by decide +kernel
theorem dX7_tellLine_102 : decode cX7_tellLine 102 = .ok (.iload_n 2, 1) := by decide +kernel
theorem dX7_tellLine_103 : decode cX7_tellLine 103 = .ok (.aload_n 0, 1) := by decide +kernel
theorem dX7_tellLine_104 : decode cX7_tellLine 104 = .ok (.getfield 35, 3) := by decide +kernel
theorem dX7_tellLine_107 : decode cX7_tellLine 107 = .ok (.iconst 0, 1) := by decide +kernel
theorem dX7_tellLine_108 : decode cX7_tellLine 108 = .ok (.iaload, 1) := by decide +kernel
theorem dX7_tellLine_109 : decode cX7_tellLine 109 = .ok (.iconst 0, 1) := by decide +kernel
theorem dX7_tellLine_110 : decode cX7_tellLine 110 = .ok (.iconst 0, 1) := by decide +kernel
theorem dX7_tellLine_111 : decode cX7_tellLine 111 = .ok (.invokevirtual 122, 3) := by decide +kernel
theorem dX7_tellLine_114 : decode cX7_tellLine 114 = .ok (.goto 67, 3) := by decide +kernel
theorem dX7_tellLine_117 : decode cX7_tellLine 117 = .ok (.iload_n 1, 1) := by decide +kernel
theorem dX7_tellLine_118 : decode cX7_tellLine 118 = .ok (.iconst 3, 1) := by decide +kernel
theorem dX7_tellLine_119 : decode cX7_tellLine 119 = .ok (.if_icmp .ne 29, 3) := by decide +kernel
theorem dX7_tellLine_122 : decode cX7_tellLine 122 = .ok (.aload_n 0, 1) := by decide +kernel
theorem dX7_tellLine_123 : decode cX7_tellLine 123 = .ok (.getfield 27, 3) := by decide +kernel
theorem dX7_tellLine_126 : decode cX7_tellLine 126 = .ok (.iconst 1, 1) := by decide +kernel
theorem dX7_tellLine_127 : decode cX7_tellLine 127 = .ok (.aaload, 1) := by decide +kernel
theorem dX7_tellLine_128 : decode cX7_tellLine 128 = .ok (.aload_n 0, 1) := by decide +kernel
theorem dX7_tellLine_129 : decode cX7_tellLine 129 = .ok (.getfield 35, 3) := by decide +kernel
theorem dX7_tellLine_132 : decode cX7_tellLine 132 = .ok (.iconst 0, 1) := by decide +kernel
theorem dX7_tellLine_133 : decode cX7_tellLine 133 = .ok (.iaload, 1) := by decide +kernel
theorem dX7_tellLine_134 : decode cX7_tellLine 134 = .ok (.aload_n 0, 1) := by decide +kernel
theorem dX7_tellLine_135 : decode cX7_tellLine 135 = .ok (.getfield 35, 3) := by decide +kernel
theorem dX7_tellLine_138 : decode cX7_tellLine 138 = .ok (.iconst 1, 1) := by decide +kernel
theorem dX7_tellLine_139 : decode cX7_tellLine 139 = .ok (.iaload, 1) := by decide +kernel
theorem dX7_tellLine_140 : decode cX7_tellLine 140 = .ok (.iconst 0, 1) := by decide +kernel
theorem dX7_tellLine_141 : decode cX7_tellLine 141 = .ok (.iconst 0, 1) := by decide +kernel
theorem dX7_tellLine_142 : decode cX7_tellLine 142 = .ok (.invokevirtual 122, 3) := by decide +kernel
theorem dX7_tellLine_145 : decode cX7_tellLine 145 = .ok (.goto 36, 3) := by decide +kernel
theorem dX7_tellLine_148 : decode cX7_tellLine 148 = .ok (.aload_n 0, 1) := by decide +kernel
theorem dX7_tellLine_149 : decode cX7_tellLine 149 = .ok (.getfield 27, 3) := by decide +kernel
theorem dX7_tellLine_152 : decode cX7_tellLine 152 = .ok (.iconst 2, 1) := by decide +kernel
theorem dX7_tellLine_153 : decode cX7_tellLine 153 = .ok (.aaload, 1) := by decide +kernel
theorem dX7_tellLine_154 : decode cX7_tellLine 154 = .ok (.aload_n 0, 1) := by decide +kernel
theorem dX7_tellLine_155 : decode cX7_tellLine 155 = .ok (.getfield 35, 3) := by decide +kernel
theorem dX7_tellLine_158 : decode cX7_tellLine 158 = .ok (.iconst 0, 1) := by decide +kernel
theorem dX7_tellLine_159 : decode cX7_tellLine 159 = .ok (.iaload, 1) := by decide +kernel
theorem dX7_tellLine_160 : decode cX7_tellLine 160 = .ok (.aload_n 0, 1) := by decide +kernel
theorem dX7_tellLine_161 : decode cX7_tellLine 161 = .ok (.getfield 35, 3) := by decide +kernel
theorem dX7_tellLine_164 : decode cX7_tellLine 164 = .ok (.iconst 1, 1) := by decide +kernel
theorem dX7_tellLine_165 : decode cX7_tellLine 165 = .ok (.iaload, 1) := by decide +kernel
theorem dX7_tellLine_166 : decode cX7_tellLine 166 = .ok (.aload_n 0, 1) := by decide +kernel
theorem dX7_tellLine_167 : decode cX7_tellLine 167 = .ok (.getfield 35, 3) := by decide +kernel
theorem dX7_tellLine_170 : decode cX7_tellLine 170 = .ok (.iconst 2, 1) := by decide +kernel
theorem dX7_tellLine_171 : decode cX7_tellLine 171 = .ok (.iaload, 1) := by decide +kernel
theorem dX7_tellLine_172 : decode cX7_tellLine 172 = .ok (.aload_n 0, 1) := by decide +kernel
theorem dX7_tellLine_173 : decode cX7_tellLine 173 = .ok (.getfield 35, 3) := by decide +kernel
theorem dX7_tellLine_176 : decode cX7_tellLine 176 = .ok (.iconst 3, 1) := by decide +kernel
theorem dX7_tellLine_177 : decode cX7_tellLine 177 = .ok (.iaload, 1) := by decide +kernel
theorem dX7_tellLine_178 : decode cX7_tellLine 178 = .ok (.invokevirtual 122, 3) := by decide +kernel
theorem dX7_tellLine_181 : decode cX7_tellLine 181 = .ok (.return_, 1) := by decide +kernel
theorem q_775 : Cond.methodLink RX7 122 yX8_add ∈ zTB := zmem 775 (by decide +kernel) rfl
theorem q_776 : Cond.instanceMethod yX8_add ∈ zTB := zmem 776 (by decide +kernel) rfl
theorem q_777 : Cond.selects RX8 yX8_add yX8_add ∈ zTB := zmem 777 (by decide +kernel) rfl
theorem q_778 : Cond.code yX8_add cX8_add 5 none ∈ zTB := zmem 778 (by decide +kernel) rfl
theorem k_RX7_122 : zLv RX7 122 RX8 yX8_add cX8_add 5 none 4 := ⟨⟨q_775, q_776, q_777, q_133, q_778⟩, rfl, ⟨by decide, by decide⟩, by decide +kernel⟩
theorem q_770 : Cond.methodLink RX7 119 yX0_addPay ∈ zTB := zmem 770 (by decide +kernel) rfl
theorem q_771 : Cond.instanceMethod yX0_addPay ∈ zTB := zmem 771 (by decide +kernel) rfl
theorem q_772 : Cond.selects RX0 yX0_addPay yX0_addPay ∈ zTB := zmem 772 (by decide +kernel) rfl
theorem q_773 : Cond.code yX0_addPay cX0_addPay 5 none ∈ zTB := zmem 773 (by decide +kernel) rfl
theorem k_RX7_119 : zLv RX7 119 RX0 yX0_addPay cX0_addPay 5 none 3 := ⟨⟨q_770, q_771, q_772, q_132, q_773⟩, rfl, ⟨by decide, by decide⟩, by decide +kernel⟩
theorem q_766 : Cond.methodLink RX7 115 yX0_addBlock ∈ zTB := zmem 766 (by decide +kernel) rfl
theorem q_767 : Cond.instanceMethod yX0_addBlock ∈ zTB := zmem 767 (by decide +kernel) rfl
theorem q_768 : Cond.selects RX0 yX0_addBlock yX0_addBlock ∈ zTB := zmem 768 (by decide +kernel) rfl
theorem q_769 : Cond.code yX0_addBlock cX0_addBlock 4 none ∈ zTB := zmem 769 (by decide +kernel) rfl
theorem k_RX7_115 : zLv RX7 115 RX0 yX0_addBlock cX0_addBlock 4 none 3 := ⟨⟨q_766, q_767, q_768, q_132, q_769⟩, rfl, ⟨by decide, by decide⟩, by decide +kernel⟩
theorem q_762 : Cond.methodLink RX7 112 yX6_tell ∈ zTB := zmem 762 (by decide +kernel) rfl
theorem q_763 : Cond.instanceMethod yX6_tell ∈ zTB := zmem 763 (by decide +kernel) rfl
theorem q_764 : Cond.selects RX6 yX6_tell yX6_tell ∈ zTB := zmem 764 (by decide +kernel) rfl
theorem q_765 : Cond.code yX6_tell cX6_tell 3 none ∈ zTB := zmem 765 (by decide +kernel) rfl
theorem k_RX7_112 : zLv RX7 112 RX6 yX6_tell cX6_tell 3 none 2 := ⟨⟨q_762, q_763, q_764, q_131, q_765⟩, rfl, ⟨by decide, by decide⟩, by decide +kernel⟩
def F_X7_tellLine (i j : Nat) (X Y : Nat → Int → Int) (R : Nat → Int → Option Nat) (a : Int) (b : Int) : Prop := (∀ i j, rI (X i j)) → (∀ i j, rL (Y i j)) → ((¬ a = 0) → (((¬ a = 1) → (((¬ a = 1) → (((¬ a = 2) → (((¬ a = 3) → ((oRw X (i + 16) (rrN (2))) ∧ (∀ X7 : Nat → Int → Int, (∀ i j, rI (X7 i j)) → ((X7) = cRw X (i + 16) ((X (i + 11) (0))) ((X (i + 11) (1))) ((X (i + 11) (2))) ((X (i + 11) (3)))) → (tlK X (X7) i ∧ rdV (X7) i ∧ ∀ ts, toldR X i (a) ts → toldR (X7) i (a) (tlN (a) (b) (fun k => X (i + 11) k) ts))))) ∧ ((¬ (¬ a = 3)) → ((oRw X (i + 14) (rrN (1))) ∧ (∀ X9 : Nat → Int → Int, (∀ i j, rI (X9 i j)) → ((X9) = cRw X (i + 14) ((X (i + 11) (0))) ((X (i + 11) (1))) ((0 : Int)) ((0 : Int))) → (tlK X (X9) i ∧ rdV (X9) i ∧ ∀ ts, toldR X i (a) ts → toldR (X9) i (a) (tlN (a) (b) (fun k => X (i + 11) k) ts))))))) ∧ ((¬ (¬ a = 2)) → ((oRw X (i + 12) (rrN (0))) ∧ (∀ X11 : Nat → Int → Int, (∀ i j, rI (X11 i j)) → ((X11) = cRw X (i + 12) (b) ((X (i + 11) (0))) ((0 : Int)) ((0 : Int))) → (tlK X (X11) i ∧ rdV (X11) i ∧ ∀ ts, toldR X i (a) ts → toldR (X11) i (a) (tlN (a) (b) (fun k => X (i + 11) k) ts))))))) ∧ ((¬ (¬ a = 1)) → (((0 ≤ X (i + 3) 0 ∧ X (i + 3) 0 < 15) ∧ 0 ≤ X (i + 7) (X (i + 3) 0)) ∧ (∀ X13 : Nat → Int → Int, (∀ i j, rI (X13 i j)) → ((X13) = cPy X (i + 3) ((X (i + 11) (0))) ((X (i + 11) (1))) ((X (i + 11) (2)))) → (tlK X (X13) i ∧ rdV (X13) i ∧ ∀ ts, toldR X i (a) ts → toldR (X13) i (a) (tlN (a) (b) (fun k => X (i + 11) k) ts))))))) ∧ ((¬ (¬ a = 1)) → (((¬ b = 0) → (((¬ a = 1) → (((¬ a = 2) → (((¬ a = 3) → ((oRw X (i + 16) (rrN (2))) ∧ (∀ X19 : Nat → Int → Int, (∀ i j, rI (X19 i j)) → ((X19) = cRw X (i + 16) ((X (i + 11) (0))) ((X (i + 11) (1))) ((X (i + 11) (2))) ((X (i + 11) (3)))) → (tlK X (X19) i ∧ rdV (X19) i ∧ ∀ ts, toldR X i (a) ts → toldR (X19) i (a) (tlN (a) (b) (fun k => X (i + 11) k) ts))))) ∧ ((¬ (¬ a = 3)) → ((oRw X (i + 14) (rrN (1))) ∧ (∀ X21 : Nat → Int → Int, (∀ i j, rI (X21 i j)) → ((X21) = cRw X (i + 14) ((X (i + 11) (0))) ((X (i + 11) (1))) ((0 : Int)) ((0 : Int))) → (tlK X (X21) i ∧ rdV (X21) i ∧ ∀ ts, toldR X i (a) ts → toldR (X21) i (a) (tlN (a) (b) (fun k => X (i + 11) k) ts))))))) ∧ ((¬ (¬ a = 2)) → ((oRw X (i + 12) (rrN (0))) ∧ (∀ X23 : Nat → Int → Int, (∀ i j, rI (X23 i j)) → ((X23) = cRw X (i + 12) (b) ((X (i + 11) (0))) ((0 : Int)) ((0 : Int))) → (tlK X (X23) i ∧ rdV (X23) i ∧ ∀ ts, toldR X i (a) ts → toldR (X23) i (a) (tlN (a) (b) (fun k => X (i + 11) k) ts))))))) ∧ ((¬ (¬ a = 1)) → (((0 ≤ X (i + 3) 0 ∧ X (i + 3) 0 < 15) ∧ 0 ≤ X (i + 7) (X (i + 3) 0)) ∧ (∀ X25 : Nat → Int → Int, (∀ i j, rI (X25 i j)) → ((X25) = cPy X (i + 3) ((X (i + 11) (0))) ((X (i + 11) (1))) ((X (i + 11) (2)))) → (tlK X (X25) i ∧ rdV (X25) i ∧ ∀ ts, toldR X i (a) ts → toldR (X25) i (a) (tlN (a) (b) (fun k => X (i + 11) k) ts))))))) ∧ ((¬ (¬ b = 0)) → ((0 ≤ X (i + 3) 0 ∧ X (i + 3) 0 < 15) ∧ (∀ X27 : Nat → Int → Int, (∀ i j, rI (X27 i j)) → ((X27) = cBk X (i + 3) ((X (i + 11) (0))) ((X (i + 11) (1))) ((X (i + 11) (2)))) → (tlK X (X27) i ∧ rdV (X27) i ∧ ∀ ts, toldR X i (a) ts → toldR (X27) i (a) (tlN (a) (b) (fun k => X (i + 11) k) ts))))))))) ∧ ((¬ (¬ a = 0)) → ((0 ≤ X (i + 1) 6 ∧ X (i + 1) 6 ≤ 6) ∧ (∀ X29 : Nat → Int → Int, (∀ i j, rI (X29 i j)) → ((X29) = cNt X (i + 1) (b) ((X (i + 11) (0)))) → (tlK X (X29) i ∧ rdV (X29) i ∧ ∀ ts, toldR X i (a) ts → toldR (X29) i (a) (tlN (a) (b) (fun k => X (i + 11) k) ts)))))
set_option maxHeartbeats 4000000 in
set_option maxRecDepth 100000 in
theorem w_X7_tellLine {l : Launch} {D : va_G} {cy : Nat → ClassId} {bs N : Nat} {sa : Nat → Nat} {kd len : Nat → Nat} {X Y : Nat → Int → Int} {R : Nat → Int → Option Nat} {i j : Nat} (hC : zRd1 N kd len R i j) (a : Int) (ha : rI a) (b : Int) (hb : rI b) (hF : F_X7_tellLine i j X Y R a b) : Met l yX7_tellLine (.code yX7_tellLine cX7_tellLine 3 none :: zTB) (zRm 2 47) (zPc D cy bs sa N kd len X Y R [.ref (bs + (i)), .int (zI (a)), .int (zI (b))]) (zQv D cy bs N kd len (fun st => st.2.1 = Y ∧ st.2.2 = R ∧ (tlK X (st.1) i ∧ rdV (st.1) i ∧ ∀ ts, toldR X i (a) ts → toldR (st.1) i (a) (tlN (a) (b) (fun k => X (i + 11) k) ts)))) 0 0 (zA bs) := by
  refine zstart (by decide) (Nat.le_of_ble_eq_true rfl) ?_
  intro p e s m args below meth c ls C hE hH hr hlk hnm hl hargs
  have hF := hF hH.2.2.1 hH.2.2.2
  have hS : va_S (zA bs) s.heap s.heap [] := va_S.rf
  have hl : lv_has ls 3 [(0, .ref (bs + (i))), (1, .int (zI (a))), (2, .int (zI (b)))] := hl
  refine lv_iload_n C.1 C.2.1 dX7_tellLine_0 rfl (lv_at hl 1 rfl) ?_
  refine zd_if_ne C ha 21 dX7_tellLine_1 (by decide) (fun c1 => ?_) (fun c1 => ?_)
  · have hF := hF.1 c1
    refine lv_iload_n C.1 C.2.1 dX7_tellLine_21 rfl (lv_at hl 1 rfl) ?_
    refine zd_iconst C dX7_tellLine_22 ?_
    refine zd_icmp_ne C ha (by decide) 58 dX7_tellLine_23 (by decide) (fun c2 => ?_) (fun c2 => ?_)
    · have hF := hF.1 c2
      refine lv_iload_n C.1 C.2.1 dX7_tellLine_58 rfl (lv_at hl 1 rfl) ?_
      refine zd_iconst C dX7_tellLine_59 ?_
      refine zd_icmp_ne C ha (by decide) 91 dX7_tellLine_60 (by decide) (fun c3 => ?_) (fun c3 => ?_)
      · have hF := hF.1 c3
        refine lv_iload_n C.1 C.2.1 dX7_tellLine_91 rfl (lv_at hl 1 rfl) ?_
        refine zd_iconst C dX7_tellLine_92 ?_
        refine zd_icmp_ne C ha (by decide) 117 dX7_tellLine_93 (by decide) (fun c4 => ?_) (fun c4 => ?_)
        · have hF := hF.1 c4
          refine lv_iload_n C.1 C.2.1 dX7_tellLine_117 rfl (lv_at hl 1 rfl) ?_
          refine zd_iconst C dX7_tellLine_118 ?_
          refine zd_icmp_ne C ha (by decide) 148 dX7_tellLine_119 (by decide) (fun c5 => ?_) (fun c5 => ?_)
          · have hF := hF.1 c5
            refine lv_aload_n C.1 C.2.1 dX7_tellLine_148 rfl (lv_at hl 0 rfl) ?_
            refine zg7_2 C hH (zRr_n0 hC.1) (zRr_k0 hC.1) q_326 (zRr_9 hC.1).2.2 dX7_tellLine_149 ?_
            refine zd_iconst C dX7_tellLine_152 ?_
            refine zd_aaldr C hH (zRr_n9 hC.1) 7 rfl rfl (by rw [(zRr_9 hC.1).1]; rfl) (by decide) (by rw [zRr_l9 hC.1]; decide) (by rw [zRr_l9 hC.1]; decide) (zRr_z (z := 2) hC.1 (by decide) (by decide)).1.1 dX7_tellLine_153 ?_
            refine lv_aload_n C.1 C.2.1 dX7_tellLine_154 rfl (lv_at hl 0 rfl) ?_
            refine zg7_11 C hH (zRr_n0 hC.1) (zRr_k0 hC.1) q_338 (zRr_11 hC.1).2.2 dX7_tellLine_155 ?_
            refine zd_iconst C dX7_tellLine_158 ?_
            refine zd_iald C hH (zRr_n11 hC.1) (zRr_11 hC.1).1 (by decide) (by rw [zRr_l11 hC.1]; decide) (by rw [zRr_l11 hC.1]; decide) dX7_tellLine_159 ?_
            refine lv_aload_n C.1 C.2.1 dX7_tellLine_160 rfl (lv_at hl 0 rfl) ?_
            refine zg7_11 C hH (zRr_n0 hC.1) (zRr_k0 hC.1) q_338 (zRr_11 hC.1).2.2 dX7_tellLine_161 ?_
            refine zd_iconst C dX7_tellLine_164 ?_
            refine zd_iald C hH (zRr_n11 hC.1) (zRr_11 hC.1).1 (by decide) (by rw [zRr_l11 hC.1]; decide) (by rw [zRr_l11 hC.1]; decide) dX7_tellLine_165 ?_
            refine lv_aload_n C.1 C.2.1 dX7_tellLine_166 rfl (lv_at hl 0 rfl) ?_
            refine zg7_11 C hH (zRr_n0 hC.1) (zRr_k0 hC.1) q_338 (zRr_11 hC.1).2.2 dX7_tellLine_167 ?_
            refine zd_iconst C dX7_tellLine_170 ?_
            refine zd_iald C hH (zRr_n11 hC.1) (zRr_11 hC.1).1 (by decide) (by rw [zRr_l11 hC.1]; decide) (by rw [zRr_l11 hC.1]; decide) dX7_tellLine_171 ?_
            refine lv_aload_n C.1 C.2.1 dX7_tellLine_172 rfl (lv_at hl 0 rfl) ?_
            refine zg7_11 C hH (zRr_n0 hC.1) (zRr_k0 hC.1) q_338 (zRr_11 hC.1).2.2 dX7_tellLine_173 ?_
            refine zd_iconst C dX7_tellLine_176 ?_
            refine zd_iald C hH (zRr_n11 hC.1) (zRr_11 hC.1).1 (by decide) (by rw [zRr_l11 hC.1]; decide) (by rw [zRr_l11 hC.1]; decide) dX7_tellLine_177 ?_
            obtain ⟨o6, hF⟩ := hF
            refine zgov (zrunV (As := [.int (zI (X (i + 11) (0))), .int (zI (X (i + 11) (1))), .int (zI (X (i + 11) (2))), .int (zI (X (i + 11) (3)))]) (rest := []) C hE hH hS hl.1 (c_X8_add (l := l) (zRr_z (z := 2) hC.1 (by decide) (by decide)).1.2 (zRr_z (z := 2) hC.1 (by decide) (by decide)).2 (X (i + 11) (0)) (hH.2.2.1 _ _) (X (i + 11) (1)) (hH.2.2.1 _ _) (X (i + 11) (2)) (hH.2.2.1 _ _) (X (i + 11) (3)) (hH.2.2.1 _ _) o6) k_RX7_122 ⟨Nat.le_of_ble_eq_true rfl, Nat.le_of_ble_eq_true rfl⟩ (zRows_n0 (zRr_z (z := 2) hC.1 (by decide) (by decide)).1.2) (zRows_k0 (zRr_z (z := 2) hC.1 (by decide) (by decide)).1.2) rfl rfl rfl (Nat.le_of_ble_eq_true rfl) dX7_tellLine_178 ⟨Nat.zero_le _, Nat.zero_le _⟩) hS (fun X7 Yq Rq H locs hq hH hS => ?_)
            obtain ⟨h9Y, h9R, hq⟩ := hq
            dsimp only at h9Y h9R
            rw [h9Y, h9R] at hH
            have hF := hF X7 hH.2.2.1 hq
            exact zd_vret C hr hlk hH hS (⟨rfl, rfl, hF⟩) dX7_tellLine_181
          · have hF := hF.2 c5
            refine lv_aload_n C.1 C.2.1 dX7_tellLine_122 rfl (lv_at hl 0 rfl) ?_
            refine zg7_2 C hH (zRr_n0 hC.1) (zRr_k0 hC.1) q_326 (zRr_9 hC.1).2.2 dX7_tellLine_123 ?_
            refine zd_iconst C dX7_tellLine_126 ?_
            refine zd_aaldr C hH (zRr_n9 hC.1) 7 rfl rfl (by rw [(zRr_9 hC.1).1]; rfl) (by decide) (by rw [zRr_l9 hC.1]; decide) (by rw [zRr_l9 hC.1]; decide) (zRr_z (z := 1) hC.1 (by decide) (by decide)).1.1 dX7_tellLine_127 ?_
            refine lv_aload_n C.1 C.2.1 dX7_tellLine_128 rfl (lv_at hl 0 rfl) ?_
            refine zg7_11 C hH (zRr_n0 hC.1) (zRr_k0 hC.1) q_338 (zRr_11 hC.1).2.2 dX7_tellLine_129 ?_
            refine zd_iconst C dX7_tellLine_132 ?_
            refine zd_iald C hH (zRr_n11 hC.1) (zRr_11 hC.1).1 (by decide) (by rw [zRr_l11 hC.1]; decide) (by rw [zRr_l11 hC.1]; decide) dX7_tellLine_133 ?_
            refine lv_aload_n C.1 C.2.1 dX7_tellLine_134 rfl (lv_at hl 0 rfl) ?_
            refine zg7_11 C hH (zRr_n0 hC.1) (zRr_k0 hC.1) q_338 (zRr_11 hC.1).2.2 dX7_tellLine_135 ?_
            refine zd_iconst C dX7_tellLine_138 ?_
            refine zd_iald C hH (zRr_n11 hC.1) (zRr_11 hC.1).1 (by decide) (by rw [zRr_l11 hC.1]; decide) (by rw [zRr_l11 hC.1]; decide) dX7_tellLine_139 ?_
            refine zd_iconst C dX7_tellLine_140 ?_
            refine zd_iconst C dX7_tellLine_141 ?_
            obtain ⟨o8, hF⟩ := hF
            refine zgov (zrunV (As := [.int (zI (X (i + 11) (0))), .int (zI (X (i + 11) (1))), .int (zI (0)), .int (zI (0))]) (rest := []) C hE hH hS hl.1 (c_X8_add (l := l) (zRr_z (z := 1) hC.1 (by decide) (by decide)).1.2 (zRr_z (z := 1) hC.1 (by decide) (by decide)).2 (X (i + 11) (0)) (hH.2.2.1 _ _) (X (i + 11) (1)) (hH.2.2.1 _ _) (0) (by decide) (0) (by decide) o8) k_RX7_122 ⟨Nat.le_of_ble_eq_true rfl, Nat.le_of_ble_eq_true rfl⟩ (zRows_n0 (zRr_z (z := 1) hC.1 (by decide) (by decide)).1.2) (zRows_k0 (zRr_z (z := 1) hC.1 (by decide) (by decide)).1.2) rfl rfl rfl (Nat.le_of_ble_eq_true rfl) dX7_tellLine_142 ⟨Nat.zero_le _, Nat.zero_le _⟩) hS (fun X9 Yq Rq H locs hq hH hS => ?_)
            obtain ⟨h9Y, h9R, hq⟩ := hq
            dsimp only at h9Y h9R
            rw [h9Y, h9R] at hH
            have hF := hF X9 hH.2.2.1 hq
            refine lv_goto (tgt := 181) C.1 C.2.1 dX7_tellLine_145 (by decide) ?_
            exact zd_vret C hr hlk hH hS (⟨rfl, rfl, hF⟩) dX7_tellLine_181
        · have hF := hF.2 c4
          refine lv_aload_n C.1 C.2.1 dX7_tellLine_96 rfl (lv_at hl 0 rfl) ?_
          refine zg7_2 C hH (zRr_n0 hC.1) (zRr_k0 hC.1) q_326 (zRr_9 hC.1).2.2 dX7_tellLine_97 ?_
          refine zd_iconst C dX7_tellLine_100 ?_
          refine zd_aaldr C hH (zRr_n9 hC.1) 7 rfl rfl (by rw [(zRr_9 hC.1).1]; rfl) (by decide) (by rw [zRr_l9 hC.1]; decide) (by rw [zRr_l9 hC.1]; decide) (zRr_z (z := 0) hC.1 (by decide) (by decide)).1.1 dX7_tellLine_101 ?_
          refine lv_iload_n C.1 C.2.1 dX7_tellLine_102 rfl (lv_at hl 2 rfl) ?_
          refine lv_aload_n C.1 C.2.1 dX7_tellLine_103 rfl (lv_at hl 0 rfl) ?_
          refine zg7_11 C hH (zRr_n0 hC.1) (zRr_k0 hC.1) q_338 (zRr_11 hC.1).2.2 dX7_tellLine_104 ?_
          refine zd_iconst C dX7_tellLine_107 ?_
          refine zd_iald C hH (zRr_n11 hC.1) (zRr_11 hC.1).1 (by decide) (by rw [zRr_l11 hC.1]; decide) (by rw [zRr_l11 hC.1]; decide) dX7_tellLine_108 ?_
          refine zd_iconst C dX7_tellLine_109 ?_
          refine zd_iconst C dX7_tellLine_110 ?_
          obtain ⟨o10, hF⟩ := hF
          refine zgov (zrunV (As := [.int (zI (b)), .int (zI (X (i + 11) (0))), .int (zI (0)), .int (zI (0))]) (rest := []) C hE hH hS hl.1 (c_X8_add (l := l) (zRr_z (z := 0) hC.1 (by decide) (by decide)).1.2 (zRr_z (z := 0) hC.1 (by decide) (by decide)).2 (b) hb (X (i + 11) (0)) (hH.2.2.1 _ _) (0) (by decide) (0) (by decide) o10) k_RX7_122 ⟨Nat.le_of_ble_eq_true rfl, Nat.le_of_ble_eq_true rfl⟩ (zRows_n0 (zRr_z (z := 0) hC.1 (by decide) (by decide)).1.2) (zRows_k0 (zRr_z (z := 0) hC.1 (by decide) (by decide)).1.2) rfl rfl rfl (Nat.le_of_ble_eq_true rfl) dX7_tellLine_111 ⟨Nat.zero_le _, Nat.zero_le _⟩) hS (fun X11 Yq Rq H locs hq hH hS => ?_)
          obtain ⟨h9Y, h9R, hq⟩ := hq
          dsimp only at h9Y h9R
          rw [h9Y, h9R] at hH
          have hF := hF X11 hH.2.2.1 hq
          refine lv_goto (tgt := 181) C.1 C.2.1 dX7_tellLine_114 (by decide) ?_
          exact zd_vret C hr hlk hH hS (⟨rfl, rfl, hF⟩) dX7_tellLine_181
      · have hF := hF.2 c3
        refine lv_aload_n C.1 C.2.1 dX7_tellLine_63 rfl (lv_at hl 0 rfl) ?_
        refine zg7_1 C hH (zRr_n0 hC.1) (zRr_k0 hC.1) q_324 (zRr_bl hC.1).1 dX7_tellLine_64 ?_
        refine lv_aload_n C.1 C.2.1 dX7_tellLine_67 rfl (lv_at hl 0 rfl) ?_
        refine zg7_11 C hH (zRr_n0 hC.1) (zRr_k0 hC.1) q_338 (zRr_11 hC.1).2.2 dX7_tellLine_68 ?_
        refine zd_iconst C dX7_tellLine_71 ?_
        refine zd_iald C hH (zRr_n11 hC.1) (zRr_11 hC.1).1 (by decide) (by rw [zRr_l11 hC.1]; decide) (by rw [zRr_l11 hC.1]; decide) dX7_tellLine_72 ?_
        refine lv_aload_n C.1 C.2.1 dX7_tellLine_73 rfl (lv_at hl 0 rfl) ?_
        refine zg7_11 C hH (zRr_n0 hC.1) (zRr_k0 hC.1) q_338 (zRr_11 hC.1).2.2 dX7_tellLine_74 ?_
        refine zd_iconst C dX7_tellLine_77 ?_
        refine zd_iald C hH (zRr_n11 hC.1) (zRr_11 hC.1).1 (by decide) (by rw [zRr_l11 hC.1]; decide) (by rw [zRr_l11 hC.1]; decide) dX7_tellLine_78 ?_
        refine lv_aload_n C.1 C.2.1 dX7_tellLine_79 rfl (lv_at hl 0 rfl) ?_
        refine zg7_11 C hH (zRr_n0 hC.1) (zRr_k0 hC.1) q_338 (zRr_11 hC.1).2.2 dX7_tellLine_80 ?_
        refine zd_iconst C dX7_tellLine_83 ?_
        refine zd_iald C hH (zRr_n11 hC.1) (zRr_11 hC.1).1 (by decide) (by rw [zRr_l11 hC.1]; decide) (by rw [zRr_l11 hC.1]; decide) dX7_tellLine_84 ?_
        obtain ⟨o12, hF⟩ := hF
        refine zgov (zrunV (As := [.int (zI (X (i + 11) (0))), .int (zI (X (i + 11) (1))), .int (zI (X (i + 11) (2)))]) (rest := []) C hE hH hS hl.1 (c_X0_addPay (l := l) (zRr_bl hC.1).2 (X (i + 11) (0)) (hH.2.2.1 _ _) (X (i + 11) (1)) (hH.2.2.1 _ _) (X (i + 11) (2)) (hH.2.2.1 _ _) o12) k_RX7_119 ⟨Nat.le_of_ble_eq_true rfl, Nat.le_of_ble_eq_true rfl⟩ (zBlocks_n0 (zRr_bl hC.1).2) (zBlocks_k0 (zRr_bl hC.1).2) rfl rfl rfl (Nat.le_of_ble_eq_true rfl) dX7_tellLine_85 ⟨Nat.zero_le _, Nat.zero_le _⟩) hS (fun X13 Yq Rq H locs hq hH hS => ?_)
        obtain ⟨h9Y, h9R, hq⟩ := hq
        dsimp only at h9Y h9R
        rw [h9Y, h9R] at hH
        have hF := hF X13 hH.2.2.1 hq
        refine lv_goto (tgt := 181) C.1 C.2.1 dX7_tellLine_88 (by decide) ?_
        exact zd_vret C hr hlk hH hS (⟨rfl, rfl, hF⟩) dX7_tellLine_181
    · have hF := hF.2 c2
      refine lv_iload_n C.1 C.2.1 dX7_tellLine_26 rfl (lv_at hl 2 rfl) ?_
      refine zd_if_ne C hb 58 dX7_tellLine_27 (by decide) (fun c14 => ?_) (fun c14 => ?_)
      · have hF := hF.1 c14
        refine lv_iload_n C.1 C.2.1 dX7_tellLine_58 rfl (lv_at hl 1 rfl) ?_
        refine zd_iconst C dX7_tellLine_59 ?_
        refine zd_icmp_ne C ha (by decide) 91 dX7_tellLine_60 (by decide) (fun c15 => ?_) (fun c15 => ?_)
        · have hF := hF.1 c15
          refine lv_iload_n C.1 C.2.1 dX7_tellLine_91 rfl (lv_at hl 1 rfl) ?_
          refine zd_iconst C dX7_tellLine_92 ?_
          refine zd_icmp_ne C ha (by decide) 117 dX7_tellLine_93 (by decide) (fun c16 => ?_) (fun c16 => ?_)
          · have hF := hF.1 c16
            refine lv_iload_n C.1 C.2.1 dX7_tellLine_117 rfl (lv_at hl 1 rfl) ?_
            refine zd_iconst C dX7_tellLine_118 ?_
            refine zd_icmp_ne C ha (by decide) 148 dX7_tellLine_119 (by decide) (fun c17 => ?_) (fun c17 => ?_)
            · have hF := hF.1 c17
              refine lv_aload_n C.1 C.2.1 dX7_tellLine_148 rfl (lv_at hl 0 rfl) ?_
              refine zg7_2 C hH (zRr_n0 hC.1) (zRr_k0 hC.1) q_326 (zRr_9 hC.1).2.2 dX7_tellLine_149 ?_
              refine zd_iconst C dX7_tellLine_152 ?_
              refine zd_aaldr C hH (zRr_n9 hC.1) 7 rfl rfl (by rw [(zRr_9 hC.1).1]; rfl) (by decide) (by rw [zRr_l9 hC.1]; decide) (by rw [zRr_l9 hC.1]; decide) (zRr_z (z := 2) hC.1 (by decide) (by decide)).1.1 dX7_tellLine_153 ?_
              refine lv_aload_n C.1 C.2.1 dX7_tellLine_154 rfl (lv_at hl 0 rfl) ?_
              refine zg7_11 C hH (zRr_n0 hC.1) (zRr_k0 hC.1) q_338 (zRr_11 hC.1).2.2 dX7_tellLine_155 ?_
              refine zd_iconst C dX7_tellLine_158 ?_
              refine zd_iald C hH (zRr_n11 hC.1) (zRr_11 hC.1).1 (by decide) (by rw [zRr_l11 hC.1]; decide) (by rw [zRr_l11 hC.1]; decide) dX7_tellLine_159 ?_
              refine lv_aload_n C.1 C.2.1 dX7_tellLine_160 rfl (lv_at hl 0 rfl) ?_
              refine zg7_11 C hH (zRr_n0 hC.1) (zRr_k0 hC.1) q_338 (zRr_11 hC.1).2.2 dX7_tellLine_161 ?_
              refine zd_iconst C dX7_tellLine_164 ?_
              refine zd_iald C hH (zRr_n11 hC.1) (zRr_11 hC.1).1 (by decide) (by rw [zRr_l11 hC.1]; decide) (by rw [zRr_l11 hC.1]; decide) dX7_tellLine_165 ?_
              refine lv_aload_n C.1 C.2.1 dX7_tellLine_166 rfl (lv_at hl 0 rfl) ?_
              refine zg7_11 C hH (zRr_n0 hC.1) (zRr_k0 hC.1) q_338 (zRr_11 hC.1).2.2 dX7_tellLine_167 ?_
              refine zd_iconst C dX7_tellLine_170 ?_
              refine zd_iald C hH (zRr_n11 hC.1) (zRr_11 hC.1).1 (by decide) (by rw [zRr_l11 hC.1]; decide) (by rw [zRr_l11 hC.1]; decide) dX7_tellLine_171 ?_
              refine lv_aload_n C.1 C.2.1 dX7_tellLine_172 rfl (lv_at hl 0 rfl) ?_
              refine zg7_11 C hH (zRr_n0 hC.1) (zRr_k0 hC.1) q_338 (zRr_11 hC.1).2.2 dX7_tellLine_173 ?_
              refine zd_iconst C dX7_tellLine_176 ?_
              refine zd_iald C hH (zRr_n11 hC.1) (zRr_11 hC.1).1 (by decide) (by rw [zRr_l11 hC.1]; decide) (by rw [zRr_l11 hC.1]; decide) dX7_tellLine_177 ?_
              obtain ⟨o18, hF⟩ := hF
              refine zgov (zrunV (As := [.int (zI (X (i + 11) (0))), .int (zI (X (i + 11) (1))), .int (zI (X (i + 11) (2))), .int (zI (X (i + 11) (3)))]) (rest := []) C hE hH hS hl.1 (c_X8_add (l := l) (zRr_z (z := 2) hC.1 (by decide) (by decide)).1.2 (zRr_z (z := 2) hC.1 (by decide) (by decide)).2 (X (i + 11) (0)) (hH.2.2.1 _ _) (X (i + 11) (1)) (hH.2.2.1 _ _) (X (i + 11) (2)) (hH.2.2.1 _ _) (X (i + 11) (3)) (hH.2.2.1 _ _) o18) k_RX7_122 ⟨Nat.le_of_ble_eq_true rfl, Nat.le_of_ble_eq_true rfl⟩ (zRows_n0 (zRr_z (z := 2) hC.1 (by decide) (by decide)).1.2) (zRows_k0 (zRr_z (z := 2) hC.1 (by decide) (by decide)).1.2) rfl rfl rfl (Nat.le_of_ble_eq_true rfl) dX7_tellLine_178 ⟨Nat.zero_le _, Nat.zero_le _⟩) hS (fun X19 Yq Rq H locs hq hH hS => ?_)
              obtain ⟨h9Y, h9R, hq⟩ := hq
              dsimp only at h9Y h9R
              rw [h9Y, h9R] at hH
              have hF := hF X19 hH.2.2.1 hq
              exact zd_vret C hr hlk hH hS (⟨rfl, rfl, hF⟩) dX7_tellLine_181
            · have hF := hF.2 c17
              refine lv_aload_n C.1 C.2.1 dX7_tellLine_122 rfl (lv_at hl 0 rfl) ?_
              refine zg7_2 C hH (zRr_n0 hC.1) (zRr_k0 hC.1) q_326 (zRr_9 hC.1).2.2 dX7_tellLine_123 ?_
              refine zd_iconst C dX7_tellLine_126 ?_
              refine zd_aaldr C hH (zRr_n9 hC.1) 7 rfl rfl (by rw [(zRr_9 hC.1).1]; rfl) (by decide) (by rw [zRr_l9 hC.1]; decide) (by rw [zRr_l9 hC.1]; decide) (zRr_z (z := 1) hC.1 (by decide) (by decide)).1.1 dX7_tellLine_127 ?_
              refine lv_aload_n C.1 C.2.1 dX7_tellLine_128 rfl (lv_at hl 0 rfl) ?_
              refine zg7_11 C hH (zRr_n0 hC.1) (zRr_k0 hC.1) q_338 (zRr_11 hC.1).2.2 dX7_tellLine_129 ?_
              refine zd_iconst C dX7_tellLine_132 ?_
              refine zd_iald C hH (zRr_n11 hC.1) (zRr_11 hC.1).1 (by decide) (by rw [zRr_l11 hC.1]; decide) (by rw [zRr_l11 hC.1]; decide) dX7_tellLine_133 ?_
              refine lv_aload_n C.1 C.2.1 dX7_tellLine_134 rfl (lv_at hl 0 rfl) ?_
              refine zg7_11 C hH (zRr_n0 hC.1) (zRr_k0 hC.1) q_338 (zRr_11 hC.1).2.2 dX7_tellLine_135 ?_
              refine zd_iconst C dX7_tellLine_138 ?_
              refine zd_iald C hH (zRr_n11 hC.1) (zRr_11 hC.1).1 (by decide) (by rw [zRr_l11 hC.1]; decide) (by rw [zRr_l11 hC.1]; decide) dX7_tellLine_139 ?_
              refine zd_iconst C dX7_tellLine_140 ?_
              refine zd_iconst C dX7_tellLine_141 ?_
              obtain ⟨o20, hF⟩ := hF
              refine zgov (zrunV (As := [.int (zI (X (i + 11) (0))), .int (zI (X (i + 11) (1))), .int (zI (0)), .int (zI (0))]) (rest := []) C hE hH hS hl.1 (c_X8_add (l := l) (zRr_z (z := 1) hC.1 (by decide) (by decide)).1.2 (zRr_z (z := 1) hC.1 (by decide) (by decide)).2 (X (i + 11) (0)) (hH.2.2.1 _ _) (X (i + 11) (1)) (hH.2.2.1 _ _) (0) (by decide) (0) (by decide) o20) k_RX7_122 ⟨Nat.le_of_ble_eq_true rfl, Nat.le_of_ble_eq_true rfl⟩ (zRows_n0 (zRr_z (z := 1) hC.1 (by decide) (by decide)).1.2) (zRows_k0 (zRr_z (z := 1) hC.1 (by decide) (by decide)).1.2) rfl rfl rfl (Nat.le_of_ble_eq_true rfl) dX7_tellLine_142 ⟨Nat.zero_le _, Nat.zero_le _⟩) hS (fun X21 Yq Rq H locs hq hH hS => ?_)
              obtain ⟨h9Y, h9R, hq⟩ := hq
              dsimp only at h9Y h9R
              rw [h9Y, h9R] at hH
              have hF := hF X21 hH.2.2.1 hq
              refine lv_goto (tgt := 181) C.1 C.2.1 dX7_tellLine_145 (by decide) ?_
              exact zd_vret C hr hlk hH hS (⟨rfl, rfl, hF⟩) dX7_tellLine_181
          · have hF := hF.2 c16
            refine lv_aload_n C.1 C.2.1 dX7_tellLine_96 rfl (lv_at hl 0 rfl) ?_
            refine zg7_2 C hH (zRr_n0 hC.1) (zRr_k0 hC.1) q_326 (zRr_9 hC.1).2.2 dX7_tellLine_97 ?_
            refine zd_iconst C dX7_tellLine_100 ?_
            refine zd_aaldr C hH (zRr_n9 hC.1) 7 rfl rfl (by rw [(zRr_9 hC.1).1]; rfl) (by decide) (by rw [zRr_l9 hC.1]; decide) (by rw [zRr_l9 hC.1]; decide) (zRr_z (z := 0) hC.1 (by decide) (by decide)).1.1 dX7_tellLine_101 ?_
            refine lv_iload_n C.1 C.2.1 dX7_tellLine_102 rfl (lv_at hl 2 rfl) ?_
            refine lv_aload_n C.1 C.2.1 dX7_tellLine_103 rfl (lv_at hl 0 rfl) ?_
            refine zg7_11 C hH (zRr_n0 hC.1) (zRr_k0 hC.1) q_338 (zRr_11 hC.1).2.2 dX7_tellLine_104 ?_
            refine zd_iconst C dX7_tellLine_107 ?_
            refine zd_iald C hH (zRr_n11 hC.1) (zRr_11 hC.1).1 (by decide) (by rw [zRr_l11 hC.1]; decide) (by rw [zRr_l11 hC.1]; decide) dX7_tellLine_108 ?_
            refine zd_iconst C dX7_tellLine_109 ?_
            refine zd_iconst C dX7_tellLine_110 ?_
            obtain ⟨o22, hF⟩ := hF
            refine zgov (zrunV (As := [.int (zI (b)), .int (zI (X (i + 11) (0))), .int (zI (0)), .int (zI (0))]) (rest := []) C hE hH hS hl.1 (c_X8_add (l := l) (zRr_z (z := 0) hC.1 (by decide) (by decide)).1.2 (zRr_z (z := 0) hC.1 (by decide) (by decide)).2 (b) hb (X (i + 11) (0)) (hH.2.2.1 _ _) (0) (by decide) (0) (by decide) o22) k_RX7_122 ⟨Nat.le_of_ble_eq_true rfl, Nat.le_of_ble_eq_true rfl⟩ (zRows_n0 (zRr_z (z := 0) hC.1 (by decide) (by decide)).1.2) (zRows_k0 (zRr_z (z := 0) hC.1 (by decide) (by decide)).1.2) rfl rfl rfl (Nat.le_of_ble_eq_true rfl) dX7_tellLine_111 ⟨Nat.zero_le _, Nat.zero_le _⟩) hS (fun X23 Yq Rq H locs hq hH hS => ?_)
            obtain ⟨h9Y, h9R, hq⟩ := hq
            dsimp only at h9Y h9R
            rw [h9Y, h9R] at hH
            have hF := hF X23 hH.2.2.1 hq
            refine lv_goto (tgt := 181) C.1 C.2.1 dX7_tellLine_114 (by decide) ?_
            exact zd_vret C hr hlk hH hS (⟨rfl, rfl, hF⟩) dX7_tellLine_181
        · have hF := hF.2 c15
          refine lv_aload_n C.1 C.2.1 dX7_tellLine_63 rfl (lv_at hl 0 rfl) ?_
          refine zg7_1 C hH (zRr_n0 hC.1) (zRr_k0 hC.1) q_324 (zRr_bl hC.1).1 dX7_tellLine_64 ?_
          refine lv_aload_n C.1 C.2.1 dX7_tellLine_67 rfl (lv_at hl 0 rfl) ?_
          refine zg7_11 C hH (zRr_n0 hC.1) (zRr_k0 hC.1) q_338 (zRr_11 hC.1).2.2 dX7_tellLine_68 ?_
          refine zd_iconst C dX7_tellLine_71 ?_
          refine zd_iald C hH (zRr_n11 hC.1) (zRr_11 hC.1).1 (by decide) (by rw [zRr_l11 hC.1]; decide) (by rw [zRr_l11 hC.1]; decide) dX7_tellLine_72 ?_
          refine lv_aload_n C.1 C.2.1 dX7_tellLine_73 rfl (lv_at hl 0 rfl) ?_
          refine zg7_11 C hH (zRr_n0 hC.1) (zRr_k0 hC.1) q_338 (zRr_11 hC.1).2.2 dX7_tellLine_74 ?_
          refine zd_iconst C dX7_tellLine_77 ?_
          refine zd_iald C hH (zRr_n11 hC.1) (zRr_11 hC.1).1 (by decide) (by rw [zRr_l11 hC.1]; decide) (by rw [zRr_l11 hC.1]; decide) dX7_tellLine_78 ?_
          refine lv_aload_n C.1 C.2.1 dX7_tellLine_79 rfl (lv_at hl 0 rfl) ?_
          refine zg7_11 C hH (zRr_n0 hC.1) (zRr_k0 hC.1) q_338 (zRr_11 hC.1).2.2 dX7_tellLine_80 ?_
          refine zd_iconst C dX7_tellLine_83 ?_
          refine zd_iald C hH (zRr_n11 hC.1) (zRr_11 hC.1).1 (by decide) (by rw [zRr_l11 hC.1]; decide) (by rw [zRr_l11 hC.1]; decide) dX7_tellLine_84 ?_
          obtain ⟨o24, hF⟩ := hF
          refine zgov (zrunV (As := [.int (zI (X (i + 11) (0))), .int (zI (X (i + 11) (1))), .int (zI (X (i + 11) (2)))]) (rest := []) C hE hH hS hl.1 (c_X0_addPay (l := l) (zRr_bl hC.1).2 (X (i + 11) (0)) (hH.2.2.1 _ _) (X (i + 11) (1)) (hH.2.2.1 _ _) (X (i + 11) (2)) (hH.2.2.1 _ _) o24) k_RX7_119 ⟨Nat.le_of_ble_eq_true rfl, Nat.le_of_ble_eq_true rfl⟩ (zBlocks_n0 (zRr_bl hC.1).2) (zBlocks_k0 (zRr_bl hC.1).2) rfl rfl rfl (Nat.le_of_ble_eq_true rfl) dX7_tellLine_85 ⟨Nat.zero_le _, Nat.zero_le _⟩) hS (fun X25 Yq Rq H locs hq hH hS => ?_)
          obtain ⟨h9Y, h9R, hq⟩ := hq
          dsimp only at h9Y h9R
          rw [h9Y, h9R] at hH
          have hF := hF X25 hH.2.2.1 hq
          refine lv_goto (tgt := 181) C.1 C.2.1 dX7_tellLine_88 (by decide) ?_
          exact zd_vret C hr hlk hH hS (⟨rfl, rfl, hF⟩) dX7_tellLine_181
      · have hF := hF.2 c14
        refine lv_aload_n C.1 C.2.1 dX7_tellLine_30 rfl (lv_at hl 0 rfl) ?_
        refine zg7_1 C hH (zRr_n0 hC.1) (zRr_k0 hC.1) q_324 (zRr_bl hC.1).1 dX7_tellLine_31 ?_
        refine lv_aload_n C.1 C.2.1 dX7_tellLine_34 rfl (lv_at hl 0 rfl) ?_
        refine zg7_11 C hH (zRr_n0 hC.1) (zRr_k0 hC.1) q_338 (zRr_11 hC.1).2.2 dX7_tellLine_35 ?_
        refine zd_iconst C dX7_tellLine_38 ?_
        refine zd_iald C hH (zRr_n11 hC.1) (zRr_11 hC.1).1 (by decide) (by rw [zRr_l11 hC.1]; decide) (by rw [zRr_l11 hC.1]; decide) dX7_tellLine_39 ?_
        refine lv_aload_n C.1 C.2.1 dX7_tellLine_40 rfl (lv_at hl 0 rfl) ?_
        refine zg7_11 C hH (zRr_n0 hC.1) (zRr_k0 hC.1) q_338 (zRr_11 hC.1).2.2 dX7_tellLine_41 ?_
        refine zd_iconst C dX7_tellLine_44 ?_
        refine zd_iald C hH (zRr_n11 hC.1) (zRr_11 hC.1).1 (by decide) (by rw [zRr_l11 hC.1]; decide) (by rw [zRr_l11 hC.1]; decide) dX7_tellLine_45 ?_
        refine lv_aload_n C.1 C.2.1 dX7_tellLine_46 rfl (lv_at hl 0 rfl) ?_
        refine zg7_11 C hH (zRr_n0 hC.1) (zRr_k0 hC.1) q_338 (zRr_11 hC.1).2.2 dX7_tellLine_47 ?_
        refine zd_iconst C dX7_tellLine_50 ?_
        refine zd_iald C hH (zRr_n11 hC.1) (zRr_11 hC.1).1 (by decide) (by rw [zRr_l11 hC.1]; decide) (by rw [zRr_l11 hC.1]; decide) dX7_tellLine_51 ?_
        obtain ⟨o26, hF⟩ := hF
        refine zgov (zrunV (As := [.int (zI (X (i + 11) (0))), .int (zI (X (i + 11) (1))), .int (zI (X (i + 11) (2)))]) (rest := []) C hE hH hS hl.1 (c_X0_addBlock (l := l) (zRr_bl hC.1).2 (X (i + 11) (0)) (hH.2.2.1 _ _) (X (i + 11) (1)) (hH.2.2.1 _ _) (X (i + 11) (2)) (hH.2.2.1 _ _) o26) k_RX7_115 ⟨Nat.le_of_ble_eq_true rfl, Nat.le_of_ble_eq_true rfl⟩ (zBlocks_n0 (zRr_bl hC.1).2) (zBlocks_k0 (zRr_bl hC.1).2) rfl rfl rfl (Nat.le_of_ble_eq_true rfl) dX7_tellLine_52 ⟨Nat.zero_le _, Nat.zero_le _⟩) hS (fun X27 Yq Rq H locs hq hH hS => ?_)
        obtain ⟨h9Y, h9R, hq⟩ := hq
        dsimp only at h9Y h9R
        rw [h9Y, h9R] at hH
        have hF := hF X27 hH.2.2.1 hq
        refine lv_goto (tgt := 181) C.1 C.2.1 dX7_tellLine_55 (by decide) ?_
        exact zd_vret C hr hlk hH hS (⟨rfl, rfl, hF⟩) dX7_tellLine_181
  · have hF := hF.2 c1
    refine lv_aload_n C.1 C.2.1 dX7_tellLine_4 rfl (lv_at hl 0 rfl) ?_
    refine zg7_0 C hH (zRr_n0 hC.1) (zRr_k0 hC.1) q_322 (zRr_nt hC.1).1 dX7_tellLine_5 ?_
    refine lv_iload_n C.1 C.2.1 dX7_tellLine_8 rfl (lv_at hl 2 rfl) ?_
    refine lv_aload_n C.1 C.2.1 dX7_tellLine_9 rfl (lv_at hl 0 rfl) ?_
    refine zg7_11 C hH (zRr_n0 hC.1) (zRr_k0 hC.1) q_338 (zRr_11 hC.1).2.2 dX7_tellLine_10 ?_
    refine zd_iconst C dX7_tellLine_13 ?_
    refine zd_iald C hH (zRr_n11 hC.1) (zRr_11 hC.1).1 (by decide) (by rw [zRr_l11 hC.1]; decide) (by rw [zRr_l11 hC.1]; decide) dX7_tellLine_14 ?_
    obtain ⟨o28, hF⟩ := hF
    refine zgov (zrunV (As := [.int (zI (b)), .int (zI (X (i + 11) (0)))]) (rest := []) C hE hH hS hl.1 (c_X6_tell (l := l) (zRr_nt hC.1).2 (b) hb (X (i + 11) (0)) (hH.2.2.1 _ _) o28) k_RX7_112 ⟨Nat.le_of_ble_eq_true rfl, Nat.le_of_ble_eq_true rfl⟩ (zNet_n0 (zRr_nt hC.1).2) (zNet_k0 (zRr_nt hC.1).2) rfl rfl rfl (Nat.le_of_ble_eq_true rfl) dX7_tellLine_15 ⟨Nat.zero_le _, Nat.zero_le _⟩) hS (fun X29 Yq Rq H locs hq hH hS => ?_)
    obtain ⟨h9Y, h9R, hq⟩ := hq
    dsimp only at h9Y h9R
    rw [h9Y, h9R] at hH
    have hF := hF X29 hH.2.2.1 hq
    refine lv_goto (tgt := 181) C.1 C.2.1 dX7_tellLine_18 (by decide) ?_
    exact zd_vret C hr hlk hH hS (⟨rfl, rfl, hF⟩) dX7_tellLine_181
theorem v_X7_tellLine {X Y : Nat → Int → Int} {R : Nat → Int → Option Nat} {i j : Nat} (a : Int) (ha : rI a) (b : Int) (hb : rI b) (hp : ((0 ≤ a ∧ a ≤ 4) ∧ (a = 0 → 0 ≤ b ∧ b ≤ 6)) ∧ rdV X i ∧ tmB X i (a) (b) = false ∧ ∀ k : Int, 0 ≤ k → k < 4 → 0 ≤ X (i + 11) k ∧ X (i + 11) k ≤ 99) : F_X7_tellLine i j X Y R a b := by
  unfold F_X7_tellLine
  intro hX hY
  obtain ⟨⟨ha, hab⟩, hv, hm, hl⟩ := hp
  have n30 := hv.2.1.1
  refine ⟨?_, ?_⟩
  · intro c1
    refine ⟨?_, ?_⟩
    · intro c2
      refine ⟨?_, ?_⟩
      · intro c3
        refine ⟨?_, ?_⟩
        · intro c4
          refine ⟨?_, ?_⟩
          · intro c5
            refine ⟨?_, ?_⟩
            · exact hv.2.2.2.2.1
            intro X7
            intro rX7
            intro h1
            obtain rfl : a = 4 := by omega
            unfold tmB at hm
            rw [if_neg (by decide), if_neg (by decide)] at hm
            have m : ¬ X (i + 16) 2 = X (i + 16) 1 := of_decide_eq_false hm
            have kk := fun s => tl_r (s := s) (vv := (fun k : Nat => X (i + 11) k)) h1 hv.2.2.2.2 (Or.inr rfl) m rfl rfl (fun _ => ⟨rfl, rfl⟩)
            have k := kk (fun _ => 0, 0)
            refine ⟨fun z hz => k.1 z (by omega) (by omega), ⟨vN_k (k.1 _ (by omega) (by omega)) (k.1 _ (by omega) (by omega)) hv, vB_k (fun z h1 h2 => k.1 z (by omega) (by omega)) hv, vR_k (k.1 _ (by omega) (by omega)) hv.2.2.1, vR_k (k.1 _ (by omega) (by omega)) hv.2.2.2.1, k.2.1⟩, fun ts hs => ?_⟩
            have e : tlN 4 b (fun k => X (i + 11) k) ts = (upI (upS ts.1 (1 + 4 * ts.1 0) (fun k : Nat => X (i + 11) k) 4) 0 (ts.1 0 + 1), ts.2) := by
              unfold tlN
              rw [if_neg (by decide), if_neg (by decide), if_neg (by decide), if_neg (by decide)]
            rw [e]
            unfold toldR at hs ⊢
            rw [if_neg (by decide), if_neg (by decide)] at hs ⊢
            exact (kk ts).2.2 hs
          intro c6
          refine ⟨?_, ?_⟩
          · exact hv.2.2.2.1.1
          intro X9
          intro rX9
          intro h2
          obtain rfl : a = 3 := by omega
          unfold tmB at hm
          rw [if_neg (by decide), if_neg (by decide)] at hm
          have m : ¬ X (i + 14) 2 = X (i + 14) 1 := of_decide_eq_false hm
          have kk := fun s => tl_r (s := s) (vv := (fun k : Nat => X (i + 11) k)) h2 hv.2.2.2.1 (Or.inl rfl) m rfl rfl (fun g => absurd g (by decide))
          have k := kk (fun _ => 0, 0)
          refine ⟨fun z hz => k.1 z (by omega) (by omega), ⟨vN_k (k.1 _ (by omega) (by omega)) (k.1 _ (by omega) (by omega)) hv, vB_k (fun z h1 h2 => k.1 z (by omega) (by omega)) hv, vR_k (k.1 _ (by omega) (by omega)) hv.2.2.1, k.2.1, vR_k (k.1 _ (by omega) (by omega)) hv.2.2.2.2⟩, fun ts hs => ?_⟩
          have e : tlN 3 b (fun k => X (i + 11) k) ts = (upI (upS ts.1 (1 + 2 * ts.1 0) (fun k : Nat => X (i + 11) k) 2) 0 (ts.1 0 + 1), ts.2) := by
            unfold tlN
            rw [if_neg (by decide), if_neg (by decide), if_neg (by decide), if_pos rfl]
          rw [e]
          unfold toldR at hs ⊢
          rw [if_neg (by decide), if_neg (by decide)] at hs ⊢
          exact (kk ts).2.2 hs
        intro c7
        refine ⟨?_, ?_⟩
        · exact hv.2.2.1.1
        intro X11
        intro rX11
        intro h3
        obtain rfl : a = 2 := by omega
        unfold tmB at hm
        rw [if_neg (by decide), if_neg (by decide)] at hm
        have m : ¬ X (i + 12) 2 = X (i + 12) 1 := of_decide_eq_false hm
        have kk := fun s => tl_r (s := s) (vv := (fun j : Nat => if j = 0 then b else X (i + 11) (0 : Nat))) h3 hv.2.2.1 (Or.inl rfl) m rfl rfl (fun g => absurd g (by decide))
        have k := kk (fun _ => 0, 0)
        refine ⟨fun z hz => k.1 z (by omega) (by omega), ⟨vN_k (k.1 _ (by omega) (by omega)) (k.1 _ (by omega) (by omega)) hv, vB_k (fun z h1 h2 => k.1 z (by omega) (by omega)) hv, k.2.1, vR_k (k.1 _ (by omega) (by omega)) hv.2.2.2.1, vR_k (k.1 _ (by omega) (by omega)) hv.2.2.2.2⟩, fun ts hs => ?_⟩
        have e : tlN 2 b (fun k => X (i + 11) k) ts = (upI (upS ts.1 (1 + 2 * ts.1 0) (fun j : Nat => if j = 0 then b else X (i + 11) (0 : Nat)) 2) 0 (ts.1 0 + 1), ts.2) := by
          unfold tlN
          rw [if_neg (by decide), if_neg (by decide), if_pos rfl]
        rw [e]
        unfold toldR at hs ⊢
        rw [if_neg (by decide), if_neg (by decide)] at hs ⊢
        exact (kk ts).2.2 hs
      intro c8
      exfalso
      omega
    intro c9
    refine ⟨?_, ?_⟩
    · intro c10
      refine ⟨?_, ?_⟩
      · intro c11
        exfalso
        omega
      intro c16
      refine ⟨?_, ?_⟩
      · exact ⟨⟨by omega, by omega⟩, (hv.2.1.2.2 _ (by omega) (by omega)).1⟩
      intro X25
      intro rX25
      intro h8
      obtain rfl : a = 1 := by omega
      unfold tmB at hm
      rw [if_neg (by decide), if_pos rfl, if_neg c10] at hm
      have m : 0 < X (i + 3) 0 ∧ X (i + 3) 0 < 15 ∧ X (i + 7) (X (i + 3) 0) < 3 := by
        cases e : decide (0 < X (i + 3) 0 ∧ X (i + 3) 0 < 15 ∧ X (i + 7) (X (i + 3) 0) < 3)
        · rw [e] at hm
          exact absurd hm (by decide)
        · exact of_decide_eq_true e
      have kk := fun s => tl_p (s := s) h8 hv.2.1.1 hv.2.1.2.1 hv.2.1.2.2 m ⟨hl 0 (by decide) (by decide), hl 1 (by decide) (by decide), hl 2 (by decide) (by decide)⟩
      have k := kk (fun _ => 0, 0)
      refine ⟨fun z hz => k.1 z (by omega), ⟨vN_k (k.1 _ (by omega)) (k.1 _ (by omega)) hv, ⟨k.2.1, k.2.2.1, k.2.2.2.1⟩, vR_k (k.1 _ (by omega)) hv.2.2.1, vR_k (k.1 _ (by omega)) hv.2.2.2.1, vR_k (k.1 _ (by omega)) hv.2.2.2.2⟩, fun ts hs => ?_⟩
      unfold toldR at hs ⊢
      rw [if_neg (by decide), if_pos rfl] at hs ⊢
      exact (kk ts).2.2.2.2 c10 rfl rfl rfl hs
    intro c17
    refine ⟨?_, ?_⟩
    · first | omega | exact ⟨by omega, by omega⟩ | decide | assumption | exact ⟨by omega, by omega, by omega⟩ | exact ⟨by decide, by decide⟩
    intro X27
    intro rX27
    intro h9
    obtain rfl : a = 1 := by omega
    obtain rfl : b = 0 := by omega
    unfold tmB at hm
    rw [if_neg (by decide), if_pos rfl, if_pos rfl] at hm
    have m := of_decide_eq_false hm
    have kk := fun s => tl_b (s := s) h9 hv.2.1.1 hv.2.1.2.1 hv.2.1.2.2 m
    have k := kk (fun _ => 0, 0)
    refine ⟨fun z hz => k.1 z (by omega), ⟨vN_k (k.1 _ (by omega)) (k.1 _ (by omega)) hv, ⟨k.2.1, k.2.2.1, k.2.2.2.1⟩, vR_k (k.1 _ (by omega)) hv.2.2.1, vR_k (k.1 _ (by omega)) hv.2.2.2.1, vR_k (k.1 _ (by omega)) hv.2.2.2.2⟩, fun ts hs => ?_⟩
    unfold toldR at hs ⊢
    rw [if_neg (by decide), if_pos rfl] at hs ⊢
    exact (kk ts).2.2.2.2 rfl rfl rfl hs
  intro c18
  refine ⟨?_, ?_⟩
  · exact hv.1.1
  intro X29
  intro rX29
  intro h10
  obtain rfl : a = 0 := by omega
  unfold tmB at hm
  rw [if_pos rfl] at hm
  have m := of_decide_eq_false hm
  have kk := fun s => tl_0 (s := s) h10 (hab rfl) hv.1.1 hv.1.2 m (hl 0 (by decide) (by decide))
  have k := kk (fun _ => 0, 0)
  refine ⟨fun z hz => k.1 z (by omega) (by omega), ⟨⟨k.2.1, k.2.2.1⟩, vB_k (fun z h1 h2 => k.1 z (by omega) (by omega)) hv, vR_k (k.1 _ (by omega) (by omega)) hv.2.2.1, vR_k (k.1 _ (by omega) (by omega)) hv.2.2.2.1, vR_k (k.1 _ (by omega) (by omega)) hv.2.2.2.2⟩, fun ts hs => ?_⟩
  unfold toldR at hs ⊢
  rw [if_pos rfl] at hs ⊢
  exact (kk ts).2.2.2 rfl hs
theorem c_X7_tellLine {l : Launch} {D : va_G} {cy : Nat → ClassId} {bs N : Nat} {sa : Nat → Nat} {kd len : Nat → Nat} {X Y : Nat → Int → Int} {R : Nat → Int → Option Nat} {i j : Nat} (hC : zRd1 N kd len R i j) (a : Int) (ha : rI a) (b : Int) (hb : rI b) (hp : ((0 ≤ a ∧ a ≤ 4) ∧ (a = 0 → 0 ≤ b ∧ b ≤ 6)) ∧ rdV X i ∧ tmB X i (a) (b) = false ∧ ∀ k : Int, 0 ≤ k → k < 4 → 0 ≤ X (i + 11) k ∧ X (i + 11) k ≤ 99) : Met l yX7_tellLine (.code yX7_tellLine cX7_tellLine 3 none :: zTB) (zRm 2 47) (zPc D cy bs sa N kd len X Y R [.ref (bs + (i)), .int (zI (a)), .int (zI (b))]) (zQv D cy bs N kd len (fun st => st.2.1 = Y ∧ st.2.2 = R ∧ (tlK X (st.1) i ∧ rdV (st.1) i ∧ ∀ ts, toldR X i (a) ts → toldR (st.1) i (a) (tlN (a) (b) (fun k => X (i + 11) k) ts)))) 0 0 (zA bs) := w_X7_tellLine hC a ha b hb (v_X7_tellLine a ha b hb hp)
