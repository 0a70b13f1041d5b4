/-! WHAT HOLDS BETWEEN CALLS: the component's told rows are the reference's -/
theorem cpM_at {Z Z1 : Nat → Int → Int} {q : Nat} {k m : Int} (g : cpM Z Z1 q k m) (o : Nat) (h1 : 1 ≤ o) (h2 : o ≤ 10) (y : Int) (y0 : 0 ≤ y) (y1 : y < wdO o) {p p' : Int} (e : p = wdO o * m + y) (e' : p' = wdO o * k + y) : Z1 (q + o) p = Z (q + o) p' := by
  rw [e, e']
  exact g o h1 h2 y y0 y1
/-- told object j' of X1 is told object j of X -/
def cpQ (X X1 : Nat → Int → Int) (j j' : Nat) : Prop := (X1 j' 1 = X j 1 ∧ X1 j' 2 = X j 2 ∧ X1 j' 3 = X j 3) ∧ (∀ y : Int, 0 ≤ y → y < 600 → X1 (j' + 1) y = X (j + 1) y) ∧ (∀ y : Int, 0 ≤ y → y < 5 → X1 (j' + 2) y = X (j + 2) y) ∧
  (∀ n : Nat, n < 2 → (∀ w : Int, 0 ≤ w → w ≤ 6 → X1 (j' + 6 + 8 * n) w = X (j + 6 + 8 * n) w) ∧ ∀ y : Int, 0 ≤ y → y < 6 → X1 (j' + 6 + 8 * n + 1) y = X (j + 6 + 8 * n + 1) y) ∧
  (∀ n : Nat, n < 2 → X1 (j' + 8 + 8 * n) 0 = X (j + 8 + 8 * n) 0 ∧ (∀ s : Nat, 1 ≤ s → s ≤ 4 → ∀ y : Int, 0 ≤ y → y < 15 → X1 (j' + 8 + 8 * n + s) y = X (j + 8 + 8 * n + s) y) ∧ ∀ y : Int, 0 ≤ y → y < 135 → X1 (j' + 8 + 8 * n + 5) y = X (j + 8 + 8 * n + 5) y) ∧
  ∀ n : Nat, n < 6 → (X1 (j' + 22 + 2 * n) 0 = X (j + 22 + 2 * n) 0 ∧ X1 (j' + 22 + 2 * n) 1 = X (j + 22 + 2 * n) 1 ∧ X1 (j' + 22 + 2 * n) 2 = X (j + 22 + 2 * n) 2) ∧ ∀ y : Int, 0 ≤ y → y < rwN n → X1 (j' + 22 + 2 * n + 1) y = X (j + 22 + 2 * n + 1) y
theorem cpQ_rf {X X1 : Nat → Int → Int} {j : Nat} (e : ∀ z, j ≤ z → z ≤ j + 33 → X1 z = X z) : cpQ X X1 j j := by
  refine ⟨by rw [e j (by omega) (by omega)]; exact ⟨rfl, rfl, rfl⟩, fun y _ _ => by rw [e _ (by omega) (by omega)], fun y _ _ => by rw [e _ (by omega) (by omega)], fun n hn => ⟨fun w _ _ => by rw [e _ (by omega) (by omega)], fun y _ _ => by rw [e _ (by omega) (by omega)]⟩, fun n hn => ⟨by rw [e _ (by omega) (by omega)], fun s _ _ y _ _ => by rw [e _ (by omega) (by omega)], fun y _ _ => by rw [e _ (by omega) (by omega)]⟩, fun n hn => ⟨by rw [e _ (by omega) (by omega)]; exact ⟨rfl, rfl, rfl⟩, fun y _ _ => by rw [e _ (by omega) (by omega)]⟩⟩
theorem nV_c {X X1 : Nat → Int → Int} {n n' : Nat} (h : ∀ y : Int, 0 ≤ y → y < 6 → X1 (n' + 1) y = X (n + 1) y) (v : nV X n) : nV X1 n' := fun a h0 h1 => by rw [h a h0 h1]; exact v a h0 h1
theorem bV_c {X X1 : Nat → Int → Int} {b b' : Nat} (h : ∀ s : Nat, 1 ≤ s → s ≤ 4 → ∀ y : Int, 0 ≤ y → y < 15 → X1 (b' + s) y = X (b + s) y) (h5 : ∀ y : Int, 0 ≤ y → y < 135 → X1 (b' + 5) y = X (b + 5) y) (v : bV X b) : bV X1 b' :=
  ⟨fun y h0 h1 => by rw [h5 y h0 h1]; exact v.1 y h0 h1, by rw [h 2 (by decide) (by decide) 0 (by decide) (by decide)]; exact v.2.1, by rw [h 4 (by decide) (by decide) 0 (by decide) (by decide)]; exact v.2.2⟩
theorem rowV_c {X X1 : Nat → Int → Int} {r r' nn : Nat} {w m : Int} (h : X1 r' 0 = X r 0 ∧ X1 r' 1 = X r 1 ∧ X1 r' 2 = X r 2) (v : rowV X r w m nn) : rowV X1 r' w m nn := by
  obtain ⟨e0, e1, e2⟩ := h
  unfold rowV oRw at v ⊢
  rw [e0, e1, e2]
  exact v
theorem tdR_cp {X X1 Z Z1 : Nat → Int → Int} {q j j' : Nat} {k m : Int} (h : cpQ X X1 j j') (g : cpM Z Z1 q k m) (v : vAll Z q k) (d : tdR Z q k X j) : tdR Z1 q m X1 j' := by
  obtain ⟨⟨x1, x2, x3⟩, xt, xc, xn, xb, xr⟩ := h
  obtain ⟨⟨d1, d2, d3⟩, dt, dc, dn, db, df, dl, dp⟩ := d
  obtain ⟨vc, v0, v1, -⟩ := v
  refine ⟨⟨?_, ?_, ?_⟩, fun y h0 h1 => ?_, fun s h0 h1 => ?_, fun n hn => ⟨nV_c (xn n hn).2 (dn n hn).1, fun hc => ?_⟩, fun n hn => ⟨bV_c (xb n hn).2.1 (xb n hn).2.2 (db n hn).1, fun hc => ?_⟩, fun n hn => ?_, fun n hn => ?_, fun n hn => ?_⟩
  · rw [x1, d1]
    exact (cpM_at g 2 (by decide) (by decide) 0 (by decide) (by decide) (by show m = 1 * m + 0; omega) (by show k = 1 * k + 0; omega)).symm
  · rw [x2, d2]
    exact (cpM_at g 3 (by decide) (by decide) 0 (by decide) (by decide) (by show m = 1 * m + 0; omega) (by show k = 1 * k + 0; omega)).symm
  · rw [x3, d3]
    exact (cpM_at g 4 (by decide) (by decide) 0 (by decide) (by decide) (by show m = 1 * m + 0; omega) (by show k = 1 * k + 0; omega)).symm
  · rw [xt y h0 h1, dt y h0 h1]
    exact (cpM_at g 1 (by decide) (by decide) y h0 h1 rfl rfl).symm
  · rw [xc s h0 h1, dc s h0 h1]
    exact (cpM_at g 5 (by decide) (by decide) s h0 h1 rfl rfl).symm
  · rw [xc 0 (by decide) (by decide)] at hc
    obtain ⟨nw, na⟩ := (dn n hn).2 hc
    obtain ⟨ew, ey⟩ := xn n hn
    refine ⟨fun w h0 h1 => ?_, fun a h0 h1 => ?_⟩
    · rw [ew w h0 h1, nw w h0 h1]
      exact (cpM_at g 6 (by decide) (by decide) (13 * n + w) (by omega) (by show (13 : Int) * n + w < 26; omega) (by show 26 * m + 13 * n + w = 26 * m + (13 * n + w); omega) (by show 26 * k + 13 * n + w = 26 * k + (13 * n + w); omega)).symm
    · rw [ew 6 (by decide) (by decide)] at h1
      have b6 : X (j + 6 + 8 * n) 6 ≤ 6 := by
        have l := v0 n (by omega) (by rw [← dc 0 (by decide) (by decide)]; exact hc)
        rw [nw 6 (by decide) (by decide)]
        exact l.2.2.2.2.2.2.1.2
      rw [ey a h0 (by omega), na a h0 h1]
      exact (cpM_at g 6 (by decide) (by decide) (13 * n + (7 + a)) (by omega) (by show (13 : Int) * n + (7 + a) < 26; omega) (by show 26 * m + 13 * n + (7 + a) = 26 * m + (13 * n + (7 + a)); omega) (by show 26 * k + 13 * n + (7 + a) = 26 * k + (13 * n + (7 + a)); omega)).symm
  · rw [xc 1 (by decide) (by decide)] at hc
    obtain ⟨b0, bk⟩ := (db n hn).2 hc
    obtain ⟨e0, es, e5⟩ := xb n hn
    have l := v1 n (by omega) (by rw [← dc 1 (by decide) (by decide)]; exact hc)
    have l0 : 0 ≤ Z (q + 7) (366 * k + 183 * n + 0) ∧ Z (q + 7) (366 * k + 183 * n + 0) ≤ 14 := l.1
    rw [Int.add_zero] at l0
    rw [← b0] at l0
    have at7 : ∀ (y : Int) {p p' : Int}, 0 ≤ y → y < 183 → p = 366 * m + 183 * n + y → p' = 366 * k + 183 * n + y → Z (q + 7) p' = Z1 (q + 7) p := fun y p p' h0 h1 e e' => (cpM_at g 7 (by decide) (by decide) (183 * n + y) (by omega) (by show (183 : Int) * n + y < 366; omega) (by show p = 366 * m + (183 * n + y); omega) (by show p' = 366 * k + (183 * n + y); omega)).symm
    refine ⟨by rw [e0, b0]; exact at7 0 (by decide) (by decide) (by omega) (by omega), fun x h0 h1 => ?_⟩
    rw [e0] at h1
    obtain ⟨⟨c1, c2, c3, c4⟩, cj⟩ := bk x h0 h1
    have lx := l.2 x h0 (by show x ≤ Z (q + 7) (366 * k + 183 * n + 0); rw [Int.add_zero, ← b0]; exact h1)
    have l3 : 0 ≤ Z (q + 7) (366 * k + 183 * n + (1 + 13 * (x - 1) + 3)) ∧ Z (q + 7) (366 * k + 183 * n + (1 + 13 * (x - 1) + 3)) ≤ 3 := lx.2.2.2.1
    rw [show 366 * k + 183 * (n : Int) + (1 + 13 * (x - 1) + 3) = 366 * k + 183 * n + 1 + 13 * (x - 1) + 3 by omega, ← c4] at l3
    have x0 : 0 ≤ x := by omega
    have x15 : x < 15 := by omega
    refine ⟨⟨?_, ?_, ?_, ?_⟩, fun y w y0 y1 w0 w1 => ?_⟩
    · have f := es 1 (by decide) (by decide) x x0 x15
      rw [f, c1]
      exact at7 (1 + 13 * (x - 1)) (by omega) (by omega) (by omega) (by omega)
    · have f := es 2 (by decide) (by decide) x x0 x15
      rw [f, c2]
      exact at7 (1 + 13 * (x - 1) + 1) (by omega) (by omega) (by omega) (by omega)
    · have f := es 3 (by decide) (by decide) x x0 x15
      rw [f, c3]
      exact at7 (1 + 13 * (x - 1) + 2) (by omega) (by omega) (by omega) (by omega)
    · have f := es 4 (by decide) (by decide) x x0 x15
      rw [f, c4]
      exact at7 (1 + 13 * (x - 1) + 3) (by omega) (by omega) (by omega) (by omega)
    · have f := es 4 (by decide) (by decide) x x0 x15
      rw [f] at y1
      rw [e5 _ (by omega) (by omega), cj y w y0 y1 w0 w1]
      exact at7 (1 + 13 * (x - 1) + (4 + 3 * y + w)) (by omega) (by omega) (by omega) (by omega)
  · obtain ⟨e2, ey⟩ := xr n (by omega)
    obtain ⟨rv, rr⟩ := df n hn
    refine ⟨rowV_c e2 rv, fun hc => ?_⟩
    rw [xc 2 (by decide) (by decide)] at hc
    obtain ⟨f0, fk⟩ := rr hc
    have b0 := rv.1.2.1
    rw [rv.2.2] at b0
    rw [show rwN n = 80 from if_pos (by omega)] at ey
    have at8 : ∀ (y : Int) {p p' : Int}, 0 ≤ y → y < 81 → p = 162 * m + 81 * n + y → p' = 162 * k + 81 * n + y → Z (q + 8) p' = Z1 (q + 8) p := fun y p p' h0 h1 e e' => (cpM_at g 8 (by decide) (by decide) (81 * n + y) (by omega) (by show (81 : Int) * n + y < 162; omega) (by show p = 162 * m + (81 * n + y); omega) (by show p' = 162 * k + (81 * n + y); omega)).symm
    refine ⟨by rw [e2.2.2, f0]; exact at8 0 (by decide) (by decide) (by omega) (by omega), fun x w h0 h1 w0 w1 => ?_⟩
    rw [e2.2.2] at h1
    rw [ey _ (by omega) (by omega), fk x w h0 h1 w0 w1]
    exact at8 (1 + 2 * x + w) (by omega) (by omega) (by omega) (by omega)
  · obtain ⟨e2, ey⟩ := xr (2 + n) (by omega)
    obtain ⟨rv, rr⟩ := dl n hn
    rw [show j' + 22 + 2 * (2 + n) = j' + 26 + 2 * n by omega, show j + 22 + 2 * (2 + n) = j + 26 + 2 * n by omega] at e2 ey
    refine ⟨rowV_c e2 rv, fun hc => ?_⟩
    rw [xc 3 (by decide) (by decide)] at hc
    obtain ⟨f0, fk⟩ := rr hc
    have b0 := rv.1.2.1
    rw [rv.2.2] at b0
    rw [rwN_16 (by omega)] at ey
    have at9 : ∀ (y : Int) {p p' : Int}, 0 ≤ y → y < 17 → p = 34 * m + 17 * n + y → p' = 34 * k + 17 * n + y → Z (q + 9) p' = Z1 (q + 9) p := fun y p p' h0 h1 e e' => (cpM_at g 9 (by decide) (by decide) (17 * n + y) (by omega) (by show (17 : Int) * n + y < 34; omega) (by show p = 34 * m + (17 * n + y); omega) (by show p' = 34 * k + (17 * n + y); omega)).symm
    refine ⟨by rw [e2.2.2, f0]; exact at9 0 (by decide) (by decide) (by omega) (by omega), fun x w h0 h1 w0 w1 => ?_⟩
    rw [e2.2.2] at h1
    rw [ey _ (by omega) (by omega), fk x w h0 h1 w0 w1]
    exact at9 (1 + 2 * x + w) (by omega) (by omega) (by omega) (by omega)
  · obtain ⟨e2, ey⟩ := xr (4 + n) (by omega)
    obtain ⟨rv, rr⟩ := dp n hn
    rw [show j' + 22 + 2 * (4 + n) = j' + 30 + 2 * n by omega, show j + 22 + 2 * (4 + n) = j + 30 + 2 * n by omega] at e2 ey
    refine ⟨rowV_c e2 rv, fun hc => ?_⟩
    rw [xc 4 (by decide) (by decide)] at hc
    obtain ⟨f0, fk⟩ := rr hc
    have b0 := rv.1.2.1
    rw [rv.2.2] at b0
    rw [show rwN ((4 + n : Nat) : Int) = 24 by unfold rwN; rw [if_neg (by omega), if_neg (by omega)]] at ey
    have at10 : ∀ (y : Int) {p p' : Int}, 0 ≤ y → y < 25 → p = 50 * m + 25 * n + y → p' = 50 * k + 25 * n + y → Z (q + 10) p' = Z1 (q + 10) p := fun y p p' h0 h1 e e' => (cpM_at g 10 (by decide) (by decide) (25 * n + y) (by omega) (by show (25 : Int) * n + y < 50; omega) (by show p = 50 * m + (25 * n + y); omega) (by show p' = 50 * k + (25 * n + y); omega)).symm
    refine ⟨by rw [e2.2.2, f0]; exact at10 0 (by decide) (by decide) (by omega) (by omega), fun x w h0 h1 w0 w1 => ?_⟩
    rw [e2.2.2] at h1
    rw [ey _ (by omega) (by omega), fk x w h0 h1 w0 w1]
    exact at10 (1 + 4 * x + w) (by omega) (by omega) (by omega) (by omega)

