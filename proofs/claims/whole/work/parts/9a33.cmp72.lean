/-! THE LAW'S INVARIANT: a text -/
section TXR
variable {X X1 : Nat → Int → Int}
def gNt (X : Nat → Int → Int) : Prop := ∀ n : Nat, n < 2 → nV X (1 + 6 + 8 * n) ∧ ((n : Int) < X (1 + 2) 0 → netR X 262 (26 * 0 + 13 * n) X (1 + 6 + 8 * n))
def gBk (X : Nat → Int → Int) : Prop := ∀ n : Nat, n < 2 → bV X (1 + 8 + 8 * n) ∧ ((n : Int) < X (1 + 2) 1 → blkR X 262 (366 * 0 + 183 * n) X (1 + 8 + 8 * n))
def uNt (X : Nat → Int → Int) : Prop := ∀ n : Int, 0 ≤ n → n < X (262 + 5) (5 * 0 + 0) → vNt (fun y => X (262 + 6) (26 * 0 + 13 * n + y))
def uBk (X : Nat → Int → Int) : Prop := ∀ n : Int, 0 ≤ n → n < X (262 + 5) (5 * 0 + 1) → vCc (fun y => X (262 + 7) (366 * 0 + 183 * n + y))
theorem gNt_k (d : gNt X) (c : X1 (1 + 2) 0 = X (1 + 2) 0) (e : ∀ n : Nat, n < 2 → X1 (1 + 6 + 8 * n) = X (1 + 6 + 8 * n) ∧ X1 (1 + 6 + 8 * n + 1) = X (1 + 6 + 8 * n + 1)) (eZ : X1 (262 + 6) = X (262 + 6)) : gNt X1 := fun n hn => by
  unfold nV netR
  rw [c, (e n hn).1, (e n hn).2, eZ]
  exact d n hn
theorem gBk_k (d : gBk X) (c : X1 (1 + 2) 1 = X (1 + 2) 1) (e : ∀ n : Nat, n < 2 → ∀ s : Nat, s ≤ 5 → X1 (1 + 8 + 8 * n + s) = X (1 + 8 + 8 * n + s)) (eZ : X1 (262 + 7) = X (262 + 7)) : gBk X1 := fun n hn => by
  unfold bV pyP blkR
  rw [c, show X1 (1 + 8 + 8 * n) = X (1 + 8 + 8 * n) from e n hn 0 (by decide), e n hn 1 (by decide), e n hn 2 (by decide), e n hn 3 (by decide), e n hn 4 (by decide), e n hn 5 (by decide), eZ]
  exact d n hn
theorem uNt_k (d : uNt X) (c : X1 (262 + 5) (5 * 0 + 0) = X (262 + 5) (5 * 0 + 0)) (eZ : X1 (262 + 6) = X (262 + 6)) : uNt X1 := fun n n0 n1 => by
  rw [eZ]
  rw [c] at n1
  exact d n n0 n1
theorem uBk_k (d : uBk X) (c : X1 (262 + 5) (5 * 0 + 1) = X (262 + 5) (5 * 0 + 1)) (eZ : X1 (262 + 7) = X (262 + 7)) : uBk X1 := fun n n0 n1 => by
  rw [eZ]
  rw [c] at n1
  exact d n n0 n1
theorem gNt_c {rn : Nat} {s : (Int → Int) × Int} (d : gNt X) (hc : (rn : Int) ≤ X (1 + 2) 0) (c : X1 (1 + 2) 0 = max (X (1 + 2) 0) (rn + 1)) (o : ∀ n : Nat, n < 2 → n ≠ rn → X1 (1 + 6 + 8 * n) = X (1 + 6 + 8 * n) ∧ X1 (1 + 6 + 8 * n + 1) = X (1 + 6 + 8 * n + 1))
    (w1 : ∀ w : Int, 0 ≤ w → w ≤ 6 → X1 (1 + 6 + 8 * rn) w = X 140 w) (w2 : ∀ y : Int, 0 ≤ y → y < 6 → X1 (1 + 6 + 8 * rn + 1) y = X 141 y) (v : nV X 140) (h6 : X 140 6 ≤ 6) (t : tNt X 140 s) (u : uNt X) (cc : X (1 + 2) 0 = X (262 + 5) (5 * 0 + 0))
    (es : ∀ y : Int, 0 ≤ y → y < 13 → X1 (262 + 6) (13 * rn + y) = s.1 y) (eo : ∀ y : Int, (y < 13 * rn ∨ 13 * rn + 13 ≤ y) → X1 (262 + 6) y = X (262 + 6) y) : gNt X1 := fun n hn => by
  by_cases q : n = rn
  · subst q
    refine ⟨fun a a0 a6 => by rw [w2 a a0 a6]; exact v a a0 a6, fun _ => ⟨fun b b0 b6 => ?_, fun y y0 y1 => ?_⟩⟩
    · rw [w1 b b0 b6, show 26 * 0 + 13 * (n : Int) + b = 13 * n + b by omega, es b b0 (by omega)]
      exact t.1 b b0 b6
    · rw [w1 6 (by decide) (by decide)] at y1
      have e6 := t.1 6 (by decide) (by decide)
      rw [w2 y y0 (by omega), show 26 * 0 + 13 * (n : Int) + (7 + y) = 13 * n + (7 + y) by omega, es _ (by omega) (by omega)]
      exact t.2 y y0 (by omega)
  · obtain ⟨o1, o2⟩ := o n hn q
    refine ⟨by unfold nV; rw [o2]; exact (d n hn).1, fun g => ?_⟩
    have g1 : (n : Int) < X (1 + 2) 0 := by rw [c] at g; omega
    obtain ⟨d1, d2⟩ := (d n hn).2 g1
    have b6 : X (262 + 6) (26 * 0 + 13 * (n : Int) + 6) ≤ 6 := (u n (by omega) (by omega)).2.2.2.2.2.2.1.2
    have e6 := d1 6 (by decide) (by decide)
    refine ⟨fun b b0 b6 => by rw [o1, eo _ (by omega)]; exact d1 b b0 b6, fun y y0 y1 => ?_⟩
    rw [o1] at y1
    rw [o2, eo _ (by omega)]
    exact d2 y y0 y1
theorem uNt_c {rn : Nat} {s : (Int → Int) × Int} (d : uNt X) (hc : (rn : Int) ≤ X (262 + 5) (5 * 0 + 0)) (c : X1 (262 + 5) (5 * 0 + 0) = max (X (262 + 5) (5 * 0 + 0)) (rn + 1)) (v : vNt s.1)
    (es : ∀ y : Int, 0 ≤ y → y < 13 → X1 (262 + 6) (13 * rn + y) = s.1 y) (eo : ∀ y : Int, (y < 13 * rn ∨ 13 * rn + 13 ≤ y) → X1 (262 + 6) y = X (262 + 6) y) : uNt X1 := fun n n0 n1 => by
  by_cases q : n = rn
  · exact vNt_g (fun y y0 y1 => by show X1 (262 + 6) (26 * 0 + 13 * n + y) = _; rw [show 26 * 0 + 13 * n + y = 13 * rn + y by omega]; exact es y y0 y1) v
  · exact vNt_g (fun y y0 y1 => eo (26 * 0 + 13 * n + y) (by omega)) (d n n0 (by rw [c] at n1; omega))
theorem gBk_c {rn : Nat} {s : (Int → Int) × Int} (d : gBk X) (hc : (rn : Int) ≤ X (1 + 2) 1) (c : X1 (1 + 2) 1 = max (X (1 + 2) 1) (rn + 1)) (o : ∀ n : Nat, n < 2 → n ≠ rn → ∀ s : Nat, s ≤ 5 → X1 (1 + 8 + 8 * n + s) = X (1 + 8 + 8 * n + s))
    (w0 : X1 (1 + 8 + 8 * rn) 0 = X 142 0) (w1 : ∀ s : Nat, 1 ≤ s → s ≤ 4 → ∀ y : Int, 0 ≤ y → y < 15 → X1 (1 + 8 + 8 * rn + s) y = X (142 + s) y) (w5 : ∀ y : Int, 0 ≤ y → y < 135 → X1 (1 + 8 + 8 * rn + 5) y = X (142 + 5) y) (v : bV X 142) (h0 : X 142 0 ≤ 14) (h3 : ∀ k : Int, 0 ≤ k → k < 15 → 0 ≤ X 146 k ∧ X 146 k ≤ 3) (t : tBl X 142 s) (u : uBk X) (cc : X (1 + 2) 1 = X (262 + 5) (5 * 0 + 1))
    (es : ∀ y : Int, 0 ≤ y → y < 183 → X1 (262 + 7) (183 * rn + y) = s.1 y) (eo : ∀ y : Int, (y < 183 * rn ∨ 183 * rn + 183 ≤ y) → X1 (262 + 7) y = X (262 + 7) y) : gBk X1 := fun n hn => by
  by_cases q : n = rn
  · subst q
    refine ⟨bV_c w1 w5 v, fun _ => ?_⟩
    have e0 : X1 (1 + 8 + 8 * n) 0 = s.1 0 := w0.trans t.1.1
    have t0 : X 142 0 = s.1 0 := t.1.1
    refine ⟨by rw [e0, show 366 * 0 + 183 * (n : Int) = 183 * n + 0 by omega, es 0 (by decide) (by decide)], fun k k1 k2 => ?_⟩
    rw [e0] at k2
    obtain ⟨⟨t1, t2, t3, t4⟩, t5⟩ := t.2 k k1 k2
    refine ⟨⟨?_, ?_, ?_, ?_⟩, fun j w j0 j1 x0 x1 => ?_⟩
    · rw [w1 1 (by decide) (by decide) k (by omega) (by omega), show 366 * 0 + 183 * (n : Int) + 1 + 13 * (k - 1) + 0 = 183 * n + (1 + 13 * (k - 1)) by omega, es _ (by omega) (by omega)]
      exact t1
    · rw [w1 2 (by decide) (by decide) k (by omega) (by omega), show 366 * 0 + 183 * (n : Int) + 1 + 13 * (k - 1) + 1 = 183 * n + (1 + 13 * (k - 1) + 1) by omega, es _ (by omega) (by omega)]
      exact t2
    · rw [w1 3 (by decide) (by decide) k (by omega) (by omega), show 366 * 0 + 183 * (n : Int) + 1 + 13 * (k - 1) + 2 = 183 * n + (1 + 13 * (k - 1) + 2) by omega, es _ (by omega) (by omega)]
      exact t3
    · rw [w1 4 (by decide) (by decide) k (by omega) (by omega), show 366 * 0 + 183 * (n : Int) + 1 + 13 * (k - 1) + 3 = 183 * n + (1 + 13 * (k - 1) + 3) by omega, es _ (by omega) (by omega)]
      exact t4
    · rw [w1 4 (by decide) (by decide) k (by omega) (by omega)] at j1
      have g3 : X (142 + 4) k ≤ 3 := (h3 k (by omega) (by omega)).2
      rw [w5 _ (by omega) (by omega), show 366 * 0 + 183 * (n : Int) + 1 + 13 * (k - 1) + (4 + 3 * j + w) = 183 * n + (1 + 13 * (k - 1) + (4 + 3 * j + w)) by omega, es _ (by omega) (by omega)]
      exact t5 j w j0 j1 x0 x1
  · have O := o n hn q
    have o0 : X1 (1 + 8 + 8 * n) = X (1 + 8 + 8 * n) := O 0 (by decide)
    refine ⟨?_, fun g => ?_⟩
    · unfold bV pyP
      rw [O 2 (by decide), O 4 (by decide), O 5 (by decide)]
      exact (d n hn).1
    · have g1 : (n : Int) < X (1 + 2) 1 := by rw [c] at g; omega
      obtain ⟨d0, dk⟩ := (d n hn).2 g1
      obtain ⟨⟨u0, u1⟩, uk⟩ := u n (by omega) (by omega)
      have u1 : X (262 + 7) (366 * 0 + 183 * (n : Int) + 0) ≤ 14 := u1
      rw [show 366 * 0 + 183 * (n : Int) + 0 = 366 * 0 + 183 * (n : Int) by omega] at u1
      refine ⟨by rw [o0, eo _ (by omega)]; exact d0, fun k k1 k2 => ?_⟩
      rw [o0] at k2
      obtain ⟨⟨d1, d2, d3, d4⟩, d5⟩ := dk k k1 k2
      have k14 : k ≤ 14 := by omega
      refine ⟨⟨?_, ?_, ?_, ?_⟩, fun j w j0 j1 x0 x1 => ?_⟩
      · rw [O 1 (by decide), eo _ (by omega)]; exact d1
      · rw [O 2 (by decide), eo _ (by omega)]; exact d2
      · rw [O 3 (by decide), eo _ (by omega)]; exact d3
      · rw [O 4 (by decide), eo _ (by omega)]; exact d4
      · rw [O 4 (by decide)] at j1
        have g3 : X (262 + 7) (366 * 0 + 183 * (n : Int) + (1 + 13 * (k - 1) + 3)) ≤ 3 := (uk k k1 (by show k ≤ X (262 + 7) (366 * 0 + 183 * (n : Int) + 0); rw [show 366 * 0 + 183 * (n : Int) + 0 = 366 * 0 + 183 * (n : Int) by omega]; omega)).2.2.2.1.2
        rw [show 366 * 0 + 183 * (n : Int) + (1 + 13 * (k - 1) + 3) = 366 * 0 + 183 * (n : Int) + 1 + 13 * (k - 1) + 3 by omega] at g3
        rw [O 5 (by decide), eo _ (by omega)]
        exact d5 j w j0 j1 x0 x1
theorem uBk_c {rn : Nat} {s : (Int → Int) × Int} (d : uBk X) (hc : (rn : Int) ≤ X (262 + 5) (5 * 0 + 1)) (c : X1 (262 + 5) (5 * 0 + 1) = max (X (262 + 5) (5 * 0 + 1)) (rn + 1)) (v : vCc s.1)
    (es : ∀ y : Int, 0 ≤ y → y < 183 → X1 (262 + 7) (183 * rn + y) = s.1 y) (eo : ∀ y : Int, (y < 183 * rn ∨ 183 * rn + 183 ≤ y) → X1 (262 + 7) y = X (262 + 7) y) : uBk X1 := fun n n0 n1 => by
  by_cases q : n = rn
  · exact vCc_g (fun y y0 y1 => by show X1 (262 + 7) (366 * 0 + 183 * n + y) = _; rw [show 366 * 0 + 183 * n + y = 183 * rn + y by omega]; exact es y y0 y1) v
  · exact vCc_g (fun y y0 y1 => eo (366 * 0 + 183 * n + y) (by omega)) (d n n0 (by rw [c] at n1; omega))

def gFd (X : Nat → Int → Int) : Prop := ∀ n : Nat, n < 2 → rowV X (1 + 22 + 2 * n) 2 40 80 ∧ ((n : Int) < X (1 + 2) 2 → rowR X (262 + 8) (162 * 0 + 81 * n) 2 X (1 + 22 + 2 * n))
def uFd (X : Nat → Int → Int) : Prop := ∀ n : Int, 0 ≤ n → n < X (262 + 5) (5 * 0 + 2) → vFd (fun y => X (262 + 8) (162 * 0 + 81 * n + y))
theorem gFd_k (d : gFd X) (c : X1 (1 + 2) 2 = X (1 + 2) 2) (e : ∀ n : Nat, n < 2 → X1 (1 + 22 + 2 * n) = X (1 + 22 + 2 * n) ∧ X1 (1 + 22 + 2 * n + 1) = X (1 + 22 + 2 * n + 1)) (eZ : X1 (262 + 8) = X (262 + 8)) : gFd X1 := fun n hn => by
  unfold rowV oRw rowR
  rw [c, (e n hn).1, (e n hn).2, eZ]
  exact d n hn
theorem uFd_k (d : uFd X) (c : X1 (262 + 5) (5 * 0 + 2) = X (262 + 5) (5 * 0 + 2)) (eZ : X1 (262 + 8) = X (262 + 8)) : uFd X1 := fun n n0 n1 => by
  rw [eZ]
  rw [c] at n1
  exact d n n0 n1
theorem gFd_c {rn : Nat} {s : (Int → Int) × Int} (hr : rn < 2) (d : gFd X) (hc : (rn : Int) ≤ X (1 + 2) 2) (c : X1 (1 + 2) 2 = max (X (1 + 2) 2) (rn + 1)) (o : ∀ n : Nat, n < 2 → n ≠ rn → X1 (1 + 22 + 2 * n) = X (1 + 22 + 2 * n) ∧ X1 (1 + 22 + 2 * n + 1) = X (1 + 22 + 2 * n + 1))
    (w2 : X1 (1 + 22 + 2 * rn) 2 = X 151 2) (ws : ∀ s : Int, s ≠ 2 → X1 (1 + 22 + 2 * rn) s = X (1 + 22 + 2 * rn) s) (wn : ∀ y : Int, 0 ≤ y → y < 80 → X1 (1 + 22 + 2 * rn + 1) y = X (151 + 1) y) (v : rowV X 151 2 40 80) (t : tRw X 151 2 s) (u : uFd X) (cc : X (1 + 2) 2 = X (262 + 5) (5 * 0 + 2))
    (es : ∀ y : Int, 0 ≤ y → y < 81 → X1 (262 + 8) (81 * rn + y) = s.1 y) (eo : ∀ y : Int, (y < 81 * rn ∨ 81 * rn + 81 ≤ y) → X1 (262 + 8) y = X (262 + 8) y) : gFd X1 := fun n hn => by
  by_cases q : n = rn
  · subst q
    obtain ⟨⟨c1, c2, c3, c4⟩, c5, c6⟩ := (d n hr).1
    obtain ⟨⟨f1, f2, f3, f4⟩, f5, f6⟩ := v
    refine ⟨⟨⟨by rw [ws 0 (by decide)]; exact c1, by rw [w2, ws 1 (by decide)]; omega, by rw [ws 1 (by decide)]; exact c3, by rw [ws 0 (by decide), ws 1 (by decide)]; exact c4⟩, by rw [ws 0 (by decide)]; exact c5, by rw [ws 1 (by decide)]; exact c6⟩, fun _ => ?_⟩
    have t0 : X 151 2 = s.1 0 := t.1
    refine ⟨by rw [w2, show 162 * 0 + 81 * (n : Int) = 81 * n + 0 by omega, es 0 (by decide) (by decide)]; exact t0, fun k w k0 k1 w0 w1 => ?_⟩
    rw [w2] at k1
    rw [wn _ (by omega) (by omega), show 162 * 0 + 81 * (n : Int) + 1 + 2 * k + w = 81 * n + (1 + 2 * k + w) by omega, es _ (by omega) (by omega)]
    exact t.2 k w k0 k1 w0 w1
  · obtain ⟨o1, o2⟩ := o n hn q
    refine ⟨by unfold rowV oRw; rw [o1]; exact (d n hn).1, fun g => ?_⟩
    have g1 : (n : Int) < X (1 + 2) 2 := by rw [c] at g; omega
    obtain ⟨d1, d2⟩ := (d n hn).2 g1
    obtain ⟨⟨f1, f2, f3, f4⟩, f5, f6⟩ := (d n hn).1
    refine ⟨by rw [o1, eo _ (by omega)]; exact d1, fun k w k0 k1 w0 w1 => ?_⟩
    rw [o1] at k1
    rw [o2, eo _ (by omega)]
    exact d2 k w k0 k1 w0 w1
theorem uFd_c {rn : Nat} {s : (Int → Int) × Int} (d : uFd X) (hc : (rn : Int) ≤ X (262 + 5) (5 * 0 + 2)) (c : X1 (262 + 5) (5 * 0 + 2) = max (X (262 + 5) (5 * 0 + 2)) (rn + 1)) (v : vFd s.1)
    (es : ∀ y : Int, 0 ≤ y → y < 81 → X1 (262 + 8) (81 * rn + y) = s.1 y) (eo : ∀ y : Int, (y < 81 * rn ∨ 81 * rn + 81 ≤ y) → X1 (262 + 8) y = X (262 + 8) y) : uFd X1 := fun n n0 n1 => by
  by_cases q : n = rn
  · exact vFd_g (fun y y0 y1 => by show X1 (262 + 8) (162 * 0 + 81 * n + y) = _; rw [show 162 * 0 + 81 * n + y = 81 * rn + y by omega]; exact es y y0 y1) v
  · exact vFd_g (fun y y0 y1 => eo (162 * 0 + 81 * n + y) (by omega)) (d n n0 (by rw [c] at n1; omega))
def gLg (X : Nat → Int → Int) : Prop := ∀ n : Nat, n < 2 → rowV X (1 + 26 + 2 * n) 2 8 16 ∧ ((n : Int) < X (1 + 2) 3 → rowR X (262 + 9) (34 * 0 + 17 * n) 2 X (1 + 26 + 2 * n))
def uLg (X : Nat → Int → Int) : Prop := ∀ n : Int, 0 ≤ n → n < X (262 + 5) (5 * 0 + 3) → vLg (fun y => X (262 + 9) (34 * 0 + 17 * n + y))
theorem gLg_k (d : gLg X) (c : X1 (1 + 2) 3 = X (1 + 2) 3) (e : ∀ n : Nat, n < 2 → X1 (1 + 26 + 2 * n) = X (1 + 26 + 2 * n) ∧ X1 (1 + 26 + 2 * n + 1) = X (1 + 26 + 2 * n + 1)) (eZ : X1 (262 + 9) = X (262 + 9)) : gLg X1 := fun n hn => by
  unfold rowV oRw rowR
  rw [c, (e n hn).1, (e n hn).2, eZ]
  exact d n hn
theorem uLg_k (d : uLg X) (c : X1 (262 + 5) (5 * 0 + 3) = X (262 + 5) (5 * 0 + 3)) (eZ : X1 (262 + 9) = X (262 + 9)) : uLg X1 := fun n n0 n1 => by
  rw [eZ]
  rw [c] at n1
  exact d n n0 n1
theorem gLg_c {rn : Nat} {s : (Int → Int) × Int} (hr : rn < 2) (d : gLg X) (hc : (rn : Int) ≤ X (1 + 2) 3) (c : X1 (1 + 2) 3 = max (X (1 + 2) 3) (rn + 1)) (o : ∀ n : Nat, n < 2 → n ≠ rn → X1 (1 + 26 + 2 * n) = X (1 + 26 + 2 * n) ∧ X1 (1 + 26 + 2 * n + 1) = X (1 + 26 + 2 * n + 1))
    (w2 : X1 (1 + 26 + 2 * rn) 2 = X 153 2) (ws : ∀ s : Int, s ≠ 2 → X1 (1 + 26 + 2 * rn) s = X (1 + 26 + 2 * rn) s) (wn : ∀ y : Int, 0 ≤ y → y < 16 → X1 (1 + 26 + 2 * rn + 1) y = X (153 + 1) y) (v : rowV X 153 2 8 16) (t : tRw X 153 2 s) (u : uLg X) (cc : X (1 + 2) 3 = X (262 + 5) (5 * 0 + 3))
    (es : ∀ y : Int, 0 ≤ y → y < 17 → X1 (262 + 9) (17 * rn + y) = s.1 y) (eo : ∀ y : Int, (y < 17 * rn ∨ 17 * rn + 17 ≤ y) → X1 (262 + 9) y = X (262 + 9) y) : gLg X1 := fun n hn => by
  by_cases q : n = rn
  · subst q
    obtain ⟨⟨c1, c2, c3, c4⟩, c5, c6⟩ := (d n hr).1
    obtain ⟨⟨f1, f2, f3, f4⟩, f5, f6⟩ := v
    refine ⟨⟨⟨by rw [ws 0 (by decide)]; exact c1, by rw [w2, ws 1 (by decide)]; omega, by rw [ws 1 (by decide)]; exact c3, by rw [ws 0 (by decide), ws 1 (by decide)]; exact c4⟩, by rw [ws 0 (by decide)]; exact c5, by rw [ws 1 (by decide)]; exact c6⟩, fun _ => ?_⟩
    have t0 : X 153 2 = s.1 0 := t.1
    refine ⟨by rw [w2, show 34 * 0 + 17 * (n : Int) = 17 * n + 0 by omega, es 0 (by decide) (by decide)]; exact t0, fun k w k0 k1 w0 w1 => ?_⟩
    rw [w2] at k1
    rw [wn _ (by omega) (by omega), show 34 * 0 + 17 * (n : Int) + 1 + 2 * k + w = 17 * n + (1 + 2 * k + w) by omega, es _ (by omega) (by omega)]
    exact t.2 k w k0 k1 w0 w1
  · obtain ⟨o1, o2⟩ := o n hn q
    refine ⟨by unfold rowV oRw; rw [o1]; exact (d n hn).1, fun g => ?_⟩
    have g1 : (n : Int) < X (1 + 2) 3 := by rw [c] at g; omega
    obtain ⟨d1, d2⟩ := (d n hn).2 g1
    obtain ⟨⟨f1, f2, f3, f4⟩, f5, f6⟩ := (d n hn).1
    refine ⟨by rw [o1, eo _ (by omega)]; exact d1, fun k w k0 k1 w0 w1 => ?_⟩
    rw [o1] at k1
    rw [o2, eo _ (by omega)]
    exact d2 k w k0 k1 w0 w1
theorem uLg_c {rn : Nat} {s : (Int → Int) × Int} (d : uLg X) (hc : (rn : Int) ≤ X (262 + 5) (5 * 0 + 3)) (c : X1 (262 + 5) (5 * 0 + 3) = max (X (262 + 5) (5 * 0 + 3)) (rn + 1)) (v : vLg s.1)
    (es : ∀ y : Int, 0 ≤ y → y < 17 → X1 (262 + 9) (17 * rn + y) = s.1 y) (eo : ∀ y : Int, (y < 17 * rn ∨ 17 * rn + 17 ≤ y) → X1 (262 + 9) y = X (262 + 9) y) : uLg X1 := fun n n0 n1 => by
  by_cases q : n = rn
  · exact vLg_g (fun y y0 y1 => by show X1 (262 + 9) (34 * 0 + 17 * n + y) = _; rw [show 34 * 0 + 17 * n + y = 17 * rn + y by omega]; exact es y y0 y1) v
  · exact vLg_g (fun y y0 y1 => eo (34 * 0 + 17 * n + y) (by omega)) (d n n0 (by rw [c] at n1; omega))
def gPo (X : Nat → Int → Int) : Prop := ∀ n : Nat, n < 2 → rowV X (1 + 30 + 2 * n) 4 6 24 ∧ ((n : Int) < X (1 + 2) 4 → rowR X (262 + 10) (50 * 0 + 25 * n) 4 X (1 + 30 + 2 * n))
def uPo (X : Nat → Int → Int) : Prop := ∀ n : Int, 0 ≤ n → n < X (262 + 5) (5 * 0 + 4) → vPo (fun y => X (262 + 10) (50 * 0 + 25 * n + y))
theorem gPo_k (d : gPo X) (c : X1 (1 + 2) 4 = X (1 + 2) 4) (e : ∀ n : Nat, n < 2 → X1 (1 + 30 + 2 * n) = X (1 + 30 + 2 * n) ∧ X1 (1 + 30 + 2 * n + 1) = X (1 + 30 + 2 * n + 1)) (eZ : X1 (262 + 10) = X (262 + 10)) : gPo X1 := fun n hn => by
  unfold rowV oRw rowR
  rw [c, (e n hn).1, (e n hn).2, eZ]
  exact d n hn
theorem uPo_k (d : uPo X) (c : X1 (262 + 5) (5 * 0 + 4) = X (262 + 5) (5 * 0 + 4)) (eZ : X1 (262 + 10) = X (262 + 10)) : uPo X1 := fun n n0 n1 => by
  rw [eZ]
  rw [c] at n1
  exact d n n0 n1
theorem gPo_c {rn : Nat} {s : (Int → Int) × Int} (hr : rn < 2) (d : gPo X) (hc : (rn : Int) ≤ X (1 + 2) 4) (c : X1 (1 + 2) 4 = max (X (1 + 2) 4) (rn + 1)) (o : ∀ n : Nat, n < 2 → n ≠ rn → X1 (1 + 30 + 2 * n) = X (1 + 30 + 2 * n) ∧ X1 (1 + 30 + 2 * n + 1) = X (1 + 30 + 2 * n + 1))
    (w2 : X1 (1 + 30 + 2 * rn) 2 = X 155 2) (ws : ∀ s : Int, s ≠ 2 → X1 (1 + 30 + 2 * rn) s = X (1 + 30 + 2 * rn) s) (wn : ∀ y : Int, 0 ≤ y → y < 24 → X1 (1 + 30 + 2 * rn + 1) y = X (155 + 1) y) (v : rowV X 155 4 6 24) (t : tRw X 155 4 s) (u : uPo X) (cc : X (1 + 2) 4 = X (262 + 5) (5 * 0 + 4))
    (es : ∀ y : Int, 0 ≤ y → y < 25 → X1 (262 + 10) (25 * rn + y) = s.1 y) (eo : ∀ y : Int, (y < 25 * rn ∨ 25 * rn + 25 ≤ y) → X1 (262 + 10) y = X (262 + 10) y) : gPo X1 := fun n hn => by
  by_cases q : n = rn
  · subst q
    obtain ⟨⟨c1, c2, c3, c4⟩, c5, c6⟩ := (d n hr).1
    obtain ⟨⟨f1, f2, f3, f4⟩, f5, f6⟩ := v
    refine ⟨⟨⟨by rw [ws 0 (by decide)]; exact c1, by rw [w2, ws 1 (by decide)]; omega, by rw [ws 1 (by decide)]; exact c3, by rw [ws 0 (by decide), ws 1 (by decide)]; exact c4⟩, by rw [ws 0 (by decide)]; exact c5, by rw [ws 1 (by decide)]; exact c6⟩, fun _ => ?_⟩
    have t0 : X 155 2 = s.1 0 := t.1
    refine ⟨by rw [w2, show 50 * 0 + 25 * (n : Int) = 25 * n + 0 by omega, es 0 (by decide) (by decide)]; exact t0, fun k w k0 k1 w0 w1 => ?_⟩
    rw [w2] at k1
    rw [wn _ (by omega) (by omega), show 50 * 0 + 25 * (n : Int) + 1 + 4 * k + w = 25 * n + (1 + 4 * k + w) by omega, es _ (by omega) (by omega)]
    exact t.2 k w k0 k1 w0 w1
  · obtain ⟨o1, o2⟩ := o n hn q
    refine ⟨by unfold rowV oRw; rw [o1]; exact (d n hn).1, fun g => ?_⟩
    have g1 : (n : Int) < X (1 + 2) 4 := by rw [c] at g; omega
    obtain ⟨d1, d2⟩ := (d n hn).2 g1
    obtain ⟨⟨f1, f2, f3, f4⟩, f5, f6⟩ := (d n hn).1
    refine ⟨by rw [o1, eo _ (by omega)]; exact d1, fun k w k0 k1 w0 w1 => ?_⟩
    rw [o1] at k1
    rw [o2, eo _ (by omega)]
    exact d2 k w k0 k1 w0 w1
theorem uPo_c {rn : Nat} {s : (Int → Int) × Int} (d : uPo X) (hc : (rn : Int) ≤ X (262 + 5) (5 * 0 + 4)) (c : X1 (262 + 5) (5 * 0 + 4) = max (X (262 + 5) (5 * 0 + 4)) (rn + 1)) (v : vPo s.1)
    (es : ∀ y : Int, 0 ≤ y → y < 25 → X1 (262 + 10) (25 * rn + y) = s.1 y) (eo : ∀ y : Int, (y < 25 * rn ∨ 25 * rn + 25 ≤ y) → X1 (262 + 10) y = X (262 + 10) y) : uPo X1 := fun n n0 n1 => by
  by_cases q : n = rn
  · exact vPo_g (fun y y0 y1 => by show X1 (262 + 10) (50 * 0 + 25 * n + y) = _; rw [show 50 * 0 + 25 * n + y = 25 * rn + y by omega]; exact es y y0 y1) v
  · exact vPo_g (fun y y0 y1 => eo (50 * 0 + 25 * n + y) (by omega)) (d n n0 (by rw [c] at n1; omega))
end TXR
theorem LI_row0 {X Xa X1 X4 : Nat → Int → Int} {rn : Nat} {s : (Int → Int) × Int} (h : LI X) (hr : rn < 2) (hc : (rn : Int) ≤ X 267 0) (v : vTd 0 s) (t : toldR X 139 0 s) (ea : ∀ z, z < 157 → Xa z = X z) (tk : tkP 0 (rn : Int) Xa X4 1 139) (e0 : ∀ z, z < 157 → X1 z = zU X4 3 0 (max (X 3 0) ((rn : Int) + 1)) z) (e : ∀ z, 157 ≤ z → z ≠ 267 → z ≠ 268 → X1 z = X z) (e7 : (∀ u : Int, u ≠ 0 → X1 267 u = X 267 u) ∧ X1 267 0 = max (X 267 0) ((rn : Int) + 1))
    (es : ∀ y : Int, 0 ≤ y → y < 13 → X1 268 (13 * rn + y) = s.1 y) (eo : ∀ y : Int, (y < 13 * rn ∨ 13 * rn + 13 ≤ y) → X1 268 y = X 268 y) : LI X1 := by
  have er : ((rn : Nat) : Int).toNat = rn := by omega
  have tk := tk.1 rfl
  rw [er] at tk
  obtain ⟨tf, tw1, tw2⟩ := tk
  have tw1 := fun w w0 w6 => (tw1 w w0 w6).trans (congrFun (ea _ (by omega)) _)
  have tw2 := fun y y0 y1 => (tw2 y y0 y1).trans (congrFun (ea _ (by omega)) _)
  have k : ∀ z, z < 157 → z ≠ 3 → z ≠ 1 + 6 + 8 * rn → z ≠ 1 + 6 + 8 * rn + 1 → X1 z = X z := fun z z0 z1 z2 z3 => by rw [e0 z z0, zU_o z1]; exact (tf z z2 z3).trans (ea z z0)
  have x4 : X4 3 = X 3 := (tf 3 (by omega) (by omega)).trans (ea 3 (by decide))
  have x3 : ∀ u : Int, u ≠ 0 → X1 (1 + 2) u = X (1 + 2) u := fun u hu => by rw [e0 (1 + 2) (by decide)]; show zU X4 3 _ _ 3 u = X 3 u; rw [zU_n (fun q => hu q.2), x4]
  have x3a : X1 (1 + 2) 0 = max (X (1 + 2) 0) ((rn : Int) + 1) := by rw [e0 (1 + 2) (by decide)]; show zU X4 3 _ _ 3 0 = _; rw [zU_s]
  have x7 : ∀ u : Int, u ≠ 0 → X1 (262 + 5) u = X (262 + 5) u := fun u hu => e7.1 u hu
  have x7a : X1 (262 + 5) (5 * 0 + 0) = max (X (262 + 5) (5 * 0 + 0)) ((rn : Int) + 1) := e7.2
  obtain ⟨⟨⟨dh, dtp, dc, dn, db, df, dl, dp⟩, l2⟩, li, lw, ⟨b0, b1, b2⟩, ls, ⟨lr, ll⟩, lc⟩ := h
  obtain ⟨u0, un, ub, uf, ul, up⟩ := l2
  have cc : X (1 + 2) 0 = X (262 + 5) (5 * 0 + 0) := dc 0 (by decide) (by decide)
  have h2 := u0 0 (by decide) (by decide)
  have hc : (rn : Int) ≤ X (1 + 2) 0 := by rw [cc]; exact hc
  have gM : ∀ m : Int, 1 ≤ m → cpM X X1 262 m m := fun m m1 o o1 o2 y y0 y1 => by
    by_cases q5 : o = 5
    · subst q5
      have y1 : y < 5 := y1
      exact x7 (5 * m + y) (by omega)
    by_cases q6 : o = 6
    · subst q6
      have y1 : y < 26 := y1
      exact eo (26 * m + y) (by omega)
    rw [e (262 + o) (by omega) (by omega) (by omega)]
  have o9 : ∀ z, z < 157 → z ≠ 3 → X1 z = X4 z := fun z z0 z1 => by rw [e0 z z0, zU_o z1]
  have gNt1 : gNt X1 := gNt_c dn hc x3a (fun n hn hq => ⟨k (1 + 6 + 8 * n) (by omega) (by omega) (by omega) (by omega), k (1 + 6 + 8 * n + 1) (by omega) (by omega) (by omega) (by omega)⟩) (fun w w0 w6 => by rw [o9 _ (by omega) (by omega)]; exact tw1 w w0 w6) (fun y y0 y1 => by rw [o9 _ (by omega) (by omega)]; exact tw2 y y0 y1) lr.1.2 lr.1.1.2 t un cc es eo
  have uNt1 : uNt X1 := uNt_c un (by rw [← cc]; exact hc) x7a v es eo
  have gBk1 : gBk X1 := gBk_k db (x3 1 (by decide)) (fun n hn s hs => k (1 + 8 + 8 * n + s) (by omega) (by omega) (by omega) (by omega)) (e (262 + 7) (by decide) (by decide) (by decide))
  have uBk1 : uBk X1 := uBk_k ub (x7 (5 * 0 + 1) (by decide)) (e (262 + 7) (by decide) (by decide) (by decide))
  have gFd1 : gFd X1 := gFd_k df (x3 2 (by decide)) (fun n hn => ⟨k (1 + 22 + 2 * n) (by omega) (by omega) (by omega) (by omega), k (1 + 22 + 2 * n + 1) (by omega) (by omega) (by omega) (by omega)⟩) (e (262 + 8) (by decide) (by decide) (by decide))
  have uFd1 : uFd X1 := uFd_k uf (x7 (5 * 0 + 2) (by decide)) (e (262 + 8) (by decide) (by decide) (by decide))
  have gLg1 : gLg X1 := gLg_k dl (x3 3 (by decide)) (fun n hn => ⟨k (1 + 26 + 2 * n) (by omega) (by omega) (by omega) (by omega), k (1 + 26 + 2 * n + 1) (by omega) (by omega) (by omega) (by omega)⟩) (e (262 + 9) (by decide) (by decide) (by decide))
  have uLg1 : uLg X1 := uLg_k ul (x7 (5 * 0 + 3) (by decide)) (e (262 + 9) (by decide) (by decide) (by decide))
  have gPo1 : gPo X1 := gPo_k dp (x3 4 (by decide)) (fun n hn => ⟨k (1 + 30 + 2 * n) (by omega) (by omega) (by omega) (by omega), k (1 + 30 + 2 * n + 1) (by omega) (by omega) (by omega) (by omega)⟩) (e (262 + 10) (by decide) (by decide) (by decide))
  have uPo1 : uPo X1 := uPo_k up (x7 (5 * 0 + 4) (by decide)) (e (262 + 10) (by decide) (by decide) (by decide))
  refine ⟨⟨⟨⟨?_, ?_, ?_⟩, fun y y0 y1 => ?_, fun u u0 u5 => ?_, gNt1, gBk1, gFd1, gLg1, gPo1⟩, ⟨fun u q0 q5 => ?_, uNt1, uBk1, uFd1, uLg1, uPo1⟩⟩, fun z hz => ?_, fun z hz n hn => ?_, ⟨?_, fun z hz => ?_, ?_⟩, ?_, ⟨rdV_e (fun z _ _ => k (z) (by omega) (by omega) (by omega) (by omega)) lr, ?_⟩, chI_e lc ⟨e _ (by decide) (by decide) (by decide), e _ (by decide) (by decide) (by decide)⟩⟩
  · rw [k (1) (by omega) (by omega) (by omega) (by omega), e (262 + 2) (by decide) (by decide) (by decide)]
    exact dh.1
  · rw [k (1) (by omega) (by omega) (by omega) (by omega), e (262 + 3) (by decide) (by decide) (by decide)]
    exact dh.2.1
  · rw [k (1) (by omega) (by omega) (by omega) (by omega), e (262 + 4) (by decide) (by decide) (by decide)]
    exact dh.2.2
  · rw [k (1 + 1) (by omega) (by omega) (by omega) (by omega), e (262 + 1) (by decide) (by decide) (by decide)]
    exact dtp y y0 y1
  · by_cases q : u = 0
    · rw [q, x3a, x7a, cc]
    · rw [x3 u q, x7 (5 * 0 + u) (by omega)]
      exact dc u u0 u5
  · by_cases q : u = 0
    · rw [q, x7a]
      omega
    · rw [x7 (5 * 0 + u) (by omega)]
      exact u0 u q0 q5
  · rw [k (138) (by omega) (by omega) (by omega) (by omega), e 287 (by decide) (by decide) (by decide)]
    refine ⟨(li z hz).1, fun g => ?_⟩
    obtain ⟨td, vd⟩ := (li z hz).2 g
    have gz := gM ((z : Int) + 1) (by omega)
    exact ⟨tdR_cp (cpQ_rf fun z _ _ => k (z) (by omega) (by omega) (by omega) (by omega)) gz vd td, vAll_cp gz vd⟩
  · rw [k (36 + 34 * z + 22 + 2 * n) (by omega) (by omega) (by omega) (by omega), k (36 + 34 * z + 26 + 2 * n) (by omega) (by omega) (by omega) (by omega), k (36 + 34 * z + 30 + 2 * n) (by omega) (by omega) (by omega) (by omega)]
    exact lw z hz n hn
  · rw [k (2) (by omega) (by omega) (by omega) (by omega)]
    exact b0
  · rw [k (36 + 34 * z + 1) (by omega) (by omega) (by omega) (by omega)]
    exact b1 z hz
  · intro y y0 y1
    rw [e (262 + 1) (by decide) (by decide) (by decide)]
    exact b2 y y0 y1
  · rw [e 264 (by decide) (by decide) (by decide)]
    exact ls
  · exact lnV_e ll (k (139 + 11) (by omega) (by omega) (by omega) (by omega))
theorem LI_row1 {X Xa X1 X4 : Nat → Int → Int} {rn : Nat} {s : (Int → Int) × Int} (h : LI X) (hr : rn < 2) (hc : (rn : Int) ≤ X 267 1) (v : vTd 1 s) (t : toldR X 139 1 s) (ea : ∀ z, z < 157 → Xa z = X z) (tk : tkP 1 (rn : Int) Xa X4 1 139) (e0 : ∀ z, z < 157 → X1 z = zU X4 3 1 (max (X 3 1) ((rn : Int) + 1)) z) (e : ∀ z, 157 ≤ z → z ≠ 267 → z ≠ 269 → X1 z = X z) (e7 : (∀ u : Int, u ≠ 1 → X1 267 u = X 267 u) ∧ X1 267 1 = max (X 267 1) ((rn : Int) + 1))
    (es : ∀ y : Int, 0 ≤ y → y < 183 → X1 269 (183 * rn + y) = s.1 y) (eo : ∀ y : Int, (y < 183 * rn ∨ 183 * rn + 183 ≤ y) → X1 269 y = X 269 y) : LI X1 := by
  have er : ((rn : Nat) : Int).toNat = rn := by omega
  have tk := tk.2.1 rfl
  rw [er] at tk
  obtain ⟨tf, tw0, tw1, tw2⟩ := tk
  have tw0 := tw0.trans (congrFun (ea _ (by omega)) _)
  have tw1 : ∀ s : Nat, 1 ≤ s → s ≤ 4 → ∀ y : Int, 0 ≤ y → y < 15 → X4 (1 + 8 + 8 * rn + s) y = X (142 + s) y := fun s s1 s4 y y0 y1 => (tw1 s s1 s4 y y0 y1).trans (congrFun (ea _ (by omega)) _)
  have tw2 := fun y y0 y1 => (tw2 y y0 y1).trans (congrFun (ea _ (by omega)) _)
  have k : ∀ z, z < 157 → z ≠ 3 → (z < 1 + 8 + 8 * rn ∨ 1 + 8 + 8 * rn + 5 < z) → X1 z = X z := fun z z0 z1 z2 => by rw [e0 z z0, zU_o z1]; exact (tf z z2).trans (ea z z0)
  have x4 : X4 3 = X 3 := (tf 3 (by omega)).trans (ea 3 (by decide))
  have x3 : ∀ u : Int, u ≠ 1 → X1 (1 + 2) u = X (1 + 2) u := fun u hu => by rw [e0 (1 + 2) (by decide)]; show zU X4 3 _ _ 3 u = X 3 u; rw [zU_n (fun q => hu q.2), x4]
  have x3a : X1 (1 + 2) 1 = max (X (1 + 2) 1) ((rn : Int) + 1) := by rw [e0 (1 + 2) (by decide)]; show zU X4 3 _ _ 3 1 = _; rw [zU_s]
  have x7 : ∀ u : Int, u ≠ 1 → X1 (262 + 5) u = X (262 + 5) u := fun u hu => e7.1 u hu
  have x7a : X1 (262 + 5) (5 * 0 + 1) = max (X (262 + 5) (5 * 0 + 1)) ((rn : Int) + 1) := e7.2
  obtain ⟨⟨⟨dh, dtp, dc, dn, db, df, dl, dp⟩, l2⟩, li, lw, ⟨b0, b1, b2⟩, ls, ⟨lr, ll⟩, lc⟩ := h
  obtain ⟨u0, un, ub, uf, ul, up⟩ := l2
  have cc : X (1 + 2) 1 = X (262 + 5) (5 * 0 + 1) := dc 1 (by decide) (by decide)
  have h2 := u0 1 (by decide) (by decide)
  have hc : (rn : Int) ≤ X (1 + 2) 1 := by rw [cc]; exact hc
  have gM : ∀ m : Int, 1 ≤ m → cpM X X1 262 m m := fun m m1 o o1 o2 y y0 y1 => by
    by_cases q5 : o = 5
    · subst q5
      have y1 : y < 5 := y1
      exact x7 (5 * m + y) (by omega)
    by_cases q6 : o = 7
    · subst q6
      have y1 : y < 366 := y1
      exact eo (366 * m + y) (by omega)
    rw [e (262 + o) (by omega) (by omega) (by omega)]
  have gNt1 : gNt X1 := gNt_k dn (x3 0 (by decide)) (fun n hn => ⟨k (1 + 6 + 8 * n) (by omega) (by omega) (by omega), k (1 + 6 + 8 * n + 1) (by omega) (by omega) (by omega)⟩) (e (262 + 6) (by decide) (by decide) (by decide))
  have uNt1 : uNt X1 := uNt_k un (x7 (5 * 0 + 0) (by decide)) (e (262 + 6) (by decide) (by decide) (by decide))
  have o9 : ∀ z, z < 157 → z ≠ 3 → X1 z = X4 z := fun z z0 z1 => by rw [e0 z z0, zU_o z1]
  have gBk1 : gBk X1 := gBk_c db hc x3a (fun n hn hq s hs => k (1 + 8 + 8 * n + s) (by omega) (by omega) (by omega)) (by rw [o9 _ (by omega) (by omega)]; exact tw0) (fun s s1 s4 y y0 y1 => by rw [o9 _ (by omega) (by omega)]; exact tw1 s s1 s4 y y0 y1) (fun y y0 y1 => by rw [o9 _ (by omega) (by omega)]; exact tw2 y y0 y1) lr.2.1.2.1 lr.2.1.1.2 lr.2.1.2.2 t ub cc es eo
  have uBk1 : uBk X1 := uBk_c ub (by rw [← cc]; exact hc) x7a v.1 es eo
  have gFd1 : gFd X1 := gFd_k df (x3 2 (by decide)) (fun n hn => ⟨k (1 + 22 + 2 * n) (by omega) (by omega) (by omega), k (1 + 22 + 2 * n + 1) (by omega) (by omega) (by omega)⟩) (e (262 + 8) (by decide) (by decide) (by decide))
  have uFd1 : uFd X1 := uFd_k uf (x7 (5 * 0 + 2) (by decide)) (e (262 + 8) (by decide) (by decide) (by decide))
  have gLg1 : gLg X1 := gLg_k dl (x3 3 (by decide)) (fun n hn => ⟨k (1 + 26 + 2 * n) (by omega) (by omega) (by omega), k (1 + 26 + 2 * n + 1) (by omega) (by omega) (by omega)⟩) (e (262 + 9) (by decide) (by decide) (by decide))
  have uLg1 : uLg X1 := uLg_k ul (x7 (5 * 0 + 3) (by decide)) (e (262 + 9) (by decide) (by decide) (by decide))
  have gPo1 : gPo X1 := gPo_k dp (x3 4 (by decide)) (fun n hn => ⟨k (1 + 30 + 2 * n) (by omega) (by omega) (by omega), k (1 + 30 + 2 * n + 1) (by omega) (by omega) (by omega)⟩) (e (262 + 10) (by decide) (by decide) (by decide))
  have uPo1 : uPo X1 := uPo_k up (x7 (5 * 0 + 4) (by decide)) (e (262 + 10) (by decide) (by decide) (by decide))
  refine ⟨⟨⟨⟨?_, ?_, ?_⟩, fun y y0 y1 => ?_, fun u u0 u5 => ?_, gNt1, gBk1, gFd1, gLg1, gPo1⟩, ⟨fun u q0 q5 => ?_, uNt1, uBk1, uFd1, uLg1, uPo1⟩⟩, fun z hz => ?_, fun z hz n hn => ?_, ⟨?_, fun z hz => ?_, ?_⟩, ?_, ⟨rdV_e (fun z _ _ => k (z) (by omega) (by omega) (by omega)) lr, ?_⟩, chI_e lc ⟨e _ (by decide) (by decide) (by decide), e _ (by decide) (by decide) (by decide)⟩⟩
  · rw [k (1) (by omega) (by omega) (by omega), e (262 + 2) (by decide) (by decide) (by decide)]
    exact dh.1
  · rw [k (1) (by omega) (by omega) (by omega), e (262 + 3) (by decide) (by decide) (by decide)]
    exact dh.2.1
  · rw [k (1) (by omega) (by omega) (by omega), e (262 + 4) (by decide) (by decide) (by decide)]
    exact dh.2.2
  · rw [k (1 + 1) (by omega) (by omega) (by omega), e (262 + 1) (by decide) (by decide) (by decide)]
    exact dtp y y0 y1
  · by_cases q : u = 1
    · rw [q, x3a, x7a, cc]
    · rw [x3 u q, x7 (5 * 0 + u) (by omega)]
      exact dc u u0 u5
  · by_cases q : u = 1
    · rw [q, x7a]
      omega
    · rw [x7 (5 * 0 + u) (by omega)]
      exact u0 u q0 q5
  · rw [k (138) (by omega) (by omega) (by omega), e 287 (by decide) (by decide) (by decide)]
    refine ⟨(li z hz).1, fun g => ?_⟩
    obtain ⟨td, vd⟩ := (li z hz).2 g
    have gz := gM ((z : Int) + 1) (by omega)
    exact ⟨tdR_cp (cpQ_rf fun z _ _ => k (z) (by omega) (by omega) (by omega)) gz vd td, vAll_cp gz vd⟩
  · rw [k (36 + 34 * z + 22 + 2 * n) (by omega) (by omega) (by omega), k (36 + 34 * z + 26 + 2 * n) (by omega) (by omega) (by omega), k (36 + 34 * z + 30 + 2 * n) (by omega) (by omega) (by omega)]
    exact lw z hz n hn
  · rw [k (2) (by omega) (by omega) (by omega)]
    exact b0
  · rw [k (36 + 34 * z + 1) (by omega) (by omega) (by omega)]
    exact b1 z hz
  · intro y y0 y1
    rw [e (262 + 1) (by decide) (by decide) (by decide)]
    exact b2 y y0 y1
  · rw [e 264 (by decide) (by decide) (by decide)]
    exact ls
  · exact lnV_e ll (k (139 + 11) (by omega) (by omega) (by omega))
theorem LI_row2 {X Xa X1 X4 : Nat → Int → Int} {rn : Nat} {s : (Int → Int) × Int} (h : LI X) (hr : rn < 2) (hc : (rn : Int) ≤ X 267 2) (v : vTd 2 s) (t : toldR X 139 2 s) (ea : ∀ z, z < 157 → Xa z = X z) (tk : tkP 2 (rn : Int) Xa X4 1 139) (e0 : ∀ z, z < 157 → X1 z = zU X4 3 2 (max (X 3 2) ((rn : Int) + 1)) z) (e : ∀ z, 157 ≤ z → z ≠ 267 → z ≠ 270 → X1 z = X z) (e7 : (∀ u : Int, u ≠ 2 → X1 267 u = X 267 u) ∧ X1 267 2 = max (X 267 2) ((rn : Int) + 1))
    (es : ∀ y : Int, 0 ≤ y → y < 81 → X1 270 (81 * rn + y) = s.1 y) (eo : ∀ y : Int, (y < 81 * rn ∨ 81 * rn + 81 ≤ y) → X1 270 y = X 270 y) : LI X1 := by
  have er : ((rn : Nat) : Int).toNat = rn := by omega
  have tk := tk.2.2 (by decide)
  have en : (((2 : Int) - 2) * 2 + (rn : Int)).toNat = 0 + rn := by omega
  rw [en] at tk
  have rw9 : (rwN (((2 : Int) - 2) * 2 + (rn : Int)) : Int) = 80 := by
    unfold rwN
    repeat' split
    all_goals first | rfl | omega
  rw [rw9] at tk
  obtain ⟨tf, tw0, tw1, tw2⟩ := tk
  have tw0 := tw0.trans (congrFun (ea _ (by omega)) _)
  have tw1 := fun s hs => (tw1 s hs).trans (congrFun (ea _ (by omega)) _)
  have tw2 := fun y y0 y1 => (tw2 y y0 y1).trans (congrFun (ea _ (by omega)) _)
  have k : ∀ z, z < 157 → z ≠ 3 → z ≠ 1 + 22 + 2 * (0 + rn) → z ≠ 1 + 22 + 2 * (0 + rn) + 1 → X1 z = X z := fun z z0 z1 z2 z3 => by rw [e0 z z0, zU_o z1]; exact (tf z z2 z3).trans (ea z z0)
  have x4 : X4 3 = X 3 := (tf 3 (by omega) (by omega)).trans (ea 3 (by decide))
  have x3 : ∀ u : Int, u ≠ 2 → X1 (1 + 2) u = X (1 + 2) u := fun u hu => by rw [e0 (1 + 2) (by decide)]; show zU X4 3 _ _ 3 u = X 3 u; rw [zU_n (fun q => hu q.2), x4]
  have x3a : X1 (1 + 2) 2 = max (X (1 + 2) 2) ((rn : Int) + 1) := by rw [e0 (1 + 2) (by decide)]; show zU X4 3 _ _ 3 2 = _; rw [zU_s]
  have x7 : ∀ u : Int, u ≠ 2 → X1 (262 + 5) u = X (262 + 5) u := fun u hu => e7.1 u hu
  have x7a : X1 (262 + 5) (5 * 0 + 2) = max (X (262 + 5) (5 * 0 + 2)) ((rn : Int) + 1) := e7.2
  obtain ⟨⟨⟨dh, dtp, dc, dn, db, df, dl, dp⟩, l2⟩, li, lw, ⟨b0, b1, b2⟩, ls, ⟨lr, ll⟩, lc⟩ := h
  obtain ⟨u0, un, ub, uf, ul, up⟩ := l2
  have cc : X (1 + 2) 2 = X (262 + 5) (5 * 0 + 2) := dc 2 (by decide) (by decide)
  have h2 := u0 2 (by decide) (by decide)
  have hc : (rn : Int) ≤ X (1 + 2) 2 := by rw [cc]; exact hc
  have gM : ∀ m : Int, 1 ≤ m → cpM X X1 262 m m := fun m m1 o o1 o2 y y0 y1 => by
    by_cases q5 : o = 5
    · subst q5
      have y1 : y < 5 := y1
      exact x7 (5 * m + y) (by omega)
    by_cases q6 : o = 8
    · subst q6
      have y1 : y < 162 := y1
      exact eo (162 * m + y) (by omega)
    rw [e (262 + o) (by omega) (by omega) (by omega)]
  have gNt1 : gNt X1 := gNt_k dn (x3 0 (by decide)) (fun n hn => ⟨k (1 + 6 + 8 * n) (by omega) (by omega) (by omega) (by omega), k (1 + 6 + 8 * n + 1) (by omega) (by omega) (by omega) (by omega)⟩) (e (262 + 6) (by decide) (by decide) (by decide))
  have uNt1 : uNt X1 := uNt_k un (x7 (5 * 0 + 0) (by decide)) (e (262 + 6) (by decide) (by decide) (by decide))
  have gBk1 : gBk X1 := gBk_k db (x3 1 (by decide)) (fun n hn s hs => k (1 + 8 + 8 * n + s) (by omega) (by omega) (by omega) (by omega)) (e (262 + 7) (by decide) (by decide) (by decide))
  have uBk1 : uBk X1 := uBk_k ub (x7 (5 * 0 + 1) (by decide)) (e (262 + 7) (by decide) (by decide) (by decide))
  have o9 : ∀ z, z < 157 → z ≠ 3 → X1 z = X4 z := fun z z0 z1 => by rw [e0 z z0, zU_o z1]
  rw [show 1 + 22 + 2 * (0 + rn) = 1 + 22 + 2 * rn by omega] at tw0 tw1 tw2
  have gFd1 : gFd X1 := gFd_c hr df hc x3a (fun n hn hq => ⟨k (1 + 22 + 2 * n) (by omega) (by omega) (by omega) (by omega), k (1 + 22 + 2 * n + 1) (by omega) (by omega) (by omega) (by omega)⟩) (by rw [o9 _ (by omega) (by omega)]; exact tw0) (fun s hs => by rw [o9 _ (by omega) (by omega), tw1 s hs]) (fun y y0 y1 => by rw [o9 _ (by omega) (by omega)]; exact tw2 y y0 y1) lr.2.2.1 t uf cc es eo
  have uFd1 : uFd X1 := uFd_c uf (by rw [← cc]; exact hc) x7a v es eo
  have gLg1 : gLg X1 := gLg_k dl (x3 3 (by decide)) (fun n hn => ⟨k (1 + 26 + 2 * n) (by omega) (by omega) (by omega) (by omega), k (1 + 26 + 2 * n + 1) (by omega) (by omega) (by omega) (by omega)⟩) (e (262 + 9) (by decide) (by decide) (by decide))
  have uLg1 : uLg X1 := uLg_k ul (x7 (5 * 0 + 3) (by decide)) (e (262 + 9) (by decide) (by decide) (by decide))
  have gPo1 : gPo X1 := gPo_k dp (x3 4 (by decide)) (fun n hn => ⟨k (1 + 30 + 2 * n) (by omega) (by omega) (by omega) (by omega), k (1 + 30 + 2 * n + 1) (by omega) (by omega) (by omega) (by omega)⟩) (e (262 + 10) (by decide) (by decide) (by decide))
  have uPo1 : uPo X1 := uPo_k up (x7 (5 * 0 + 4) (by decide)) (e (262 + 10) (by decide) (by decide) (by decide))
  refine ⟨⟨⟨⟨?_, ?_, ?_⟩, fun y y0 y1 => ?_, fun u u0 u5 => ?_, gNt1, gBk1, gFd1, gLg1, gPo1⟩, ⟨fun u q0 q5 => ?_, uNt1, uBk1, uFd1, uLg1, uPo1⟩⟩, fun z hz => ?_, fun z hz n hn => ?_, ⟨?_, fun z hz => ?_, ?_⟩, ?_, ⟨rdV_e (fun z _ _ => k (z) (by omega) (by omega) (by omega) (by omega)) lr, ?_⟩, chI_e lc ⟨e _ (by decide) (by decide) (by decide), e _ (by decide) (by decide) (by decide)⟩⟩
  · rw [k (1) (by omega) (by omega) (by omega) (by omega), e (262 + 2) (by decide) (by decide) (by decide)]
    exact dh.1
  · rw [k (1) (by omega) (by omega) (by omega) (by omega), e (262 + 3) (by decide) (by decide) (by decide)]
    exact dh.2.1
  · rw [k (1) (by omega) (by omega) (by omega) (by omega), e (262 + 4) (by decide) (by decide) (by decide)]
    exact dh.2.2
  · rw [k (1 + 1) (by omega) (by omega) (by omega) (by omega), e (262 + 1) (by decide) (by decide) (by decide)]
    exact dtp y y0 y1
  · by_cases q : u = 2
    · rw [q, x3a, x7a, cc]
    · rw [x3 u q, x7 (5 * 0 + u) (by omega)]
      exact dc u u0 u5
  · by_cases q : u = 2
    · rw [q, x7a]
      omega
    · rw [x7 (5 * 0 + u) (by omega)]
      exact u0 u q0 q5
  · rw [k (138) (by omega) (by omega) (by omega) (by omega), e 287 (by decide) (by decide) (by decide)]
    refine ⟨(li z hz).1, fun g => ?_⟩
    obtain ⟨td, vd⟩ := (li z hz).2 g
    have gz := gM ((z : Int) + 1) (by omega)
    exact ⟨tdR_cp (cpQ_rf fun z _ _ => k (z) (by omega) (by omega) (by omega) (by omega)) gz vd td, vAll_cp gz vd⟩
  · rw [k (36 + 34 * z + 22 + 2 * n) (by omega) (by omega) (by omega) (by omega), k (36 + 34 * z + 26 + 2 * n) (by omega) (by omega) (by omega) (by omega), k (36 + 34 * z + 30 + 2 * n) (by omega) (by omega) (by omega) (by omega)]
    exact lw z hz n hn
  · rw [k (2) (by omega) (by omega) (by omega) (by omega)]
    exact b0
  · rw [k (36 + 34 * z + 1) (by omega) (by omega) (by omega) (by omega)]
    exact b1 z hz
  · intro y y0 y1
    rw [e (262 + 1) (by decide) (by decide) (by decide)]
    exact b2 y y0 y1
  · rw [e 264 (by decide) (by decide) (by decide)]
    exact ls
  · exact lnV_e ll (k (139 + 11) (by omega) (by omega) (by omega) (by omega))
theorem LI_row3 {X Xa X1 X4 : Nat → Int → Int} {rn : Nat} {s : (Int → Int) × Int} (h : LI X) (hr : rn < 2) (hc : (rn : Int) ≤ X 267 3) (v : vTd 3 s) (t : toldR X 139 3 s) (ea : ∀ z, z < 157 → Xa z = X z) (tk : tkP 3 (rn : Int) Xa X4 1 139) (e0 : ∀ z, z < 157 → X1 z = zU X4 3 3 (max (X 3 3) ((rn : Int) + 1)) z) (e : ∀ z, 157 ≤ z → z ≠ 267 → z ≠ 271 → X1 z = X z) (e7 : (∀ u : Int, u ≠ 3 → X1 267 u = X 267 u) ∧ X1 267 3 = max (X 267 3) ((rn : Int) + 1))
    (es : ∀ y : Int, 0 ≤ y → y < 17 → X1 271 (17 * rn + y) = s.1 y) (eo : ∀ y : Int, (y < 17 * rn ∨ 17 * rn + 17 ≤ y) → X1 271 y = X 271 y) : LI X1 := by
  have er : ((rn : Nat) : Int).toNat = rn := by omega
  have tk := tk.2.2 (by decide)
  have en : (((3 : Int) - 2) * 2 + (rn : Int)).toNat = 2 + rn := by omega
  rw [en] at tk
  have rw9 : (rwN (((3 : Int) - 2) * 2 + (rn : Int)) : Int) = 16 := by
    unfold rwN
    repeat' split
    all_goals first | rfl | omega
  rw [rw9] at tk
  obtain ⟨tf, tw0, tw1, tw2⟩ := tk
  have tw0 := tw0.trans (congrFun (ea _ (by omega)) _)
  have tw1 := fun s hs => (tw1 s hs).trans (congrFun (ea _ (by omega)) _)
  have tw2 := fun y y0 y1 => (tw2 y y0 y1).trans (congrFun (ea _ (by omega)) _)
  have k : ∀ z, z < 157 → z ≠ 3 → z ≠ 1 + 22 + 2 * (2 + rn) → z ≠ 1 + 22 + 2 * (2 + rn) + 1 → X1 z = X z := fun z z0 z1 z2 z3 => by rw [e0 z z0, zU_o z1]; exact (tf z z2 z3).trans (ea z z0)
  have x4 : X4 3 = X 3 := (tf 3 (by omega) (by omega)).trans (ea 3 (by decide))
  have x3 : ∀ u : Int, u ≠ 3 → X1 (1 + 2) u = X (1 + 2) u := fun u hu => by rw [e0 (1 + 2) (by decide)]; show zU X4 3 _ _ 3 u = X 3 u; rw [zU_n (fun q => hu q.2), x4]
  have x3a : X1 (1 + 2) 3 = max (X (1 + 2) 3) ((rn : Int) + 1) := by rw [e0 (1 + 2) (by decide)]; show zU X4 3 _ _ 3 3 = _; rw [zU_s]
  have x7 : ∀ u : Int, u ≠ 3 → X1 (262 + 5) u = X (262 + 5) u := fun u hu => e7.1 u hu
  have x7a : X1 (262 + 5) (5 * 0 + 3) = max (X (262 + 5) (5 * 0 + 3)) ((rn : Int) + 1) := e7.2
  obtain ⟨⟨⟨dh, dtp, dc, dn, db, df, dl, dp⟩, l2⟩, li, lw, ⟨b0, b1, b2⟩, ls, ⟨lr, ll⟩, lc⟩ := h
  obtain ⟨u0, un, ub, uf, ul, up⟩ := l2
  have cc : X (1 + 2) 3 = X (262 + 5) (5 * 0 + 3) := dc 3 (by decide) (by decide)
  have h2 := u0 3 (by decide) (by decide)
  have hc : (rn : Int) ≤ X (1 + 2) 3 := by rw [cc]; exact hc
  have gM : ∀ m : Int, 1 ≤ m → cpM X X1 262 m m := fun m m1 o o1 o2 y y0 y1 => by
    by_cases q5 : o = 5
    · subst q5
      have y1 : y < 5 := y1
      exact x7 (5 * m + y) (by omega)
    by_cases q6 : o = 9
    · subst q6
      have y1 : y < 34 := y1
      exact eo (34 * m + y) (by omega)
    rw [e (262 + o) (by omega) (by omega) (by omega)]
  have gNt1 : gNt X1 := gNt_k dn (x3 0 (by decide)) (fun n hn => ⟨k (1 + 6 + 8 * n) (by omega) (by omega) (by omega) (by omega), k (1 + 6 + 8 * n + 1) (by omega) (by omega) (by omega) (by omega)⟩) (e (262 + 6) (by decide) (by decide) (by decide))
  have uNt1 : uNt X1 := uNt_k un (x7 (5 * 0 + 0) (by decide)) (e (262 + 6) (by decide) (by decide) (by decide))
  have gBk1 : gBk X1 := gBk_k db (x3 1 (by decide)) (fun n hn s hs => k (1 + 8 + 8 * n + s) (by omega) (by omega) (by omega) (by omega)) (e (262 + 7) (by decide) (by decide) (by decide))
  have uBk1 : uBk X1 := uBk_k ub (x7 (5 * 0 + 1) (by decide)) (e (262 + 7) (by decide) (by decide) (by decide))
  have gFd1 : gFd X1 := gFd_k df (x3 2 (by decide)) (fun n hn => ⟨k (1 + 22 + 2 * n) (by omega) (by omega) (by omega) (by omega), k (1 + 22 + 2 * n + 1) (by omega) (by omega) (by omega) (by omega)⟩) (e (262 + 8) (by decide) (by decide) (by decide))
  have uFd1 : uFd X1 := uFd_k uf (x7 (5 * 0 + 2) (by decide)) (e (262 + 8) (by decide) (by decide) (by decide))
  have o9 : ∀ z, z < 157 → z ≠ 3 → X1 z = X4 z := fun z z0 z1 => by rw [e0 z z0, zU_o z1]
  rw [show 1 + 22 + 2 * (2 + rn) = 1 + 26 + 2 * rn by omega] at tw0 tw1 tw2
  have gLg1 : gLg X1 := gLg_c hr dl hc x3a (fun n hn hq => ⟨k (1 + 26 + 2 * n) (by omega) (by omega) (by omega) (by omega), k (1 + 26 + 2 * n + 1) (by omega) (by omega) (by omega) (by omega)⟩) (by rw [o9 _ (by omega) (by omega)]; exact tw0) (fun s hs => by rw [o9 _ (by omega) (by omega), tw1 s hs]) (fun y y0 y1 => by rw [o9 _ (by omega) (by omega)]; exact tw2 y y0 y1) lr.2.2.2.1 t ul cc es eo
  have uLg1 : uLg X1 := uLg_c ul (by rw [← cc]; exact hc) x7a v es eo
  have gPo1 : gPo X1 := gPo_k dp (x3 4 (by decide)) (fun n hn => ⟨k (1 + 30 + 2 * n) (by omega) (by omega) (by omega) (by omega), k (1 + 30 + 2 * n + 1) (by omega) (by omega) (by omega) (by omega)⟩) (e (262 + 10) (by decide) (by decide) (by decide))
  have uPo1 : uPo X1 := uPo_k up (x7 (5 * 0 + 4) (by decide)) (e (262 + 10) (by decide) (by decide) (by decide))
  refine ⟨⟨⟨⟨?_, ?_, ?_⟩, fun y y0 y1 => ?_, fun u u0 u5 => ?_, gNt1, gBk1, gFd1, gLg1, gPo1⟩, ⟨fun u q0 q5 => ?_, uNt1, uBk1, uFd1, uLg1, uPo1⟩⟩, fun z hz => ?_, fun z hz n hn => ?_, ⟨?_, fun z hz => ?_, ?_⟩, ?_, ⟨rdV_e (fun z _ _ => k (z) (by omega) (by omega) (by omega) (by omega)) lr, ?_⟩, chI_e lc ⟨e _ (by decide) (by decide) (by decide), e _ (by decide) (by decide) (by decide)⟩⟩
  · rw [k (1) (by omega) (by omega) (by omega) (by omega), e (262 + 2) (by decide) (by decide) (by decide)]
    exact dh.1
  · rw [k (1) (by omega) (by omega) (by omega) (by omega), e (262 + 3) (by decide) (by decide) (by decide)]
    exact dh.2.1
  · rw [k (1) (by omega) (by omega) (by omega) (by omega), e (262 + 4) (by decide) (by decide) (by decide)]
    exact dh.2.2
  · rw [k (1 + 1) (by omega) (by omega) (by omega) (by omega), e (262 + 1) (by decide) (by decide) (by decide)]
    exact dtp y y0 y1
  · by_cases q : u = 3
    · rw [q, x3a, x7a, cc]
    · rw [x3 u q, x7 (5 * 0 + u) (by omega)]
      exact dc u u0 u5
  · by_cases q : u = 3
    · rw [q, x7a]
      omega
    · rw [x7 (5 * 0 + u) (by omega)]
      exact u0 u q0 q5
  · rw [k (138) (by omega) (by omega) (by omega) (by omega), e 287 (by decide) (by decide) (by decide)]
    refine ⟨(li z hz).1, fun g => ?_⟩
    obtain ⟨td, vd⟩ := (li z hz).2 g
    have gz := gM ((z : Int) + 1) (by omega)
    exact ⟨tdR_cp (cpQ_rf fun z _ _ => k (z) (by omega) (by omega) (by omega) (by omega)) gz vd td, vAll_cp gz vd⟩
  · rw [k (36 + 34 * z + 22 + 2 * n) (by omega) (by omega) (by omega) (by omega), k (36 + 34 * z + 26 + 2 * n) (by omega) (by omega) (by omega) (by omega), k (36 + 34 * z + 30 + 2 * n) (by omega) (by omega) (by omega) (by omega)]
    exact lw z hz n hn
  · rw [k (2) (by omega) (by omega) (by omega) (by omega)]
    exact b0
  · rw [k (36 + 34 * z + 1) (by omega) (by omega) (by omega) (by omega)]
    exact b1 z hz
  · intro y y0 y1
    rw [e (262 + 1) (by decide) (by decide) (by decide)]
    exact b2 y y0 y1
  · rw [e 264 (by decide) (by decide) (by decide)]
    exact ls
  · exact lnV_e ll (k (139 + 11) (by omega) (by omega) (by omega) (by omega))
theorem LI_row4 {X Xa X1 X4 : Nat → Int → Int} {rn : Nat} {s : (Int → Int) × Int} (h : LI X) (hr : rn < 2) (hc : (rn : Int) ≤ X 267 4) (v : vTd 4 s) (t : toldR X 139 4 s) (ea : ∀ z, z < 157 → Xa z = X z) (tk : tkP 4 (rn : Int) Xa X4 1 139) (e0 : ∀ z, z < 157 → X1 z = zU X4 3 4 (max (X 3 4) ((rn : Int) + 1)) z) (e : ∀ z, 157 ≤ z → z ≠ 267 → z ≠ 272 → X1 z = X z) (e7 : (∀ u : Int, u ≠ 4 → X1 267 u = X 267 u) ∧ X1 267 4 = max (X 267 4) ((rn : Int) + 1))
    (es : ∀ y : Int, 0 ≤ y → y < 25 → X1 272 (25 * rn + y) = s.1 y) (eo : ∀ y : Int, (y < 25 * rn ∨ 25 * rn + 25 ≤ y) → X1 272 y = X 272 y) : LI X1 := by
  have er : ((rn : Nat) : Int).toNat = rn := by omega
  have tk := tk.2.2 (by decide)
  have en : (((4 : Int) - 2) * 2 + (rn : Int)).toNat = 4 + rn := by omega
  rw [en] at tk
  have rw9 : (rwN (((4 : Int) - 2) * 2 + (rn : Int)) : Int) = 24 := by
    unfold rwN
    repeat' split
    all_goals first | rfl | omega
  rw [rw9] at tk
  obtain ⟨tf, tw0, tw1, tw2⟩ := tk
  have tw0 := tw0.trans (congrFun (ea _ (by omega)) _)
  have tw1 := fun s hs => (tw1 s hs).trans (congrFun (ea _ (by omega)) _)
  have tw2 := fun y y0 y1 => (tw2 y y0 y1).trans (congrFun (ea _ (by omega)) _)
  have k : ∀ z, z < 157 → z ≠ 3 → z ≠ 1 + 22 + 2 * (4 + rn) → z ≠ 1 + 22 + 2 * (4 + rn) + 1 → X1 z = X z := fun z z0 z1 z2 z3 => by rw [e0 z z0, zU_o z1]; exact (tf z z2 z3).trans (ea z z0)
  have x4 : X4 3 = X 3 := (tf 3 (by omega) (by omega)).trans (ea 3 (by decide))
  have x3 : ∀ u : Int, u ≠ 4 → X1 (1 + 2) u = X (1 + 2) u := fun u hu => by rw [e0 (1 + 2) (by decide)]; show zU X4 3 _ _ 3 u = X 3 u; rw [zU_n (fun q => hu q.2), x4]
  have x3a : X1 (1 + 2) 4 = max (X (1 + 2) 4) ((rn : Int) + 1) := by rw [e0 (1 + 2) (by decide)]; show zU X4 3 _ _ 3 4 = _; rw [zU_s]
  have x7 : ∀ u : Int, u ≠ 4 → X1 (262 + 5) u = X (262 + 5) u := fun u hu => e7.1 u hu
  have x7a : X1 (262 + 5) (5 * 0 + 4) = max (X (262 + 5) (5 * 0 + 4)) ((rn : Int) + 1) := e7.2
  obtain ⟨⟨⟨dh, dtp, dc, dn, db, df, dl, dp⟩, l2⟩, li, lw, ⟨b0, b1, b2⟩, ls, ⟨lr, ll⟩, lc⟩ := h
  obtain ⟨u0, un, ub, uf, ul, up⟩ := l2
  have cc : X (1 + 2) 4 = X (262 + 5) (5 * 0 + 4) := dc 4 (by decide) (by decide)
  have h2 := u0 4 (by decide) (by decide)
  have hc : (rn : Int) ≤ X (1 + 2) 4 := by rw [cc]; exact hc
  have gM : ∀ m : Int, 1 ≤ m → cpM X X1 262 m m := fun m m1 o o1 o2 y y0 y1 => by
    by_cases q5 : o = 5
    · subst q5
      have y1 : y < 5 := y1
      exact x7 (5 * m + y) (by omega)
    by_cases q6 : o = 10
    · subst q6
      have y1 : y < 50 := y1
      exact eo (50 * m + y) (by omega)
    rw [e (262 + o) (by omega) (by omega) (by omega)]
  have gNt1 : gNt X1 := gNt_k dn (x3 0 (by decide)) (fun n hn => ⟨k (1 + 6 + 8 * n) (by omega) (by omega) (by omega) (by omega), k (1 + 6 + 8 * n + 1) (by omega) (by omega) (by omega) (by omega)⟩) (e (262 + 6) (by decide) (by decide) (by decide))
  have uNt1 : uNt X1 := uNt_k un (x7 (5 * 0 + 0) (by decide)) (e (262 + 6) (by decide) (by decide) (by decide))
  have gBk1 : gBk X1 := gBk_k db (x3 1 (by decide)) (fun n hn s hs => k (1 + 8 + 8 * n + s) (by omega) (by omega) (by omega) (by omega)) (e (262 + 7) (by decide) (by decide) (by decide))
  have uBk1 : uBk X1 := uBk_k ub (x7 (5 * 0 + 1) (by decide)) (e (262 + 7) (by decide) (by decide) (by decide))
  have gFd1 : gFd X1 := gFd_k df (x3 2 (by decide)) (fun n hn => ⟨k (1 + 22 + 2 * n) (by omega) (by omega) (by omega) (by omega), k (1 + 22 + 2 * n + 1) (by omega) (by omega) (by omega) (by omega)⟩) (e (262 + 8) (by decide) (by decide) (by decide))
  have uFd1 : uFd X1 := uFd_k uf (x7 (5 * 0 + 2) (by decide)) (e (262 + 8) (by decide) (by decide) (by decide))
  have gLg1 : gLg X1 := gLg_k dl (x3 3 (by decide)) (fun n hn => ⟨k (1 + 26 + 2 * n) (by omega) (by omega) (by omega) (by omega), k (1 + 26 + 2 * n + 1) (by omega) (by omega) (by omega) (by omega)⟩) (e (262 + 9) (by decide) (by decide) (by decide))
  have uLg1 : uLg X1 := uLg_k ul (x7 (5 * 0 + 3) (by decide)) (e (262 + 9) (by decide) (by decide) (by decide))
  have o9 : ∀ z, z < 157 → z ≠ 3 → X1 z = X4 z := fun z z0 z1 => by rw [e0 z z0, zU_o z1]
  rw [show 1 + 22 + 2 * (4 + rn) = 1 + 30 + 2 * rn by omega] at tw0 tw1 tw2
  have gPo1 : gPo X1 := gPo_c hr dp hc x3a (fun n hn hq => ⟨k (1 + 30 + 2 * n) (by omega) (by omega) (by omega) (by omega), k (1 + 30 + 2 * n + 1) (by omega) (by omega) (by omega) (by omega)⟩) (by rw [o9 _ (by omega) (by omega)]; exact tw0) (fun s hs => by rw [o9 _ (by omega) (by omega), tw1 s hs]) (fun y y0 y1 => by rw [o9 _ (by omega) (by omega)]; exact tw2 y y0 y1) lr.2.2.2.2 t up cc es eo
  have uPo1 : uPo X1 := uPo_c up (by rw [← cc]; exact hc) x7a v es eo
  refine ⟨⟨⟨⟨?_, ?_, ?_⟩, fun y y0 y1 => ?_, fun u u0 u5 => ?_, gNt1, gBk1, gFd1, gLg1, gPo1⟩, ⟨fun u q0 q5 => ?_, uNt1, uBk1, uFd1, uLg1, uPo1⟩⟩, fun z hz => ?_, fun z hz n hn => ?_, ⟨?_, fun z hz => ?_, ?_⟩, ?_, ⟨rdV_e (fun z _ _ => k (z) (by omega) (by omega) (by omega) (by omega)) lr, ?_⟩, chI_e lc ⟨e _ (by decide) (by decide) (by decide), e _ (by decide) (by decide) (by decide)⟩⟩
  · rw [k (1) (by omega) (by omega) (by omega) (by omega), e (262 + 2) (by decide) (by decide) (by decide)]
    exact dh.1
  · rw [k (1) (by omega) (by omega) (by omega) (by omega), e (262 + 3) (by decide) (by decide) (by decide)]
    exact dh.2.1
  · rw [k (1) (by omega) (by omega) (by omega) (by omega), e (262 + 4) (by decide) (by decide) (by decide)]
    exact dh.2.2
  · rw [k (1 + 1) (by omega) (by omega) (by omega) (by omega), e (262 + 1) (by decide) (by decide) (by decide)]
    exact dtp y y0 y1
  · by_cases q : u = 4
    · rw [q, x3a, x7a, cc]
    · rw [x3 u q, x7 (5 * 0 + u) (by omega)]
      exact dc u u0 u5
  · by_cases q : u = 4
    · rw [q, x7a]
      omega
    · rw [x7 (5 * 0 + u) (by omega)]
      exact u0 u q0 q5
  · rw [k (138) (by omega) (by omega) (by omega) (by omega), e 287 (by decide) (by decide) (by decide)]
    refine ⟨(li z hz).1, fun g => ?_⟩
    obtain ⟨td, vd⟩ := (li z hz).2 g
    have gz := gM ((z : Int) + 1) (by omega)
    exact ⟨tdR_cp (cpQ_rf fun z _ _ => k (z) (by omega) (by omega) (by omega) (by omega)) gz vd td, vAll_cp gz vd⟩
  · rw [k (36 + 34 * z + 22 + 2 * n) (by omega) (by omega) (by omega) (by omega), k (36 + 34 * z + 26 + 2 * n) (by omega) (by omega) (by omega) (by omega), k (36 + 34 * z + 30 + 2 * n) (by omega) (by omega) (by omega) (by omega)]
    exact lw z hz n hn
  · rw [k (2) (by omega) (by omega) (by omega) (by omega)]
    exact b0
  · rw [k (36 + 34 * z + 1) (by omega) (by omega) (by omega) (by omega)]
    exact b1 z hz
  · intro y y0 y1
    rw [e (262 + 1) (by decide) (by decide) (by decide)]
    exact b2 y y0 y1
  · rw [e 264 (by decide) (by decide) (by decide)]
    exact ls
  · exact lnV_e ll (k (139 + 11) (by omega) (by omega) (by omega) (by omega))
