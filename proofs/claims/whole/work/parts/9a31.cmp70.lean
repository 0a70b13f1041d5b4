/-! THE LAW'S INVARIANT: the component at 0, the reference at 262 -/
def LI (X : Nat → Int → Int) : Prop := (tdR X 262 0 X 1 ∧ vAll X 262 0) ∧
  (∀ z : Nat, z < 3 → X 138 z = X 287 z ∧ (X 287 z ≠ 0 → tdR X 262 (z + 1) X (36 + 34 * z) ∧ vAll X 262 (z + 1))) ∧
  (∀ z : Nat, z < 3 → ∀ n : Nat, n < 2 → (X (36 + 34 * z + 22 + 2 * n) 0 = 2 ∧ X (36 + 34 * z + 22 + 2 * n) 1 = 40) ∧ (X (36 + 34 * z + 26 + 2 * n) 0 = 2 ∧ X (36 + 34 * z + 26 + 2 * n) 1 = 8) ∧ X (36 + 34 * z + 30 + 2 * n) 0 = 4 ∧ X (36 + 34 * z + 30 + 2 * n) 1 = 6) ∧
  ((∀ y : Int, 0 ≤ y → y < 600 → -128 ≤ X 2 y ∧ X 2 y ≤ 127) ∧ (∀ z : Nat, z < 3 → ∀ y : Int, 0 ≤ y → y < 600 → -128 ≤ X (36 + 34 * z + 1) y ∧ X (36 + 34 * z + 1) y ≤ 127) ∧ oTb X 262) ∧
  (∀ m : Int, 0 ≤ m → m < 4 → 0 ≤ X 264 m ∧ X 264 m ≤ 600) ∧ (rdV X 139 ∧ lnV X 139) ∧ chI X 157
theorem rdV_e {X X1 : Nat → Int → Int} {i : Nat} (e : ∀ z, i ≤ z → z ≤ i + 17 → X1 z = X z) (h : rdV X i) : rdV X1 i := by
  unfold rdV nV bV pyP rowV oRw at h ⊢
  rw [e (i + 1) (by omega) (by omega), e (i + 1 + 1) (by omega) (by omega), e (i + 3) (by omega) (by omega), e (i + 3 + 2) (by omega) (by omega), e (i + 3 + 4) (by omega) (by omega), e (i + 3 + 5) (by omega) (by omega), e (i + 12) (by omega) (by omega), e (i + 14) (by omega) (by omega), e (i + 16) (by omega) (by omega)]
  exact h
/-- a call that keeps what is told -/
theorem LI_fr {X X1 : Nat → Int → Int} (h : LI X) (e : ∀ z, z < 157 → X1 z = X z) (hc : chI X1 157) (eR : ∀ z, 263 ≤ z → z ≤ 272 → X1 z = X z) (e7 : X1 287 = X 287) : LI X1 := by
  obtain ⟨⟨l1, l2⟩, li, lw, ⟨b0, b1, b2⟩, ls, ⟨lr, ll⟩, lc⟩ := h
  have gM : ∀ m, cpM X X1 262 m m := fun m => cpM_rf (fun z h1 h2 => eR z (by omega) (by omega))
  refine ⟨⟨tdR_cp (cpQ_rf fun z _ _ => e z (by omega)) (gM 0) l2 l1, vAll_cp (gM 0) l2⟩, fun z hz => ?_, fun z hz n hn => ?_, ⟨?_, fun z hz => ?_, ?_⟩, ?_, ⟨rdV_e (fun z _ _ => e z (by omega)) lr, ?_⟩, hc⟩
  · rw [e 138 (by decide), e7]
    refine ⟨(li z hz).1, fun g => ?_⟩
    obtain ⟨t, v⟩ := (li z hz).2 g
    exact ⟨tdR_cp (cpQ_rf fun z _ _ => e z (by omega)) (gM _) v t, vAll_cp (gM _) v⟩
  · rw [e _ (by omega), e _ (by omega), e _ (by omega)]
    exact lw z hz n hn
  · rw [e 2 (by decide)]
    exact b0
  · rw [e _ (by omega)]
    exact b1 z hz
  · intro y h0 h1
    rw [eR (262 + 1) (by decide) (by decide)]
    exact b2 y h0 h1
  · rw [eR 264 (by decide) (by decide)]
    exact ls
  · unfold lnV
    rw [e (139 + 11) (by decide)]
    exact ll
theorem LI_q {X : Nat → Int → Int} (h : LI X) : wcQ X 262 X 0 := ⟨vAll_o h.1.2, h.1.1, h.2.2.2.2.2.2⟩
/-- a question to the component -/
theorem LI_qK {X X1 : Nat → Int → Int} (h : LI X) (k : qK X X1 0) : LI X1 :=
  LI_fr h (fun z hz => k.1 z (Or.inl (by omega))) k.2 (fun z _ _ => k.1 z (Or.inr (by omega))) (k.1 287 (Or.inr (by decide)))
/-- a question to the reference -/
theorem LI_pK {X X1 : Nat → Int → Int} (h : LI X) (k : pK X X1 262) : LI X1 := by
  have e : ∀ a, a ≠ 262 → (a < 273 ∨ 286 < a) → X1 a = X a := k.1
  refine LI_fr h (fun z hz => e z (by omega) (by omega)) ?_ (fun z _ _ => e z (by omega) (by omega)) (e 287 (by decide) (by decide))
  unfold chI
  rw [e (157 + 9) (by decide) (by decide), e (157 + 11) (by decide) (by decide)]
  exact h.2.2.2.2.2.2
/-- the tape, the length, the fault are others -/
theorem tdR_tp {Z Z1 X X1 : Nat → Int → Int} {q j : Nat} (d : tdR Z q 0 X j) (eX : ∀ z, j + 2 ≤ z → z ≤ j + 33 → X1 z = X z) (eZ : ∀ z, q + 5 ≤ z → z ≤ q + 10 → Z1 z = Z z) (h1 : X1 j 1 = Z1 (q + 2) 0 ∧ X1 j 2 = Z1 (q + 3) 0 ∧ X1 j 3 = Z1 (q + 4) 0) (ht : ∀ y : Int, 0 ≤ y → y < 600 → X1 (j + 1) y = Z1 (q + 1) (600 * 0 + y)) : tdR Z1 q 0 X1 j := by
  obtain ⟨-, -, dc, dn, db, df, dl, dp⟩ := d
  have e5 := eZ (q + 5) (by omega) (by omega)
  have e2 := eX (j + 2) (by omega) (by omega)
  refine ⟨h1, ht, fun s h0 h1 => ?_, fun n hn => ?_, fun n hn => ?_, fun n hn => ?_, fun n hn => ?_, fun n hn => ?_⟩
  · rw [e2, e5]
    exact dc s h0 h1
  · unfold nV netR
    rw [e2, eX (j + 6 + 8 * n) (by omega) (by omega), eX (j + 6 + 8 * n + 1) (by omega) (by omega), eZ (q + 6) (by omega) (by omega)]
    exact dn n hn
  · unfold bV pyP blkR
    rw [e2, eX (j + 8 + 8 * n) (by omega) (by omega), eX (j + 8 + 8 * n + 1) (by omega) (by omega), eX (j + 8 + 8 * n + 2) (by omega) (by omega), eX (j + 8 + 8 * n + 3) (by omega) (by omega), eX (j + 8 + 8 * n + 4) (by omega) (by omega), eX (j + 8 + 8 * n + 5) (by omega) (by omega), eZ (q + 7) (by omega) (by omega)]
    exact db n hn
  · unfold rowV oRw rowR
    rw [e2, eX (j + 22 + 2 * n) (by omega) (by omega), eX (j + 22 + 2 * n + 1) (by omega) (by omega), eZ (q + 8) (by omega) (by omega)]
    exact df n hn
  · unfold rowV oRw rowR
    rw [e2, eX (j + 26 + 2 * n) (by omega) (by omega), eX (j + 26 + 2 * n + 1) (by omega) (by omega), eZ (q + 9) (by omega) (by omega)]
    exact dl n hn
  · unfold rowV oRw rowR
    rw [e2, eX (j + 30 + 2 * n) (by omega) (by omega), eX (j + 30 + 2 * n + 1) (by omega) (by omega), eZ (q + 10) (by omega) (by omega)]
    exact dp n hn
/-- both tapes, lengths, faults are others, all else is kept -/
theorem LI_tp {X X1 : Nat → Int → Int} (h : LI X) (e : ∀ z, z < 157 → z ≠ 1 → z ≠ 2 → X1 z = X z) (hc : X1 166 = X 166 ∧ X1 168 = X 168) (eR : ∀ z, 267 ≤ z → z ≤ 272 → X1 z = X z) (e7 : X1 287 = X 287)
    (hm : ∀ y : Int, y ≠ 0 → X1 264 y = X 264 y ∧ X1 265 y = X 265 y ∧ X1 266 y = X 266 y) (ht : ∀ y : Int, 600 ≤ y → y < 2400 → X1 263 y = X 263 y)
    (h1 : X1 1 1 = X1 264 0 ∧ X1 1 2 = X1 265 0 ∧ X1 1 3 = X1 266 0) (h2 : ∀ y : Int, 0 ≤ y → y < 600 → X1 2 y = X1 263 y) (hb : ∀ y : Int, 0 ≤ y → y < 600 → -128 ≤ X1 2 y ∧ X1 2 y ≤ 127) (hs : 0 ≤ X1 264 0 ∧ X1 264 0 ≤ 600) : LI X1 := by
  obtain ⟨⟨l1, l2⟩, li, lw, ⟨b0, b1, b2⟩, ls, ⟨lr, ll⟩, lc⟩ := h
  have gM : ∀ m : Int, 1 ≤ m → m ≤ 3 → cpM X X1 262 m m := fun m m1 m3 o o1 o2 y y0 y1 => by
    by_cases o5 : 5 ≤ o
    · rw [eR (262 + o) (by omega) (by omega)]
    · have q : o = 1 ∨ o = 2 ∨ o = 3 ∨ o = 4 := by omega
      rcases q with rfl | rfl | rfl | rfl
      · have y1 : y < 600 := y1
        exact ht (600 * m + y) (by omega) (by omega)
      · have y1 : y < 1 := y1
        exact (hm (1 * m + y) (by omega)).1
      · have y1 : y < 1 := y1
        exact (hm (1 * m + y) (by omega)).2.1
      · have y1 : y < 1 := y1
        exact (hm (1 * m + y) (by omega)).2.2
  refine ⟨⟨tdR_tp l1 (fun z h1 h2 => e z (by omega) (by omega) (by omega)) (fun z h1 h2 => eR z (by omega) (by omega)) h1 (fun y y0 y1 => by rw [show (600 : Int) * 0 + y = y by omega]; exact h2 y y0 y1), ?_⟩, fun z hz => ?_, fun z hz n hn => ?_, ⟨hb, fun z hz => ?_, ?_⟩, ?_, ⟨rdV_e (fun z _ _ => e z (by omega) (by omega) (by omega)) lr, ?_⟩, ?_⟩
  · unfold vAll at l2 ⊢
    rw [eR (262 + 5) (by decide) (by decide), eR (262 + 6) (by decide) (by decide), eR (262 + 7) (by decide) (by decide), eR (262 + 8) (by decide) (by decide), eR (262 + 9) (by decide) (by decide), eR (262 + 10) (by decide) (by decide)]
    exact l2
  · rw [e 138 (by decide) (by decide) (by decide), e7]
    refine ⟨(li z hz).1, fun g => ?_⟩
    obtain ⟨t, v⟩ := (li z hz).2 g
    have g9 := gM ((z : Int) + 1) (by omega) (by omega)
    exact ⟨tdR_cp (cpQ_rf fun z _ _ => e z (by omega) (by omega) (by omega)) g9 v t, vAll_cp g9 v⟩
  · rw [e _ (by omega) (by omega) (by omega), e _ (by omega) (by omega) (by omega), e _ (by omega) (by omega) (by omega)]
    exact lw z hz n hn
  · rw [e _ (by omega) (by omega) (by omega)]
    exact b1 z hz
  · intro y h0 h1
    by_cases q : y < 600
    · have g := h2 y h0 q
      have g2 := hb y h0 q
      rw [g] at g2
      exact g2
    · have g := ht y (by omega) h1
      have g2 := b2 y h0 h1
      rw [show X1 (262 + 1) y = X (262 + 1) y from g]
      exact g2
  · intro m m0 m1
    by_cases q : m = 0
    · rw [q]
      exact hs
    · rw [(hm m q).1]
      exact ls m m0 m1
  · unfold lnV
    rw [e (139 + 11) (by decide) (by decide) (by decide)]
    exact ll
  · unfold chI at lc ⊢
    rw [show X1 (157 + 9) = X (157 + 9) from hc.1, show X1 (157 + 11) = X (157 + 11) from hc.2]
    exact lc
theorem frN_g {T T' : Int → Int} {n v y : Int} (h : T y = T' y) : ∀ q, frN T n v q y = frN T' n v q y
  | 0 => h
  | q + 1 => by
    show upI (frN T n v q) (n + q) _ y = upI (frN T' n v q) (n + q) _ y
    unfold upI
    rw [frN_g h q]
theorem frN_o {T : Int → Int} {n v y : Int} : ∀ q : Nat, (y < n ∨ n + q ≤ y) → frN T n v q y = T y
  | 0, _ => rfl
  | q + 1, h => by
    show upI (frN T n v q) (n + q) _ y = T y
    rw [upI_n (by omega), frN_o q (by omega)]
theorem frN_b {T : Int → Int} {n v y : Int} (h : -128 ≤ T y ∧ T y ≤ 127) : ∀ q : Nat, -128 ≤ frN T n v q y ∧ frN T n v q y ≤ 127
  | 0 => h
  | q + 1 => by
    show -128 ≤ upI (frN T n v q) (n + q) _ y ∧ upI (frN T n v q) (n + q) _ y ≤ 127
    unfold upI
    split
    · exact zByt_b _
    · exact frN_b h q
theorem frA_g {T T' : Int → Int} {n a b c d e y : Int} (h : T y = T' y) : frA T n a b c d e y = frA T' n a b c d e y := frN_g (frN_g (frN_g (frN_g (frN_g h 4) 4) 4) 4) 4
theorem frA_o {T : Int → Int} {n a b c d e y : Int} (h : y < n ∨ n + 20 ≤ y) : frA T n a b c d e y = T y := by
  unfold frA
  rw [frN_o 4 (by omega), frN_o 4 (by omega), frN_o 4 (by omega), frN_o 4 (by omega), frN_o 4 (by omega)]
theorem frA_b {T : Int → Int} {n a b c d e y : Int} (h : -128 ≤ T y ∧ T y ≤ 127) : -128 ≤ frA T n a b c d e y ∧ frA T n a b c d e y ≤ 127 := frN_b (frN_b (frN_b (frN_b (frN_b h 4) 4) 4) 4) 4
/-- feed -/
theorem LI_feed {X X1 X2 : Nat → Int → Int} {a b g d f r r' : Int} (h : LI X)
    (k : if X 1 1 ≤ 580 then r = X 1 1 + 20 ∧ (∀ z, z ≠ 1 → z ≠ 2 → X1 z = X z) ∧ (∀ s, s ≠ 1 → X1 1 s = X 1 s) ∧ X1 1 1 = X 1 1 + 20 ∧ X1 2 = frA (X 2) (X 1 1) a b g d f else r = -1 ∧ X1 = X)
    (k' : if X1 264 0 + 20 ≤ 600 then r' = X1 264 0 + 20 ∧ (∀ z, z ≠ 262 → z ≠ 263 → z ≠ 264 → X2 z = X1 z) ∧ X2 262 = zU X1 262 0 0 262 ∧ X2 264 = upI (X1 264) 0 (X1 264 0 + 20) ∧ X2 263 = frA (X1 263) (X1 264 0) a b g d f else r' = -1 ∧ X2 = zU X1 262 0 0) : r = r' ∧ LI X2 := by
  have e0 : X 1 1 = X 264 0 := h.1.1.1.1
  have f0 : X 1 2 = X 265 0 := h.1.1.1.2.1
  have p0 : X 1 3 = X 266 0 := h.1.1.1.2.2
  have l0 := h.2.2.2.2.1 0 (by decide) (by decide)
  by_cases c : X 1 1 ≤ 580
  · rw [if_pos c] at k
    obtain ⟨k1, k2, k3, k4, k5⟩ := k
    rw [k2 264 (by decide) (by decide), if_pos (by omega)] at k'
    obtain ⟨j1, j2, j3, j4, j5⟩ := k'
    have tp : ∀ y : Int, 0 ≤ y → y < 600 → X 2 y = X 263 y := fun y y0 y1 => by
      have := h.1.1.2.1 y y0 y1
      rw [show (600 : Int) * 0 + y = y by omega] at this
      exact this
    have o : ∀ z, z ≠ 1 → z ≠ 2 → z ≠ 262 → z ≠ 263 → z ≠ 264 → X2 z = X z := fun z z1 z2 z3 z4 z5 => by rw [j2 z z3 z4 z5, k2 z z1 z2]
    have x1 : X2 1 = X1 1 := j2 1 (by decide) (by decide) (by decide)
    have x2 : X2 2 = X1 2 := j2 2 (by decide) (by decide) (by decide)
    have x5 : X2 265 = X 265 := o 265 (by decide) (by decide) (by decide) (by decide) (by decide)
    have x6 : X2 266 = X 266 := o 266 (by decide) (by decide) (by decide) (by decide) (by decide)
    rw [k2 263 (by decide) (by decide)] at j5
    refine ⟨by omega, LI_tp h (fun z z0 z1 z2 => o z z1 z2 (by omega) (by omega) (by omega)) ⟨o 166 (by decide) (by decide) (by decide) (by decide) (by decide), o 168 (by decide) (by decide) (by decide) (by decide) (by decide)⟩ (fun z z0 z1 => o z (by omega) (by omega) (by omega) (by omega) (by omega)) (o 287 (by decide) (by decide) (by decide) (by decide) (by decide)) (fun y hy => ?_) (fun y y0 y1 => ?_) ⟨?_, ?_, ?_⟩ (fun y y0 y1 => ?_) (fun y y0 y1 => ?_) ?_⟩
    · rw [j4, x5, x6, upI_n hy]
      exact ⟨rfl, rfl, rfl⟩
    · rw [j5, frA_o (by omega)]
    · rw [x1, j4, upI_s, k4, e0]
    · rw [x1, x5, k3 2 (by decide), f0]
    · rw [x1, x6, k3 3 (by decide), p0]
    · rw [x2, k5, j5, e0]
      exact frA_g (tp y y0 y1)
    · rw [x2, k5]
      exact frA_b (h.2.2.2.1.1 y y0 y1)
    · rw [j4, upI_s]
      omega
  · rw [if_neg c] at k
    obtain ⟨k1, k2⟩ := k
    subst k2
    rw [if_neg (by omega)] at k'
    obtain ⟨j1, j2⟩ := k'
    refine ⟨by omega, LI_fr h (fun z hz => by rw [j2, zU_o (by omega)]) ?_ (fun z z0 z1 => by rw [j2, zU_o (by omega)]) (by rw [j2, zU_o (by decide)])⟩
    unfold chI
    rw [j2, zU_o (by decide), zU_o (by decide)]
    exact h.2.2.2.2.2.2
/-- end -/
theorem LI_end {X X1 X2 : Nat → Int → Int} {a r r' : Int} (h : LI X) (k : if 0 ≤ a ∧ a ≤ X 1 1 then r = a ∧ X1 = zU X 1 1 a else r = -1 ∧ X1 = X)
    (k' : r' = (if mIn a 0 (X1 264 0) then a else -1) ∧ X2 = (if mIn a 0 (X1 264 0) then zU (zU X1 262 0 0) 264 0 a else zU X1 262 0 0)) : r = r' ∧ LI X2 := by
  have e0 : X 1 1 = X 264 0 := h.1.1.1.1
  have f0 : X 1 2 = X 265 0 := h.1.1.1.2.1
  have p0 : X 1 3 = X 266 0 := h.1.1.1.2.2
  have l0 := h.2.2.2.2.1 0 (by decide) (by decide)
  obtain ⟨j1, j2⟩ := k'
  by_cases c : 0 ≤ a ∧ a ≤ X 1 1
  · rw [if_pos c] at k
    obtain ⟨k1, k2⟩ := k
    have g4 : X1 264 0 = X 264 0 := by rw [k2, zU_o (by decide)]
    rw [g4, mIn_t.mpr (by omega), if_pos rfl] at j1 j2
    have tp : ∀ y : Int, 0 ≤ y → y < 600 → X 2 y = X 263 y := fun y y0 y1 => by
      have := h.1.1.2.1 y y0 y1
      rw [show (600 : Int) * 0 + y = y by omega] at this
      exact this
    have o : ∀ z, z ≠ 1 → z ≠ 262 → z ≠ 264 → X2 z = X z := fun z z1 z3 z5 => by rw [j2, zU_o z5, zU_o z3, k2, zU_o z1]
    refine ⟨by omega, LI_tp h (fun z z0 z1 z2 => o z z1 (by omega) (by omega)) ⟨o 166 (by decide) (by decide) (by decide), o 168 (by decide) (by decide) (by decide)⟩ (fun z z0 z1 => o z (by omega) (by omega) (by omega)) (o 287 (by decide) (by decide) (by decide)) (fun y hy => ?_) (fun y y0 y1 => ?_) ⟨?_, ?_, ?_⟩ (fun y y0 y1 => ?_) (fun y y0 y1 => ?_) ?_⟩
    · rw [o 265 (by decide) (by decide) (by decide), o 266 (by decide) (by decide) (by decide), j2, zU_n (fun q => hy q.2), zU_o (by decide), k2, zU_o (by decide)]
      exact ⟨rfl, rfl, rfl⟩
    · rw [o 263 (by decide) (by decide) (by decide)]
    · rw [j2, zU_o (by decide), zU_o (by decide), k2, zU_s, zU_s]
    · rw [o 265 (by decide) (by decide) (by decide), j2, zU_o (by decide), zU_o (by decide), k2, zU_n (by decide), f0]
    · rw [o 266 (by decide) (by decide) (by decide), j2, zU_o (by decide), zU_o (by decide), k2, zU_n (by decide), p0]
    · rw [o 2 (by decide) (by decide) (by decide), o 263 (by decide) (by decide) (by decide)]
      exact tp y y0 y1
    · rw [o 2 (by decide) (by decide) (by decide)]
      exact h.2.2.2.1.1 y y0 y1
    · rw [j2, zU_s]
      omega
  · rw [if_neg c] at k
    obtain ⟨k1, k2⟩ := k
    subst k2
    rw [mIn_f.mpr (by omega)] at j1 j2
    have j1 : r' = -1 := j1
    have j2 : X2 = zU X1 262 0 0 := j2
    refine ⟨by omega, LI_fr h (fun z hz => by rw [j2, zU_o (by omega)]) ?_ (fun z z0 z1 => by rw [j2, zU_o (by omega)]) (by rw [j2, zU_o (by decide)])⟩
    unfold chI
    rw [j2, zU_o (by decide), zU_o (by decide)]
    exact h.2.2.2.2.2.2

