/-! THE LAW'S INVARIANT: a text is told on both sides -/
/-- the reader's cells are others -/
theorem LI_rd {X X1 : Nat → Int → Int} (h : LI X) (e : ∀ z, (z < 139 ∨ 156 < z) → X1 z = X z) (v : rdV X1 139) (l : lnV X1 139) : LI X1 := by
  obtain ⟨⟨l1, l2⟩, li, lw, ⟨b0, b1, b2⟩, ls, -, lc⟩ := h
  have gM : ∀ m, cpM X X1 262 m m := fun m => cpM_rf (fun z h1 h2 => e z (Or.inr (by omega)))
  refine ⟨⟨tdR_cp (cpQ_rf fun z _ _ => e z (Or.inl (by omega))) (gM 0) l2 l1, vAll_cp (gM 0) l2⟩, fun z hz => ?_, fun z hz n hn => ?_, ⟨?_, fun z hz => ?_, ?_⟩, ?_, ⟨v, l⟩, chI_e lc ⟨e _ (by decide), e _ (by decide)⟩⟩
  · rw [e 138 (by decide), e 287 (by decide)]
    refine ⟨(li z hz).1, fun g => ?_⟩
    obtain ⟨t, v⟩ := (li z hz).2 g
    exact ⟨tdR_cp (cpQ_rf fun z _ _ => e z (Or.inl (by omega))) (gM _) v t, vAll_cp (gM _) v⟩
  · rw [e _ (Or.inl (by omega)), e _ (Or.inl (by omega)), e _ (Or.inl (by omega))]
    exact lw z hz n hn
  · rw [e 2 (by decide)]
    exact b0
  · rw [e _ (Or.inl (by omega))]
    exact b1 z hz
  · intro y h0 h1
    rw [e (262 + 1) (by decide)]
    exact b2 y h0 h1
  · rw [e 264 (by decide)]
    exact ls
/-- where a text comes -/
theorem txB_c {X X1 : Nat → Int → Int} {a b : Int} (hc : ∀ s : Int, 0 ≤ s → s < 5 → X (1 + 2) s = X1 (262 + 5) s) (hb : ∀ s : Int, 0 ≤ s → s < 5 → 0 ≤ X1 (262 + 5) s ∧ X1 (262 + 5) s ≤ 2) :
    (cPf X 1 a b = -1 → txB X1 262 a b = true) ∧ (cPf X 1 a b ≠ -1 → txB X1 262 a b = false ∧ (0 ≤ a ∧ a ≤ 4) ∧ cPf X 1 a b = (if b = -1 then X1 (262 + 5) a else b) ∧ (0 ≤ cPf X 1 a b ∧ cPf X 1 a b < 2) ∧ cPf X 1 a b ≤ X1 (262 + 5) a ∧ (X1 (262 + 5) a + if b = -1 then 1 else 0) = max (X1 (262 + 5) a) (cPf X 1 a b + 1)) := by
  by_cases ha : 0 ≤ a ∧ a < 5
  · have e := hc a ha.1 ha.2
    have g := hb a ha.1 ha.2
    have m4 : mIn a 0 4 = true := mIn_t.mpr (by omega)
    unfold cPf txB mIs
    rw [if_pos ha, m4, e]
    by_cases q : b = -1
    · subst q
      rw [if_pos rfl, if_pos rfl, if_pos rfl, if_pos rfl]
      by_cases c : X1 (262 + 5) a < 2
      · rw [if_pos c, decide_eq_false (show ¬ X1 (262 + 5) a = 2 by omega)]
        exact ⟨fun h => by omega, fun _ => ⟨rfl, by omega, rfl, by omega, by omega, by omega⟩⟩
      · rw [if_neg c, decide_eq_true (show X1 (262 + 5) a = 2 by omega)]
        exact ⟨fun _ => rfl, fun h => absurd rfl h⟩
    · rw [if_neg q, if_neg q, if_neg q, if_neg q]
      by_cases c : (0 ≤ b ∧ b < 2) ∧ b < X1 (262 + 5) a
      · rw [if_pos c, mIn_t.mpr (show 0 ≤ b ∧ b ≤ X1 (262 + 5) a - 1 by omega)]
        exact ⟨fun h => by omega, fun _ => ⟨rfl, by omega, rfl, by omega, by omega, by omega⟩⟩
      · rw [if_neg c, mIn_f.mpr (show ¬ (0 ≤ b ∧ b ≤ X1 (262 + 5) a - 1) by omega)]
        exact ⟨fun _ => rfl, fun h => absurd rfl h⟩
  · have m4 : mIn a 0 4 = false := mIn_f.mpr (by omega)
    unfold cPf txB
    rw [if_neg ha, m4]
    exact ⟨fun _ => rfl, fun h => absurd rfl h⟩
/-- tape, length, fault, place: only those of the text are new -/
theorem LI_tf {X X2 : Nat → Int → Int} {f pl : Int} (h : LI X) (e : ∀ z, z < 157 → z ≠ 1 → X2 z = X z) (e1 : X2 1 = zU (zU (zU X 1 1 0) 1 2 f) 1 3 pl 1) (eR : ∀ z, 157 ≤ z → z ≠ 262 → z ≠ 264 → z ≠ 265 → z ≠ 266 → z ≠ 273 → z ≠ 274 → X2 z = X z)
    (e4 : ∀ y : Int, y ≠ 0 → X2 264 y = X 264 y ∧ X2 265 y = X 265 y ∧ X2 266 y = X 266 y) (e0 : X2 264 0 = 0 ∧ X2 265 0 = f ∧ X2 266 0 = pl) : LI X2 := by
  have ee : ∀ z, 157 ≤ z → (z < 262 ∨ z = 263 ∨ (266 < z ∧ z < 273) ∨ 274 < z) → X2 z = X z := fun z z0 z1 => eR z z0 (by omega) (by omega) (by omega) (by omega) (by omega) (by omega)
  have x2 : X2 2 = X 2 := e 2 (by decide) (by decide)
  have x63 : X2 263 = X 263 := ee 263 (by decide) (by decide)
  refine LI_tp h (fun z z0 z1 _ => e z z0 z1) ⟨ee 166 (by decide) (by decide), ee 168 (by decide) (by decide)⟩ (fun z z0 z1 => ee z (by omega) (by omega)) (ee 287 (by decide) (by decide)) e4 (fun y _ _ => by rw [x63]) ⟨?_, ?_, ?_⟩ (fun y y0 y1 => ?_) (fun y y0 y1 => ?_) ?_
  · rw [e1, zU_n (by decide), zU_n (by decide), zU_s, e0.1]
  · rw [e1, zU_n (by decide), zU_s, e0.2.1]
  · rw [e1, zU_s, e0.2.2]
  · rw [x2, x63]
    have := h.1.1.2.1 y y0 y1
    rw [show (600 : Int) * 0 + y = y by omega] at this
    exact this
  · rw [x2]
    exact h.2.2.2.1.1 y y0 y1
  · rw [e0.1]
    decide
theorem tx0_k {X : Nat → Int → Int} : (∀ z, z ≠ 262 → z ≠ 264 → z ≠ 265 → z ≠ 266 → tx0 X 262 z = X z) ∧ (∀ y : Int, y ≠ 0 → tx0 X 262 264 y = X 264 y ∧ tx0 X 262 265 y = X 265 y ∧ tx0 X 262 266 y = X 266 y) ∧ tx0 X 262 264 0 = 0 ∧ tx0 X 262 265 0 = 0 ∧ tx0 X 262 266 0 = -1 := by
  have g : tx0 X 262 = zU (zU (zU (zU (zU X 262 0 0) 262 12 (X 264 0)) 264 0 0) 265 0 0) 266 0 (-1) := rfl
  rw [g]
  refine ⟨fun z h1 h2 h3 h4 => by rw [zU_o h4, zU_o h3, zU_o h2, zU_o h1, zU_o h1], fun y hy => ⟨?_, ?_, ?_⟩, ?_, ?_, zU_s⟩
  · rw [zU_o (by decide), zU_o (by decide), zU_n (fun q => hy q.2), zU_o (by decide), zU_o (by decide)]
  · rw [zU_o (by decide), zU_n (fun q => hy q.2), zU_o (by decide), zU_o (by decide), zU_o (by decide)]
  · rw [zU_n (fun q => hy q.2), zU_o (by decide), zU_o (by decide), zU_o (by decide), zU_o (by decide)]
  · rw [zU_o (by decide), zU_o (by decide), zU_s]
  · rw [zU_o (by decide), zU_s]
theorem toldR_e {X X1 : Nat → Int → Int} {i : Nat} {a : Int} {s : (Int → Int) × Int} (ha : 0 ≤ a ∧ a ≤ 4) (e : ∀ z, i ≤ z → z ≤ i + 17 → X1 z = X z) (h : toldR X i a s) : toldR X1 i a s := by
  unfold toldR tNt tBl tRw at h ⊢
  rw [e (i + 1) (by omega) (by omega), e (i + 1 + 1) (by omega) (by omega), e (i + 3) (by omega) (by omega), e (i + 3 + 1) (by omega) (by omega), e (i + 3 + 2) (by omega) (by omega), e (i + 3 + 3) (by omega) (by omega), e (i + 3 + 4) (by omega) (by omega), e (i + 3 + 5) (by omega) (by omega)]
  by_cases c : 2 ≤ a
  · rw [e (i + 12 + 2 * (a - 2).toNat) (by omega) (by omega), e (i + 12 + 2 * (a - 2).toNat + 1) (by omega) (by omega)]
    exact h
  · by_cases c0 : a = 0
    · rw [if_pos c0] at h ⊢
      exact h
    · rw [if_neg c0, if_pos (by omega)] at h ⊢
      exact h
theorem tkP_f {a r : Int} {X X1 : Nat → Int → Int} (ha : 0 ≤ a ∧ a ≤ 4) (hr : 0 ≤ r ∧ r < 2) (h : tkP a r X X1 1 139) : ∀ z, 157 ≤ z → X1 z = X z := by
  intro z hz
  by_cases c0 : a = 0
  · exact (h.1 c0).1 z (by omega) (by omega)
  · by_cases c1 : a = 1
    · exact (h.2.1 c1).1 z (by omega)
    · exact (h.2.2 (by omega)).1 z (by omega) (by omega)
theorem LI_row {X Xa X1 X4 : Nat → Int → Int} {a : Int} {rn : Nat} {s : (Int → Int) × Int} (ha : 0 ≤ a ∧ a ≤ 4) (h : LI X) (hr : rn < 2) (hc : (rn : Int) ≤ X 267 a) (v : vTd a s) (t : toldR X 139 a s) (ea : ∀ z, z < 157 → Xa z = X z) (tk : tkP a (rn : Int) Xa X4 1 139) (e0 : ∀ z, z < 157 → X1 z = zU X4 3 a (max (X 3 a) ((rn : Int) + 1)) z) (e : ∀ z, 157 ≤ z → z ≠ 267 → z ≠ 268 + a.toNat → X1 z = X z) (e7 : (∀ u : Int, u ≠ a → X1 267 u = X 267 u) ∧ X1 267 a = max (X 267 a) ((rn : Int) + 1))
    (es : ∀ y : Int, 0 ≤ y → y < wdT a → X1 (268 + a.toNat) (wdT a * rn + y) = s.1 y) (eo : ∀ y : Int, (y < wdT a * rn ∨ wdT a * rn + wdT a ≤ y) → X1 (268 + a.toNat) y = X (268 + a.toNat) y) : LI X1 := by
  have q : a = 0 ∨ a = 1 ∨ a = 2 ∨ a = 3 ∨ a = 4 := by omega
  rcases q with rfl | rfl | rfl | rfl | rfl
  · exact LI_row0 h hr hc v t ea tk e0 e e7 es eo
  · exact LI_row1 h hr hc v t ea tk e0 e e7 es eo
  · exact LI_row2 h hr hc v t ea tk e0 e e7 es eo
  · exact LI_row3 h hr hc v t ea tk e0 e e7 es eo
  · exact LI_row4 h hr hc v t ea tk e0 e e7 es eo
/-- text -/
theorem LI_text {X X1 X2 Y Y1 : Nat → Int → Int} {a b r r' : Int} (h : LI X) (k : txC X X1 0 a b r) (k' : txP X1 X2 Y Y1 262 a b r') : r = r' ∧ LI X2 := by
  unfold txC at k
  simp only [Nat.zero_add] at k
  obtain ⟨k1, k2⟩ := k
  obtain ⟨j1, j2⟩ := k'
  obtain ⟨t1, t2, t3⟩ := @tx0_k X1
  have hb := h.1.2.1
  have hb : ∀ s : Int, 0 ≤ s → s < 5 → 0 ≤ X (262 + 5) s ∧ X (262 + 5) s ≤ 2 := fun s s0 s1 => by
    have := hb s s0 s1
    rw [show (5 : Int) * 0 + s = s by omega] at this
    exact this
  have hc : ∀ s : Int, 0 ≤ s → s < 5 → X (1 + 2) s = X (262 + 5) s := fun s s0 s1 => by
    have := h.1.1.2.2.1 s s0 s1
    rw [show (5 : Int) * 0 + s = s by omega] at this
    exact this
  by_cases c : cPf X 1 a b = -1
  · obtain ⟨rr, ex⟩ := k1 c
    have e67 : X1 (262 + 5) = X (262 + 5) := by rw [ex, zU_o (by decide), zU_o (by decide), zU_o (by decide)]
    rw [← e67] at hb hc
    obtain ⟨rr', ex', -⟩ := j1 ((txB_c hc hb).1 c)
    have o : ∀ z, z ≠ 1 → X1 z = X z := fun z hz => by rw [ex, zU_o hz, zU_o hz, zU_o hz]
    refine ⟨by rw [rr, rr'], LI_tf (f := 0) (pl := -1) h (fun z z0 z1 => ?_) ?_ (fun z z0 z1 z2 z3 z4 z5 z6 => ?_) (fun y hy => ?_) ?_⟩
    · rw [ex', t1 z (by omega) (by omega) (by omega) (by omega), o z z1]
    · rw [ex', t1 1 (by decide) (by decide) (by decide) (by decide), ex]
    · rw [ex', t1 z z1 z2 z3 z4, o z (by omega)]
    · rw [ex', ← o 264 (by decide), ← o 265 (by decide), ← o 266 (by decide)]
      exact t2 y hy
    · rw [ex']
      exact t3
  · obtain ⟨Xc, X3, f1, v, ll, ro, e3, g1, g2⟩ := k2 c
    have hcl : LI Xc := LI_rd h f1 v ll
    have o3 : ∀ z, z ≠ 1 → X3 z = Xc z := fun z hz => by rw [e3, zU_o hz, zU_o hz, zU_o hz]
    -- the component's cells behind are kept
    have oX : ∀ z, 157 ≤ z → X1 z = X z := fun z hz => by
      by_cases q : Xc 139 3 = 0
      · obtain ⟨-, X4, ex, tk⟩ := g2 q
        have e67 := txB_c (a := a) (b := b) hc hb
        obtain ⟨-, ba, -, bb, -⟩ := e67.2 c
        obtain ⟨rr, -⟩ := g2 q
        rw [ex, zU_o (by omega), tkP_f ba (by rw [rr]; exact bb) tk z hz, o3 z (by omega), f1 z (by omega)]
      · obtain ⟨-, ex⟩ := g1 q
        rw [ex, o3 z (by omega), f1 z (by omega)]
    rw [← oX (262 + 5) (by decide)] at hb hc
    obtain ⟨bt, ba, br, bb, bc, bm⟩ := (txB_c hc hb).2 c
    obtain ⟨Xr, r2, kk, rt, s1, s2⟩ := j2 bt
    have tp : ∀ y : Nat, y < (X 1 1).toNat → X1 (262 + 1) y = X 2 y := fun y hy => by
      have l0 := h.2.2.2.2.1 0 (by decide) (by decide)
      have e0 : X 1 1 = X 264 0 := h.1.1.1.1
      rw [oX (262 + 1) (by decide)]
      have := h.1.1.2.1 y (by omega) (by omega)
      rw [show (600 : Int) * 0 + (y : Int) = y by omega] at this
      exact this.symm
    have e64 : X1 (262 + 2) 0 = X 1 1 := by
      rw [oX (262 + 2) (by decide)]
      exact h.1.1.1.1.symm
    rw [e64, rdA_g tp] at rt
    have w0 := fun s' => rdA_0 (T := X 2) (n := (X 1 1).toNat) ba (q := (X 1 1).toNat + 1) (s' := s')
    obtain ⟨kfo, -, kzo, -⟩ := kk
    have kf : ∀ z, z ≠ 262 → z ≠ 264 → z ≠ 265 → z ≠ 266 → z ≠ 273 → z ≠ 274 → Xr z = X1 z := fun z z1 z2 z3 z4 z5 z6 => by rw [kfo z z1 z3 z4 z5 z6, t1 z z1 z2 z3 z4]
    have kz : ∀ y : Int, y ≠ 0 → Xr 264 y = X1 264 y ∧ Xr 265 y = X1 265 y ∧ Xr 266 y = X1 266 y := fun y hy => ⟨by rw [kfo 264 (by decide) (by decide) (by decide) (by decide) (by decide)]; exact (t2 y hy).1, (kzo y hy).1.trans (t2 y hy).2.1, (kzo y hy).2.trans (t2 y hy).2.2⟩
    have k40 : Xr 264 0 = 0 := by
      rw [kfo 264 (by decide) (by decide) (by decide) (by decide) (by decide)]
      exact t3.1
    -- a fault, or none: both sides agree on it
    have fault : ∀ f pl : Int, X3 = zU (zU (zU Xc 1 1 0) 1 2 f) 1 3 pl → Xr 265 0 = f → Xr 266 0 = pl → ∀ XM : Nat → Int → Int, (∀ z, z < 157 → XM z = X3 z) → (∀ z, 157 ≤ z → XM z = Xr z) → LI XM := fun f pl g3 g5 g6 XM m1 m2 => by
      have x4 : ∀ z, 157 ≤ z → X1 z = Xc z := fun z hz => by rw [oX z hz, f1 z (by omega)]
      refine LI_tf (f := f) (pl := pl) hcl (fun z z0 z1 => by rw [m1 z z0, o3 z z1]) (by rw [m1 1 (by decide), g3]) (fun z z0 z1 z2 z3 z4 z5 z6 => by rw [m2 z z0, kf z z1 z2 z3 z4 z5 z6, x4 z z0]) (fun y hy => ?_) ?_
      · rw [m2 264 (by decide), m2 265 (by decide), m2 266 (by decide), ← x4 264 (by decide), ← x4 265 (by decide), ← x4 266 (by decide)]
        exact kz y hy
      · rw [m2 264 (by decide), m2 265 (by decide), m2 266 (by decide)]
        exact ⟨k40, g5, g6⟩
    have bad : ∀ f pl : Int, f ≠ 0 → Xc 139 3 = f → Xc 139 4 = pl → Xr 265 0 = f → Xr 266 0 = pl → r2 = false → r = r' ∧ LI X2 := fun f pl f0 g3 g4 g5 g6 e2 => by
      obtain ⟨rr, ex⟩ := g1 (by rw [g3]; exact f0)
      obtain ⟨rr', ex'⟩ := s1 e2
      refine ⟨by rw [rr, rr'], fault f pl (by rw [e3, g3, g4]) g5 g6 X2 (fun z hz => ?_) (fun z hz => by rw [ex'])⟩
      rw [ex', kf z (by omega) (by omega) (by omega) (by omega) (by omega) (by omega), ex]
    generalize hR : rdA (X 2) (X 1 1).toNat a ((X 1 1).toNat + 1) (s0R a) = Q at ro rt w0
    match Q, hR, ro, rt, w0 with
    | .inl pl, _, ro, rt, _ => exact bad 1 pl (by decide) ro.1 ro.2 rt.2.1 rt.2.2 rt.1
    | .inr s, _, ro, rt, w0 =>
      obtain ⟨p1, p2, p3⟩ := ro
      obtain ⟨q1, q2, q3, q4, -⟩ := rt
      obtain ⟨w1, w2⟩ := w0 s rfl
      by_cases z0 : s.2.2.1 = 0
      · have q2 : Xr 265 0 = 0 := q2.trans z0
        have q3 : Xr 266 0 = -1 := q3.trans (if_neg (by omega))
        have p1 : Xc 139 3 = 0 := p1.trans z0
        have p2 : Xc 139 4 = -1 := p2.trans (if_pos z0)
        have e3' : X3 = zU (zU (zU Xc 1 1 0) 1 2 0) 1 3 (-1) := by rw [e3, p1, p2]
        obtain ⟨rr, X4, ex, tk⟩ := g2 p1
        obtain ⟨rr', sp1, sp2, sp3⟩ := s2 (by rw [q1]; exact decide_eq_true z0)
        have er : r = r' := by rw [rr, rr', br]
        refine ⟨er, ?_⟩
        have hM := fault 0 (-1) e3' q2 q3 (fun z => if z < 157 then X3 z else Xr z) (fun z hz => if_pos hz) (fun z hz => if_neg (by omega))
        obtain ⟨XM, eM⟩ : ∃ XM : Nat → Int → Int, XM = fun z => if z < 157 then X3 z else Xr z := ⟨_, rfl⟩
        rw [← eM] at hM
        have m1 : ∀ z, z < 157 → XM z = X3 z := fun z hz => by rw [eM]; exact if_pos hz
        have m2 : ∀ z, 157 ≤ z → XM z = Xr z := fun z hz => by rw [eM]; exact if_neg (by omega)
        obtain ⟨rn, ern⟩ : ∃ rn : Nat, r = rn := ⟨r.toNat, by omega⟩
        rw [← er] at sp2 sp3
        rw [← rr] at bm bc bb
        rw [ern] at sp2 sp3 tk ex bm bc bb
        have x67 : Xr 267 = X1 267 := kf 267 (by decide) (by decide) (by decide) (by decide) (by decide) (by decide)
        have z267 : ∀ z, z ≠ 268 + a.toNat → X2 z = zU Xr 267 a (max (X1 267 a) ((rn : Int) + 1)) z := fun z hz => by
          rw [sp1 z hz, show (262 + 5 : Nat) = 267 from rfl]
          rw [show (X1 267 a + if b = -1 then 1 else 0) = max (X1 267 a) ((rn : Int) + 1) from bm]
        refine LI_row (Xa := X3) (X4 := X4) (rn := rn) (s := s.2.1) ba hM (by omega) ?_ (w2 z0) (toldR_e ba (fun z z1 z2 => by rw [m1 z (by omega), o3 z (by omega)]) (p3 z0)) (fun z hz => (m1 z hz).symm) tk (fun z hz => ?_) (fun z z1 z2 z3 => ?_) ⟨fun u hu => ?_, ?_⟩ (fun y y0 y1 => ?_) (fun y hy => ?_)
        · rw [m2 267 (by decide), x67]
          exact bc
        · rw [z267 z (by omega), zU_o (by omega), kf z (by omega) (by omega) (by omega) (by omega) (by omega) (by omega), ex, m1 3 (by decide)]
        · rw [z267 z z3, zU_o z2, m2 z z1]
        · rw [z267 267 (by omega), zU_n (fun q => hu q.2), m2 267 (by decide)]
        · rw [z267 267 (by omega), zU_s, m2 267 (by decide), x67]
        · have g := sp2 y y0 y1
          rw [show X2 (268 + a.toNat) = X2 (262 + 6 + a.toNat) from rfl, g, zU_o (by decide)]
          refine (q4.2.2 z0).1 y y0 ?_
          have : wdT a ≤ 183 := by
            unfold wdT
            repeat' split
            all_goals decide
          omega
        · have g := sp3 y hy
          rw [show X2 (268 + a.toNat) = X2 (262 + 6 + a.toNat) from rfl, g, zU_o (by omega), m2 (268 + a.toNat) (by omega)]
      · exact bad s.2.2.1 s.2.2.2 z0 p1 (p2.trans (if_neg z0)) q2 (q3.trans (if_pos (by omega))) (by rw [q1]; exact decide_eq_false z0)

