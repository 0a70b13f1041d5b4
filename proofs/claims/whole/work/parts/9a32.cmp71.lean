/-! THE LAW'S INVARIANT: images -/
theorem wdO_p : ∀ o : Nat, 1 ≤ o → o ≤ 10 → 0 < wdO o := by
  intro o h1 h2
  have q : o = 1 ∨ o = 2 ∨ o = 3 ∨ o = 4 ∨ o = 5 ∨ o = 6 ∨ o = 7 ∨ o = 8 ∨ o = 9 ∨ o = 10 := by omega
  rcases q with rfl | rfl | rfl | rfl | rfl | rfl | rfl | rfl | rfl | rfl <;> decide
theorem cpO_ne {X X1 : Nat → Int → Int} {i o : Nat} {f t m : Int} (h : cpO X X1 i f t o) (hm : m ≠ t) {y : Int} (y0 : 0 ≤ y) (y1 : y < wdO o) : X1 (i + o) (wdO o * m + y) = X (i + o) (wdO o * m + y) := by
  refine h.2 _ ?_
  have w0 : (0 : Int) ≤ wdO o := by omega
  rcases (show m + 1 ≤ t ∨ t + 1 ≤ m by omega) with g | g
  · left
    have := Int.mul_le_mul_of_nonneg_left g w0
    rw [Int.mul_add] at this
    omega
  · right
    have := Int.mul_le_mul_of_nonneg_left g w0
    rw [Int.mul_add] at this
    omega
theorem cpT_Q {X X1 : Nat → Int → Int} {i j : Nat} (h : cpT X X1 i j) (w : ∀ n : Nat, n < 6 → X (i + 22 + 2 * n) 0 = X (j + 22 + 2 * n) 0 ∧ X (i + 22 + 2 * n) 1 = X (j + 22 + 2 * n) 1) : cpQ X X1 j i := by
  obtain ⟨h1, h2, h3, h4, h5, h6, -⟩ := h
  refine ⟨h1, h2, h3, h4, h5, fun n hn => ⟨⟨?_, ?_, (h6 n hn).1⟩, (h6 n hn).2.2⟩⟩
  · rw [(h6 n hn).2.1 0 (by decide)]
    exact (w n hn).1
  · rw [(h6 n hn).2.1 1 (by decide)]
    exact (w n hn).2
theorem n6 {n : Nat} (h : n < 6) : (∃ k, k < 2 ∧ n = k) ∨ (∃ k, k < 2 ∧ n = 2 + k) ∨ ∃ k, k < 2 ∧ n = 4 + k := by
  by_cases a : n < 2
  · exact Or.inl ⟨n, a, rfl⟩
  · by_cases b : n < 4
    · exact Or.inr (Or.inl ⟨n - 2, by omega, by omega⟩)
    · exact Or.inr (Or.inr ⟨n - 4, by omega, by omega⟩)
/-- all told rows' widths -/
theorem LI_w {X : Nat → Int → Int} (h : LI X) {z : Nat} (hz : z < 3) {n : Nat} (hn : n < 6) : X (36 + 34 * z + 22 + 2 * n) 0 = X (1 + 22 + 2 * n) 0 ∧ X (36 + 34 * z + 22 + 2 * n) 1 = X (1 + 22 + 2 * n) 1 := by
  obtain ⟨-, -, -, -, -, df, dl, dp⟩ := h.1.1
  have lw := h.2.2.1 z hz
  rcases n6 hn with ⟨k, hk, rfl⟩ | ⟨k, hk, rfl⟩ | ⟨k, hk, rfl⟩
  · have a := (df n hk).1.2
    have b := (lw n hk).1
    rw [a.1, a.2]
    exact b
  · have a := (dl k hk).1.2
    have b := (lw k hk).2.1
    rw [show 1 + 22 + 2 * (2 + k) = 1 + 26 + 2 * k by omega, show 36 + 34 * z + 22 + 2 * (2 + k) = 36 + 34 * z + 26 + 2 * k by omega, a.1, a.2]
    exact b
  · have a := (dp k hk).1.2
    have b := (lw k hk).2.2
    rw [show 1 + 22 + 2 * (4 + k) = 1 + 30 + 2 * k by omega, show 36 + 34 * z + 22 + 2 * (4 + k) = 36 + 34 * z + 30 + 2 * k by omega, a.1, a.2]
    exact b
theorem oTb_cp {X X1 : Nat → Int → Int} {f t : Int} (hf : 0 ≤ f ∧ f ≤ 3) (h : cpO X X1 262 f t 1) (b : oTb X 262) : oTb X1 262 := by
  intro y h0 h1
  by_cases q : 600 * t ≤ y ∧ y < 600 * t + 600
  · have g := h.1 (y - 600 * t) (by omega) (by show y - 600 * t < 600; omega)
    have g : X1 (262 + 1) (600 * t + (y - 600 * t)) = X (262 + 1) (600 * f + (y - 600 * t)) := g
    rw [show 600 * t + (y - 600 * t) = y by omega] at g
    rw [g]
    exact b _ (by omega) (by omega)
  · have g : X1 (262 + 1) y = X (262 + 1) y := h.2 y (by show y < 600 * t ∨ 600 * t + 600 ≤ y; omega)
    rw [g]
    exact b y h0 h1
theorem siz_cp {X X1 : Nat → Int → Int} {f t : Int} (hf : 0 ≤ f ∧ f ≤ 3) (h : cpO X X1 262 f t 2) (b : ∀ m : Int, 0 ≤ m → m < 4 → 0 ≤ X 264 m ∧ X 264 m ≤ 600) : ∀ m : Int, 0 ≤ m → m < 4 → 0 ≤ X1 264 m ∧ X1 264 m ≤ 600 := by
  intro m h0 h1
  by_cases q : m = t
  · have g : X1 264 (1 * t + 0) = X 264 (1 * f + 0) := h.1 0 (by decide) (by decide)
    rw [q, show t = 1 * t + 0 by omega, g]
    exact b _ (by omega) (by omega)
  · have g : X1 264 m = X 264 m := h.2 m (by show m < 1 * t ∨ 1 * t + 1 ≤ m; omega)
    rw [g]
    exact b m h0 h1
theorem chI_e {X X1 : Nat → Int → Int} (h : chI X 157) (e : X1 166 = X 166 ∧ X1 168 = X 168) : chI X1 157 := by
  unfold chI at h ⊢
  rw [show X1 (157 + 9) = X (157 + 9) from e.1, show X1 (157 + 11) = X (157 + 11) from e.2]
  exact h
theorem lnV_e {X X1 : Nat → Int → Int} {i : Nat} (h : lnV X i) (e : X1 (i + 11) = X (i + 11)) : lnV X1 i := by
  unfold lnV at h ⊢
  rw [e]
  exact h
/-- image -/
theorem LI_image {X X1 X2 : Nat → Int → Int} {a r r' : Int} (h : LI X)
    (k : ∃ rb : Bool, r = bz rb ∧ (rb = decide (0 ≤ a ∧ a < 3) ∧ (rb = false → X1 = X) ∧ (rb = true → ∃ Xt, cpT X Xt (36 + 34 * a.toNat) 1 ∧ X1 = zU Xt 138 a 1)))
    (k' : ∃ rb : Bool, r' = bz rb ∧ (rb = mIn a 0 2 ∧ (rb = false → X2 = zU X1 262 0 0) ∧ (rb = true → imK X1 X2 262 a))) : r = r' ∧ LI X2 := by
  obtain ⟨rb, hr, hb, kf, kt⟩ := k
  obtain ⟨rb', hr', hb', kf', kt'⟩ := k'
  by_cases c : 0 ≤ a ∧ a < 3
  · have e : rb = true := by rw [hb]; exact decide_eq_true c
    have e' : rb' = true := by rw [hb']; exact mIn_t.mpr (by omega)
    refine ⟨by rw [hr, hr', e, e'], ?_⟩
    obtain ⟨Xt, kt, k1⟩ := kt e
    obtain ⟨i1, i2, i3, i4, i5⟩ := kt' e'
    have LW := fun (z : Nat) (hz : z < 3) (n : Nat) (hn : n < 6) => LI_w h hz hn
    obtain ⟨⟨l1, l2⟩, li, lw, ⟨b0, b1, b2⟩, ls, ⟨lr, ll⟩, lc⟩ := h
    obtain ⟨an, ea⟩ : ∃ an : Nat, a = an := ⟨a.toNat, by omega⟩
    subst ea
    have ean : ((an : Nat) : Int).toNat = an := by omega
    rw [ean] at kt
    have han : an < 3 := by omega
    have cq := cpT_Q kt (fun n hn => LW an han n hn)
    obtain ⟨-, -, -, -, -, kr, kf⟩ := id kt
    -- cells that are kept
    have o1 : ∀ z, (z < 36 + 34 * an ∨ 36 + 34 * an + 33 < z) → z ≠ 138 → X1 z = X z := fun z h1 h2 => by rw [k1, zU_o h2]; exact kf z h1
    have o2 : ∀ z, z ≠ 262 → (z < 263 ∨ 272 < z) → z ≠ 287 → X2 z = X1 z := fun z h1 h2 h3 => i1 z h1 (by omega) h3
    have eR : ∀ z, 263 ≤ z → z ≤ 272 → X1 z = X z := fun z h1 h2 => o1 z (by omega) (by omega)
    have kp : ∀ z, (z < 36 + 34 * an ∨ 36 + 34 * an + 33 < z) → z < 262 → z ≠ 138 → X2 z = X z := fun z h1 h2 h3 => by rw [o2 z (by omega) (by omega) (by omega), o1 z h1 h3]
    have t2 : ∀ z, 36 + 34 * an ≤ z → z ≤ 36 + 34 * an + 33 → X2 z = Xt z := fun z h1 h2 => by rw [o2 z (by omega) (by omega) (by omega), k1, zU_o (by omega)]
    have gM : ∀ m : Int, m ≠ (an : Int) + 1 → cpM X X2 262 m m := fun m hm o o1' o2' y y0 y1 => by
      rw [cpO_ne (i3 o o1' o2') hm y0 y1, eR (262 + o) (by omega) (by omega)]
    have g0 : cpM X X2 262 0 ((an : Int) + 1) := fun o o1' o2' y y0 y1 => by
      rw [(i3 o o1' o2').1 y y0 y1, eR (262 + o) (by omega) (by omega)]
    have cq2 : cpQ X X2 1 (36 + 34 * an) := by
      obtain ⟨a1, a2, a3, a4, a5, a6⟩ := cq
      refine ⟨by rw [t2 _ (by omega) (by omega)]; exact a1, fun y y0 y1 => by rw [t2 _ (by omega) (by omega)]; exact a2 y y0 y1, fun y y0 y1 => by rw [t2 _ (by omega) (by omega)]; exact a3 y y0 y1, fun n hn => ?_, fun n hn => ?_, fun n hn => ?_⟩
      · rw [t2 _ (by omega) (by omega), t2 _ (by omega) (by omega)]
        exact a4 n hn
      · rw [t2 _ (by omega) (by omega), t2 _ (by omega) (by omega)]
        refine ⟨(a5 n hn).1, fun s s1 s2 y y0 y1 => ?_, (a5 n hn).2.2⟩
        rw [t2 _ (by omega) (by omega)]
        exact (a5 n hn).2.1 s s1 s2 y y0 y1
      · rw [t2 _ (by omega) (by omega), t2 _ (by omega) (by omega)]
        exact a6 n hn
    have m0 : (0 : Int) ≠ (an : Int) + 1 := by omega
    refine ⟨⟨tdR_cp (cpQ_rf fun z _ _ => kp z (by omega) (by omega) (by omega)) (gM 0 m0) l2 l1, vAll_cp (gM 0 m0) l2⟩, fun z hz => ?_, fun z hz n hn => ?_, ⟨?_, fun z hz => ?_, oTb_cp (by omega) (i3 1 (by decide) (by decide)) ?_⟩, siz_cp (by omega) (i3 2 (by decide) (by decide)) ?_, ⟨rdV_e (fun z _ _ => kp z (by omega) (by omega) (by omega)) lr, lnV_e ll (kp _ (by omega) (by omega) (by omega))⟩, chI_e lc ⟨kp _ (by omega) (by decide) (by decide), kp _ (by omega) (by decide) (by decide)⟩⟩
    · by_cases q : z = an
      · subst q
        refine ⟨?_, fun _ => ⟨tdR_cp cq2 g0 l2 l1, vAll_cp g0 l2⟩⟩
        rw [o2 138 (by decide) (by decide) (by decide), k1, zU_s]
        exact i4.symm
      · have qi : (z : Int) ≠ an := by omega
        have f8 : X2 138 z = X 138 z := by
          rw [o2 138 (by decide) (by decide) (by decide), k1, zU_n (fun g => qi g.2)]
          rw [kf 138 (by omega)]
        have f7 : X2 287 z = X 287 z := by
          have g : X2 287 z = X1 287 z := i5 z qi
          rw [g, o1 287 (by omega) (by decide)]
        rw [f8, f7]
        refine ⟨(li z hz).1, fun g => ?_⟩
        obtain ⟨t, v⟩ := (li z hz).2 g
        have gz := gM ((z : Int) + 1) (by omega)
        exact ⟨tdR_cp (cpQ_rf fun y y0 y1 => kp y (by omega) (by omega) (by omega)) gz v t, vAll_cp gz v⟩
    · by_cases q : z = an
      · subst q
        have g := lw z hz n hn
        have c0 := kr n (by omega)
        have c2 := kr (2 + n) (by omega)
        have c4 := kr (4 + n) (by omega)
        rw [show 36 + 34 * z + 22 + 2 * (2 + n) = 36 + 34 * z + 26 + 2 * n by omega] at c2
        rw [show 36 + 34 * z + 22 + 2 * (4 + n) = 36 + 34 * z + 30 + 2 * n by omega] at c4
        rw [t2 _ (by omega) (by omega), t2 _ (by omega) (by omega), t2 _ (by omega) (by omega), c0.2.1 0 (by decide), c0.2.1 1 (by decide), c2.2.1 0 (by decide), c2.2.1 1 (by decide), c4.2.1 0 (by decide), c4.2.1 1 (by decide)]
        exact g
      · rw [kp _ (by omega) (by omega) (by omega), kp _ (by omega) (by omega) (by omega), kp _ (by omega) (by omega) (by omega)]
        exact lw z hz n hn
    · rw [kp 2 (by omega) (by decide) (by decide)]
      exact b0
    · by_cases q : z = an
      · subst q
        intro y y0 y1
        rw [t2 _ (by omega) (by omega), kt.2.1 y y0 y1]
        exact b0 y y0 y1
      · rw [kp _ (by omega) (by omega) (by omega)]
        exact b1 z hz
    · intro y y0 y1
      rw [eR (262 + 1) (by decide) (by decide)]
      exact b2 y y0 y1
    · rw [eR 264 (by decide) (by decide)]
      exact ls
  · have e : rb = false := by rw [hb]; exact decide_eq_false c
    have e' : rb' = false := by rw [hb']; exact mIn_f.mpr (by omega)
    refine ⟨by rw [hr, hr', e, e'], ?_⟩
    have k1 := kf e
    have j2 := kf' e'
    subst k1
    exact LI_fr h (fun z hz => by rw [j2, zU_o (by omega)]) (chI_e h.2.2.2.2.2.2 ⟨by rw [j2, zU_o (by decide)], by rw [j2, zU_o (by decide)]⟩) (fun z z0 z1 => by rw [j2, zU_o (by omega)]) (by rw [j2, zU_o (by decide)])
/-- again -/
theorem LI_again {X X1 X2 : Nat → Int → Int} {a r r' : Int} (h : LI X)
    (k : ∃ rb : Bool, r = bz rb ∧ (rb = decide ((0 ≤ a ∧ a < 3) ∧ X 138 a ≠ 0) ∧ (rb = false → X1 = X) ∧ (rb = true → cpT X X1 1 (36 + 34 * a.toNat))))
    (k' : ∃ rb : Bool, r' = bz rb ∧ (rb = (mIn a 0 2 && decide (X1 287 a ≠ 0)) ∧ (rb = false → X2 = zU X1 262 0 0) ∧ (rb = true → agK X1 X2 262 a))) : r = r' ∧ LI X2 := by
  obtain ⟨rb, hr, hb, kf, kt⟩ := k
  obtain ⟨rb', hr', hb', kf', kt'⟩ := k'
  by_cases c : (0 ≤ a ∧ a < 3) ∧ X 138 a ≠ 0
  · have e : rb = true := by rw [hb]; exact decide_eq_true c
    have kt := kt e
    obtain ⟨⟨c0, c1⟩, c2⟩ := c
    obtain ⟨an, ea⟩ : ∃ an : Nat, a = an := ⟨a.toNat, by omega⟩
    subst ea
    have ean : ((an : Nat) : Int).toNat = an := by omega
    rw [ean] at kt
    have han : an < 3 := by omega
    have LW := fun (z : Nat) (hz : z < 3) (n : Nat) (hn : n < 6) => LI_w h hz hn
    obtain ⟨⟨l1, l2⟩, li, lw, ⟨b0, b1, b2⟩, ls, ⟨lr, ll⟩, lc⟩ := h
    obtain ⟨-, -, -, -, -, kr, kf⟩ := id kt
    have k7 : X1 287 = X 287 := kf 287 (Or.inr (by decide))
    have s7 : X 287 (an : Int) ≠ 0 := by rw [← (li an han).1]; exact c2
    have e' : rb' = true := by
      rw [hb', k7, mIn_t.mpr (by omega), decide_eq_true s7]
      rfl
    refine ⟨by rw [hr, hr', e, e'], ?_⟩
    obtain ⟨i1, i2, i3⟩ := kt' e'
    obtain ⟨ti, vi⟩ := (li an han).2 s7
    have cq := cpT_Q kt (fun n hn => ⟨(LW an han n hn).1.symm, (LW an han n hn).2.symm⟩)
    have o1 : ∀ z, (z < 1 ∨ 34 < z) → X1 z = X z := fun z h1 => kf z (by omega)
    have o2 : ∀ z, z ≠ 262 → (z < 263 ∨ 272 < z) → X2 z = X1 z := fun z h1 h2 => i1 z h1 (by omega)
    have eR : ∀ z, 263 ≤ z → z ≤ 272 → X1 z = X z := fun z h1 h2 => o1 z (by omega)
    have kp : ∀ z, 34 < z → z < 262 → X2 z = X z := fun z h1 h2 => by rw [o2 z (by omega) (by omega), o1 z (by omega)]
    have t2 : ∀ z, z ≤ 34 → X2 z = X1 z := fun z h2 => o2 z (by omega) (by omega)
    have gM : ∀ m : Int, m ≠ 0 → cpM X X2 262 m m := fun m hm o o1' o2' y y0 y1 => by
      rw [cpO_ne (i3 o o1' o2') hm y0 y1, eR (262 + o) (by omega) (by omega)]
    have g0 : cpM X X2 262 ((an : Int) + 1) 0 := fun o o1' o2' y y0 y1 => by
      rw [(i3 o o1' o2').1 y y0 y1, eR (262 + o) (by omega) (by omega)]
    have cq2 : cpQ X X2 (36 + 34 * an) 1 := by
      obtain ⟨a1, a2, a3, a4, a5, a6⟩ := cq
      refine ⟨by rw [t2 _ (by omega)]; exact a1, fun y y0 y1 => by rw [t2 _ (by omega)]; exact a2 y y0 y1, fun y y0 y1 => by rw [t2 _ (by omega)]; exact a3 y y0 y1, fun n hn => ?_, fun n hn => ?_, fun n hn => ?_⟩
      · rw [t2 _ (by omega), t2 _ (by omega)]
        exact a4 n hn
      · rw [t2 _ (by omega), t2 _ (by omega)]
        refine ⟨(a5 n hn).1, fun s s1 s2 y y0 y1 => ?_, (a5 n hn).2.2⟩
        rw [t2 _ (by omega)]
        exact (a5 n hn).2.1 s s1 s2 y y0 y1
      · rw [t2 _ (by omega), t2 _ (by omega)]
        exact a6 n hn
    refine ⟨⟨tdR_cp cq2 g0 vi ti, vAll_cp g0 vi⟩, fun z hz => ?_, fun z hz n hn => ?_, ⟨fun y y0 y1 => ?_, fun z hz => ?_, oTb_cp (by omega) (i3 1 (by decide) (by decide)) ?_⟩, siz_cp (by omega) (i3 2 (by decide) (by decide)) ?_, ⟨rdV_e (fun z _ _ => kp z (by omega) (by omega)) lr, lnV_e ll (kp _ (by omega) (by omega))⟩, chI_e lc ⟨kp _ (by decide) (by decide), kp _ (by decide) (by decide)⟩⟩
    · have f7 : X2 287 = X 287 := by rw [o2 287 (by decide) (by decide), k7]
      rw [kp 138 (by decide) (by decide), f7]
      refine ⟨(li z hz).1, fun g => ?_⟩
      obtain ⟨t, v⟩ := (li z hz).2 g
      have gz := gM ((z : Int) + 1) (by omega)
      exact ⟨tdR_cp (cpQ_rf fun y y0 y1 => kp y (by omega) (by omega)) gz v t, vAll_cp gz v⟩
    · rw [kp _ (by omega) (by omega), kp _ (by omega) (by omega), kp _ (by omega) (by omega)]
      exact lw z hz n hn
    · rw [t2 2 (by decide)]
      have g : X1 2 y = X (36 + 34 * an + 1) y := kt.2.1 y y0 y1
      rw [g]
      exact b1 an han y y0 y1
    · rw [kp _ (by omega) (by omega)]
      exact b1 z hz
    · intro y y0 y1
      rw [eR (262 + 1) (by decide) (by decide)]
      exact b2 y y0 y1
    · rw [eR 264 (by decide) (by decide)]
      exact ls
  · have e : rb = false := by rw [hb]; exact decide_eq_false c
    have k1 := kf e
    subst k1
    have e' : rb' = false := by
      rw [hb']
      by_cases g : 0 ≤ a ∧ a < 3
      · obtain ⟨an, ea⟩ : ∃ an : Nat, a = an := ⟨a.toNat, by omega⟩
        subst ea
        have q := (h.2.1 an (by omega)).1
        have z7 : X1 287 (an : Int) = 0 := by
          rw [← q]
          by_cases w : X1 138 (an : Int) = 0
          · exact w
          · exact absurd ⟨g, w⟩ c
        rw [z7, Bool.and_eq_false_iff]
        exact Or.inr (decide_eq_false (fun x => x rfl))
      · rw [mIn_f.mpr (by omega)]
        rfl
    refine ⟨by rw [hr, hr', e, e'], ?_⟩
    have j2 := kf' e'
    exact LI_fr h (fun z hz => by rw [j2, zU_o (by omega)]) (chI_e h.2.2.2.2.2.2 ⟨by rw [j2, zU_o (by decide)], by rw [j2, zU_o (by decide)]⟩) (fun z z0 z1 => by rw [j2, zU_o (by omega)]) (by rw [j2, zU_o (by decide)])

