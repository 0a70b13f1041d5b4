/-! WHAT HOLDS BETWEEN CALLS: told rows in bounds, of every image -/
def vCc (t : Int → Int) : Prop := (0 ≤ t 0 ∧ t 0 ≤ 14) ∧ ∀ k, 1 ≤ k → k ≤ t 0 → vBk t k
/-- image m's told rows (0: now) -/
def vAll (X : Nat → Int → Int) (i : Nat) (m : Int) : Prop := (∀ s : Int, 0 ≤ s → s < 5 → 0 ≤ X (i + 5) (5 * m + s) ∧ X (i + 5) (5 * m + s) ≤ 2) ∧
  (∀ n : Int, 0 ≤ n → n < X (i + 5) (5 * m + 0) → vNt (fun y => X (i + 6) (26 * m + 13 * n + y))) ∧ (∀ n : Int, 0 ≤ n → n < X (i + 5) (5 * m + 1) → vCc (fun y => X (i + 7) (366 * m + 183 * n + y))) ∧
  (∀ n : Int, 0 ≤ n → n < X (i + 5) (5 * m + 2) → vFd (fun y => X (i + 8) (162 * m + 81 * n + y))) ∧ (∀ n : Int, 0 ≤ n → n < X (i + 5) (5 * m + 3) → vLg (fun y => X (i + 9) (34 * m + 17 * n + y))) ∧ ∀ n : Int, 0 ≤ n → n < X (i + 5) (5 * m + 4) → vPo (fun y => X (i + 10) (50 * m + 25 * n + y))
theorem vNt_g {t t1 : Int → Int} (h : ∀ y : Int, 0 ≤ y → y < 13 → t1 y = t y) (v : vNt t) : vNt t1 := by
  obtain ⟨a0, a1, a2, a3, a4, a5, a6, aa⟩ := v
  refine ⟨?_, ?_, ?_, ?_, ?_, ?_, ?_, fun a h0 h1 => ?_⟩
  · rw [h 0 (by decide) (by decide)]; exact a0
  · rw [h 1 (by decide) (by decide)]; exact a1
  · rw [h 2 (by decide) (by decide)]; exact a2
  · rw [h 3 (by decide) (by decide)]; exact a3
  · rw [h 4 (by decide) (by decide)]; exact a4
  · rw [h 5 (by decide) (by decide)]; exact a5
  · rw [h 6 (by decide) (by decide)]; exact a6
  · rw [h _ (by omega) (by omega)]; exact aa a h0 h1
theorem vCc_g {t t1 : Int → Int} (h : ∀ y : Int, 0 ≤ y → y < 183 → t1 y = t y) (v : vCc t) : vCc t1 := by
  obtain ⟨a0, ab⟩ := v
  have e0 := h 0 (by decide) (by decide)
  refine ⟨by rw [e0]; exact a0, fun k h1 h2 => vBk_g (fun w w0 w1 => h _ (by omega) (by omega)) (ab k h1 (by omega))⟩
theorem vFd_g {t t1 : Int → Int} (h : ∀ y : Int, 0 ≤ y → y < 81 → t1 y = t y) (v : vFd t) : vFd t1 := by
  obtain ⟨a0, ab⟩ := v
  have e0 := h 0 (by decide) (by decide)
  refine ⟨by rw [e0]; exact a0, fun j h1 h2 => ?_⟩
  rw [h _ (by omega) (by omega), h _ (by omega) (by omega)]
  exact ab j h1 (by omega)
theorem vLg_g {t t1 : Int → Int} (h : ∀ y : Int, 0 ≤ y → y < 17 → t1 y = t y) (v : vLg t) : vLg t1 := by
  obtain ⟨a0, ab⟩ := v
  have e0 := h 0 (by decide) (by decide)
  refine ⟨by rw [e0]; exact a0, fun j h1 h2 => ?_⟩
  rw [h _ (by omega) (by omega), h _ (by omega) (by omega)]
  exact ab j h1 (by omega)
theorem vPo_g {t t1 : Int → Int} (h : ∀ y : Int, 0 ≤ y → y < 25 → t1 y = t y) (v : vPo t) : vPo t1 := by
  obtain ⟨a0, ab⟩ := v
  have e0 := h 0 (by decide) (by decide)
  refine ⟨by rw [e0]; exact a0, fun j h1 h2 => ?_⟩
  rw [h _ (by omega) (by omega), h _ (by omega) (by omega), h _ (by omega) (by omega), h _ (by omega) (by omega)]
  exact ab j h1 (by omega)
/-- image m of X1 is image k of X -/
def cpM (X X1 : Nat → Int → Int) (i : Nat) (k m : Int) : Prop := ∀ o : Nat, 1 ≤ o → o ≤ 10 → ∀ y : Int, 0 ≤ y → y < wdO o → X1 (i + o) (wdO o * m + y) = X (i + o) (wdO o * k + y)
theorem cpM_rf {X X1 : Nat → Int → Int} {i : Nat} {m : Int} (e : ∀ z, i + 1 ≤ z → z ≤ i + 10 → X1 z = X z) : cpM X X1 i m m := fun o h1 h2 y _ _ => by rw [e (i + o) (by omega) (by omega)]
theorem vAll_cp {X X1 : Nat → Int → Int} {i : Nat} {k m : Int} (h : cpM X X1 i k m) (v : vAll X i k) : vAll X1 i m := by
  obtain ⟨vc, v0, v1, v2, v3, v4⟩ := v
  have hc : ∀ s : Int, 0 ≤ s → s < 5 → X1 (i + 5) (5 * m + s) = X (i + 5) (5 * k + s) := h 5 (by decide) (by decide)
  refine ⟨fun s h0 h1 => ?_, fun n h0 h1 => ?_, fun n h0 h1 => ?_, fun n h0 h1 => ?_, fun n h0 h1 => ?_, fun n h0 h1 => ?_⟩
  · rw [hc s h0 h1]
    exact vc s h0 h1
  · rw [hc 0 (by decide) (by decide)] at h1
    have := vc 0 (by decide) (by decide)
    refine vNt_g (fun y y0 y1 => ?_) (v0 n h0 h1)
    have g := h 6 (by decide) (by decide) (13 * n + y) (by omega) (by show 13 * n + y < 26; omega)
    rw [Int.add_assoc, Int.add_assoc]
    exact g
  · rw [hc 1 (by decide) (by decide)] at h1
    have := vc 1 (by decide) (by decide)
    refine vCc_g (fun y y0 y1 => ?_) (v1 n h0 h1)
    have g := h 7 (by decide) (by decide) (183 * n + y) (by omega) (by show 183 * n + y < 366; omega)
    rw [Int.add_assoc, Int.add_assoc]
    exact g
  · rw [hc 2 (by decide) (by decide)] at h1
    have := vc 2 (by decide) (by decide)
    refine vFd_g (fun y y0 y1 => ?_) (v2 n h0 h1)
    have g := h 8 (by decide) (by decide) (81 * n + y) (by omega) (by show 81 * n + y < 162; omega)
    rw [Int.add_assoc, Int.add_assoc]
    exact g
  · rw [hc 3 (by decide) (by decide)] at h1
    have := vc 3 (by decide) (by decide)
    refine vLg_g (fun y y0 y1 => ?_) (v3 n h0 h1)
    have g := h 9 (by decide) (by decide) (17 * n + y) (by omega) (by show 17 * n + y < 34; omega)
    rw [Int.add_assoc, Int.add_assoc]
    exact g
  · rw [hc 4 (by decide) (by decide)] at h1
    have := vc 4 (by decide) (by decide)
    refine vPo_g (fun y y0 y1 => ?_) (v4 n h0 h1)
    have g := h 10 (by decide) (by decide) (25 * n + y) (by omega) (by show 25 * n + y < 50; omega)
    rw [Int.add_assoc, Int.add_assoc]
    exact g
/-- what the methods ask for -/
theorem vAll_o {X : Nat → Int → Int} {i : Nat} (v : vAll X i 0) : oTN X i ∧ oTF X i ∧ oTLg X i ∧ oTPo X i := by
  obtain ⟨vc, v0, v1, v2, v3, v4⟩ := v
  have hc : ∀ s : Int, X (i + 5) (5 * 0 + s) = X (i + 5) s := fun s => by rw [show (5 : Int) * 0 + s = s by omega]
  refine ⟨⟨fun s h0 h1 => by rw [← hc]; exact vc s h0 h1, fun n h0 h1 => ?_, fun n h0 h1 => ?_⟩, fun n h0 h1 => ?_, fun n h0 h1 => ?_, fun n h0 h1 => ?_⟩
  · have b := v0 n h0 (by rw [hc]; exact h1)
    have e : ∀ y : Int, X (i + 6) (26 * 0 + 13 * n + y) = X (i + 6) (13 * n + y) := fun y => by rw [show (26 : Int) * 0 + 13 * n + y = 13 * n + y by omega]
    obtain ⟨a0, a1, a2, a3, a4, a5, a6, aa⟩ := b
    have a0 : 1 ≤ X (i + 6) (26 * 0 + 13 * n + 0) ∧ X (i + 6) (26 * 0 + 13 * n + 0) ≤ 9 := a0
    have a1 : 1 ≤ X (i + 6) (26 * 0 + 13 * n + 1) ∧ X (i + 6) (26 * 0 + 13 * n + 1) ≤ 99 := a1
    have a2 : 1 ≤ X (i + 6) (26 * 0 + 13 * n + 2) ∧ X (i + 6) (26 * 0 + 13 * n + 2) ≤ 99 := a2
    have a3 : 0 ≤ X (i + 6) (26 * 0 + 13 * n + 3) ∧ X (i + 6) (26 * 0 + 13 * n + 3) ≤ 1 := a3
    have a4 : 0 ≤ X (i + 6) (26 * 0 + 13 * n + 4) ∧ X (i + 6) (26 * 0 + 13 * n + 4) ≤ 1 := a4
    have a5 : 0 ≤ X (i + 6) (26 * 0 + 13 * n + 5) ∧ X (i + 6) (26 * 0 + 13 * n + 5) ≤ 99 := a5
    have a6 : 0 ≤ X (i + 6) (26 * 0 + 13 * n + 6) ∧ X (i + 6) (26 * 0 + 13 * n + 6) ≤ 6 := a6
    rw [e] at a0 a1 a2 a3 a4 a5 a6
    rw [Int.add_zero] at a0
    refine ⟨a0, a1, a2, a3, a4, a5, a6, fun a g0 g1 => ?_⟩
    rw [← e]
    exact aa a g0 g1
  · obtain ⟨b0, bk⟩ := v1 n h0 (by rw [hc]; exact h1)
    have e : ∀ y : Int, X (i + 7) (366 * 0 + 183 * n + y) = X (i + 7) (183 * n + y) := fun y => by rw [show (366 : Int) * 0 + 183 * n + y = 183 * n + y by omega]
    have b0 : 0 ≤ X (i + 7) (366 * 0 + 183 * n + 0) ∧ X (i + 7) (366 * 0 + 183 * n + 0) ≤ 14 := b0
    have bk : ∀ k, 1 ≤ k → k ≤ X (i + 7) (366 * 0 + 183 * n + 0) → vBk (fun y => X (i + 7) (366 * 0 + 183 * n + y)) k := bk
    rw [e, Int.add_zero] at b0 bk
    have ew : ∀ k w : Int, bE (fun y => X (i + 7) (366 * 0 + 183 * n + y)) k w = cE X i n k w := fun k w => by
      show X (i + 7) (366 * 0 + 183 * n + (1 + 13 * (k - 1) + w)) = X (i + 7) (183 * n + 1 + 13 * (k - 1) + w)
      congr 1
      omega
    refine ⟨b0, fun k k0 k1 => ?_⟩
    obtain ⟨c0, c1, c2, c3, cj⟩ := bk k k0 k1
    rw [ew] at c0 c1 c2 c3
    refine ⟨c0, c1, c2, c3, fun j hj => ?_⟩
    have d := cj j (by rw [ew]; exact hj)
    rw [ew, ew, ew] at d
    exact d
  · obtain ⟨b0, bk⟩ := v2 n h0 (by rw [hc]; exact h1)
    have e : ∀ y : Int, X (i + 8) (162 * 0 + 81 * n + y) = X (i + 8) (81 * n + y) := fun y => by rw [show (162 : Int) * 0 + 81 * n + y = 81 * n + y by omega]
    have b0 : 0 ≤ X (i + 8) (162 * 0 + 81 * n + 0) ∧ X (i + 8) (162 * 0 + 81 * n + 0) ≤ 40 := b0
    rw [e, Int.add_zero] at b0
    refine ⟨b0, fun j j0 j1 => ?_⟩
    have d := bk j j0 (by show j < X (i + 8) (162 * 0 + 81 * n + 0); rw [e, Int.add_zero]; exact j1)
    have ex : ∀ x : Int, X (i + 8) (162 * 0 + 81 * n + (1 + 2 * j + x)) = X (i + 8) (81 * n + 1 + 2 * j + x) := fun x => by congr 1; omega
    simp only [ex] at d
    exact d
  · obtain ⟨b0, bk⟩ := v3 n h0 (by rw [hc]; exact h1)
    have e : ∀ y : Int, X (i + 9) (34 * 0 + 17 * n + y) = X (i + 9) (17 * n + y) := fun y => by rw [show (34 : Int) * 0 + 17 * n + y = 17 * n + y by omega]
    have b0 : 0 ≤ X (i + 9) (34 * 0 + 17 * n + 0) ∧ X (i + 9) (34 * 0 + 17 * n + 0) ≤ 8 := b0
    rw [e, Int.add_zero] at b0
    refine ⟨b0, fun j j0 j1 => ?_⟩
    have d := bk j j0 (by show j < X (i + 9) (34 * 0 + 17 * n + 0); rw [e, Int.add_zero]; exact j1)
    have ex : ∀ x : Int, X (i + 9) (34 * 0 + 17 * n + (1 + 2 * j + x)) = X (i + 9) (17 * n + 1 + 2 * j + x) := fun x => by congr 1; omega
    simp only [ex] at d
    exact d
  · obtain ⟨b0, bk⟩ := v4 n h0 (by rw [hc]; exact h1)
    have e : ∀ y : Int, X (i + 10) (50 * 0 + 25 * n + y) = X (i + 10) (25 * n + y) := fun y => by rw [show (50 : Int) * 0 + 25 * n + y = 25 * n + y by omega]
    have b0 : 0 ≤ X (i + 10) (50 * 0 + 25 * n + 0) ∧ X (i + 10) (50 * 0 + 25 * n + 0) ≤ 6 := b0
    rw [e, Int.add_zero] at b0
    refine ⟨b0, fun j j0 j1 => ?_⟩
    have d := bk j j0 (by show j < X (i + 10) (50 * 0 + 25 * n + 0); rw [e, Int.add_zero]; exact j1)
    have ex : ∀ x : Int, X (i + 10) (50 * 0 + 25 * n + (1 + 4 * j + x)) = X (i + 10) (25 * n + 1 + 4 * j + x) := fun x => by congr 1; omega
    simp only [ex] at d
    exact d

