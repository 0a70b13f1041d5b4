/-! A LINE IS READ -/
/-- the token at hand -/
def rtA (X : Nat → Int → Int) (i j p : Nat) : Prop := X i 8 = tkB (X j) (X i 6).toNat p ∧ X i 7 = tkN (X j) (X i 6).toNat p ∧ X i 9 = cTk (tkS (X j) (X i 6).toNat p) ∧ (tkS (X j) (X i 6).toNat p = 3 → X i 10 = tkV (X j) (X i 6).toNat p)
def crS (X : Nat → Int → Int) (i j : Nat) (a : Int) (s : rST) : Prop := (s.1 ≤ (X i 6).toNat ∧ rtA X i j s.1) ∧ (X i 3 = s.2.2.1 ∧ (s.2.2.1 ≠ 0 → X i 4 = s.2.2.2)) ∧ (s.2.2.1 = 0 → toldR X i a s.2.1)
def lnV (X : Nat → Int → Int) (i : Nat) : Prop := ∀ k : Int, 0 ≤ k → k < 4 → 0 ≤ X (i + 11) k ∧ X (i + 11) k ≤ 99
/-- what reading leaves -/
def rcK (X X1 : Nat → Int → Int) (i : Nat) : Prop := (∀ z, (z < i ∨ i + 17 < z) → X1 z = X z) ∧ ∀ s, (s < 3 ∨ s = 5 ∨ s = 6 ∨ 10 < s) → X1 i s = X i s
theorem rcK.rf {X : Nat → Int → Int} {i : Nat} : rcK X X i := ⟨fun _ _ => rfl, fun _ _ => rfl⟩
theorem rcK.tr {X X1 X2 : Nat → Int → Int} {i : Nat} (h : rcK X X1 i) (g : rcK X1 X2 i) : rcK X X2 i := ⟨fun z hz => (g.1 z hz).trans (h.1 z hz), fun s hs => (g.2 s hs).trans (h.2 s hs)⟩
/-- what a line comes to -/
def rlP (X1 : Nat → Int → Int) (i j : Nat) (a : Int) (T : Int → Int) (n : Nat) (r : Bool) : Int ⊕ rST → Prop
  | .inl pl => r = false ∧ X1 i 3 = 1 ∧ X1 i 4 = pl
  | .inr s' => if tkS T n s'.1 = 4 then r = true ∧ crS X1 i j a (tkN T n s'.1, s'.2) else r = false ∧ X1 i 3 = 1 ∧ X1 i 4 = tkB T n s'.1
theorem cTk_w {k : Int} (h : cTk k = 0) : k = 2 := by
  unfold cTk at h
  repeat' split at h
  all_goals omega
theorem cTk_n {k : Int} : cTk k = 1 ↔ k = 3 := by
  unfold cTk
  repeat' split
  all_goals omega
theorem cTk_m {k : Int} : cTk k = 2 ↔ k = 4 := by
  unfold cTk
  repeat' split
  all_goals omega
theorem cTk_e {k : Int} : cTk k = 3 ↔ k = 0 := by
  unfold cTk
  repeat' split
  all_goals omega
theorem ncN_4 (a : Int) : 1 ≤ ncN a ∧ ncN a ≤ 4 := by
  unfold ncN
  repeat' split
  all_goals decide
theorem kwN_b (a w : Int) : -1 ≤ kwN a w ∧ kwN a w ≤ 6 ∧ (a = 1 → kwN a w ≤ 1) ∧ (a = 2 → kwN a w ≤ 3) := by
  unfold kwN
  by_cases h0 : a = 0
  · rw [if_pos h0]
    repeat' split
    all_goals omega
  · rw [if_neg h0]
    by_cases h1 : a = 1
    · rw [if_pos h1]
      repeat' split
      all_goals omega
    · rw [if_neg h1]
      by_cases h2 : a = 2
      · rw [if_pos h2]
        repeat' split
        all_goals omega
      · rw [if_neg h2]
        repeat' split
        all_goals omega
theorem kwN_0 (a : Int) (ha : 0 ≤ a ∧ a ≤ 4) : kwN a 0 = -1 := by
  have h : ∀ k : Nat, k ≤ 4 → kwN k 0 = -1 := by decide
  have := h a.toNat (by omega)
  rwa [show ((a.toNat : Nat) : Int) = a by omega] at this
theorem upS_f {t : Int → Int} {a : Int} {v v' : Nat → Int} {q : Nat} (h : ∀ j, j < q → v j = v' j) : upS t a v q = upS t a v' q := funext fun y => upS_c rfl q h
theorem tlN_f {a w : Int} {v v' : Nat → Int} {s : (Int → Int) × Int} (ha : 0 ≤ a ∧ a ≤ 4) (h : ∀ j, j < ncN a → v j = v' j) : tlN a w v s = tlN a w v' s := by
  unfold tlN
  by_cases h0 : a = 0
  · subst h0
    rw [if_pos rfl, if_pos rfl, h 0 (by decide)]
  · rw [if_neg h0, if_neg h0]
    by_cases h1 : a = 1
    · subst h1
      have e : ∀ (t : Int → Int) b, upS t b v 3 = upS t b v' 3 := fun t b => upS_f (fun j hj => h j (by show j < 3; omega))
      rw [if_pos rfl, if_pos rfl, e, e]
    · rw [if_neg h1, if_neg h1]
      by_cases h2 : a = 2
      · subst h2
        rw [if_pos rfl, if_pos rfl, h 0 (by decide)]
      · rw [if_neg h2, if_neg h2]
        by_cases h3 : a = 3
        · subst h3
          have e : ∀ (t : Int → Int) b, upS t b v 2 = upS t b v' 2 := fun t b => upS_f (fun j hj => h j (by show j < 2; omega))
          rw [if_pos rfl, if_pos rfl, e]
        · rw [if_neg h3, if_neg h3]
          obtain rfl : a = 4 := by omega
          have e : ∀ (t : Int → Int) b, upS t b v 4 = upS t b v' 4 := fun t b => upS_f (fun j hj => h j (by show j < 4; omega))
          rw [e]
section RO
variable {X X1 : Nat → Int → Int} {i : Nat}
theorem rdV_o (e : ∀ z, z ≠ i → z ≠ i + 11 → X1 z = X z) (h : rdV X i) : rdV X1 i := ⟨vN_k (e _ (by omega) (by omega)) (e _ (by omega) (by omega)) h, vB_k (fun z h1 h2 => e z (by omega) (by omega)) h, vR_k (e _ (by omega) (by omega)) h.2.2.1, vR_k (e _ (by omega) (by omega)) h.2.2.2.1, vR_k (e _ (by omega) (by omega)) h.2.2.2.2⟩
theorem toldR_o {a : Int} {s : (Int → Int) × Int} (ha : 0 ≤ a ∧ a ≤ 4) (e : ∀ z, z ≠ i → z ≠ i + 11 → X1 z = X z) (h : toldR X i a s) : toldR X1 i a s := by
  unfold toldR at h ⊢
  by_cases h0 : a = 0
  · rw [if_pos h0] at h ⊢
    unfold tNt
    rw [e (i + 1) (by omega) (by omega), e (i + 1 + 1) (by omega) (by omega)]
    exact h
  · rw [if_neg h0] at h ⊢
    by_cases h1 : a = 1
    · rw [if_pos h1] at h ⊢
      unfold tBl
      rw [e (i + 3) (by omega) (by omega), e (i + 3 + 1) (by omega) (by omega), e (i + 3 + 2) (by omega) (by omega), e (i + 3 + 3) (by omega) (by omega), e (i + 3 + 4) (by omega) (by omega), e (i + 3 + 5) (by omega) (by omega)]
      exact h
    · rw [if_neg h1] at h ⊢
      unfold tRw
      rw [e (i + 12 + 2 * (a - 2).toNat) (by omega) (by omega), e (i + 12 + 2 * (a - 2).toNat + 1) (by omega) (by omega)]
      exact h
theorem tmB_o {a b : Int} (e : ∀ z, z ≠ i → z ≠ i + 11 → X1 z = X z) : tmB X1 i a b = tmB X i a b := by
  unfold tmB
  rw [e (i + 1) (by omega) (by omega), e (i + 3) (by omega) (by omega), e (i + 7) (by omega) (by omega), e (i + 12 + 2 * (a - 2).toNat) (by omega) (by omega)]
theorem lnV_o (e : X1 (i + 11) = X (i + 11)) (h : lnV X i) : lnV X1 i := by
  unfold lnV
  rw [e]
  exact h
/-- whether there are too many, as the document has it -/
theorem tm_eq {a w : Int} {s : (Int → Int) × Int} (ha : 0 ≤ a ∧ a ≤ 4) (hv : rdV X i) (h : toldR X i a s) : tmB X i a w = fuN a w s.1 s.2 := by
  unfold toldR at h
  unfold tmB fuN
  by_cases h0 : a = 0
  · rw [if_pos h0] at h ⊢
    rw [if_pos h0, ← h.1 6 (by decide) (by decide)]
    have := hv.1.1
    rw [← Bool.decide_and]
    exact decide_eq_decide.mpr ⟨fun g => ⟨g.1, by omega⟩, fun g => ⟨g.1, by omega⟩⟩
  · rw [if_neg h0] at h ⊢
    rw [if_neg h0]
    by_cases h1 : a = 1
    · rw [if_pos h1] at h ⊢
      rw [if_pos h1]
      obtain ⟨⟨t0, t2⟩, tk⟩ := h
      have b30 := hv.2.1.1
      by_cases hw : w = 0
      · rw [if_pos hw, if_pos hw, ← t0]
        exact decide_eq_decide.mpr ⟨fun g => by omega, fun g => by omega⟩
      · rw [if_neg hw, if_neg hw]
        by_cases l0 : s.1 0 = 0
        · rw [if_pos l0] at t2
          rw [decide_eq_false (fun g => absurd g.1 (by omega)), decide_eq_true t2]
          rfl
        · rw [if_neg l0] at t2
          have g := (tk (s.1 0) (by omega) (Int.le_refl _)).1.2.2.2
          rw [show 1 + 13 * (s.1 0 - 1) + 3 = s.2 by omega, ← t0] at g
          have g : X (i + 7) (X (i + 3) 0) = s.1 s.2 := g
          have p3 := hv.2.1.2.2 (X (i + 3) 0) (by omega) (by omega)
          rw [← g, decide_eq_false (show ¬ s.2 = 0 by omega), Bool.false_or]
          by_cases c : X (i + 7) (X (i + 3) 0) = 3
          · rw [decide_eq_true c, decide_eq_false (fun q => absurd q.2.2 (by omega))]
            rfl
          · rw [decide_eq_false c, decide_eq_true ⟨by omega, by omega, by omega⟩]
            rfl
    · rw [if_neg h1] at h ⊢
      rw [if_neg h1, ← h.1]
      obtain ⟨r1, r2, r3⟩ := hv.2.2
      have e : a = 2 ∨ a = 3 ∨ a = 4 := by omega
      rcases e with rfl | rfl | rfl
      · rw [if_pos rfl]
        have o := r1.1.2.1
        have m := r1.2.2
        exact decide_eq_decide.mpr ⟨fun g => by have g : X (i + 12) 2 = X (i + 12) 1 := g; show 40 ≤ X (i + 12) 2; omega, fun g => by have g : 40 ≤ X (i + 12) 2 := g; show X (i + 12) 2 = X (i + 12) 1; omega⟩
      · rw [if_neg (by decide), if_pos rfl]
        have o := r2.1.2.1
        have m := r2.2.2
        exact decide_eq_decide.mpr ⟨fun g => by have g : X (i + 14) 2 = X (i + 14) 1 := g; show 8 ≤ X (i + 14) 2; omega, fun g => by have g : 8 ≤ X (i + 14) 2 := g; show X (i + 14) 2 = X (i + 14) 1; omega⟩
      · rw [if_neg (by decide), if_neg (by decide)]
        have o := r3.1.2.1
        have m := r3.2.2
        exact decide_eq_decide.mpr ⟨fun g => by have g : X (i + 16) 2 = X (i + 16) 1 := g; show 6 ≤ X (i + 16) 2; omega, fun g => by have g : 6 ≤ X (i + 16) 2 := g; show X (i + 16) 2 = X (i + 16) 1; omega⟩
theorem nl_f : nlF 0 = 1 ∧ nlF 1 = 1 ∧ nlF 2 = 1 ∧ nlF 3 = 0 ∧ nlF 4 = 0 ∧ nlF 5 = 0 ∧ nlF 6 = 0 ∧ nmF 0 = 9 ∧ nmF 1 = 99 ∧ nmF 2 = 99 ∧ nmF 3 = 1 ∧ nmF 4 = 1 ∧ nmF 5 = 99 ∧ nmF 6 = 99 := by decide
/-- whether a number can be, as the document has it -/
theorem cb_eq {a w g v0 : Int} {s : (Int → Int) × Int} (ha : 0 ≤ a ∧ a ≤ 4) (hw : 0 ≤ w ∧ w ≤ 6 ∧ (a = 1 → w ≤ 1)) (hg : 0 ≤ g ∧ g < 4 ∧ (a = 1 → g < 3)) (hv : 0 ≤ X i 10 ∧ X i 10 ≤ 99) (h0 : X (i + 11) 0 = v0) (h : toldR X i a s) : cbB X i a w g = cbN a w g (X i 10) v0 s.1 := by
  unfold toldR at h
  have P : cbP X i g = if g = 0 then mIn (X i 10) 0 5 else if g = 1 then mIn (X i 10) 0 5 && decide (X i 10 ≠ v0) else if g = 2 then mIn (X i 10) 1 99 else mIn (X i 10) 0 9 := by
    unfold cbP mIn
    rw [h0]
    by_cases g0 : g = 0
    · rw [if_pos g0, if_pos g0]
      exact decide_eq_decide.mpr ⟨fun _ => ⟨by omega, by omega⟩, fun q => by omega⟩
    · rw [if_neg g0, if_neg g0]
      by_cases g1 : g = 1
      · rw [if_pos g1, if_pos g1, ← Bool.decide_and]
        exact decide_eq_decide.mpr ⟨fun q => ⟨⟨by omega, by omega⟩, q.2⟩, fun q => ⟨by omega, q.2⟩⟩
      · rw [if_neg g1, if_neg g1]
        by_cases g2 : g = 2
        · rw [if_pos g2, if_pos g2]
          exact decide_eq_decide.mpr ⟨fun _ => ⟨by omega, by omega⟩, fun q => by omega⟩
        · rw [if_neg g2, if_neg g2]
          exact decide_eq_decide.mpr ⟨fun _ => ⟨by omega, by omega⟩, fun q => by omega⟩
  unfold cbB cbN
  have e : a = 0 ∨ a = 1 ∨ a = 2 ∨ a = 3 ∨ a = 4 := by omega
  rcases e with rfl | rfl | rfl | rfl | rfl
  · rw [if_pos rfl, if_pos rfl, if_pos ⟨hw.1, by omega⟩]
    obtain ⟨n0, n1, n2, n3, n4, n5, n6, m0, m1, m2, m3, m4, m5, m6⟩ := nl_f
    have ew : w = 0 ∨ w = 1 ∨ w = 2 ∨ w = 3 ∨ w = 4 ∨ w = 5 ∨ w = 6 := by omega
    rcases ew with rfl | rfl | rfl | rfl | rfl | rfl | rfl
    · show mIn _ (nlF 0) (nmF 0) = _
      rw [n0, m0]
      rfl
    · show mIn _ (nlF 1) (nmF 1) = _
      rw [n1, m1]
      rfl
    · show mIn _ (nlF 2) (nmF 2) = _
      rw [n2, m2]
      rfl
    · show mIn _ (nlF 3) (nmF 3) = _
      rw [n3, m3]
      rfl
    · show mIn _ (nlF 4) (nmF 4) = _
      rw [n4, m4]
      rfl
    · show mIn _ (nlF 5) (nmF 5) = _
      rw [n5, m5]
      rfl
    · show mIn _ (nlF 6) (nmF 6) = _
      rw [n6, m6]
      rfl
  · rw [if_neg (show ¬ (1 : Int) = 0 by decide), if_pos (show (1 : Int) = 1 from rfl), if_neg (show ¬ (1 : Int) = 0 by decide), if_pos (show (1 : Int) = 1 from rfl)]
    rw [if_neg (by decide), if_pos rfl] at h
    have t0 := h.1.1
    by_cases w0 : w = 0
    · rw [if_pos w0, if_pos w0]
      unfold cbK mIn
      by_cases g0 : g = 0
      · rw [if_pos g0, if_pos g0, ← t0]
        exact decide_eq_decide.mpr ⟨fun _ => ⟨by omega, by omega⟩, fun q => by omega⟩
      · rw [if_neg g0, if_neg g0]
        by_cases g1 : g = 1
        · rw [if_pos g1]
          exact decide_eq_decide.mpr ⟨fun _ => ⟨by omega, by omega⟩, fun _ => Or.inl g1⟩
        · rw [if_neg g1]
          exact decide_eq_decide.mpr ⟨fun q => by omega, fun q => by omega⟩
    · rw [if_neg w0, if_neg w0, P]
      by_cases g0 : g = 0
      · rw [if_pos g0, if_pos g0]
      · rw [if_neg g0, if_neg g0]
        by_cases g1 : g = 1
        · rw [if_pos g1, if_pos g1]
        · rw [if_neg g1, if_neg g1, if_pos (by omega)]
  · rw [if_neg (show ¬ (2 : Int) = 0 by decide), if_neg (show ¬ (2 : Int) = 1 by decide), if_pos (show (2 : Int) = 2 from rfl), if_neg (show ¬ (2 : Int) = 0 by decide), if_neg (show ¬ (2 : Int) = 1 by decide), if_pos (show (2 : Int) = 2 from rfl)]
  · rw [if_neg (show ¬ (3 : Int) = 0 by decide), if_neg (show ¬ (3 : Int) = 1 by decide), if_neg (show ¬ (3 : Int) = 2 by decide), if_pos (show (3 : Int) = 3 from rfl), if_neg (show ¬ (3 : Int) = 0 by decide), if_neg (show ¬ (3 : Int) = 1 by decide), if_neg (show ¬ (3 : Int) = 2 by decide), if_pos (show (3 : Int) = 3 from rfl)]
  · rw [if_neg (show ¬ (4 : Int) = 0 by decide), if_neg (show ¬ (4 : Int) = 1 by decide), if_neg (show ¬ (4 : Int) = 2 by decide), if_neg (show ¬ (4 : Int) = 3 by decide), if_neg (show ¬ (4 : Int) = 0 by decide), if_neg (show ¬ (4 : Int) = 1 by decide), if_neg (show ¬ (4 : Int) = 2 by decide), if_neg (show ¬ (4 : Int) = 3 by decide), P]
end RO
section RL
variable {X X1 XE : Nat → Int → Int} {i j : Nat} {a : Int}
theorem nt_1 {v : Int} (h : X1 = zU (zU X i 3 1) i 4 v) : (∀ z, z ≠ i → X1 z = X z) ∧ (∀ s, s ≠ 3 → s ≠ 4 → X1 i s = X i s) ∧ X1 i 3 = 1 ∧ X1 i 4 = v := by
  subst h
  exact ⟨fun z hz => by rw [zU_o hz, zU_o hz], fun s h3 h4 => by rw [zU_n (by omega), zU_n (by omega)], by rw [zU_n (by omega), zU_s], zU_s⟩
theorem rl_bad {r : Bool} (k : (∀ z, z ≠ i → z ≠ i + 11 → XE z = X z) ∧ ∀ s, (s < 3 ∨ s = 5 ∨ s = 6 ∨ 10 < s) → XE i s = X i s) (hv : rdV X i) (hl : lnV XE i) (h : r = false ∧ X1 = zU (zU XE i 3 1) i 4 (XE i 8)) : rcK X X1 i ∧ rdV X1 i ∧ lnV X1 i ∧ (r = true → oRc X1 i j) ∧ r = false ∧ X1 i 3 = 1 ∧ X1 i 4 = XE i 8 := by
  obtain ⟨n1, n2, n3, n4⟩ := nt_1 h.2
  refine ⟨⟨fun z hz => (n1 z (by omega)).trans (k.1 z (by omega) (by omega)), fun s hs => (n2 s (by omega) (by omega)).trans (k.2 s hs)⟩, rdV_o (fun z h1 h2 => (n1 z h1).trans (k.1 z h1 h2)) hv, lnV_o (n1 _ (by omega)) hl, fun g => ?_, h.1, n3, n4⟩
  rw [h.1] at g
  cases g
theorem sp_l {p : Nat} (fx : ∀ z, z ≠ i → z ≠ i + 11 → XE z = X z) (fs : ∀ s, (s < 3 ∨ s = 5 ∨ s = 6 ∨ 10 < s) → XE i s = X i s) (hv : rdV X i) (hl : lnV XE i) (hj : j < i ∨ i + 17 < j) (hrc : oRc X i j) (e7 : XE i 7 = p) (hp : p ≤ (X i 6).toNat)
    (h : stC XE X1 i ∧ X1 i 8 = tkB (XE j) (XE i 6).toNat (XE i 7).toNat ∧ X1 i 7 = tkN (XE j) (XE i 6).toNat (XE i 7).toNat ∧ X1 i 9 = cTk (tkS (XE j) (XE i 6).toNat (XE i 7).toNat) ∧ (tkS (XE j) (XE i 6).toNat (XE i 7).toNat = 3 → X1 i 10 = tkV (XE j) (XE i 6).toNat (XE i 7).toNat)) :
    (∀ z, z ≠ i → z ≠ i + 11 → X1 z = X z) ∧ (∀ s, (s < 3 ∨ s = 5 ∨ s = 6 ∨ 10 < s) → X1 i s = X i s) ∧ rdV X1 i ∧ lnV X1 i ∧ oRc X1 i j ∧ (X1 i 3 = XE i 3 ∧ X1 i 4 = XE i 4 ∧ X1 (i + 11) = XE (i + 11)) ∧ X1 i 8 = tkB (X j) (X i 6).toNat p ∧ X1 i 7 = tkN (X j) (X i 6).toNat p ∧ X1 i 9 = cTk (tkS (X j) (X i 6).toNat p) ∧ (tkS (X j) (X i 6).toNat p = 3 → X1 i 10 = tkV (X j) (X i 6).toNat p) := by
  rw [fx j (by omega) (by omega), fs 6 (by omega), e7, show ((p : Nat) : Int).toNat = p from rfl] at h
  obtain ⟨⟨c1, c2⟩, h8, h7, h9, h10⟩ := h
  have le := tk_le (T := X j) hp
  have n0 : 0 ≤ X i 6 := by have := hrc.2.1; omega
  have fx1 : ∀ z, z ≠ i → z ≠ i + 11 → X1 z = X z := fun z h1 h2 => (c1 z h1).trans (fx z h1 h2)
  have fs1 : ∀ s, (s < 3 ∨ s = 5 ∨ s = 6 ∨ 10 < s) → X1 i s = X i s := fun s hs => (c2 s (by omega) (by omega) (by omega) (by omega)).trans (fs s hs)
  refine ⟨fx1, fs1, rdV_o fx1 hv, lnV_o (c1 _ (by omega)) hl, ⟨by rw [fx1 j (by omega) (by omega)]; exact hrc.1, ?_, by rw [fs1 6 (by omega)]; exact hrc.2.2.1, hrc.2.2.2⟩, ⟨c2 3 (by decide) (by decide) (by decide) (by decide), c2 4 (by decide) (by decide) (by decide) (by decide), c1 _ (by omega)⟩, h8, h7, h9, h10⟩
  rw [h7, fs1 6 (by omega)]
  omega
theorem rtA_of {p : Nat} (eT : X1 j = X j) (e6 : X1 i 6 = X i 6) (h : X1 i 8 = tkB (X j) (X i 6).toNat p ∧ X1 i 7 = tkN (X j) (X i 6).toNat p ∧ X1 i 9 = cTk (tkS (X j) (X i 6).toNat p) ∧ (tkS (X j) (X i 6).toNat p = 3 → X1 i 10 = tkV (X j) (X i 6).toNat p)) : rtA X1 i j p := by
  unfold rtA
  rw [eT, e6]
  exact h
end RL
