/-! THE COURSE, AS THE REFERENCE GOES AND AS THE COMPONENT GOES -/
def cx9 (Z : Nat → Int → Int) (q : Nat) (tie : Int) : Cx := (rP Z q, rW Z q, rG Z q, sdf Z q, (Z q 27).toNat, tie)
theorem cx9_r (Z : Nat → Int → Int) (q : Nat) : rCx Z q = cx9 Z q (Z q 29) := rfl
def xTip (x : Cx) (t : Cs) : Nat := csTip (xP x) (xW x) (xG x) (xN x) (xT x) t.1 t.2
def coEq (s t : Cs) (n : Nat) : Prop := s.1 = t.1 ∧ ∀ j, j < n → mHas (t.1 3) j = true → s.2 j = t.2 j
/-- no block wants to become whole -/
def clC (x : Cx) (t : Cs) : Prop := ∀ k, 1 ≤ k → k < xN x → csWt x t k = false
def coK (x : Cx) (t : Cs) : Prop := clC x t ∧ t.1 5 = xTip x t
theorem csWt_c {x : Cx} {s t : Cs} (h : s.1 = t.1) (k : Nat) : csWt x s k = csWt x t k := by
  unfold csWt
  rw [h]
theorem csMk_no {x : Cx} {t : Cs} (h : clC x t) : ∀ q, q ≤ xN x → csMk x t q = t
  | 0, _ => rfl
  | q + 1, hq => by
    show (if q = 0 then csMk x t q else if csWt x (csMk x t q) q then csBc (csMk x t q) q else csMk x t q) = t
    rw [csMk_no h q (by omega)]
    by_cases g : q = 0
    · rw [if_pos g]
    · rw [if_neg g, h q (by omega) (by omega)]
      rfl
theorem csMk_cl' {x : Cx} {t : Cs} (hn : xN x ≤ 15) (hP : sPar (xP x) (xN x - 1)) : ∀ q, q ≤ xN x → ∀ k, 1 ≤ k → k < q → csWt x (csMk x t q) k = false
  | 0, _, k, _, h => absurd h (Nat.not_lt_zero _)
  | q + 1, hq, k, h1, h2 => by
    have ih := csMk_cl' (t := t) hn hP q (by omega)
    show csWt x (if q = 0 then csMk x t q else if csWt x (csMk x t q) q then csBc (csMk x t q) q else csMk x t q) k = false
    rw [if_neg (show ¬ q = 0 by omega)]
    have hp := hP k h1 (by omega)
    cases c : csWt x (csMk x t q) q
    · rw [if_neg (by decide)]
      by_cases g : k = q
      · rw [g]
        exact c
      · exact ih k h1 (by omega)
    · rw [if_pos rfl]
      have e1 : ∀ j : Nat, j < 15 → mHas ((csBc (csMk x t q) q).1 3) j = (mHas ((csMk x t q).1 3) j || decide (j = q)) := fun j hj => by
        show mHas (zOr ((csMk x t q).1 3) (zShl 1 q)) j = _
        exact mHas_set (by omega) (by omega)
      by_cases g : k = q
      · unfold csWt
        rw [e1 k (by omega), decide_eq_true g, Bool.or_true]
        rfl
      · have i2 := ih k h1 (by omega)
        unfold csWt at i2 ⊢
        rw [e1 k (by omega), e1 _ (by omega), decide_eq_false g, decide_eq_false (show ¬ xP x k = q by omega), Bool.or_false, Bool.or_false]
        exact i2
theorem csMk_cl {x : Cx} {t : Cs} (hn : xN x ≤ 15) (hP : sPar (xP x) (xN x - 1)) : clC x (csMk x t (xN x)) := fun k h1 h2 => csMk_cl' hn hP _ (Nat.le_refl _) k h1 h2
theorem csC_k {x : Cx} {t : Cs} (h : clC x t) : coK x (csC x t) := ⟨fun k h1 h2 => h k h1 h2, rfl⟩
theorem zAnd_self (a : Int) : zAnd a (zXor a (-1)) = 0 := and_z.mpr fun k hk => by
  rw [zb_not _ hk]
  cases zb a k <;> rfl
theorem mOnes_0 : mOnes 0 = 0 := by decide +kernel
theorem csCh_self {P : Nat → Nat} {c : Nat → Int} {p : Nat} (h : c 5 = p) (h9 : 0 ≤ c 9) : csCh P c p = c := funext fun s => by
  unfold csCh
  rw [show (c 5).toNat = p by omega, zAnd_self, mOnes_0]
  split
  · rename_i g
    rw [g, h]
  · split
    · rename_i g
      rw [g, Int.add_zero]
    · split
      · rename_i g
        rw [g, Int.add_zero]
      · split
        · rename_i g
          rw [if_neg (by decide), g]
        · split
          · rename_i g
            rw [g]
            omega
          · rfl
theorem xTip_c {x : Cx} {s t : Cs} (h : coEq s t (xN x)) (hn : 0 < xN x) (h0 : mHas (t.1 3) 0 = true) : xTip x s = xTip x t := by
  unfold xTip csTip
  rw [h.1]
  refine sTip_cong hn h0 (fun _ _ => rfl) (fun _ _ => rfl) (fun _ _ => rfl) fun a b ha hb wa wb => ?_
  unfold ahT
  rw [h.2 a ha wa, h.2 b hb wb]
theorem csBc_c {s t : Cs} {n q : Nat} (h : coEq s t n) (hn : n ≤ 15) (hq : q < n) : coEq (csBc s q) (csBc t q) n := by
  refine ⟨by unfold csBc; rw [h.1], fun j hj hw => ?_⟩
  show (if j = q then s.1 4 else s.2 j) = if j = q then t.1 4 else t.2 j
  by_cases g : j = q
  · rw [if_pos g, if_pos g, h.1]
  · rw [if_neg g, if_neg g]
    refine h.2 j hj ?_
    have hw : mHas (zOr (t.1 3) (zShl 1 q)) j = true := hw
    rw [mHas_set (by omega) (by omega), decide_eq_false g, Bool.or_false] at hw
    exact hw
theorem csMk_c {x : Cx} {s t : Cs} (h : coEq s t (xN x)) (hn : xN x ≤ 15) : ∀ q, q ≤ xN x → coEq (csMk x s q) (csMk x t q) (xN x)
  | 0, _ => h
  | q + 1, hq => by
    have ih := csMk_c h hn q (by omega)
    show coEq (if q = 0 then csMk x s q else if csWt x (csMk x s q) q then csBc (csMk x s q) q else csMk x s q) (if q = 0 then csMk x t q else if csWt x (csMk x t q) q then csBc (csMk x t q) q else csMk x t q) _
    rw [csWt_c ih.1 q]
    by_cases g : q = 0
    · rw [if_pos g, if_pos g]
      exact ih
    · rw [if_neg g, if_neg g]
      split
      · exact csBc_c ih hn (by omega)
      · exact ih
theorem csC_c {x : Cx} {s t : Cs} (h : coEq s t (xN x)) (hn : 0 < xN x) (h0 : mHas (t.1 3) 0 = true) : coEq (csC x s) (csC x t) (xN x) := by
  have e : xTip x s = xTip x t := xTip_c h hn h0
  refine ⟨?_, fun j hj hw => h.2 j hj hw⟩
  show csCh (xP x) s.1 (xTip x s) = csCh (xP x) t.1 (xTip x t)
  rw [e, h.1]
theorem cU_self {c : Nat → Int} {s : Nat} {v : Int} (h : c s = v) : cU c s v = c := funext fun z => by
  unfold cU
  split
  · rename_i g
    rw [g, h]
  · rfl
/-- what a deed does before the whole ones and the tip are looked for -/
def csD0 (t : Cs) (w v : Int) : Cs := if w = 3 then (cU t.1 0 v, t.2) else if w = 2 then (cU (cU t.1 1 (zAnd (t.1 1) (zXor (zShl 1 v) (-1)))) 2 (zAnd (t.1 2) (zXor (zShl 1 v) (-1))), t.2) else if w = 0 then (cU t.1 1 (zOr (t.1 1) (zShl 1 v)), t.2) else (cU t.1 2 (zOr (t.1 2) (zShl 1 v)), t.2)
theorem csDo_e {x : Cx} {t : Cs} {w v : Int} (hk : coK x t) (h9 : 0 ≤ t.1 9) (r1 : rI (t.1 1)) (r2 : rI (t.1 2)) (hw : 0 ≤ w ∧ w ≤ 3) (hv : w ≠ 3 → 0 ≤ v ∧ v < 15) (hn : xN x ≤ 15) : csDo x t w v = csC x (csMk x (csD0 t w v) (xN x)) := by
  unfold csDo csD0
  by_cases g3 : w = 3
  · rw [if_pos g3, if_pos g3, csMk_no (t := (cU t.1 0 v, t.2)) (fun k h1 h2 => hk.1 k h1 h2) _ (Nat.le_refl _)]
  · rw [if_neg g3, if_neg g3]
    by_cases g2 : w = 2
    · rw [if_pos g2, if_pos g2]
      obtain ⟨vn, rfl⟩ := nat_of (hv g3).1
      have hv15 := (hv g3).2
      have cl : clC x (cU (cU t.1 1 (zAnd (t.1 1) (zXor (zShl 1 vn) (-1)))) 2 (zAnd (t.1 2) (zXor (zShl 1 vn) (-1))), t.2) := fun k h1 h2 => by
        have i2 := hk.1 k h1 h2
        unfold csWt at i2 ⊢
        show (!mHas (t.1 3) k && (mHas (zAnd (t.1 1) (zXor (zShl 1 vn) (-1))) k && mHas (zAnd (t.1 2) (zXor (zShl 1 vn) (-1))) k && xS x k) && mHas (t.1 3) (xP x k)) = false
        rw [mHas_zb (zAnd _ _) (by omega), mHas_zb (zAnd (t.1 2) _) (by omega), zb_and, zb_and, zb_not _ (by omega), zb_one (by omega) (by omega), ← mHas_zb _ (by omega), ← mHas_zb _ (by omega)]
        by_cases e : k = vn
        · rw [decide_eq_true e]
          simp
        · rw [decide_eq_false e]
          simpa using i2
      rw [csMk_no cl _ (Nat.le_refl _)]
      have e5 : csCh (xP x) (cU (cU t.1 1 (zAnd (t.1 1) (zXor (zShl 1 vn) (-1)))) 2 (zAnd (t.1 2) (zXor (zShl 1 vn) (-1)))) (xTip x t) = _ := csCh_self hk.2 h9
      exact (congrArg (fun z => ((z, t.2) : Cs)) e5).symm
    · rw [if_neg g2, if_neg g2]
      by_cases g0 : w = 0
      · rw [if_pos g0, if_pos g0, if_neg (by omega), zOr_0 r2, show cU (cU t.1 1 (zOr (t.1 1) (zShl 1 v))) 2 (t.1 2) = cU t.1 1 (zOr (t.1 1) (zShl 1 v)) from cU_self rfl]
      · rw [if_neg g0, if_neg g0, if_pos (by omega), zOr_0 r1, show cU t.1 1 (t.1 1) = t.1 from cU_self rfl]
theorem csDo_k {x : Cx} {t : Cs} {w v : Int} (hk : coK x t) (h9 : 0 ≤ t.1 9) (r1 : rI (t.1 1)) (r2 : rI (t.1 2)) (hw : 0 ≤ w ∧ w ≤ 3) (hv : w ≠ 3 → 0 ≤ v ∧ v < 15) (hn : xN x ≤ 15) (hP : sPar (xP x) (xN x - 1)) : coK x (csDo x t w v) := by
  rw [csDo_e hk h9 r1 r2 hw hv hn]
  exact csC_k (csMk_cl hn hP)
theorem csD0_c {s t : Cs} {n : Nat} (h : coEq s t n) (w v : Int) : coEq (csD0 s w v) (csD0 t w v) n := by
  unfold csD0
  rw [h.1]
  split
  · exact ⟨rfl, fun j hj hw => h.2 j hj hw⟩
  · split
    · exact ⟨rfl, fun j hj hw => h.2 j hj hw⟩
    · split
      · exact ⟨rfl, fun j hj hw => h.2 j hj hw⟩
      · exact ⟨rfl, fun j hj hw => h.2 j hj hw⟩
theorem csI_k {x : Cx} {rho : Int} (hn : 0 < xN x) (hn15 : xN x ≤ 15) : coK x (csI rho) := by
  refine ⟨fun k h1 h2 => ?_, ?_⟩
  · unfold csWt
    have g : mHas ((csI rho).1 1) k = false := Bool.eq_false_iff.mpr fun z => absurd (mHas_1 k (by omega) z) (by omega)
    rw [g, Bool.false_and, Bool.false_and, Bool.and_false, Bool.false_and]
  · have h0 : mHas ((csI rho).1 3) 0 = true := by show mHas 1 0 = true; decide +kernel
    have w : mHas ((csI rho).1 3) (xTip x (csI rho)) = true := csTip_w h0
    have b : xTip x (csI rho) < xN x := csTip_b hn
    have := mHas_1 _ (by omega) w
    rw [this]
    rfl
theorem csI_o {x : Cx} {rho : Int} (hn : 0 < xN x) (hr : 0 ≤ rho ∧ rho ≤ 1) : oCS (csI rho) (xN x) 1 1 := by
  refine ⟨⟨⟨Int.le_refl _, by show (0 : Int) < _; omega⟩, ⟨Int.le_refl _, by show (0 : Int) ≤ 1; decide⟩, ⟨Int.le_refl _, by show (0 : Int) ≤ 1; decide⟩, ⟨Int.le_refl _, by show (0 : Int) ≤ 1; decide⟩, ⟨Int.le_refl _, by show (0 : Int) ≤ 15; decide⟩, ⟨by show (0 : Int) ≤ 1; decide, by show (1 : Int) ≤ 1; decide⟩⟩, by show mHas 1 0 = true; decide +kernel, hr⟩
