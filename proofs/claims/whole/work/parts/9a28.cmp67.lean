/-! TEXTS: whoever reads a text through keeps the bounds -/
theorem nt_n {fl : Int × Int} {f pl : Int} (hf : f ≠ 0) : (nt fl f pl).1 ≠ 0 := by
  unfold nt
  by_cases h : fl.1 = 0
  · rw [if_pos h]
    exact hf
  · rw [if_neg h]
    exact h
theorem nt_p {fl : Int × Int} {f pl : Int} (hf : 0 ≤ f) (h : 0 ≤ fl.1) : 0 ≤ (nt fl f pl).1 := by
  unfold nt
  split
  · exact hf
  · exact h
theorem rdN_z {T : Int → Int} {n : Nat} {of w : Int} {told : Int → Int} {p : Nat} {fl : Int × Int} : ∀ (m : Nat) (f : Int × Int), rdN T n of w told p fl m = .inr f → (0 ≤ fl.1 → 0 ≤ f.1) ∧ (f.1 = 0 → fl.1 = 0 ∧ ∀ j : Nat, j < m → cbN of w j (tkV T n (ptN T n p j)) (tkV T n p) told = true)
  | 0, f, h => by
    have e : fl = f := Sum.inr.inj h
    subst e
    exact ⟨fun g => g, fun g => ⟨g, fun j hj => absurd hj (Nat.not_lt_zero _)⟩⟩
  | m + 1, f, h => by
    unfold rdN at h
    cases hr : rdN T n of w told p fl m with
    | inl pl =>
      rw [hr] at h
      cases h
    | inr f0 =>
      rw [hr] at h
      obtain ⟨i1, i2⟩ := rdN_z m f0 hr
      replace h : (if tkS T n (ptN T n p m) = 3 then (Sum.inr (if cbN of w m (tkV T n (ptN T n p m)) (tkV T n p) told then f0 else nt f0 2 (tkB T n (ptN T n p m))) : Int ⊕ (Int × Int)) else .inl (tkB T n (ptN T n p m))) = .inr f := h
      by_cases e3 : tkS T n (ptN T n p m) = 3
      · rw [if_pos e3] at h
        have h := Sum.inr.inj h
        by_cases ec : cbN of w m (tkV T n (ptN T n p m)) (tkV T n p) told = true
        · rw [if_pos ec] at h
          subst h
          refine ⟨i1, fun g => ⟨(i2 g).1, fun j hj => ?_⟩⟩
          by_cases ej : j = m
          · rw [ej]
            exact ec
          · exact (i2 g).2 j (by omega)
        · rw [if_neg ec] at h
          subst h
          exact ⟨fun g => nt_p (by decide) (i1 g), fun g => absurd g (nt_n (by decide))⟩
      · rw [if_neg e3] at h
        cases h
theorem kw_r {of w : Int} (ho : 0 ≤ of ∧ of ≤ 4) (h : kwN of w ≠ -1) : (of = 0 → 0 ≤ kwN of w ∧ kwN of w ≤ 6) ∧ (of = 1 → kwN of w = 0 ∨ kwN of w = 1) ∧ (of = 2 → 0 ≤ kwN of w ∧ kwN of w ≤ 3) := by
  refine ⟨fun e => ?_, fun e => ?_, fun e => ?_⟩
  · subst e
    unfold kwN at h ⊢
    rw [if_pos rfl] at h ⊢
    repeat' split
    all_goals first | decide | (exfalso; simp_all)
  · subst e
    unfold kwN at h ⊢
    rw [if_neg (by decide), if_pos rfl] at h ⊢
    repeat' split
    all_goals first | decide | (exfalso; simp_all)
  · subst e
    unfold kwN at h ⊢
    rw [if_neg (by decide), if_neg (by decide), if_pos rfl] at h ⊢
    repeat' split
    all_goals first | decide | (exfalso; simp_all)
theorem rdL_v {T : Int → Int} {n : Nat} {of : Int} {s s' : rST} (ho : 0 ≤ of ∧ of ≤ 4) (h : rdL T n of s = .inr s') (g : 0 ≤ s.2.2.1) (v : s.2.2.1 = 0 → vTd of s.2.1) : 0 ≤ s'.2.2.1 ∧ (s'.2.2.1 = 0 → vTd of s'.2.1) := by
  unfold rdL at h
  by_cases ek : kwT T n s.1 of = -1
  · rw [if_pos ek] at h
    cases h
  · rw [if_neg ek] at h
    generalize hfl : (if fuN of (kwT T n s.1 of) s.2.1.1 s.2.1.2 then nt s.2.2 3 (tkB T n s.1) else s.2.2) = fl at h
    cases hr : rdN T n of (kwT T n s.1 of) s.2.1.1 (tkN T n s.1) fl (ncN of) with
    | inl pl =>
      rw [hr] at h
      cases h
    | inr f =>
      rw [hr] at h
      have h := Sum.inr.inj h
      subst h
      obtain ⟨i1, i2⟩ := rdN_z _ f hr
      have gfl : 0 ≤ fl.1 := by
        rw [← hfl]
        split
        · exact nt_p (by decide) g
        · exact g
      refine ⟨i1 gfl, fun f0 => ?_⟩
      have f0 : f.1 = 0 := f0
      obtain ⟨z, hc⟩ := i2 f0
      have hfu : fuN of (kwT T n s.1 of) s.2.1.1 s.2.1.2 = false ∧ s.2.2.1 = 0 := by
        cases e : fuN of (kwT T n s.1 of) s.2.1.1 s.2.1.2 with
        | true =>
          rw [if_pos e] at hfl
          rw [← hfl] at z
          exact absurd z (nt_n (by decide))
        | false =>
          rw [if_neg (by rw [e]; decide)] at hfl
          rw [← hfl] at z
          exact ⟨rfl, z⟩
      have hv := v hfu.2
      have hfu := hfu.1
      show vTd of (if f.1 = 0 then _ else _)
      rw [if_pos f0]
      have kr := kw_r (of := of) (w := if tkS T n s.1 = 2 then tkW T n s.1 else 0) ho ek
      have kr : (of = 0 → 0 ≤ kwT T n s.1 of ∧ kwT T n s.1 of ≤ 6) ∧ (of = 1 → kwT T n s.1 of = 0 ∨ kwT T n s.1 of = 1) ∧ (of = 2 → 0 ≤ kwT T n s.1 of ∧ kwT T n s.1 of ≤ 3) := kr
      generalize kwT T n s.1 of = w at *
      have cases5 : of = 0 ∨ of = 1 ∨ of = 2 ∨ of = 3 ∨ of = 4 := by omega
      rcases cases5 with rfl | rfl | rfl | rfl | rfl
      · refine tv_0 (kr.1 rfl) hv ?_ (hc 0 (by decide))
        intro q
        unfold fuN at hfu
        rw [if_pos rfl, Bool.and_eq_false_iff] at hfu
        rcases hfu with q1 | q1
        · exact (of_decide_eq_false q1) q.1
        · exact (of_decide_eq_false q1) q.2
      · exact tv_1 (kr.2.1 rfl) hv hfu (fun j hj => hc j hj)
      · refine tv_2 (kr.2.2 rfl) hv ?_ (hc 0 (by decide))
        unfold fuN at hfu
        rw [if_neg (by decide), if_neg (by decide), if_pos rfl] at hfu
        exact of_decide_eq_false hfu
      · refine tv_3 hv ?_ (fun j hj => hc j hj)
        unfold fuN at hfu
        rw [if_neg (by decide), if_neg (by decide), if_neg (by decide), if_pos rfl] at hfu
        exact of_decide_eq_false hfu
      · refine tv_4 hv ?_ (fun j hj => hc j hj)
        unfold fuN at hfu
        rw [if_neg (by decide), if_neg (by decide), if_neg (by decide), if_neg (by decide)] at hfu
        exact of_decide_eq_false hfu
theorem rdA_v {T : Int → Int} {n : Nat} {of : Int} (ho : 0 ≤ of ∧ of ≤ 4) : ∀ (q : Nat) (s s' : rST), rdA T n of q s = .inr s' → 0 ≤ s.2.2.1 → (s.2.2.1 = 0 → vTd of s.2.1) → 0 ≤ s'.2.2.1 ∧ (s'.2.2.1 = 0 → vTd of s'.2.1)
  | 0, s, s', h, g, v => by
    have e : s = s' := Sum.inr.inj h
    subst e
    exact ⟨g, v⟩
  | q + 1, s, s', h, g, v => by
    unfold rdA at h
    by_cases e0 : tkS T n s.1 = 0
    · rw [if_pos e0] at h
      have e : s = s' := Sum.inr.inj h
      subst e
      exact ⟨g, v⟩
    · rw [if_neg e0] at h
      cases hr : rdL T n of s with
      | inl pl =>
        rw [hr] at h
        cases h
      | inr s1 =>
        rw [hr] at h
        replace h : (if tkS T n s1.1 = 4 then rdA T n of q (tkN T n s1.1, s1.2) else .inl (tkB T n s1.1)) = .inr s' := h
        obtain ⟨g1, v1⟩ := rdL_v ho hr g v
        by_cases e4 : tkS T n s1.1 = 4
        · rw [if_pos e4] at h
          exact rdA_v ho q _ s' h g1 v1
        · rw [if_neg e4] at h
          cases h
/-- a whole text of a sort -/
theorem rdA_0 {T : Int → Int} {n : Nat} {of : Int} (ho : 0 ≤ of ∧ of ≤ 4) {q : Nat} {s' : rST} (h : rdA T n of q (s0R of) = .inr s') : 0 ≤ s'.2.2.1 ∧ (s'.2.2.1 = 0 → vTd of s'.2.1) :=
  rdA_v ho q _ s' h (Int.le_refl _) (fun _ => vTd_0 ho)

