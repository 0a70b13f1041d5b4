/-! TEXTS: what is told is in bounds -/
def vNt (t : Int → Int) : Prop := (1 ≤ t 0 ∧ t 0 ≤ 9) ∧ (1 ≤ t 1 ∧ t 1 ≤ 99) ∧ (1 ≤ t 2 ∧ t 2 ≤ 99) ∧ (0 ≤ t 3 ∧ t 3 ≤ 1) ∧ (0 ≤ t 4 ∧ t 4 ≤ 1) ∧ (0 ≤ t 5 ∧ t 5 ≤ 99) ∧ (0 ≤ t 6 ∧ t 6 ≤ 6) ∧ ∀ a : Int, 0 ≤ a → a < 6 → 0 ≤ t (7 + a) ∧ t (7 + a) ≤ 99
def bE (t : Int → Int) (k w : Int) : Int := t (1 + 13 * (k - 1) + w)
def vBk (t : Int → Int) (k : Int) : Prop := (0 ≤ bE t k 0 ∧ bE t k 0 < k) ∧ (0 ≤ bE t k 1 ∧ bE t k 1 ≤ 99) ∧ (0 ≤ bE t k 2 ∧ bE t k 2 ≤ 5) ∧ (0 ≤ bE t k 3 ∧ bE t k 3 ≤ 3) ∧ ∀ j : Nat, (j : Int) < bE t k 3 → (0 ≤ bE t k (4 + 3 * j) ∧ bE t k (4 + 3 * j) ≤ 5) ∧ (0 ≤ bE t k (5 + 3 * j) ∧ bE t k (5 + 3 * j) ≤ 5) ∧ (1 ≤ bE t k (6 + 3 * j) ∧ bE t k (6 + 3 * j) ≤ 99)
def vCh (t : Int → Int) (po : Int) : Prop := ((0 ≤ t 0 ∧ t 0 ≤ 14) ∧ ∀ k, 1 ≤ k → k ≤ t 0 → vBk t k) ∧ (po = 0 ∨ ∃ k, (1 ≤ k ∧ k ≤ t 0) ∧ po = 4 + 13 * (k - 1))
def vFd (t : Int → Int) : Prop := (0 ≤ t 0 ∧ t 0 ≤ 40) ∧ ∀ j : Int, 0 ≤ j → j < t 0 → (0 ≤ t (1 + 2 * j + 0) ∧ t (1 + 2 * j + 0) ≤ 3) ∧ (t (1 + 2 * j + 0) = 3 → 0 ≤ t (1 + 2 * j + 1) ∧ t (1 + 2 * j + 1) ≤ 1) ∧ (t (1 + 2 * j + 0) ≠ 3 → 1 ≤ t (1 + 2 * j + 1) ∧ t (1 + 2 * j + 1) ≤ 14)
def vLg (t : Int → Int) : Prop := (0 ≤ t 0 ∧ t 0 ≤ 8) ∧ ∀ j : Int, 0 ≤ j → j < t 0 → (0 ≤ t (1 + 2 * j + 0) ∧ t (1 + 2 * j + 0) ≤ 40) ∧ (0 ≤ t (1 + 2 * j + 1) ∧ t (1 + 2 * j + 1) ≤ 14)
def vPo (t : Int → Int) : Prop := (0 ≤ t 0 ∧ t 0 ≤ 6) ∧ ∀ j : Int, 0 ≤ j → j < t 0 → (0 ≤ t (1 + 4 * j + 0) ∧ t (1 + 4 * j + 0) ≤ 5) ∧ (0 ≤ t (1 + 4 * j + 1) ∧ t (1 + 4 * j + 1) ≤ 5) ∧ (1 ≤ t (1 + 4 * j + 2) ∧ t (1 + 4 * j + 2) ≤ 99) ∧ (0 ≤ t (1 + 4 * j + 3) ∧ t (1 + 4 * j + 3) ≤ 9)
/-- told rows of a sort in bounds -/
def vTd (of : Int) (s : (Int → Int) × Int) : Prop := if of = 0 then vNt s.1 else if of = 1 then vCh s.1 s.2 else if of = 2 then vFd s.1 else if of = 3 then vLg s.1 else vPo s.1
theorem upI_s {L : Int → Int} {a v : Int} : upI L a v a = v := if_pos rfl
theorem upI_n {L : Int → Int} {a v b : Int} (h : b ≠ a) : upI L a v b = L b := if_neg h
theorem upS_o {t : Int → Int} {a : Int} {v : Nat → Int} : ∀ (q : Nat) {b : Int}, (b < a ∨ a + q ≤ b) → upS t a v q b = t b
  | 0, _, _ => rfl
  | q + 1, b, h => by
    show upI (upS t a v q) (a + q) (v q) b = t b
    rw [upI_n (by omega), upS_o q (by omega)]
theorem upS_s {t : Int → Int} {a : Int} {v : Nat → Int} : ∀ (q : Nat) {j : Nat}, j < q → upS t a v q (a + j) = v j
  | q + 1, j, h => by
    show upI (upS t a v q) (a + q) (v q) (a + j) = v j
    by_cases e : j = q
    · subst e
      exact upI_s
    · rw [upI_n (by omega), upS_s q (by omega)]
theorem upS_at {t : Int → Int} {a : Int} {v : Nat → Int} {q : Nat} {b : Int} (j : Nat) (h : j < q) (e : b = a + j) : upS t a v q b = v j := by
  rw [e]
  exact upS_s q h
theorem vNt_0 (y : Int) : vTd 0 (d0R 0, y) := by
  show vNt (d0R 0)
  refine ⟨by decide, by decide, by decide, by decide, by decide, by decide, by decide, fun a h0 h1 => ?_⟩
  rw [show d0R 0 (7 + a) = 0 by
    unfold d0R
    rw [if_pos rfl, if_neg (by omega), if_neg (by omega), if_neg (by omega)]]
  decide
theorem vTd_0 {of : Int} (h : 0 ≤ of ∧ of ≤ 4) : vTd of (d0R of, 0) := by
  by_cases h0 : of = 0
  · subst h0
    exact vNt_0 0
  · have z : ∀ y, d0R of y = 0 := fun y => if_neg h0
    unfold vTd
    rw [if_neg h0]
    have z0 := z 0
    split
    · refine ⟨⟨by show 0 ≤ d0R of 0 ∧ d0R of 0 ≤ 14; rw [z0]; decide, fun k h1 h2 => ?_⟩, Or.inl rfl⟩
      have h2 : k ≤ d0R of 0 := h2
      omega
    · split
      · refine ⟨by show 0 ≤ d0R of 0 ∧ d0R of 0 ≤ 40; rw [z0]; decide, fun k h1 h2 => ?_⟩
        have h2 : k < d0R of 0 := h2
        omega
      · split
        · refine ⟨by show 0 ≤ d0R of 0 ∧ d0R of 0 ≤ 8; rw [z0]; decide, fun k h1 h2 => ?_⟩
          have h2 : k < d0R of 0 := h2
          omega
        · refine ⟨by show 0 ≤ d0R of 0 ∧ d0R of 0 ≤ 6; rw [z0]; decide, fun k h1 h2 => ?_⟩
          have h2 : k < d0R of 0 := h2
          omega
/-- a net's line -/
theorem tv_0 {w : Int} {v : Nat → Int} {s : (Int → Int) × Int} (hw : 0 ≤ w ∧ w ≤ 6) (hs : vNt s.1) (hf : ¬ (w = 6 ∧ 6 ≤ s.1 6)) (hc : cbN 0 w 0 (v 0) (v 0) s.1 = true) : vNt (tlN 0 w v s).1 := by
  obtain ⟨a0, a1, a2, a3, a4, a5, a6, aa⟩ := hs
  unfold cbN at hc
  rw [if_pos rfl] at hc
  unfold tlN
  rw [if_pos rfl]
  by_cases h6 : w = 6
  · subst h6
    rw [if_neg (by decide), if_neg (by decide), if_neg (by decide), mIn_t] at hc
    rw [if_pos rfl]
    have l6 : s.1 6 < 6 := by omega
    show vNt (upI (upI s.1 (7 + s.1 6) (v 0)) 6 (s.1 6 + 1))
    have o : ∀ y : Int, y ≠ 6 → y ≠ 7 + s.1 6 → upI (upI s.1 (7 + s.1 6) (v 0)) 6 (s.1 6 + 1) y = s.1 y := fun y h1 h2 => by rw [upI_n h1, upI_n h2]
    refine ⟨?_, ?_, ?_, ?_, ?_, ?_, ?_, fun a h0 h1 => ?_⟩
    · rw [o 0 (by omega) (by omega)]; exact a0
    · rw [o 1 (by omega) (by omega)]; exact a1
    · rw [o 2 (by omega) (by omega)]; exact a2
    · rw [o 3 (by omega) (by omega)]; exact a3
    · rw [o 4 (by omega) (by omega)]; exact a4
    · rw [o 5 (by omega) (by omega)]; exact a5
    · rw [upI_s]; omega
    · by_cases e : a = s.1 6
      · rw [upI_n (by omega), e, upI_s]; exact hc
      · rw [o _ (by omega) (by omega)]; exact aa a h0 h1
  · rw [if_neg h6]
    show vNt (upI s.1 w (v 0))
    have g : ∀ (x lo hi : Int), (lo ≤ s.1 x ∧ s.1 x ≤ hi) → (x = w → lo ≤ v 0 ∧ v 0 ≤ hi) → lo ≤ upI s.1 w (v 0) x ∧ upI s.1 w (v 0) x ≤ hi := by
      intro x lo hi h1 h2
      by_cases e : x = w
      · rw [e, upI_s]; exact h2 e
      · rw [upI_n e]; exact h1
    have c0 : w = 0 → 1 ≤ v 0 ∧ v 0 ≤ 9 := fun e => by rw [if_pos e, mIn_t] at hc; exact hc
    have c1 : w = 1 ∨ w = 2 → 1 ≤ v 0 ∧ v 0 ≤ 99 := fun e => by rw [if_neg (by omega), if_pos (by omega), mIn_t] at hc; exact hc
    have c3 : w = 3 ∨ w = 4 → 0 ≤ v 0 ∧ v 0 ≤ 1 := fun e => by rw [if_neg (by omega), if_neg (by omega), if_pos (by omega), mIn_t] at hc; exact hc
    have c5 : w = 5 → 0 ≤ v 0 ∧ v 0 ≤ 99 := fun e => by rw [if_neg (by omega), if_neg (by omega), if_neg (by omega), mIn_t] at hc; exact hc
    exact ⟨g 0 1 9 a0 (fun e => c0 e.symm), g 1 1 99 a1 (fun e => c1 (Or.inl e.symm)), g 2 1 99 a2 (fun e => c1 (Or.inr e.symm)), g 3 0 1 a3 (fun e => c3 (Or.inl e.symm)), g 4 0 1 a4 (fun e => c3 (Or.inr e.symm)), g 5 0 99 a5 (fun e => c5 e.symm), g 6 0 6 a6 (fun e => absurd e.symm h6), fun a h0 h1 => g (7 + a) 0 99 (aa a h0 h1) (fun e => absurd e (by omega))⟩
theorem vBk_g {t t1 : Int → Int} {k : Int} (h : ∀ w : Int, 0 ≤ w → w < 13 → bE t1 k w = bE t k w) (b : vBk t k) : vBk t1 k := by
  obtain ⟨b0, b1, b2, b3, bj⟩ := b
  refine ⟨by rw [h 0 (by decide) (by decide)]; exact b0, by rw [h 1 (by decide) (by decide)]; exact b1, by rw [h 2 (by decide) (by decide)]; exact b2, by rw [h 3 (by decide) (by decide)]; exact b3, fun j hj => ?_⟩
  rw [h 3 (by decide) (by decide)] at hj
  rw [h _ (by omega) (by omega), h _ (by omega) (by omega), h _ (by omega) (by omega)]
  exact bj j hj
/-- a chain's line -/
theorem tv_1 {w : Int} {v : Nat → Int} {s : (Int → Int) × Int} (hw : w = 0 ∨ w = 1) (hs : vCh s.1 s.2) (hf : fuN 1 w s.1 s.2 = false) (hc : ∀ j : Nat, j < 3 → cbN 1 w j (v j) (v 0) s.1 = true) : vCh (tlN 1 w v s).1 (tlN 1 w v s).2 := by
  obtain ⟨⟨a0, ab⟩, ap⟩ := hs
  have k0 : cbN 1 w 0 (v 0) (v 0) s.1 = true := hc 0 (by decide)
  have k1 : cbN 1 w 1 (v 1) (v 0) s.1 = true := hc 1 (by decide)
  have k2 : cbN 1 w 2 (v 2) (v 0) s.1 = true := hc 2 (by decide)
  unfold cbN at k0 k1 k2
  rw [if_neg (by decide), if_pos rfl] at k0 k1 k2
  unfold fuN at hf
  rw [if_neg (by decide), if_pos rfl] at hf
  unfold tlN
  rw [if_neg (by decide), if_pos rfl]
  by_cases h0 : w = 0
  · subst h0
    rw [if_pos rfl] at k0 k1 k2 hf ⊢
    rw [if_pos rfl, mIn_t] at k0
    rw [if_neg (by decide), if_pos rfl, mIn_t] at k1
    rw [if_neg (by decide), if_neg (by decide), mIn_t] at k2
    have l0 : s.1 0 < 14 := by
      have := of_decide_eq_false hf
      omega
    show vCh (upI (upI (upI (upS s.1 (1 + 13 * s.1 0) v 3) (4 + 13 * s.1 0) 0) 182 0) 0 (s.1 0 + 1)) (4 + 13 * s.1 0)
    generalize ht : upI (upI (upI (upS s.1 (1 + 13 * s.1 0) v 3) (4 + 13 * s.1 0) 0) 182 0) 0 (s.1 0 + 1) = t1
    have t0 : t1 0 = s.1 0 + 1 := by rw [← ht]; exact upI_s
    refine ⟨⟨by omega, fun k h1 h2 => ?_⟩, Or.inr ⟨s.1 0 + 1, ⟨by omega, by omega⟩, by omega⟩⟩
    by_cases e : k = s.1 0 + 1
    · subst e
      have p : ∀ w : Nat, w < 3 → bE t1 (s.1 0 + 1) w = v w := fun w hw => by
        unfold bE
        rw [← ht, upI_n (by omega), upI_n (by omega), upI_n (by omega)]
        exact upS_at w hw (by omega)
      have p3 : bE t1 (s.1 0 + 1) 3 = 0 := by
        unfold bE
        rw [← ht, upI_n (by omega), upI_n (by omega), show 1 + 13 * (s.1 0 + 1 - 1) + 3 = 4 + 13 * s.1 0 by omega]
        exact upI_s
      have q0 := p 0 (by decide)
      have q1 := p 1 (by decide)
      have q2 := p 2 (by decide)
      refine ⟨?_, ?_, ?_, by rw [p3]; decide, fun j hj => by rw [p3] at hj; omega⟩
      · show 0 ≤ bE t1 (s.1 0 + 1) ((0 : Nat) : Int) ∧ bE t1 (s.1 0 + 1) ((0 : Nat) : Int) < s.1 0 + 1
        rw [q0]; omega
      · show 0 ≤ bE t1 (s.1 0 + 1) ((1 : Nat) : Int) ∧ bE t1 (s.1 0 + 1) ((1 : Nat) : Int) ≤ 99
        rw [q1]; exact k1
      · show 0 ≤ bE t1 (s.1 0 + 1) ((2 : Nat) : Int) ∧ bE t1 (s.1 0 + 1) ((2 : Nat) : Int) ≤ 5
        rw [q2]; exact k2
    · refine vBk_g (fun w w0 w1 => ?_) (ab k h1 (by omega))
      unfold bE
      rw [← ht, upI_n (by omega), upI_n (by omega), upI_n (by omega), upS_o 3 (by omega)]
  · have h1 : w = 1 := hw.resolve_left h0
    subst h1
    rw [if_neg (by decide)] at k0 k1 k2 hf ⊢
    rw [if_pos rfl, mIn_t] at k0
    rw [if_neg (by decide), if_pos rfl, Bool.and_eq_true, mIn_t] at k1
    rw [if_neg (by decide), if_neg (by decide), mIn_t] at k2
    rw [Bool.or_eq_false_iff] at hf
    have f0 := of_decide_eq_false hf.1
    have f1 := of_decide_eq_false hf.2
    obtain ⟨k, hk, ek⟩ := ap.resolve_left f0
    have bk := ab k hk.1 hk.2
    have e3 : bE s.1 k 3 = s.1 s.2 := by
      unfold bE
      rw [ek, show 1 + 13 * (k - 1) + 3 = 4 + 13 * (k - 1) by omega]
    have b3 := bk.2.2.2.1
    rw [e3] at b3
    show vCh (upI (upS s.1 (s.2 + 1 + 3 * s.1 s.2) v 3) s.2 (s.1 s.2 + 1)) s.2
    generalize hm : s.1 s.2 = m at *
    generalize ht : upI (upS s.1 (s.2 + 1 + 3 * m) v 3) s.2 (m + 1) = t1
    have o : ∀ y : Int, y ≠ s.2 → (y < s.2 + 1 + 3 * m ∨ s.2 + 4 + 3 * m ≤ y) → t1 y = s.1 y := fun y h1 h2 => by
      rw [← ht, upI_n h1, upS_o 3 (by omega)]
    have t0 : t1 0 = s.1 0 := o 0 (by omega) (by omega)
    refine ⟨⟨by omega, fun k' h1 h2 => ?_⟩, Or.inr ⟨k, by omega, ek⟩⟩
    by_cases e : k' = k
    · subst e
      obtain ⟨c0, c1, c2, c3, cj⟩ := bk
      have n3 : bE t1 k' 3 = m + 1 := by
        unfold bE
        rw [show 1 + 13 * (k' - 1) + 3 = s.2 by omega, ← ht]
        exact upI_s
      have on : ∀ w : Int, w < 3 ∨ (3 < w ∧ w < 4 + 3 * m) → bE t1 k' w = bE s.1 k' w := fun w hw => o _ (by omega) (by omega)
      have nw : ∀ j : Nat, j < 3 → bE t1 k' (4 + 3 * m + j) = v j := fun j hj => by
        unfold bE
        rw [← ht, upI_n (by omega)]
        exact upS_at j hj (by omega)
      refine ⟨by rw [on 0 (by omega)]; exact c0, by rw [on 1 (by omega)]; exact c1, by rw [on 2 (by omega)]; exact c2, by omega, fun j hj => ?_⟩
      by_cases ej : (j : Int) = m
      · rw [show 4 + 3 * (j : Int) = 4 + 3 * m + (0 : Nat) by omega, show 5 + 3 * (j : Int) = 4 + 3 * m + (1 : Nat) by omega, show 6 + 3 * (j : Int) = 4 + 3 * m + (2 : Nat) by omega, nw 0 (by decide), nw 1 (by decide), nw 2 (by decide)]
        exact ⟨k0, k1.1, k2⟩
      · have lj : (j : Int) < m := by omega
        rw [on _ (by omega), on _ (by omega), on _ (by omega)]
        rw [e3] at cj
        exact cj j lj
    · refine vBk_g (fun w w0 w1 => o _ ?_ ?_) (ab k' h1 (by omega))
      · omega
      · omega
/-- a feed's, a log's, a pool's line -/
theorem tv_2 {w : Int} {v : Nat → Int} {s : (Int → Int) × Int} (hw : 0 ≤ w ∧ w ≤ 3) (hs : vFd s.1) (hf : ¬ 40 ≤ s.1 0) (hc : cbN 2 w 0 (v 0) (v 0) s.1 = true) : vFd (tlN 2 w v s).1 := by
  obtain ⟨a0, aj⟩ := hs
  unfold cbN at hc
  rw [if_neg (by decide), if_neg (by decide), if_pos rfl] at hc
  unfold tlN
  rw [if_neg (by decide), if_neg (by decide), if_pos rfl]
  show vFd (upI (upS s.1 (1 + 2 * s.1 0) (fun j => if j = 0 then w else v 0) 2) 0 (s.1 0 + 1))
  generalize ht : upI (upS s.1 (1 + 2 * s.1 0) (fun j => if j = 0 then w else v 0) 2) 0 (s.1 0 + 1) = t1
  have t0 : t1 0 = s.1 0 + 1 := by rw [← ht]; exact upI_s
  refine ⟨by omega, fun j h0 h1 => ?_⟩
  by_cases e : j = s.1 0
  · have e0 : t1 (1 + 2 * j + 0) = w := by
      rw [← ht, upI_n (by omega)]
      exact upS_at 0 (by decide) (by omega)
    have e1 : t1 (1 + 2 * j + 1) = v 0 := by
      rw [← ht, upI_n (by omega)]
      exact upS_at 1 (by decide) (by omega)
    rw [e0, e1]
    refine ⟨hw, fun q => ?_, fun q => ?_⟩
    · rw [if_pos q, mIn_t] at hc
      exact hc
    · rw [if_neg q, mIn_t] at hc
      exact hc
  · have o : ∀ y : Int, y ≠ 0 → y < 1 + 2 * s.1 0 → t1 y = s.1 y := fun y h1 h2 => by rw [← ht, upI_n h1, upS_o 2 (by omega)]
    rw [o _ (by omega) (by omega), o _ (by omega) (by omega)]
    exact aj j h0 (by omega)
theorem tv_3 {w : Int} {v : Nat → Int} {s : (Int → Int) × Int} (hs : vLg s.1) (hf : ¬ 8 ≤ s.1 0) (hc : ∀ j : Nat, j < 2 → cbN 3 w j (v j) (v 0) s.1 = true) : vLg (tlN 3 w v s).1 := by
  obtain ⟨a0, aj⟩ := hs
  have k0 : cbN 3 w 0 (v 0) (v 0) s.1 = true := hc 0 (by decide)
  have k1 : cbN 3 w 1 (v 1) (v 0) s.1 = true := hc 1 (by decide)
  unfold cbN at k0 k1
  rw [if_neg (by decide), if_neg (by decide), if_neg (by decide), if_pos rfl] at k0 k1
  rw [if_pos rfl, mIn_t] at k0
  rw [if_neg (by decide), mIn_t] at k1
  unfold tlN
  rw [if_neg (by decide), if_neg (by decide), if_neg (by decide), if_pos rfl]
  show vLg (upI (upS s.1 (1 + 2 * s.1 0) v 2) 0 (s.1 0 + 1))
  generalize ht : upI (upS s.1 (1 + 2 * s.1 0) v 2) 0 (s.1 0 + 1) = t1
  have t0 : t1 0 = s.1 0 + 1 := by rw [← ht]; exact upI_s
  refine ⟨by omega, fun j h0 h1 => ?_⟩
  by_cases e : j = s.1 0
  · have e0 : t1 (1 + 2 * j + 0) = v 0 := by
      rw [← ht, upI_n (by omega)]
      exact upS_at 0 (by decide) (by omega)
    have e1 : t1 (1 + 2 * j + 1) = v 1 := by
      rw [← ht, upI_n (by omega)]
      exact upS_at 1 (by decide) (by omega)
    rw [e0, e1]
    exact ⟨k0, k1⟩
  · have o : ∀ y : Int, y ≠ 0 → y < 1 + 2 * s.1 0 → t1 y = s.1 y := fun y h1 h2 => by rw [← ht, upI_n h1, upS_o 2 (by omega)]
    rw [o _ (by omega) (by omega), o _ (by omega) (by omega)]
    exact aj j h0 (by omega)
theorem tv_4 {w : Int} {v : Nat → Int} {s : (Int → Int) × Int} (hs : vPo s.1) (hf : ¬ 6 ≤ s.1 0) (hc : ∀ j : Nat, j < 4 → cbN 4 w j (v j) (v 0) s.1 = true) : vPo (tlN 4 w v s).1 := by
  obtain ⟨a0, aj⟩ := hs
  have k0 : cbN 4 w 0 (v 0) (v 0) s.1 = true := hc 0 (by decide)
  have k1 : cbN 4 w 1 (v 1) (v 0) s.1 = true := hc 1 (by decide)
  have k2 : cbN 4 w 2 (v 2) (v 0) s.1 = true := hc 2 (by decide)
  have k3 : cbN 4 w 3 (v 3) (v 0) s.1 = true := hc 3 (by decide)
  unfold cbN at k0 k1 k2 k3
  rw [if_neg (by decide), if_neg (by decide), if_neg (by decide), if_neg (by decide)] at k0 k1 k2 k3
  rw [if_pos rfl, mIn_t] at k0
  rw [if_neg (by decide), if_pos rfl, Bool.and_eq_true, mIn_t] at k1
  rw [if_neg (by decide), if_neg (by decide), if_pos rfl, mIn_t] at k2
  rw [if_neg (by decide), if_neg (by decide), if_neg (by decide), mIn_t] at k3
  unfold tlN
  rw [if_neg (by decide), if_neg (by decide), if_neg (by decide), if_neg (by decide)]
  show vPo (upI (upS s.1 (1 + 4 * s.1 0) v 4) 0 (s.1 0 + 1))
  generalize ht : upI (upS s.1 (1 + 4 * s.1 0) v 4) 0 (s.1 0 + 1) = t1
  have t0 : t1 0 = s.1 0 + 1 := by rw [← ht]; exact upI_s
  refine ⟨by omega, fun j h0 h1 => ?_⟩
  by_cases e : j = s.1 0
  · have ew : ∀ x : Nat, x < 4 → t1 (1 + 4 * j + x) = v x := fun x hx => by
      rw [← ht, upI_n (by omega)]
      exact upS_at x hx (by omega)
    have e0 : t1 (1 + 4 * j + 0) = v 0 := ew 0 (by decide)
    have e1 : t1 (1 + 4 * j + 1) = v 1 := ew 1 (by decide)
    have e2 : t1 (1 + 4 * j + 2) = v 2 := ew 2 (by decide)
    have e3 : t1 (1 + 4 * j + 3) = v 3 := ew 3 (by decide)
    rw [e0, e1, e2, e3]
    exact ⟨k0, k1.1, k2, k3⟩
  · have o : ∀ y : Int, y ≠ 0 → y < 1 + 4 * s.1 0 → t1 y = s.1 y := fun y h1 h2 => by rw [← ht, upI_n h1, upS_o 4 (by omega)]
    rw [o _ (by omega) (by omega), o _ (by omega) (by omega), o _ (by omega) (by omega), o _ (by omega) (by omega)]
    exact aj j h0 (by omega)

