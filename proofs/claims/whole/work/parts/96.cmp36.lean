/-! FILLING -/
section ZF
variable {N : Nat} {kd len : Nat → Nat} {R R1 : Nat → Int → Option Nat} {i : Nat}
theorem zF_n (h : zFill N kd len R i) : i < N := by have := h.1; omega
theorem zF_k (h : zFill N kd len R i) : kd i = 3 := h.2.1
theorem zF_n3 (h : zFill N kd len R i) : i + 3 < N := by have := h.1; omega
theorem zF_n4 (h : zFill N kd len R i) : i + 4 < N := by have := h.1; omega
theorem zF_n5 (h : zFill N kd len R i) : i + 5 < N := by have := h.1; omega
theorem zF_l (h : zFill N kd len R i) : kd (i + 3) = 17 ∧ len (i + 3) = 4 ∧ R i 1 = some (i + 3) := h.2.2.1
theorem zF_r (h : zFill N kd len R i) : kd (i + 4) = 13 ∧ len (i + 4) = 3 ∧ R i 2 = some (i + 4) := h.2.2.2.1
theorem zF_b (h : zFill N kd len R i) : kd (i + 5) = 13 ∧ len (i + 5) = 3 ∧ R i 3 = some (i + 5) := h.2.2.2.2.1
theorem zF_lg (h : zFill N kd len R i) {z : Int} (h0 : 0 ≤ z) (h1 : z < 4) : R (i + 3) z = some (i + 6 + 2 * z.toNat) ∧ zLedger N kd len R (i + 6 + 2 * z.toNat) := h.2.2.2.2.2.1 z h0 h1
theorem zF_pl (h : zFill N kd len R i) : R i 0 = some (pl9 R i) ∧ zRows N kd len R (pl9 R i) 24 := h.2.2.2.2.2.2
theorem zF_sm (h : zFill N kd len R i) : len (pl9 R i + 1) < 2147483648 := by
  rw [zRows_l1 (zF_pl h).2]
  decide
theorem zF_put (h : zFill N kd len R i) {j : Nat} (e : R1 = zU R i 0 (some j)) (hj : zRows N kd len R j 24) : zFill N kd len R1 i ∧ zRows N kd len R1 j 24 := by
  have nj : j ≠ i := fun g => by have := hj.2.1; rw [g, zF_k h] at this; exact absurd this (by decide)
  have hj1 : zRows N kd len R1 j 24 := zRows_U hj (by rw [e, zU_o nj])
  have p9 : pl9 R1 i = j := by
    unfold pl9
    rw [e, zU_s]
    rfl
  refine ⟨⟨h.1, h.2.1, ⟨(zF_l h).1, (zF_l h).2.1, by rw [e, zU_n (by omega)]; exact (zF_l h).2.2⟩, ⟨(zF_r h).1, (zF_r h).2.1, by rw [e, zU_n (by omega)]; exact (zF_r h).2.2⟩, ⟨(zF_b h).1, (zF_b h).2.1, by rw [e, zU_n (by omega)]; exact (zF_b h).2.2⟩, fun z h0 h1 => ⟨by rw [e, zU_o (by omega)]; exact (zF_lg h h0 h1).1, zLedger_U (zF_lg h h0 h1).2 (by rw [e, zU_o (by omega)])⟩, by rw [p9, e, zU_s], ?_⟩, hj1⟩
  rw [p9]
  exact hj1
end ZF
theorem dg6_c {n p k : Nat} (hk : k < 6) : (∀ j, j < n → dg6 (n + 1) (6 * p + k) j = dg6 n p j) ∧ dg6 (n + 1) (6 * p + k) n = k := by
  constructor
  · intro j hj
    unfold dg6
    rw [show n + 1 - 1 - j = (n - 1 - j) + 1 by omega, Nat.pow_succ', ← Nat.div_div_eq_div_mul, show (6 * p + k) / 6 = p by omega]
  · unfold dg6
    rw [show n + 1 - 1 - n = 0 by omega, Nat.pow_zero, Nat.div_one]
    omega
theorem dg6_cut {t n m j : Nat} (h : n + 1 ≤ t) (hj : j < n + 1) : dg6 t m j = dg6 (n + 1) (m / 6 ^ (t - (n + 1))) j := by
  unfold dg6
  rw [Nat.div_div_eq_div_mul, ← Nat.pow_add, show t - (n + 1) + (n + 1 - 1 - j) = t - 1 - j by omega]
theorem fsU_row {acc : Int} {pf pt pm pe : Nat → Int} {cnt : Int} {row row' : Nat → Nat} {L : Int → Int} : ∀ q, (∀ j, j < q → row j = row' j) → fsU acc pf pt pm pe cnt row L q = fsU acc pf pt pm pe cnt row' L q
  | 0, _ => rfl
  | q + 1, h => by
    unfold fsU
    rw [fsU_row q (fun j hj => h j (by omega)), h q (by omega)]
def plC (X : Nat → Int → Int) (j : Nat) (w : Int) : Nat → Int := fun k => X (j + 1) ((k : Int) * X j 0 + w)
def fuX (X : Nat → Int → Int) (R : Nat → Int → Option Nat) (i : Nat) (row : Nat → Nat) (n : Nat) : Option (Int × Int × (Int → Int)) := fsU (X (i + 6) 0) (plC X (pl9 R i) 0) (plC X (pl9 R i) 1) (plC X (pl9 R i) 2) (plC X (pl9 R i) 3) (X (pl9 R i) 2) row (X (i + 7)) n
def fvX (X : Nat → Int → Int) (R : Nat → Int → Option Nat) (i : Nat) (m t : Nat) : Int := fsV (X (i + 6) 0) (plC X (pl9 R i) 0) (plC X (pl9 R i) 1) (plC X (pl9 R i) 2) (plC X (pl9 R i) 3) (X (pl9 R i) 2) (dg6 t m) (X (i + 7)) t
def flI (X : Nat → Int → Int) (R : Nat → Int → Option Nat) (i : Nat) : Prop := (oRw X (pl9 R i) 24 ∧ X (pl9 R i) 0 = 4 ∧ X (pl9 R i) 1 = 6 ∧ pl9 R i + 1 < i) ∧ (∀ k : Nat, (k : Int) < X (pl9 R i) 2 → (0 ≤ plC X (pl9 R i) 2 k ∧ plC X (pl9 R i) 2 k ≤ 99) ∧ 0 ≤ plC X (pl9 R i) 3 k ∧ plC X (pl9 R i) 3 k ≤ 9) ∧ X (i + 6) 0 ≤ 6 ∧ ∀ y : Int, 0 ≤ y → y < 6 → 0 ≤ X (i + 7) y ∧ X (i + 7) y ≤ 100000
/-- size, number, taken, fees, what is left -/
def flP (n p : Nat) (h f : Int) (M : Int → Int) (X : Nat → Int → Int) (R : Nat → Int → Option Nat) (i : Nat) : Prop := p < 6 ^ n ∧ fuX X R i (dg6 n p) n = some (h, f, M) ∧ X (i + 6 + 2 * n) 0 = X (i + 6) 0 ∧ (∀ y : Int, 0 ≤ y → y < 6 → X (i + 6 + 2 * n + 1) y = M y ∧ 0 ≤ M y ∧ M y ≤ 100000 + 99 * n) ∧ (∀ j : Nat, j < n → X (i + 4) j = dg6 n p j) ∧ 0 ≤ f ∧ f ≤ 9 * n
def nwF (F : Int) (t m : Nat) (F' : Int) (t' m' : Nat) : Prop := F' < F ∨ (F' = F ∧ (t < t' ∨ (t = t' ∧ m ≤ m')))
theorem nwF_tr {F G H9 : Int} {a b d x y z : Nat} (h : nwF F a x G b y) (g : nwF G b y H9 d z) : nwF F a x H9 d z := by
  unfold nwF at *
  omega
theorem nwF_rf {F : Int} {a x : Nat} : nwF F a x F a x := Or.inr ⟨rfl, Or.inr ⟨rfl, Nat.le_refl _⟩⟩
/-- the best so far -/
def bsT (X X1 : Nat → Int → Int) (R : Nat → Int → Option Nat) (i t m : Nat) : Prop := (t ≤ 3 ∧ m < 6 ^ t) ∧ X1 i 4 = t ∧ X1 i 5 = fvX X R i m t ∧ 0 ≤ fvX X R i m t ∧ ∀ j : Nat, j < t → X1 (i + 5) j = dg6 t m j
def lexB (n p t m : Nat) : Prop := (n < t → m < p * 6 ^ (t - n)) ∧ (t = n → m ≤ p)
def dmF (fv : Nat → Nat → Int) (t m n p : Nat) : Prop := ∀ t' m' : Nat, n ≤ t' → t' ≤ 3 → m' / 6 ^ (t' - n) = p → 0 ≤ fv m' t' → nwF (fv m t) t m (fv m' t') t' m'
def flQ (X X1 : Nat → Int → Int) (R : Nat → Int → Option Nat) (i n p t0 m0 : Nat) : Prop := ∃ t m, bsT X X1 R i t m ∧ (n ≤ t → m < (p + 1) * 6 ^ (t - n)) ∧ nwF (fvX X R i m t) t m (fvX X R i m0 t0) t0 m0 ∧ dmF (fvX X R i) t m n p ∧ ((t = t0 ∧ m = m0) ∨ n ≤ t)
def flF (n : Nat) (X X1 : Nat → Int → Int) (i : Nat) : Prop := (∀ z, z ≠ i → z ≠ i + 4 → z ≠ i + 5 → (z < i + 8 + 2 * n ∨ i + 13 < z) → X1 z = X z) ∧ (∀ s, s ≠ 4 → s ≠ 5 → X1 i s = X i s) ∧ ∀ j : Nat, j < n → X1 (i + 4) j = X (i + 4) j
/-- what stands when rows below k have been tried -/
def flV (X X1 : Nat → Int → Int) (R : Nat → Int → Option Nat) (i n k p t0 m0 : Nat) : Prop := ∃ t m, bsT X X1 R i t m ∧ ((n < t → m < (6 * p + k) * 6 ^ (t - (n + 1))) ∧ (t = n → m ≤ p)) ∧ nwF (fvX X R i m t) t m (fvX X R i m0 t0) t0 m0 ∧ ((t = t0 ∧ m = m0) ∨ n ≤ t) ∧ ∀ t' m' : Nat, n ≤ t' → t' ≤ 3 → m' / 6 ^ (t' - n) = p → (t' = n ∨ m' / 6 ^ (t' - (n + 1)) < 6 * p + k) → 0 ≤ fvX X R i m' t' → nwF (fvX X R i m t) t m (fvX X R i m' t') t' m'
def flN (X : Nat → Int → Int) (R : Nat → Int → Option Nat) (i n : Nat) (h f : Int) (W : Nat → Nat → Nat → Prop) : Prop := ∀ p M t0 m0, flP n p h f M X R i → bsT X X R i t0 m0 → lexB n p t0 m0 → W p t0 m0
section FL
variable {X X1 X2 : Nat → Int → Int} {R : Nat → Int → Option Nat} {i n p k t m t0 m0 : Nat} {h f : Int} {M : Int → Int}
theorem flF.rf : flF n X X i := ⟨fun _ _ _ _ _ => rfl, fun _ _ _ => rfl, fun _ _ => rfl⟩
theorem flF.tr (a : flF n X X1 i) (b : flF n X1 X2 i) : flF n X X2 i := ⟨fun z z1 z2 z3 z4 => (b.1 z z1 z2 z3 z4).trans (a.1 z z1 z2 z3 z4), fun s s1 s2 => (b.2.1 s s1 s2).trans (a.2.1 s s1 s2), fun j hj => (b.2.2 j hj).trans (a.2.2 j hj)⟩
theorem flF.up (a : flF (n + 1) X X1 i) : flF n X X1 i := ⟨fun z z1 z2 z3 z4 => a.1 z z1 z2 z3 (by omega), a.2.1, fun j hj => a.2.2 j (by omega)⟩
theorem fl_fu (a : flF n X X1 i) (hj : pl9 R i + 1 < i) : fuX X1 R i = fuX X R i ∧ fvX X1 R i = fvX X R i ∧ X1 (i + 6) = X (i + 6) ∧ X1 (i + 7) = X (i + 7) ∧ X1 (pl9 R i) = X (pl9 R i) ∧ X1 (pl9 R i + 1) = X (pl9 R i + 1) := by
  have e6 := a.1 (i + 6) (by omega) (by omega) (by omega) (by omega)
  have e7 := a.1 (i + 7) (by omega) (by omega) (by omega) (by omega)
  have ej := a.1 (pl9 R i) (by omega) (by omega) (by omega) (by omega)
  have ek := a.1 (pl9 R i + 1) (by omega) (by omega) (by omega) (by omega)
  refine ⟨?_, ?_, e6, e7, ej, ek⟩
  · funext row n
    unfold fuX plC
    rw [e6, e7, ej, ek]
  · funext m t
    unfold fvX plC
    rw [e6, e7, ej, ek]
theorem fl_I (a : flF n X X1 i) (g : flI X R i) : flI X1 R i := by
  obtain ⟨-, -, e6, e7, ej, ek⟩ := fl_fu a g.1.2.2.2
  unfold flI oRw plC at *
  rw [e6, e7, ej, ek]
  exact g
theorem fl_P (a : flF n X X1 i) (g : flI X R i) (q : flP n p h f M X R i) : flP n p h f M X1 R i := by
  obtain ⟨e1, -, e6, -, -, -⟩ := fl_fu a g.1.2.2.2
  unfold flP at *
  rw [e1, e6, a.1 (i + 6 + 2 * n) (by omega) (by omega) (by omega) (by omega), a.1 (i + 6 + 2 * n + 1) (by omega) (by omega) (by omega) (by omega)]
  exact ⟨q.1, q.2.1, q.2.2.1, q.2.2.2.1, fun j hj => (a.2.2 j hj).trans (q.2.2.2.2.1 j hj), q.2.2.2.2.2⟩
theorem fl_fv (q : flP n p h f M X R i) : fvX X R i p n = f := fsV_e q.2.1
/-- the one that stands now is better -/
theorem fl_new (q : flP n p h f M X R i) (hn : n ≤ 3) (b : bsT X X R i t0 m0) (c : X i 5 < f ∨ (f = X i 5 ∧ (n : Int) < X i 4)) (e4 : X1 i 4 = n) (e5 : X1 i 5 = f) (er : ∀ j : Nat, j < n → X1 (i + 5) j = X (i + 4) j) : flV X X1 R i n 0 p t0 m0 := by
  have ef := fl_fv q
  refine ⟨n, p, ⟨⟨hn, q.1⟩, e4, by rw [ef]; exact e5, by rw [ef]; exact q.2.2.2.2.2.1, fun j hj => (er j hj).trans (q.2.2.2.2.1 j hj)⟩, ⟨fun g => absurd g (Nat.lt_irrefl _), fun _ => Nat.le_refl _⟩, ?_, Or.inr (Nat.le_refl _), fun t' m' h1 h2 h3 h4 h5 => ?_⟩
  · rw [ef, ← b.2.2.1]
    have := b.2.1
    unfold nwF
    omega
  · rcases h4 with h4 | h4
    · subst h4
      rw [Nat.sub_self, Nat.pow_zero, Nat.div_one] at h3
      subst h3
      exact nwF_rf
    · by_cases e : t' = n
      · subst e
        rw [Nat.sub_self, Nat.pow_zero, Nat.div_one] at h3
        subst h3
        exact nwF_rf
      · rw [show t' - n = (t' - (n + 1)) + 1 by omega, Nat.pow_succ, ← Nat.div_div_eq_div_mul] at h3
        omega
theorem fl_old (q : flP n p h f M X R i) (b : bsT X X R i t0 m0) (lx : lexB n p t0 m0) (c : ¬ (X i 5 < f ∨ (f = X i 5 ∧ (n : Int) < X i 4))) : flV X X R i n 0 p t0 m0 := by
  have ef := fl_fv q
  refine ⟨t0, m0, b, ⟨fun g => ?_, lx.2⟩, nwF_rf, Or.inl ⟨rfl, rfl⟩, fun t' m' h1 h2 h3 h4 h5 => ?_⟩
  · have := lx.1 g
    rw [show t0 - n = (t0 - (n + 1)) + 1 by omega, Nat.pow_succ', ← Nat.mul_assoc, Nat.mul_comm p 6] at this
    exact this
  · have hh : t' = n ∧ m' = p := by
      by_cases e : t' = n
      · subst e
        rw [Nat.sub_self, Nat.pow_zero, Nat.div_one] at h3
        exact ⟨rfl, h3⟩
      · rw [show t' - n = (t' - (n + 1)) + 1 by omega, Nat.pow_succ, ← Nat.div_div_eq_div_mul] at h3
        omega
    obtain ⟨rfl, rfl⟩ := hh
    rw [ef]
    have b4 := b.2.1
    have b5 := b.2.2.1
    rw [b4, b5] at c
    have := lx.2
    unfold nwF
    omega
theorem fv_dead (hn : n + 1 ≤ t) (hm : m / 6 ^ (t - (n + 1)) = 6 * p + k) (hd : fuX X R i (dg6 (n + 1) (6 * p + k)) (n + 1) = none) : fvX X R i m t = -1 := by
  obtain ⟨d, rfl⟩ : ∃ d, t = n + 1 + d := ⟨t - (n + 1), by omega⟩
  refine fsV_n (fsU_no ((fsU_row (n + 1) (fun j hj => ?_)).trans hd) d)
  rw [dg6_cut (by omega) hj, hm]
theorem fl_div {t' m' : Nat} (h1 : n + 1 ≤ t') (h3 : m' / 6 ^ (t' - n) = p) : m' / 6 ^ (t' - (n + 1)) / 6 = p := by
  rw [show t' - n = (t' - (n + 1)) + 1 by omega, Nat.pow_succ, ← Nat.div_div_eq_div_mul] at h3
  exact h3
theorem fl_skip (v : flV X X1 R i n k p t0 m0) (hd : fuX X R i (dg6 (n + 1) (6 * p + k)) (n + 1) = none) : flV X X1 R i n (k + 1) p t0 m0 := by
  obtain ⟨t, m, b, ⟨l1, l2⟩, w, og, dm⟩ := v
  refine ⟨t, m, b, ⟨fun g => Nat.lt_of_lt_of_le (l1 g) (Nat.mul_le_mul_right _ (by omega)), l2⟩, w, og, fun t' m' h1 h2 h3 h4 h5 => ?_⟩
  by_cases e : t' = n
  · exact dm t' m' h1 h2 h3 (Or.inl e) h5
  · by_cases e2 : m' / 6 ^ (t' - (n + 1)) = 6 * p + k
    · rw [fv_dead (by omega) e2 hd] at h5
      exact absurd h5 (by decide)
    · exact dm t' m' h1 h2 h3 (Or.inr (by omega)) h5
theorem fl_step (v : flV X X1 R i n k p t0 m0) (hf : fvX X2 R i = fvX X R i) {X3 : Nat → Int → Int} (hn : n + 1 ≤ 3) (g : ∀ t m, bsT X X1 R i t m → lexB (n + 1) (6 * p + k) t m → flQ X2 X3 R i (n + 1) (6 * p + k) t m) : flV X X3 R i n (k + 1) p t0 m0 := by
  obtain ⟨t, m, b, ⟨l1, l2⟩, w, og, dm⟩ := v
  obtain ⟨t1, m1, b1, x1, w1, d1, o1⟩ := g t m b ⟨fun z => by
    have := l1 (by omega)
    rw [show t - (n + 1) = (t - (n + 1) - 1) + 1 by omega, Nat.pow_succ'] at this
    rw [show t - (n + 1) = (t - (n + 1) - 1) + 1 by omega, Nat.pow_succ']
    exact this, fun z => by
    have := l1 (by omega)
    rw [z, Nat.sub_self, Nat.pow_zero, Nat.mul_one] at this
    omega⟩
  rw [hf] at w1 d1
  have b1' : bsT X X3 R i t1 m1 := by
    unfold bsT at b1 ⊢
    rw [hf] at b1
    exact b1
  refine ⟨t1, m1, b1', ⟨fun z => ?_, fun z => ?_⟩, nwF_tr w1 w, ?_, fun t' m' h1 h2 h3 h4 h5 => ?_⟩
  · exact x1 (by omega)
  · rcases o1 with ⟨rfl, rfl⟩ | o1
    · exact l2 z
    · omega
  · rcases o1 with ⟨rfl, rfl⟩ | o1
    · exact og
    · exact Or.inr (by omega)
  · by_cases e : t' = n
    · exact nwF_tr w1 (dm t' m' h1 h2 h3 (Or.inl e) h5)
    · by_cases e2 : m' / 6 ^ (t' - (n + 1)) = 6 * p + k
      · exact d1 t' m' (by omega) h2 e2 h5
      · exact nwF_tr w1 (dm t' m' h1 h2 h3 (Or.inr (by omega)) h5)
/-- rows beyond the pool's size are none -/
theorem fu_over (q : flP n p h f M X R i) (hk : k < 6) (hc : X (pl9 R i) 2 ≤ k) : fuX X R i (dg6 (n + 1) (6 * p + k)) (n + 1) = none := by
  have e : fuX X R i (dg6 (n + 1) (6 * p + k)) n = some (h, f, M) := (fsU_row n (fun j hj => (dg6_c hk).1 j hj)).trans q.2.1
  have := fsU_s e
  rw [(dg6_c (n := n) (p := p) hk).2, decide_eq_false (show ¬ ((k : Int) < X (pl9 R i) 2) by omega), Bool.false_and, Bool.false_and] at this
  exact this.trans (if_neg (by decide))
theorem fl_all (q : flP n p h f M X R i) (v : flV X X1 R i n k p t0 m0) (hk : X (pl9 R i) 2 ≤ k) (h6 : k ≤ 6) : flQ X X1 R i n p t0 m0 := by
  obtain ⟨t, m, b, ⟨l1, l2⟩, w, og, dm⟩ := v
  refine ⟨t, m, b, fun g => ?_, w, fun t' m' h1 h2 h3 h4 => ?_, og⟩
  · by_cases e : t = n
    · subst e
      have := l2 rfl
      rw [Nat.sub_self, Nat.pow_zero, Nat.mul_one]
      omega
    · have := l1 (by omega)
      rw [show t - n = (t - (n + 1)) + 1 by omega, Nat.pow_succ', ← Nat.mul_assoc]
      exact Nat.lt_of_lt_of_le this (Nat.mul_le_mul_right _ (by omega))
  · by_cases e : t' = n
    · exact dm t' m' h1 h2 h3 (Or.inl e) h4
    · have g := fl_div (show n + 1 ≤ t' by omega) h3
      by_cases e2 : m' / 6 ^ (t' - (n + 1)) < 6 * p + k
      · exact dm t' m' h1 h2 h3 (Or.inr e2) h4
      · obtain ⟨z, hz⟩ : ∃ z, m' / 6 ^ (t' - (n + 1)) = 6 * p + z := ⟨m' / 6 ^ (t' - (n + 1)) - 6 * p, by omega⟩
        rw [fv_dead (by omega) hz (fu_over q (by omega) (by omega))] at h4
        exact absurd h4 (by decide)
theorem fl_pay {W V T : Nat → Int → Int} {an kk : Int} (gI : flI X R i) (q : flP n p h f M X R i) (fr : flF n X W i) (hn : n + 1 ≤ 3) (ean : an = n) (ek : kk = k) (hk : (k : Int) < X (pl9 R i) 2) (hu : mHas h k = false) (eV : V = zCp (zU W (i + 6 + 2 * (n + 1)) 0 (W (i + 6 + 2 * n) 0)) (i + 6 + 2 * n + 1) (i + 6 + 2 * (n + 1) + 1) 0 0 6) : flF n X V i ∧ (V i = W i ∧ V (i + 5) = W (i + 5)) ∧ (∀ y : Int, 0 ≤ y → y < 6 → 0 ≤ V (i + 6 + 2 * (n + 1) + 1) y ∧ V (i + 6 + 2 * (n + 1) + 1) y ≤ 1000000000) ∧ (cPk V (i + 6 + 2 * (n + 1)) (plC X (pl9 R i) 0 k) (plC X (pl9 R i) 1 k) (plC X (pl9 R i) 2 k) (plC X (pl9 R i) 3 k) = false → fuX X R i (dg6 (n + 1) (6 * p + k)) (n + 1) = none) ∧ (cPk V (i + 6 + 2 * (n + 1)) (plC X (pl9 R i) 0 k) (plC X (pl9 R i) 1 k) (plC X (pl9 R i) 2 k) (plC X (pl9 R i) 3 k) = true → ∀ T, T = zU (cPa V (i + 6 + 2 * (n + 1)) (plC X (pl9 R i) 0 k) (plC X (pl9 R i) 1 k) (plC X (pl9 R i) 2 k) (plC X (pl9 R i) 3 k)) (i + 4) an kk → flF n X T i ∧ (T i = W i ∧ T (i + 5) = W (i + 5)) ∧ ∃ M', flP (n + 1) (6 * p + k) (zOr h (zShl 1 kk)) (f + plC X (pl9 R i) 3 k) M' T R i) := by
  have k6 : k < 6 := by
    have := gI.1.1.2.1
    have := gI.1.2.2.1
    omega
  have q' := fl_P fr gI q
  obtain ⟨g1, g2, e6, e7, ej, ej1⟩ := fl_fu fr gI.1.2.2.2
  have oV : ∀ z, z ≠ i + 6 + 2 * (n + 1) → z ≠ i + 6 + 2 * (n + 1) + 1 → V z = W z := fun z z1 z2 => by rw [eV, zCp_o z2, zU_o z1]
  have fV : flF n X V i := fr.tr ⟨fun z z1 z2 z3 z4 => oV z (by omega) (by omega), fun s _ _ => by rw [oV i (by omega) (by omega)], fun j _ => by rw [oV (i + 4) (by omega) (by omega)]⟩
  have v0 : V (i + 6 + 2 * (n + 1)) 0 = X (i + 6) 0 := by
    rw [eV, zCp_o (by omega), zU_s, q'.2.2.1, e6]
  have vL : ∀ y : Int, 0 ≤ y → y < 6 → V (i + 6 + 2 * (n + 1) + 1) y = M y := fun y y0 y1 => by
    rw [eV]
    unfold zCp
    rw [if_pos ⟨rfl, y0, by omega⟩, zU_o (by omega), show (0 : Int) + (y - 0) = y by omega]
    exact (q'.2.2.2.1 y y0 y1).1
  have bM := fun y y0 y1 => (q.2.2.2.1 y y0 y1).2
  have am := gI.2.1 k hk
  have acc := gI.2.2.1
  have e : fuX X R i (dg6 (n + 1) (6 * p + k)) n = some (h, f, M) := (fsU_row n (fun j hj => (dg6_c k6).1 j hj)).trans q.2.1
  have st := fsU_s e
  rw [(dg6_c (n := n) (p := p) k6).2, decide_eq_true hk, hu] at st
  have eP : cPk V (i + 6 + 2 * (n + 1)) (plC X (pl9 R i) 0 k) (plC X (pl9 R i) 1 k) (plC X (pl9 R i) 2 k) (plC X (pl9 R i) 3 k) = (mIn (plC X (pl9 R i) 0 k) 0 (X (i + 6) 0 - 1) && mIn (plC X (pl9 R i) 1 k) 0 (X (i + 6) 0 - 1) && decide (plC X (pl9 R i) 2 k + plC X (pl9 R i) 3 k ≤ M (plC X (pl9 R i) 0 k))) := by
    unfold cPk
    rw [v0, Bool.eq_iff_iff]
    simp only [Bool.and_eq_true, decide_eq_true_eq, mIn_t]
    constructor
    · rintro ⟨⟨a, c⟩, d⟩
      rw [vL _ a.1 a.2.2] at d
      exact ⟨⟨by omega, by omega⟩, d⟩
    · rintro ⟨⟨a, c⟩, d⟩
      refine ⟨⟨by omega, by omega⟩, ?_⟩
      rw [vL _ a.1 (by omega)]
      exact d
  refine ⟨fV, ⟨oV i (by omega) (by omega), oV (i + 5) (by omega) (by omega)⟩, fun y y0 y1 => ?_, fun hc => ?_, fun hc T eT => ?_⟩
  · have := bM y y0 y1
    rw [vL y y0 y1]
    exact ⟨by omega, by omega⟩
  · rw [eP] at hc
    rw [hc] at st
    exact st.trans (if_neg (by decide))
  · rw [eP] at hc
    rw [hc] at st
    have st := st.trans (if_pos rfl)
    simp only [Bool.and_eq_true, decide_eq_true_eq, mIn_t] at hc
    obtain ⟨⟨a, c⟩, d⟩ := hc
    have oT : ∀ z, z ≠ i + 4 → z ≠ i + 6 + 2 * (n + 1) + 1 → T z = V z := fun z z1 z2 => by
      rw [eT, zU_o z1]
      unfold cPa
      rw [zU_o z2, zU_o z2]
    have rT : ∀ j : Nat, j < n → T (i + 4) j = V (i + 4) j := fun j hj => by
      rw [eT, zU_n (by omega)]
      unfold cPa
      rw [zU_o (by omega), zU_o (by omega)]
    have fT : flF n X T i := fV.tr ⟨fun z z1 z2 z3 z4 => oT z z2 (by omega), fun s _ _ => by rw [oT i (by omega) (by omega)], rT⟩
    obtain ⟨t1, t2, t6, t7, tj, tj1⟩ := fl_fu fT gI.1.2.2.2
    have bf := bM _ a.1 (by omega)
    have bt := bM _ c.1 (by omega)
    refine ⟨fT, ⟨(oT i (by omega) (by omega)).trans (oV i (by omega) (by omega)), (oT (i + 5) (by omega) (by omega)).trans (oV (i + 5) (by omega) (by omega))⟩, upI (upI M (plC X (pl9 R i) 0 k) (M (plC X (pl9 R i) 0 k) - (plC X (pl9 R i) 2 k + plC X (pl9 R i) 3 k))) (plC X (pl9 R i) 1 k) (upI M (plC X (pl9 R i) 0 k) (M (plC X (pl9 R i) 0 k) - (plC X (pl9 R i) 2 k + plC X (pl9 R i) 3 k)) (plC X (pl9 R i) 1 k) + plC X (pl9 R i) 2 k), ?_, ?_, ?_, fun y y0 y1 => ⟨?_, ?_⟩, fun j hj => ?_, ?_, ?_⟩
    · have := q.1
      rw [Nat.pow_succ]
      omega
    · rw [t1, ek]
      exact st
    · rw [oT _ (by omega) (by omega), v0, t6]
    · rw [eT, zU_o (by omega)]
      unfold cPa
      rw [zU_up, zU_up]
      unfold upI
      rw [vL _ a.1 (by omega), vL y y0 y1, vL _ c.1 (by omega)]
    · have by9 := bM y y0 y1
      unfold upI
      split
      · split
        · exact ⟨by omega, by omega⟩
        · exact ⟨by omega, by omega⟩
      · split
        · exact ⟨by omega, by omega⟩
        · exact ⟨by omega, by omega⟩
    · by_cases g : j = n
      · subst g
        rw [eT, ean, zU_s, (dg6_c k6).2]
        exact ek
      · rw [rT j (by omega), fV.2.2 j (by omega), q.2.2.2.2.1 j (by omega), (dg6_c k6).1 j (by omega)]
    · have := q.2.2.2.2.2
      omega
    · have := q.2.2.2.2.2
      omega
theorem fl_bs {W T : Nat → Int → Int} (fT : flF n X T i) (gI : flI X R i) (h1 : T i = W i) (h2 : T (i + 5) = W (i + 5)) (b : bsT X W R i t m) : bsT T T R i t m := by
  obtain ⟨-, t2, -, -, -, -⟩ := fl_fu fT gI.1.2.2.2
  unfold bsT at *
  rw [t2, h1, h2]
  exact b
theorem fl_lex (v : (n < t → m < (6 * p + k) * 6 ^ (t - (n + 1))) ∧ (t = n → m ≤ p)) : lexB (n + 1) (6 * p + k) t m := by
  refine ⟨fun z => ?_, fun z => ?_⟩
  · exact v.1 (by omega)
  · have := v.1 (by omega)
    rw [z, Nat.sub_self, Nat.pow_zero, Nat.mul_one] at this
    omega
theorem fl_end (q : flP 3 p h f M X R i) (v : flV X X1 R i 3 0 p t0 m0) : flQ X X1 R i 3 p t0 m0 := by
  obtain ⟨t, m, b, ⟨l1, l2⟩, w, og, dm⟩ := v
  refine ⟨t, m, b, fun g => ?_, w, fun t' m' h1 h2 h3 h4 => dm t' m' h1 h2 h3 (Or.inl (by omega)) h4, og⟩
  have e : t = 3 := by have := b.1.1; omega
  subst e
  have := l2 rfl
  rw [Nat.sub_self, Nat.pow_zero, Nat.mul_one]
  omega
end FL
abbrev cX3_extend : ByteArray := prog_5_method_3_code
def yX3_extend : MethodName := ⟨RX3, "extend", "(III)V"⟩
theorem dX3_extend_0 : decode cX3_extend 0 = .ok (.iload_n 3, 1) := by decide +kernel
theorem dX3_extend_1 : decode cX3_extend 1 = .ok (.aload_n 0, 1) := by decide +kernel
theorem dX3_extend_2 : decode cX3_extend 2 = .ok (.getfield 42, 3) := by decide +kernel
theorem dX3_extend_5 : decode cX3_extend 5 = .ok (.if_icmp .gt 19, 3) := by decide +kernel
theorem dX3_extend_8 : decode cX3_extend 8 = .ok (.iload_n 3, 1) := by decide +kernel
theorem dX3_extend_9 : decode cX3_extend 9 = .ok (.aload_n 0, 1) := by decide +kernel
theorem dX3_extend_10 : decode cX3_extend 10 = .ok (.getfield 42, 3) := by decide +kernel
theorem dX3_extend_13 : decode cX3_extend 13 = .ok (.if_icmp .ne 35, 3) := by decide +kernel
theorem dX3_extend_16 : decode cX3_extend 16 = .ok (.iload_n 1, 1) := by decide +kernel
theorem dX3_extend_17 : decode cX3_extend 17 = .ok (.aload_n 0, 1) := by decide +kernel
theorem dX3_extend_18 : decode cX3_extend 18 = .ok (.getfield 38, 3) := by decide +kernel
theorem dX3_extend_21 : decode cX3_extend 21 = .ok (.if_icmp .ge 27, 3) := by decide +kernel
theorem dX3_extend_24 : decode cX3_extend 24 = .ok (.aload_n 0, 1) := by decide +kernel
theorem dX3_extend_25 : decode cX3_extend 25 = .ok (.iload_n 3, 1) := by decide +kernel
theorem dX3_extend_26 : decode cX3_extend 26 = .ok (.putfield 42, 3) := by decide +kernel
theorem dX3_extend_29 : decode cX3_extend 29 = .ok (.aload_n 0, 1) := by decide +kernel
theorem dX3_extend_30 : decode cX3_extend 30 = .ok (.iload_n 1, 1) := by decide +kernel
theorem dX3_extend_31 : decode cX3_extend 31 = .ok (.putfield 38, 3) := by decide +kernel
theorem dX3_extend_34 : decode cX3_extend 34 = .ok (.aload_n 0, 1) := by decide +kernel
theorem dX3_extend_35 : decode cX3_extend 35 = .ok (.getfield 26, 3) := by decide +kernel
theorem dX3_extend_38 : decode cX3_extend 38 = .ok (.iconst 0, 1) := by decide +kernel
theorem dX3_extend_39 : decode cX3_extend 39 = .ok (.aload_n 0, 1) := by decide +kernel
theorem dX3_extend_40 : decode cX3_extend 40 = .ok (.getfield 30, 3) := by decide +kernel
theorem dX3_extend_43 : decode cX3_extend 43 = .ok (.iconst 0, 1) := by decide +kernel
theorem dX3_extend_44 : decode cX3_extend 44 = .ok (.iconst 3, 1) := by decide +kernel
theorem dX3_extend_45 : decode cX3_extend 45 = .ok (.invokestatic 49, 3) := by decide +kernel
theorem dX3_extend_48 : decode cX3_extend 48 = .ok (.iload_n 1, 1) := by decide +kernel
theorem dX3_extend_49 : decode cX3_extend 49 = .ok (.ifCond .lt 8, 3) := by decide +kernel
theorem dX3_extend_52 : decode cX3_extend 52 = .ok (.iload_n 1, 1) := by decide +kernel
theorem dX3_extend_53 : decode cX3_extend 53 = .ok (.iconst 3, 1) := by decide +kernel
theorem dX3_extend_54 : decode cX3_extend 54 = .ok (.if_icmp .lt 4, 3) := by decide +kernel
theorem dX3_extend_57 : decode cX3_extend 57 = .ok (.return_, 1) := by decide +kernel
theorem dX3_extend_58 : decode cX3_extend 58 = .ok (.iconst 0, 1) := by decide +kernel
theorem dX3_extend_59 : decode cX3_extend 59 = .ok (.istore 4, 2) := by decide +kernel
theorem dX3_extend_61 : decode cX3_extend 61 = .ok (.iload 4, 2) := by decide +kernel
theorem dX3_extend_63 : decode cX3_extend 63 = .ok (.aload_n 0, 1) := by decide +kernel
theorem dX3_extend_64 : decode cX3_extend 64 = .ok (.getfield 14, 3) := by decide +kernel
theorem dX3_extend_67 : decode cX3_extend 67 = .ok (.getfield 55, 3) := by decide +kernel
theorem dX3_extend_70 : decode cX3_extend 70 = .ok (.if_icmp .ge 122, 3) := by decide +kernel
theorem dX3_extend_73 : decode cX3_extend 73 = .ok (.iload_n 2, 1) := by decide +kernel
theorem dX3_extend_74 : decode cX3_extend 74 = .ok (.iload 4, 2) := by decide +kernel
theorem dX3_extend_76 : decode cX3_extend 76 = .ok (.ishr, 1) := by decide +kernel
theorem dX3_extend_77 : decode cX3_extend 77 = .ok (.iconst 1, 1) := by decide +kernel
theorem dX3_extend_78 : decode cX3_extend 78 = .ok (.iand, 1) := by decide +kernel
theorem dX3_extend_79 : decode cX3_extend 79 = .ok (.ifCond .eq 6, 3) := by decide +kernel
theorem dX3_extend_82 : decode cX3_extend 82 = .ok (.goto 104, 3) := by decide +kernel
theorem dX3_extend_85 : decode cX3_extend 85 = .ok (.aload_n 0, 1) := by decide +kernel
theorem dX3_extend_86 : decode cX3_extend 86 = .ok (.getfield 14, 3) := by decide +kernel
theorem dX3_extend_89 : decode cX3_extend 89 = .ok (.iload 4, 2) := by decide +kernel
theorem dX3_extend_91 : decode cX3_extend 91 = .ok (.iconst 3, 1) := by decide +kernel
theorem dX3_extend_92 : decode cX3_extend 92 = .ok (.invokevirtual 58, 3) := by decide +kernel
theorem dX3_extend_95 : decode cX3_extend 95 = .ok (.istore 5, 2) := by decide +kernel
theorem dX3_extend_97 : decode cX3_extend 97 = .ok (.aload_n 0, 1) := by decide +kernel
theorem dX3_extend_98 : decode cX3_extend 98 = .ok (.getfield 22, 3) := by decide +kernel
theorem dX3_extend_101 : decode cX3_extend 101 = .ok (.iload_n 1, 1) := by decide +kernel
theorem dX3_extend_102 : decode cX3_extend 102 = .ok (.iconst 1, 1) := by decide +kernel
theorem dX3_extend_103 : decode cX3_extend 103 = .ok (.iadd, 1) := by decide +kernel
theorem dX3_extend_104 : decode cX3_extend 104 = .ok (.aaload, 1) := by decide +kernel
theorem dX3_extend_105 : decode cX3_extend 105 = .ok (.astore 6, 2) := by decide +kernel
theorem dX3_extend_107 : decode cX3_extend 107 = .ok (.aload 6, 2) := by decide +kernel
theorem dX3_extend_109 : decode cX3_extend 109 = .ok (.aload_n 0, 1) := by decide +kernel
theorem dX3_extend_110 : decode cX3_extend 110 = .ok (.getfield 22, 3) := by decide +kernel
theorem dX3_extend_113 : decode cX3_extend 113 = .ok (.iload_n 1, 1) := by decide +kernel
theorem dX3_extend_114 : decode cX3_extend 114 = .ok (.aaload, 1) := by decide +kernel
theorem dX3_extend_115 : decode cX3_extend 115 = .ok (.invokevirtual 34, 3) := by decide +kernel
theorem dX3_extend_118 : decode cX3_extend 118 = .ok (.aload 6, 2) := by decide +kernel
theorem dX3_extend_120 : decode cX3_extend 120 = .ok (.aload_n 0, 1) := by decide +kernel
theorem dX3_extend_121 : decode cX3_extend 121 = .ok (.getfield 14, 3) := by decide +kernel
theorem dX3_extend_124 : decode cX3_extend 124 = .ok (.iload 4, 2) := by decide +kernel
theorem dX3_extend_126 : decode cX3_extend 126 = .ok (.iconst 0, 1) := by decide +kernel
theorem dX3_extend_127 : decode cX3_extend 127 = .ok (.invokevirtual 58, 3) := by decide +kernel
theorem dX3_extend_130 : decode cX3_extend 130 = .ok (.aload_n 0, 1) := by decide +kernel
theorem dX3_extend_131 : decode cX3_extend 131 = .ok (.getfield 14, 3) := by decide +kernel
theorem dX3_extend_134 : decode cX3_extend 134 = .ok (.iload 4, 2) := by decide +kernel
theorem dX3_extend_136 : decode cX3_extend 136 = .ok (.iconst 1, 1) := by decide +kernel
theorem dX3_extend_137 : decode cX3_extend 137 = .ok (.invokevirtual 58, 3) := by decide +kernel
theorem dX3_extend_140 : decode cX3_extend 140 = .ok (.aload_n 0, 1) := by decide +kernel
theorem dX3_extend_141 : decode cX3_extend 141 = .ok (.getfield 14, 3) := by decide +kernel
theorem dX3_extend_144 : decode cX3_extend 144 = .ok (.iload 4, 2) := by decide +kernel
theorem dX3_extend_146 : decode cX3_extend 146 = .ok (.iconst 2, 1) := by decide +kernel
theorem dX3_extend_147 : decode cX3_extend 147 = .ok (.invokevirtual 58, 3) := by decide +kernel
theorem dX3_extend_150 : decode cX3_extend 150 = .ok (.iload 5, 2) := by decide +kernel
theorem dX3_extend_152 : decode cX3_extend 152 = .ok (.invokevirtual 62, 3) := by decide +kernel
theorem dX3_extend_155 : decode cX3_extend 155 = .ok (.ifCond .ne 6, 3) := by decide +kernel
theorem dX3_extend_158 : decode cX3_extend 158 = .ok (.goto 28, 3) := by decide +kernel
theorem dX3_extend_161 : decode cX3_extend 161 = .ok (.aload_n 0, 1) := by decide +kernel
theorem dX3_extend_162 : decode cX3_extend 162 = .ok (.getfield 26, 3) := by decide +kernel
theorem dX3_extend_165 : decode cX3_extend 165 = .ok (.iload_n 1, 1) := by decide +kernel
theorem dX3_extend_166 : decode cX3_extend 166 = .ok (.iload 4, 2) := by decide +kernel
theorem dX3_extend_168 : decode cX3_extend 168 = .ok (.iastore, 1) := by decide +kernel
theorem dX3_extend_169 : decode cX3_extend 169 = .ok (.aload_n 0, 1) := by decide +kernel
theorem dX3_extend_170 : decode cX3_extend 170 = .ok (.iload_n 1, 1) := by decide +kernel
theorem dX3_extend_171 : decode cX3_extend 171 = .ok (.iconst 1, 1) := by decide +kernel
theorem dX3_extend_172 : decode cX3_extend 172 = .ok (.iadd, 1) := by decide +kernel
theorem dX3_extend_173 : decode cX3_extend 173 = .ok (.iload_n 2, 1) := by decide +kernel
theorem dX3_extend_174 : decode cX3_extend 174 = .ok (.iconst 1, 1) := by decide +kernel
theorem dX3_extend_175 : decode cX3_extend 175 = .ok (.iload 4, 2) := by decide +kernel
theorem dX3_extend_177 : decode cX3_extend 177 = .ok (.ishl, 1) := by decide +kernel
theorem dX3_extend_178 : decode cX3_extend 178 = .ok (.ior, 1) := by decide +kernel
theorem dX3_extend_179 : decode cX3_extend 179 = .ok (.iload_n 3, 1) := by decide +kernel
theorem dX3_extend_180 : decode cX3_extend 180 = .ok (.iload 5, 2) := by decide +kernel
theorem dX3_extend_182 : decode cX3_extend 182 = .ok (.iadd, 1) := by decide +kernel
theorem dX3_extend_183 : decode cX3_extend 183 = .ok (.invokevirtual 45, 3) := by decide +kernel
theorem dX3_extend_186 : decode cX3_extend 186 = .ok (.iinc 4 1, 3) := by decide +kernel
theorem dX3_extend_189 : decode cX3_extend 189 = .ok (.goto (-128), 3) := by decide +kernel
theorem dX3_extend_192 : decode cX3_extend 192 = .ok (.return_, 1) := by decide +kernel
theorem q_545 : Cond.fieldLink RX3 14 RX3 "pool" "LWorkChains$Rows;" ∈ zTB := zmem 545 (by decide +kernel) rfl
theorem q_267 : Cond.fieldLink RX3 55 RX8 "size" "I" ∈ zTB := zmem 267 (by decide +kernel) rfl
theorem q_1214 : Cond.methodLink RX3 58 yX8_part ∈ zTB := zmem 1214 (by decide +kernel) rfl
theorem k_RX3_58 : zLv RX3 58 RX8 yX8_part cX8_part 4 (some .int) 2 := ⟨⟨q_1214, q_874, q_875, q_133, q_876⟩, rfl, ⟨by decide, by decide⟩, by decide +kernel⟩
theorem q_546 : Cond.fieldLink RX3 22 RX3 "ledgers" "[LWorkChains$Ledger;" ∈ zTB := zmem 546 (by decide +kernel) rfl
theorem q_1208 : Cond.methodLink RX3 34 yX5_copy ∈ zTB := zmem 1208 (by decide +kernel) rfl
theorem k_RX3_34 : zLv RX3 34 RX5 yX5_copy cX5_copy 2 none 1 := ⟨⟨q_1208, q_940, q_941, q_136, q_942⟩, rfl, ⟨by decide, by decide⟩, by decide +kernel⟩
theorem q_1215 : Cond.methodLink RX3 62 yX5_pay ∈ zTB := zmem 1215 (by decide +kernel) rfl
theorem k_RX3_62 : zLv RX3 62 RX5 yX5_pay cX5_pay 5 (some .boolean) 4 := ⟨⟨q_1215, q_949, q_950, q_136, q_951⟩, rfl, ⟨by decide, by decide⟩, by decide +kernel⟩
theorem q_547 : Cond.fieldLink RX3 26 RX3 "row" "[I" ∈ zTB := zmem 547 (by decide +kernel) rfl
theorem q_552 : Cond.fieldLink RX3 42 RX3 "bestFees" "I" ∈ zTB := zmem 552 (by decide +kernel) rfl
theorem q_550 : Cond.fieldLink RX3 38 RX3 "bestSize" "I" ∈ zTB := zmem 550 (by decide +kernel) rfl
theorem q_548 : Cond.fieldLink RX3 30 RX3 "best" "[I" ∈ zTB := zmem 548 (by decide +kernel) rfl
theorem q_1213 : Cond.methodLink RX3 49 arraycopyName ∈ zTB := zmem 1213 (by decide +kernel) rfl
def F_X3_extend3 (i : Nat) (X Y : Nat → Int → Int) (R : Nat → Int → Option Nat) (a : Int) (b : Int) (g : Int) : Prop := (∀ i j, rI (X i j)) → (∀ i j, rL (Y i j)) → (∀ (X1 : Nat → Int → Int), (∀ i j, rI (X1 i j)) → (flF 3 X X1 i ∧ flN X R i 3 b g (fun p t0 m0 => flV X X1 R i 3 0 p t0 m0)) → (((a < 0) → (flF 3 X (X1) i ∧ flN X R i 3 (b) (g) (fun p t0 m0 => flQ X (X1) R i 3 p t0 m0))) ∧ ((¬ (a < 0)) → (((a < 3) → (((0 ≤ (0 : Int) ∧ (0 : Int) ≤ X (pl9 R i) 2) ∧ flF 3 X X1 i ∧ flN X R i 3 b g (fun p t0 m0 => flV X X1 R i 3 ((0 : Int)).toNat p t0 m0)) ∧ (∀ (k : Int) (X5 : Nat → Int → Int), rI k → (∀ i j, rI (X5 i j)) → ((0 ≤ k ∧ k ≤ X (pl9 R i) 2) ∧ flF 3 X X5 i ∧ flN X R i 3 b g (fun p t0 m0 => flV X X5 R i 3 (k).toNat p t0 m0)) → ((((X5 (pl9 R i) 2) ≤ k) → (flF 3 X (X5) i ∧ flN X R i 3 (b) (g) (fun p t0 m0 => flQ X (X5) R i 3 p t0 m0))) ∧ ((¬ ((X5 (pl9 R i) 2) ≤ k)) → ((((zAnd (zShr (b) (k)) (1)) = 0) → ((oRw X5 (pl9 R i) 24 ∧ (0 ≤ k ∧ k < X5 (pl9 R i) 1) ∧ 0 ≤ (3 : Int) ∧ (3 : Int) < X5 (pl9 R i) 0) ∧ (rI (X5 ((pl9 R i) + 1) ((k) * X5 (pl9 R i) 0 + ((3 : Int)))) → ((0 ≤ (a + 1) ∧ (a + 1) < 4) ∧ ((0 ≤ a ∧ a < 4) ∧ (((i + 6 + 2 * (a : Int).toNat) ≠ (i + 6 + 2 * (a + 1 : Int).toNat)) ∧ (∀ X13 : Nat → Int → Int, (∀ i j, rI (X13 i j)) → ((X13) = zCp (zU X5 (i + 6 + 2 * (a + 1 : Int).toNat) 0 (X5 (i + 6 + 2 * (a : Int).toNat) 0)) ((i + 6 + 2 * (a : Int).toNat) + 1) ((i + 6 + 2 * (a + 1 : Int).toNat) + 1) 0 0 6) → ((oRw X13 (pl9 R i) 24 ∧ (0 ≤ k ∧ k < X13 (pl9 R i) 1) ∧ 0 ≤ (0 : Int) ∧ (0 : Int) < X13 (pl9 R i) 0) ∧ (rI (X13 ((pl9 R i) + 1) ((k) * X13 (pl9 R i) 0 + ((0 : Int)))) → ((oRw X13 (pl9 R i) 24 ∧ (0 ≤ k ∧ k < X13 (pl9 R i) 1) ∧ 0 ≤ (1 : Int) ∧ (1 : Int) < X13 (pl9 R i) 0) ∧ (rI (X13 ((pl9 R i) + 1) ((k) * X13 (pl9 R i) 0 + ((1 : Int)))) → ((oRw X13 (pl9 R i) 24 ∧ (0 ≤ k ∧ k < X13 (pl9 R i) 1) ∧ 0 ≤ (2 : Int) ∧ (2 : Int) < X13 (pl9 R i) 0) ∧ (rI (X13 ((pl9 R i) + 1) ((k) * X13 (pl9 R i) 0 + ((2 : Int)))) → (((0 ≤ (X13 ((pl9 R i) + 1) ((k) * X13 (pl9 R i) 0 + ((2 : Int)))) ∧ (X13 ((pl9 R i) + 1) ((k) * X13 (pl9 R i) 0 + ((2 : Int)))) ≤ 99) ∧ (0 ≤ (X5 ((pl9 R i) + 1) ((k) * X5 (pl9 R i) 0 + ((3 : Int)))) ∧ (X5 ((pl9 R i) + 1) ((k) * X5 (pl9 R i) 0 + ((3 : Int)))) ≤ 9) ∧ ∀ y : Int, 0 ≤ y → y < 6 → 0 ≤ X13 ((i + 6 + 2 * (a + 1 : Int).toNat) + 1) y ∧ X13 ((i + 6 + 2 * (a + 1 : Int).toNat) + 1) y ≤ 1000000000) ∧ (∀ r22 : Bool, ∀ X21 : Nat → Int → Int, (∀ i j, rI (X21 i j)) → (r22 = cPk X13 (i + 6 + 2 * (a + 1 : Int).toNat) ((X13 ((pl9 R i) + 1) ((k) * X13 (pl9 R i) 0 + ((0 : Int))))) ((X13 ((pl9 R i) + 1) ((k) * X13 (pl9 R i) 0 + ((1 : Int))))) ((X13 ((pl9 R i) + 1) ((k) * X13 (pl9 R i) 0 + ((2 : Int))))) ((X5 ((pl9 R i) + 1) ((k) * X5 (pl9 R i) 0 + ((3 : Int))))) ∧ (r22 = false → (X21) = X13) ∧ (r22 = true → (X21) = cPa X13 (i + 6 + 2 * (a + 1 : Int).toNat) ((X13 ((pl9 R i) + 1) ((k) * X13 (pl9 R i) 0 + ((0 : Int))))) ((X13 ((pl9 R i) + 1) ((k) * X13 (pl9 R i) 0 + ((1 : Int))))) ((X13 ((pl9 R i) + 1) ((k) * X13 (pl9 R i) 0 + ((2 : Int))))) ((X5 ((pl9 R i) + 1) ((k) * X5 (pl9 R i) 0 + ((3 : Int))))))) → (((r22 = true) → ((0 ≤ a ∧ a < 3) ∧ (∀ X25 : Nat → Int → Int, X25 = zU X21 (i + 4) (a) (k) → (∀ i j, rI (X25 i j)) → ((False) ∧ (True))))) ∧ ((r22 = false) → ((rI (k + 1)) ∧ ((0 ≤ (k + 1) ∧ (k + 1) ≤ X (pl9 R i) 2) ∧ flF 3 X X21 i ∧ flN X R i 3 b g (fun p t0 m0 => flV X X21 R i 3 ((k + 1)).toNat p t0 m0)) ∧ (((10 - (k + 1)).toNat) < ((10 - (k)).toNat)))))))))))))))))))) ∧ ((¬ ((zAnd (zShr (b) (k)) (1)) = 0)) → ((rI (k + 1)) ∧ ((0 ≤ (k + 1) ∧ (k + 1) ≤ X (pl9 R i) 2) ∧ flF 3 X X5 i ∧ flN X R i 3 b g (fun p t0 m0 => flV X X5 R i 3 ((k + 1)).toNat p t0 m0)) ∧ (((10 - (k + 1)).toNat) < ((10 - (k)).toNat)))))))))) ∧ ((¬ (a < 3)) → (flF 3 X (X1) i ∧ flN X R i 3 (b) (g) (fun p t0 m0 => flQ X (X1) R i 3 p t0 m0))))))) ∧ ((((X (i) 5) < g) → (∀ X30 : Nat → Int → Int, X30 = zU X (i) 5 (g) → (∀ i j, rI (X30 i j)) → (∀ X31 : Nat → Int → Int, X31 = zU X30 (i) 4 (a) → (∀ i j, rI (X31 i j)) → (((0 ≤ (0 : Int) ∧ 0 ≤ (0 : Int) ∧ 0 ≤ (3 : Int)) ∧ (0 : Int) + 3 ≤ 3 ∧ (0 : Int) + 3 ≤ 3) ∧ (∀ X33 : Nat → Int → Int, X33 = zCp X31 (i + 4) (i + 5) 0 0 3 → (∀ i j, rI (X33 i j)) → (flF 3 X X33 i ∧ flN X R i 3 b g (fun p t0 m0 => flV X X33 R i 3 0 p t0 m0))))))) ∧ ((¬ ((X (i) 5) < g)) → (((¬ g = (X (i) 5)) → (flF 3 X X i ∧ flN X R i 3 b g (fun p t0 m0 => flV X X R i 3 0 p t0 m0))) ∧ ((¬ (¬ g = (X (i) 5))) → ((((X (i) 4) ≤ a) → (flF 3 X X i ∧ flN X R i 3 b g (fun p t0 m0 => flV X X R i 3 0 p t0 m0))) ∧ ((¬ ((X (i) 4) ≤ a)) → (∀ X36 : Nat → Int → Int, X36 = zU X (i) 5 (g) → (∀ i j, rI (X36 i j)) → (∀ X37 : Nat → Int → Int, X37 = zU X36 (i) 4 (a) → (∀ i j, rI (X37 i j)) → (((0 ≤ (0 : Int) ∧ 0 ≤ (0 : Int) ∧ 0 ≤ (3 : Int)) ∧ (0 : Int) + 3 ≤ 3 ∧ (0 : Int) + 3 ≤ 3) ∧ (∀ X39 : Nat → Int → Int, X39 = zCp X37 (i + 4) (i + 5) 0 0 3 → (∀ i j, rI (X39 i j)) → (flF 3 X X39 i ∧ flN X R i 3 b g (fun p t0 m0 => flV X X39 R i 3 0 p t0 m0))))))))))))
set_option maxHeartbeats 4000000 in
set_option maxRecDepth 100000 in
theorem w_X3_extend3 {l : Launch} {D : va_G} {cy : Nat → ClassId} {bs N : Nat} {sa : Nat → Nat} {kd len : Nat → Nat} {X Y : Nat → Int → Int} {R : Nat → Int → Option Nat} {i : Nat} (hC : zFill N kd len R i) (a : Int) (ha : rI a) (b : Int) (hb : rI b) (g : Int) (hg : rI g) (hF : F_X3_extend3 i X Y R a b g) : Met l yX3_extend (.code yX3_extend cX3_extend 7 none :: zTB) (zRm 2 81) (zPc D cy bs sa N kd len X Y R [.ref (bs + (i)), .int (zI (a)), .int (zI (b)), .int (zI (g))]) (zQv D cy bs N kd len (fun st => st.2.1 = Y ∧ st.2.2 = R ∧ (flF 3 X (st.1) i ∧ flN X R i 3 (b) (g) (fun p t0 m0 => flQ X (st.1) R i 3 p t0 m0)))) 0 0 (zA bs) := by
  refine zstart (by decide) (Nat.le_of_ble_eq_true rfl) ?_
  intro p e s m args below meth c ls C hE hH hr hlk hnm hl hargs
  have hF := hF hH.2.2.1 hH.2.2.2
  have hS : va_S (zA bs) s.heap s.heap [] := va_S.rf
  have hl : lv_has ls 7 [(0, .ref (bs + (i))), (1, .int (zI (a))), (2, .int (zI (b))), (3, .int (zI (g)))] := hl
  have J1 : ∀ (X1 : Nat → Int → Int), (flF 3 X X1 i ∧ flN X R i 3 b g (fun p t0 m0 => flV X X1 R i 3 0 p t0 m0)) → ∀ (H : Heap) (locs : List Loc) (ls : Array Slot), zH D cy bs N kd len X1 Y R H → va_S (zA bs) s.heap H locs → lv_has ls 7 [(0, .ref (bs + (i))), (1, .int (zI (a))), (2, .int (zI (b))), (3, .int (zI (g)))] → W p l e (zRm 2 81) s m args below meth c H locs 0 0 (MQ below (zQv D cy bs N kd len (fun st => st.2.1 = Y ∧ st.2.2 = R ∧ (flF 3 X (st.1) i ∧ flN X R i 3 (b) (g) (fun p t0 m0 => flQ X (st.1) R i 3 p t0 m0)))) args s 0 0 (zA bs)) (F0 m 48 ls []) := by
    intro X1  hI H locs ls hH hS hl
    have hF := hF.1 X1  hH.2.2.1 hI
    refine lv_iload_n C.1 C.2.1 dX3_extend_48 rfl (lv_at hl 1 rfl) ?_
    refine zd_if_lt C ha 57 dX3_extend_49 (by decide) (fun c2 => ?_) (fun c2 => ?_)
    · have hF := hF.1 c2
      exact zd_vret C hr hlk hH hS (⟨rfl, rfl, hF⟩) dX3_extend_57
    · have hF := hF.2 c2
      refine lv_iload_n C.1 C.2.1 dX3_extend_52 rfl (lv_at hl 1 rfl) ?_
      refine zd_iconst C dX3_extend_53 ?_
      refine zd_icmp_lt C ha (by decide) 58 dX3_extend_54 (by decide) (fun c3 => ?_) (fun c3 => ?_)
      · have hF := hF.1 c3
        refine zd_iconst C dX3_extend_58 ?_
        refine lv_istore (lv' := [(4, .int (zI (0))), (0, .ref (bs + (i))), (1, .int (zI (a))), (2, .int (zI (b))), (3, .int (zI (g)))]) C.1 C.2.1 dX3_extend_59 hl (by decide) rfl (fun ls hl => ?_)
        obtain ⟨hI4, hF⟩ := hF
        have L4 : ∀ (fu : Nat) (k : Int) (X5 : Nat → Int → Int), rI k → ((0 ≤ k ∧ k ≤ X (pl9 R i) 2) ∧ flF 3 X X5 i ∧ flN X R i 3 b g (fun p t0 m0 => flV X X5 R i 3 (k).toNat p t0 m0)) → ((10 - (k)).toNat) < fu → ∀ (H : Heap) (locs : List Loc) (ls : Array Slot), zH D cy bs N kd len X5 Y R H → va_S (zA bs) s.heap H locs → lv_has ls 7 [(4, .int (zI (k))), (0, .ref (bs + (i))), (1, .int (zI (a))), (2, .int (zI (b))), (3, .int (zI (g)))] → W p l e (zRm 2 81) s m args below meth c H locs 0 0 (MQ below (zQv D cy bs N kd len (fun st => st.2.1 = Y ∧ st.2.2 = R ∧ (flF 3 X (st.1) i ∧ flN X R i 3 (b) (g) (fun p t0 m0 => flQ X (st.1) R i 3 p t0 m0)))) args s 0 0 (zA bs)) (F0 m 61 ls []) := by
          intro fu
          induction fu with
          | zero => intro k X5 _ _ hmu; exact absurd hmu (Nat.not_lt_zero _)
          | succ fu ih4 =>
            intro k X5 hk hI hmu4 H locs ls hH hS hl
            have hF := hF k X5 hk hH.2.2.1 hI
            refine lv_iload C.1 C.2.1 dX3_extend_61 (lv_at hl 0 rfl) ?_
            refine lv_aload_n C.1 C.2.1 dX3_extend_63 rfl (lv_at hl 1 rfl) ?_
            refine zg3_0 C hH (zF_n hC) (zF_k hC) q_545 (zF_pl hC).1 dX3_extend_64 ?_
            refine zg8_2 C hH (zRows_n0 (zF_pl hC).2) (zRows_k0 (zF_pl hC).2) q_267 dX3_extend_67 ?_
            refine zd_icmp_ge C hk (hH.2.2.1 _ _) 192 dX3_extend_70 (by decide) (fun c6 => ?_) (fun c6 => ?_)
            · have hF := hF.1 c6
              exact zd_vret C hr hlk hH hS (⟨rfl, rfl, hF⟩) dX3_extend_192
            · have hF := hF.2 c6
              refine lv_iload_n C.1 C.2.1 dX3_extend_73 rfl (lv_at hl 3 rfl) ?_
              refine lv_iload C.1 C.2.1 dX3_extend_74 (lv_at hl 0 rfl) ?_
              refine zd_ishr C dX3_extend_76 ?_
              refine zd_iconst C dX3_extend_77 ?_
              refine zd_iand C dX3_extend_78 ?_
              refine zd_if_eq C (zI_rg _) 85 dX3_extend_79 (by decide) (fun c7 => ?_) (fun c7 => ?_)
              · have hF := hF.1 c7
                refine lv_aload_n C.1 C.2.1 dX3_extend_85 rfl (lv_at hl 1 rfl) ?_
                refine zg3_0 C hH (zF_n hC) (zF_k hC) q_545 (zF_pl hC).1 dX3_extend_86 ?_
                refine lv_iload C.1 C.2.1 dX3_extend_89 (lv_at hl 0 rfl) ?_
                refine zd_iconst C dX3_extend_91 ?_
                obtain ⟨o8, hF⟩ := hF
                refine zgoi (zrunV (As := [.int (zI (k)), .int (zI (3))]) (rest := []) C hE hH hS hl.1 (c_X8_part (l := l) (zF_pl hC).2 (zF_sm hC) (k) hk (3) (by decide) o8) k_RX3_58 ⟨Nat.le_of_ble_eq_true rfl, Nat.le_of_ble_eq_true rfl⟩ (zRows_n0 (zF_pl hC).2) (zRows_k0 (zF_pl hC).2) rfl rfl rfl (Nat.le_of_ble_eq_true rfl) dX3_extend_92 ⟨Nat.zero_le _, Nat.zero_le _⟩) hS (fun rq Xq Yq Rq H locs hrq hq hH hS => ?_)
                obtain ⟨h91, h92⟩ := hq
                have h93 : Xq = X5 := congrArg (fun z => z.1) h92
                have h94 : Yq = Y := congrArg (fun z => z.2.1) h92
                have h95 : Rq = R := congrArg (fun z => z.2.2) h92
                rw [h93, h94, h95] at hH
                subst h91
                have hr9 := hrq
                have hF := hF hr9
                refine lv_istore (lv' := [(5, .int (zI (X5 ((pl9 R i) + 1) ((k) * X5 (pl9 R i) 0 + ((3 : Int)))))), (4, .int (zI (k))), (0, .ref (bs + (i))), (1, .int (zI (a))), (2, .int (zI (b))), (3, .int (zI (g)))]) C.1 C.2.1 dX3_extend_95 hl (by decide) rfl (fun ls hl => ?_)
                refine lv_aload_n C.1 C.2.1 dX3_extend_97 rfl (lv_at hl 2 rfl) ?_
                refine zg3_1 C hH (zF_n hC) (zF_k hC) q_546 (zF_l hC).2.2 dX3_extend_98 ?_
                refine lv_iload_n C.1 C.2.1 dX3_extend_101 rfl (lv_at hl 3 rfl) ?_
                refine zd_iconst C dX3_extend_102 ?_
                refine zd_iadd C dX3_extend_103 ?_
                obtain ⟨o10, hF⟩ := hF
                refine zd_aaldr C hH (zF_n3 hC) 5 rfl rfl (by rw [(zF_l hC).1]; rfl) o10.1 (by rw [(zF_l hC).2.1]; exact o10.2) (by rw [(zF_l hC).2.1]; decide) (zF_lg hC o10.1 o10.2).1 dX3_extend_104 ?_
                refine lv_astore (lv' := [(6, .ref (bs + (i + 6 + 2 * (a + 1 : Int).toNat))), (5, .int (zI (X5 ((pl9 R i) + 1) ((k) * X5 (pl9 R i) 0 + ((3 : Int)))))), (4, .int (zI (k))), (0, .ref (bs + (i))), (1, .int (zI (a))), (2, .int (zI (b))), (3, .int (zI (g)))]) C.1 C.2.1 dX3_extend_105 hl (by decide) rfl (fun ls hl => ?_)
                refine lv_aload C.1 C.2.1 dX3_extend_107 (lv_at hl 0 rfl) ?_
                refine lv_aload_n C.1 C.2.1 dX3_extend_109 rfl (lv_at hl 3 rfl) ?_
                refine zg3_1 C hH (zF_n hC) (zF_k hC) q_546 (zF_l hC).2.2 dX3_extend_110 ?_
                refine lv_iload_n C.1 C.2.1 dX3_extend_113 rfl (lv_at hl 4 rfl) ?_
                obtain ⟨o11, hF⟩ := hF
                refine zd_aaldr C hH (zF_n3 hC) 5 rfl rfl (by rw [(zF_l hC).1]; rfl) o11.1 (by rw [(zF_l hC).2.1]; exact o11.2) (by rw [(zF_l hC).2.1]; decide) (zF_lg hC o11.1 o11.2).1 dX3_extend_114 ?_
                obtain ⟨o12, hF⟩ := hF
                refine zgov (zrunV (As := [.ref (bs + (i + 6 + 2 * (a : Int).toNat))]) (rest := []) C hE hH hS hl.1 (c_X5_copy (l := l) (zF_lg hC o10.1 o10.2).2 (zF_lg hC o11.1 o11.2).2  o12) k_RX3_34 ⟨Nat.le_of_ble_eq_true rfl, Nat.le_of_ble_eq_true rfl⟩ (zLedger_n0 (zF_lg hC o10.1 o10.2).2) (zLedger_k0 (zF_lg hC o10.1 o10.2).2) rfl rfl rfl (Nat.le_of_ble_eq_true rfl) dX3_extend_115 ⟨Nat.zero_le _, Nat.zero_le _⟩) hS (fun X13 Yq Rq H locs hq hH hS => ?_)
                obtain ⟨h9Y, h9R, hq⟩ := hq
                dsimp only at h9Y h9R
                rw [h9Y, h9R] at hH
                have hF := hF X13 hH.2.2.1 hq
                refine lv_aload C.1 C.2.1 dX3_extend_118 (lv_at hl 0 rfl) ?_
                refine lv_aload_n C.1 C.2.1 dX3_extend_120 rfl (lv_at hl 3 rfl) ?_
                refine zg3_0 C hH (zF_n hC) (zF_k hC) q_545 (zF_pl hC).1 dX3_extend_121 ?_
                refine lv_iload C.1 C.2.1 dX3_extend_124 (lv_at hl 2 rfl) ?_
                refine zd_iconst C dX3_extend_126 ?_
                obtain ⟨o14, hF⟩ := hF
                refine zgoi (zrunV (As := [.int (zI (k)), .int (zI (0))]) (rest := [.ref (bs + (i + 6 + 2 * (a + 1 : Int).toNat))]) C hE hH hS hl.1 (c_X8_part (l := l) (zF_pl hC).2 (zF_sm hC) (k) hk (0) (by decide) o14) k_RX3_58 ⟨Nat.le_of_ble_eq_true rfl, Nat.le_of_ble_eq_true rfl⟩ (zRows_n0 (zF_pl hC).2) (zRows_k0 (zF_pl hC).2) rfl rfl rfl (Nat.le_of_ble_eq_true rfl) dX3_extend_127 ⟨Nat.zero_le _, Nat.zero_le _⟩) hS (fun rq Xq Yq Rq H locs hrq hq hH hS => ?_)
                obtain ⟨h91, h92⟩ := hq
                have h93 : Xq = X13 := congrArg (fun z => z.1) h92
                have h94 : Yq = Y := congrArg (fun z => z.2.1) h92
                have h95 : Rq = R := congrArg (fun z => z.2.2) h92
                rw [h93, h94, h95] at hH
                subst h91
                have hr15 := hrq
                have hF := hF hr15
                refine lv_aload_n C.1 C.2.1 dX3_extend_130 rfl (lv_at hl 3 rfl) ?_
                refine zg3_0 C hH (zF_n hC) (zF_k hC) q_545 (zF_pl hC).1 dX3_extend_131 ?_
                refine lv_iload C.1 C.2.1 dX3_extend_134 (lv_at hl 2 rfl) ?_
                refine zd_iconst C dX3_extend_136 ?_
                obtain ⟨o16, hF⟩ := hF
                refine zgoi (zrunV (As := [.int (zI (k)), .int (zI (1))]) (rest := [.int (zI (X13 ((pl9 R i) + 1) ((k) * X13 (pl9 R i) 0 + ((0 : Int))))), .ref (bs + (i + 6 + 2 * (a + 1 : Int).toNat))]) C hE hH hS hl.1 (c_X8_part (l := l) (zF_pl hC).2 (zF_sm hC) (k) hk (1) (by decide) o16) k_RX3_58 ⟨Nat.le_of_ble_eq_true rfl, Nat.le_of_ble_eq_true rfl⟩ (zRows_n0 (zF_pl hC).2) (zRows_k0 (zF_pl hC).2) rfl rfl rfl (Nat.le_of_ble_eq_true rfl) dX3_extend_137 ⟨Nat.zero_le _, Nat.zero_le _⟩) hS (fun rq Xq Yq Rq H locs hrq hq hH hS => ?_)
                obtain ⟨h91, h92⟩ := hq
                have h93 : Xq = X13 := congrArg (fun z => z.1) h92
                have h94 : Yq = Y := congrArg (fun z => z.2.1) h92
                have h95 : Rq = R := congrArg (fun z => z.2.2) h92
                rw [h93, h94, h95] at hH
                subst h91
                have hr17 := hrq
                have hF := hF hr17
                refine lv_aload_n C.1 C.2.1 dX3_extend_140 rfl (lv_at hl 3 rfl) ?_
                refine zg3_0 C hH (zF_n hC) (zF_k hC) q_545 (zF_pl hC).1 dX3_extend_141 ?_
                refine lv_iload C.1 C.2.1 dX3_extend_144 (lv_at hl 2 rfl) ?_
                refine zd_iconst C dX3_extend_146 ?_
                obtain ⟨o18, hF⟩ := hF
                refine zgoi (zrunV (As := [.int (zI (k)), .int (zI (2))]) (rest := [.int (zI (X13 ((pl9 R i) + 1) ((k) * X13 (pl9 R i) 0 + ((1 : Int))))), .int (zI (X13 ((pl9 R i) + 1) ((k) * X13 (pl9 R i) 0 + ((0 : Int))))), .ref (bs + (i + 6 + 2 * (a + 1 : Int).toNat))]) C hE hH hS hl.1 (c_X8_part (l := l) (zF_pl hC).2 (zF_sm hC) (k) hk (2) (by decide) o18) k_RX3_58 ⟨Nat.le_of_ble_eq_true rfl, Nat.le_of_ble_eq_true rfl⟩ (zRows_n0 (zF_pl hC).2) (zRows_k0 (zF_pl hC).2) rfl rfl rfl (Nat.le_of_ble_eq_true rfl) dX3_extend_147 ⟨Nat.zero_le _, Nat.zero_le _⟩) hS (fun rq Xq Yq Rq H locs hrq hq hH hS => ?_)
                obtain ⟨h91, h92⟩ := hq
                have h93 : Xq = X13 := congrArg (fun z => z.1) h92
                have h94 : Yq = Y := congrArg (fun z => z.2.1) h92
                have h95 : Rq = R := congrArg (fun z => z.2.2) h92
                rw [h93, h94, h95] at hH
                subst h91
                have hr19 := hrq
                have hF := hF hr19
                refine lv_iload C.1 C.2.1 dX3_extend_150 (lv_at hl 1 rfl) ?_
                obtain ⟨o20, hF⟩ := hF
                refine zgoi (zrunV (As := [.int (zI (X13 ((pl9 R i) + 1) ((k) * X13 (pl9 R i) 0 + ((0 : Int))))), .int (zI (X13 ((pl9 R i) + 1) ((k) * X13 (pl9 R i) 0 + ((1 : Int))))), .int (zI (X13 ((pl9 R i) + 1) ((k) * X13 (pl9 R i) 0 + ((2 : Int))))), .int (zI (X5 ((pl9 R i) + 1) ((k) * X5 (pl9 R i) 0 + ((3 : Int)))))]) (rest := []) C hE hH hS hl.1 (c_X5_pay (l := l) (zF_lg hC o10.1 o10.2).2 (X13 ((pl9 R i) + 1) ((k) * X13 (pl9 R i) 0 + ((0 : Int)))) hr15 (X13 ((pl9 R i) + 1) ((k) * X13 (pl9 R i) 0 + ((1 : Int)))) hr17 (X13 ((pl9 R i) + 1) ((k) * X13 (pl9 R i) 0 + ((2 : Int)))) hr19 (X5 ((pl9 R i) + 1) ((k) * X5 (pl9 R i) 0 + ((3 : Int)))) hr9 o20) k_RX3_62 ⟨Nat.le_of_ble_eq_true rfl, Nat.le_of_ble_eq_true rfl⟩ (zLedger_n0 (zF_lg hC o10.1 o10.2).2) (zLedger_k0 (zF_lg hC o10.1 o10.2).2) rfl rfl rfl (Nat.le_of_ble_eq_true rfl) dX3_extend_152 ⟨Nat.zero_le _, Nat.zero_le _⟩) hS (fun rq X21 Yq Rq H locs hrq hq hH hS => ?_)
                obtain ⟨h9Y, h9R, hq⟩ := hq
                dsimp only at h9Y h9R
                rw [h9Y, h9R] at hH
                obtain ⟨r22, h91, hq⟩ := hq
                subst h91
                have hF := hF r22 X21 hH.2.2.1 hq
                refine zd_ifB_ne C 161 dX3_extend_155 (by decide) (fun c23 => ?_) (fun c23 => ?_)
                · have hF := hF.1 c23
                  refine lv_aload_n C.1 C.2.1 dX3_extend_161 rfl (lv_at hl 3 rfl) ?_
                  refine zg3_2 C hH (zF_n hC) (zF_k hC) q_547 (zF_r hC).2.2 dX3_extend_162 ?_
                  refine lv_iload_n C.1 C.2.1 dX3_extend_165 rfl (lv_at hl 4 rfl) ?_
                  refine lv_iload C.1 C.2.1 dX3_extend_166 (lv_at hl 2 rfl) ?_
                  obtain ⟨o24, hF⟩ := hF
                  refine zd_iast C hH hS (zF_n4 hC) (zF_r hC).1 o24.1 (by rw [(zF_r hC).2.1]; exact o24.2) (by rw [(zF_r hC).2.1]; decide) hk dX3_extend_168 (fun H locs hH hS => ?_)
                  obtain ⟨X25, eX25⟩ : ∃ z, z = zU X21 (i + 4) (a) (k) := ⟨_, rfl⟩
                  rw [← eX25] at hH
                  have hF := hF X25 eX25 hH.2.2.1
                  refine lv_aload_n C.1 C.2.1 dX3_extend_169 rfl (lv_at hl 3 rfl) ?_
                  refine lv_iload_n C.1 C.2.1 dX3_extend_170 rfl (lv_at hl 4 rfl) ?_
                  refine zd_iconst C dX3_extend_171 ?_
                  refine zd_iadd C dX3_extend_172 ?_
                  refine lv_iload_n C.1 C.2.1 dX3_extend_173 rfl (lv_at hl 5 rfl) ?_
                  refine zd_iconst C dX3_extend_174 ?_
                  refine lv_iload C.1 C.2.1 dX3_extend_175 (lv_at hl 2 rfl) ?_
                  refine zd_ishl C dX3_extend_177 ?_
                  refine zd_ior C dX3_extend_178 ?_
                  refine lv_iload_n C.1 C.2.1 dX3_extend_179 rfl (lv_at hl 6 rfl) ?_
                  refine lv_iload C.1 C.2.1 dX3_extend_180 (lv_at hl 1 rfl) ?_
                  refine zd_iadd C dX3_extend_182 ?_
                  obtain ⟨o26, hF⟩ := hF
                  exact o26.elim
                · have hF := hF.2 c23
                  refine lv_goto (tgt := 186) C.1 C.2.1 dX3_extend_158 (by decide) ?_
                  refine zd_iinc (k := 2) (lv' := [(4, .int (zI (k + 1))), (6, .ref (bs + (i + 6 + 2 * (a + 1 : Int).toNat))), (5, .int (zI (X5 ((pl9 R i) + 1) ((k) * X5 (pl9 R i) 0 + ((3 : Int)))))), (0, .ref (bs + (i))), (1, .int (zI (a))), (2, .int (zI (b))), (3, .int (zI (g)))]) C hl rfl dX3_extend_186 (by decide) rfl (fun ls hl => ?_)
                  refine lv_goto (tgt := 61) C.1 C.2.1 dX3_extend_189 (by decide) ?_
                  obtain ⟨o27, hF⟩ := hF
                  exact ih4 (k + 1) X21 o27 hF.1 (Nat.lt_of_lt_of_le hF.2 (Nat.le_of_lt_succ hmu4)) _ _ _ hH hS (lv_sub hl [0, 3, 4, 5, 6] rfl)
              · have hF := hF.2 c7
                refine lv_goto (tgt := 186) C.1 C.2.1 dX3_extend_82 (by decide) ?_
                refine zd_iinc (k := 0) (lv' := [(4, .int (zI (k + 1))), (0, .ref (bs + (i))), (1, .int (zI (a))), (2, .int (zI (b))), (3, .int (zI (g)))]) C hl rfl dX3_extend_186 (by decide) rfl (fun ls hl => ?_)
                refine lv_goto (tgt := 61) C.1 C.2.1 dX3_extend_189 (by decide) ?_
                obtain ⟨o28, hF⟩ := hF
                exact ih4 (k + 1) X5 o28 hF.1 (Nat.lt_of_lt_of_le hF.2 (Nat.le_of_lt_succ hmu4)) _ _ _ hH hS (lv_sub hl [0, 1, 2, 3, 4] rfl)
        exact L4 (((10 - ((0 : Int))).toNat) + 1) ((0 : Int)) X1 (by decide) hI4 (Nat.lt_succ_self _) _ _ _ hH hS (lv_sub hl [0, 1, 2, 3, 4] rfl)
      · have hF := hF.2 c3
        exact zd_vret C hr hlk hH hS (⟨rfl, rfl, hF⟩) dX3_extend_57
  have hF := hF.2
  refine lv_iload_n C.1 C.2.1 dX3_extend_0 rfl (lv_at hl 3 rfl) ?_
  refine lv_aload_n C.1 C.2.1 dX3_extend_1 rfl (lv_at hl 0 rfl) ?_
  refine zg3_5 C hH (zF_n hC) (zF_k hC) q_552 dX3_extend_2 ?_
  refine zd_icmp_gt C hg (hH.2.2.1 _ _) 24 dX3_extend_5 (by decide) (fun c29 => ?_) (fun c29 => ?_)
  · have hF := hF.1 c29
    refine lv_aload_n C.1 C.2.1 dX3_extend_24 rfl (lv_at hl 0 rfl) ?_
    refine lv_iload_n C.1 C.2.1 dX3_extend_25 rfl (lv_at hl 3 rfl) ?_
    refine zp3_5 C hH hS (zF_n hC) (zF_k hC) q_552 hg dX3_extend_26 (fun H locs hH hS => ?_)
    obtain ⟨X30, eX30⟩ : ∃ z, z = zU X (i) 5 (g) := ⟨_, rfl⟩
    rw [← eX30] at hH
    have hF := hF X30 eX30 hH.2.2.1
    refine lv_aload_n C.1 C.2.1 dX3_extend_29 rfl (lv_at hl 0 rfl) ?_
    refine lv_iload_n C.1 C.2.1 dX3_extend_30 rfl (lv_at hl 1 rfl) ?_
    refine zp3_4 C hH hS (zF_n hC) (zF_k hC) q_550 ha dX3_extend_31 (fun H locs hH hS => ?_)
    obtain ⟨X31, eX31⟩ : ∃ z, z = zU X30 (i) 4 (a) := ⟨_, rfl⟩
    rw [← eX31] at hH
    have hF := hF X31 eX31 hH.2.2.1
    refine lv_aload_n C.1 C.2.1 dX3_extend_34 rfl (lv_at hl 0 rfl) ?_
    refine zg3_2 C hH (zF_n hC) (zF_k hC) q_547 (zF_r hC).2.2 dX3_extend_35 ?_
    refine zd_iconst C dX3_extend_38 ?_
    refine lv_aload_n C.1 C.2.1 dX3_extend_39 rfl (lv_at hl 0 rfl) ?_
    refine zg3_3 C hH (zF_n hC) (zF_k hC) q_548 (zF_b hC).2.2 dX3_extend_40 ?_
    refine zd_iconst C dX3_extend_43 ?_
    refine zd_iconst C dX3_extend_44 ?_
    obtain ⟨o32, hF⟩ := hF
    refine zd_copyi C hl.1 hH hS (zF_n5 hC) (zF_n4 hC) (zF_b hC).1 (zF_r hC).1 q_1213 q_793 q_792 q_146 o32.1.1 o32.1.2.1 o32.1.2.2 (by rw [(zF_r hC).2.1]; exact o32.2.1) (by rw [(zF_b hC).2.1]; exact o32.2.2) (by rw [(zF_b hC).2.1]; decide) (by rw [(zF_r hC).2.1]; decide) (Nat.le_of_ble_eq_true rfl) (Nat.le_of_ble_eq_true rfl) dX3_extend_45 (fun H locs hH hS => ?_)
    obtain ⟨X33, eX33⟩ : ∃ z, z = zCp X31 (i + 4) (i + 5) 0 0 3 := ⟨_, rfl⟩
    rw [← eX33] at hH
    have hF := hF X33 eX33 hH.2.2.1
    exact J1 X33  hF _ _ _ hH hS (lv_sub hl [0, 1, 2, 3] rfl)
  · have hF := hF.2 c29
    refine lv_iload_n C.1 C.2.1 dX3_extend_8 rfl (lv_at hl 3 rfl) ?_
    refine lv_aload_n C.1 C.2.1 dX3_extend_9 rfl (lv_at hl 0 rfl) ?_
    refine zg3_5 C hH (zF_n hC) (zF_k hC) q_552 dX3_extend_10 ?_
    refine zd_icmp_ne C hg (hH.2.2.1 _ _) 48 dX3_extend_13 (by decide) (fun c34 => ?_) (fun c34 => ?_)
    · have hF := hF.1 c34
      exact J1 X  hF _ _ _ hH hS (lv_sub hl [0, 1, 2, 3] rfl)
    · have hF := hF.2 c34
      refine lv_iload_n C.1 C.2.1 dX3_extend_16 rfl (lv_at hl 1 rfl) ?_
      refine lv_aload_n C.1 C.2.1 dX3_extend_17 rfl (lv_at hl 0 rfl) ?_
      refine zg3_4 C hH (zF_n hC) (zF_k hC) q_550 dX3_extend_18 ?_
      refine zd_icmp_ge C ha (hH.2.2.1 _ _) 48 dX3_extend_21 (by decide) (fun c35 => ?_) (fun c35 => ?_)
      · have hF := hF.1 c35
        exact J1 X  hF _ _ _ hH hS (lv_sub hl [0, 1, 2, 3] rfl)
      · have hF := hF.2 c35
        refine lv_aload_n C.1 C.2.1 dX3_extend_24 rfl (lv_at hl 0 rfl) ?_
        refine lv_iload_n C.1 C.2.1 dX3_extend_25 rfl (lv_at hl 3 rfl) ?_
        refine zp3_5 C hH hS (zF_n hC) (zF_k hC) q_552 hg dX3_extend_26 (fun H locs hH hS => ?_)
        obtain ⟨X36, eX36⟩ : ∃ z, z = zU X (i) 5 (g) := ⟨_, rfl⟩
        rw [← eX36] at hH
        have hF := hF X36 eX36 hH.2.2.1
        refine lv_aload_n C.1 C.2.1 dX3_extend_29 rfl (lv_at hl 0 rfl) ?_
        refine lv_iload_n C.1 C.2.1 dX3_extend_30 rfl (lv_at hl 1 rfl) ?_
        refine zp3_4 C hH hS (zF_n hC) (zF_k hC) q_550 ha dX3_extend_31 (fun H locs hH hS => ?_)
        obtain ⟨X37, eX37⟩ : ∃ z, z = zU X36 (i) 4 (a) := ⟨_, rfl⟩
        rw [← eX37] at hH
        have hF := hF X37 eX37 hH.2.2.1
        refine lv_aload_n C.1 C.2.1 dX3_extend_34 rfl (lv_at hl 0 rfl) ?_
        refine zg3_2 C hH (zF_n hC) (zF_k hC) q_547 (zF_r hC).2.2 dX3_extend_35 ?_
        refine zd_iconst C dX3_extend_38 ?_
        refine lv_aload_n C.1 C.2.1 dX3_extend_39 rfl (lv_at hl 0 rfl) ?_
        refine zg3_3 C hH (zF_n hC) (zF_k hC) q_548 (zF_b hC).2.2 dX3_extend_40 ?_
        refine zd_iconst C dX3_extend_43 ?_
        refine zd_iconst C dX3_extend_44 ?_
        obtain ⟨o38, hF⟩ := hF
        refine zd_copyi C hl.1 hH hS (zF_n5 hC) (zF_n4 hC) (zF_b hC).1 (zF_r hC).1 q_1213 q_793 q_792 q_146 o38.1.1 o38.1.2.1 o38.1.2.2 (by rw [(zF_r hC).2.1]; exact o38.2.1) (by rw [(zF_b hC).2.1]; exact o38.2.2) (by rw [(zF_b hC).2.1]; decide) (by rw [(zF_r hC).2.1]; decide) (Nat.le_of_ble_eq_true rfl) (Nat.le_of_ble_eq_true rfl) dX3_extend_45 (fun H locs hH hS => ?_)
        obtain ⟨X39, eX39⟩ : ∃ z, z = zCp X37 (i + 4) (i + 5) 0 0 3 := ⟨_, rfl⟩
        rw [← eX39] at hH
        have hF := hF X39 eX39 hH.2.2.1
        exact J1 X39  hF _ _ _ hH hS (lv_sub hl [0, 1, 2, 3] rfl)
theorem v_X3_extend3 {X Y : Nat → Int → Int} {R : Nat → Int → Option Nat} {i : Nat} (a : Int) (ha : rI a) (b : Int) (hb : rI b) (g : Int) (hg : rI g) (hp : a = 3 ∧ flI X R i ∧ (0 ≤ g ∧ g ≤ 27) ∧ ∃ p M t0 m0, flP 3 p (b) (g) M X R i ∧ bsT X X R i t0 m0 ∧ lexB 3 p t0 m0) : F_X3_extend3 i X Y R a b g := by
  unfold F_X3_extend3
  intro hX hY
  obtain ⟨rfl, gI, g27, hx⟩ := hp
  obtain ⟨pl1, pl2, pl3, pl4⟩ := gI.1
  have tn1 : ((3 : Int) + 1).toNat = 3 + 1 := rfl
  have tn0 : ((3 : Int)).toNat = 3 := rfl
  refine ⟨?_, ?_⟩
  · intro X1
    intro rX1
    intro h1
    obtain ⟨f1, v1⟩ := h1
    refine ⟨?_, ?_⟩
    · intro c1
      exact absurd c1 (by decide)
    intro c2
    refine ⟨?_, ?_⟩
    · intro c3
      exact absurd c3 (by decide)
    intro c10
    exact ⟨f1, fun p M t0 m0 q b lx => fl_end q (v1 p M t0 m0 q b lx)⟩
  refine ⟨?_, ?_⟩
  · intro c11
    intro X30
    intro eX30
    intro rX30
    intro X31
    intro eX31
    intro rX31
    refine ⟨?_, ?_⟩
    · decide
    intro X33
    intro eX33
    intro rX33
    refine ⟨⟨fun z z1 z2 z3 z4 => by rw [eX33, zCp_o z3, eX31, zU_o z1, eX30, zU_o z1], fun s s4 s5 => by rw [eX33, zCp_o (by omega), eX31, zU_n (by omega), eX30, zU_n (by omega)], fun j _ => by rw [eX33, zCp_o (by omega), eX31, zU_o (by omega), eX30, zU_o (by omega)]⟩, fun p M t0 m0 q b lx => fl_new q (by decide) b (Or.inl c11) ?_ ?_ ?_⟩
    · rw [eX33, zCp_o (by omega), eX31, zU_s]
      rfl
    · rw [eX33, zCp_o (by omega), eX31, zU_n (by omega), eX30, zU_s]
    · intro j hj
      rw [eX33]
      unfold zCp
      rw [if_pos ⟨rfl, by omega, by omega⟩, eX31, zU_o (by omega), eX30, zU_o (by omega), show (0 : Int) + ((j : Int) - 0) = j by omega]
  intro c12
  refine ⟨?_, ?_⟩
  · intro c13
    exact ⟨flF.rf, fun p M t0 m0 q b lx => fl_old q b lx (by omega)⟩
  intro c14
  refine ⟨?_, ?_⟩
  · intro c15
    exact ⟨flF.rf, fun p M t0 m0 q b lx => fl_old q b lx (by omega)⟩
  intro c16
  intro X36
  intro eX36
  intro rX36
  intro X37
  intro eX37
  intro rX37
  refine ⟨?_, ?_⟩
  · decide
  intro X39
  intro eX39
  intro rX39
  refine ⟨⟨fun z z1 z2 z3 z4 => by rw [eX39, zCp_o z3, eX37, zU_o z1, eX36, zU_o z1], fun s s4 s5 => by rw [eX39, zCp_o (by omega), eX37, zU_n (by omega), eX36, zU_n (by omega)], fun j _ => by rw [eX39, zCp_o (by omega), eX37, zU_o (by omega), eX36, zU_o (by omega)]⟩, fun p M t0 m0 q b lx => fl_new q (by decide) b (Or.inr ⟨by omega, by omega⟩) ?_ ?_ ?_⟩
  · rw [eX39, zCp_o (by omega), eX37, zU_s]
    rfl
  · rw [eX39, zCp_o (by omega), eX37, zU_n (by omega), eX36, zU_s]
  · intro j hj
    rw [eX39]
    unfold zCp
    rw [if_pos ⟨rfl, by omega, by omega⟩, eX37, zU_o (by omega), eX36, zU_o (by omega), show (0 : Int) + ((j : Int) - 0) = j by omega]
theorem c_X3_extend3 {l : Launch} {D : va_G} {cy : Nat → ClassId} {bs N : Nat} {sa : Nat → Nat} {kd len : Nat → Nat} {X Y : Nat → Int → Int} {R : Nat → Int → Option Nat} {i : Nat} (hC : zFill N kd len R i) (a : Int) (ha : rI a) (b : Int) (hb : rI b) (g : Int) (hg : rI g) (hp : a = 3 ∧ flI X R i ∧ (0 ≤ g ∧ g ≤ 27) ∧ ∃ p M t0 m0, flP 3 p (b) (g) M X R i ∧ bsT X X R i t0 m0 ∧ lexB 3 p t0 m0) : Met l yX3_extend (.code yX3_extend cX3_extend 7 none :: zTB) (zRm 2 81) (zPc D cy bs sa N kd len X Y R [.ref (bs + (i)), .int (zI (a)), .int (zI (b)), .int (zI (g))]) (zQv D cy bs N kd len (fun st => st.2.1 = Y ∧ st.2.2 = R ∧ (flF 3 X (st.1) i ∧ flN X R i 3 (b) (g) (fun p t0 m0 => flQ X (st.1) R i 3 p t0 m0)))) 0 0 (zA bs) := w_X3_extend3 hC a ha b hb g hg (v_X3_extend3 a ha b hb g hg hp)
theorem q_1209 : Cond.methodLink RX3 45 yX3_extend ∈ zTB := zmem 1209 (by decide +kernel) rfl
theorem q_1211 : Cond.instanceMethod yX3_extend ∈ zTB := zmem 1211 (by decide +kernel) rfl
theorem q_29 : Cond.selects RX3 yX3_extend yX3_extend ∈ zTB := zmem 29 (by decide +kernel) rfl
theorem q_139 : Cond.initialized RX3 ∈ zTB := zmem 139 (by decide +kernel) rfl
theorem q_1212 : Cond.code yX3_extend cX3_extend 7 none ∈ zTB := zmem 1212 (by decide +kernel) rfl
theorem k_RX3_45 : zLv RX3 45 RX3 yX3_extend cX3_extend 7 none 3 := ⟨⟨q_1209, q_1211, q_29, q_139, q_1212⟩, rfl, ⟨by decide, by decide⟩, by decide +kernel⟩
def F_X3_extend2 (i : Nat) (X Y : Nat → Int → Int) (R : Nat → Int → Option Nat) (a : Int) (b : Int) (g : Int) : Prop := (∀ i j, rI (X i j)) → (∀ i j, rL (Y i j)) → (∀ (X1 : Nat → Int → Int), (∀ i j, rI (X1 i j)) → (flF 2 X X1 i ∧ flN X R i 2 b g (fun p t0 m0 => flV X X1 R i 2 0 p t0 m0)) → (((a < 0) → (flF 2 X (X1) i ∧ flN X R i 2 (b) (g) (fun p t0 m0 => flQ X (X1) R i 2 p t0 m0))) ∧ ((¬ (a < 0)) → (((a < 3) → (((0 ≤ (0 : Int) ∧ (0 : Int) ≤ X (pl9 R i) 2) ∧ flF 2 X X1 i ∧ flN X R i 2 b g (fun p t0 m0 => flV X X1 R i 2 ((0 : Int)).toNat p t0 m0)) ∧ (∀ (k : Int) (X5 : Nat → Int → Int), rI k → (∀ i j, rI (X5 i j)) → ((0 ≤ k ∧ k ≤ X (pl9 R i) 2) ∧ flF 2 X X5 i ∧ flN X R i 2 b g (fun p t0 m0 => flV X X5 R i 2 (k).toNat p t0 m0)) → ((((X5 (pl9 R i) 2) ≤ k) → (flF 2 X (X5) i ∧ flN X R i 2 (b) (g) (fun p t0 m0 => flQ X (X5) R i 2 p t0 m0))) ∧ ((¬ ((X5 (pl9 R i) 2) ≤ k)) → ((((zAnd (zShr (b) (k)) (1)) = 0) → ((oRw X5 (pl9 R i) 24 ∧ (0 ≤ k ∧ k < X5 (pl9 R i) 1) ∧ 0 ≤ (3 : Int) ∧ (3 : Int) < X5 (pl9 R i) 0) ∧ (rI (X5 ((pl9 R i) + 1) ((k) * X5 (pl9 R i) 0 + ((3 : Int)))) → ((0 ≤ (a + 1) ∧ (a + 1) < 4) ∧ ((0 ≤ a ∧ a < 4) ∧ (((i + 6 + 2 * (a : Int).toNat) ≠ (i + 6 + 2 * (a + 1 : Int).toNat)) ∧ (∀ X13 : Nat → Int → Int, (∀ i j, rI (X13 i j)) → ((X13) = zCp (zU X5 (i + 6 + 2 * (a + 1 : Int).toNat) 0 (X5 (i + 6 + 2 * (a : Int).toNat) 0)) ((i + 6 + 2 * (a : Int).toNat) + 1) ((i + 6 + 2 * (a + 1 : Int).toNat) + 1) 0 0 6) → ((oRw X13 (pl9 R i) 24 ∧ (0 ≤ k ∧ k < X13 (pl9 R i) 1) ∧ 0 ≤ (0 : Int) ∧ (0 : Int) < X13 (pl9 R i) 0) ∧ (rI (X13 ((pl9 R i) + 1) ((k) * X13 (pl9 R i) 0 + ((0 : Int)))) → ((oRw X13 (pl9 R i) 24 ∧ (0 ≤ k ∧ k < X13 (pl9 R i) 1) ∧ 0 ≤ (1 : Int) ∧ (1 : Int) < X13 (pl9 R i) 0) ∧ (rI (X13 ((pl9 R i) + 1) ((k) * X13 (pl9 R i) 0 + ((1 : Int)))) → ((oRw X13 (pl9 R i) 24 ∧ (0 ≤ k ∧ k < X13 (pl9 R i) 1) ∧ 0 ≤ (2 : Int) ∧ (2 : Int) < X13 (pl9 R i) 0) ∧ (rI (X13 ((pl9 R i) + 1) ((k) * X13 (pl9 R i) 0 + ((2 : Int)))) → (((0 ≤ (X13 ((pl9 R i) + 1) ((k) * X13 (pl9 R i) 0 + ((2 : Int)))) ∧ (X13 ((pl9 R i) + 1) ((k) * X13 (pl9 R i) 0 + ((2 : Int)))) ≤ 99) ∧ (0 ≤ (X5 ((pl9 R i) + 1) ((k) * X5 (pl9 R i) 0 + ((3 : Int)))) ∧ (X5 ((pl9 R i) + 1) ((k) * X5 (pl9 R i) 0 + ((3 : Int)))) ≤ 9) ∧ ∀ y : Int, 0 ≤ y → y < 6 → 0 ≤ X13 ((i + 6 + 2 * (a + 1 : Int).toNat) + 1) y ∧ X13 ((i + 6 + 2 * (a + 1 : Int).toNat) + 1) y ≤ 1000000000) ∧ (∀ r22 : Bool, ∀ X21 : Nat → Int → Int, (∀ i j, rI (X21 i j)) → (r22 = cPk X13 (i + 6 + 2 * (a + 1 : Int).toNat) ((X13 ((pl9 R i) + 1) ((k) * X13 (pl9 R i) 0 + ((0 : Int))))) ((X13 ((pl9 R i) + 1) ((k) * X13 (pl9 R i) 0 + ((1 : Int))))) ((X13 ((pl9 R i) + 1) ((k) * X13 (pl9 R i) 0 + ((2 : Int))))) ((X5 ((pl9 R i) + 1) ((k) * X5 (pl9 R i) 0 + ((3 : Int))))) ∧ (r22 = false → (X21) = X13) ∧ (r22 = true → (X21) = cPa X13 (i + 6 + 2 * (a + 1 : Int).toNat) ((X13 ((pl9 R i) + 1) ((k) * X13 (pl9 R i) 0 + ((0 : Int))))) ((X13 ((pl9 R i) + 1) ((k) * X13 (pl9 R i) 0 + ((1 : Int))))) ((X13 ((pl9 R i) + 1) ((k) * X13 (pl9 R i) 0 + ((2 : Int))))) ((X5 ((pl9 R i) + 1) ((k) * X5 (pl9 R i) 0 + ((3 : Int))))))) → (((r22 = true) → ((0 ≤ a ∧ a < 3) ∧ (∀ X25 : Nat → Int → Int, X25 = zU X21 (i + 4) (a) (k) → (∀ i j, rI (X25 i j)) → ((rI (a + 1)) ∧ ((rI (g + (X5 ((pl9 R i) + 1) ((k) * X5 (pl9 R i) 0 + ((3 : Int)))))) ∧ ((((a + 1)) = 3 ∧ flI X25 R i ∧ (0 ≤ ((g + (X5 ((pl9 R i) + 1) ((k) * X5 (pl9 R i) 0 + ((3 : Int)))))) ∧ ((g + (X5 ((pl9 R i) + 1) ((k) * X5 (pl9 R i) 0 + ((3 : Int)))))) ≤ 27) ∧ ∃ p M t0 m0, flP 3 p ((zOr (b) (zShl (1) (k)))) ((g + (X5 ((pl9 R i) + 1) ((k) * X5 (pl9 R i) 0 + ((3 : Int)))))) M X25 R i ∧ bsT X25 X25 R i t0 m0 ∧ lexB 3 p t0 m0) ∧ (∀ X29 : Nat → Int → Int, (∀ i j, rI (X29 i j)) → (flF 3 X25 (X29) i ∧ flN X25 R i 3 ((zOr (b) (zShl (1) (k)))) ((g + (X5 ((pl9 R i) + 1) ((k) * X5 (pl9 R i) 0 + ((3 : Int)))))) (fun p t0 m0 => flQ X25 (X29) R i 3 p t0 m0)) → ((rI (k + 1)) ∧ ((0 ≤ (k + 1) ∧ (k + 1) ≤ X (pl9 R i) 2) ∧ flF 2 X X29 i ∧ flN X R i 2 b g (fun p t0 m0 => flV X X29 R i 2 ((k + 1)).toNat p t0 m0)) ∧ (((10 - (k + 1)).toNat) < ((10 - (k)).toNat)))))))))) ∧ ((r22 = false) → ((rI (k + 1)) ∧ ((0 ≤ (k + 1) ∧ (k + 1) ≤ X (pl9 R i) 2) ∧ flF 2 X X21 i ∧ flN X R i 2 b g (fun p t0 m0 => flV X X21 R i 2 ((k + 1)).toNat p t0 m0)) ∧ (((10 - (k + 1)).toNat) < ((10 - (k)).toNat)))))))))))))))))))) ∧ ((¬ ((zAnd (zShr (b) (k)) (1)) = 0)) → ((rI (k + 1)) ∧ ((0 ≤ (k + 1) ∧ (k + 1) ≤ X (pl9 R i) 2) ∧ flF 2 X X5 i ∧ flN X R i 2 b g (fun p t0 m0 => flV X X5 R i 2 ((k + 1)).toNat p t0 m0)) ∧ (((10 - (k + 1)).toNat) < ((10 - (k)).toNat)))))))))) ∧ ((¬ (a < 3)) → (flF 2 X (X1) i ∧ flN X R i 2 (b) (g) (fun p t0 m0 => flQ X (X1) R i 2 p t0 m0))))))) ∧ ((((X (i) 5) < g) → (∀ X34 : Nat → Int → Int, X34 = zU X (i) 5 (g) → (∀ i j, rI (X34 i j)) → (∀ X35 : Nat → Int → Int, X35 = zU X34 (i) 4 (a) → (∀ i j, rI (X35 i j)) → (((0 ≤ (0 : Int) ∧ 0 ≤ (0 : Int) ∧ 0 ≤ (3 : Int)) ∧ (0 : Int) + 3 ≤ 3 ∧ (0 : Int) + 3 ≤ 3) ∧ (∀ X37 : Nat → Int → Int, X37 = zCp X35 (i + 4) (i + 5) 0 0 3 → (∀ i j, rI (X37 i j)) → (flF 2 X X37 i ∧ flN X R i 2 b g (fun p t0 m0 => flV X X37 R i 2 0 p t0 m0))))))) ∧ ((¬ ((X (i) 5) < g)) → (((¬ g = (X (i) 5)) → (flF 2 X X i ∧ flN X R i 2 b g (fun p t0 m0 => flV X X R i 2 0 p t0 m0))) ∧ ((¬ (¬ g = (X (i) 5))) → ((((X (i) 4) ≤ a) → (flF 2 X X i ∧ flN X R i 2 b g (fun p t0 m0 => flV X X R i 2 0 p t0 m0))) ∧ ((¬ ((X (i) 4) ≤ a)) → (∀ X40 : Nat → Int → Int, X40 = zU X (i) 5 (g) → (∀ i j, rI (X40 i j)) → (∀ X41 : Nat → Int → Int, X41 = zU X40 (i) 4 (a) → (∀ i j, rI (X41 i j)) → (((0 ≤ (0 : Int) ∧ 0 ≤ (0 : Int) ∧ 0 ≤ (3 : Int)) ∧ (0 : Int) + 3 ≤ 3 ∧ (0 : Int) + 3 ≤ 3) ∧ (∀ X43 : Nat → Int → Int, X43 = zCp X41 (i + 4) (i + 5) 0 0 3 → (∀ i j, rI (X43 i j)) → (flF 2 X X43 i ∧ flN X R i 2 b g (fun p t0 m0 => flV X X43 R i 2 0 p t0 m0))))))))))))
set_option maxHeartbeats 4000000 in
set_option maxRecDepth 100000 in
theorem w_X3_extend2 {l : Launch} {D : va_G} {cy : Nat → ClassId} {bs N : Nat} {sa : Nat → Nat} {kd len : Nat → Nat} {X Y : Nat → Int → Int} {R : Nat → Int → Option Nat} {i : Nat} (hC : zFill N kd len R i) (a : Int) (ha : rI a) (b : Int) (hb : rI b) (g : Int) (hg : rI g) (hF : F_X3_extend2 i X Y R a b g) : Met l yX3_extend (.code yX3_extend cX3_extend 7 none :: zTB) (zRm 3 107) (zPc D cy bs sa N kd len X Y R [.ref (bs + (i)), .int (zI (a)), .int (zI (b)), .int (zI (g))]) (zQv D cy bs N kd len (fun st => st.2.1 = Y ∧ st.2.2 = R ∧ (flF 2 X (st.1) i ∧ flN X R i 2 (b) (g) (fun p t0 m0 => flQ X (st.1) R i 2 p t0 m0)))) 0 0 (zA bs) := by
  refine zstart (by decide) (Nat.le_of_ble_eq_true rfl) ?_
  intro p e s m args below meth c ls C hE hH hr hlk hnm hl hargs
  have hF := hF hH.2.2.1 hH.2.2.2
  have hS : va_S (zA bs) s.heap s.heap [] := va_S.rf
  have hl : lv_has ls 7 [(0, .ref (bs + (i))), (1, .int (zI (a))), (2, .int (zI (b))), (3, .int (zI (g)))] := hl
  have J1 : ∀ (X1 : Nat → Int → Int), (flF 2 X X1 i ∧ flN X R i 2 b g (fun p t0 m0 => flV X X1 R i 2 0 p t0 m0)) → ∀ (H : Heap) (locs : List Loc) (ls : Array Slot), zH D cy bs N kd len X1 Y R H → va_S (zA bs) s.heap H locs → lv_has ls 7 [(0, .ref (bs + (i))), (1, .int (zI (a))), (2, .int (zI (b))), (3, .int (zI (g)))] → W p l e (zRm 3 107) s m args below meth c H locs 0 0 (MQ below (zQv D cy bs N kd len (fun st => st.2.1 = Y ∧ st.2.2 = R ∧ (flF 2 X (st.1) i ∧ flN X R i 2 (b) (g) (fun p t0 m0 => flQ X (st.1) R i 2 p t0 m0)))) args s 0 0 (zA bs)) (F0 m 48 ls []) := by
    intro X1  hI H locs ls hH hS hl
    have hF := hF.1 X1  hH.2.2.1 hI
    refine lv_iload_n C.1 C.2.1 dX3_extend_48 rfl (lv_at hl 1 rfl) ?_
    refine zd_if_lt C ha 57 dX3_extend_49 (by decide) (fun c2 => ?_) (fun c2 => ?_)
    · have hF := hF.1 c2
      exact zd_vret C hr hlk hH hS (⟨rfl, rfl, hF⟩) dX3_extend_57
    · have hF := hF.2 c2
      refine lv_iload_n C.1 C.2.1 dX3_extend_52 rfl (lv_at hl 1 rfl) ?_
      refine zd_iconst C dX3_extend_53 ?_
      refine zd_icmp_lt C ha (by decide) 58 dX3_extend_54 (by decide) (fun c3 => ?_) (fun c3 => ?_)
      · have hF := hF.1 c3
        refine zd_iconst C dX3_extend_58 ?_
        refine lv_istore (lv' := [(4, .int (zI (0))), (0, .ref (bs + (i))), (1, .int (zI (a))), (2, .int (zI (b))), (3, .int (zI (g)))]) C.1 C.2.1 dX3_extend_59 hl (by decide) rfl (fun ls hl => ?_)
        obtain ⟨hI4, hF⟩ := hF
        have L4 : ∀ (fu : Nat) (k : Int) (X5 : Nat → Int → Int), rI k → ((0 ≤ k ∧ k ≤ X (pl9 R i) 2) ∧ flF 2 X X5 i ∧ flN X R i 2 b g (fun p t0 m0 => flV X X5 R i 2 (k).toNat p t0 m0)) → ((10 - (k)).toNat) < fu → ∀ (H : Heap) (locs : List Loc) (ls : Array Slot), zH D cy bs N kd len X5 Y R H → va_S (zA bs) s.heap H locs → lv_has ls 7 [(4, .int (zI (k))), (0, .ref (bs + (i))), (1, .int (zI (a))), (2, .int (zI (b))), (3, .int (zI (g)))] → W p l e (zRm 3 107) s m args below meth c H locs 0 0 (MQ below (zQv D cy bs N kd len (fun st => st.2.1 = Y ∧ st.2.2 = R ∧ (flF 2 X (st.1) i ∧ flN X R i 2 (b) (g) (fun p t0 m0 => flQ X (st.1) R i 2 p t0 m0)))) args s 0 0 (zA bs)) (F0 m 61 ls []) := by
          intro fu
          induction fu with
          | zero => intro k X5 _ _ hmu; exact absurd hmu (Nat.not_lt_zero _)
          | succ fu ih4 =>
            intro k X5 hk hI hmu4 H locs ls hH hS hl
            have hF := hF k X5 hk hH.2.2.1 hI
            refine lv_iload C.1 C.2.1 dX3_extend_61 (lv_at hl 0 rfl) ?_
            refine lv_aload_n C.1 C.2.1 dX3_extend_63 rfl (lv_at hl 1 rfl) ?_
            refine zg3_0 C hH (zF_n hC) (zF_k hC) q_545 (zF_pl hC).1 dX3_extend_64 ?_
            refine zg8_2 C hH (zRows_n0 (zF_pl hC).2) (zRows_k0 (zF_pl hC).2) q_267 dX3_extend_67 ?_
            refine zd_icmp_ge C hk (hH.2.2.1 _ _) 192 dX3_extend_70 (by decide) (fun c6 => ?_) (fun c6 => ?_)
            · have hF := hF.1 c6
              exact zd_vret C hr hlk hH hS (⟨rfl, rfl, hF⟩) dX3_extend_192
            · have hF := hF.2 c6
              refine lv_iload_n C.1 C.2.1 dX3_extend_73 rfl (lv_at hl 3 rfl) ?_
              refine lv_iload C.1 C.2.1 dX3_extend_74 (lv_at hl 0 rfl) ?_
              refine zd_ishr C dX3_extend_76 ?_
              refine zd_iconst C dX3_extend_77 ?_
              refine zd_iand C dX3_extend_78 ?_
              refine zd_if_eq C (zI_rg _) 85 dX3_extend_79 (by decide) (fun c7 => ?_) (fun c7 => ?_)
              · have hF := hF.1 c7
                refine lv_aload_n C.1 C.2.1 dX3_extend_85 rfl (lv_at hl 1 rfl) ?_
                refine zg3_0 C hH (zF_n hC) (zF_k hC) q_545 (zF_pl hC).1 dX3_extend_86 ?_
                refine lv_iload C.1 C.2.1 dX3_extend_89 (lv_at hl 0 rfl) ?_
                refine zd_iconst C dX3_extend_91 ?_
                obtain ⟨o8, hF⟩ := hF
                refine zgoi (zrunV (As := [.int (zI (k)), .int (zI (3))]) (rest := []) C hE hH hS hl.1 (c_X8_part (l := l) (zF_pl hC).2 (zF_sm hC) (k) hk (3) (by decide) o8) k_RX3_58 ⟨Nat.le_of_ble_eq_true rfl, Nat.le_of_ble_eq_true rfl⟩ (zRows_n0 (zF_pl hC).2) (zRows_k0 (zF_pl hC).2) rfl rfl rfl (Nat.le_of_ble_eq_true rfl) dX3_extend_92 ⟨Nat.zero_le _, Nat.zero_le _⟩) hS (fun rq Xq Yq Rq H locs hrq hq hH hS => ?_)
                obtain ⟨h91, h92⟩ := hq
                have h93 : Xq = X5 := congrArg (fun z => z.1) h92
                have h94 : Yq = Y := congrArg (fun z => z.2.1) h92
                have h95 : Rq = R := congrArg (fun z => z.2.2) h92
                rw [h93, h94, h95] at hH
                subst h91
                have hr9 := hrq
                have hF := hF hr9
                refine lv_istore (lv' := [(5, .int (zI (X5 ((pl9 R i) + 1) ((k) * X5 (pl9 R i) 0 + ((3 : Int)))))), (4, .int (zI (k))), (0, .ref (bs + (i))), (1, .int (zI (a))), (2, .int (zI (b))), (3, .int (zI (g)))]) C.1 C.2.1 dX3_extend_95 hl (by decide) rfl (fun ls hl => ?_)
                refine lv_aload_n C.1 C.2.1 dX3_extend_97 rfl (lv_at hl 2 rfl) ?_
                refine zg3_1 C hH (zF_n hC) (zF_k hC) q_546 (zF_l hC).2.2 dX3_extend_98 ?_
                refine lv_iload_n C.1 C.2.1 dX3_extend_101 rfl (lv_at hl 3 rfl) ?_
                refine zd_iconst C dX3_extend_102 ?_
                refine zd_iadd C dX3_extend_103 ?_
                obtain ⟨o10, hF⟩ := hF
                refine zd_aaldr C hH (zF_n3 hC) 5 rfl rfl (by rw [(zF_l hC).1]; rfl) o10.1 (by rw [(zF_l hC).2.1]; exact o10.2) (by rw [(zF_l hC).2.1]; decide) (zF_lg hC o10.1 o10.2).1 dX3_extend_104 ?_
                refine lv_astore (lv' := [(6, .ref (bs + (i + 6 + 2 * (a + 1 : Int).toNat))), (5, .int (zI (X5 ((pl9 R i) + 1) ((k) * X5 (pl9 R i) 0 + ((3 : Int)))))), (4, .int (zI (k))), (0, .ref (bs + (i))), (1, .int (zI (a))), (2, .int (zI (b))), (3, .int (zI (g)))]) C.1 C.2.1 dX3_extend_105 hl (by decide) rfl (fun ls hl => ?_)
                refine lv_aload C.1 C.2.1 dX3_extend_107 (lv_at hl 0 rfl) ?_
                refine lv_aload_n C.1 C.2.1 dX3_extend_109 rfl (lv_at hl 3 rfl) ?_
                refine zg3_1 C hH (zF_n hC) (zF_k hC) q_546 (zF_l hC).2.2 dX3_extend_110 ?_
                refine lv_iload_n C.1 C.2.1 dX3_extend_113 rfl (lv_at hl 4 rfl) ?_
                obtain ⟨o11, hF⟩ := hF
                refine zd_aaldr C hH (zF_n3 hC) 5 rfl rfl (by rw [(zF_l hC).1]; rfl) o11.1 (by rw [(zF_l hC).2.1]; exact o11.2) (by rw [(zF_l hC).2.1]; decide) (zF_lg hC o11.1 o11.2).1 dX3_extend_114 ?_
                obtain ⟨o12, hF⟩ := hF
                refine zgov (zrunV (As := [.ref (bs + (i + 6 + 2 * (a : Int).toNat))]) (rest := []) C hE hH hS hl.1 (c_X5_copy (l := l) (zF_lg hC o10.1 o10.2).2 (zF_lg hC o11.1 o11.2).2  o12) k_RX3_34 ⟨Nat.le_of_ble_eq_true rfl, Nat.le_of_ble_eq_true rfl⟩ (zLedger_n0 (zF_lg hC o10.1 o10.2).2) (zLedger_k0 (zF_lg hC o10.1 o10.2).2) rfl rfl rfl (Nat.le_of_ble_eq_true rfl) dX3_extend_115 ⟨Nat.zero_le _, Nat.zero_le _⟩) hS (fun X13 Yq Rq H locs hq hH hS => ?_)
                obtain ⟨h9Y, h9R, hq⟩ := hq
                dsimp only at h9Y h9R
                rw [h9Y, h9R] at hH
                have hF := hF X13 hH.2.2.1 hq
                refine lv_aload C.1 C.2.1 dX3_extend_118 (lv_at hl 0 rfl) ?_
                refine lv_aload_n C.1 C.2.1 dX3_extend_120 rfl (lv_at hl 3 rfl) ?_
                refine zg3_0 C hH (zF_n hC) (zF_k hC) q_545 (zF_pl hC).1 dX3_extend_121 ?_
                refine lv_iload C.1 C.2.1 dX3_extend_124 (lv_at hl 2 rfl) ?_
                refine zd_iconst C dX3_extend_126 ?_
                obtain ⟨o14, hF⟩ := hF
                refine zgoi (zrunV (As := [.int (zI (k)), .int (zI (0))]) (rest := [.ref (bs + (i + 6 + 2 * (a + 1 : Int).toNat))]) C hE hH hS hl.1 (c_X8_part (l := l) (zF_pl hC).2 (zF_sm hC) (k) hk (0) (by decide) o14) k_RX3_58 ⟨Nat.le_of_ble_eq_true rfl, Nat.le_of_ble_eq_true rfl⟩ (zRows_n0 (zF_pl hC).2) (zRows_k0 (zF_pl hC).2) rfl rfl rfl (Nat.le_of_ble_eq_true rfl) dX3_extend_127 ⟨Nat.zero_le _, Nat.zero_le _⟩) hS (fun rq Xq Yq Rq H locs hrq hq hH hS => ?_)
                obtain ⟨h91, h92⟩ := hq
                have h93 : Xq = X13 := congrArg (fun z => z.1) h92
                have h94 : Yq = Y := congrArg (fun z => z.2.1) h92
                have h95 : Rq = R := congrArg (fun z => z.2.2) h92
                rw [h93, h94, h95] at hH
                subst h91
                have hr15 := hrq
                have hF := hF hr15
                refine lv_aload_n C.1 C.2.1 dX3_extend_130 rfl (lv_at hl 3 rfl) ?_
                refine zg3_0 C hH (zF_n hC) (zF_k hC) q_545 (zF_pl hC).1 dX3_extend_131 ?_
                refine lv_iload C.1 C.2.1 dX3_extend_134 (lv_at hl 2 rfl) ?_
                refine zd_iconst C dX3_extend_136 ?_
                obtain ⟨o16, hF⟩ := hF
                refine zgoi (zrunV (As := [.int (zI (k)), .int (zI (1))]) (rest := [.int (zI (X13 ((pl9 R i) + 1) ((k) * X13 (pl9 R i) 0 + ((0 : Int))))), .ref (bs + (i + 6 + 2 * (a + 1 : Int).toNat))]) C hE hH hS hl.1 (c_X8_part (l := l) (zF_pl hC).2 (zF_sm hC) (k) hk (1) (by decide) o16) k_RX3_58 ⟨Nat.le_of_ble_eq_true rfl, Nat.le_of_ble_eq_true rfl⟩ (zRows_n0 (zF_pl hC).2) (zRows_k0 (zF_pl hC).2) rfl rfl rfl (Nat.le_of_ble_eq_true rfl) dX3_extend_137 ⟨Nat.zero_le _, Nat.zero_le _⟩) hS (fun rq Xq Yq Rq H locs hrq hq hH hS => ?_)
                obtain ⟨h91, h92⟩ := hq
                have h93 : Xq = X13 := congrArg (fun z => z.1) h92
                have h94 : Yq = Y := congrArg (fun z => z.2.1) h92
                have h95 : Rq = R := congrArg (fun z => z.2.2) h92
                rw [h93, h94, h95] at hH
                subst h91
                have hr17 := hrq
                have hF := hF hr17
                refine lv_aload_n C.1 C.2.1 dX3_extend_140 rfl (lv_at hl 3 rfl) ?_
                refine zg3_0 C hH (zF_n hC) (zF_k hC) q_545 (zF_pl hC).1 dX3_extend_141 ?_
                refine lv_iload C.1 C.2.1 dX3_extend_144 (lv_at hl 2 rfl) ?_
                refine zd_iconst C dX3_extend_146 ?_
                obtain ⟨o18, hF⟩ := hF
                refine zgoi (zrunV (As := [.int (zI (k)), .int (zI (2))]) (rest := [.int (zI (X13 ((pl9 R i) + 1) ((k) * X13 (pl9 R i) 0 + ((1 : Int))))), .int (zI (X13 ((pl9 R i) + 1) ((k) * X13 (pl9 R i) 0 + ((0 : Int))))), .ref (bs + (i + 6 + 2 * (a + 1 : Int).toNat))]) C hE hH hS hl.1 (c_X8_part (l := l) (zF_pl hC).2 (zF_sm hC) (k) hk (2) (by decide) o18) k_RX3_58 ⟨Nat.le_of_ble_eq_true rfl, Nat.le_of_ble_eq_true rfl⟩ (zRows_n0 (zF_pl hC).2) (zRows_k0 (zF_pl hC).2) rfl rfl rfl (Nat.le_of_ble_eq_true rfl) dX3_extend_147 ⟨Nat.zero_le _, Nat.zero_le _⟩) hS (fun rq Xq Yq Rq H locs hrq hq hH hS => ?_)
                obtain ⟨h91, h92⟩ := hq
                have h93 : Xq = X13 := congrArg (fun z => z.1) h92
                have h94 : Yq = Y := congrArg (fun z => z.2.1) h92
                have h95 : Rq = R := congrArg (fun z => z.2.2) h92
                rw [h93, h94, h95] at hH
                subst h91
                have hr19 := hrq
                have hF := hF hr19
                refine lv_iload C.1 C.2.1 dX3_extend_150 (lv_at hl 1 rfl) ?_
                obtain ⟨o20, hF⟩ := hF
                refine zgoi (zrunV (As := [.int (zI (X13 ((pl9 R i) + 1) ((k) * X13 (pl9 R i) 0 + ((0 : Int))))), .int (zI (X13 ((pl9 R i) + 1) ((k) * X13 (pl9 R i) 0 + ((1 : Int))))), .int (zI (X13 ((pl9 R i) + 1) ((k) * X13 (pl9 R i) 0 + ((2 : Int))))), .int (zI (X5 ((pl9 R i) + 1) ((k) * X5 (pl9 R i) 0 + ((3 : Int)))))]) (rest := []) C hE hH hS hl.1 (c_X5_pay (l := l) (zF_lg hC o10.1 o10.2).2 (X13 ((pl9 R i) + 1) ((k) * X13 (pl9 R i) 0 + ((0 : Int)))) hr15 (X13 ((pl9 R i) + 1) ((k) * X13 (pl9 R i) 0 + ((1 : Int)))) hr17 (X13 ((pl9 R i) + 1) ((k) * X13 (pl9 R i) 0 + ((2 : Int)))) hr19 (X5 ((pl9 R i) + 1) ((k) * X5 (pl9 R i) 0 + ((3 : Int)))) hr9 o20) k_RX3_62 ⟨Nat.le_of_ble_eq_true rfl, Nat.le_of_ble_eq_true rfl⟩ (zLedger_n0 (zF_lg hC o10.1 o10.2).2) (zLedger_k0 (zF_lg hC o10.1 o10.2).2) rfl rfl rfl (Nat.le_of_ble_eq_true rfl) dX3_extend_152 ⟨Nat.zero_le _, Nat.zero_le _⟩) hS (fun rq X21 Yq Rq H locs hrq hq hH hS => ?_)
                obtain ⟨h9Y, h9R, hq⟩ := hq
                dsimp only at h9Y h9R
                rw [h9Y, h9R] at hH
                obtain ⟨r22, h91, hq⟩ := hq
                subst h91
                have hF := hF r22 X21 hH.2.2.1 hq
                refine zd_ifB_ne C 161 dX3_extend_155 (by decide) (fun c23 => ?_) (fun c23 => ?_)
                · have hF := hF.1 c23
                  refine lv_aload_n C.1 C.2.1 dX3_extend_161 rfl (lv_at hl 3 rfl) ?_
                  refine zg3_2 C hH (zF_n hC) (zF_k hC) q_547 (zF_r hC).2.2 dX3_extend_162 ?_
                  refine lv_iload_n C.1 C.2.1 dX3_extend_165 rfl (lv_at hl 4 rfl) ?_
                  refine lv_iload C.1 C.2.1 dX3_extend_166 (lv_at hl 2 rfl) ?_
                  obtain ⟨o24, hF⟩ := hF
                  refine zd_iast C hH hS (zF_n4 hC) (zF_r hC).1 o24.1 (by rw [(zF_r hC).2.1]; exact o24.2) (by rw [(zF_r hC).2.1]; decide) hk dX3_extend_168 (fun H locs hH hS => ?_)
                  obtain ⟨X25, eX25⟩ : ∃ z, z = zU X21 (i + 4) (a) (k) := ⟨_, rfl⟩
                  rw [← eX25] at hH
                  have hF := hF X25 eX25 hH.2.2.1
                  refine lv_aload_n C.1 C.2.1 dX3_extend_169 rfl (lv_at hl 3 rfl) ?_
                  refine lv_iload_n C.1 C.2.1 dX3_extend_170 rfl (lv_at hl 4 rfl) ?_
                  refine zd_iconst C dX3_extend_171 ?_
                  refine zd_iadd C dX3_extend_172 ?_
                  refine lv_iload_n C.1 C.2.1 dX3_extend_173 rfl (lv_at hl 5 rfl) ?_
                  refine zd_iconst C dX3_extend_174 ?_
                  refine lv_iload C.1 C.2.1 dX3_extend_175 (lv_at hl 2 rfl) ?_
                  refine zd_ishl C dX3_extend_177 ?_
                  refine zd_ior C dX3_extend_178 ?_
                  refine lv_iload_n C.1 C.2.1 dX3_extend_179 rfl (lv_at hl 6 rfl) ?_
                  refine lv_iload C.1 C.2.1 dX3_extend_180 (lv_at hl 1 rfl) ?_
                  refine zd_iadd C dX3_extend_182 ?_
                  obtain ⟨o26, hF⟩ := hF
                  obtain ⟨o27, hF⟩ := hF
                  obtain ⟨o28, hF⟩ := hF
                  refine zgov (zrunV (As := [.int (zI (a + 1)), .int (zI (zOr (b) (zShl (1) (k)))), .int (zI (g + (X5 ((pl9 R i) + 1) ((k) * X5 (pl9 R i) 0 + ((3 : Int))))))]) (rest := []) C hE hH hS hl.1 (c_X3_extend3 (l := l) hC (a + 1) o26 (zOr (b) (zShl (1) (k))) (zI_rg _) (g + (X5 ((pl9 R i) + 1) ((k) * X5 (pl9 R i) 0 + ((3 : Int))))) o27 o28) k_RX3_45 ⟨Nat.le_of_ble_eq_true rfl, Nat.le_of_ble_eq_true rfl⟩ (zF_n hC) (zF_k hC) rfl rfl rfl (Nat.le_of_ble_eq_true rfl) dX3_extend_183 ⟨Nat.zero_le _, Nat.zero_le _⟩) hS (fun X29 Yq Rq H locs hq hH hS => ?_)
                  obtain ⟨h9Y, h9R, hq⟩ := hq
                  dsimp only at h9Y h9R
                  rw [h9Y, h9R] at hH
                  have hF := hF X29 hH.2.2.1 hq
                  refine zd_iinc (k := 2) (lv' := [(4, .int (zI (k + 1))), (6, .ref (bs + (i + 6 + 2 * (a + 1 : Int).toNat))), (5, .int (zI (X5 ((pl9 R i) + 1) ((k) * X5 (pl9 R i) 0 + ((3 : Int)))))), (0, .ref (bs + (i))), (1, .int (zI (a))), (2, .int (zI (b))), (3, .int (zI (g)))]) C hl rfl dX3_extend_186 (by decide) rfl (fun ls hl => ?_)
                  refine lv_goto (tgt := 61) C.1 C.2.1 dX3_extend_189 (by decide) ?_
                  obtain ⟨o30, hF⟩ := hF
                  exact ih4 (k + 1) X29 o30 hF.1 (Nat.lt_of_lt_of_le hF.2 (Nat.le_of_lt_succ hmu4)) _ _ _ hH hS (lv_sub hl [0, 3, 4, 5, 6] rfl)
                · have hF := hF.2 c23
                  refine lv_goto (tgt := 186) C.1 C.2.1 dX3_extend_158 (by decide) ?_
                  refine zd_iinc (k := 2) (lv' := [(4, .int (zI (k + 1))), (6, .ref (bs + (i + 6 + 2 * (a + 1 : Int).toNat))), (5, .int (zI (X5 ((pl9 R i) + 1) ((k) * X5 (pl9 R i) 0 + ((3 : Int)))))), (0, .ref (bs + (i))), (1, .int (zI (a))), (2, .int (zI (b))), (3, .int (zI (g)))]) C hl rfl dX3_extend_186 (by decide) rfl (fun ls hl => ?_)
                  refine lv_goto (tgt := 61) C.1 C.2.1 dX3_extend_189 (by decide) ?_
                  obtain ⟨o31, hF⟩ := hF
                  exact ih4 (k + 1) X21 o31 hF.1 (Nat.lt_of_lt_of_le hF.2 (Nat.le_of_lt_succ hmu4)) _ _ _ hH hS (lv_sub hl [0, 3, 4, 5, 6] rfl)
              · have hF := hF.2 c7
                refine lv_goto (tgt := 186) C.1 C.2.1 dX3_extend_82 (by decide) ?_
                refine zd_iinc (k := 0) (lv' := [(4, .int (zI (k + 1))), (0, .ref (bs + (i))), (1, .int (zI (a))), (2, .int (zI (b))), (3, .int (zI (g)))]) C hl rfl dX3_extend_186 (by decide) rfl (fun ls hl => ?_)
                refine lv_goto (tgt := 61) C.1 C.2.1 dX3_extend_189 (by decide) ?_
                obtain ⟨o32, hF⟩ := hF
                exact ih4 (k + 1) X5 o32 hF.1 (Nat.lt_of_lt_of_le hF.2 (Nat.le_of_lt_succ hmu4)) _ _ _ hH hS (lv_sub hl [0, 1, 2, 3, 4] rfl)
        exact L4 (((10 - ((0 : Int))).toNat) + 1) ((0 : Int)) X1 (by decide) hI4 (Nat.lt_succ_self _) _ _ _ hH hS (lv_sub hl [0, 1, 2, 3, 4] rfl)
      · have hF := hF.2 c3
        exact zd_vret C hr hlk hH hS (⟨rfl, rfl, hF⟩) dX3_extend_57
  have hF := hF.2
  refine lv_iload_n C.1 C.2.1 dX3_extend_0 rfl (lv_at hl 3 rfl) ?_
  refine lv_aload_n C.1 C.2.1 dX3_extend_1 rfl (lv_at hl 0 rfl) ?_
  refine zg3_5 C hH (zF_n hC) (zF_k hC) q_552 dX3_extend_2 ?_
  refine zd_icmp_gt C hg (hH.2.2.1 _ _) 24 dX3_extend_5 (by decide) (fun c33 => ?_) (fun c33 => ?_)
  · have hF := hF.1 c33
    refine lv_aload_n C.1 C.2.1 dX3_extend_24 rfl (lv_at hl 0 rfl) ?_
    refine lv_iload_n C.1 C.2.1 dX3_extend_25 rfl (lv_at hl 3 rfl) ?_
    refine zp3_5 C hH hS (zF_n hC) (zF_k hC) q_552 hg dX3_extend_26 (fun H locs hH hS => ?_)
    obtain ⟨X34, eX34⟩ : ∃ z, z = zU X (i) 5 (g) := ⟨_, rfl⟩
    rw [← eX34] at hH
    have hF := hF X34 eX34 hH.2.2.1
    refine lv_aload_n C.1 C.2.1 dX3_extend_29 rfl (lv_at hl 0 rfl) ?_
    refine lv_iload_n C.1 C.2.1 dX3_extend_30 rfl (lv_at hl 1 rfl) ?_
    refine zp3_4 C hH hS (zF_n hC) (zF_k hC) q_550 ha dX3_extend_31 (fun H locs hH hS => ?_)
    obtain ⟨X35, eX35⟩ : ∃ z, z = zU X34 (i) 4 (a) := ⟨_, rfl⟩
    rw [← eX35] at hH
    have hF := hF X35 eX35 hH.2.2.1
    refine lv_aload_n C.1 C.2.1 dX3_extend_34 rfl (lv_at hl 0 rfl) ?_
    refine zg3_2 C hH (zF_n hC) (zF_k hC) q_547 (zF_r hC).2.2 dX3_extend_35 ?_
    refine zd_iconst C dX3_extend_38 ?_
    refine lv_aload_n C.1 C.2.1 dX3_extend_39 rfl (lv_at hl 0 rfl) ?_
    refine zg3_3 C hH (zF_n hC) (zF_k hC) q_548 (zF_b hC).2.2 dX3_extend_40 ?_
    refine zd_iconst C dX3_extend_43 ?_
    refine zd_iconst C dX3_extend_44 ?_
    obtain ⟨o36, hF⟩ := hF
    refine zd_copyi C hl.1 hH hS (zF_n5 hC) (zF_n4 hC) (zF_b hC).1 (zF_r hC).1 q_1213 q_793 q_792 q_146 o36.1.1 o36.1.2.1 o36.1.2.2 (by rw [(zF_r hC).2.1]; exact o36.2.1) (by rw [(zF_b hC).2.1]; exact o36.2.2) (by rw [(zF_b hC).2.1]; decide) (by rw [(zF_r hC).2.1]; decide) (Nat.le_of_ble_eq_true rfl) (Nat.le_of_ble_eq_true rfl) dX3_extend_45 (fun H locs hH hS => ?_)
    obtain ⟨X37, eX37⟩ : ∃ z, z = zCp X35 (i + 4) (i + 5) 0 0 3 := ⟨_, rfl⟩
    rw [← eX37] at hH
    have hF := hF X37 eX37 hH.2.2.1
    exact J1 X37  hF _ _ _ hH hS (lv_sub hl [0, 1, 2, 3] rfl)
  · have hF := hF.2 c33
    refine lv_iload_n C.1 C.2.1 dX3_extend_8 rfl (lv_at hl 3 rfl) ?_
    refine lv_aload_n C.1 C.2.1 dX3_extend_9 rfl (lv_at hl 0 rfl) ?_
    refine zg3_5 C hH (zF_n hC) (zF_k hC) q_552 dX3_extend_10 ?_
    refine zd_icmp_ne C hg (hH.2.2.1 _ _) 48 dX3_extend_13 (by decide) (fun c38 => ?_) (fun c38 => ?_)
    · have hF := hF.1 c38
      exact J1 X  hF _ _ _ hH hS (lv_sub hl [0, 1, 2, 3] rfl)
    · have hF := hF.2 c38
      refine lv_iload_n C.1 C.2.1 dX3_extend_16 rfl (lv_at hl 1 rfl) ?_
      refine lv_aload_n C.1 C.2.1 dX3_extend_17 rfl (lv_at hl 0 rfl) ?_
      refine zg3_4 C hH (zF_n hC) (zF_k hC) q_550 dX3_extend_18 ?_
      refine zd_icmp_ge C ha (hH.2.2.1 _ _) 48 dX3_extend_21 (by decide) (fun c39 => ?_) (fun c39 => ?_)
      · have hF := hF.1 c39
        exact J1 X  hF _ _ _ hH hS (lv_sub hl [0, 1, 2, 3] rfl)
      · have hF := hF.2 c39
        refine lv_aload_n C.1 C.2.1 dX3_extend_24 rfl (lv_at hl 0 rfl) ?_
        refine lv_iload_n C.1 C.2.1 dX3_extend_25 rfl (lv_at hl 3 rfl) ?_
        refine zp3_5 C hH hS (zF_n hC) (zF_k hC) q_552 hg dX3_extend_26 (fun H locs hH hS => ?_)
        obtain ⟨X40, eX40⟩ : ∃ z, z = zU X (i) 5 (g) := ⟨_, rfl⟩
        rw [← eX40] at hH
        have hF := hF X40 eX40 hH.2.2.1
        refine lv_aload_n C.1 C.2.1 dX3_extend_29 rfl (lv_at hl 0 rfl) ?_
        refine lv_iload_n C.1 C.2.1 dX3_extend_30 rfl (lv_at hl 1 rfl) ?_
        refine zp3_4 C hH hS (zF_n hC) (zF_k hC) q_550 ha dX3_extend_31 (fun H locs hH hS => ?_)
        obtain ⟨X41, eX41⟩ : ∃ z, z = zU X40 (i) 4 (a) := ⟨_, rfl⟩
        rw [← eX41] at hH
        have hF := hF X41 eX41 hH.2.2.1
        refine lv_aload_n C.1 C.2.1 dX3_extend_34 rfl (lv_at hl 0 rfl) ?_
        refine zg3_2 C hH (zF_n hC) (zF_k hC) q_547 (zF_r hC).2.2 dX3_extend_35 ?_
        refine zd_iconst C dX3_extend_38 ?_
        refine lv_aload_n C.1 C.2.1 dX3_extend_39 rfl (lv_at hl 0 rfl) ?_
        refine zg3_3 C hH (zF_n hC) (zF_k hC) q_548 (zF_b hC).2.2 dX3_extend_40 ?_
        refine zd_iconst C dX3_extend_43 ?_
        refine zd_iconst C dX3_extend_44 ?_
        obtain ⟨o42, hF⟩ := hF
        refine zd_copyi C hl.1 hH hS (zF_n5 hC) (zF_n4 hC) (zF_b hC).1 (zF_r hC).1 q_1213 q_793 q_792 q_146 o42.1.1 o42.1.2.1 o42.1.2.2 (by rw [(zF_r hC).2.1]; exact o42.2.1) (by rw [(zF_b hC).2.1]; exact o42.2.2) (by rw [(zF_b hC).2.1]; decide) (by rw [(zF_r hC).2.1]; decide) (Nat.le_of_ble_eq_true rfl) (Nat.le_of_ble_eq_true rfl) dX3_extend_45 (fun H locs hH hS => ?_)
        obtain ⟨X43, eX43⟩ : ∃ z, z = zCp X41 (i + 4) (i + 5) 0 0 3 := ⟨_, rfl⟩
        rw [← eX43] at hH
        have hF := hF X43 eX43 hH.2.2.1
        exact J1 X43  hF _ _ _ hH hS (lv_sub hl [0, 1, 2, 3] rfl)
theorem v_X3_extend2 {X Y : Nat → Int → Int} {R : Nat → Int → Option Nat} {i : Nat} (a : Int) (ha : rI a) (b : Int) (hb : rI b) (g : Int) (hg : rI g) (hp : a = 2 ∧ flI X R i ∧ (0 ≤ g ∧ g ≤ 27) ∧ ∃ p M t0 m0, flP 2 p (b) (g) M X R i ∧ bsT X X R i t0 m0 ∧ lexB 2 p t0 m0) : F_X3_extend2 i X Y R a b g := by
  unfold F_X3_extend2
  intro hX hY
  obtain ⟨rfl, gI, g27, hx⟩ := hp
  obtain ⟨pl1, pl2, pl3, pl4⟩ := gI.1
  have tn1 : ((2 : Int) + 1).toNat = 2 + 1 := rfl
  have tn0 : ((2 : Int)).toNat = 2 := rfl
  refine ⟨?_, ?_⟩
  · intro X1
    intro rX1
    intro h1
    obtain ⟨f1, v1⟩ := h1
    refine ⟨?_, ?_⟩
    · intro c1
      exact absurd c1 (by decide)
    intro c2
    refine ⟨?_, ?_⟩
    · intro c3
      refine ⟨?_, ?_⟩
      · exact ⟨⟨by omega, by have := pl1.2.1; omega⟩, f1, v1⟩
      intro k X5
      intro _
      intro rX5
      intro h2
      obtain ⟨⟨k1, k2⟩, f2, v2⟩ := h2
      obtain ⟨kn, rfl⟩ := nat_of k1
      have ekn : ((kn : Nat) : Int).toNat = kn := by omega
      have es : ((kn : Int) + 1).toNat = kn + 1 := by omega
      rw [ekn] at v2
      have cn : X5 (pl9 R i) = X (pl9 R i) := f2.1 _ (by omega) (by omega) (by omega) (by omega)
      have cn1 : X5 (pl9 R i + 1) = X (pl9 R i + 1) := f2.1 _ (by omega) (by omega) (by omega) (by omega)
      rw [tn1, tn0, cn, cn1]
      refine ⟨?_, ?_⟩
      · intro c4
        exact ⟨f2, fun p M t0 m0 q b lx => fl_all q (v2 p M t0 m0 q b lx) (by omega) (by have := pl1.2.1; omega)⟩
      intro c5
      have kl : (kn : Int) < X (pl9 R i) 2 := by omega
      have k6 : kn < 6 := by have := pl1.2.1; omega
      have ar := gI.2.1 kn kl
      refine ⟨?_, ?_⟩
      · intro c6
        have hu : mHas b kn = false := has_0.mpr c6
        refine ⟨?_, ?_⟩
        · unfold oRw
          rw [cn]
          exact ⟨pl1, ⟨by omega, by omega⟩, by decide, by omega⟩
        intro _
        refine ⟨?_, ?_⟩
        · decide
        refine ⟨?_, ?_⟩
        · decide
        refine ⟨?_, ?_⟩
        · omega
        intro X13
        intro rX13
        intro h3
        obtain ⟨p, M, t0, m0, q, b0, lx⟩ := hx
        have P := fl_pay (k := kn) (kk := kn) (an := 2) (T := X) gI q f2 (by decide) rfl rfl kl hu h3
        have cv : X13 (pl9 R i) = X (pl9 R i) := P.1.1 _ (by omega) (by omega) (by omega) (by omega)
        have cv1 : X13 (pl9 R i + 1) = X (pl9 R i + 1) := P.1.1 _ (by omega) (by omega) (by omega) (by omega)
        rw [cv, cv1]
        refine ⟨?_, ?_⟩
        · unfold oRw
          rw [cv]
          exact ⟨pl1, ⟨by omega, by omega⟩, by decide, by omega⟩
        intro _
        refine ⟨?_, ?_⟩
        · unfold oRw
          rw [cv]
          exact ⟨pl1, ⟨by omega, by omega⟩, by decide, by omega⟩
        intro _
        refine ⟨?_, ?_⟩
        · unfold oRw
          rw [cv]
          exact ⟨pl1, ⟨by omega, by omega⟩, by decide, by omega⟩
        intro _
        refine ⟨?_, ?_⟩
        · exact ⟨ar.1, ar.2, P.2.2.1⟩
        intro r22
        intro X21
        intro rX21
        intro h4
        obtain ⟨hr, h4f, h4t⟩ := h4
        refine ⟨?_, ?_⟩
        · intro c7
          refine ⟨?_, ?_⟩
          · decide
          intro X25
          intro eX25
          rw [h4t c7] at eX25
          have A : ∀ p M, flP 2 p b g M X R i → flF 2 X X25 i ∧ (X25 i = X5 i ∧ X25 (i + 5) = X5 (i + 5)) ∧ ∃ M', flP (2 + 1) (6 * p + kn) (zOr b (zShl 1 kn)) (g + plC X (pl9 R i) 3 kn) M' X25 R i := fun p M q => (fl_pay (k := kn) (kk := kn) (an := 2) (T := X) gI q f2 (by decide) rfl rfl kl hu h3).2.2.2.2 (hr.symm.trans c7) X25 eX25
          have A1 := (A p M q).1
          have I25 := fl_I A1 gI
          have t2 := (fl_fu A1 pl4).2.1
          intro rX25
          refine ⟨?_, ?_⟩
          · exact ⟨by omega, by omega⟩
          refine ⟨?_, ?_⟩
          · have a9 : X (pl9 R i + 1) (kn * X (pl9 R i) 0 + 3) ≤ 9 := ar.2.2
            have a0 : 0 ≤ X (pl9 R i + 1) (kn * X (pl9 R i) 0 + 3) := ar.2.1
            exact ⟨by omega, by omega⟩
          refine ⟨?_, ?_⟩
          · obtain ⟨-, ⟨a1, a2⟩, M', q'⟩ := A p M q
            obtain ⟨t, m, bt, l9, w⟩ := v2 p M t0 m0 q b0 lx
            have f9 := q'.2.2.2.2.2
            exact ⟨rfl, I25, ⟨f9.1, Int.le_trans f9.2 (by decide)⟩, 6 * p + kn, M', t, m, q', fl_bs A1 gI a1 a2 bt, fl_lex l9⟩
          intro X29
          intro rX29
          intro h5
          obtain ⟨f5, v5⟩ := h5
          refine ⟨?_, ?_⟩
          · first | omega | exact ⟨by omega, by omega⟩ | decide | assumption | exact ⟨by omega, by omega, by omega⟩ | exact ⟨by decide, by decide⟩
          refine ⟨?_, ?_⟩
          · rw [es]
            refine ⟨⟨by omega, by omega⟩, A1.tr f5.up, fun p M t0 m0 q b lx => ?_⟩
            obtain ⟨-, ⟨a1, a2⟩, M', q'⟩ := A p M q
            exact fl_step (v2 p M t0 m0 q b lx) t2 (by decide) (fun t m bt lx2 => v5 (6 * p + kn) M' t m q' (fl_bs A1 gI a1 a2 bt) lx2)
          first | omega | exact ⟨by omega, by omega⟩ | decide | assumption | exact ⟨by omega, by omega, by omega⟩ | exact ⟨by decide, by decide⟩
        intro c8
        refine ⟨?_, ?_⟩
        · first | omega | exact ⟨by omega, by omega⟩ | decide | assumption | exact ⟨by omega, by omega, by omega⟩ | exact ⟨by decide, by decide⟩
        refine ⟨?_, ?_⟩
        · rw [es, h4f c8]
          refine ⟨⟨by omega, by omega⟩, P.1, fun p M t0 m0 q b lx => ?_⟩
          have P2 := fl_pay (k := kn) (kk := kn) (an := 2) (T := X) gI q f2 (by decide) rfl rfl kl hu h3
          obtain ⟨t, m, bt, w⟩ := fl_skip (v2 p M t0 m0 q b lx) (P2.2.2.2.1 (hr.symm.trans c8))
          refine ⟨t, m, ?_, w⟩
          unfold bsT at bt ⊢
          rw [P2.2.1.1, P2.2.1.2]
          exact bt
        first | omega | exact ⟨by omega, by omega⟩ | decide | assumption | exact ⟨by omega, by omega, by omega⟩ | exact ⟨by decide, by decide⟩
      intro c9
      refine ⟨?_, ?_⟩
      · first | omega | exact ⟨by omega, by omega⟩ | decide | assumption | exact ⟨by omega, by omega, by omega⟩ | exact ⟨by decide, by decide⟩
      refine ⟨?_, ?_⟩
      · rw [es]
        refine ⟨⟨by omega, by omega⟩, f2, fun p M t0 m0 q b lx => fl_skip (v2 p M t0 m0 q b lx) ?_⟩
        have e : fuX X R i (dg6 (2 + 1) (6 * p + kn)) 2 = some (_, _, M) := (fsU_row 2 (fun j hj => (dg6_c k6).1 j hj)).trans q.2.1
        have st := fsU_s e
        rw [(dg6_c (n := 2) (p := p) k6).2, has_1.mpr c9, Bool.not_true, Bool.and_false, Bool.false_and] at st
        exact st.trans (if_neg (by decide))
      first | omega | exact ⟨by omega, by omega⟩ | decide | assumption | exact ⟨by omega, by omega, by omega⟩ | exact ⟨by decide, by decide⟩
    intro c10
    exact absurd c10 (by decide)
  refine ⟨?_, ?_⟩
  · intro c11
    intro X34
    intro eX34
    intro rX34
    intro X35
    intro eX35
    intro rX35
    refine ⟨?_, ?_⟩
    · decide
    intro X37
    intro eX37
    intro rX37
    refine ⟨⟨fun z z1 z2 z3 z4 => by rw [eX37, zCp_o z3, eX35, zU_o z1, eX34, zU_o z1], fun s s4 s5 => by rw [eX37, zCp_o (by omega), eX35, zU_n (by omega), eX34, zU_n (by omega)], fun j _ => by rw [eX37, zCp_o (by omega), eX35, zU_o (by omega), eX34, zU_o (by omega)]⟩, fun p M t0 m0 q b lx => fl_new q (by decide) b (Or.inl c11) ?_ ?_ ?_⟩
    · rw [eX37, zCp_o (by omega), eX35, zU_s]
      rfl
    · rw [eX37, zCp_o (by omega), eX35, zU_n (by omega), eX34, zU_s]
    · intro j hj
      rw [eX37]
      unfold zCp
      rw [if_pos ⟨rfl, by omega, by omega⟩, eX35, zU_o (by omega), eX34, zU_o (by omega), show (0 : Int) + ((j : Int) - 0) = j by omega]
  intro c12
  refine ⟨?_, ?_⟩
  · intro c13
    exact ⟨flF.rf, fun p M t0 m0 q b lx => fl_old q b lx (by omega)⟩
  intro c14
  refine ⟨?_, ?_⟩
  · intro c15
    exact ⟨flF.rf, fun p M t0 m0 q b lx => fl_old q b lx (by omega)⟩
  intro c16
  intro X40
  intro eX40
  intro rX40
  intro X41
  intro eX41
  intro rX41
  refine ⟨?_, ?_⟩
  · decide
  intro X43
  intro eX43
  intro rX43
  refine ⟨⟨fun z z1 z2 z3 z4 => by rw [eX43, zCp_o z3, eX41, zU_o z1, eX40, zU_o z1], fun s s4 s5 => by rw [eX43, zCp_o (by omega), eX41, zU_n (by omega), eX40, zU_n (by omega)], fun j _ => by rw [eX43, zCp_o (by omega), eX41, zU_o (by omega), eX40, zU_o (by omega)]⟩, fun p M t0 m0 q b lx => fl_new q (by decide) b (Or.inr ⟨by omega, by omega⟩) ?_ ?_ ?_⟩
  · rw [eX43, zCp_o (by omega), eX41, zU_s]
    rfl
  · rw [eX43, zCp_o (by omega), eX41, zU_n (by omega), eX40, zU_s]
  · intro j hj
    rw [eX43]
    unfold zCp
    rw [if_pos ⟨rfl, by omega, by omega⟩, eX41, zU_o (by omega), eX40, zU_o (by omega), show (0 : Int) + ((j : Int) - 0) = j by omega]
theorem c_X3_extend2 {l : Launch} {D : va_G} {cy : Nat → ClassId} {bs N : Nat} {sa : Nat → Nat} {kd len : Nat → Nat} {X Y : Nat → Int → Int} {R : Nat → Int → Option Nat} {i : Nat} (hC : zFill N kd len R i) (a : Int) (ha : rI a) (b : Int) (hb : rI b) (g : Int) (hg : rI g) (hp : a = 2 ∧ flI X R i ∧ (0 ≤ g ∧ g ≤ 27) ∧ ∃ p M t0 m0, flP 2 p (b) (g) M X R i ∧ bsT X X R i t0 m0 ∧ lexB 2 p t0 m0) : Met l yX3_extend (.code yX3_extend cX3_extend 7 none :: zTB) (zRm 3 107) (zPc D cy bs sa N kd len X Y R [.ref (bs + (i)), .int (zI (a)), .int (zI (b)), .int (zI (g))]) (zQv D cy bs N kd len (fun st => st.2.1 = Y ∧ st.2.2 = R ∧ (flF 2 X (st.1) i ∧ flN X R i 2 (b) (g) (fun p t0 m0 => flQ X (st.1) R i 2 p t0 m0)))) 0 0 (zA bs) := w_X3_extend2 hC a ha b hb g hg (v_X3_extend2 a ha b hb g hg hp)
def F_X3_extend1 (i : Nat) (X Y : Nat → Int → Int) (R : Nat → Int → Option Nat) (a : Int) (b : Int) (g : Int) : Prop := (∀ i j, rI (X i j)) → (∀ i j, rL (Y i j)) → (∀ (X1 : Nat → Int → Int), (∀ i j, rI (X1 i j)) → (flF 1 X X1 i ∧ flN X R i 1 b g (fun p t0 m0 => flV X X1 R i 1 0 p t0 m0)) → (((a < 0) → (flF 1 X (X1) i ∧ flN X R i 1 (b) (g) (fun p t0 m0 => flQ X (X1) R i 1 p t0 m0))) ∧ ((¬ (a < 0)) → (((a < 3) → (((0 ≤ (0 : Int) ∧ (0 : Int) ≤ X (pl9 R i) 2) ∧ flF 1 X X1 i ∧ flN X R i 1 b g (fun p t0 m0 => flV X X1 R i 1 ((0 : Int)).toNat p t0 m0)) ∧ (∀ (k : Int) (X5 : Nat → Int → Int), rI k → (∀ i j, rI (X5 i j)) → ((0 ≤ k ∧ k ≤ X (pl9 R i) 2) ∧ flF 1 X X5 i ∧ flN X R i 1 b g (fun p t0 m0 => flV X X5 R i 1 (k).toNat p t0 m0)) → ((((X5 (pl9 R i) 2) ≤ k) → (flF 1 X (X5) i ∧ flN X R i 1 (b) (g) (fun p t0 m0 => flQ X (X5) R i 1 p t0 m0))) ∧ ((¬ ((X5 (pl9 R i) 2) ≤ k)) → ((((zAnd (zShr (b) (k)) (1)) = 0) → ((oRw X5 (pl9 R i) 24 ∧ (0 ≤ k ∧ k < X5 (pl9 R i) 1) ∧ 0 ≤ (3 : Int) ∧ (3 : Int) < X5 (pl9 R i) 0) ∧ (rI (X5 ((pl9 R i) + 1) ((k) * X5 (pl9 R i) 0 + ((3 : Int)))) → ((0 ≤ (a + 1) ∧ (a + 1) < 4) ∧ ((0 ≤ a ∧ a < 4) ∧ (((i + 6 + 2 * (a : Int).toNat) ≠ (i + 6 + 2 * (a + 1 : Int).toNat)) ∧ (∀ X13 : Nat → Int → Int, (∀ i j, rI (X13 i j)) → ((X13) = zCp (zU X5 (i + 6 + 2 * (a + 1 : Int).toNat) 0 (X5 (i + 6 + 2 * (a : Int).toNat) 0)) ((i + 6 + 2 * (a : Int).toNat) + 1) ((i + 6 + 2 * (a + 1 : Int).toNat) + 1) 0 0 6) → ((oRw X13 (pl9 R i) 24 ∧ (0 ≤ k ∧ k < X13 (pl9 R i) 1) ∧ 0 ≤ (0 : Int) ∧ (0 : Int) < X13 (pl9 R i) 0) ∧ (rI (X13 ((pl9 R i) + 1) ((k) * X13 (pl9 R i) 0 + ((0 : Int)))) → ((oRw X13 (pl9 R i) 24 ∧ (0 ≤ k ∧ k < X13 (pl9 R i) 1) ∧ 0 ≤ (1 : Int) ∧ (1 : Int) < X13 (pl9 R i) 0) ∧ (rI (X13 ((pl9 R i) + 1) ((k) * X13 (pl9 R i) 0 + ((1 : Int)))) → ((oRw X13 (pl9 R i) 24 ∧ (0 ≤ k ∧ k < X13 (pl9 R i) 1) ∧ 0 ≤ (2 : Int) ∧ (2 : Int) < X13 (pl9 R i) 0) ∧ (rI (X13 ((pl9 R i) + 1) ((k) * X13 (pl9 R i) 0 + ((2 : Int)))) → (((0 ≤ (X13 ((pl9 R i) + 1) ((k) * X13 (pl9 R i) 0 + ((2 : Int)))) ∧ (X13 ((pl9 R i) + 1) ((k) * X13 (pl9 R i) 0 + ((2 : Int)))) ≤ 99) ∧ (0 ≤ (X5 ((pl9 R i) + 1) ((k) * X5 (pl9 R i) 0 + ((3 : Int)))) ∧ (X5 ((pl9 R i) + 1) ((k) * X5 (pl9 R i) 0 + ((3 : Int)))) ≤ 9) ∧ ∀ y : Int, 0 ≤ y → y < 6 → 0 ≤ X13 ((i + 6 + 2 * (a + 1 : Int).toNat) + 1) y ∧ X13 ((i + 6 + 2 * (a + 1 : Int).toNat) + 1) y ≤ 1000000000) ∧ (∀ r22 : Bool, ∀ X21 : Nat → Int → Int, (∀ i j, rI (X21 i j)) → (r22 = cPk X13 (i + 6 + 2 * (a + 1 : Int).toNat) ((X13 ((pl9 R i) + 1) ((k) * X13 (pl9 R i) 0 + ((0 : Int))))) ((X13 ((pl9 R i) + 1) ((k) * X13 (pl9 R i) 0 + ((1 : Int))))) ((X13 ((pl9 R i) + 1) ((k) * X13 (pl9 R i) 0 + ((2 : Int))))) ((X5 ((pl9 R i) + 1) ((k) * X5 (pl9 R i) 0 + ((3 : Int))))) ∧ (r22 = false → (X21) = X13) ∧ (r22 = true → (X21) = cPa X13 (i + 6 + 2 * (a + 1 : Int).toNat) ((X13 ((pl9 R i) + 1) ((k) * X13 (pl9 R i) 0 + ((0 : Int))))) ((X13 ((pl9 R i) + 1) ((k) * X13 (pl9 R i) 0 + ((1 : Int))))) ((X13 ((pl9 R i) + 1) ((k) * X13 (pl9 R i) 0 + ((2 : Int))))) ((X5 ((pl9 R i) + 1) ((k) * X5 (pl9 R i) 0 + ((3 : Int))))))) → (((r22 = true) → ((0 ≤ a ∧ a < 3) ∧ (∀ X25 : Nat → Int → Int, X25 = zU X21 (i + 4) (a) (k) → (∀ i j, rI (X25 i j)) → ((rI (a + 1)) ∧ ((rI (g + (X5 ((pl9 R i) + 1) ((k) * X5 (pl9 R i) 0 + ((3 : Int)))))) ∧ ((((a + 1)) = 2 ∧ flI X25 R i ∧ (0 ≤ ((g + (X5 ((pl9 R i) + 1) ((k) * X5 (pl9 R i) 0 + ((3 : Int)))))) ∧ ((g + (X5 ((pl9 R i) + 1) ((k) * X5 (pl9 R i) 0 + ((3 : Int)))))) ≤ 27) ∧ ∃ p M t0 m0, flP 2 p ((zOr (b) (zShl (1) (k)))) ((g + (X5 ((pl9 R i) + 1) ((k) * X5 (pl9 R i) 0 + ((3 : Int)))))) M X25 R i ∧ bsT X25 X25 R i t0 m0 ∧ lexB 2 p t0 m0) ∧ (∀ X29 : Nat → Int → Int, (∀ i j, rI (X29 i j)) → (flF 2 X25 (X29) i ∧ flN X25 R i 2 ((zOr (b) (zShl (1) (k)))) ((g + (X5 ((pl9 R i) + 1) ((k) * X5 (pl9 R i) 0 + ((3 : Int)))))) (fun p t0 m0 => flQ X25 (X29) R i 2 p t0 m0)) → ((rI (k + 1)) ∧ ((0 ≤ (k + 1) ∧ (k + 1) ≤ X (pl9 R i) 2) ∧ flF 1 X X29 i ∧ flN X R i 1 b g (fun p t0 m0 => flV X X29 R i 1 ((k + 1)).toNat p t0 m0)) ∧ (((10 - (k + 1)).toNat) < ((10 - (k)).toNat)))))))))) ∧ ((r22 = false) → ((rI (k + 1)) ∧ ((0 ≤ (k + 1) ∧ (k + 1) ≤ X (pl9 R i) 2) ∧ flF 1 X X21 i ∧ flN X R i 1 b g (fun p t0 m0 => flV X X21 R i 1 ((k + 1)).toNat p t0 m0)) ∧ (((10 - (k + 1)).toNat) < ((10 - (k)).toNat)))))))))))))))))))) ∧ ((¬ ((zAnd (zShr (b) (k)) (1)) = 0)) → ((rI (k + 1)) ∧ ((0 ≤ (k + 1) ∧ (k + 1) ≤ X (pl9 R i) 2) ∧ flF 1 X X5 i ∧ flN X R i 1 b g (fun p t0 m0 => flV X X5 R i 1 ((k + 1)).toNat p t0 m0)) ∧ (((10 - (k + 1)).toNat) < ((10 - (k)).toNat)))))))))) ∧ ((¬ (a < 3)) → (flF 1 X (X1) i ∧ flN X R i 1 (b) (g) (fun p t0 m0 => flQ X (X1) R i 1 p t0 m0))))))) ∧ ((((X (i) 5) < g) → (∀ X34 : Nat → Int → Int, X34 = zU X (i) 5 (g) → (∀ i j, rI (X34 i j)) → (∀ X35 : Nat → Int → Int, X35 = zU X34 (i) 4 (a) → (∀ i j, rI (X35 i j)) → (((0 ≤ (0 : Int) ∧ 0 ≤ (0 : Int) ∧ 0 ≤ (3 : Int)) ∧ (0 : Int) + 3 ≤ 3 ∧ (0 : Int) + 3 ≤ 3) ∧ (∀ X37 : Nat → Int → Int, X37 = zCp X35 (i + 4) (i + 5) 0 0 3 → (∀ i j, rI (X37 i j)) → (flF 1 X X37 i ∧ flN X R i 1 b g (fun p t0 m0 => flV X X37 R i 1 0 p t0 m0))))))) ∧ ((¬ ((X (i) 5) < g)) → (((¬ g = (X (i) 5)) → (flF 1 X X i ∧ flN X R i 1 b g (fun p t0 m0 => flV X X R i 1 0 p t0 m0))) ∧ ((¬ (¬ g = (X (i) 5))) → ((((X (i) 4) ≤ a) → (flF 1 X X i ∧ flN X R i 1 b g (fun p t0 m0 => flV X X R i 1 0 p t0 m0))) ∧ ((¬ ((X (i) 4) ≤ a)) → (∀ X40 : Nat → Int → Int, X40 = zU X (i) 5 (g) → (∀ i j, rI (X40 i j)) → (∀ X41 : Nat → Int → Int, X41 = zU X40 (i) 4 (a) → (∀ i j, rI (X41 i j)) → (((0 ≤ (0 : Int) ∧ 0 ≤ (0 : Int) ∧ 0 ≤ (3 : Int)) ∧ (0 : Int) + 3 ≤ 3 ∧ (0 : Int) + 3 ≤ 3) ∧ (∀ X43 : Nat → Int → Int, X43 = zCp X41 (i + 4) (i + 5) 0 0 3 → (∀ i j, rI (X43 i j)) → (flF 1 X X43 i ∧ flN X R i 1 b g (fun p t0 m0 => flV X X43 R i 1 0 p t0 m0))))))))))))
set_option maxHeartbeats 4000000 in
set_option maxRecDepth 100000 in
theorem w_X3_extend1 {l : Launch} {D : va_G} {cy : Nat → ClassId} {bs N : Nat} {sa : Nat → Nat} {kd len : Nat → Nat} {X Y : Nat → Int → Int} {R : Nat → Int → Option Nat} {i : Nat} (hC : zFill N kd len R i) (a : Int) (ha : rI a) (b : Int) (hb : rI b) (g : Int) (hg : rI g) (hF : F_X3_extend1 i X Y R a b g) : Met l yX3_extend (.code yX3_extend cX3_extend 7 none :: zTB) (zRm 4 133) (zPc D cy bs sa N kd len X Y R [.ref (bs + (i)), .int (zI (a)), .int (zI (b)), .int (zI (g))]) (zQv D cy bs N kd len (fun st => st.2.1 = Y ∧ st.2.2 = R ∧ (flF 1 X (st.1) i ∧ flN X R i 1 (b) (g) (fun p t0 m0 => flQ X (st.1) R i 1 p t0 m0)))) 0 0 (zA bs) := by
  refine zstart (by decide) (Nat.le_of_ble_eq_true rfl) ?_
  intro p e s m args below meth c ls C hE hH hr hlk hnm hl hargs
  have hF := hF hH.2.2.1 hH.2.2.2
  have hS : va_S (zA bs) s.heap s.heap [] := va_S.rf
  have hl : lv_has ls 7 [(0, .ref (bs + (i))), (1, .int (zI (a))), (2, .int (zI (b))), (3, .int (zI (g)))] := hl
  have J1 : ∀ (X1 : Nat → Int → Int), (flF 1 X X1 i ∧ flN X R i 1 b g (fun p t0 m0 => flV X X1 R i 1 0 p t0 m0)) → ∀ (H : Heap) (locs : List Loc) (ls : Array Slot), zH D cy bs N kd len X1 Y R H → va_S (zA bs) s.heap H locs → lv_has ls 7 [(0, .ref (bs + (i))), (1, .int (zI (a))), (2, .int (zI (b))), (3, .int (zI (g)))] → W p l e (zRm 4 133) s m args below meth c H locs 0 0 (MQ below (zQv D cy bs N kd len (fun st => st.2.1 = Y ∧ st.2.2 = R ∧ (flF 1 X (st.1) i ∧ flN X R i 1 (b) (g) (fun p t0 m0 => flQ X (st.1) R i 1 p t0 m0)))) args s 0 0 (zA bs)) (F0 m 48 ls []) := by
    intro X1  hI H locs ls hH hS hl
    have hF := hF.1 X1  hH.2.2.1 hI
    refine lv_iload_n C.1 C.2.1 dX3_extend_48 rfl (lv_at hl 1 rfl) ?_
    refine zd_if_lt C ha 57 dX3_extend_49 (by decide) (fun c2 => ?_) (fun c2 => ?_)
    · have hF := hF.1 c2
      exact zd_vret C hr hlk hH hS (⟨rfl, rfl, hF⟩) dX3_extend_57
    · have hF := hF.2 c2
      refine lv_iload_n C.1 C.2.1 dX3_extend_52 rfl (lv_at hl 1 rfl) ?_
      refine zd_iconst C dX3_extend_53 ?_
      refine zd_icmp_lt C ha (by decide) 58 dX3_extend_54 (by decide) (fun c3 => ?_) (fun c3 => ?_)
      · have hF := hF.1 c3
        refine zd_iconst C dX3_extend_58 ?_
        refine lv_istore (lv' := [(4, .int (zI (0))), (0, .ref (bs + (i))), (1, .int (zI (a))), (2, .int (zI (b))), (3, .int (zI (g)))]) C.1 C.2.1 dX3_extend_59 hl (by decide) rfl (fun ls hl => ?_)
        obtain ⟨hI4, hF⟩ := hF
        have L4 : ∀ (fu : Nat) (k : Int) (X5 : Nat → Int → Int), rI k → ((0 ≤ k ∧ k ≤ X (pl9 R i) 2) ∧ flF 1 X X5 i ∧ flN X R i 1 b g (fun p t0 m0 => flV X X5 R i 1 (k).toNat p t0 m0)) → ((10 - (k)).toNat) < fu → ∀ (H : Heap) (locs : List Loc) (ls : Array Slot), zH D cy bs N kd len X5 Y R H → va_S (zA bs) s.heap H locs → lv_has ls 7 [(4, .int (zI (k))), (0, .ref (bs + (i))), (1, .int (zI (a))), (2, .int (zI (b))), (3, .int (zI (g)))] → W p l e (zRm 4 133) s m args below meth c H locs 0 0 (MQ below (zQv D cy bs N kd len (fun st => st.2.1 = Y ∧ st.2.2 = R ∧ (flF 1 X (st.1) i ∧ flN X R i 1 (b) (g) (fun p t0 m0 => flQ X (st.1) R i 1 p t0 m0)))) args s 0 0 (zA bs)) (F0 m 61 ls []) := by
          intro fu
          induction fu with
          | zero => intro k X5 _ _ hmu; exact absurd hmu (Nat.not_lt_zero _)
          | succ fu ih4 =>
            intro k X5 hk hI hmu4 H locs ls hH hS hl
            have hF := hF k X5 hk hH.2.2.1 hI
            refine lv_iload C.1 C.2.1 dX3_extend_61 (lv_at hl 0 rfl) ?_
            refine lv_aload_n C.1 C.2.1 dX3_extend_63 rfl (lv_at hl 1 rfl) ?_
            refine zg3_0 C hH (zF_n hC) (zF_k hC) q_545 (zF_pl hC).1 dX3_extend_64 ?_
            refine zg8_2 C hH (zRows_n0 (zF_pl hC).2) (zRows_k0 (zF_pl hC).2) q_267 dX3_extend_67 ?_
            refine zd_icmp_ge C hk (hH.2.2.1 _ _) 192 dX3_extend_70 (by decide) (fun c6 => ?_) (fun c6 => ?_)
            · have hF := hF.1 c6
              exact zd_vret C hr hlk hH hS (⟨rfl, rfl, hF⟩) dX3_extend_192
            · have hF := hF.2 c6
              refine lv_iload_n C.1 C.2.1 dX3_extend_73 rfl (lv_at hl 3 rfl) ?_
              refine lv_iload C.1 C.2.1 dX3_extend_74 (lv_at hl 0 rfl) ?_
              refine zd_ishr C dX3_extend_76 ?_
              refine zd_iconst C dX3_extend_77 ?_
              refine zd_iand C dX3_extend_78 ?_
              refine zd_if_eq C (zI_rg _) 85 dX3_extend_79 (by decide) (fun c7 => ?_) (fun c7 => ?_)
              · have hF := hF.1 c7
                refine lv_aload_n C.1 C.2.1 dX3_extend_85 rfl (lv_at hl 1 rfl) ?_
                refine zg3_0 C hH (zF_n hC) (zF_k hC) q_545 (zF_pl hC).1 dX3_extend_86 ?_
                refine lv_iload C.1 C.2.1 dX3_extend_89 (lv_at hl 0 rfl) ?_
                refine zd_iconst C dX3_extend_91 ?_
                obtain ⟨o8, hF⟩ := hF
                refine zgoi (zrunV (As := [.int (zI (k)), .int (zI (3))]) (rest := []) C hE hH hS hl.1 (c_X8_part (l := l) (zF_pl hC).2 (zF_sm hC) (k) hk (3) (by decide) o8) k_RX3_58 ⟨Nat.le_of_ble_eq_true rfl, Nat.le_of_ble_eq_true rfl⟩ (zRows_n0 (zF_pl hC).2) (zRows_k0 (zF_pl hC).2) rfl rfl rfl (Nat.le_of_ble_eq_true rfl) dX3_extend_92 ⟨Nat.zero_le _, Nat.zero_le _⟩) hS (fun rq Xq Yq Rq H locs hrq hq hH hS => ?_)
                obtain ⟨h91, h92⟩ := hq
                have h93 : Xq = X5 := congrArg (fun z => z.1) h92
                have h94 : Yq = Y := congrArg (fun z => z.2.1) h92
                have h95 : Rq = R := congrArg (fun z => z.2.2) h92
                rw [h93, h94, h95] at hH
                subst h91
                have hr9 := hrq
                have hF := hF hr9
                refine lv_istore (lv' := [(5, .int (zI (X5 ((pl9 R i) + 1) ((k) * X5 (pl9 R i) 0 + ((3 : Int)))))), (4, .int (zI (k))), (0, .ref (bs + (i))), (1, .int (zI (a))), (2, .int (zI (b))), (3, .int (zI (g)))]) C.1 C.2.1 dX3_extend_95 hl (by decide) rfl (fun ls hl => ?_)
                refine lv_aload_n C.1 C.2.1 dX3_extend_97 rfl (lv_at hl 2 rfl) ?_
                refine zg3_1 C hH (zF_n hC) (zF_k hC) q_546 (zF_l hC).2.2 dX3_extend_98 ?_
                refine lv_iload_n C.1 C.2.1 dX3_extend_101 rfl (lv_at hl 3 rfl) ?_
                refine zd_iconst C dX3_extend_102 ?_
                refine zd_iadd C dX3_extend_103 ?_
                obtain ⟨o10, hF⟩ := hF
                refine zd_aaldr C hH (zF_n3 hC) 5 rfl rfl (by rw [(zF_l hC).1]; rfl) o10.1 (by rw [(zF_l hC).2.1]; exact o10.2) (by rw [(zF_l hC).2.1]; decide) (zF_lg hC o10.1 o10.2).1 dX3_extend_104 ?_
                refine lv_astore (lv' := [(6, .ref (bs + (i + 6 + 2 * (a + 1 : Int).toNat))), (5, .int (zI (X5 ((pl9 R i) + 1) ((k) * X5 (pl9 R i) 0 + ((3 : Int)))))), (4, .int (zI (k))), (0, .ref (bs + (i))), (1, .int (zI (a))), (2, .int (zI (b))), (3, .int (zI (g)))]) C.1 C.2.1 dX3_extend_105 hl (by decide) rfl (fun ls hl => ?_)
                refine lv_aload C.1 C.2.1 dX3_extend_107 (lv_at hl 0 rfl) ?_
                refine lv_aload_n C.1 C.2.1 dX3_extend_109 rfl (lv_at hl 3 rfl) ?_
                refine zg3_1 C hH (zF_n hC) (zF_k hC) q_546 (zF_l hC).2.2 dX3_extend_110 ?_
                refine lv_iload_n C.1 C.2.1 dX3_extend_113 rfl (lv_at hl 4 rfl) ?_
                obtain ⟨o11, hF⟩ := hF
                refine zd_aaldr C hH (zF_n3 hC) 5 rfl rfl (by rw [(zF_l hC).1]; rfl) o11.1 (by rw [(zF_l hC).2.1]; exact o11.2) (by rw [(zF_l hC).2.1]; decide) (zF_lg hC o11.1 o11.2).1 dX3_extend_114 ?_
                obtain ⟨o12, hF⟩ := hF
                refine zgov (zrunV (As := [.ref (bs + (i + 6 + 2 * (a : Int).toNat))]) (rest := []) C hE hH hS hl.1 (c_X5_copy (l := l) (zF_lg hC o10.1 o10.2).2 (zF_lg hC o11.1 o11.2).2  o12) k_RX3_34 ⟨Nat.le_of_ble_eq_true rfl, Nat.le_of_ble_eq_true rfl⟩ (zLedger_n0 (zF_lg hC o10.1 o10.2).2) (zLedger_k0 (zF_lg hC o10.1 o10.2).2) rfl rfl rfl (Nat.le_of_ble_eq_true rfl) dX3_extend_115 ⟨Nat.zero_le _, Nat.zero_le _⟩) hS (fun X13 Yq Rq H locs hq hH hS => ?_)
                obtain ⟨h9Y, h9R, hq⟩ := hq
                dsimp only at h9Y h9R
                rw [h9Y, h9R] at hH
                have hF := hF X13 hH.2.2.1 hq
                refine lv_aload C.1 C.2.1 dX3_extend_118 (lv_at hl 0 rfl) ?_
                refine lv_aload_n C.1 C.2.1 dX3_extend_120 rfl (lv_at hl 3 rfl) ?_
                refine zg3_0 C hH (zF_n hC) (zF_k hC) q_545 (zF_pl hC).1 dX3_extend_121 ?_
                refine lv_iload C.1 C.2.1 dX3_extend_124 (lv_at hl 2 rfl) ?_
                refine zd_iconst C dX3_extend_126 ?_
                obtain ⟨o14, hF⟩ := hF
                refine zgoi (zrunV (As := [.int (zI (k)), .int (zI (0))]) (rest := [.ref (bs + (i + 6 + 2 * (a + 1 : Int).toNat))]) C hE hH hS hl.1 (c_X8_part (l := l) (zF_pl hC).2 (zF_sm hC) (k) hk (0) (by decide) o14) k_RX3_58 ⟨Nat.le_of_ble_eq_true rfl, Nat.le_of_ble_eq_true rfl⟩ (zRows_n0 (zF_pl hC).2) (zRows_k0 (zF_pl hC).2) rfl rfl rfl (Nat.le_of_ble_eq_true rfl) dX3_extend_127 ⟨Nat.zero_le _, Nat.zero_le _⟩) hS (fun rq Xq Yq Rq H locs hrq hq hH hS => ?_)
                obtain ⟨h91, h92⟩ := hq
                have h93 : Xq = X13 := congrArg (fun z => z.1) h92
                have h94 : Yq = Y := congrArg (fun z => z.2.1) h92
                have h95 : Rq = R := congrArg (fun z => z.2.2) h92
                rw [h93, h94, h95] at hH
                subst h91
                have hr15 := hrq
                have hF := hF hr15
                refine lv_aload_n C.1 C.2.1 dX3_extend_130 rfl (lv_at hl 3 rfl) ?_
                refine zg3_0 C hH (zF_n hC) (zF_k hC) q_545 (zF_pl hC).1 dX3_extend_131 ?_
                refine lv_iload C.1 C.2.1 dX3_extend_134 (lv_at hl 2 rfl) ?_
                refine zd_iconst C dX3_extend_136 ?_
                obtain ⟨o16, hF⟩ := hF
                refine zgoi (zrunV (As := [.int (zI (k)), .int (zI (1))]) (rest := [.int (zI (X13 ((pl9 R i) + 1) ((k) * X13 (pl9 R i) 0 + ((0 : Int))))), .ref (bs + (i + 6 + 2 * (a + 1 : Int).toNat))]) C hE hH hS hl.1 (c_X8_part (l := l) (zF_pl hC).2 (zF_sm hC) (k) hk (1) (by decide) o16) k_RX3_58 ⟨Nat.le_of_ble_eq_true rfl, Nat.le_of_ble_eq_true rfl⟩ (zRows_n0 (zF_pl hC).2) (zRows_k0 (zF_pl hC).2) rfl rfl rfl (Nat.le_of_ble_eq_true rfl) dX3_extend_137 ⟨Nat.zero_le _, Nat.zero_le _⟩) hS (fun rq Xq Yq Rq H locs hrq hq hH hS => ?_)
                obtain ⟨h91, h92⟩ := hq
                have h93 : Xq = X13 := congrArg (fun z => z.1) h92
                have h94 : Yq = Y := congrArg (fun z => z.2.1) h92
                have h95 : Rq = R := congrArg (fun z => z.2.2) h92
                rw [h93, h94, h95] at hH
                subst h91
                have hr17 := hrq
                have hF := hF hr17
                refine lv_aload_n C.1 C.2.1 dX3_extend_140 rfl (lv_at hl 3 rfl) ?_
                refine zg3_0 C hH (zF_n hC) (zF_k hC) q_545 (zF_pl hC).1 dX3_extend_141 ?_
                refine lv_iload C.1 C.2.1 dX3_extend_144 (lv_at hl 2 rfl) ?_
                refine zd_iconst C dX3_extend_146 ?_
                obtain ⟨o18, hF⟩ := hF
                refine zgoi (zrunV (As := [.int (zI (k)), .int (zI (2))]) (rest := [.int (zI (X13 ((pl9 R i) + 1) ((k) * X13 (pl9 R i) 0 + ((1 : Int))))), .int (zI (X13 ((pl9 R i) + 1) ((k) * X13 (pl9 R i) 0 + ((0 : Int))))), .ref (bs + (i + 6 + 2 * (a + 1 : Int).toNat))]) C hE hH hS hl.1 (c_X8_part (l := l) (zF_pl hC).2 (zF_sm hC) (k) hk (2) (by decide) o18) k_RX3_58 ⟨Nat.le_of_ble_eq_true rfl, Nat.le_of_ble_eq_true rfl⟩ (zRows_n0 (zF_pl hC).2) (zRows_k0 (zF_pl hC).2) rfl rfl rfl (Nat.le_of_ble_eq_true rfl) dX3_extend_147 ⟨Nat.zero_le _, Nat.zero_le _⟩) hS (fun rq Xq Yq Rq H locs hrq hq hH hS => ?_)
                obtain ⟨h91, h92⟩ := hq
                have h93 : Xq = X13 := congrArg (fun z => z.1) h92
                have h94 : Yq = Y := congrArg (fun z => z.2.1) h92
                have h95 : Rq = R := congrArg (fun z => z.2.2) h92
                rw [h93, h94, h95] at hH
                subst h91
                have hr19 := hrq
                have hF := hF hr19
                refine lv_iload C.1 C.2.1 dX3_extend_150 (lv_at hl 1 rfl) ?_
                obtain ⟨o20, hF⟩ := hF
                refine zgoi (zrunV (As := [.int (zI (X13 ((pl9 R i) + 1) ((k) * X13 (pl9 R i) 0 + ((0 : Int))))), .int (zI (X13 ((pl9 R i) + 1) ((k) * X13 (pl9 R i) 0 + ((1 : Int))))), .int (zI (X13 ((pl9 R i) + 1) ((k) * X13 (pl9 R i) 0 + ((2 : Int))))), .int (zI (X5 ((pl9 R i) + 1) ((k) * X5 (pl9 R i) 0 + ((3 : Int)))))]) (rest := []) C hE hH hS hl.1 (c_X5_pay (l := l) (zF_lg hC o10.1 o10.2).2 (X13 ((pl9 R i) + 1) ((k) * X13 (pl9 R i) 0 + ((0 : Int)))) hr15 (X13 ((pl9 R i) + 1) ((k) * X13 (pl9 R i) 0 + ((1 : Int)))) hr17 (X13 ((pl9 R i) + 1) ((k) * X13 (pl9 R i) 0 + ((2 : Int)))) hr19 (X5 ((pl9 R i) + 1) ((k) * X5 (pl9 R i) 0 + ((3 : Int)))) hr9 o20) k_RX3_62 ⟨Nat.le_of_ble_eq_true rfl, Nat.le_of_ble_eq_true rfl⟩ (zLedger_n0 (zF_lg hC o10.1 o10.2).2) (zLedger_k0 (zF_lg hC o10.1 o10.2).2) rfl rfl rfl (Nat.le_of_ble_eq_true rfl) dX3_extend_152 ⟨Nat.zero_le _, Nat.zero_le _⟩) hS (fun rq X21 Yq Rq H locs hrq hq hH hS => ?_)
                obtain ⟨h9Y, h9R, hq⟩ := hq
                dsimp only at h9Y h9R
                rw [h9Y, h9R] at hH
                obtain ⟨r22, h91, hq⟩ := hq
                subst h91
                have hF := hF r22 X21 hH.2.2.1 hq
                refine zd_ifB_ne C 161 dX3_extend_155 (by decide) (fun c23 => ?_) (fun c23 => ?_)
                · have hF := hF.1 c23
                  refine lv_aload_n C.1 C.2.1 dX3_extend_161 rfl (lv_at hl 3 rfl) ?_
                  refine zg3_2 C hH (zF_n hC) (zF_k hC) q_547 (zF_r hC).2.2 dX3_extend_162 ?_
                  refine lv_iload_n C.1 C.2.1 dX3_extend_165 rfl (lv_at hl 4 rfl) ?_
                  refine lv_iload C.1 C.2.1 dX3_extend_166 (lv_at hl 2 rfl) ?_
                  obtain ⟨o24, hF⟩ := hF
                  refine zd_iast C hH hS (zF_n4 hC) (zF_r hC).1 o24.1 (by rw [(zF_r hC).2.1]; exact o24.2) (by rw [(zF_r hC).2.1]; decide) hk dX3_extend_168 (fun H locs hH hS => ?_)
                  obtain ⟨X25, eX25⟩ : ∃ z, z = zU X21 (i + 4) (a) (k) := ⟨_, rfl⟩
                  rw [← eX25] at hH
                  have hF := hF X25 eX25 hH.2.2.1
                  refine lv_aload_n C.1 C.2.1 dX3_extend_169 rfl (lv_at hl 3 rfl) ?_
                  refine lv_iload_n C.1 C.2.1 dX3_extend_170 rfl (lv_at hl 4 rfl) ?_
                  refine zd_iconst C dX3_extend_171 ?_
                  refine zd_iadd C dX3_extend_172 ?_
                  refine lv_iload_n C.1 C.2.1 dX3_extend_173 rfl (lv_at hl 5 rfl) ?_
                  refine zd_iconst C dX3_extend_174 ?_
                  refine lv_iload C.1 C.2.1 dX3_extend_175 (lv_at hl 2 rfl) ?_
                  refine zd_ishl C dX3_extend_177 ?_
                  refine zd_ior C dX3_extend_178 ?_
                  refine lv_iload_n C.1 C.2.1 dX3_extend_179 rfl (lv_at hl 6 rfl) ?_
                  refine lv_iload C.1 C.2.1 dX3_extend_180 (lv_at hl 1 rfl) ?_
                  refine zd_iadd C dX3_extend_182 ?_
                  obtain ⟨o26, hF⟩ := hF
                  obtain ⟨o27, hF⟩ := hF
                  obtain ⟨o28, hF⟩ := hF
                  refine zgov (zrunV (As := [.int (zI (a + 1)), .int (zI (zOr (b) (zShl (1) (k)))), .int (zI (g + (X5 ((pl9 R i) + 1) ((k) * X5 (pl9 R i) 0 + ((3 : Int))))))]) (rest := []) C hE hH hS hl.1 (c_X3_extend2 (l := l) hC (a + 1) o26 (zOr (b) (zShl (1) (k))) (zI_rg _) (g + (X5 ((pl9 R i) + 1) ((k) * X5 (pl9 R i) 0 + ((3 : Int))))) o27 o28) k_RX3_45 ⟨Nat.le_of_ble_eq_true rfl, Nat.le_of_ble_eq_true rfl⟩ (zF_n hC) (zF_k hC) rfl rfl rfl (Nat.le_of_ble_eq_true rfl) dX3_extend_183 ⟨Nat.zero_le _, Nat.zero_le _⟩) hS (fun X29 Yq Rq H locs hq hH hS => ?_)
                  obtain ⟨h9Y, h9R, hq⟩ := hq
                  dsimp only at h9Y h9R
                  rw [h9Y, h9R] at hH
                  have hF := hF X29 hH.2.2.1 hq
                  refine zd_iinc (k := 2) (lv' := [(4, .int (zI (k + 1))), (6, .ref (bs + (i + 6 + 2 * (a + 1 : Int).toNat))), (5, .int (zI (X5 ((pl9 R i) + 1) ((k) * X5 (pl9 R i) 0 + ((3 : Int)))))), (0, .ref (bs + (i))), (1, .int (zI (a))), (2, .int (zI (b))), (3, .int (zI (g)))]) C hl rfl dX3_extend_186 (by decide) rfl (fun ls hl => ?_)
                  refine lv_goto (tgt := 61) C.1 C.2.1 dX3_extend_189 (by decide) ?_
                  obtain ⟨o30, hF⟩ := hF
                  exact ih4 (k + 1) X29 o30 hF.1 (Nat.lt_of_lt_of_le hF.2 (Nat.le_of_lt_succ hmu4)) _ _ _ hH hS (lv_sub hl [0, 3, 4, 5, 6] rfl)
                · have hF := hF.2 c23
                  refine lv_goto (tgt := 186) C.1 C.2.1 dX3_extend_158 (by decide) ?_
                  refine zd_iinc (k := 2) (lv' := [(4, .int (zI (k + 1))), (6, .ref (bs + (i + 6 + 2 * (a + 1 : Int).toNat))), (5, .int (zI (X5 ((pl9 R i) + 1) ((k) * X5 (pl9 R i) 0 + ((3 : Int)))))), (0, .ref (bs + (i))), (1, .int (zI (a))), (2, .int (zI (b))), (3, .int (zI (g)))]) C hl rfl dX3_extend_186 (by decide) rfl (fun ls hl => ?_)
                  refine lv_goto (tgt := 61) C.1 C.2.1 dX3_extend_189 (by decide) ?_
                  obtain ⟨o31, hF⟩ := hF
                  exact ih4 (k + 1) X21 o31 hF.1 (Nat.lt_of_lt_of_le hF.2 (Nat.le_of_lt_succ hmu4)) _ _ _ hH hS (lv_sub hl [0, 3, 4, 5, 6] rfl)
              · have hF := hF.2 c7
                refine lv_goto (tgt := 186) C.1 C.2.1 dX3_extend_82 (by decide) ?_
                refine zd_iinc (k := 0) (lv' := [(4, .int (zI (k + 1))), (0, .ref (bs + (i))), (1, .int (zI (a))), (2, .int (zI (b))), (3, .int (zI (g)))]) C hl rfl dX3_extend_186 (by decide) rfl (fun ls hl => ?_)
                refine lv_goto (tgt := 61) C.1 C.2.1 dX3_extend_189 (by decide) ?_
                obtain ⟨o32, hF⟩ := hF
                exact ih4 (k + 1) X5 o32 hF.1 (Nat.lt_of_lt_of_le hF.2 (Nat.le_of_lt_succ hmu4)) _ _ _ hH hS (lv_sub hl [0, 1, 2, 3, 4] rfl)
        exact L4 (((10 - ((0 : Int))).toNat) + 1) ((0 : Int)) X1 (by decide) hI4 (Nat.lt_succ_self _) _ _ _ hH hS (lv_sub hl [0, 1, 2, 3, 4] rfl)
      · have hF := hF.2 c3
        exact zd_vret C hr hlk hH hS (⟨rfl, rfl, hF⟩) dX3_extend_57
  have hF := hF.2
  refine lv_iload_n C.1 C.2.1 dX3_extend_0 rfl (lv_at hl 3 rfl) ?_
  refine lv_aload_n C.1 C.2.1 dX3_extend_1 rfl (lv_at hl 0 rfl) ?_
  refine zg3_5 C hH (zF_n hC) (zF_k hC) q_552 dX3_extend_2 ?_
  refine zd_icmp_gt C hg (hH.2.2.1 _ _) 24 dX3_extend_5 (by decide) (fun c33 => ?_) (fun c33 => ?_)
  · have hF := hF.1 c33
    refine lv_aload_n C.1 C.2.1 dX3_extend_24 rfl (lv_at hl 0 rfl) ?_
    refine lv_iload_n C.1 C.2.1 dX3_extend_25 rfl (lv_at hl 3 rfl) ?_
    refine zp3_5 C hH hS (zF_n hC) (zF_k hC) q_552 hg dX3_extend_26 (fun H locs hH hS => ?_)
    obtain ⟨X34, eX34⟩ : ∃ z, z = zU X (i) 5 (g) := ⟨_, rfl⟩
    rw [← eX34] at hH
    have hF := hF X34 eX34 hH.2.2.1
    refine lv_aload_n C.1 C.2.1 dX3_extend_29 rfl (lv_at hl 0 rfl) ?_
    refine lv_iload_n C.1 C.2.1 dX3_extend_30 rfl (lv_at hl 1 rfl) ?_
    refine zp3_4 C hH hS (zF_n hC) (zF_k hC) q_550 ha dX3_extend_31 (fun H locs hH hS => ?_)
    obtain ⟨X35, eX35⟩ : ∃ z, z = zU X34 (i) 4 (a) := ⟨_, rfl⟩
    rw [← eX35] at hH
    have hF := hF X35 eX35 hH.2.2.1
    refine lv_aload_n C.1 C.2.1 dX3_extend_34 rfl (lv_at hl 0 rfl) ?_
    refine zg3_2 C hH (zF_n hC) (zF_k hC) q_547 (zF_r hC).2.2 dX3_extend_35 ?_
    refine zd_iconst C dX3_extend_38 ?_
    refine lv_aload_n C.1 C.2.1 dX3_extend_39 rfl (lv_at hl 0 rfl) ?_
    refine zg3_3 C hH (zF_n hC) (zF_k hC) q_548 (zF_b hC).2.2 dX3_extend_40 ?_
    refine zd_iconst C dX3_extend_43 ?_
    refine zd_iconst C dX3_extend_44 ?_
    obtain ⟨o36, hF⟩ := hF
    refine zd_copyi C hl.1 hH hS (zF_n5 hC) (zF_n4 hC) (zF_b hC).1 (zF_r hC).1 q_1213 q_793 q_792 q_146 o36.1.1 o36.1.2.1 o36.1.2.2 (by rw [(zF_r hC).2.1]; exact o36.2.1) (by rw [(zF_b hC).2.1]; exact o36.2.2) (by rw [(zF_b hC).2.1]; decide) (by rw [(zF_r hC).2.1]; decide) (Nat.le_of_ble_eq_true rfl) (Nat.le_of_ble_eq_true rfl) dX3_extend_45 (fun H locs hH hS => ?_)
    obtain ⟨X37, eX37⟩ : ∃ z, z = zCp X35 (i + 4) (i + 5) 0 0 3 := ⟨_, rfl⟩
    rw [← eX37] at hH
    have hF := hF X37 eX37 hH.2.2.1
    exact J1 X37  hF _ _ _ hH hS (lv_sub hl [0, 1, 2, 3] rfl)
  · have hF := hF.2 c33
    refine lv_iload_n C.1 C.2.1 dX3_extend_8 rfl (lv_at hl 3 rfl) ?_
    refine lv_aload_n C.1 C.2.1 dX3_extend_9 rfl (lv_at hl 0 rfl) ?_
    refine zg3_5 C hH (zF_n hC) (zF_k hC) q_552 dX3_extend_10 ?_
    refine zd_icmp_ne C hg (hH.2.2.1 _ _) 48 dX3_extend_13 (by decide) (fun c38 => ?_) (fun c38 => ?_)
    · have hF := hF.1 c38
      exact J1 X  hF _ _ _ hH hS (lv_sub hl [0, 1, 2, 3] rfl)
    · have hF := hF.2 c38
      refine lv_iload_n C.1 C.2.1 dX3_extend_16 rfl (lv_at hl 1 rfl) ?_
      refine lv_aload_n C.1 C.2.1 dX3_extend_17 rfl (lv_at hl 0 rfl) ?_
      refine zg3_4 C hH (zF_n hC) (zF_k hC) q_550 dX3_extend_18 ?_
      refine zd_icmp_ge C ha (hH.2.2.1 _ _) 48 dX3_extend_21 (by decide) (fun c39 => ?_) (fun c39 => ?_)
      · have hF := hF.1 c39
        exact J1 X  hF _ _ _ hH hS (lv_sub hl [0, 1, 2, 3] rfl)
      · have hF := hF.2 c39
        refine lv_aload_n C.1 C.2.1 dX3_extend_24 rfl (lv_at hl 0 rfl) ?_
        refine lv_iload_n C.1 C.2.1 dX3_extend_25 rfl (lv_at hl 3 rfl) ?_
        refine zp3_5 C hH hS (zF_n hC) (zF_k hC) q_552 hg dX3_extend_26 (fun H locs hH hS => ?_)
        obtain ⟨X40, eX40⟩ : ∃ z, z = zU X (i) 5 (g) := ⟨_, rfl⟩
        rw [← eX40] at hH
        have hF := hF X40 eX40 hH.2.2.1
        refine lv_aload_n C.1 C.2.1 dX3_extend_29 rfl (lv_at hl 0 rfl) ?_
        refine lv_iload_n C.1 C.2.1 dX3_extend_30 rfl (lv_at hl 1 rfl) ?_
        refine zp3_4 C hH hS (zF_n hC) (zF_k hC) q_550 ha dX3_extend_31 (fun H locs hH hS => ?_)
        obtain ⟨X41, eX41⟩ : ∃ z, z = zU X40 (i) 4 (a) := ⟨_, rfl⟩
        rw [← eX41] at hH
        have hF := hF X41 eX41 hH.2.2.1
        refine lv_aload_n C.1 C.2.1 dX3_extend_34 rfl (lv_at hl 0 rfl) ?_
        refine zg3_2 C hH (zF_n hC) (zF_k hC) q_547 (zF_r hC).2.2 dX3_extend_35 ?_
        refine zd_iconst C dX3_extend_38 ?_
        refine lv_aload_n C.1 C.2.1 dX3_extend_39 rfl (lv_at hl 0 rfl) ?_
        refine zg3_3 C hH (zF_n hC) (zF_k hC) q_548 (zF_b hC).2.2 dX3_extend_40 ?_
        refine zd_iconst C dX3_extend_43 ?_
        refine zd_iconst C dX3_extend_44 ?_
        obtain ⟨o42, hF⟩ := hF
        refine zd_copyi C hl.1 hH hS (zF_n5 hC) (zF_n4 hC) (zF_b hC).1 (zF_r hC).1 q_1213 q_793 q_792 q_146 o42.1.1 o42.1.2.1 o42.1.2.2 (by rw [(zF_r hC).2.1]; exact o42.2.1) (by rw [(zF_b hC).2.1]; exact o42.2.2) (by rw [(zF_b hC).2.1]; decide) (by rw [(zF_r hC).2.1]; decide) (Nat.le_of_ble_eq_true rfl) (Nat.le_of_ble_eq_true rfl) dX3_extend_45 (fun H locs hH hS => ?_)
        obtain ⟨X43, eX43⟩ : ∃ z, z = zCp X41 (i + 4) (i + 5) 0 0 3 := ⟨_, rfl⟩
        rw [← eX43] at hH
        have hF := hF X43 eX43 hH.2.2.1
        exact J1 X43  hF _ _ _ hH hS (lv_sub hl [0, 1, 2, 3] rfl)
theorem v_X3_extend1 {X Y : Nat → Int → Int} {R : Nat → Int → Option Nat} {i : Nat} (a : Int) (ha : rI a) (b : Int) (hb : rI b) (g : Int) (hg : rI g) (hp : a = 1 ∧ flI X R i ∧ (0 ≤ g ∧ g ≤ 27) ∧ ∃ p M t0 m0, flP 1 p (b) (g) M X R i ∧ bsT X X R i t0 m0 ∧ lexB 1 p t0 m0) : F_X3_extend1 i X Y R a b g := by
  unfold F_X3_extend1
  intro hX hY
  obtain ⟨rfl, gI, g27, hx⟩ := hp
  obtain ⟨pl1, pl2, pl3, pl4⟩ := gI.1
  have tn1 : ((1 : Int) + 1).toNat = 1 + 1 := rfl
  have tn0 : ((1 : Int)).toNat = 1 := rfl
  refine ⟨?_, ?_⟩
  · intro X1
    intro rX1
    intro h1
    obtain ⟨f1, v1⟩ := h1
    refine ⟨?_, ?_⟩
    · intro c1
      exact absurd c1 (by decide)
    intro c2
    refine ⟨?_, ?_⟩
    · intro c3
      refine ⟨?_, ?_⟩
      · exact ⟨⟨by omega, by have := pl1.2.1; omega⟩, f1, v1⟩
      intro k X5
      intro _
      intro rX5
      intro h2
      obtain ⟨⟨k1, k2⟩, f2, v2⟩ := h2
      obtain ⟨kn, rfl⟩ := nat_of k1
      have ekn : ((kn : Nat) : Int).toNat = kn := by omega
      have es : ((kn : Int) + 1).toNat = kn + 1 := by omega
      rw [ekn] at v2
      have cn : X5 (pl9 R i) = X (pl9 R i) := f2.1 _ (by omega) (by omega) (by omega) (by omega)
      have cn1 : X5 (pl9 R i + 1) = X (pl9 R i + 1) := f2.1 _ (by omega) (by omega) (by omega) (by omega)
      rw [tn1, tn0, cn, cn1]
      refine ⟨?_, ?_⟩
      · intro c4
        exact ⟨f2, fun p M t0 m0 q b lx => fl_all q (v2 p M t0 m0 q b lx) (by omega) (by have := pl1.2.1; omega)⟩
      intro c5
      have kl : (kn : Int) < X (pl9 R i) 2 := by omega
      have k6 : kn < 6 := by have := pl1.2.1; omega
      have ar := gI.2.1 kn kl
      refine ⟨?_, ?_⟩
      · intro c6
        have hu : mHas b kn = false := has_0.mpr c6
        refine ⟨?_, ?_⟩
        · unfold oRw
          rw [cn]
          exact ⟨pl1, ⟨by omega, by omega⟩, by decide, by omega⟩
        intro _
        refine ⟨?_, ?_⟩
        · decide
        refine ⟨?_, ?_⟩
        · decide
        refine ⟨?_, ?_⟩
        · omega
        intro X13
        intro rX13
        intro h3
        obtain ⟨p, M, t0, m0, q, b0, lx⟩ := hx
        have P := fl_pay (k := kn) (kk := kn) (an := 1) (T := X) gI q f2 (by decide) rfl rfl kl hu h3
        have cv : X13 (pl9 R i) = X (pl9 R i) := P.1.1 _ (by omega) (by omega) (by omega) (by omega)
        have cv1 : X13 (pl9 R i + 1) = X (pl9 R i + 1) := P.1.1 _ (by omega) (by omega) (by omega) (by omega)
        rw [cv, cv1]
        refine ⟨?_, ?_⟩
        · unfold oRw
          rw [cv]
          exact ⟨pl1, ⟨by omega, by omega⟩, by decide, by omega⟩
        intro _
        refine ⟨?_, ?_⟩
        · unfold oRw
          rw [cv]
          exact ⟨pl1, ⟨by omega, by omega⟩, by decide, by omega⟩
        intro _
        refine ⟨?_, ?_⟩
        · unfold oRw
          rw [cv]
          exact ⟨pl1, ⟨by omega, by omega⟩, by decide, by omega⟩
        intro _
        refine ⟨?_, ?_⟩
        · exact ⟨ar.1, ar.2, P.2.2.1⟩
        intro r22
        intro X21
        intro rX21
        intro h4
        obtain ⟨hr, h4f, h4t⟩ := h4
        refine ⟨?_, ?_⟩
        · intro c7
          refine ⟨?_, ?_⟩
          · decide
          intro X25
          intro eX25
          rw [h4t c7] at eX25
          have A : ∀ p M, flP 1 p b g M X R i → flF 1 X X25 i ∧ (X25 i = X5 i ∧ X25 (i + 5) = X5 (i + 5)) ∧ ∃ M', flP (1 + 1) (6 * p + kn) (zOr b (zShl 1 kn)) (g + plC X (pl9 R i) 3 kn) M' X25 R i := fun p M q => (fl_pay (k := kn) (kk := kn) (an := 1) (T := X) gI q f2 (by decide) rfl rfl kl hu h3).2.2.2.2 (hr.symm.trans c7) X25 eX25
          have A1 := (A p M q).1
          have I25 := fl_I A1 gI
          have t2 := (fl_fu A1 pl4).2.1
          intro rX25
          refine ⟨?_, ?_⟩
          · exact ⟨by omega, by omega⟩
          refine ⟨?_, ?_⟩
          · have a9 : X (pl9 R i + 1) (kn * X (pl9 R i) 0 + 3) ≤ 9 := ar.2.2
            have a0 : 0 ≤ X (pl9 R i + 1) (kn * X (pl9 R i) 0 + 3) := ar.2.1
            exact ⟨by omega, by omega⟩
          refine ⟨?_, ?_⟩
          · obtain ⟨-, ⟨a1, a2⟩, M', q'⟩ := A p M q
            obtain ⟨t, m, bt, l9, w⟩ := v2 p M t0 m0 q b0 lx
            have f9 := q'.2.2.2.2.2
            exact ⟨rfl, I25, ⟨f9.1, Int.le_trans f9.2 (by decide)⟩, 6 * p + kn, M', t, m, q', fl_bs A1 gI a1 a2 bt, fl_lex l9⟩
          intro X29
          intro rX29
          intro h5
          obtain ⟨f5, v5⟩ := h5
          refine ⟨?_, ?_⟩
          · first | omega | exact ⟨by omega, by omega⟩ | decide | assumption | exact ⟨by omega, by omega, by omega⟩ | exact ⟨by decide, by decide⟩
          refine ⟨?_, ?_⟩
          · rw [es]
            refine ⟨⟨by omega, by omega⟩, A1.tr f5.up, fun p M t0 m0 q b lx => ?_⟩
            obtain ⟨-, ⟨a1, a2⟩, M', q'⟩ := A p M q
            exact fl_step (v2 p M t0 m0 q b lx) t2 (by decide) (fun t m bt lx2 => v5 (6 * p + kn) M' t m q' (fl_bs A1 gI a1 a2 bt) lx2)
          first | omega | exact ⟨by omega, by omega⟩ | decide | assumption | exact ⟨by omega, by omega, by omega⟩ | exact ⟨by decide, by decide⟩
        intro c8
        refine ⟨?_, ?_⟩
        · first | omega | exact ⟨by omega, by omega⟩ | decide | assumption | exact ⟨by omega, by omega, by omega⟩ | exact ⟨by decide, by decide⟩
        refine ⟨?_, ?_⟩
        · rw [es, h4f c8]
          refine ⟨⟨by omega, by omega⟩, P.1, fun p M t0 m0 q b lx => ?_⟩
          have P2 := fl_pay (k := kn) (kk := kn) (an := 1) (T := X) gI q f2 (by decide) rfl rfl kl hu h3
          obtain ⟨t, m, bt, w⟩ := fl_skip (v2 p M t0 m0 q b lx) (P2.2.2.2.1 (hr.symm.trans c8))
          refine ⟨t, m, ?_, w⟩
          unfold bsT at bt ⊢
          rw [P2.2.1.1, P2.2.1.2]
          exact bt
        first | omega | exact ⟨by omega, by omega⟩ | decide | assumption | exact ⟨by omega, by omega, by omega⟩ | exact ⟨by decide, by decide⟩
      intro c9
      refine ⟨?_, ?_⟩
      · first | omega | exact ⟨by omega, by omega⟩ | decide | assumption | exact ⟨by omega, by omega, by omega⟩ | exact ⟨by decide, by decide⟩
      refine ⟨?_, ?_⟩
      · rw [es]
        refine ⟨⟨by omega, by omega⟩, f2, fun p M t0 m0 q b lx => fl_skip (v2 p M t0 m0 q b lx) ?_⟩
        have e : fuX X R i (dg6 (1 + 1) (6 * p + kn)) 1 = some (_, _, M) := (fsU_row 1 (fun j hj => (dg6_c k6).1 j hj)).trans q.2.1
        have st := fsU_s e
        rw [(dg6_c (n := 1) (p := p) k6).2, has_1.mpr c9, Bool.not_true, Bool.and_false, Bool.false_and] at st
        exact st.trans (if_neg (by decide))
      first | omega | exact ⟨by omega, by omega⟩ | decide | assumption | exact ⟨by omega, by omega, by omega⟩ | exact ⟨by decide, by decide⟩
    intro c10
    exact absurd c10 (by decide)
  refine ⟨?_, ?_⟩
  · intro c11
    intro X34
    intro eX34
    intro rX34
    intro X35
    intro eX35
    intro rX35
    refine ⟨?_, ?_⟩
    · decide
    intro X37
    intro eX37
    intro rX37
    refine ⟨⟨fun z z1 z2 z3 z4 => by rw [eX37, zCp_o z3, eX35, zU_o z1, eX34, zU_o z1], fun s s4 s5 => by rw [eX37, zCp_o (by omega), eX35, zU_n (by omega), eX34, zU_n (by omega)], fun j _ => by rw [eX37, zCp_o (by omega), eX35, zU_o (by omega), eX34, zU_o (by omega)]⟩, fun p M t0 m0 q b lx => fl_new q (by decide) b (Or.inl c11) ?_ ?_ ?_⟩
    · rw [eX37, zCp_o (by omega), eX35, zU_s]
      rfl
    · rw [eX37, zCp_o (by omega), eX35, zU_n (by omega), eX34, zU_s]
    · intro j hj
      rw [eX37]
      unfold zCp
      rw [if_pos ⟨rfl, by omega, by omega⟩, eX35, zU_o (by omega), eX34, zU_o (by omega), show (0 : Int) + ((j : Int) - 0) = j by omega]
  intro c12
  refine ⟨?_, ?_⟩
  · intro c13
    exact ⟨flF.rf, fun p M t0 m0 q b lx => fl_old q b lx (by omega)⟩
  intro c14
  refine ⟨?_, ?_⟩
  · intro c15
    exact ⟨flF.rf, fun p M t0 m0 q b lx => fl_old q b lx (by omega)⟩
  intro c16
  intro X40
  intro eX40
  intro rX40
  intro X41
  intro eX41
  intro rX41
  refine ⟨?_, ?_⟩
  · decide
  intro X43
  intro eX43
  intro rX43
  refine ⟨⟨fun z z1 z2 z3 z4 => by rw [eX43, zCp_o z3, eX41, zU_o z1, eX40, zU_o z1], fun s s4 s5 => by rw [eX43, zCp_o (by omega), eX41, zU_n (by omega), eX40, zU_n (by omega)], fun j _ => by rw [eX43, zCp_o (by omega), eX41, zU_o (by omega), eX40, zU_o (by omega)]⟩, fun p M t0 m0 q b lx => fl_new q (by decide) b (Or.inr ⟨by omega, by omega⟩) ?_ ?_ ?_⟩
  · rw [eX43, zCp_o (by omega), eX41, zU_s]
    rfl
  · rw [eX43, zCp_o (by omega), eX41, zU_n (by omega), eX40, zU_s]
  · intro j hj
    rw [eX43]
    unfold zCp
    rw [if_pos ⟨rfl, by omega, by omega⟩, eX41, zU_o (by omega), eX40, zU_o (by omega), show (0 : Int) + ((j : Int) - 0) = j by omega]
theorem c_X3_extend1 {l : Launch} {D : va_G} {cy : Nat → ClassId} {bs N : Nat} {sa : Nat → Nat} {kd len : Nat → Nat} {X Y : Nat → Int → Int} {R : Nat → Int → Option Nat} {i : Nat} (hC : zFill N kd len R i) (a : Int) (ha : rI a) (b : Int) (hb : rI b) (g : Int) (hg : rI g) (hp : a = 1 ∧ flI X R i ∧ (0 ≤ g ∧ g ≤ 27) ∧ ∃ p M t0 m0, flP 1 p (b) (g) M X R i ∧ bsT X X R i t0 m0 ∧ lexB 1 p t0 m0) : Met l yX3_extend (.code yX3_extend cX3_extend 7 none :: zTB) (zRm 4 133) (zPc D cy bs sa N kd len X Y R [.ref (bs + (i)), .int (zI (a)), .int (zI (b)), .int (zI (g))]) (zQv D cy bs N kd len (fun st => st.2.1 = Y ∧ st.2.2 = R ∧ (flF 1 X (st.1) i ∧ flN X R i 1 (b) (g) (fun p t0 m0 => flQ X (st.1) R i 1 p t0 m0)))) 0 0 (zA bs) := w_X3_extend1 hC a ha b hb g hg (v_X3_extend1 a ha b hb g hg hp)
def F_X3_extend0 (i : Nat) (X Y : Nat → Int → Int) (R : Nat → Int → Option Nat) (a : Int) (b : Int) (g : Int) : Prop := (∀ i j, rI (X i j)) → (∀ i j, rL (Y i j)) → (∀ (X1 : Nat → Int → Int), (∀ i j, rI (X1 i j)) → (flF 0 X X1 i ∧ flN X R i 0 b g (fun p t0 m0 => flV X X1 R i 0 0 p t0 m0)) → (((a < 0) → (flF 0 X (X1) i ∧ flN X R i 0 (b) (g) (fun p t0 m0 => flQ X (X1) R i 0 p t0 m0))) ∧ ((¬ (a < 0)) → (((a < 3) → (((0 ≤ (0 : Int) ∧ (0 : Int) ≤ X (pl9 R i) 2) ∧ flF 0 X X1 i ∧ flN X R i 0 b g (fun p t0 m0 => flV X X1 R i 0 ((0 : Int)).toNat p t0 m0)) ∧ (∀ (k : Int) (X5 : Nat → Int → Int), rI k → (∀ i j, rI (X5 i j)) → ((0 ≤ k ∧ k ≤ X (pl9 R i) 2) ∧ flF 0 X X5 i ∧ flN X R i 0 b g (fun p t0 m0 => flV X X5 R i 0 (k).toNat p t0 m0)) → ((((X5 (pl9 R i) 2) ≤ k) → (flF 0 X (X5) i ∧ flN X R i 0 (b) (g) (fun p t0 m0 => flQ X (X5) R i 0 p t0 m0))) ∧ ((¬ ((X5 (pl9 R i) 2) ≤ k)) → ((((zAnd (zShr (b) (k)) (1)) = 0) → ((oRw X5 (pl9 R i) 24 ∧ (0 ≤ k ∧ k < X5 (pl9 R i) 1) ∧ 0 ≤ (3 : Int) ∧ (3 : Int) < X5 (pl9 R i) 0) ∧ (rI (X5 ((pl9 R i) + 1) ((k) * X5 (pl9 R i) 0 + ((3 : Int)))) → ((0 ≤ (a + 1) ∧ (a + 1) < 4) ∧ ((0 ≤ a ∧ a < 4) ∧ (((i + 6 + 2 * (a : Int).toNat) ≠ (i + 6 + 2 * (a + 1 : Int).toNat)) ∧ (∀ X13 : Nat → Int → Int, (∀ i j, rI (X13 i j)) → ((X13) = zCp (zU X5 (i + 6 + 2 * (a + 1 : Int).toNat) 0 (X5 (i + 6 + 2 * (a : Int).toNat) 0)) ((i + 6 + 2 * (a : Int).toNat) + 1) ((i + 6 + 2 * (a + 1 : Int).toNat) + 1) 0 0 6) → ((oRw X13 (pl9 R i) 24 ∧ (0 ≤ k ∧ k < X13 (pl9 R i) 1) ∧ 0 ≤ (0 : Int) ∧ (0 : Int) < X13 (pl9 R i) 0) ∧ (rI (X13 ((pl9 R i) + 1) ((k) * X13 (pl9 R i) 0 + ((0 : Int)))) → ((oRw X13 (pl9 R i) 24 ∧ (0 ≤ k ∧ k < X13 (pl9 R i) 1) ∧ 0 ≤ (1 : Int) ∧ (1 : Int) < X13 (pl9 R i) 0) ∧ (rI (X13 ((pl9 R i) + 1) ((k) * X13 (pl9 R i) 0 + ((1 : Int)))) → ((oRw X13 (pl9 R i) 24 ∧ (0 ≤ k ∧ k < X13 (pl9 R i) 1) ∧ 0 ≤ (2 : Int) ∧ (2 : Int) < X13 (pl9 R i) 0) ∧ (rI (X13 ((pl9 R i) + 1) ((k) * X13 (pl9 R i) 0 + ((2 : Int)))) → (((0 ≤ (X13 ((pl9 R i) + 1) ((k) * X13 (pl9 R i) 0 + ((2 : Int)))) ∧ (X13 ((pl9 R i) + 1) ((k) * X13 (pl9 R i) 0 + ((2 : Int)))) ≤ 99) ∧ (0 ≤ (X5 ((pl9 R i) + 1) ((k) * X5 (pl9 R i) 0 + ((3 : Int)))) ∧ (X5 ((pl9 R i) + 1) ((k) * X5 (pl9 R i) 0 + ((3 : Int)))) ≤ 9) ∧ ∀ y : Int, 0 ≤ y → y < 6 → 0 ≤ X13 ((i + 6 + 2 * (a + 1 : Int).toNat) + 1) y ∧ X13 ((i + 6 + 2 * (a + 1 : Int).toNat) + 1) y ≤ 1000000000) ∧ (∀ r22 : Bool, ∀ X21 : Nat → Int → Int, (∀ i j, rI (X21 i j)) → (r22 = cPk X13 (i + 6 + 2 * (a + 1 : Int).toNat) ((X13 ((pl9 R i) + 1) ((k) * X13 (pl9 R i) 0 + ((0 : Int))))) ((X13 ((pl9 R i) + 1) ((k) * X13 (pl9 R i) 0 + ((1 : Int))))) ((X13 ((pl9 R i) + 1) ((k) * X13 (pl9 R i) 0 + ((2 : Int))))) ((X5 ((pl9 R i) + 1) ((k) * X5 (pl9 R i) 0 + ((3 : Int))))) ∧ (r22 = false → (X21) = X13) ∧ (r22 = true → (X21) = cPa X13 (i + 6 + 2 * (a + 1 : Int).toNat) ((X13 ((pl9 R i) + 1) ((k) * X13 (pl9 R i) 0 + ((0 : Int))))) ((X13 ((pl9 R i) + 1) ((k) * X13 (pl9 R i) 0 + ((1 : Int))))) ((X13 ((pl9 R i) + 1) ((k) * X13 (pl9 R i) 0 + ((2 : Int))))) ((X5 ((pl9 R i) + 1) ((k) * X5 (pl9 R i) 0 + ((3 : Int))))))) → (((r22 = true) → ((0 ≤ a ∧ a < 3) ∧ (∀ X25 : Nat → Int → Int, X25 = zU X21 (i + 4) (a) (k) → (∀ i j, rI (X25 i j)) → ((rI (a + 1)) ∧ ((rI (g + (X5 ((pl9 R i) + 1) ((k) * X5 (pl9 R i) 0 + ((3 : Int)))))) ∧ ((((a + 1)) = 1 ∧ flI X25 R i ∧ (0 ≤ ((g + (X5 ((pl9 R i) + 1) ((k) * X5 (pl9 R i) 0 + ((3 : Int)))))) ∧ ((g + (X5 ((pl9 R i) + 1) ((k) * X5 (pl9 R i) 0 + ((3 : Int)))))) ≤ 27) ∧ ∃ p M t0 m0, flP 1 p ((zOr (b) (zShl (1) (k)))) ((g + (X5 ((pl9 R i) + 1) ((k) * X5 (pl9 R i) 0 + ((3 : Int)))))) M X25 R i ∧ bsT X25 X25 R i t0 m0 ∧ lexB 1 p t0 m0) ∧ (∀ X29 : Nat → Int → Int, (∀ i j, rI (X29 i j)) → (flF 1 X25 (X29) i ∧ flN X25 R i 1 ((zOr (b) (zShl (1) (k)))) ((g + (X5 ((pl9 R i) + 1) ((k) * X5 (pl9 R i) 0 + ((3 : Int)))))) (fun p t0 m0 => flQ X25 (X29) R i 1 p t0 m0)) → ((rI (k + 1)) ∧ ((0 ≤ (k + 1) ∧ (k + 1) ≤ X (pl9 R i) 2) ∧ flF 0 X X29 i ∧ flN X R i 0 b g (fun p t0 m0 => flV X X29 R i 0 ((k + 1)).toNat p t0 m0)) ∧ (((10 - (k + 1)).toNat) < ((10 - (k)).toNat)))))))))) ∧ ((r22 = false) → ((rI (k + 1)) ∧ ((0 ≤ (k + 1) ∧ (k + 1) ≤ X (pl9 R i) 2) ∧ flF 0 X X21 i ∧ flN X R i 0 b g (fun p t0 m0 => flV X X21 R i 0 ((k + 1)).toNat p t0 m0)) ∧ (((10 - (k + 1)).toNat) < ((10 - (k)).toNat)))))))))))))))))))) ∧ ((¬ ((zAnd (zShr (b) (k)) (1)) = 0)) → ((rI (k + 1)) ∧ ((0 ≤ (k + 1) ∧ (k + 1) ≤ X (pl9 R i) 2) ∧ flF 0 X X5 i ∧ flN X R i 0 b g (fun p t0 m0 => flV X X5 R i 0 ((k + 1)).toNat p t0 m0)) ∧ (((10 - (k + 1)).toNat) < ((10 - (k)).toNat)))))))))) ∧ ((¬ (a < 3)) → (flF 0 X (X1) i ∧ flN X R i 0 (b) (g) (fun p t0 m0 => flQ X (X1) R i 0 p t0 m0))))))) ∧ ((((X (i) 5) < g) → (∀ X34 : Nat → Int → Int, X34 = zU X (i) 5 (g) → (∀ i j, rI (X34 i j)) → (∀ X35 : Nat → Int → Int, X35 = zU X34 (i) 4 (a) → (∀ i j, rI (X35 i j)) → (((0 ≤ (0 : Int) ∧ 0 ≤ (0 : Int) ∧ 0 ≤ (3 : Int)) ∧ (0 : Int) + 3 ≤ 3 ∧ (0 : Int) + 3 ≤ 3) ∧ (∀ X37 : Nat → Int → Int, X37 = zCp X35 (i + 4) (i + 5) 0 0 3 → (∀ i j, rI (X37 i j)) → (flF 0 X X37 i ∧ flN X R i 0 b g (fun p t0 m0 => flV X X37 R i 0 0 p t0 m0))))))) ∧ ((¬ ((X (i) 5) < g)) → (((¬ g = (X (i) 5)) → (flF 0 X X i ∧ flN X R i 0 b g (fun p t0 m0 => flV X X R i 0 0 p t0 m0))) ∧ ((¬ (¬ g = (X (i) 5))) → ((((X (i) 4) ≤ a) → (flF 0 X X i ∧ flN X R i 0 b g (fun p t0 m0 => flV X X R i 0 0 p t0 m0))) ∧ ((¬ ((X (i) 4) ≤ a)) → (∀ X40 : Nat → Int → Int, X40 = zU X (i) 5 (g) → (∀ i j, rI (X40 i j)) → (∀ X41 : Nat → Int → Int, X41 = zU X40 (i) 4 (a) → (∀ i j, rI (X41 i j)) → (((0 ≤ (0 : Int) ∧ 0 ≤ (0 : Int) ∧ 0 ≤ (3 : Int)) ∧ (0 : Int) + 3 ≤ 3 ∧ (0 : Int) + 3 ≤ 3) ∧ (∀ X43 : Nat → Int → Int, X43 = zCp X41 (i + 4) (i + 5) 0 0 3 → (∀ i j, rI (X43 i j)) → (flF 0 X X43 i ∧ flN X R i 0 b g (fun p t0 m0 => flV X X43 R i 0 0 p t0 m0))))))))))))
set_option maxHeartbeats 4000000 in
set_option maxRecDepth 100000 in
theorem w_X3_extend0 {l : Launch} {D : va_G} {cy : Nat → ClassId} {bs N : Nat} {sa : Nat → Nat} {kd len : Nat → Nat} {X Y : Nat → Int → Int} {R : Nat → Int → Option Nat} {i : Nat} (hC : zFill N kd len R i) (a : Int) (ha : rI a) (b : Int) (hb : rI b) (g : Int) (hg : rI g) (hF : F_X3_extend0 i X Y R a b g) : Met l yX3_extend (.code yX3_extend cX3_extend 7 none :: zTB) (zRm 5 159) (zPc D cy bs sa N kd len X Y R [.ref (bs + (i)), .int (zI (a)), .int (zI (b)), .int (zI (g))]) (zQv D cy bs N kd len (fun st => st.2.1 = Y ∧ st.2.2 = R ∧ (flF 0 X (st.1) i ∧ flN X R i 0 (b) (g) (fun p t0 m0 => flQ X (st.1) R i 0 p t0 m0)))) 0 0 (zA bs) := by
  refine zstart (by decide) (Nat.le_of_ble_eq_true rfl) ?_
  intro p e s m args below meth c ls C hE hH hr hlk hnm hl hargs
  have hF := hF hH.2.2.1 hH.2.2.2
  have hS : va_S (zA bs) s.heap s.heap [] := va_S.rf
  have hl : lv_has ls 7 [(0, .ref (bs + (i))), (1, .int (zI (a))), (2, .int (zI (b))), (3, .int (zI (g)))] := hl
  have J1 : ∀ (X1 : Nat → Int → Int), (flF 0 X X1 i ∧ flN X R i 0 b g (fun p t0 m0 => flV X X1 R i 0 0 p t0 m0)) → ∀ (H : Heap) (locs : List Loc) (ls : Array Slot), zH D cy bs N kd len X1 Y R H → va_S (zA bs) s.heap H locs → lv_has ls 7 [(0, .ref (bs + (i))), (1, .int (zI (a))), (2, .int (zI (b))), (3, .int (zI (g)))] → W p l e (zRm 5 159) s m args below meth c H locs 0 0 (MQ below (zQv D cy bs N kd len (fun st => st.2.1 = Y ∧ st.2.2 = R ∧ (flF 0 X (st.1) i ∧ flN X R i 0 (b) (g) (fun p t0 m0 => flQ X (st.1) R i 0 p t0 m0)))) args s 0 0 (zA bs)) (F0 m 48 ls []) := by
    intro X1  hI H locs ls hH hS hl
    have hF := hF.1 X1  hH.2.2.1 hI
    refine lv_iload_n C.1 C.2.1 dX3_extend_48 rfl (lv_at hl 1 rfl) ?_
    refine zd_if_lt C ha 57 dX3_extend_49 (by decide) (fun c2 => ?_) (fun c2 => ?_)
    · have hF := hF.1 c2
      exact zd_vret C hr hlk hH hS (⟨rfl, rfl, hF⟩) dX3_extend_57
    · have hF := hF.2 c2
      refine lv_iload_n C.1 C.2.1 dX3_extend_52 rfl (lv_at hl 1 rfl) ?_
      refine zd_iconst C dX3_extend_53 ?_
      refine zd_icmp_lt C ha (by decide) 58 dX3_extend_54 (by decide) (fun c3 => ?_) (fun c3 => ?_)
      · have hF := hF.1 c3
        refine zd_iconst C dX3_extend_58 ?_
        refine lv_istore (lv' := [(4, .int (zI (0))), (0, .ref (bs + (i))), (1, .int (zI (a))), (2, .int (zI (b))), (3, .int (zI (g)))]) C.1 C.2.1 dX3_extend_59 hl (by decide) rfl (fun ls hl => ?_)
        obtain ⟨hI4, hF⟩ := hF
        have L4 : ∀ (fu : Nat) (k : Int) (X5 : Nat → Int → Int), rI k → ((0 ≤ k ∧ k ≤ X (pl9 R i) 2) ∧ flF 0 X X5 i ∧ flN X R i 0 b g (fun p t0 m0 => flV X X5 R i 0 (k).toNat p t0 m0)) → ((10 - (k)).toNat) < fu → ∀ (H : Heap) (locs : List Loc) (ls : Array Slot), zH D cy bs N kd len X5 Y R H → va_S (zA bs) s.heap H locs → lv_has ls 7 [(4, .int (zI (k))), (0, .ref (bs + (i))), (1, .int (zI (a))), (2, .int (zI (b))), (3, .int (zI (g)))] → W p l e (zRm 5 159) s m args below meth c H locs 0 0 (MQ below (zQv D cy bs N kd len (fun st => st.2.1 = Y ∧ st.2.2 = R ∧ (flF 0 X (st.1) i ∧ flN X R i 0 (b) (g) (fun p t0 m0 => flQ X (st.1) R i 0 p t0 m0)))) args s 0 0 (zA bs)) (F0 m 61 ls []) := by
          intro fu
          induction fu with
          | zero => intro k X5 _ _ hmu; exact absurd hmu (Nat.not_lt_zero _)
          | succ fu ih4 =>
            intro k X5 hk hI hmu4 H locs ls hH hS hl
            have hF := hF k X5 hk hH.2.2.1 hI
            refine lv_iload C.1 C.2.1 dX3_extend_61 (lv_at hl 0 rfl) ?_
            refine lv_aload_n C.1 C.2.1 dX3_extend_63 rfl (lv_at hl 1 rfl) ?_
            refine zg3_0 C hH (zF_n hC) (zF_k hC) q_545 (zF_pl hC).1 dX3_extend_64 ?_
            refine zg8_2 C hH (zRows_n0 (zF_pl hC).2) (zRows_k0 (zF_pl hC).2) q_267 dX3_extend_67 ?_
            refine zd_icmp_ge C hk (hH.2.2.1 _ _) 192 dX3_extend_70 (by decide) (fun c6 => ?_) (fun c6 => ?_)
            · have hF := hF.1 c6
              exact zd_vret C hr hlk hH hS (⟨rfl, rfl, hF⟩) dX3_extend_192
            · have hF := hF.2 c6
              refine lv_iload_n C.1 C.2.1 dX3_extend_73 rfl (lv_at hl 3 rfl) ?_
              refine lv_iload C.1 C.2.1 dX3_extend_74 (lv_at hl 0 rfl) ?_
              refine zd_ishr C dX3_extend_76 ?_
              refine zd_iconst C dX3_extend_77 ?_
              refine zd_iand C dX3_extend_78 ?_
              refine zd_if_eq C (zI_rg _) 85 dX3_extend_79 (by decide) (fun c7 => ?_) (fun c7 => ?_)
              · have hF := hF.1 c7
                refine lv_aload_n C.1 C.2.1 dX3_extend_85 rfl (lv_at hl 1 rfl) ?_
                refine zg3_0 C hH (zF_n hC) (zF_k hC) q_545 (zF_pl hC).1 dX3_extend_86 ?_
                refine lv_iload C.1 C.2.1 dX3_extend_89 (lv_at hl 0 rfl) ?_
                refine zd_iconst C dX3_extend_91 ?_
                obtain ⟨o8, hF⟩ := hF
                refine zgoi (zrunV (As := [.int (zI (k)), .int (zI (3))]) (rest := []) C hE hH hS hl.1 (c_X8_part (l := l) (zF_pl hC).2 (zF_sm hC) (k) hk (3) (by decide) o8) k_RX3_58 ⟨Nat.le_of_ble_eq_true rfl, Nat.le_of_ble_eq_true rfl⟩ (zRows_n0 (zF_pl hC).2) (zRows_k0 (zF_pl hC).2) rfl rfl rfl (Nat.le_of_ble_eq_true rfl) dX3_extend_92 ⟨Nat.zero_le _, Nat.zero_le _⟩) hS (fun rq Xq Yq Rq H locs hrq hq hH hS => ?_)
                obtain ⟨h91, h92⟩ := hq
                have h93 : Xq = X5 := congrArg (fun z => z.1) h92
                have h94 : Yq = Y := congrArg (fun z => z.2.1) h92
                have h95 : Rq = R := congrArg (fun z => z.2.2) h92
                rw [h93, h94, h95] at hH
                subst h91
                have hr9 := hrq
                have hF := hF hr9
                refine lv_istore (lv' := [(5, .int (zI (X5 ((pl9 R i) + 1) ((k) * X5 (pl9 R i) 0 + ((3 : Int)))))), (4, .int (zI (k))), (0, .ref (bs + (i))), (1, .int (zI (a))), (2, .int (zI (b))), (3, .int (zI (g)))]) C.1 C.2.1 dX3_extend_95 hl (by decide) rfl (fun ls hl => ?_)
                refine lv_aload_n C.1 C.2.1 dX3_extend_97 rfl (lv_at hl 2 rfl) ?_
                refine zg3_1 C hH (zF_n hC) (zF_k hC) q_546 (zF_l hC).2.2 dX3_extend_98 ?_
                refine lv_iload_n C.1 C.2.1 dX3_extend_101 rfl (lv_at hl 3 rfl) ?_
                refine zd_iconst C dX3_extend_102 ?_
                refine zd_iadd C dX3_extend_103 ?_
                obtain ⟨o10, hF⟩ := hF
                refine zd_aaldr C hH (zF_n3 hC) 5 rfl rfl (by rw [(zF_l hC).1]; rfl) o10.1 (by rw [(zF_l hC).2.1]; exact o10.2) (by rw [(zF_l hC).2.1]; decide) (zF_lg hC o10.1 o10.2).1 dX3_extend_104 ?_
                refine lv_astore (lv' := [(6, .ref (bs + (i + 6 + 2 * (a + 1 : Int).toNat))), (5, .int (zI (X5 ((pl9 R i) + 1) ((k) * X5 (pl9 R i) 0 + ((3 : Int)))))), (4, .int (zI (k))), (0, .ref (bs + (i))), (1, .int (zI (a))), (2, .int (zI (b))), (3, .int (zI (g)))]) C.1 C.2.1 dX3_extend_105 hl (by decide) rfl (fun ls hl => ?_)
                refine lv_aload C.1 C.2.1 dX3_extend_107 (lv_at hl 0 rfl) ?_
                refine lv_aload_n C.1 C.2.1 dX3_extend_109 rfl (lv_at hl 3 rfl) ?_
                refine zg3_1 C hH (zF_n hC) (zF_k hC) q_546 (zF_l hC).2.2 dX3_extend_110 ?_
                refine lv_iload_n C.1 C.2.1 dX3_extend_113 rfl (lv_at hl 4 rfl) ?_
                obtain ⟨o11, hF⟩ := hF
                refine zd_aaldr C hH (zF_n3 hC) 5 rfl rfl (by rw [(zF_l hC).1]; rfl) o11.1 (by rw [(zF_l hC).2.1]; exact o11.2) (by rw [(zF_l hC).2.1]; decide) (zF_lg hC o11.1 o11.2).1 dX3_extend_114 ?_
                obtain ⟨o12, hF⟩ := hF
                refine zgov (zrunV (As := [.ref (bs + (i + 6 + 2 * (a : Int).toNat))]) (rest := []) C hE hH hS hl.1 (c_X5_copy (l := l) (zF_lg hC o10.1 o10.2).2 (zF_lg hC o11.1 o11.2).2  o12) k_RX3_34 ⟨Nat.le_of_ble_eq_true rfl, Nat.le_of_ble_eq_true rfl⟩ (zLedger_n0 (zF_lg hC o10.1 o10.2).2) (zLedger_k0 (zF_lg hC o10.1 o10.2).2) rfl rfl rfl (Nat.le_of_ble_eq_true rfl) dX3_extend_115 ⟨Nat.zero_le _, Nat.zero_le _⟩) hS (fun X13 Yq Rq H locs hq hH hS => ?_)
                obtain ⟨h9Y, h9R, hq⟩ := hq
                dsimp only at h9Y h9R
                rw [h9Y, h9R] at hH
                have hF := hF X13 hH.2.2.1 hq
                refine lv_aload C.1 C.2.1 dX3_extend_118 (lv_at hl 0 rfl) ?_
                refine lv_aload_n C.1 C.2.1 dX3_extend_120 rfl (lv_at hl 3 rfl) ?_
                refine zg3_0 C hH (zF_n hC) (zF_k hC) q_545 (zF_pl hC).1 dX3_extend_121 ?_
                refine lv_iload C.1 C.2.1 dX3_extend_124 (lv_at hl 2 rfl) ?_
                refine zd_iconst C dX3_extend_126 ?_
                obtain ⟨o14, hF⟩ := hF
                refine zgoi (zrunV (As := [.int (zI (k)), .int (zI (0))]) (rest := [.ref (bs + (i + 6 + 2 * (a + 1 : Int).toNat))]) C hE hH hS hl.1 (c_X8_part (l := l) (zF_pl hC).2 (zF_sm hC) (k) hk (0) (by decide) o14) k_RX3_58 ⟨Nat.le_of_ble_eq_true rfl, Nat.le_of_ble_eq_true rfl⟩ (zRows_n0 (zF_pl hC).2) (zRows_k0 (zF_pl hC).2) rfl rfl rfl (Nat.le_of_ble_eq_true rfl) dX3_extend_127 ⟨Nat.zero_le _, Nat.zero_le _⟩) hS (fun rq Xq Yq Rq H locs hrq hq hH hS => ?_)
                obtain ⟨h91, h92⟩ := hq
                have h93 : Xq = X13 := congrArg (fun z => z.1) h92
                have h94 : Yq = Y := congrArg (fun z => z.2.1) h92
                have h95 : Rq = R := congrArg (fun z => z.2.2) h92
                rw [h93, h94, h95] at hH
                subst h91
                have hr15 := hrq
                have hF := hF hr15
                refine lv_aload_n C.1 C.2.1 dX3_extend_130 rfl (lv_at hl 3 rfl) ?_
                refine zg3_0 C hH (zF_n hC) (zF_k hC) q_545 (zF_pl hC).1 dX3_extend_131 ?_
                refine lv_iload C.1 C.2.1 dX3_extend_134 (lv_at hl 2 rfl) ?_
                refine zd_iconst C dX3_extend_136 ?_
                obtain ⟨o16, hF⟩ := hF
                refine zgoi (zrunV (As := [.int (zI (k)), .int (zI (1))]) (rest := [.int (zI (X13 ((pl9 R i) + 1) ((k) * X13 (pl9 R i) 0 + ((0 : Int))))), .ref (bs + (i + 6 + 2 * (a + 1 : Int).toNat))]) C hE hH hS hl.1 (c_X8_part (l := l) (zF_pl hC).2 (zF_sm hC) (k) hk (1) (by decide) o16) k_RX3_58 ⟨Nat.le_of_ble_eq_true rfl, Nat.le_of_ble_eq_true rfl⟩ (zRows_n0 (zF_pl hC).2) (zRows_k0 (zF_pl hC).2) rfl rfl rfl (Nat.le_of_ble_eq_true rfl) dX3_extend_137 ⟨Nat.zero_le _, Nat.zero_le _⟩) hS (fun rq Xq Yq Rq H locs hrq hq hH hS => ?_)
                obtain ⟨h91, h92⟩ := hq
                have h93 : Xq = X13 := congrArg (fun z => z.1) h92
                have h94 : Yq = Y := congrArg (fun z => z.2.1) h92
                have h95 : Rq = R := congrArg (fun z => z.2.2) h92
                rw [h93, h94, h95] at hH
                subst h91
                have hr17 := hrq
                have hF := hF hr17
                refine lv_aload_n C.1 C.2.1 dX3_extend_140 rfl (lv_at hl 3 rfl) ?_
                refine zg3_0 C hH (zF_n hC) (zF_k hC) q_545 (zF_pl hC).1 dX3_extend_141 ?_
                refine lv_iload C.1 C.2.1 dX3_extend_144 (lv_at hl 2 rfl) ?_
                refine zd_iconst C dX3_extend_146 ?_
                obtain ⟨o18, hF⟩ := hF
                refine zgoi (zrunV (As := [.int (zI (k)), .int (zI (2))]) (rest := [.int (zI (X13 ((pl9 R i) + 1) ((k) * X13 (pl9 R i) 0 + ((1 : Int))))), .int (zI (X13 ((pl9 R i) + 1) ((k) * X13 (pl9 R i) 0 + ((0 : Int))))), .ref (bs + (i + 6 + 2 * (a + 1 : Int).toNat))]) C hE hH hS hl.1 (c_X8_part (l := l) (zF_pl hC).2 (zF_sm hC) (k) hk (2) (by decide) o18) k_RX3_58 ⟨Nat.le_of_ble_eq_true rfl, Nat.le_of_ble_eq_true rfl⟩ (zRows_n0 (zF_pl hC).2) (zRows_k0 (zF_pl hC).2) rfl rfl rfl (Nat.le_of_ble_eq_true rfl) dX3_extend_147 ⟨Nat.zero_le _, Nat.zero_le _⟩) hS (fun rq Xq Yq Rq H locs hrq hq hH hS => ?_)
                obtain ⟨h91, h92⟩ := hq
                have h93 : Xq = X13 := congrArg (fun z => z.1) h92
                have h94 : Yq = Y := congrArg (fun z => z.2.1) h92
                have h95 : Rq = R := congrArg (fun z => z.2.2) h92
                rw [h93, h94, h95] at hH
                subst h91
                have hr19 := hrq
                have hF := hF hr19
                refine lv_iload C.1 C.2.1 dX3_extend_150 (lv_at hl 1 rfl) ?_
                obtain ⟨o20, hF⟩ := hF
                refine zgoi (zrunV (As := [.int (zI (X13 ((pl9 R i) + 1) ((k) * X13 (pl9 R i) 0 + ((0 : Int))))), .int (zI (X13 ((pl9 R i) + 1) ((k) * X13 (pl9 R i) 0 + ((1 : Int))))), .int (zI (X13 ((pl9 R i) + 1) ((k) * X13 (pl9 R i) 0 + ((2 : Int))))), .int (zI (X5 ((pl9 R i) + 1) ((k) * X5 (pl9 R i) 0 + ((3 : Int)))))]) (rest := []) C hE hH hS hl.1 (c_X5_pay (l := l) (zF_lg hC o10.1 o10.2).2 (X13 ((pl9 R i) + 1) ((k) * X13 (pl9 R i) 0 + ((0 : Int)))) hr15 (X13 ((pl9 R i) + 1) ((k) * X13 (pl9 R i) 0 + ((1 : Int)))) hr17 (X13 ((pl9 R i) + 1) ((k) * X13 (pl9 R i) 0 + ((2 : Int)))) hr19 (X5 ((pl9 R i) + 1) ((k) * X5 (pl9 R i) 0 + ((3 : Int)))) hr9 o20) k_RX3_62 ⟨Nat.le_of_ble_eq_true rfl, Nat.le_of_ble_eq_true rfl⟩ (zLedger_n0 (zF_lg hC o10.1 o10.2).2) (zLedger_k0 (zF_lg hC o10.1 o10.2).2) rfl rfl rfl (Nat.le_of_ble_eq_true rfl) dX3_extend_152 ⟨Nat.zero_le _, Nat.zero_le _⟩) hS (fun rq X21 Yq Rq H locs hrq hq hH hS => ?_)
                obtain ⟨h9Y, h9R, hq⟩ := hq
                dsimp only at h9Y h9R
                rw [h9Y, h9R] at hH
                obtain ⟨r22, h91, hq⟩ := hq
                subst h91
                have hF := hF r22 X21 hH.2.2.1 hq
                refine zd_ifB_ne C 161 dX3_extend_155 (by decide) (fun c23 => ?_) (fun c23 => ?_)
                · have hF := hF.1 c23
                  refine lv_aload_n C.1 C.2.1 dX3_extend_161 rfl (lv_at hl 3 rfl) ?_
                  refine zg3_2 C hH (zF_n hC) (zF_k hC) q_547 (zF_r hC).2.2 dX3_extend_162 ?_
                  refine lv_iload_n C.1 C.2.1 dX3_extend_165 rfl (lv_at hl 4 rfl) ?_
                  refine lv_iload C.1 C.2.1 dX3_extend_166 (lv_at hl 2 rfl) ?_
                  obtain ⟨o24, hF⟩ := hF
                  refine zd_iast C hH hS (zF_n4 hC) (zF_r hC).1 o24.1 (by rw [(zF_r hC).2.1]; exact o24.2) (by rw [(zF_r hC).2.1]; decide) hk dX3_extend_168 (fun H locs hH hS => ?_)
                  obtain ⟨X25, eX25⟩ : ∃ z, z = zU X21 (i + 4) (a) (k) := ⟨_, rfl⟩
                  rw [← eX25] at hH
                  have hF := hF X25 eX25 hH.2.2.1
                  refine lv_aload_n C.1 C.2.1 dX3_extend_169 rfl (lv_at hl 3 rfl) ?_
                  refine lv_iload_n C.1 C.2.1 dX3_extend_170 rfl (lv_at hl 4 rfl) ?_
                  refine zd_iconst C dX3_extend_171 ?_
                  refine zd_iadd C dX3_extend_172 ?_
                  refine lv_iload_n C.1 C.2.1 dX3_extend_173 rfl (lv_at hl 5 rfl) ?_
                  refine zd_iconst C dX3_extend_174 ?_
                  refine lv_iload C.1 C.2.1 dX3_extend_175 (lv_at hl 2 rfl) ?_
                  refine zd_ishl C dX3_extend_177 ?_
                  refine zd_ior C dX3_extend_178 ?_
                  refine lv_iload_n C.1 C.2.1 dX3_extend_179 rfl (lv_at hl 6 rfl) ?_
                  refine lv_iload C.1 C.2.1 dX3_extend_180 (lv_at hl 1 rfl) ?_
                  refine zd_iadd C dX3_extend_182 ?_
                  obtain ⟨o26, hF⟩ := hF
                  obtain ⟨o27, hF⟩ := hF
                  obtain ⟨o28, hF⟩ := hF
                  refine zgov (zrunV (As := [.int (zI (a + 1)), .int (zI (zOr (b) (zShl (1) (k)))), .int (zI (g + (X5 ((pl9 R i) + 1) ((k) * X5 (pl9 R i) 0 + ((3 : Int))))))]) (rest := []) C hE hH hS hl.1 (c_X3_extend1 (l := l) hC (a + 1) o26 (zOr (b) (zShl (1) (k))) (zI_rg _) (g + (X5 ((pl9 R i) + 1) ((k) * X5 (pl9 R i) 0 + ((3 : Int))))) o27 o28) k_RX3_45 ⟨Nat.le_of_ble_eq_true rfl, Nat.le_of_ble_eq_true rfl⟩ (zF_n hC) (zF_k hC) rfl rfl rfl (Nat.le_of_ble_eq_true rfl) dX3_extend_183 ⟨Nat.zero_le _, Nat.zero_le _⟩) hS (fun X29 Yq Rq H locs hq hH hS => ?_)
                  obtain ⟨h9Y, h9R, hq⟩ := hq
                  dsimp only at h9Y h9R
                  rw [h9Y, h9R] at hH
                  have hF := hF X29 hH.2.2.1 hq
                  refine zd_iinc (k := 2) (lv' := [(4, .int (zI (k + 1))), (6, .ref (bs + (i + 6 + 2 * (a + 1 : Int).toNat))), (5, .int (zI (X5 ((pl9 R i) + 1) ((k) * X5 (pl9 R i) 0 + ((3 : Int)))))), (0, .ref (bs + (i))), (1, .int (zI (a))), (2, .int (zI (b))), (3, .int (zI (g)))]) C hl rfl dX3_extend_186 (by decide) rfl (fun ls hl => ?_)
                  refine lv_goto (tgt := 61) C.1 C.2.1 dX3_extend_189 (by decide) ?_
                  obtain ⟨o30, hF⟩ := hF
                  exact ih4 (k + 1) X29 o30 hF.1 (Nat.lt_of_lt_of_le hF.2 (Nat.le_of_lt_succ hmu4)) _ _ _ hH hS (lv_sub hl [0, 3, 4, 5, 6] rfl)
                · have hF := hF.2 c23
                  refine lv_goto (tgt := 186) C.1 C.2.1 dX3_extend_158 (by decide) ?_
                  refine zd_iinc (k := 2) (lv' := [(4, .int (zI (k + 1))), (6, .ref (bs + (i + 6 + 2 * (a + 1 : Int).toNat))), (5, .int (zI (X5 ((pl9 R i) + 1) ((k) * X5 (pl9 R i) 0 + ((3 : Int)))))), (0, .ref (bs + (i))), (1, .int (zI (a))), (2, .int (zI (b))), (3, .int (zI (g)))]) C hl rfl dX3_extend_186 (by decide) rfl (fun ls hl => ?_)
                  refine lv_goto (tgt := 61) C.1 C.2.1 dX3_extend_189 (by decide) ?_
                  obtain ⟨o31, hF⟩ := hF
                  exact ih4 (k + 1) X21 o31 hF.1 (Nat.lt_of_lt_of_le hF.2 (Nat.le_of_lt_succ hmu4)) _ _ _ hH hS (lv_sub hl [0, 3, 4, 5, 6] rfl)
              · have hF := hF.2 c7
                refine lv_goto (tgt := 186) C.1 C.2.1 dX3_extend_82 (by decide) ?_
                refine zd_iinc (k := 0) (lv' := [(4, .int (zI (k + 1))), (0, .ref (bs + (i))), (1, .int (zI (a))), (2, .int (zI (b))), (3, .int (zI (g)))]) C hl rfl dX3_extend_186 (by decide) rfl (fun ls hl => ?_)
                refine lv_goto (tgt := 61) C.1 C.2.1 dX3_extend_189 (by decide) ?_
                obtain ⟨o32, hF⟩ := hF
                exact ih4 (k + 1) X5 o32 hF.1 (Nat.lt_of_lt_of_le hF.2 (Nat.le_of_lt_succ hmu4)) _ _ _ hH hS (lv_sub hl [0, 1, 2, 3, 4] rfl)
        exact L4 (((10 - ((0 : Int))).toNat) + 1) ((0 : Int)) X1 (by decide) hI4 (Nat.lt_succ_self _) _ _ _ hH hS (lv_sub hl [0, 1, 2, 3, 4] rfl)
      · have hF := hF.2 c3
        exact zd_vret C hr hlk hH hS (⟨rfl, rfl, hF⟩) dX3_extend_57
  have hF := hF.2
  refine lv_iload_n C.1 C.2.1 dX3_extend_0 rfl (lv_at hl 3 rfl) ?_
  refine lv_aload_n C.1 C.2.1 dX3_extend_1 rfl (lv_at hl 0 rfl) ?_
  refine zg3_5 C hH (zF_n hC) (zF_k hC) q_552 dX3_extend_2 ?_
  refine zd_icmp_gt C hg (hH.2.2.1 _ _) 24 dX3_extend_5 (by decide) (fun c33 => ?_) (fun c33 => ?_)
  · have hF := hF.1 c33
    refine lv_aload_n C.1 C.2.1 dX3_extend_24 rfl (lv_at hl 0 rfl) ?_
    refine lv_iload_n C.1 C.2.1 dX3_extend_25 rfl (lv_at hl 3 rfl) ?_
    refine zp3_5 C hH hS (zF_n hC) (zF_k hC) q_552 hg dX3_extend_26 (fun H locs hH hS => ?_)
    obtain ⟨X34, eX34⟩ : ∃ z, z = zU X (i) 5 (g) := ⟨_, rfl⟩
    rw [← eX34] at hH
    have hF := hF X34 eX34 hH.2.2.1
    refine lv_aload_n C.1 C.2.1 dX3_extend_29 rfl (lv_at hl 0 rfl) ?_
    refine lv_iload_n C.1 C.2.1 dX3_extend_30 rfl (lv_at hl 1 rfl) ?_
    refine zp3_4 C hH hS (zF_n hC) (zF_k hC) q_550 ha dX3_extend_31 (fun H locs hH hS => ?_)
    obtain ⟨X35, eX35⟩ : ∃ z, z = zU X34 (i) 4 (a) := ⟨_, rfl⟩
    rw [← eX35] at hH
    have hF := hF X35 eX35 hH.2.2.1
    refine lv_aload_n C.1 C.2.1 dX3_extend_34 rfl (lv_at hl 0 rfl) ?_
    refine zg3_2 C hH (zF_n hC) (zF_k hC) q_547 (zF_r hC).2.2 dX3_extend_35 ?_
    refine zd_iconst C dX3_extend_38 ?_
    refine lv_aload_n C.1 C.2.1 dX3_extend_39 rfl (lv_at hl 0 rfl) ?_
    refine zg3_3 C hH (zF_n hC) (zF_k hC) q_548 (zF_b hC).2.2 dX3_extend_40 ?_
    refine zd_iconst C dX3_extend_43 ?_
    refine zd_iconst C dX3_extend_44 ?_
    obtain ⟨o36, hF⟩ := hF
    refine zd_copyi C hl.1 hH hS (zF_n5 hC) (zF_n4 hC) (zF_b hC).1 (zF_r hC).1 q_1213 q_793 q_792 q_146 o36.1.1 o36.1.2.1 o36.1.2.2 (by rw [(zF_r hC).2.1]; exact o36.2.1) (by rw [(zF_b hC).2.1]; exact o36.2.2) (by rw [(zF_b hC).2.1]; decide) (by rw [(zF_r hC).2.1]; decide) (Nat.le_of_ble_eq_true rfl) (Nat.le_of_ble_eq_true rfl) dX3_extend_45 (fun H locs hH hS => ?_)
    obtain ⟨X37, eX37⟩ : ∃ z, z = zCp X35 (i + 4) (i + 5) 0 0 3 := ⟨_, rfl⟩
    rw [← eX37] at hH
    have hF := hF X37 eX37 hH.2.2.1
    exact J1 X37  hF _ _ _ hH hS (lv_sub hl [0, 1, 2, 3] rfl)
  · have hF := hF.2 c33
    refine lv_iload_n C.1 C.2.1 dX3_extend_8 rfl (lv_at hl 3 rfl) ?_
    refine lv_aload_n C.1 C.2.1 dX3_extend_9 rfl (lv_at hl 0 rfl) ?_
    refine zg3_5 C hH (zF_n hC) (zF_k hC) q_552 dX3_extend_10 ?_
    refine zd_icmp_ne C hg (hH.2.2.1 _ _) 48 dX3_extend_13 (by decide) (fun c38 => ?_) (fun c38 => ?_)
    · have hF := hF.1 c38
      exact J1 X  hF _ _ _ hH hS (lv_sub hl [0, 1, 2, 3] rfl)
    · have hF := hF.2 c38
      refine lv_iload_n C.1 C.2.1 dX3_extend_16 rfl (lv_at hl 1 rfl) ?_
      refine lv_aload_n C.1 C.2.1 dX3_extend_17 rfl (lv_at hl 0 rfl) ?_
      refine zg3_4 C hH (zF_n hC) (zF_k hC) q_550 dX3_extend_18 ?_
      refine zd_icmp_ge C ha (hH.2.2.1 _ _) 48 dX3_extend_21 (by decide) (fun c39 => ?_) (fun c39 => ?_)
      · have hF := hF.1 c39
        exact J1 X  hF _ _ _ hH hS (lv_sub hl [0, 1, 2, 3] rfl)
      · have hF := hF.2 c39
        refine lv_aload_n C.1 C.2.1 dX3_extend_24 rfl (lv_at hl 0 rfl) ?_
        refine lv_iload_n C.1 C.2.1 dX3_extend_25 rfl (lv_at hl 3 rfl) ?_
        refine zp3_5 C hH hS (zF_n hC) (zF_k hC) q_552 hg dX3_extend_26 (fun H locs hH hS => ?_)
        obtain ⟨X40, eX40⟩ : ∃ z, z = zU X (i) 5 (g) := ⟨_, rfl⟩
        rw [← eX40] at hH
        have hF := hF X40 eX40 hH.2.2.1
        refine lv_aload_n C.1 C.2.1 dX3_extend_29 rfl (lv_at hl 0 rfl) ?_
        refine lv_iload_n C.1 C.2.1 dX3_extend_30 rfl (lv_at hl 1 rfl) ?_
        refine zp3_4 C hH hS (zF_n hC) (zF_k hC) q_550 ha dX3_extend_31 (fun H locs hH hS => ?_)
        obtain ⟨X41, eX41⟩ : ∃ z, z = zU X40 (i) 4 (a) := ⟨_, rfl⟩
        rw [← eX41] at hH
        have hF := hF X41 eX41 hH.2.2.1
        refine lv_aload_n C.1 C.2.1 dX3_extend_34 rfl (lv_at hl 0 rfl) ?_
        refine zg3_2 C hH (zF_n hC) (zF_k hC) q_547 (zF_r hC).2.2 dX3_extend_35 ?_
        refine zd_iconst C dX3_extend_38 ?_
        refine lv_aload_n C.1 C.2.1 dX3_extend_39 rfl (lv_at hl 0 rfl) ?_
        refine zg3_3 C hH (zF_n hC) (zF_k hC) q_548 (zF_b hC).2.2 dX3_extend_40 ?_
        refine zd_iconst C dX3_extend_43 ?_
        refine zd_iconst C dX3_extend_44 ?_
        obtain ⟨o42, hF⟩ := hF
        refine zd_copyi C hl.1 hH hS (zF_n5 hC) (zF_n4 hC) (zF_b hC).1 (zF_r hC).1 q_1213 q_793 q_792 q_146 o42.1.1 o42.1.2.1 o42.1.2.2 (by rw [(zF_r hC).2.1]; exact o42.2.1) (by rw [(zF_b hC).2.1]; exact o42.2.2) (by rw [(zF_b hC).2.1]; decide) (by rw [(zF_r hC).2.1]; decide) (Nat.le_of_ble_eq_true rfl) (Nat.le_of_ble_eq_true rfl) dX3_extend_45 (fun H locs hH hS => ?_)
        obtain ⟨X43, eX43⟩ : ∃ z, z = zCp X41 (i + 4) (i + 5) 0 0 3 := ⟨_, rfl⟩
        rw [← eX43] at hH
        have hF := hF X43 eX43 hH.2.2.1
        exact J1 X43  hF _ _ _ hH hS (lv_sub hl [0, 1, 2, 3] rfl)
theorem v_X3_extend0 {X Y : Nat → Int → Int} {R : Nat → Int → Option Nat} {i : Nat} (a : Int) (ha : rI a) (b : Int) (hb : rI b) (g : Int) (hg : rI g) (hp : a = 0 ∧ flI X R i ∧ (0 ≤ g ∧ g ≤ 27) ∧ ∃ p M t0 m0, flP 0 p (b) (g) M X R i ∧ bsT X X R i t0 m0 ∧ lexB 0 p t0 m0) : F_X3_extend0 i X Y R a b g := by
  unfold F_X3_extend0
  intro hX hY
  obtain ⟨rfl, gI, g27, hx⟩ := hp
  obtain ⟨pl1, pl2, pl3, pl4⟩ := gI.1
  have tn1 : ((0 : Int) + 1).toNat = 0 + 1 := rfl
  have tn0 : ((0 : Int)).toNat = 0 := rfl
  refine ⟨?_, ?_⟩
  · intro X1
    intro rX1
    intro h1
    obtain ⟨f1, v1⟩ := h1
    refine ⟨?_, ?_⟩
    · intro c1
      exact absurd c1 (by decide)
    intro c2
    refine ⟨?_, ?_⟩
    · intro c3
      refine ⟨?_, ?_⟩
      · exact ⟨⟨by omega, by have := pl1.2.1; omega⟩, f1, v1⟩
      intro k X5
      intro _
      intro rX5
      intro h2
      obtain ⟨⟨k1, k2⟩, f2, v2⟩ := h2
      obtain ⟨kn, rfl⟩ := nat_of k1
      have ekn : ((kn : Nat) : Int).toNat = kn := by omega
      have es : ((kn : Int) + 1).toNat = kn + 1 := by omega
      rw [ekn] at v2
      have cn : X5 (pl9 R i) = X (pl9 R i) := f2.1 _ (by omega) (by omega) (by omega) (by omega)
      have cn1 : X5 (pl9 R i + 1) = X (pl9 R i + 1) := f2.1 _ (by omega) (by omega) (by omega) (by omega)
      rw [tn1, tn0, cn, cn1]
      refine ⟨?_, ?_⟩
      · intro c4
        exact ⟨f2, fun p M t0 m0 q b lx => fl_all q (v2 p M t0 m0 q b lx) (by omega) (by have := pl1.2.1; omega)⟩
      intro c5
      have kl : (kn : Int) < X (pl9 R i) 2 := by omega
      have k6 : kn < 6 := by have := pl1.2.1; omega
      have ar := gI.2.1 kn kl
      refine ⟨?_, ?_⟩
      · intro c6
        have hu : mHas b kn = false := has_0.mpr c6
        refine ⟨?_, ?_⟩
        · unfold oRw
          rw [cn]
          exact ⟨pl1, ⟨by omega, by omega⟩, by decide, by omega⟩
        intro _
        refine ⟨?_, ?_⟩
        · decide
        refine ⟨?_, ?_⟩
        · decide
        refine ⟨?_, ?_⟩
        · omega
        intro X13
        intro rX13
        intro h3
        obtain ⟨p, M, t0, m0, q, b0, lx⟩ := hx
        have P := fl_pay (k := kn) (kk := kn) (an := 0) (T := X) gI q f2 (by decide) rfl rfl kl hu h3
        have cv : X13 (pl9 R i) = X (pl9 R i) := P.1.1 _ (by omega) (by omega) (by omega) (by omega)
        have cv1 : X13 (pl9 R i + 1) = X (pl9 R i + 1) := P.1.1 _ (by omega) (by omega) (by omega) (by omega)
        rw [cv, cv1]
        refine ⟨?_, ?_⟩
        · unfold oRw
          rw [cv]
          exact ⟨pl1, ⟨by omega, by omega⟩, by decide, by omega⟩
        intro _
        refine ⟨?_, ?_⟩
        · unfold oRw
          rw [cv]
          exact ⟨pl1, ⟨by omega, by omega⟩, by decide, by omega⟩
        intro _
        refine ⟨?_, ?_⟩
        · unfold oRw
          rw [cv]
          exact ⟨pl1, ⟨by omega, by omega⟩, by decide, by omega⟩
        intro _
        refine ⟨?_, ?_⟩
        · exact ⟨ar.1, ar.2, P.2.2.1⟩
        intro r22
        intro X21
        intro rX21
        intro h4
        obtain ⟨hr, h4f, h4t⟩ := h4
        refine ⟨?_, ?_⟩
        · intro c7
          refine ⟨?_, ?_⟩
          · decide
          intro X25
          intro eX25
          rw [h4t c7] at eX25
          have A : ∀ p M, flP 0 p b g M X R i → flF 0 X X25 i ∧ (X25 i = X5 i ∧ X25 (i + 5) = X5 (i + 5)) ∧ ∃ M', flP (0 + 1) (6 * p + kn) (zOr b (zShl 1 kn)) (g + plC X (pl9 R i) 3 kn) M' X25 R i := fun p M q => (fl_pay (k := kn) (kk := kn) (an := 0) (T := X) gI q f2 (by decide) rfl rfl kl hu h3).2.2.2.2 (hr.symm.trans c7) X25 eX25
          have A1 := (A p M q).1
          have I25 := fl_I A1 gI
          have t2 := (fl_fu A1 pl4).2.1
          intro rX25
          refine ⟨?_, ?_⟩
          · exact ⟨by omega, by omega⟩
          refine ⟨?_, ?_⟩
          · have a9 : X (pl9 R i + 1) (kn * X (pl9 R i) 0 + 3) ≤ 9 := ar.2.2
            have a0 : 0 ≤ X (pl9 R i + 1) (kn * X (pl9 R i) 0 + 3) := ar.2.1
            exact ⟨by omega, by omega⟩
          refine ⟨?_, ?_⟩
          · obtain ⟨-, ⟨a1, a2⟩, M', q'⟩ := A p M q
            obtain ⟨t, m, bt, l9, w⟩ := v2 p M t0 m0 q b0 lx
            have f9 := q'.2.2.2.2.2
            exact ⟨rfl, I25, ⟨f9.1, Int.le_trans f9.2 (by decide)⟩, 6 * p + kn, M', t, m, q', fl_bs A1 gI a1 a2 bt, fl_lex l9⟩
          intro X29
          intro rX29
          intro h5
          obtain ⟨f5, v5⟩ := h5
          refine ⟨?_, ?_⟩
          · first | omega | exact ⟨by omega, by omega⟩ | decide | assumption | exact ⟨by omega, by omega, by omega⟩ | exact ⟨by decide, by decide⟩
          refine ⟨?_, ?_⟩
          · rw [es]
            refine ⟨⟨by omega, by omega⟩, A1.tr f5.up, fun p M t0 m0 q b lx => ?_⟩
            obtain ⟨-, ⟨a1, a2⟩, M', q'⟩ := A p M q
            exact fl_step (v2 p M t0 m0 q b lx) t2 (by decide) (fun t m bt lx2 => v5 (6 * p + kn) M' t m q' (fl_bs A1 gI a1 a2 bt) lx2)
          first | omega | exact ⟨by omega, by omega⟩ | decide | assumption | exact ⟨by omega, by omega, by omega⟩ | exact ⟨by decide, by decide⟩
        intro c8
        refine ⟨?_, ?_⟩
        · first | omega | exact ⟨by omega, by omega⟩ | decide | assumption | exact ⟨by omega, by omega, by omega⟩ | exact ⟨by decide, by decide⟩
        refine ⟨?_, ?_⟩
        · rw [es, h4f c8]
          refine ⟨⟨by omega, by omega⟩, P.1, fun p M t0 m0 q b lx => ?_⟩
          have P2 := fl_pay (k := kn) (kk := kn) (an := 0) (T := X) gI q f2 (by decide) rfl rfl kl hu h3
          obtain ⟨t, m, bt, w⟩ := fl_skip (v2 p M t0 m0 q b lx) (P2.2.2.2.1 (hr.symm.trans c8))
          refine ⟨t, m, ?_, w⟩
          unfold bsT at bt ⊢
          rw [P2.2.1.1, P2.2.1.2]
          exact bt
        first | omega | exact ⟨by omega, by omega⟩ | decide | assumption | exact ⟨by omega, by omega, by omega⟩ | exact ⟨by decide, by decide⟩
      intro c9
      refine ⟨?_, ?_⟩
      · first | omega | exact ⟨by omega, by omega⟩ | decide | assumption | exact ⟨by omega, by omega, by omega⟩ | exact ⟨by decide, by decide⟩
      refine ⟨?_, ?_⟩
      · rw [es]
        refine ⟨⟨by omega, by omega⟩, f2, fun p M t0 m0 q b lx => fl_skip (v2 p M t0 m0 q b lx) ?_⟩
        have e : fuX X R i (dg6 (0 + 1) (6 * p + kn)) 0 = some (_, _, M) := (fsU_row 0 (fun j hj => (dg6_c k6).1 j hj)).trans q.2.1
        have st := fsU_s e
        rw [(dg6_c (n := 0) (p := p) k6).2, has_1.mpr c9, Bool.not_true, Bool.and_false, Bool.false_and] at st
        exact st.trans (if_neg (by decide))
      first | omega | exact ⟨by omega, by omega⟩ | decide | assumption | exact ⟨by omega, by omega, by omega⟩ | exact ⟨by decide, by decide⟩
    intro c10
    exact absurd c10 (by decide)
  refine ⟨?_, ?_⟩
  · intro c11
    intro X34
    intro eX34
    intro rX34
    intro X35
    intro eX35
    intro rX35
    refine ⟨?_, ?_⟩
    · decide
    intro X37
    intro eX37
    intro rX37
    refine ⟨⟨fun z z1 z2 z3 z4 => by rw [eX37, zCp_o z3, eX35, zU_o z1, eX34, zU_o z1], fun s s4 s5 => by rw [eX37, zCp_o (by omega), eX35, zU_n (by omega), eX34, zU_n (by omega)], fun j _ => by rw [eX37, zCp_o (by omega), eX35, zU_o (by omega), eX34, zU_o (by omega)]⟩, fun p M t0 m0 q b lx => fl_new q (by decide) b (Or.inl c11) ?_ ?_ ?_⟩
    · rw [eX37, zCp_o (by omega), eX35, zU_s]
      rfl
    · rw [eX37, zCp_o (by omega), eX35, zU_n (by omega), eX34, zU_s]
    · intro j hj
      rw [eX37]
      unfold zCp
      rw [if_pos ⟨rfl, by omega, by omega⟩, eX35, zU_o (by omega), eX34, zU_o (by omega), show (0 : Int) + ((j : Int) - 0) = j by omega]
  intro c12
  refine ⟨?_, ?_⟩
  · intro c13
    exact ⟨flF.rf, fun p M t0 m0 q b lx => fl_old q b lx (by omega)⟩
  intro c14
  refine ⟨?_, ?_⟩
  · intro c15
    exact ⟨flF.rf, fun p M t0 m0 q b lx => fl_old q b lx (by omega)⟩
  intro c16
  intro X40
  intro eX40
  intro rX40
  intro X41
  intro eX41
  intro rX41
  refine ⟨?_, ?_⟩
  · decide
  intro X43
  intro eX43
  intro rX43
  refine ⟨⟨fun z z1 z2 z3 z4 => by rw [eX43, zCp_o z3, eX41, zU_o z1, eX40, zU_o z1], fun s s4 s5 => by rw [eX43, zCp_o (by omega), eX41, zU_n (by omega), eX40, zU_n (by omega)], fun j _ => by rw [eX43, zCp_o (by omega), eX41, zU_o (by omega), eX40, zU_o (by omega)]⟩, fun p M t0 m0 q b lx => fl_new q (by decide) b (Or.inr ⟨by omega, by omega⟩) ?_ ?_ ?_⟩
  · rw [eX43, zCp_o (by omega), eX41, zU_s]
    rfl
  · rw [eX43, zCp_o (by omega), eX41, zU_n (by omega), eX40, zU_s]
  · intro j hj
    rw [eX43]
    unfold zCp
    rw [if_pos ⟨rfl, by omega, by omega⟩, eX41, zU_o (by omega), eX40, zU_o (by omega), show (0 : Int) + ((j : Int) - 0) = j by omega]
theorem c_X3_extend0 {l : Launch} {D : va_G} {cy : Nat → ClassId} {bs N : Nat} {sa : Nat → Nat} {kd len : Nat → Nat} {X Y : Nat → Int → Int} {R : Nat → Int → Option Nat} {i : Nat} (hC : zFill N kd len R i) (a : Int) (ha : rI a) (b : Int) (hb : rI b) (g : Int) (hg : rI g) (hp : a = 0 ∧ flI X R i ∧ (0 ≤ g ∧ g ≤ 27) ∧ ∃ p M t0 m0, flP 0 p (b) (g) M X R i ∧ bsT X X R i t0 m0 ∧ lexB 0 p t0 m0) : Met l yX3_extend (.code yX3_extend cX3_extend 7 none :: zTB) (zRm 5 159) (zPc D cy bs sa N kd len X Y R [.ref (bs + (i)), .int (zI (a)), .int (zI (b)), .int (zI (g))]) (zQv D cy bs N kd len (fun st => st.2.1 = Y ∧ st.2.2 = R ∧ (flF 0 X (st.1) i ∧ flN X R i 0 (b) (g) (fun p t0 m0 => flQ X (st.1) R i 0 p t0 m0)))) 0 0 (zA bs) := w_X3_extend0 hC a ha b hb g hg (v_X3_extend0 a ha b hb g hg hp)
abbrev cX3_search : ByteArray := prog_5_method_2_code
def yX3_search : MethodName := ⟨RX3, "search", "(LWorkChains$Rows;LWorkChains$Ledger;)V"⟩
theorem dX3_search_0 : decode cX3_search 0 = .ok (.aload_n 0, 1) := by decide +kernel
theorem dX3_search_1 : decode cX3_search 1 = .ok (.aload_n 1, 1) := by decide +kernel
theorem dX3_search_2 : decode cX3_search 2 = .ok (.putfield 14, 3) := by decide +kernel
theorem dX3_search_5 : decode cX3_search 5 = .ok (.aload_n 0, 1) := by decide +kernel
theorem dX3_search_6 : decode cX3_search 6 = .ok (.getfield 22, 3) := by decide +kernel
theorem dX3_search_9 : decode cX3_search 9 = .ok (.iconst 0, 1) := by decide +kernel
theorem dX3_search_10 : decode cX3_search 10 = .ok (.aaload, 1) := by decide +kernel
theorem dX3_search_11 : decode cX3_search 11 = .ok (.aload_n 2, 1) := by decide +kernel
theorem dX3_search_12 : decode cX3_search 12 = .ok (.invokevirtual 34, 3) := by decide +kernel
theorem dX3_search_15 : decode cX3_search 15 = .ok (.aload_n 0, 1) := by decide +kernel
theorem dX3_search_16 : decode cX3_search 16 = .ok (.iconst 0, 1) := by decide +kernel
theorem dX3_search_17 : decode cX3_search 17 = .ok (.putfield 38, 3) := by decide +kernel
theorem dX3_search_20 : decode cX3_search 20 = .ok (.aload_n 0, 1) := by decide +kernel
theorem dX3_search_21 : decode cX3_search 21 = .ok (.iconst 0, 1) := by decide +kernel
theorem dX3_search_22 : decode cX3_search 22 = .ok (.putfield 42, 3) := by decide +kernel
theorem dX3_search_25 : decode cX3_search 25 = .ok (.aload_n 0, 1) := by decide +kernel
theorem dX3_search_26 : decode cX3_search 26 = .ok (.iconst 0, 1) := by decide +kernel
theorem dX3_search_27 : decode cX3_search 27 = .ok (.iconst 0, 1) := by decide +kernel
theorem dX3_search_28 : decode cX3_search 28 = .ok (.iconst 0, 1) := by decide +kernel
theorem dX3_search_29 : decode cX3_search 29 = .ok (.invokevirtual 45, 3) := by decide +kernel
theorem dX3_search_32 : decode cX3_search 32 = .ok (.return_, 1) := by decide +kernel
def F_X3_search (i j nn y9 : Nat) (X Y : Nat → Int → Int) (R : Nat → Int → Option Nat)  : Prop := (∀ i j, rI (X i j)) → (∀ i j, rL (Y i j)) → ∀ R1 : Nat → Int → Option Nat, R1 = zU R (i) 0 (some (j)) → ((y9 ≠ (i + 6)) ∧ (∀ X3 : Nat → Int → Int, (∀ i j, rI (X3 i j)) → ((X3) = zCp (zU X (i + 6) 0 (X y9 0)) (y9 + 1) (i + 7) 0 0 6) → (∀ X4 : Nat → Int → Int, X4 = zU X3 (i) 4 (0) → (∀ i j, rI (X4 i j)) → (∀ X5 : Nat → Int → Int, X5 = zU X4 (i) 5 (0) → (∀ i j, rI (X5 i j)) → ((((0 : Int)) = 0 ∧ flI X5 R1 i ∧ (0 ≤ ((0 : Int)) ∧ ((0 : Int)) ≤ 27) ∧ ∃ p M t0 m0, flP 0 p ((0 : Int)) ((0 : Int)) M X5 R1 i ∧ bsT X5 X5 R1 i t0 m0 ∧ lexB 0 p t0 m0) ∧ (∀ X7 : Nat → Int → Int, (∀ i j, rI (X7 i j)) → (flF 0 X5 (X7) i ∧ flN X5 R1 i 0 ((0 : Int)) ((0 : Int)) (fun p t0 m0 => flQ X5 (X7) R1 i 0 p t0 m0)) → (((R1) = zU R i 0 (some j)) ∧ (∀ z, z < i ∨ i + 13 < z → (X7) z = X z) ∧ (X7) (i + 6) 0 = X y9 0 ∧ (∀ y : Int, 0 ≤ y → y < 6 → (X7) (i + 7) y = X (y9 + 1) y) ∧ ∃ t m, bsT (X7) (X7) (R1) i t m ∧ dmF (fvX (X7) (R1) i) t m 0 0)))))))
set_option maxHeartbeats 4000000 in
set_option maxRecDepth 100000 in
theorem w_X3_search {l : Launch} {D : va_G} {cy : Nat → ClassId} {bs N : Nat} {sa : Nat → Nat} {kd len : Nat → Nat} {X Y : Nat → Int → Int} {R : Nat → Int → Option Nat} {i j nn y9 : Nat} (hC : zFill N kd len R i) (hR : zRows N kd len R j nn) (hsm : len (j + 1) < 2147483648) (h24 : nn = 24) (hL : zLedger N kd len R y9)  (hF : F_X3_search i j nn y9 X Y R ) : Met l yX3_search (.code yX3_search cX3_search 3 none :: zTB) (zRm 6 185) (zPc D cy bs sa N kd len X Y R [.ref (bs + (i)), .ref (bs + (j)), .ref (bs + (y9))]) (zQv D cy bs N kd len (fun st => st.2.1 = Y ∧ (((st.2.2) = zU R i 0 (some j)) ∧ (∀ z, z < i ∨ i + 13 < z → (st.1) z = X z) ∧ (st.1) (i + 6) 0 = X y9 0 ∧ (∀ y : Int, 0 ≤ y → y < 6 → (st.1) (i + 7) y = X (y9 + 1) y) ∧ ∃ t m, bsT (st.1) (st.1) (st.2.2) i t m ∧ dmF (fvX (st.1) (st.2.2) i) t m 0 0))) 0 0 (zA bs) := by
  refine zstart (by decide) (Nat.le_of_ble_eq_true rfl) ?_
  intro p e s m args below meth c ls C hE hH hr hlk hnm hl hargs
  have hF := hF hH.2.2.1 hH.2.2.2
  have hS : va_S (zA bs) s.heap s.heap [] := va_S.rf
  have hl : lv_has ls 3 [(0, .ref (bs + (i))), (1, .ref (bs + (j))), (2, .ref (bs + (y9)))] := hl
  refine lv_aload_n C.1 C.2.1 dX3_search_0 rfl (lv_at hl 0 rfl) ?_
  refine lv_aload_n C.1 C.2.1 dX3_search_1 rfl (lv_at hl 1 rfl) ?_
  refine zp3_0 C hH hS (zF_n hC) (zF_k hC) q_545 dX3_search_2 (fun H locs hH hS => ?_)
  obtain ⟨R1, eR1⟩ : ∃ z, z = zU R (i) 0 (some (j)) := ⟨_, rfl⟩
  rw [← eR1] at hH
  have hF := hF R1 eR1
  have hL := zLedger_U hL (show R1 y9 = R y9 by rw [eR1, zU_o (fun g => by have := hL.2.1; rw [g, zF_k hC] at this; exact absurd this (by decide))])
  have hR9 := hR
  have hR := zRows_U hR (show R1 j = R j by rw [eR1, zU_o (fun g => by have := zRows_k0 hR; rw [g, zF_k hC] at this; exact absurd this (by decide))])
  have hC := (zF_put hC eR1 (by rw [← h24]; exact hR9)).1
  refine lv_aload_n C.1 C.2.1 dX3_search_5 rfl (lv_at hl 0 rfl) ?_
  refine zg3_1 C hH (zF_n hC) (zF_k hC) q_546 (zF_l hC).2.2 dX3_search_6 ?_
  refine zd_iconst C dX3_search_9 ?_
  refine zd_aaldr C hH (zF_n3 hC) 5 rfl rfl (by rw [(zF_l hC).1]; rfl) (by decide) (by rw [(zF_l hC).2.1]; decide) (by rw [(zF_l hC).2.1]; decide) (zF_lg hC (by decide) (by decide)).1 dX3_search_10 ?_
  refine lv_aload_n C.1 C.2.1 dX3_search_11 rfl (lv_at hl 2 rfl) ?_
  obtain ⟨o2, hF⟩ := hF
  refine zgov (zrunV (As := [.ref (bs + (y9))]) (rest := []) C hE hH hS hl.1 (c_X5_copy (l := l) (zF_lg hC (by decide) (by decide)).2 hL  o2) k_RX3_34 ⟨Nat.le_of_ble_eq_true rfl, Nat.le_of_ble_eq_true rfl⟩ (zLedger_n0 (zF_lg hC (by decide) (by decide)).2) (zLedger_k0 (zF_lg hC (by decide) (by decide)).2) rfl rfl rfl (Nat.le_of_ble_eq_true rfl) dX3_search_12 ⟨Nat.zero_le _, Nat.zero_le _⟩) hS (fun X3 Yq Rq H locs hq hH hS => ?_)
  obtain ⟨h9Y, h9R, hq⟩ := hq
  dsimp only at h9Y h9R
  rw [h9Y, h9R] at hH
  have hF := hF X3 hH.2.2.1 hq
  refine lv_aload_n C.1 C.2.1 dX3_search_15 rfl (lv_at hl 0 rfl) ?_
  refine zd_iconst C dX3_search_16 ?_
  refine zp3_4 C hH hS (zF_n hC) (zF_k hC) q_550 (by decide) dX3_search_17 (fun H locs hH hS => ?_)
  obtain ⟨X4, eX4⟩ : ∃ z, z = zU X3 (i) 4 (0) := ⟨_, rfl⟩
  rw [← eX4] at hH
  have hF := hF X4 eX4 hH.2.2.1
  refine lv_aload_n C.1 C.2.1 dX3_search_20 rfl (lv_at hl 0 rfl) ?_
  refine zd_iconst C dX3_search_21 ?_
  refine zp3_5 C hH hS (zF_n hC) (zF_k hC) q_552 (by decide) dX3_search_22 (fun H locs hH hS => ?_)
  obtain ⟨X5, eX5⟩ : ∃ z, z = zU X4 (i) 5 (0) := ⟨_, rfl⟩
  rw [← eX5] at hH
  have hF := hF X5 eX5 hH.2.2.1
  refine lv_aload_n C.1 C.2.1 dX3_search_25 rfl (lv_at hl 0 rfl) ?_
  refine zd_iconst C dX3_search_26 ?_
  refine zd_iconst C dX3_search_27 ?_
  refine zd_iconst C dX3_search_28 ?_
  obtain ⟨o6, hF⟩ := hF
  refine zgov (zrunV (As := [.int (zI (0)), .int (zI (0)), .int (zI (0))]) (rest := []) C hE hH hS hl.1 (c_X3_extend0 (l := l) hC (0) (by decide) (0) (by decide) (0) (by decide) o6) k_RX3_45 ⟨Nat.le_of_ble_eq_true rfl, Nat.le_of_ble_eq_true rfl⟩ (zF_n hC) (zF_k hC) rfl rfl rfl (Nat.le_of_ble_eq_true rfl) dX3_search_29 ⟨Nat.zero_le _, Nat.zero_le _⟩) hS (fun X7 Yq Rq H locs hq hH hS => ?_)
  obtain ⟨h9Y, h9R, hq⟩ := hq
  dsimp only at h9Y h9R
  rw [h9Y, h9R] at hH
  have hF := hF X7 hH.2.2.1 hq
  exact zd_vret C hr hlk hH hS (⟨rfl, hF⟩) dX3_search_32
theorem v_X3_search {X Y : Nat → Int → Int} {R : Nat → Int → Option Nat} {i j nn y9 : Nat}  (hp : (oRw X j 24 ∧ X j 0 = 4 ∧ X j 1 = 6 ∧ j + 1 < i) ∧ (∀ k : Nat, (k : Int) < X j 2 → (0 ≤ plC X j 2 k ∧ plC X j 2 k ≤ 99) ∧ 0 ≤ plC X j 3 k ∧ plC X j 3 k ≤ 9) ∧ y9 + 1 < i ∧ X y9 0 ≤ 6 ∧ ∀ y : Int, 0 ≤ y → y < 6 → 0 ≤ X (y9 + 1) y ∧ X (y9 + 1) y ≤ 100000) : F_X3_search i j nn y9 X Y R  := by
  unfold F_X3_search
  intro hX hY
  obtain ⟨⟨r1, r2, r3, r4⟩, am, yl, y0, yb⟩ := hp
  have tz : ((0 : Int)).toNat = 0 := rfl
  intro R1
  intro eR1
  have p9 : pl9 R1 i = j := by
    unfold pl9
    rw [eR1, zU_s]
    rfl
  refine ⟨?_, ?_⟩
  · try rw [tz]
    omega
  intro X3
  intro rX3
  intro h1
  try rw [tz] at h1
  intro X4
  intro eX4
  intro rX4
  intro X5
  intro eX5
  have o5 : ∀ z, z ≠ i → z ≠ i + 6 → z ≠ i + 7 → X5 z = X z := fun z z1 z2 z3 => by rw [eX5, zU_o z1, eX4, zU_o z1, h1, zCp_o (by omega), zU_o (by omega)]
  have e6 : X5 (i + 6) 0 = X y9 0 := by
    rw [eX5, zU_o (by omega), eX4, zU_o (by omega), h1, zCp_o (by omega)]
    exact zU_s
  have e7 : ∀ y : Int, 0 ≤ y → y < 6 → X5 (i + 7) y = X (y9 + 1) y := fun y y1 y2 => by
    rw [eX5, zU_o (by omega), eX4, zU_o (by omega), h1]
    unfold zCp
    rw [if_pos ⟨rfl, y1, by omega⟩, zU_o (by omega), show (0 : Int) + (y - 0) = y by omega]
  have ej : X5 j = X j := o5 j (by omega) (by omega) (by omega)
  have ej1 : X5 (j + 1) = X (j + 1) := o5 (j + 1) (by omega) (by omega) (by omega)
  have I5 : flI X5 R1 i := by
    unfold flI oRw plC at *
    rw [p9, ej, ej1, e6]
    exact ⟨⟨r1, r2, r3, r4⟩, am, y0, fun y y1 y2 => by rw [e7 y y1 y2]; exact yb y y1 y2⟩
  have P5 : flP 0 0 0 0 (X5 (i + 7)) X5 R1 i := ⟨by decide, rfl, rfl, fun y y1 y2 => ⟨rfl, by have := yb y y1 y2; rw [e7 y y1 y2]; exact ⟨this.1, by omega⟩⟩, fun j hj => absurd hj (Nat.not_lt_zero _), by decide, by decide⟩
  have B5 : bsT X5 X5 R1 i 0 0 := ⟨⟨by decide, by decide⟩, by rw [eX5, zU_n (by omega), eX4, zU_s]; rfl, by rw [eX5, zU_s]; rfl, Int.le_refl _, fun j hj => absurd hj (Nat.not_lt_zero _)⟩
  have L5 : lexB 0 0 0 0 := ⟨fun z => absurd z (Nat.lt_irrefl _), fun _ => Nat.le_refl _⟩
  intro rX5
  refine ⟨?_, ?_⟩
  · exact ⟨rfl, I5, by decide, 0, _, 0, 0, P5, B5, L5⟩
  intro X7
  intro rX7
  intro h2
  obtain ⟨f7, n7⟩ := h2
  obtain ⟨t, m, b, -, -, dm, -⟩ := n7 0 _ 0 0 P5 B5 L5
  have ff := fl_fu f7 I5.1.2.2.2
  refine ⟨eR1, fun z hz => (f7.1 z (by omega) (by omega) (by omega) (by omega)).trans (o5 z (by omega) (by omega) (by omega)), by rw [ff.2.2.1]; exact e6, fun y y1 y2 => by rw [ff.2.2.2.1]; exact e7 y y1 y2, t, m, ?_, ?_⟩
  · unfold bsT at *
    rw [ff.2.1]
    exact b
  · rw [ff.2.1]
    exact dm
theorem c_X3_search {l : Launch} {D : va_G} {cy : Nat → ClassId} {bs N : Nat} {sa : Nat → Nat} {kd len : Nat → Nat} {X Y : Nat → Int → Int} {R : Nat → Int → Option Nat} {i j nn y9 : Nat} (hC : zFill N kd len R i) (hR : zRows N kd len R j nn) (hsm : len (j + 1) < 2147483648) (h24 : nn = 24) (hL : zLedger N kd len R y9)  (hp : (oRw X j 24 ∧ X j 0 = 4 ∧ X j 1 = 6 ∧ j + 1 < i) ∧ (∀ k : Nat, (k : Int) < X j 2 → (0 ≤ plC X j 2 k ∧ plC X j 2 k ≤ 99) ∧ 0 ≤ plC X j 3 k ∧ plC X j 3 k ≤ 9) ∧ y9 + 1 < i ∧ X y9 0 ≤ 6 ∧ ∀ y : Int, 0 ≤ y → y < 6 → 0 ≤ X (y9 + 1) y ∧ X (y9 + 1) y ≤ 100000) : Met l yX3_search (.code yX3_search cX3_search 3 none :: zTB) (zRm 6 185) (zPc D cy bs sa N kd len X Y R [.ref (bs + (i)), .ref (bs + (j)), .ref (bs + (y9))]) (zQv D cy bs N kd len (fun st => st.2.1 = Y ∧ (((st.2.2) = zU R i 0 (some j)) ∧ (∀ z, z < i ∨ i + 13 < z → (st.1) z = X z) ∧ (st.1) (i + 6) 0 = X y9 0 ∧ (∀ y : Int, 0 ≤ y → y < 6 → (st.1) (i + 7) y = X (y9 + 1) y) ∧ ∃ t m, bsT (st.1) (st.1) (st.2.2) i t m ∧ dmF (fvX (st.1) (st.2.2) i) t m 0 0))) 0 0 (zA bs) := w_X3_search hC hR hsm h24 hL  (v_X3_search  hp)
