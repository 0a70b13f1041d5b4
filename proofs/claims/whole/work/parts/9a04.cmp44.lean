/-! FITS AND ODDS -/
theorem cN_x {Z : Nat → Int → Int} {q : Nat} : ∀ x : Nat, x ≤ 36 → cN (lwF Z q) (phN x) ≤ x
  | 0, _ => by
    have f0 : lwF Z q 0 = false := lwF_z rfl
    show cN (lwF Z q) 1 ≤ 0
    rw [cN_n f0]
    exact Int.le_refl _
  | x + 1, h => by
    have := cN_x (Z := Z) (q := q) x (by omega)
    rw [cN_ph (by omega)]
    split <;> omega
theorem cN_40 {Z : Nat → Int → Int} {q : Nat} : cN (lwF Z q) 41 = cN (lwF Z q) 40 := cN_n (lwF_z rfl)
theorem cN_sur {f : Nat → Bool} {k : Int} : ∀ n, 0 ≤ k → k < cN f n → ∃ w, w < n ∧ f w = true ∧ cN f w = k
  | 0, h0, h => by
    have h : k < 0 := h
    omega
  | n + 1, h0, h => by
    cases e : f n
    · rw [cN_n e] at h
      obtain ⟨w, h1, h2⟩ := cN_sur n h0 h
      exact ⟨w, by omega, h2⟩
    · rw [cN_y e] at h
      by_cases g : k < cN f n
      · obtain ⟨w, h1, h2⟩ := cN_sur n h0 g
        exact ⟨w, by omega, h2⟩
      · exact ⟨n, by omega, e, by omega⟩
theorem akN_y {f : Nat → Bool} {b : Int} {w : Nat} (hw : f w = true) (hb : cN f w = b) : ∀ n, w < n → akN f b n = w
  | 0, h => absurd h (Nat.not_lt_zero _)
  | n + 1, h => by
    show (if f n && decide (cN f n = b) then (n : Int) else akN f b n) = w
    by_cases e : n = w
    · subst e
      rw [hw, decide_eq_true hb]
      rfl
    · have := cN_lt (f := f) (w := w) (n := n) (by omega) hw
      rw [decide_eq_false (by omega), Bool.and_false]
      exact akN_y hw hb n (by omega)
theorem akN_no {f : Nat → Bool} {b : Int} : ∀ n, cN f n ≤ b → akN f b n = -2
  | 0, _ => rfl
  | n + 1, h => by
    show (if f n && decide (cN f n = b) then (n : Int) else akN f b n) = -2
    cases e : f n
    · rw [cN_n e] at h
      exact akN_no n h
    · rw [cN_y e] at h
      rw [decide_eq_false (by omega)]
      exact akN_no n (by omega)
theorem cN_pull {f p P : Nat → Bool} : ∀ n, (∀ w, w < n → f w = true → p (cN f w).toNat = P w) → cN p (cN f n).toNat = cN (fun w => f w && P w) n
  | 0, _ => rfl
  | n + 1, h => by
    have ih := cN_pull (f := f) (p := p) (P := P) n (fun w hw => h w (by omega))
    cases e : f n
    · rw [cN_n e, ih]
      show _ = cN _ n + (if f n && P n then 1 else 0)
      rw [e]
      exact (Int.add_zero _).symm
    · have hb := (cN_b f n).1
      rw [cN_y e, show (cN f n + 1).toNat = (cN f n).toNat + 1 by omega]
      show cN p (cN f n).toNat + (if p (cN f n).toNat then 1 else 0) = cN _ n + (if f n && P n then 1 else 0)
      rw [ih, h n (by omega) e, e, Bool.true_and]
theorem sh_1 : ∀ p : Nat, p < 10 → zOr 0 (zShl 1 p) = zShl 1 p ∧ zOr (zShl 1 p) (zShl 1 p) = zShl 1 p ∧ suN (zShl 1 p) = p := by decide +kernel
theorem sh_2 : ∀ p : Nat, p < 10 → ∀ u : Nat, u < 10 → mHas (zShl 1 p) u = decide (u = p) := by decide +kernel
theorem suN_0 : suN 0 = -1 := by decide +kernel
def suI (z : Int) (b : Bool × Int) (m : Int) : Prop := (m = 0 ∧ z = 0 ∧ b = (true, -1)) ∨ (∃ p : Nat, p < 10 ∧ z = zShl 1 p ∧ b = (true, (p : Int))) ∨ ∃ v w : Nat, (v < 10 ∧ w < 10 ∧ v ≠ w) ∧ mHas z v = true ∧ mHas z w = true ∧ b = (false, -1)
theorem suI_s {z : Int} {b : Bool × Int} {m : Int} (h : suI z b m) : b.2 = suN z := by
  rcases h with ⟨_, h, g⟩ | ⟨p, hp, h, g⟩ | ⟨v, w, ⟨hv, hw, hn⟩, h1, h2, g⟩
  · rw [g, h, suN_0]
  · rw [g, h, (sh_1 p hp).2.2]
  · rw [g]
    symm
    exact (fsN_z 10).mpr (fun j hj => decide_eq_false (fun e => by
      rw [e, sh_2 j hj _ hv] at h1
      rw [e, sh_2 j hj _ hw] at h2
      have := of_decide_eq_true h1
      have := of_decide_eq_true h2
      omega))
theorem suI_all {f : Nat → Bool} {g : Nat → Nat} {h : Nat → Int} : ∀ n, (∀ w, w < n → f w = true → g w < 10 ∧ h (cN f w).toNat = g w) → suI (orN f g n) (srN h (cN f n).toNat) (cN f n)
  | 0, _ => Or.inl ⟨rfl, rfl, rfl⟩
  | n + 1, hh => by
    have ih := suI_all (f := f) (g := g) (h := h) n (fun w hw => hh w (by omega))
    cases e : f n
    · rw [cN_n e, show orN f g (n + 1) = orN f g n by show (if f n then _ else _) = _; rw [e]; rfl]
      exact ih
    · have hb := (cN_b f n).1
      obtain ⟨g1, g2⟩ := hh n (by omega) e
      rw [cN_y e, show (cN f n + 1).toNat = (cN f n).toNat + 1 by omega, show orN f g (n + 1) = zOr (orN f g n) (zShl 1 (g n)) by show (if f n then _ else _) = _; rw [e]; rfl]
      rcases ih with ⟨h0, h1, h2⟩ | ⟨p, hp, h1, h2⟩ | ⟨v, w, ⟨hv, hw, hn⟩, h1, h2, h3⟩
      · refine Or.inr (Or.inl ⟨g n, g1, by rw [h1, (sh_1 _ g1).1], ?_⟩)
        rw [srN_t h2 (Or.inl rfl), g2]
      · by_cases q : g n = p
        · refine Or.inr (Or.inl ⟨p, hp, by rw [h1, q, (sh_1 _ hp).2.1], ?_⟩)
          rw [srN_t h2 (Or.inr (by rw [g2, q])), g2, q]
        · refine Or.inr (Or.inr ⟨p, g n, ⟨hp, g1, fun z => q z.symm⟩, ?_, ?_, ?_⟩)
          · rw [mHas_set (by omega) (by omega), h1, sh_2 p hp p hp, decide_eq_true rfl]
            rfl
          · rw [mHas_set (by omega) (by omega), decide_eq_true rfl, Bool.or_true]
          · refine srN_n (Or.inr ?_)
            rw [h2, g2]
            exact ⟨by show (p : Int) ≠ -1; omega, by show (p : Int) ≠ g n; omega⟩
      · refine Or.inr (Or.inr ⟨v, w, ⟨hv, hw, hn⟩, ?_, ?_, srN_n (Or.inl (by rw [h3]))⟩)
        · rw [mHas_set (by omega) (by omega), h1]
          rfl
        · rw [mHas_set (by omega) (by omega), h2]
          rfl
theorem csSq_w {x : Cx} {dw dv : Nat → Int} {dn : Int} {t : Cs} (h0 : 0 < xN x) (hn : xN x ≤ 15) (h : oWh x t) : ∀ k, oWh x (csSq x dw dv dn t k).2
  | 0 => h
  | k + 1 => by
    have ih := csSq_w (dw := dw) (dv := dv) (dn := dn) h0 hn h k
    by_cases c : (csSq x dw dv dn t k).1 = true ∧ (k : Int) < dn ∧ csOk (xN x) (csSq x dw dv dn t k).2.1 (dw k) (dv k) = true
    · rw [csSq_t c.1 c.2.1 c.2.2]
      exact oWh_do h0 hn ih
    · rw [csSq_f (x := x) (dw := dw) (dv := dv) (dn := dn) (t := t) (k := k) (by
        cases e1 : (csSq x dw dv dn t k).1
        · exact Or.inl rfl
        · by_cases e2 : (k : Int) < dn
          · cases e3 : csOk (xN x) (csSq x dw dv dn t k).2.1 (dw k) (dv k)
            · exact Or.inr (Or.inr rfl)
            · exact absurd ⟨e1, e2, e3⟩ c
          · exact Or.inr (Or.inl (by omega)))]
      exact ih
theorem lwT_b {Z : Nat → Int → Int} {q : Nat} (hv : vZ Z q) (w : Int) (y : Nat) : -1 ≤ lwT Z q w y ∧ lwT Z q w y ≤ 14 := by
  have hn : (Z q 27).toNat ≤ 15 ∧ 0 < (Z q 27).toNat := by have := hv.1; omega
  have e27 : xN (rCx (lwZ Z q w) q) = (Z q 27).toNat := by
    show (lwZ Z q w q 27).toNat = _
    rw [lwZ_n (by omega)]
  unfold lwT csTa
  split
  · obtain ⟨p, h1, h2, _⟩ := (csSq_w (x := rCx (lwZ Z q w) q) (dw := fW Z q) (dv := fV Z q) (dn := mDn Z q) (t := csI (w.tdiv 20)) (by rw [e27]; exact hn.2) (by rw [e27]; exact hn.1) (oWh_I (by rw [e27]; exact hn.2) (by rw [e27]; exact hn.1) sdf_0) y).2.2
    rw [h1]
    rw [e27] at h2
    omega
  · omega
theorem mx_eq {g h : Nat → Int} (h0 : h 0 = g 15) (hs : ∀ v, v < 15 → h (v + 1) = g v) : mxN h 16 = mxN g 16 := by
  refine Int.le_antisymm (mxN_ub (mxN_0 g 16) (fun k hk => ?_)) (mxN_ub (mxN_0 h 16) (fun k hk => ?_))
  · cases k with
    | zero => rw [h0]; exact mxN_le (by decide)
    | succ v => rw [hs v (by omega)]; exact mxN_le (by omega)
  · by_cases e : k = 15
    · rw [e, ← h0]
      exact mxN_le (by decide)
    · rw [← hs k (by omega)]
      exact mxN_le (by omega)
section LSR
variable {Z X : Nat → Int → Int} {q i : Nat}
theorem ls_sz (h : lsR Z q X i 41) : X (i + 49) 5 = cN (lwF Z q) 40 ∧ 0 ≤ X (i + 49) 5 ∧ X (i + 49) 5 ≤ 36 := by
  have g : cN (lwF Z q) 41 ≤ 36 := cN_x 36 (by decide)
  have b := (cN_b (lwF Z q) 41).1
  rw [h.1]
  exact ⟨cN_40, b, g⟩
theorem ls_k (h : lsR Z q X i 41) {k : Nat} (hk : (k : Int) < X (i + 49) 5) : ∃ w : Nat, w < 40 ∧ lwF Z q w = true ∧ cN (lwF Z q) w = k ∧ X (i + 88) k = w ∧ ∀ y : Nat, y ≤ 40 → X (i + 51 + k) y = lwT Z q w y := by
  rw [(ls_sz h).1] at hk
  obtain ⟨w, h1, h2, h3⟩ := cN_sur 40 (Int.natCast_nonneg k) hk
  obtain ⟨k', g1, g2, g3⟩ := h.2 w (by omega) h2
  have e : k' = k := by omega
  subst e
  exact ⟨w, h1, h2, h3, g2, g3⟩
theorem ls_w (h : lsR Z q X i 41) {w : Nat} (hw : w < 40) (hf : lwF Z q w = true) : X (i + 88) ((cN (lwF Z q) w).toNat : Nat) = w ∧ ∀ y : Nat, y ≤ 40 → X (i + 51 + (cN (lwF Z q) w).toNat) y = lwT Z q w y := by
  obtain ⟨k', g1, g2, g3⟩ := h.2 w (by omega) hf
  rw [show (cN (lwF Z q) w).toNat = k' by omega]
  exact ⟨g2, g3⟩
theorem ls_nn (h : lsR Z q X i 41) : ∀ k : Nat, (k : Int) < X (i + 49) 5 → 0 ≤ X (i + 88) k := fun k hk => by
  obtain ⟨w, _, _, _, g, _⟩ := ls_k h hk
  rw [g]
  exact Int.natCast_nonneg w
theorem ls_V (hv : vZ Z q) (h : lsR Z q X i 41) : lwV X i := by
  refine ⟨(ls_sz h).2, fun k y hk hy => ?_⟩
  obtain ⟨w, _, _, _, _, g⟩ := ls_k h hk
  rw [g y hy]
  exact lwT_b hv w y
theorem ls_su (h : lsR Z q X i 41) {a b : Int} {g : Nat → Nat} (hg : ∀ w : Nat, w < 40 → g w < 10 ∧ ((w : Int).tdiv a).tmod b = g w) : (srN (fun k : Nat => ((X (i + 88) k).tdiv a).tmod b) (X (i + 49) 5).toNat).2 = suN (orN (lwF Z q) g 40) := by
  rw [(ls_sz h).1]
  refine suI_s (suI_all (f := lwF Z q) (g := g) (h := fun k : Nat => ((X (i + 88) k).tdiv a).tmod b) 40 (fun w hw hf => ⟨(hg w hw).1, ?_⟩))
  show ((X (i + 88) ((cN (lwF Z q) w).toNat : Nat)).tdiv a).tmod b = _
  rw [(ls_w h hw hf).1]
  exact (hg w hw).2
theorem ls_gg (hv : vZ Z q) (h : lsR Z q X i 41) {y : Nat} (hy : y ≤ 40) : ggN X i y = mxN (fun v => cN (scF Z q y v) 40) 16 := by
  unfold ggN
  rw [(ls_sz h).1]
  have p : ∀ v u : Nat, (∀ t : Int, -1 ≤ t ∧ t ≤ 14 → (t + 1 = v ↔ lvl t = u)) → gcN (fun k => X (i + 51 + k) y + 1) (cN (lwF Z q) 40).toNat v = cN (scF Z q y u) 40 := fun v u huv => by
    unfold gcN
    rw [cN_pull (f := lwF Z q) (P := fun w => decide (lvl (lwT Z q w y) = u)) 40 (fun w hw hf => ?_)]
    · rfl
    · show decide (X (i + 51 + (cN (lwF Z q) w).toNat) y + 1 = (v : Int)) = decide (lvl (lwT Z q w y) = u)
      rw [(ls_w h hw hf).2 y hy]
      exact decide_eq_decide.mpr (huv _ (lwT_b hv w y))
  refine mx_eq (p 0 15 (fun t ht => ?_)) (fun v hv9 => p (v + 1) v (fun t ht => ?_))
  · unfold lvl
    split <;> omega
  · unfold lvl
    split <;> omega
theorem ls_od (h : lsR Z q X i 41) (r : Int) : cN (fun k : Nat => decide ((X (i + 88) k).tdiv 20 = r)) (X (i + 49) 5).toNat = cN (fun w => lwF Z q w && decide ((w : Int).tdiv 20 = r)) 40 := by
  rw [(ls_sz h).1]
  refine cN_pull 40 (fun w hw hf => ?_)
  show decide ((X (i + 88) ((cN (lwF Z q) w).toNat : Nat)).tdiv 20 = r) = _
  rw [(ls_w h hw hf).1]
end LSR
theorem smN_1 {f : Nat → Bool} : ∀ n, n ≤ 40 → smN f (fun e => e / 20) n = cN (fun w => f w && decide ((w : Int).tdiv 20 = 1)) n ∧ cN f n - smN f (fun e => e / 20) n = cN (fun w => f w && decide ((w : Int).tdiv 20 = 0)) n
  | 0, _ => ⟨rfl, rfl⟩
  | n + 1, h => by
    have ih := smN_1 (f := f) n (by omega)
    have e20 : (n : Int).tdiv 20 = ((n / 20 : Nat) : Int) := rfl
    cases e : f n
    · have s : smN f (fun e => e / 20) (n + 1) = smN f (fun e => e / 20) n := by
        show (if f n then _ else _) = _
        rw [e]
        rfl
      rw [s, cN_n e, cN_n (by rw [e]; rfl), cN_n (by rw [e]; rfl)]
      exact ih
    · have s : smN f (fun e => e / 20) (n + 1) = smN f (fun e => e / 20) n + ((n / 20 : Nat) : Int) := by
        show (if f n then _ else _) = _
        rw [e]
        rfl
      rw [s, cN_y e]
      by_cases g : n / 20 = 1
      · rw [cN_y (by rw [e, decide_eq_true (by omega)]; rfl), cN_n (by rw [decide_eq_false (by omega), Bool.and_false])]
        omega
      · rw [cN_n (by rw [decide_eq_false (by omega), Bool.and_false]), cN_y (by rw [e, decide_eq_true (by omega)]; rfl)]
        omega
abbrev cX10_fits : ByteArray := prog_1_method_45_code
def yX10_fits : MethodName := ⟨RX10, "fits", "(IIIII)I"⟩
theorem dX10_fits_0 : decode cX10_fits 0 = .ok (.aload_n 0, 1) := by decide +kernel
theorem dX10_fits_1 : decode cX10_fits 1 = .ok (.iload_n 1, 1) := by decide +kernel
theorem dX10_fits_2 : decode cX10_fits 2 = .ok (.iload_n 2, 1) := by decide +kernel
theorem dX10_fits_3 : decode cX10_fits 3 = .ok (.iload_n 3, 1) := by decide +kernel
theorem dX10_fits_4 : decode cX10_fits 4 = .ok (.iload 4, 2) := by decide +kernel
theorem dX10_fits_6 : decode cX10_fits 6 = .ok (.invokevirtual 432, 3) := by decide +kernel
theorem dX10_fits_9 : decode cX10_fits 9 = .ok (.ifCond .ne 6, 3) := by decide +kernel
theorem dX10_fits_12 : decode cX10_fits 12 = .ok (.bipush (-2), 2) := by decide +kernel
theorem dX10_fits_14 : decode cX10_fits 14 = .ok (.ireturn, 1) := by decide +kernel
theorem dX10_fits_15 : decode cX10_fits 15 = .ok (.iload 5, 2) := by decide +kernel
theorem dX10_fits_17 : decode cX10_fits 17 = .ok (.tableswitch 84 0 4 #[35, 43, 54, 65, 76], 35) := by decide +kernel
theorem dX10_fits_52 : decode cX10_fits 52 = .ok (.aload_n 0, 1) := by decide +kernel
theorem dX10_fits_53 : decode cX10_fits 53 = .ok (.getfield 52, 3) := by decide +kernel
theorem dX10_fits_56 : decode cX10_fits 56 = .ok (.getfield 436, 3) := by decide +kernel
theorem dX10_fits_59 : decode cX10_fits 59 = .ok (.ireturn, 1) := by decide +kernel
theorem dX10_fits_60 : decode cX10_fits 60 = .ok (.aload_n 0, 1) := by decide +kernel
theorem dX10_fits_61 : decode cX10_fits 61 = .ok (.getfield 52, 3) := by decide +kernel
theorem dX10_fits_64 : decode cX10_fits 64 = .ok (.bipush 20, 2) := by decide +kernel
theorem dX10_fits_66 : decode cX10_fits 66 = .ok (.iconst 2, 1) := by decide +kernel
theorem dX10_fits_67 : decode cX10_fits 67 = .ok (.invokevirtual 437, 3) := by decide +kernel
theorem dX10_fits_70 : decode cX10_fits 70 = .ok (.ireturn, 1) := by decide +kernel
theorem dX10_fits_71 : decode cX10_fits 71 = .ok (.aload_n 0, 1) := by decide +kernel
theorem dX10_fits_72 : decode cX10_fits 72 = .ok (.getfield 52, 3) := by decide +kernel
theorem dX10_fits_75 : decode cX10_fits 75 = .ok (.bipush 10, 2) := by decide +kernel
theorem dX10_fits_77 : decode cX10_fits 77 = .ok (.iconst 2, 1) := by decide +kernel
theorem dX10_fits_78 : decode cX10_fits 78 = .ok (.invokevirtual 437, 3) := by decide +kernel
theorem dX10_fits_81 : decode cX10_fits 81 = .ok (.ireturn, 1) := by decide +kernel
theorem dX10_fits_82 : decode cX10_fits 82 = .ok (.aload_n 0, 1) := by decide +kernel
theorem dX10_fits_83 : decode cX10_fits 83 = .ok (.getfield 52, 3) := by decide +kernel
theorem dX10_fits_86 : decode cX10_fits 86 = .ok (.iconst 1, 1) := by decide +kernel
theorem dX10_fits_87 : decode cX10_fits 87 = .ok (.bipush 10, 2) := by decide +kernel
theorem dX10_fits_89 : decode cX10_fits 89 = .ok (.invokevirtual 437, 3) := by decide +kernel
theorem dX10_fits_92 : decode cX10_fits 92 = .ok (.ireturn, 1) := by decide +kernel
theorem dX10_fits_93 : decode cX10_fits 93 = .ok (.aload_n 0, 1) := by decide +kernel
theorem dX10_fits_94 : decode cX10_fits 94 = .ok (.getfield 52, 3) := by decide +kernel
theorem dX10_fits_97 : decode cX10_fits 97 = .ok (.invokevirtual 440, 3) := by decide +kernel
theorem dX10_fits_100 : decode cX10_fits 100 = .ok (.ireturn, 1) := by decide +kernel
theorem dX10_fits_101 : decode cX10_fits 101 = .ok (.iload 5, 2) := by decide +kernel
theorem dX10_fits_103 : decode cX10_fits 103 = .ok (.bipush 10, 2) := by decide +kernel
theorem dX10_fits_105 : decode cX10_fits 105 = .ok (.if_icmp .lt 39, 3) := by decide +kernel
theorem dX10_fits_108 : decode cX10_fits 108 = .ok (.iload 5, 2) := by decide +kernel
theorem dX10_fits_110 : decode cX10_fits 110 = .ok (.bipush 10, 2) := by decide +kernel
theorem dX10_fits_112 : decode cX10_fits 112 = .ok (.isub, 1) := by decide +kernel
theorem dX10_fits_113 : decode cX10_fits 113 = .ok (.aload_n 0, 1) := by decide +kernel
theorem dX10_fits_114 : decode cX10_fits 114 = .ok (.getfield 52, 3) := by decide +kernel
theorem dX10_fits_117 : decode cX10_fits 117 = .ok (.getfield 436, 3) := by decide +kernel
theorem dX10_fits_120 : decode cX10_fits 120 = .ok (.bipush 36, 2) := by decide +kernel
theorem dX10_fits_122 : decode cX10_fits 122 = .ok (.invokestatic 443, 3) := by decide +kernel
theorem dX10_fits_125 : decode cX10_fits 125 = .ok (.if_icmp .ge 19, 3) := by decide +kernel
theorem dX10_fits_128 : decode cX10_fits 128 = .ok (.aload_n 0, 1) := by decide +kernel
theorem dX10_fits_129 : decode cX10_fits 129 = .ok (.getfield 52, 3) := by decide +kernel
theorem dX10_fits_132 : decode cX10_fits 132 = .ok (.getfield 448, 3) := by decide +kernel
theorem dX10_fits_135 : decode cX10_fits 135 = .ok (.iload 5, 2) := by decide +kernel
theorem dX10_fits_137 : decode cX10_fits 137 = .ok (.bipush 10, 2) := by decide +kernel
theorem dX10_fits_139 : decode cX10_fits 139 = .ok (.isub, 1) := by decide +kernel
theorem dX10_fits_140 : decode cX10_fits 140 = .ok (.iaload, 1) := by decide +kernel
theorem dX10_fits_141 : decode cX10_fits 141 = .ok (.goto 5, 3) := by decide +kernel
theorem dX10_fits_144 : decode cX10_fits 144 = .ok (.bipush (-2), 2) := by decide +kernel
theorem dX10_fits_146 : decode cX10_fits 146 = .ok (.ireturn, 1) := by decide +kernel
theorem q_1242 : Cond.methodLink RX10 432 yX10_survey ∈ zTB := zmem 1242 (by decide +kernel) rfl
theorem q_1244 : Cond.instanceMethod yX10_survey ∈ zTB := zmem 1244 (by decide +kernel) rfl
theorem q_30 : Cond.selects RX10 yX10_survey yX10_survey ∈ zTB := zmem 30 (by decide +kernel) rfl
theorem q_1245 : Cond.code yX10_survey cX10_survey 9 (some .boolean) ∈ zTB := zmem 1245 (by decide +kernel) rfl
theorem k_RX10_432 : zLv RX10 432 RX10 yX10_survey cX10_survey 9 (some .boolean) 4 := ⟨⟨q_1242, q_1244, q_30, q_129, q_1245⟩, rfl, ⟨by decide, by decide⟩, by decide +kernel⟩
theorem q_521 : Cond.fieldLink RX10 436 RX4 "size" "I" ∈ zTB := zmem 521 (by decide +kernel) rfl
theorem q_1263 : Cond.methodLink RX10 437 yX4_sure ∈ zTB := zmem 1263 (by decide +kernel) rfl
theorem q_1264 : Cond.instanceMethod yX4_sure ∈ zTB := zmem 1264 (by decide +kernel) rfl
theorem q_1265 : Cond.selects RX4 yX4_sure yX4_sure ∈ zTB := zmem 1265 (by decide +kernel) rfl
theorem q_1266 : Cond.code yX4_sure cX4_sure 6 (some .int) ∈ zTB := zmem 1266 (by decide +kernel) rfl
theorem k_RX10_437 : zLv RX10 437 RX4 yX4_sure cX4_sure 6 (some .int) 2 := ⟨⟨q_1263, q_1264, q_1265, q_138, q_1266⟩, rfl, ⟨by decide, by decide⟩, by decide +kernel⟩
theorem q_1267 : Cond.methodLink RX10 440 yX4_ask ∈ zTB := zmem 1267 (by decide +kernel) rfl
theorem q_1268 : Cond.instanceMethod yX4_ask ∈ zTB := zmem 1268 (by decide +kernel) rfl
theorem q_1269 : Cond.selects RX4 yX4_ask yX4_ask ∈ zTB := zmem 1269 (by decide +kernel) rfl
theorem q_1270 : Cond.code yX4_ask cX4_ask 3 (some .int) ∈ zTB := zmem 1270 (by decide +kernel) rfl
theorem k_RX10_440 : zLv RX10 440 RX4 yX4_ask cX4_ask 3 (some .int) 0 := ⟨⟨q_1267, q_1268, q_1269, q_138, q_1270⟩, rfl, ⟨by decide, by decide⟩, by decide +kernel⟩
theorem q_1276 : Cond.methodLink RX10 443 Lib.Math.min.name ∈ zTB := zmem 1276 (by decide +kernel) rfl
theorem q_519 : Cond.fieldLink RX10 448 RX4 "number" "[I" ∈ zTB := zmem 519 (by decide +kernel) rfl
def F_X10_fits (i : Nat) (Z : Nat → Int → Int) (q : Nat) (X Y : Nat → Int → Int) (R : Nat → Int → Option Nat) (a : Int) (b : Int) (g : Int) (d : Int) (f : Int) : Prop := (∀ i j, rI (X i j)) → (∀ i j, rL (Y i j)) → (wcQ Z q X i) ∧ (∀ r5 : Bool, ∀ X2 : Nat → Int → Int, (∀ i j, rI (X2 i j)) → ∀ Y3 : Nat → Int → Int, (∀ i j, rL (Y3 i j)) → ∀ R4 : Nat → Int → Option Nat, (wcK R (R4) i ∧ r5 = lgOk Z q (a) (b) (g) (d) ∧ (r5 = false → (X2) = X) ∧ (r5 = true → qK X (X2) i ∧ lsR (hL Z q (a) (b) (g) (d)) q (X2) (i + 157) 41)) → (((r5 = true) → ((f = 0 → (wcK R (R4) i ∧ (X2 (i + 206) 5) = rFits Z q (a) (b) (g) (d) (f) ∧ qK X (X2) i)) ∧ (f = 1 → (((1 ≤ ((20 : Int)) ∧ ((20 : Int)) ≤ 100) ∧ (1 ≤ ((2 : Int)) ∧ ((2 : Int)) ≤ 100) ∧ (0 ≤ X2 (i + 206) 5 ∧ X2 (i + 206) 5 ≤ 36) ∧ ∀ k : Nat, (k : Int) < X2 (i + 206) 5 → 0 ≤ X2 (i + 245) k) ∧ (rI ((srN (fun k : Nat => ((X2 (i + 245) k).tdiv ((20 : Int))).tmod ((2 : Int))) (X2 (i + 206) 5).toNat).2) → (wcK R (R4) i ∧ ((srN (fun k : Nat => ((X2 (i + 245) k).tdiv ((20 : Int))).tmod ((2 : Int))) (X2 (i + 206) 5).toNat).2) = rFits Z q (a) (b) (g) (d) (f) ∧ qK X (X2) i)))) ∧ (f = 2 → (((1 ≤ ((10 : Int)) ∧ ((10 : Int)) ≤ 100) ∧ (1 ≤ ((2 : Int)) ∧ ((2 : Int)) ≤ 100) ∧ (0 ≤ X2 (i + 206) 5 ∧ X2 (i + 206) 5 ≤ 36) ∧ ∀ k : Nat, (k : Int) < X2 (i + 206) 5 → 0 ≤ X2 (i + 245) k) ∧ (rI ((srN (fun k : Nat => ((X2 (i + 245) k).tdiv ((10 : Int))).tmod ((2 : Int))) (X2 (i + 206) 5).toNat).2) → (wcK R (R4) i ∧ ((srN (fun k : Nat => ((X2 (i + 245) k).tdiv ((10 : Int))).tmod ((2 : Int))) (X2 (i + 206) 5).toNat).2) = rFits Z q (a) (b) (g) (d) (f) ∧ qK X (X2) i)))) ∧ (f = 3 → (((1 ≤ ((1 : Int)) ∧ ((1 : Int)) ≤ 100) ∧ (1 ≤ ((10 : Int)) ∧ ((10 : Int)) ≤ 100) ∧ (0 ≤ X2 (i + 206) 5 ∧ X2 (i + 206) 5 ≤ 36) ∧ ∀ k : Nat, (k : Int) < X2 (i + 206) 5 → 0 ≤ X2 (i + 245) k) ∧ (rI ((srN (fun k : Nat => ((X2 (i + 245) k).tdiv ((1 : Int))).tmod ((10 : Int))) (X2 (i + 206) 5).toNat).2) → (wcK R (R4) i ∧ ((srN (fun k : Nat => ((X2 (i + 245) k).tdiv ((1 : Int))).tmod ((10 : Int))) (X2 (i + 206) 5).toNat).2) = rFits Z q (a) (b) (g) (d) (f) ∧ qK X (X2) i)))) ∧ (f = 4 → ((lwV X2 (i + 157)) ∧ (∀ r16 : Int, rI r16 → ∀ X15 : Nat → Int → Int, (∀ i j, rI (X15 i j)) → (r16 = (if X2 (i + 206) 5 = 0 then -1 else (akW (fun y => ggN X2 (i + 157) y) 41).1) ∧ ∀ z, z ≠ i + 244 → (X15) z = X2 z) → (wcK R (R4) i ∧ r16 = rFits Z q (a) (b) (g) (d) (f) ∧ qK X (X15) i)))) ∧ ((f < 0 ∨ 4 < f) → (((f < 10) → (wcK R (R4) i ∧ (-2) = rFits Z q (a) (b) (g) (d) (f) ∧ qK X (X2) i)) ∧ ((¬ (f < 10)) → ((rI (f - 10)) ∧ ((((min (X2 (i + 206) 5) (36)) ≤ (f - 10)) → (wcK R (R4) i ∧ (-2) = rFits Z q (a) (b) (g) (d) (f) ∧ qK X (X2) i)) ∧ ((¬ ((min (X2 (i + 206) 5) (36)) ≤ (f - 10))) → ((0 ≤ (f - 10) ∧ (f - 10) < 36) ∧ (wcK R (R4) i ∧ (X2 (i + 245) (f - 10)) = rFits Z q (a) (b) (g) (d) (f) ∧ qK X (X2) i)))))))))) ∧ ((r5 = false) → (wcK R (R4) i ∧ (-2) = rFits Z q (a) (b) (g) (d) (f) ∧ qK X (X2) i))))
set_option maxHeartbeats 4000000 in
set_option maxRecDepth 100000 in
theorem w_X10_fits {l : Launch} {D : va_G} {cy : Nat → ClassId} {bs N : Nat} {sa : Nat → Nat} {kd len : Nat → Nat} {X Y : Nat → Int → Int} {R : Nat → Int → Option Nat} {i : Nat} {Z : Nat → Int → Int} {q : Nat} (hC : zWC N kd len R i) (a : Int) (ha : rI a) (b : Int) (hb : rI b) (g : Int) (hg : rI g) (d : Int) (hd : rI d) (f : Int) (hf : rI f) (hF : F_X10_fits i Z q X Y R a b g d f) : Met l yX10_fits (.code yX10_fits cX10_fits 6 (some .int) :: zTB) (zRm 6 184) (zPc D cy bs sa N kd len X Y R [.ref (bs + (i)), .int (zI (a)), .int (zI (b)), .int (zI (g)), .int (zI (d)), .int (zI (f))]) (zQi D cy bs N kd len (fun r st => (wcK R (st.2.2) i ∧ r = rFits Z q (a) (b) (g) (d) (f) ∧ qK X (st.1) i))) 0 0 (zA bs) := by
  refine zstart (by decide) (Nat.le_of_ble_eq_true rfl) ?_
  intro p e s m args below meth c ls C hE hH hr hlk hnm hl hargs
  have hF := hF hH.2.2.1 hH.2.2.2
  have hS : va_S (zA bs) s.heap s.heap [] := va_S.rf
  have hl : lv_has ls 6 [(0, .ref (bs + (i))), (1, .int (zI (a))), (2, .int (zI (b))), (3, .int (zI (g))), (4, .int (zI (d))), (5, .int (zI (f)))] := hl
  refine lv_aload_n C.1 C.2.1 dX10_fits_0 rfl (lv_at hl 0 rfl) ?_
  refine lv_iload_n C.1 C.2.1 dX10_fits_1 rfl (lv_at hl 1 rfl) ?_
  refine lv_iload_n C.1 C.2.1 dX10_fits_2 rfl (lv_at hl 2 rfl) ?_
  refine lv_iload_n C.1 C.2.1 dX10_fits_3 rfl (lv_at hl 3 rfl) ?_
  refine lv_iload C.1 C.2.1 dX10_fits_4 (lv_at hl 4 rfl) ?_
  obtain ⟨o1, hF⟩ := hF
  refine zgoi (zrunV (As := [.int (zI (a)), .int (zI (b)), .int (zI (g)), .int (zI (d))]) (rest := []) C hE hH hS hl.1 (c_X10_survey (l := l) hC (a) ha (b) hb (g) hg (d) hd o1) k_RX10_432 ⟨Nat.le_of_ble_eq_true rfl, Nat.le_of_ble_eq_true rfl⟩ (zW_n hC) (zW_k hC) rfl rfl rfl (Nat.le_of_ble_eq_true rfl) dX10_fits_6 ⟨Nat.zero_le _, Nat.zero_le _⟩) hS (fun rq X2 Y3 R4 H locs hrq hq hH hS => ?_)
  obtain ⟨r5, h91, hq⟩ := hq
  subst h91
  have hF := hF r5 X2 hH.2.2.1 Y3 hH.2.2.2 R4 hq
  have hC := hq.1.1 _ _ _ hC
  refine zd_ifB_ne C 15 dX10_fits_9 (by decide) (fun c6 => ?_) (fun c6 => ?_)
  · have hF := hF.1 c6
    refine lv_iload C.1 C.2.1 dX10_fits_15 (lv_at hl 5 rfl) ?_
    by_cases c7_0 : f = 0
    · have hF := hF.1 c7_0
      refine zd_tabI C hf 52 (0) c7_0 dX10_fits_17 (by decide) (by decide) rfl (by decide) ?_
      refine lv_aload_n C.1 C.2.1 dX10_fits_52 rfl (lv_at hl 0 rfl) ?_
      refine zg10_6 C hH (zW_n hC) (zW_k hC) q_575 (zW_lw hC).2.2.1 dX10_fits_53 ?_
      refine zg4_5 C hH (zLw_n0 (zW_lw hC).2.2.2) (zLw_k0 (zW_lw hC).2.2.2) q_521 dX10_fits_56 ?_
      exact zd_iret C hr hlk hH hS (hH.2.2.1 _ _) (hF) dX10_fits_59
    · have hF := hF.2
      by_cases c7_1 : f = 1
      · have hF := hF.1 c7_1
        refine zd_tabI C hf 60 (1) c7_1 dX10_fits_17 (by decide) (by decide) rfl (by decide) ?_
        refine lv_aload_n C.1 C.2.1 dX10_fits_60 rfl (lv_at hl 0 rfl) ?_
        refine zg10_6 C hH (zW_n hC) (zW_k hC) q_575 (zW_lw hC).2.2.1 dX10_fits_61 ?_
        refine zd_bipush C (by decide) dX10_fits_64 ?_
        refine zd_iconst C dX10_fits_66 ?_
        obtain ⟨o8, hF⟩ := hF
        refine zgoi (zrunV (As := [.int (zI (20)), .int (zI (2))]) (rest := []) C hE hH hS hl.1 (c_X4_sure (l := l) (zW_lw hC).2.2.2 (20) (by decide) (2) (by decide) o8) k_RX10_437 ⟨Nat.le_of_ble_eq_true rfl, Nat.le_of_ble_eq_true rfl⟩ (zLw_n0 (zW_lw hC).2.2.2) (zLw_k0 (zW_lw hC).2.2.2) rfl rfl rfl (Nat.le_of_ble_eq_true rfl) dX10_fits_67 ⟨Nat.zero_le _, Nat.zero_le _⟩) hS (fun rq Xq Yq Rq H locs hrq hq hH hS => ?_)
        obtain ⟨h91, h92⟩ := hq
        have h93 : Xq = X2 := congrArg (fun z => z.1) h92
        have h94 : Yq = Y3 := congrArg (fun z => z.2.1) h92
        have h95 : Rq = R4 := congrArg (fun z => z.2.2) h92
        rw [h93, h94, h95] at hH
        subst h91
        have hr9 := hrq
        have hF := hF hr9
        exact zd_iret C hr hlk hH hS hr9 (hF) dX10_fits_70
      · have hF := hF.2
        by_cases c7_2 : f = 2
        · have hF := hF.1 c7_2
          refine zd_tabI C hf 71 (2) c7_2 dX10_fits_17 (by decide) (by decide) rfl (by decide) ?_
          refine lv_aload_n C.1 C.2.1 dX10_fits_71 rfl (lv_at hl 0 rfl) ?_
          refine zg10_6 C hH (zW_n hC) (zW_k hC) q_575 (zW_lw hC).2.2.1 dX10_fits_72 ?_
          refine zd_bipush C (by decide) dX10_fits_75 ?_
          refine zd_iconst C dX10_fits_77 ?_
          obtain ⟨o10, hF⟩ := hF
          refine zgoi (zrunV (As := [.int (zI (10)), .int (zI (2))]) (rest := []) C hE hH hS hl.1 (c_X4_sure (l := l) (zW_lw hC).2.2.2 (10) (by decide) (2) (by decide) o10) k_RX10_437 ⟨Nat.le_of_ble_eq_true rfl, Nat.le_of_ble_eq_true rfl⟩ (zLw_n0 (zW_lw hC).2.2.2) (zLw_k0 (zW_lw hC).2.2.2) rfl rfl rfl (Nat.le_of_ble_eq_true rfl) dX10_fits_78 ⟨Nat.zero_le _, Nat.zero_le _⟩) hS (fun rq Xq Yq Rq H locs hrq hq hH hS => ?_)
          obtain ⟨h91, h92⟩ := hq
          have h93 : Xq = X2 := congrArg (fun z => z.1) h92
          have h94 : Yq = Y3 := congrArg (fun z => z.2.1) h92
          have h95 : Rq = R4 := congrArg (fun z => z.2.2) h92
          rw [h93, h94, h95] at hH
          subst h91
          have hr11 := hrq
          have hF := hF hr11
          exact zd_iret C hr hlk hH hS hr11 (hF) dX10_fits_81
        · have hF := hF.2
          by_cases c7_3 : f = 3
          · have hF := hF.1 c7_3
            refine zd_tabI C hf 82 (3) c7_3 dX10_fits_17 (by decide) (by decide) rfl (by decide) ?_
            refine lv_aload_n C.1 C.2.1 dX10_fits_82 rfl (lv_at hl 0 rfl) ?_
            refine zg10_6 C hH (zW_n hC) (zW_k hC) q_575 (zW_lw hC).2.2.1 dX10_fits_83 ?_
            refine zd_iconst C dX10_fits_86 ?_
            refine zd_bipush C (by decide) dX10_fits_87 ?_
            obtain ⟨o12, hF⟩ := hF
            refine zgoi (zrunV (As := [.int (zI (1)), .int (zI (10))]) (rest := []) C hE hH hS hl.1 (c_X4_sure (l := l) (zW_lw hC).2.2.2 (1) (by decide) (10) (by decide) o12) k_RX10_437 ⟨Nat.le_of_ble_eq_true rfl, Nat.le_of_ble_eq_true rfl⟩ (zLw_n0 (zW_lw hC).2.2.2) (zLw_k0 (zW_lw hC).2.2.2) rfl rfl rfl (Nat.le_of_ble_eq_true rfl) dX10_fits_89 ⟨Nat.zero_le _, Nat.zero_le _⟩) hS (fun rq Xq Yq Rq H locs hrq hq hH hS => ?_)
            obtain ⟨h91, h92⟩ := hq
            have h93 : Xq = X2 := congrArg (fun z => z.1) h92
            have h94 : Yq = Y3 := congrArg (fun z => z.2.1) h92
            have h95 : Rq = R4 := congrArg (fun z => z.2.2) h92
            rw [h93, h94, h95] at hH
            subst h91
            have hr13 := hrq
            have hF := hF hr13
            exact zd_iret C hr hlk hH hS hr13 (hF) dX10_fits_92
          · have hF := hF.2
            by_cases c7_4 : f = 4
            · have hF := hF.1 c7_4
              refine zd_tabI C hf 93 (4) c7_4 dX10_fits_17 (by decide) (by decide) rfl (by decide) ?_
              refine lv_aload_n C.1 C.2.1 dX10_fits_93 rfl (lv_at hl 0 rfl) ?_
              refine zg10_6 C hH (zW_n hC) (zW_k hC) q_575 (zW_lw hC).2.2.1 dX10_fits_94 ?_
              obtain ⟨o14, hF⟩ := hF
              refine zgoi (zrunV (As := []) (rest := []) C hE hH hS hl.1 (c_X4_ask (l := l) (zW_lw hC).2.2.2  o14) k_RX10_440 ⟨Nat.le_of_ble_eq_true rfl, Nat.le_of_ble_eq_true rfl⟩ (zLw_n0 (zW_lw hC).2.2.2) (zLw_k0 (zW_lw hC).2.2.2) rfl rfl rfl (Nat.le_of_ble_eq_true rfl) dX10_fits_97 ⟨Nat.zero_le _, Nat.zero_le _⟩) hS (fun r16 X15 Yq Rq H locs hrq hq hH hS => ?_)
              obtain ⟨h9Y, h9R, hq⟩ := hq
              dsimp only at h9Y h9R
              rw [h9Y, h9R] at hH
              have hr16 := hrq
              have hF := hF r16 hrq X15 hH.2.2.1 hq
              exact zd_iret C hr hlk hH hS hr16 (hF) dX10_fits_100
            · have hF := hF.2
              have c7 := tsw_0_4 (f) c7_0 c7_1 c7_2 c7_3 c7_4
              have hF := hF c7
              refine zd_tabO C hf 101 c7 dX10_fits_17 (by decide) ?_
              refine lv_iload C.1 C.2.1 dX10_fits_101 (lv_at hl 5 rfl) ?_
              refine zd_bipush C (by decide) dX10_fits_103 ?_
              refine zd_icmp_lt C hf (by decide) 144 dX10_fits_105 (by decide) (fun c17 => ?_) (fun c17 => ?_)
              · have hF := hF.1 c17
                refine zd_bipush C (by decide) dX10_fits_144 ?_
                exact zd_iret C hr hlk hH hS (by decide) (hF) dX10_fits_146
              · have hF := hF.2 c17
                refine lv_iload C.1 C.2.1 dX10_fits_108 (lv_at hl 5 rfl) ?_
                refine zd_bipush C (by decide) dX10_fits_110 ?_
                refine zd_isub C dX10_fits_112 ?_
                refine lv_aload_n C.1 C.2.1 dX10_fits_113 rfl (lv_at hl 0 rfl) ?_
                refine zg10_6 C hH (zW_n hC) (zW_k hC) q_575 (zW_lw hC).2.2.1 dX10_fits_114 ?_
                refine zg4_5 C hH (zLw_n0 (zW_lw hC).2.2.2) (zLw_k0 (zW_lw hC).2.2.2) q_521 dX10_fits_117 ?_
                refine zd_bipush C (by decide) dX10_fits_120 ?_
                refine zd_mmin C hl.1 q_1276 q_626 q_141 q_627 (Nat.le_of_ble_eq_true rfl) (Nat.le_of_ble_eq_true rfl) (Nat.zero_le _) (Nat.zero_le _) (hH.2.2.1 _ _) (by decide) dX10_fits_122 ?_
                obtain ⟨o19, hF⟩ := hF
                refine zd_icmp_ge C o19 (mn_rI (hH.2.2.1 _ _) (by decide)) 144 dX10_fits_125 (by decide) (fun c18 => ?_) (fun c18 => ?_)
                · have hF := hF.1 c18
                  refine zd_bipush C (by decide) dX10_fits_144 ?_
                  exact zd_iret C hr hlk hH hS (by decide) (hF) dX10_fits_146
                · have hF := hF.2 c18
                  refine lv_aload_n C.1 C.2.1 dX10_fits_128 rfl (lv_at hl 0 rfl) ?_
                  refine zg10_6 C hH (zW_n hC) (zW_k hC) q_575 (zW_lw hC).2.2.1 dX10_fits_129 ?_
                  refine zg4_4 C hH (zLw_n0 (zW_lw hC).2.2.2) (zLw_k0 (zW_lw hC).2.2.2) q_519 (zLw_m (zW_lw hC).2.2.2).2.2 dX10_fits_132 ?_
                  refine lv_iload C.1 C.2.1 dX10_fits_135 (lv_at hl 5 rfl) ?_
                  refine zd_bipush C (by decide) dX10_fits_137 ?_
                  refine zd_isub C dX10_fits_139 ?_
                  obtain ⟨o20, hF⟩ := hF
                  refine zd_iald C hH (zLw_nn (zW_lw hC).2.2.2) (zLw_m (zW_lw hC).2.2.2).1 o20.1 (by rw [zLw_lm (zW_lw hC).2.2.2]; exact o20.2) (by rw [zLw_lm (zW_lw hC).2.2.2]; decide) dX10_fits_140 ?_
                  refine lv_goto (tgt := 146) C.1 C.2.1 dX10_fits_141 (by decide) ?_
                  exact zd_iret C hr hlk hH hS (hH.2.2.1 _ _) (hF) dX10_fits_146
  · have hF := hF.2 c6
    refine zd_bipush C (by decide) dX10_fits_12 ?_
    exact zd_iret C hr hlk hH hS (by decide) (hF) dX10_fits_14
theorem ls_g1 : ∀ w : Nat, w < 40 → w / 20 < 10 ∧ ((w : Int).tdiv 20).tmod 2 = ((w / 20 : Nat) : Int) := by decide
theorem ls_g2 : ∀ w : Nat, w < 40 → w / 10 % 2 < 10 ∧ ((w : Int).tdiv 10).tmod 2 = ((w / 10 % 2 : Nat) : Int) := by decide
theorem ls_g3 : ∀ w : Nat, w < 40 → w % 10 < 10 ∧ ((w : Int).tdiv 1).tmod 10 = ((w % 10 : Nat) : Int) := by decide
theorem v_X10_fits {X Y : Nat → Int → Int} {R : Nat → Int → Option Nat} {i : Nat} {Z : Nat → Int → Int} {q : Nat} (a : Int) (ha : rI a) (b : Int) (hb : rI b) (g : Int) (hg : rI g) (d : Int) (hd : rI d) (f : Int) (hf : rI f) (hp : wcQ Z q X i) : F_X10_fits i Z q X Y R a b g d f := by
  unfold F_X10_fits
  intro hX hY
  refine ⟨?_, ?_⟩
  · exact hp
  intro r5
  intro X2
  intro rX2
  intro Y3
  intro rY3
  intro R4
  intro h1
  obtain ⟨hK, er, hf, ht⟩ := h1
  refine ⟨?_, ?_⟩
  · intro c1
    obtain ⟨qk, ls⟩ := ht c1
    have eo := lgOk_t.mp (er.symm.trans c1)
    have hv : vZ (hL Z q a b g d) q := vZ_t hL_t (hz_v hp.1.1 eo.2.1.1 eo.2.1.2)
    have sz : X2 (i + 206) 5 = cN (lwF (hL Z q a b g d) q) 40 ∧ 0 ≤ X2 (i + 206) 5 ∧ X2 (i + 206) 5 ≤ 36 := ls_sz ls
    have nn : ∀ k : Nat, (k : Int) < X2 (i + 206) 5 → 0 ≤ X2 (i + 245) k := ls_nn ls
    have u : ∀ y, y = fiOf (hL Z q a b g d) q f → y = rFits Z q a b g d f := fun y hy => by
      unfold rFits
      rw [← er, c1]
      exact hy
    refine ⟨?_, ?_⟩
    · intro c2
      refine ⟨hK, u _ ?_, qk⟩
      unfold fiOf
      rw [if_neg (by omega), if_pos (by omega)]
      exact sz.1
    refine ⟨?_, ?_⟩
    · intro c3
      refine ⟨?_, ?_⟩
      · exact ⟨⟨by decide, by decide⟩, ⟨by decide, by decide⟩, sz.2, nn⟩
      intro _
      refine ⟨hK, u _ ?_, qk⟩
      unfold fiOf
      rw [if_neg (by omega), if_neg (by omega), if_pos (by omega)]
      exact ls_su (g := fun e => e / 20) ls ls_g1
    refine ⟨?_, ?_⟩
    · intro c4
      refine ⟨?_, ?_⟩
      · exact ⟨⟨by decide, by decide⟩, ⟨by decide, by decide⟩, sz.2, nn⟩
      intro _
      refine ⟨hK, u _ ?_, qk⟩
      unfold fiOf
      rw [if_neg (by omega), if_neg (by omega), if_neg (by omega), if_pos (by omega)]
      exact ls_su (g := fun e => e / 10 % 2) ls ls_g2
    refine ⟨?_, ?_⟩
    · intro c5
      refine ⟨?_, ?_⟩
      · exact ⟨⟨by decide, by decide⟩, ⟨by decide, by decide⟩, sz.2, nn⟩
      intro _
      refine ⟨hK, u _ ?_, qk⟩
      unfold fiOf
      rw [if_neg (by omega), if_neg (by omega), if_neg (by omega), if_neg (by omega), if_pos (by omega)]
      exact ls_su (g := fun e => e % 10) ls ls_g3
    refine ⟨?_, ?_⟩
    · intro c6
      refine ⟨?_, ?_⟩
      · exact ls_V hv ls
      intro r16
      intro _
      intro X15
      intro rX15
      intro h2
      obtain ⟨e2, o2⟩ := h2
      refine ⟨hK, u _ ?_, ⟨fun z hz => (o2 z (by omega)).trans (qk.1 z hz), ?_⟩⟩
      · unfold fiOf
        have b40 := (cN_b (lwF (hL Z q a b g d) q) 40).1
        rw [if_neg (by omega), if_neg (by omega), if_neg (by omega), if_neg (by omega), if_neg (by omega), if_pos (by omega), e2, sz.1]
        by_cases g0 : cN (lwF (hL Z q a b g d) q) 40 = 0
        · rw [if_pos g0, if_pos (by omega)]
        · rw [if_neg g0, if_neg (by omega), akW_cong (fun y hy => ls_gg hv ls (show y ≤ 40 by omega))]
      · unfold chI
        rw [o2 (i + 157 + 9) (by omega), o2 (i + 157 + 11) (by omega)]
        exact qk.2
    intro c7
    refine ⟨?_, ?_⟩
    · intro c8
      refine ⟨hK, u _ ?_, qk⟩
      unfold fiOf
      rw [if_neg (by omega), if_neg (by omega), if_neg (by omega), if_neg (by omega), if_neg (by omega), if_neg (by omega)]
    intro c9
    refine ⟨?_, ?_⟩
    · first | omega | exact ⟨by omega, by omega⟩ | decide | assumption | exact ⟨by omega, by omega, by omega⟩ | exact ⟨by decide, by decide⟩
    refine ⟨?_, ?_⟩
    · intro c10
      refine ⟨hK, u _ ?_, qk⟩
      unfold fiOf
      rw [if_pos (by omega), akN_no 40 (by rw [← sz.1]; omega)]
    intro c11
    refine ⟨?_, ?_⟩
    · first | omega | exact ⟨by omega, by omega⟩ | decide | assumption | exact ⟨by omega, by omega, by omega⟩ | exact ⟨by decide, by decide⟩
    refine ⟨hK, u _ ?_, qk⟩
    obtain ⟨n, hn⟩ : ∃ n : Nat, f - 10 = n := ⟨(f - 10).toNat, by omega⟩
    obtain ⟨w, h1, h2, h3, h4, _⟩ := ls_k ls (k := n) (by show (n : Int) < X2 (i + 206) 5; omega)
    unfold fiOf
    rw [if_pos (by omega), hn, akN_y h2 h3 40 h1]
    exact h4
  intro c12
  exact ⟨hK, by unfold rFits; rw [← er, c12]; rfl, by rw [hf c12]; exact ⟨fun _ _ => rfl, hp.2.2⟩⟩
theorem c_X10_fits {l : Launch} {D : va_G} {cy : Nat → ClassId} {bs N : Nat} {sa : Nat → Nat} {kd len : Nat → Nat} {X Y : Nat → Int → Int} {R : Nat → Int → Option Nat} {i : Nat} {Z : Nat → Int → Int} {q : Nat} (hC : zWC N kd len R i) (a : Int) (ha : rI a) (b : Int) (hb : rI b) (g : Int) (hg : rI g) (d : Int) (hd : rI d) (f : Int) (hf : rI f) (hp : wcQ Z q X i) : Met l yX10_fits (.code yX10_fits cX10_fits 6 (some .int) :: zTB) (zRm 6 184) (zPc D cy bs sa N kd len X Y R [.ref (bs + (i)), .int (zI (a)), .int (zI (b)), .int (zI (g)), .int (zI (d)), .int (zI (f))]) (zQi D cy bs N kd len (fun r st => (wcK R (st.2.2) i ∧ r = rFits Z q (a) (b) (g) (d) (f) ∧ qK X (st.1) i))) 0 0 (zA bs) := w_X10_fits hC a ha b hb g hg d hd f hf (v_X10_fits a ha b hb g hg d hd f hf hp)
abbrev cX10_odds : ByteArray := prog_1_method_46_code
def yX10_odds : MethodName := ⟨RX10, "odds", "(IIIIIZ)I"⟩
theorem dX10_odds_0 : decode cX10_odds 0 = .ok (.iload 5, 2) := by decide +kernel
theorem dX10_odds_2 : decode cX10_odds 2 = .ok (.ifCond .lt 31, 3) := by decide +kernel
theorem dX10_odds_5 : decode cX10_odds 5 = .ok (.iload 5, 2) := by decide +kernel
theorem dX10_odds_7 : decode cX10_odds 7 = .ok (.iconst 1, 1) := by decide +kernel
theorem dX10_odds_8 : decode cX10_odds 8 = .ok (.if_icmp .gt 25, 3) := by decide +kernel
theorem dX10_odds_11 : decode cX10_odds 11 = .ok (.aload_n 0, 1) := by decide +kernel
theorem dX10_odds_12 : decode cX10_odds 12 = .ok (.iload_n 1, 1) := by decide +kernel
theorem dX10_odds_13 : decode cX10_odds 13 = .ok (.iload_n 2, 1) := by decide +kernel
theorem dX10_odds_14 : decode cX10_odds 14 = .ok (.iload_n 3, 1) := by decide +kernel
theorem dX10_odds_15 : decode cX10_odds 15 = .ok (.iload 4, 2) := by decide +kernel
theorem dX10_odds_17 : decode cX10_odds 17 = .ok (.invokevirtual 432, 3) := by decide +kernel
theorem dX10_odds_20 : decode cX10_odds 20 = .ok (.ifCond .eq 13, 3) := by decide +kernel
theorem dX10_odds_23 : decode cX10_odds 23 = .ok (.aload_n 0, 1) := by decide +kernel
theorem dX10_odds_24 : decode cX10_odds 24 = .ok (.getfield 52, 3) := by decide +kernel
theorem dX10_odds_27 : decode cX10_odds 27 = .ok (.getfield 436, 3) := by decide +kernel
theorem dX10_odds_30 : decode cX10_odds 30 = .ok (.ifCond .ne 5, 3) := by decide +kernel
theorem dX10_odds_33 : decode cX10_odds 33 = .ok (.iconst (-1), 1) := by decide +kernel
theorem dX10_odds_34 : decode cX10_odds 34 = .ok (.ireturn, 1) := by decide +kernel
theorem dX10_odds_35 : decode cX10_odds 35 = .ok (.iconst 0, 1) := by decide +kernel
theorem dX10_odds_36 : decode cX10_odds 36 = .ok (.istore 7, 2) := by decide +kernel
theorem dX10_odds_38 : decode cX10_odds 38 = .ok (.iconst 0, 1) := by decide +kernel
theorem dX10_odds_39 : decode cX10_odds 39 = .ok (.istore 8, 2) := by decide +kernel
theorem dX10_odds_41 : decode cX10_odds 41 = .ok (.iload 8, 2) := by decide +kernel
theorem dX10_odds_43 : decode cX10_odds 43 = .ok (.aload_n 0, 1) := by decide +kernel
theorem dX10_odds_44 : decode cX10_odds 44 = .ok (.getfield 52, 3) := by decide +kernel
theorem dX10_odds_47 : decode cX10_odds 47 = .ok (.getfield 436, 3) := by decide +kernel
theorem dX10_odds_50 : decode cX10_odds 50 = .ok (.if_icmp .ge 30, 3) := by decide +kernel
theorem dX10_odds_53 : decode cX10_odds 53 = .ok (.aload_n 0, 1) := by decide +kernel
theorem dX10_odds_54 : decode cX10_odds 54 = .ok (.getfield 52, 3) := by decide +kernel
theorem dX10_odds_57 : decode cX10_odds 57 = .ok (.getfield 448, 3) := by decide +kernel
theorem dX10_odds_60 : decode cX10_odds 60 = .ok (.iload 8, 2) := by decide +kernel
theorem dX10_odds_62 : decode cX10_odds 62 = .ok (.iaload, 1) := by decide +kernel
theorem dX10_odds_63 : decode cX10_odds 63 = .ok (.bipush 20, 2) := by decide +kernel
theorem dX10_odds_65 : decode cX10_odds 65 = .ok (.idiv, 1) := by decide +kernel
theorem dX10_odds_66 : decode cX10_odds 66 = .ok (.iload 5, 2) := by decide +kernel
theorem dX10_odds_68 : decode cX10_odds 68 = .ok (.if_icmp .ne 6, 3) := by decide +kernel
theorem dX10_odds_71 : decode cX10_odds 71 = .ok (.iinc 7 1, 3) := by decide +kernel
theorem dX10_odds_74 : decode cX10_odds 74 = .ok (.iinc 8 1, 3) := by decide +kernel
theorem dX10_odds_77 : decode cX10_odds 77 = .ok (.goto (-36), 3) := by decide +kernel
theorem dX10_odds_80 : decode cX10_odds 80 = .ok (.iload 7, 2) := by decide +kernel
theorem dX10_odds_82 : decode cX10_odds 82 = .ok (.i2l, 1) := by decide +kernel
theorem dX10_odds_83 : decode cX10_odds 83 = .ok (.aload_n 0, 1) := by decide +kernel
theorem dX10_odds_84 : decode cX10_odds 84 = .ok (.getfield 52, 3) := by decide +kernel
theorem dX10_odds_87 : decode cX10_odds 87 = .ok (.getfield 436, 3) := by decide +kernel
theorem dX10_odds_90 : decode cX10_odds 90 = .ok (.i2l, 1) := by decide +kernel
theorem dX10_odds_91 : decode cX10_odds 91 = .ok (.iload 6, 2) := by decide +kernel
theorem dX10_odds_93 : decode cX10_odds 93 = .ok (.invokestatic 340, 3) := by decide +kernel
theorem dX10_odds_96 : decode cX10_odds 96 = .ok (.l2i, 1) := by decide +kernel
theorem dX10_odds_97 : decode cX10_odds 97 = .ok (.ireturn, 1) := by decide +kernel
def F_X10_odds (i : Nat) (Z : Nat → Int → Int) (q : Nat) (X Y : Nat → Int → Int) (R : Nat → Int → Option Nat) (a : Int) (b : Int) (g : Int) (d : Int) (f : Int) (k : Bool) : Prop := (∀ i j, rI (X i j)) → (∀ i j, rL (Y i j)) → ((f < 0) → (wcK R (R) i ∧ (-1) = rOdds Z q (a) (b) (g) (d) (f) (k) ∧ qK X (X) i)) ∧ ((¬ (f < 0)) → (((1 < f) → (wcK R (R) i ∧ (-1) = rOdds Z q (a) (b) (g) (d) (f) (k) ∧ qK X (X) i)) ∧ ((¬ (1 < f)) → ((wcQ Z q X i) ∧ (∀ r7 : Bool, ∀ X4 : Nat → Int → Int, (∀ i j, rI (X4 i j)) → ∀ Y5 : Nat → Int → Int, (∀ i j, rL (Y5 i j)) → ∀ R6 : Nat → Int → Option Nat, (wcK R (R6) i ∧ r7 = lgOk Z q (a) (b) (g) (d) ∧ (r7 = false → (X4) = X) ∧ (r7 = true → qK X (X4) i ∧ lsR (hL Z q (a) (b) (g) (d)) q (X4) (i + 157) 41)) → (((r7 = false) → (wcK R (R6) i ∧ (-1) = rOdds Z q (a) (b) (g) (d) (f) (k) ∧ qK X (X4) i)) ∧ ((r7 = true) → (((¬ (X4 (i + 206) 5) = 0) → ((∃ m : Nat, (0 : Int) = m ∧ m ≤ (X4 (i + 206) 5).toNat ∧ (0 : Int) = cN (fun k => decide ((X4 (i + 245) k).tdiv 20 = f)) m) ∧ (∀ (co : Int) (y : Int), rI co → rI y → (∃ m : Nat, y = m ∧ m ≤ (X4 (i + 206) 5).toNat ∧ co = cN (fun k => decide ((X4 (i + 245) k).tdiv 20 = f)) m) → ((((X4 (i + 206) 5) ≤ y) → (((0 ≤ co ∧ co ≤ 4000000000000) ∧ 1 ≤ (X4 (i + 206) 5) ∧ (X4 (i + 206) 5) ≤ 4000000000000) ∧ (rL (mPt (co) (X4 (i + 206) 5) (k)) → ((rI (mPt (co) (X4 (i + 206) 5) (k))) ∧ (wcK R (R6) i ∧ (mPt (co) (X4 (i + 206) 5) (k)) = rOdds Z q (a) (b) (g) (d) (f) (k) ∧ qK X (X4) i))))) ∧ ((¬ ((X4 (i + 206) 5) ≤ y)) → ((0 ≤ y ∧ y < 36) ∧ (((¬ ((X4 (i + 245) (y)).tdiv (20)) = f) → ((rI (y + 1)) ∧ (∃ m : Nat, (y + 1) = m ∧ m ≤ (X4 (i + 206) 5).toNat ∧ co = cN (fun k => decide ((X4 (i + 245) k).tdiv 20 = f)) m) ∧ (((X4 (i + 206) 5 - (y + 1)).toNat) < ((X4 (i + 206) 5 - y).toNat)))) ∧ ((¬ (¬ ((X4 (i + 245) (y)).tdiv (20)) = f)) → ((rI (co + 1)) ∧ (rI (y + 1)) ∧ (∃ m : Nat, (y + 1) = m ∧ m ≤ (X4 (i + 206) 5).toNat ∧ (co + 1) = cN (fun k => decide ((X4 (i + 245) k).tdiv 20 = f)) m) ∧ (((X4 (i + 206) 5 - (y + 1)).toNat) < ((X4 (i + 206) 5 - y).toNat))))))))))) ∧ ((¬ (¬ (X4 (i + 206) 5) = 0)) → (wcK R (R6) i ∧ (-1) = rOdds Z q (a) (b) (g) (d) (f) (k) ∧ qK X (X4) i))))))))))
set_option maxHeartbeats 4000000 in
set_option maxRecDepth 100000 in
theorem w_X10_odds {l : Launch} {D : va_G} {cy : Nat → ClassId} {bs N : Nat} {sa : Nat → Nat} {kd len : Nat → Nat} {X Y : Nat → Int → Int} {R : Nat → Int → Option Nat} {i : Nat} {Z : Nat → Int → Int} {q : Nat} (hC : zWC N kd len R i) (a : Int) (ha : rI a) (b : Int) (hb : rI b) (g : Int) (hg : rI g) (d : Int) (hd : rI d) (f : Int) (hf : rI f) (k : Bool) (hF : F_X10_odds i Z q X Y R a b g d f k) : Met l yX10_odds (.code yX10_odds cX10_odds 9 (some .int) :: zTB) (zRm 6 184) (zPc D cy bs sa N kd len X Y R [.ref (bs + (i)), .int (zI (a)), .int (zI (b)), .int (zI (g)), .int (zI (d)), .int (zI (f)), .int (zI (bz (k)))]) (zQi D cy bs N kd len (fun r st => (wcK R (st.2.2) i ∧ r = rOdds Z q (a) (b) (g) (d) (f) (k) ∧ qK X (st.1) i))) 0 0 (zA bs) := by
  refine zstart (by decide) (Nat.le_of_ble_eq_true rfl) ?_
  intro p e s m args below meth c ls C hE hH hr hlk hnm hl hargs
  have hF := hF hH.2.2.1 hH.2.2.2
  have hS : va_S (zA bs) s.heap s.heap [] := va_S.rf
  have hl : lv_has ls 9 [(0, .ref (bs + (i))), (1, .int (zI (a))), (2, .int (zI (b))), (3, .int (zI (g))), (4, .int (zI (d))), (5, .int (zI (f))), (6, .int (zI (bz (k))))] := hl
  refine lv_iload C.1 C.2.1 dX10_odds_0 (lv_at hl 5 rfl) ?_
  refine zd_if_lt C hf 33 dX10_odds_2 (by decide) (fun c1 => ?_) (fun c1 => ?_)
  · have hF := hF.1 c1
    refine zd_iconst C dX10_odds_33 ?_
    exact zd_iret C hr hlk hH hS (by decide) (hF) dX10_odds_34
  · have hF := hF.2 c1
    refine lv_iload C.1 C.2.1 dX10_odds_5 (lv_at hl 5 rfl) ?_
    refine zd_iconst C dX10_odds_7 ?_
    refine zd_icmp_gt C hf (by decide) 33 dX10_odds_8 (by decide) (fun c2 => ?_) (fun c2 => ?_)
    · have hF := hF.1 c2
      refine zd_iconst C dX10_odds_33 ?_
      exact zd_iret C hr hlk hH hS (by decide) (hF) dX10_odds_34
    · have hF := hF.2 c2
      refine lv_aload_n C.1 C.2.1 dX10_odds_11 rfl (lv_at hl 0 rfl) ?_
      refine lv_iload_n C.1 C.2.1 dX10_odds_12 rfl (lv_at hl 1 rfl) ?_
      refine lv_iload_n C.1 C.2.1 dX10_odds_13 rfl (lv_at hl 2 rfl) ?_
      refine lv_iload_n C.1 C.2.1 dX10_odds_14 rfl (lv_at hl 3 rfl) ?_
      refine lv_iload C.1 C.2.1 dX10_odds_15 (lv_at hl 4 rfl) ?_
      obtain ⟨o3, hF⟩ := hF
      refine zgoi (zrunV (As := [.int (zI (a)), .int (zI (b)), .int (zI (g)), .int (zI (d))]) (rest := []) C hE hH hS hl.1 (c_X10_survey (l := l) hC (a) ha (b) hb (g) hg (d) hd o3) k_RX10_432 ⟨Nat.le_of_ble_eq_true rfl, Nat.le_of_ble_eq_true rfl⟩ (zW_n hC) (zW_k hC) rfl rfl rfl (Nat.le_of_ble_eq_true rfl) dX10_odds_17 ⟨Nat.zero_le _, Nat.zero_le _⟩) hS (fun rq X4 Y5 R6 H locs hrq hq hH hS => ?_)
      obtain ⟨r7, h91, hq⟩ := hq
      subst h91
      have hF := hF r7 X4 hH.2.2.1 Y5 hH.2.2.2 R6 hq
      have hC := hq.1.1 _ _ _ hC
      refine zd_ifB_eq C 33 dX10_odds_20 (by decide) (fun c8 => ?_) (fun c8 => ?_)
      · have hF := hF.1 c8
        refine zd_iconst C dX10_odds_33 ?_
        exact zd_iret C hr hlk hH hS (by decide) (hF) dX10_odds_34
      · have hF := hF.2 c8
        refine lv_aload_n C.1 C.2.1 dX10_odds_23 rfl (lv_at hl 0 rfl) ?_
        refine zg10_6 C hH (zW_n hC) (zW_k hC) q_575 (zW_lw hC).2.2.1 dX10_odds_24 ?_
        refine zg4_5 C hH (zLw_n0 (zW_lw hC).2.2.2) (zLw_k0 (zW_lw hC).2.2.2) q_521 dX10_odds_27 ?_
        refine zd_if_ne C (hH.2.2.1 _ _) 35 dX10_odds_30 (by decide) (fun c9 => ?_) (fun c9 => ?_)
        · have hF := hF.1 c9
          refine zd_iconst C dX10_odds_35 ?_
          refine lv_istore (lv' := [(7, .int (zI (0))), (0, .ref (bs + (i))), (1, .int (zI (a))), (2, .int (zI (b))), (3, .int (zI (g))), (4, .int (zI (d))), (5, .int (zI (f))), (6, .int (zI (bz (k))))]) C.1 C.2.1 dX10_odds_36 hl (by decide) rfl (fun ls hl => ?_)
          refine zd_iconst C dX10_odds_38 ?_
          refine lv_istore (lv' := [(8, .int (zI (0))), (7, .int (zI (0))), (0, .ref (bs + (i))), (1, .int (zI (a))), (2, .int (zI (b))), (3, .int (zI (g))), (4, .int (zI (d))), (5, .int (zI (f))), (6, .int (zI (bz (k))))]) C.1 C.2.1 dX10_odds_39 hl (by decide) rfl (fun ls hl => ?_)
          obtain ⟨hI10, hF⟩ := hF
          have L10 : ∀ (fu : Nat) (co : Int) (y : Int), rI co → rI y → (∃ m : Nat, y = m ∧ m ≤ (X4 (i + 206) 5).toNat ∧ co = cN (fun k => decide ((X4 (i + 245) k).tdiv 20 = f)) m) → ((X4 (i + 206) 5 - y).toNat) < fu → ∀ (H : Heap) (locs : List Loc) (ls : Array Slot), zH D cy bs N kd len X4 Y5 R6 H → va_S (zA bs) s.heap H locs → lv_has ls 9 [(7, .int (zI (co))), (8, .int (zI (y))), (0, .ref (bs + (i))), (1, .int (zI (a))), (2, .int (zI (b))), (3, .int (zI (g))), (4, .int (zI (d))), (5, .int (zI (f))), (6, .int (zI (bz (k))))] → W p l e (zRm 6 184) s m args below meth c H locs 0 0 (MQ below (zQi D cy bs N kd len (fun r st => (wcK R (st.2.2) i ∧ r = rOdds Z q (a) (b) (g) (d) (f) (k) ∧ qK X (st.1) i))) args s 0 0 (zA bs)) (F0 m 41 ls []) := by
            intro fu
            induction fu with
            | zero => intro co y _ _ _ hmu; exact absurd hmu (Nat.not_lt_zero _)
            | succ fu ih10 =>
              intro co y hco hy hI hmu10 H locs ls hH hS hl
              have hF := hF co y hco hy  hI
              refine lv_iload C.1 C.2.1 dX10_odds_41 (lv_at hl 1 rfl) ?_
              refine lv_aload_n C.1 C.2.1 dX10_odds_43 rfl (lv_at hl 2 rfl) ?_
              refine zg10_6 C hH (zW_n hC) (zW_k hC) q_575 (zW_lw hC).2.2.1 dX10_odds_44 ?_
              refine zg4_5 C hH (zLw_n0 (zW_lw hC).2.2.2) (zLw_k0 (zW_lw hC).2.2.2) q_521 dX10_odds_47 ?_
              refine zd_icmp_ge C hy (hH.2.2.1 _ _) 80 dX10_odds_50 (by decide) (fun c11 => ?_) (fun c11 => ?_)
              · have hF := hF.1 c11
                refine lv_iload C.1 C.2.1 dX10_odds_80 (lv_at hl 0 rfl) ?_
                refine zd_i2l C hco dX10_odds_82 ?_
                refine lv_aload_n C.1 C.2.1 dX10_odds_83 rfl (lv_at hl 2 rfl) ?_
                refine zg10_6 C hH (zW_n hC) (zW_k hC) q_575 (zW_lw hC).2.2.1 dX10_odds_84 ?_
                refine zg4_5 C hH (zLw_n0 (zW_lw hC).2.2.2) (zLw_k0 (zW_lw hC).2.2.2) q_521 dX10_odds_87 ?_
                refine zd_i2l C (hH.2.2.1 _ _) dX10_odds_90 ?_
                refine lv_iload C.1 C.2.1 dX10_odds_91 (lv_at hl 8 rfl) ?_
                obtain ⟨o12, hF⟩ := hF
                refine zgol (zrunS (As := [.long (zL (co)), .long (zL (X4 (i + 206) 5)), .int (zI (bz (k)))]) (rest := []) C hE hH hS hl.1 (c_X10_inLeastTerms (l := l)  (co) (rI_rL hco) (X4 (i + 206) 5) (rI_rL (hH.2.2.1 _ _)) (k) o12) k_RX10_340 ⟨Nat.le_of_ble_eq_true rfl, Nat.le_of_ble_eq_true rfl⟩ rfl (Nat.le_of_ble_eq_true rfl) dX10_odds_93 ⟨Nat.zero_le _, Nat.zero_le _⟩) hS (fun rq Xq Yq Rq H locs hrq hq hH hS => ?_)
                obtain ⟨h91, h92⟩ := hq
                have h93 : Xq = X4 := congrArg (fun z => z.1) h92
                have h94 : Yq = Y5 := congrArg (fun z => z.2.1) h92
                have h95 : Rq = R6 := congrArg (fun z => z.2.2) h92
                rw [h93, h94, h95] at hH
                subst h91
                have hr13 := hrq
                have hF := hF hr13
                refine zd_l2i C dX10_odds_96 ?_
                obtain ⟨o14, hF⟩ := hF
                exact zd_iret C hr hlk hH hS o14 (hF) dX10_odds_97
              · have hF := hF.2 c11
                refine lv_aload_n C.1 C.2.1 dX10_odds_53 rfl (lv_at hl 2 rfl) ?_
                refine zg10_6 C hH (zW_n hC) (zW_k hC) q_575 (zW_lw hC).2.2.1 dX10_odds_54 ?_
                refine zg4_4 C hH (zLw_n0 (zW_lw hC).2.2.2) (zLw_k0 (zW_lw hC).2.2.2) q_519 (zLw_m (zW_lw hC).2.2.2).2.2 dX10_odds_57 ?_
                refine lv_iload C.1 C.2.1 dX10_odds_60 (lv_at hl 1 rfl) ?_
                obtain ⟨o15, hF⟩ := hF
                refine zd_iald C hH (zLw_nn (zW_lw hC).2.2.2) (zLw_m (zW_lw hC).2.2.2).1 o15.1 (by rw [zLw_lm (zW_lw hC).2.2.2]; exact o15.2) (by rw [zLw_lm (zW_lw hC).2.2.2]; decide) dX10_odds_62 ?_
                refine zd_bipush C (by decide) dX10_odds_63 ?_
                refine zd_idiv C (hH.2.2.1 _ _) (by decide) (by decide) (by decide) dX10_odds_65 ?_
                refine lv_iload C.1 C.2.1 dX10_odds_66 (lv_at hl 7 rfl) ?_
                refine zd_icmp_ne C (tdiv_rI (hH.2.2.1 _ _) (show (20 : Int) ≠ -1 from (by decide))) hf 74 dX10_odds_68 (by decide) (fun c16 => ?_) (fun c16 => ?_)
                · have hF := hF.1 c16
                  refine zd_iinc (k := 1) (lv' := [(8, .int (zI (y + 1))), (7, .int (zI (co))), (0, .ref (bs + (i))), (1, .int (zI (a))), (2, .int (zI (b))), (3, .int (zI (g))), (4, .int (zI (d))), (5, .int (zI (f))), (6, .int (zI (bz (k))))]) C hl rfl dX10_odds_74 (by decide) rfl (fun ls hl => ?_)
                  refine lv_goto (tgt := 41) C.1 C.2.1 dX10_odds_77 (by decide) ?_
                  obtain ⟨o17, hF⟩ := hF
                  exact ih10 (co) (y + 1) hco o17 hF.1 (Nat.lt_of_lt_of_le hF.2 (Nat.le_of_lt_succ hmu10)) _ _ _ hH hS (lv_sub hl [1, 0, 2, 3, 4, 5, 6, 7, 8] rfl)
                · have hF := hF.2 c16
                  refine zd_iinc (k := 0) (lv' := [(7, .int (zI (co + 1))), (8, .int (zI (y))), (0, .ref (bs + (i))), (1, .int (zI (a))), (2, .int (zI (b))), (3, .int (zI (g))), (4, .int (zI (d))), (5, .int (zI (f))), (6, .int (zI (bz (k))))]) C hl rfl dX10_odds_71 (by decide) rfl (fun ls hl => ?_)
                  refine zd_iinc (k := 1) (lv' := [(8, .int (zI (y + 1))), (7, .int (zI (co + 1))), (0, .ref (bs + (i))), (1, .int (zI (a))), (2, .int (zI (b))), (3, .int (zI (g))), (4, .int (zI (d))), (5, .int (zI (f))), (6, .int (zI (bz (k))))]) C hl rfl dX10_odds_74 (by decide) rfl (fun ls hl => ?_)
                  refine lv_goto (tgt := 41) C.1 C.2.1 dX10_odds_77 (by decide) ?_
                  obtain ⟨o18, hF⟩ := hF
                  obtain ⟨o19, hF⟩ := hF
                  exact ih10 (co + 1) (y + 1) o18 o19 hF.1 (Nat.lt_of_lt_of_le hF.2 (Nat.le_of_lt_succ hmu10)) _ _ _ hH hS (lv_sub hl [1, 0, 2, 3, 4, 5, 6, 7, 8] rfl)
          exact L10 (((X4 (i + 206) 5 - (0 : Int)).toNat) + 1) ((0 : Int)) ((0 : Int)) (by decide) (by decide) hI10 (Nat.lt_succ_self _) _ _ _ hH hS (lv_sub hl [1, 0, 2, 3, 4, 5, 6, 7, 8] rfl)
        · have hF := hF.2 c9
          refine zd_iconst C dX10_odds_33 ?_
          exact zd_iret C hr hlk hH hS (by decide) (hF) dX10_odds_34
theorem v_X10_odds {X Y : Nat → Int → Int} {R : Nat → Int → Option Nat} {i : Nat} {Z : Nat → Int → Int} {q : Nat} (a : Int) (ha : rI a) (b : Int) (hb : rI b) (g : Int) (hg : rI g) (d : Int) (hd : rI d) (f : Int) (hf : rI f) (k : Bool) (hp : wcQ Z q X i) : F_X10_odds i Z q X Y R a b g d f k := by
  unfold F_X10_odds
  intro hX hY
  refine ⟨?_, ?_⟩
  · intro c1
    exact ⟨wcK.rf, by unfold rOdds; rw [mIn_f.mpr (by omega)]; rfl, ⟨fun _ _ => rfl, hp.2.2⟩⟩
  intro c2
  refine ⟨?_, ?_⟩
  · intro c3
    exact ⟨wcK.rf, by unfold rOdds; rw [mIn_f.mpr (by omega)]; rfl, ⟨fun _ _ => rfl, hp.2.2⟩⟩
  intro c4
  have em : mIn f 0 1 = true := mIn_t.mpr (by omega)
  refine ⟨?_, ?_⟩
  · exact hp
  intro r7
  intro X4
  intro rX4
  intro Y5
  intro rY5
  intro R6
  intro h1
  obtain ⟨hK, er, hf, ht⟩ := h1
  refine ⟨?_, ?_⟩
  · intro c5
    exact ⟨hK, by unfold rOdds; rw [← er, c5, Bool.and_false]; rfl, by rw [hf c5]; exact ⟨fun _ _ => rfl, hp.2.2⟩⟩
  intro c6
  obtain ⟨qk, ls⟩ := ht c6
  have eo := lgOk_t.mp (er.symm.trans c6)
  have hv : vZ (hL Z q a b g d) q := vZ_t hL_t (hz_v hp.1.1 eo.2.1.1 eo.2.1.2)
  have sz : X4 (i + 206) 5 = cN (lwF (hL Z q a b g d) q) 40 ∧ 0 ≤ X4 (i + 206) 5 ∧ X4 (i + 206) 5 ≤ 36 := ls_sz ls
  have nn : ∀ k : Nat, (k : Int) < X4 (i + 206) 5 → 0 ≤ X4 (i + 245) k := ls_nn ls
  have u : ∀ y, y = odOf (hL Z q a b g d) q f k → y = rOdds Z q a b g d f k := fun y hy => by
    unfold rOdds
    rw [em, ← er, c6]
    exact hy
  refine ⟨?_, ?_⟩
  · intro c7
    refine ⟨?_, ?_⟩
    · exact ⟨0, rfl, Nat.zero_le _, rfl⟩
    intro co y
    intro _
    intro _
    intro h2
    obtain ⟨m, rfl, hm, hco⟩ := h2
    have bco := cN_b (fun k => decide ((X4 (i + 245) k).tdiv 20 = f)) m
    rw [← hco] at bco
    refine ⟨?_, ?_⟩
    · intro c8
      have e9 : m = (X4 (i + 206) 5).toNat := by omega
      have mb := mPt_b (a := co) (b := X4 (i + 206) 5) (u := k) bco.1 (by omega)
      have eco : co = if f = 1 then smN (lwF (hL Z q a b g d) q) (fun e => e / 20) 40 else cN (lwF (hL Z q a b g d) q) 40 - smN (lwF (hL Z q a b g d) q) (fun e => e / 20) 40 := by
        have l := ls_od ls f
        have s1 := smN_1 (f := lwF (hL Z q a b g d) q) 40 (by decide)
        rw [hco, e9]
        refine l.trans ?_
        by_cases f1 : f = 1
        · rw [if_pos f1, f1]
          exact s1.1.symm
        · rw [if_neg f1, show f = 0 by omega]
          exact s1.2.symm
      refine ⟨?_, ?_⟩
      · exact ⟨⟨by omega, by omega⟩, by omega, by omega⟩
      intro _
      refine ⟨?_, ?_⟩
      · first | omega | exact ⟨by omega, by omega⟩ | decide | assumption | exact ⟨by omega, by omega, by omega⟩ | exact ⟨by decide, by decide⟩
      refine ⟨hK, u _ ?_, qk⟩
      unfold odOf
      rw [if_neg (by rw [← sz.1]; exact c7), ← eco, sz.1]
    intro c9
    refine ⟨?_, ?_⟩
    · first | omega | exact ⟨by omega, by omega⟩ | decide | assumption | exact ⟨by omega, by omega, by omega⟩ | exact ⟨by decide, by decide⟩
    refine ⟨?_, ?_⟩
    · intro c10
      refine ⟨?_, ?_⟩
      · first | omega | exact ⟨by omega, by omega⟩ | decide | assumption | exact ⟨by omega, by omega, by omega⟩ | exact ⟨by decide, by decide⟩
      refine ⟨?_, ?_⟩
      · refine ⟨m + 1, by omega, by omega, ?_⟩
        show co = cN _ m + (if decide ((X4 (i + 245) (m : Int)).tdiv 20 = f) then 1 else 0)
        rw [decide_eq_false c10, ← hco]
        exact (Int.add_zero _).symm
      first | omega | exact ⟨by omega, by omega⟩ | decide | assumption | exact ⟨by omega, by omega, by omega⟩ | exact ⟨by decide, by decide⟩
    intro c11
    refine ⟨?_, ?_⟩
    · first | omega | exact ⟨by omega, by omega⟩ | decide | assumption | exact ⟨by omega, by omega, by omega⟩ | exact ⟨by decide, by decide⟩
    refine ⟨?_, ?_⟩
    · first | omega | exact ⟨by omega, by omega⟩ | decide | assumption | exact ⟨by omega, by omega, by omega⟩ | exact ⟨by decide, by decide⟩
    refine ⟨?_, ?_⟩
    · refine ⟨m + 1, by omega, by omega, ?_⟩
      show co + 1 = cN _ m + (if decide ((X4 (i + 245) (m : Int)).tdiv 20 = f) then 1 else 0)
      rw [decide_eq_true (Classical.not_not.mp c11), ← hco]
      rfl
    first | omega | exact ⟨by omega, by omega⟩ | decide | assumption | exact ⟨by omega, by omega, by omega⟩ | exact ⟨by decide, by decide⟩
  intro c12
  refine ⟨hK, u _ ?_, qk⟩
  unfold odOf
  rw [if_pos (by rw [← sz.1]; exact Classical.not_not.mp c12)]
theorem c_X10_odds {l : Launch} {D : va_G} {cy : Nat → ClassId} {bs N : Nat} {sa : Nat → Nat} {kd len : Nat → Nat} {X Y : Nat → Int → Int} {R : Nat → Int → Option Nat} {i : Nat} {Z : Nat → Int → Int} {q : Nat} (hC : zWC N kd len R i) (a : Int) (ha : rI a) (b : Int) (hb : rI b) (g : Int) (hg : rI g) (d : Int) (hd : rI d) (f : Int) (hf : rI f) (k : Bool) (hp : wcQ Z q X i) : Met l yX10_odds (.code yX10_odds cX10_odds 9 (some .int) :: zTB) (zRm 6 184) (zPc D cy bs sa N kd len X Y R [.ref (bs + (i)), .int (zI (a)), .int (zI (b)), .int (zI (g)), .int (zI (d)), .int (zI (f)), .int (zI (bz (k)))]) (zQi D cy bs N kd len (fun r st => (wcK R (st.2.2) i ∧ r = rOdds Z q (a) (b) (g) (d) (f) (k) ∧ qK X (st.1) i))) 0 0 (zA bs) := w_X10_odds hC a ha b hb g hg d hd f hf k (v_X10_odds a ha b hb g hg d hd f hf k hp)
