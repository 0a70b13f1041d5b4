/-! REPLAY -/
theorem pyR {X : Nat → Int → Int} {b j np : Nat} {k acc B c : Int} {pf pt pm : Nat → Int} {L : Int → Int} (hA : X j 0 = acc) (ha : acc ≤ 6) (hf : ∀ n : Nat, n < np → X (b + 5) ((k * 3 + n) * 3 + 0) = pf n ∧ X (b + 5) ((k * 3 + n) * 3 + 1) = pt n ∧ X (b + 5) ((k * 3 + n) * 3 + 2) = pm n) (hL : eqB acc (X (j + 1)) L) (hB : ∀ y, 0 ≤ y → y < 6 → 0 ≤ X (j + 1) y ∧ X (j + 1) y ≤ B) (hp : ∀ n : Nat, n < np → 0 ≤ pm n ∧ pm n ≤ 99) : ∀ n : Nat, n ≤ np → (0 ≤ (pyW X b j k n).2 ∧ (pyW X b j k n).2 ≤ n) ∧ (rpP acc pf pt pm (L, c) n).2 = c + (pyW X b j k n).2 ∧ eqB acc ((pyW X b j k n).1 (j + 1)) (rpP acc pf pt pm (L, c) n).1 ∧ ∀ y, 0 ≤ y → y < 6 → 0 ≤ (pyW X b j k n).1 (j + 1) y ∧ (pyW X b j k n).1 (j + 1) y ≤ B + 99 * n
  | 0, _ => ⟨⟨Int.le_refl _, Int.le_refl _⟩, (Int.add_zero c).symm, hL, fun y h0 h1 => by
    have := hB y h0 h1
    exact ⟨this.1, by show X (j + 1) y ≤ _; omega⟩⟩
  | n + 1, hn => by
    obtain ⟨⟨i1, i2⟩, i3, h2, i4⟩ := pyR (c := c) hA ha hf hL hB hp n (by omega)
    obtain ⟨f1, f2, f3⟩ := hf n (by omega)
    have pn := hp n (by omega)
    have st : pyW X b j k (n + 1) = if cPk (pyW X b j k n).1 j (pf n) (pt n) (pm n) 0 = true then (cPa (pyW X b j k n).1 j (pf n) (pt n) (pm n) 0, (pyW X b j k n).2 + 1) else pyW X b j k n := by
      rw [← f1, ← f2, ← f3]
      rfl
    have h0 : (pyW X b j k n).1 j 0 = acc := by rw [pyW_o n j (by omega)]; exact hA
    have rst : rpP acc pf pt pm (L, c) (n + 1) = if mIn (pf n) 0 (acc - 1) && mIn (pt n) 0 (acc - 1) && decide (pm n ≤ (rpP acc pf pt pm (L, c) n).1 (pf n)) then
      (upI (upI (rpP acc pf pt pm (L, c) n).1 (pf n) ((rpP acc pf pt pm (L, c) n).1 (pf n) - pm n)) (pt n) (upI (rpP acc pf pt pm (L, c) n).1 (pf n) ((rpP acc pf pt pm (L, c) n).1 (pf n) - pm n) (pt n) + pm n), (rpP acc pf pt pm (L, c) n).2 + 1)
    else rpP acc pf pt pm (L, c) n := rfl
    obtain ⟨Q, eQ⟩ : ∃ Q, Q = rpP acc pf pt pm (L, c) n := ⟨_, rfl⟩
    rw [← eQ] at rst i3 h2
    obtain ⟨W, eW⟩ : ∃ W, W = pyW X b j k n := ⟨_, rfl⟩
    rw [← eW] at st h0 h2 i1 i2 i3 i4
    have e : cPk W.1 j (pf n) (pt n) (pm n) 0 = (mIn (pf n) 0 (acc - 1) && mIn (pt n) 0 (acc - 1) && decide (pm n ≤ Q.1 (pf n))) := by
      unfold cPk
      rw [h0, Bool.eq_iff_iff]
      simp only [Bool.and_eq_true, decide_eq_true_eq, mIn_t]
      constructor
      · rintro ⟨⟨a, c⟩, d⟩
        rw [(h2 _ a.1 a.2.2).1 a.2.1] at d
        exact ⟨⟨by omega, by omega⟩, by omega⟩
      · rintro ⟨⟨a, c⟩, d⟩
        refine ⟨⟨by omega, by omega⟩, ?_⟩
        rw [(h2 _ a.1 (by omega)).1 (by omega)]
        omega
    rw [st, rst, e]
    cases cc : (mIn (pf n) 0 (acc - 1) && mIn (pt n) 0 (acc - 1) && decide (pm n ≤ Q.1 (pf n)))
    · rw [if_neg (by decide), if_neg (by decide)]
      exact ⟨⟨i1, by omega⟩, i3, h2, fun y y0 y1 => by have := i4 y y0 y1; exact ⟨this.1, by omega⟩⟩
    · rw [if_pos rfl, if_pos rfl]
      simp only [Bool.and_eq_true, decide_eq_true_eq, mIn_t] at cc
      obtain ⟨⟨a, cc⟩, d⟩ := cc
      have ef := (h2 _ a.1 (by omega)).1 (by omega)
      refine ⟨⟨by show 0 ≤ W.2 + 1; omega, by show W.2 + 1 ≤ _; omega⟩, by show Q.2 + 1 = c + (W.2 + 1); omega, ?_, ?_⟩
      · intro y y0 y1
        refine ⟨fun hy => ?_, fun hy => ?_⟩
        · show cPa _ _ _ _ _ _ _ _ = _
          unfold cPa
          rw [zU_up, zU_up]
          unfold upI
          rw [ef, (h2 y y0 y1).1 hy, (h2 (pt n) cc.1 (by omega)).1 (by omega), Int.add_zero]
        · show 0 ≤ cPa _ _ _ _ _ _ _ _ ∧ cPa _ _ _ _ _ _ _ _ ≤ 99
          unfold cPa
          rw [zU_up, zU_up]
          unfold upI
          rw [if_neg (show ¬ y = pt n by omega), if_neg (show ¬ y = pf n by omega)]
          exact (h2 y y0 y1).2 hy
      · intro y y0 y1
        show 0 ≤ cPa _ _ _ _ _ _ _ _ ∧ cPa _ _ _ _ _ _ _ _ ≤ _
        unfold cPa
        rw [zU_up, zU_up]
        unfold upI
        have bf := i4 (pf n) a.1 (by omega)
        have bt := i4 (pt n) cc.1 (by omega)
        have by9 := i4 y y0 y1
        rw [← ef] at d
        split
        · split
          · exact ⟨by omega, by omega⟩
          · exact ⟨by omega, by omega⟩
        · split
          · exact ⟨by omega, by omega⟩
          · exact ⟨by omega, by omega⟩
theorem rpB_s {acc : Int} {np : Nat → Nat} {pf pt pm : Nat → Nat → Int} {set : Int} {L : Int → Int} {k : Nat} : rpB acc np pf pt pm set L (k + 1) = if decide (1 ≤ k) && mHas set k then
      ((rpP acc (pf k) (pt k) (pm k) ((rpB acc np pf pt pm set L k).1, (rpB acc np pf pt pm set L k).2.1) (np k)).1, (rpP acc (pf k) (pt k) (pm k) ((rpB acc np pf pt pm set L k).1, (rpB acc np pf pt pm set L k).2.1) (np k)).2, (rpB acc np pf pt pm set L k).2.2 + np k)
    else rpB acc np pf pt pm set L k := rfl
theorem cb_wg {Z : Nat → Int → Int} {q : Nat} {R R1 : Nat → Int → Option Nat} {i : Nat} {a b : Int} (hO : oTN Z q) (e : R1 = wgR Z q R i a b) (h : rOk Z q a b = true) : ((0 ≤ a ∧ a < 2) ∧ 0 ≤ b ∧ b < 2) ∧ cb R1 (i + 157) = i + 9 + 8 * b.toNat ∧ cn R1 (i + 157) = i + 7 + 8 * a.toNat := by
  have g := h
  unfold rOk mIs at g
  rw [Bool.and_eq_true, mIn_t, mIn_t] at g
  have q0 := hO.1 0 (by decide) (by decide)
  have q1 := hO.1 1 (by decide) (by decide)
  refine ⟨⟨⟨by omega, by omega⟩, by omega, by omega⟩, ?_, ?_⟩
  · unfold cb
    rw [e]
    unfold wgR
    rw [if_pos ⟨⟨by omega, by omega, by omega, by omega⟩, h⟩, zU_n (by omega), zU_s]
    rfl
  · unfold cn
    rw [e]
    unfold wgR
    rw [if_pos ⟨⟨by omega, by omega, by omega, by omega⟩, h⟩, zU_s]
    rfl
abbrev cX10_replay : ByteArray := prog_1_method_39_code
def yX10_replay : MethodName := ⟨RX10, "replay", "(IIIIZ)I"⟩
theorem dX10_replay_0 : decode cX10_replay 0 = .ok (.aload_n 0, 1) := by decide +kernel
theorem dX10_replay_1 : decode cX10_replay 1 = .ok (.iload_n 1, 1) := by decide +kernel
theorem dX10_replay_2 : decode cX10_replay 2 = .ok (.iload_n 2, 1) := by decide +kernel
theorem dX10_replay_3 : decode cX10_replay 3 = .ok (.invokevirtual 202, 3) := by decide +kernel
theorem dX10_replay_6 : decode cX10_replay 6 = .ok (.ifCond .eq 26, 3) := by decide +kernel
theorem dX10_replay_9 : decode cX10_replay 9 = .ok (.aload_n 0, 1) := by decide +kernel
theorem dX10_replay_10 : decode cX10_replay 10 = .ok (.getfield 34, 3) := by decide +kernel
theorem dX10_replay_13 : decode cX10_replay 13 = .ok (.iload_n 3, 1) := by decide +kernel
theorem dX10_replay_14 : decode cX10_replay 14 = .ok (.invokevirtual 295, 3) := by decide +kernel
theorem dX10_replay_17 : decode cX10_replay 17 = .ok (.ifCond .eq 15, 3) := by decide +kernel
theorem dX10_replay_20 : decode cX10_replay 20 = .ok (.aload_n 0, 1) := by decide +kernel
theorem dX10_replay_21 : decode cX10_replay 21 = .ok (.getfield 34, 3) := by decide +kernel
theorem dX10_replay_24 : decode cX10_replay 24 = .ok (.iload 4, 2) := by decide +kernel
theorem dX10_replay_26 : decode cX10_replay 26 = .ok (.invokevirtual 295, 3) := by decide +kernel
theorem dX10_replay_29 : decode cX10_replay 29 = .ok (.ifCond .ne 5, 3) := by decide +kernel
theorem dX10_replay_32 : decode cX10_replay 32 = .ok (.iconst (-1), 1) := by decide +kernel
theorem dX10_replay_33 : decode cX10_replay 33 = .ok (.ireturn, 1) := by decide +kernel
theorem dX10_replay_34 : decode cX10_replay 34 = .ok (.aload_n 0, 1) := by decide +kernel
theorem dX10_replay_35 : decode cX10_replay 35 = .ok (.getfield 66, 3) := by decide +kernel
theorem dX10_replay_38 : decode cX10_replay 38 = .ok (.aload_n 0, 1) := by decide +kernel
theorem dX10_replay_39 : decode cX10_replay 39 = .ok (.getfield 34, 3) := by decide +kernel
theorem dX10_replay_42 : decode cX10_replay 42 = .ok (.getfield 251, 3) := by decide +kernel
theorem dX10_replay_45 : decode cX10_replay 45 = .ok (.iload 4, 2) := by decide +kernel
theorem dX10_replay_47 : decode cX10_replay 47 = .ok (.aaload, 1) := by decide +kernel
theorem dX10_replay_48 : decode cX10_replay 48 = .ok (.invokevirtual 412, 3) := by decide +kernel
theorem dX10_replay_51 : decode cX10_replay 51 = .ok (.iconst 0, 1) := by decide +kernel
theorem dX10_replay_52 : decode cX10_replay 52 = .ok (.istore 6, 2) := by decide +kernel
theorem dX10_replay_54 : decode cX10_replay 54 = .ok (.iconst 0, 1) := by decide +kernel
theorem dX10_replay_55 : decode cX10_replay 55 = .ok (.istore 7, 2) := by decide +kernel
theorem dX10_replay_57 : decode cX10_replay 57 = .ok (.iconst 1, 1) := by decide +kernel
theorem dX10_replay_58 : decode cX10_replay 58 = .ok (.istore 8, 2) := by decide +kernel
theorem dX10_replay_60 : decode cX10_replay 60 = .ok (.iload 8, 2) := by decide +kernel
theorem dX10_replay_62 : decode cX10_replay 62 = .ok (.aload_n 0, 1) := by decide +kernel
theorem dX10_replay_63 : decode cX10_replay 63 = .ok (.getfield 34, 3) := by decide +kernel
theorem dX10_replay_66 : decode cX10_replay 66 = .ok (.getfield 322, 3) := by decide +kernel
theorem dX10_replay_69 : decode cX10_replay 69 = .ok (.if_icmp .gt 81, 3) := by decide +kernel
theorem dX10_replay_72 : decode cX10_replay 72 = .ok (.aload_n 0, 1) := by decide +kernel
theorem dX10_replay_73 : decode cX10_replay 73 = .ok (.getfield 34, 3) := by decide +kernel
theorem dX10_replay_76 : decode cX10_replay 76 = .ok (.getfield 334, 3) := by decide +kernel
theorem dX10_replay_79 : decode cX10_replay 79 = .ok (.iload_n 3, 1) := by decide +kernel
theorem dX10_replay_80 : decode cX10_replay 80 = .ok (.iaload, 1) := by decide +kernel
theorem dX10_replay_81 : decode cX10_replay 81 = .ok (.aload_n 0, 1) := by decide +kernel
theorem dX10_replay_82 : decode cX10_replay 82 = .ok (.getfield 34, 3) := by decide +kernel
theorem dX10_replay_85 : decode cX10_replay 85 = .ok (.getfield 334, 3) := by decide +kernel
theorem dX10_replay_88 : decode cX10_replay 88 = .ok (.iload 4, 2) := by decide +kernel
theorem dX10_replay_90 : decode cX10_replay 90 = .ok (.iaload, 1) := by decide +kernel
theorem dX10_replay_91 : decode cX10_replay 91 = .ok (.iconst (-1), 1) := by decide +kernel
theorem dX10_replay_92 : decode cX10_replay 92 = .ok (.ixor, 1) := by decide +kernel
theorem dX10_replay_93 : decode cX10_replay 93 = .ok (.iand, 1) := by decide +kernel
theorem dX10_replay_94 : decode cX10_replay 94 = .ok (.iload 8, 2) := by decide +kernel
theorem dX10_replay_96 : decode cX10_replay 96 = .ok (.invokestatic 415, 3) := by decide +kernel
theorem dX10_replay_99 : decode cX10_replay 99 = .ok (.ifCond .ne 6, 3) := by decide +kernel
theorem dX10_replay_102 : decode cX10_replay 102 = .ok (.goto 42, 3) := by decide +kernel
theorem dX10_replay_105 : decode cX10_replay 105 = .ok (.iload 6, 2) := by decide +kernel
theorem dX10_replay_107 : decode cX10_replay 107 = .ok (.aload_n 0, 1) := by decide +kernel
theorem dX10_replay_108 : decode cX10_replay 108 = .ok (.getfield 34, 3) := by decide +kernel
theorem dX10_replay_111 : decode cX10_replay 111 = .ok (.getfield 282, 3) := by decide +kernel
theorem dX10_replay_114 : decode cX10_replay 114 = .ok (.getfield 166, 3) := by decide +kernel
theorem dX10_replay_117 : decode cX10_replay 117 = .ok (.iload 8, 2) := by decide +kernel
theorem dX10_replay_119 : decode cX10_replay 119 = .ok (.iaload, 1) := by decide +kernel
theorem dX10_replay_120 : decode cX10_replay 120 = .ok (.iadd, 1) := by decide +kernel
theorem dX10_replay_121 : decode cX10_replay 121 = .ok (.istore 6, 2) := by decide +kernel
theorem dX10_replay_123 : decode cX10_replay 123 = .ok (.iload 7, 2) := by decide +kernel
theorem dX10_replay_125 : decode cX10_replay 125 = .ok (.aload_n 0, 1) := by decide +kernel
theorem dX10_replay_126 : decode cX10_replay 126 = .ok (.getfield 34, 3) := by decide +kernel
theorem dX10_replay_129 : decode cX10_replay 129 = .ok (.getfield 282, 3) := by decide +kernel
theorem dX10_replay_132 : decode cX10_replay 132 = .ok (.iload 8, 2) := by decide +kernel
theorem dX10_replay_134 : decode cX10_replay 134 = .ok (.aload_n 0, 1) := by decide +kernel
theorem dX10_replay_135 : decode cX10_replay 135 = .ok (.getfield 66, 3) := by decide +kernel
theorem dX10_replay_138 : decode cX10_replay 138 = .ok (.invokevirtual 418, 3) := by decide +kernel
theorem dX10_replay_141 : decode cX10_replay 141 = .ok (.iadd, 1) := by decide +kernel
theorem dX10_replay_142 : decode cX10_replay 142 = .ok (.istore 7, 2) := by decide +kernel
theorem dX10_replay_144 : decode cX10_replay 144 = .ok (.iinc 8 1, 3) := by decide +kernel
theorem dX10_replay_147 : decode cX10_replay 147 = .ok (.goto (-87), 3) := by decide +kernel
theorem dX10_replay_150 : decode cX10_replay 150 = .ok (.iload 5, 2) := by decide +kernel
theorem dX10_replay_152 : decode cX10_replay 152 = .ok (.ifCond .eq 11, 3) := by decide +kernel
theorem dX10_replay_155 : decode cX10_replay 155 = .ok (.iload 6, 2) := by decide +kernel
theorem dX10_replay_157 : decode cX10_replay 157 = .ok (.iload 7, 2) := by decide +kernel
theorem dX10_replay_159 : decode cX10_replay 159 = .ok (.isub, 1) := by decide +kernel
theorem dX10_replay_160 : decode cX10_replay 160 = .ok (.goto 5, 3) := by decide +kernel
theorem dX10_replay_163 : decode cX10_replay 163 = .ok (.iload 7, 2) := by decide +kernel
theorem dX10_replay_165 : decode cX10_replay 165 = .ok (.ireturn, 1) := by decide +kernel
theorem q_577 : Cond.fieldLink RX10 66 RX10 "spare" "LWorkChains$Ledger;" ∈ zTB := zmem 577 (by decide +kernel) rfl
theorem q_1220 : Cond.methodLink RX10 412 yX5_copy ∈ zTB := zmem 1220 (by decide +kernel) rfl
theorem k_RX10_412 : zLv RX10 412 RX5 yX5_copy cX5_copy 2 none 1 := ⟨⟨q_1220, q_940, q_941, q_136, q_942⟩, rfl, ⟨by decide, by decide⟩, by decide +kernel⟩
theorem q_1221 : Cond.methodLink RX10 415 yX10_isIn ∈ zTB := zmem 1221 (by decide +kernel) rfl
theorem k_RX10_415 : zLs RX10 415 yX10_isIn cX10_isIn 2 (some .boolean) 2 := ⟨⟨q_1221, q_936, q_129, q_937⟩, ⟨by decide, by decide⟩, by decide +kernel⟩
theorem q_1222 : Cond.methodLink RX10 418 yX0_payEach ∈ zTB := zmem 1222 (by decide +kernel) rfl
theorem k_RX10_418 : zLv RX10 418 RX0 yX0_payEach cX0_payEach 5 (some .int) 2 := ⟨⟨q_1222, q_944, q_945, q_132, q_946⟩, rfl, ⟨by decide, by decide⟩, by decide +kernel⟩
def F_X10_replay (i : Nat) (Z : Nat → Int → Int) (q : Nat) (X Y : Nat → Int → Int) (R : Nat → Int → Option Nat) (a : Int) (b : Int) (g : Int) (d : Int) (f : Bool) : Prop := (∀ i j, rI (X i j)) → (∀ i j, rL (Y i j)) → (wcQ Z q X i) ∧ (∀ r5 : Bool, ∀ X2 : Nat → Int → Int, (∀ i j, rI (X2 i j)) → ∀ Y3 : Nat → Int → Int, (∀ i j, rL (Y3 i j)) → ∀ R4 : Nat → Int → Option Nat, (((R4) = wgR Z q R i (a) (b)) ∧ r5 = rOk Z q (a) (b) ∧ (r5 = false → (X2) = X ∧ (Y3) = Y) ∧ (r5 = true → qK X (X2) i ∧ cA (hZ Z q (a) (b) 0) q (X2) (Y3) (R4) (i + 157) ∧ (X2) (cn (R4) (i + 157)) 3 = hZ Z q (a) (b) 0 q 28 ∧ (X2) (cn (R4) (i + 157)) 4 = hZ Z q (a) (b) 0 q 29)) → (((r5 = false) → (((R4) = wgR Z q R i (a) (b)) ∧ (-1) = rReplay Z q (a) (b) (g) (d) f ∧ qK X (X2) i)) ∧ ((r5 = true) → ((X2 (i + 157) 2 ≤ 14) ∧ ((((soE X2 (i + 157) (g)) = false) → (((R4) = wgR Z q R i (a) (b)) ∧ (-1) = rReplay Z q (a) (b) (g) (d) f ∧ qK X (X2) i)) ∧ (((soE X2 (i + 157) (g)) = true) → ((X2 (i + 157) 2 ≤ 14) ∧ ((((soE X2 (i + 157) (d)) = true) → ((0 ≤ d ∧ d < 15) ∧ (((i + 174 + 2 * (d : Int).toNat) ≠ (i + 260)) ∧ (∀ X13 : Nat → Int → Int, (∀ i j, rI (X13 i j)) → ((X13) = zCp (zU X2 (i + 260) 0 (X2 (i + 174 + 2 * (d : Int).toNat) 0)) ((i + 174 + 2 * (d : Int).toNat) + 1) (i + 261) 0 0 6) → ((((1 ≤ (1 : Int) ∧ (1 : Int) ≤ hZ Z q a b 0 q 27) ∧ (0 ≤ (0 : Int) ∧ (0 : Int) ≤ (0 : Int)) ∧ (0 : Int) ≤ 3 * (1 : Int)) ∧ (∀ z, z ≠ i + 260 → z ≠ i + 261 → (X13) z = X13 z) ∧ (X13) (i + 260) 0 = hZ Z q a b 0 q 26 ∧ (∀ y, 0 ≤ y → y < 6 → 0 ≤ (X13) (i + 261) y ∧ (X13) (i + 261) y ≤ 200000 + 99 * (0 : Int)) ∧ ∃ M, rpZ (hZ Z q a b 0) q (zAnd (wyP (rP (hZ Z q a b 0) q) g.toNat) (zXor (wyP (rP (hZ Z q a b 0) q) d.toNat) (-1))) (rLd (hZ Z q a b 0) q d.toNat) ((1 : Int)).toNat = (M, (0 : Int), (0 : Int)) ∧ eqB (hZ Z q a b 0 q 26) ((X13) (i + 261)) M) ∧ (∀ (u : Int) (v : Int) (k : Int) (X15 : Nat → Int → Int), rI u → rI v → rI k → (∀ i j, rI (X15 i j)) → (((1 ≤ k ∧ k ≤ hZ Z q a b 0 q 27) ∧ (0 ≤ v ∧ v ≤ u) ∧ u ≤ 3 * k) ∧ (∀ z, z ≠ i + 260 → z ≠ i + 261 → (X15) z = X13 z) ∧ (X15) (i + 260) 0 = hZ Z q a b 0 q 26 ∧ (∀ y, 0 ≤ y → y < 6 → 0 ≤ (X15) (i + 261) y ∧ (X15) (i + 261) y ≤ 200000 + 99 * u) ∧ ∃ M, rpZ (hZ Z q a b 0) q (zAnd (wyP (rP (hZ Z q a b 0) q) g.toNat) (zXor (wyP (rP (hZ Z q a b 0) q) d.toNat) (-1))) (rLd (hZ Z q a b 0) q d.toNat) (k).toNat = (M, v, u) ∧ eqB (hZ Z q a b 0 q 26) ((X15) (i + 261)) M) → ((((X15 (i + 157) 2) < k) → (((f = false) → (((R4) = wgR Z q R i (a) (b)) ∧ v = rReplay Z q (a) (b) (g) (d) f ∧ qK X (X15) i)) ∧ ((f = true) → ((rI (u - v)) ∧ (((R4) = wgR Z q R i (a) (b)) ∧ (u - v) = rReplay Z q (a) (b) (g) (d) f ∧ qK X (X15) i))))) ∧ ((¬ ((X15 (i + 157) 2) < k)) → ((0 ≤ g ∧ g < 15) ∧ ((0 ≤ d ∧ d < 15) ∧ ((((decide (0 ≤ k ∧ k < 15) && decide (¬ zAnd (zShr (zAnd (X15 (i + 167) (g)) (zXor (X15 (i + 167) (d)) ((-1)))) (k)) 1 = 0)) = true) → ((0 ≤ k ∧ k < 15) ∧ ((((i + 260) + 1 < (cb R4 (i + 157)) ∨ (cb R4 (i + 157)) + 5 < (i + 260)) ∧ (0 ≤ k ∧ k < 15) ∧ (∀ y : Int, 0 ≤ y → y < 135 → 0 ≤ X15 ((cb R4 (i + 157)) + 5) y ∧ X15 ((cb R4 (i + 157)) + 5) y ≤ 99) ∧ ∀ y : Int, 0 ≤ y → y < 6 → 0 ≤ X15 ((i + 260) + 1) y ∧ X15 ((i + 260) + 1) y ≤ 999999000) ∧ (∀ r25 : Int, rI r25 → ∀ X24 : Nat → Int → Int, (∀ i j, rI (X24 i j)) → (∃ q : Nat, q ≤ 3 ∧ (q : Int) = max 0 (min 3 (X15 ((cb R4 (i + 157)) + 4) (k))) ∧ (X24) = (pyW X15 (cb R4 (i + 157)) (i + 260) (k) q).1 ∧ r25 = (pyW X15 (cb R4 (i + 157)) (i + 260) (k) q).2) → ((rI (u + (X15 (cb R4 (i + 157) + 4) (k)))) ∧ (rI (v + r25)) ∧ (rI (k + 1)) ∧ (((1 ≤ (k + 1) ∧ (k + 1) ≤ hZ Z q a b 0 q 27) ∧ (0 ≤ (v + r25) ∧ (v + r25) ≤ (u + (X15 (cb R4 (i + 157) + 4) (k)))) ∧ (u + (X15 (cb R4 (i + 157) + 4) (k))) ≤ 3 * (k + 1)) ∧ (∀ z, z ≠ i + 260 → z ≠ i + 261 → (X24) z = X13 z) ∧ (X24) (i + 260) 0 = hZ Z q a b 0 q 26 ∧ (∀ y, 0 ≤ y → y < 6 → 0 ≤ (X24) (i + 261) y ∧ (X24) (i + 261) y ≤ 200000 + 99 * (u + (X15 (cb R4 (i + 157) + 4) (k)))) ∧ ∃ M, rpZ (hZ Z q a b 0) q (zAnd (wyP (rP (hZ Z q a b 0) q) g.toNat) (zXor (wyP (rP (hZ Z q a b 0) q) d.toNat) (-1))) (rLd (hZ Z q a b 0) q d.toNat) ((k + 1)).toNat = (M, (v + r25), (u + (X15 (cb R4 (i + 157) + 4) (k)))) ∧ eqB (hZ Z q a b 0 q 26) ((X24) (i + 261)) M) ∧ (((20 - (k + 1)).toNat) < ((20 - (k)).toNat))))))) ∧ (((decide (0 ≤ k ∧ k < 15) && decide (¬ zAnd (zShr (zAnd (X15 (i + 167) (g)) (zXor (X15 (i + 167) (d)) ((-1)))) (k)) 1 = 0)) = false) → ((rI (k + 1)) ∧ (((1 ≤ (k + 1) ∧ (k + 1) ≤ hZ Z q a b 0 q 27) ∧ (0 ≤ v ∧ v ≤ u) ∧ u ≤ 3 * (k + 1)) ∧ (∀ z, z ≠ i + 260 → z ≠ i + 261 → (X15) z = X13 z) ∧ (X15) (i + 260) 0 = hZ Z q a b 0 q 26 ∧ (∀ y, 0 ≤ y → y < 6 → 0 ≤ (X15) (i + 261) y ∧ (X15) (i + 261) y ≤ 200000 + 99 * u) ∧ ∃ M, rpZ (hZ Z q a b 0) q (zAnd (wyP (rP (hZ Z q a b 0) q) g.toNat) (zXor (wyP (rP (hZ Z q a b 0) q) d.toNat) (-1))) (rLd (hZ Z q a b 0) q d.toNat) ((k + 1)).toNat = (M, v, u) ∧ eqB (hZ Z q a b 0 q 26) ((X15) (i + 261)) M) ∧ (((20 - (k + 1)).toNat) < ((20 - (k)).toNat))))))))))))))) ∧ (((soE X2 (i + 157) (d)) = false) → (((R4) = wgR Z q R i (a) (b)) ∧ (-1) = rReplay Z q (a) (b) (g) (d) f ∧ qK X (X2) i))))))))))
set_option maxHeartbeats 4000000 in
set_option maxRecDepth 100000 in
theorem w_X10_replay {l : Launch} {D : va_G} {cy : Nat → ClassId} {bs N : Nat} {sa : Nat → Nat} {kd len : Nat → Nat} {X Y : Nat → Int → Int} {R : Nat → Int → Option Nat} {i : Nat} {Z : Nat → Int → Int} {q : Nat} (hC : zWC N kd len R i) (a : Int) (ha : rI a) (b : Int) (hb : rI b) (g : Int) (hg : rI g) (d : Int) (hd : rI d) (f : Bool) (hF : F_X10_replay i Z q X Y R a b g d f) : Met l yX10_replay (.code yX10_replay cX10_replay 9 (some .int) :: zTB) (zRm 5 134) (zPc D cy bs sa N kd len X Y R [.ref (bs + (i)), .int (zI (a)), .int (zI (b)), .int (zI (g)), .int (zI (d)), .int (zI (bz (f)))]) (zQi D cy bs N kd len (fun r st => (((st.2.2) = wgR Z q R i (a) (b)) ∧ r = rReplay Z q (a) (b) (g) (d) f ∧ qK X (st.1) i))) 0 0 (zA bs) := by
  refine zstart (by decide) (Nat.le_of_ble_eq_true rfl) ?_
  intro p e s m args below meth c ls C hE hH hr hlk hnm hl hargs
  have hF := hF hH.2.2.1 hH.2.2.2
  have hS : va_S (zA bs) s.heap s.heap [] := va_S.rf
  have hl : lv_has ls 9 [(0, .ref (bs + (i))), (1, .int (zI (a))), (2, .int (zI (b))), (3, .int (zI (g))), (4, .int (zI (d))), (5, .int (zI (bz (f))))] := hl
  refine lv_aload_n C.1 C.2.1 dX10_replay_0 rfl (lv_at hl 0 rfl) ?_
  refine lv_iload_n C.1 C.2.1 dX10_replay_1 rfl (lv_at hl 1 rfl) ?_
  refine lv_iload_n C.1 C.2.1 dX10_replay_2 rfl (lv_at hl 2 rfl) ?_
  obtain ⟨o1, hF⟩ := hF
  refine zgoi (zrunV (As := [.int (zI (a)), .int (zI (b))]) (rest := []) C hE hH hS hl.1 (c_X10_weigh (l := l) hC (a) ha (b) hb o1) k_RX10_202 ⟨Nat.le_of_ble_eq_true rfl, Nat.le_of_ble_eq_true rfl⟩ (zW_n hC) (zW_k hC) rfl rfl rfl (Nat.le_of_ble_eq_true rfl) dX10_replay_3 ⟨Nat.zero_le _, Nat.zero_le _⟩) hS (fun rq X2 Y3 R4 H locs hrq hq hH hS => ?_)
  obtain ⟨r5, h91, hq⟩ := hq
  subst h91
  have hF := hF r5 X2 hH.2.2.1 Y3 hH.2.2.2 R4 hq
  have hC := zWC_wg hC hq.1
  refine zd_ifB_eq C 32 dX10_replay_6 (by decide) (fun c6 => ?_) (fun c6 => ?_)
  · have hF := hF.1 c6
    refine zd_iconst C dX10_replay_32 ?_
    exact zd_iret C hr hlk hH hS (by decide) (hF) dX10_replay_33
  · have hF := hF.2 c6
    refine lv_aload_n C.1 C.2.1 dX10_replay_9 rfl (lv_at hl 0 rfl) ?_
    refine zg10_4 C hH (zW_n hC) (zW_k hC) q_573 (zW_lw hC).1 dX10_replay_10 ?_
    refine lv_iload_n C.1 C.2.1 dX10_replay_13 rfl (lv_at hl 3 rfl) ?_
    obtain ⟨o7, hF⟩ := hF
    refine zgoi (zrunV (As := [.int (zI (g))]) (rest := []) C hE hH hS hl.1 (c_X1_isSound (l := l) (zW_lw hC).2.2.2.1.1 (g) hg o7) k_RX10_295 ⟨Nat.le_of_ble_eq_true rfl, Nat.le_of_ble_eq_true rfl⟩ (zChart_n0 (zW_lw hC).2.2.2.1.1) (zChart_k0 (zW_lw hC).2.2.2.1.1) rfl rfl rfl (Nat.le_of_ble_eq_true rfl) dX10_replay_14 ⟨Nat.zero_le _, Nat.zero_le _⟩) hS (fun rq Xq Yq Rq H locs hrq hq hH hS => ?_)
    obtain ⟨h91, h92⟩ := hq
    have h93 : Xq = X2 := congrArg (fun z => z.1) h92
    have h94 : Yq = Y3 := congrArg (fun z => z.2.1) h92
    have h95 : Rq = R4 := congrArg (fun z => z.2.2) h92
    rw [h93, h94, h95] at hH
    subst h91
    refine zd_ifB_eq C 32 dX10_replay_17 (by decide) (fun c8 => ?_) (fun c8 => ?_)
    · have hF := hF.1 c8
      refine zd_iconst C dX10_replay_32 ?_
      exact zd_iret C hr hlk hH hS (by decide) (hF) dX10_replay_33
    · have hF := hF.2 c8
      refine lv_aload_n C.1 C.2.1 dX10_replay_20 rfl (lv_at hl 0 rfl) ?_
      refine zg10_4 C hH (zW_n hC) (zW_k hC) q_573 (zW_lw hC).1 dX10_replay_21 ?_
      refine lv_iload C.1 C.2.1 dX10_replay_24 (lv_at hl 4 rfl) ?_
      obtain ⟨o9, hF⟩ := hF
      refine zgoi (zrunV (As := [.int (zI (d))]) (rest := []) C hE hH hS hl.1 (c_X1_isSound (l := l) (zW_lw hC).2.2.2.1.1 (d) hd o9) k_RX10_295 ⟨Nat.le_of_ble_eq_true rfl, Nat.le_of_ble_eq_true rfl⟩ (zChart_n0 (zW_lw hC).2.2.2.1.1) (zChart_k0 (zW_lw hC).2.2.2.1.1) rfl rfl rfl (Nat.le_of_ble_eq_true rfl) dX10_replay_26 ⟨Nat.zero_le _, Nat.zero_le _⟩) hS (fun rq Xq Yq Rq H locs hrq hq hH hS => ?_)
      obtain ⟨h91, h92⟩ := hq
      have h93 : Xq = X2 := congrArg (fun z => z.1) h92
      have h94 : Yq = Y3 := congrArg (fun z => z.2.1) h92
      have h95 : Rq = R4 := congrArg (fun z => z.2.2) h92
      rw [h93, h94, h95] at hH
      subst h91
      refine zd_ifB_ne C 34 dX10_replay_29 (by decide) (fun c10 => ?_) (fun c10 => ?_)
      · have hF := hF.1 c10
        refine lv_aload_n C.1 C.2.1 dX10_replay_34 rfl (lv_at hl 0 rfl) ?_
        refine zg10_8 C hH (zW_n hC) (zW_k hC) q_577 (zW_sp hC).1 dX10_replay_35 ?_
        refine lv_aload_n C.1 C.2.1 dX10_replay_38 rfl (lv_at hl 0 rfl) ?_
        refine zg10_4 C hH (zW_n hC) (zW_k hC) q_573 (zW_lw hC).1 dX10_replay_39 ?_
        refine zg1_9 C hH (zChart_n0 (zW_lw hC).2.2.2.1.1) (zChart_k0 (zW_lw hC).2.2.2.1.1) q_414 (zChart_r14 (zW_lw hC).2.2.2.1.1) dX10_replay_42 ?_
        refine lv_iload C.1 C.2.1 dX10_replay_45 (lv_at hl 4 rfl) ?_
        obtain ⟨o11, hF⟩ := hF
        refine zd_aaldr C hH (zChart_n14 (zW_lw hC).2.2.2.1.1) 5 rfl rfl (by rw [(zChart_k14 (zW_lw hC).2.2.2.1.1)]; rfl) o11.1 (by rw [zChart_l14 (zW_lw hC).2.2.2.1.1]; exact o11.2) (by rw [zChart_l14 (zW_lw hC).2.2.2.1.1]; decide) (zChart_lg (zW_lw hC).2.2.2.1.1 o11.1 o11.2).1 dX10_replay_47 ?_
        obtain ⟨o12, hF⟩ := hF
        refine zgov (zrunV (As := [.ref (bs + (i + 174 + 2 * (d : Int).toNat))]) (rest := []) C hE hH hS hl.1 (c_X5_copy (l := l) (zW_sp hC).2 (zChart_lg (zW_lw hC).2.2.2.1.1 o11.1 o11.2).2  o12) k_RX10_412 ⟨Nat.le_of_ble_eq_true rfl, Nat.le_of_ble_eq_true rfl⟩ (zLedger_n0 (zW_sp hC).2) (zLedger_k0 (zW_sp hC).2) rfl rfl rfl (Nat.le_of_ble_eq_true rfl) dX10_replay_48 ⟨Nat.zero_le _, Nat.zero_le _⟩) hS (fun X13 Yq Rq H locs hq hH hS => ?_)
        obtain ⟨h9Y, h9R, hq⟩ := hq
        dsimp only at h9Y h9R
        rw [h9Y, h9R] at hH
        have hF := hF X13 hH.2.2.1 hq
        refine zd_iconst C dX10_replay_51 ?_
        refine lv_istore (lv' := [(6, .int (zI (0))), (0, .ref (bs + (i))), (1, .int (zI (a))), (2, .int (zI (b))), (3, .int (zI (g))), (4, .int (zI (d))), (5, .int (zI (bz (f))))]) C.1 C.2.1 dX10_replay_52 hl (by decide) rfl (fun ls hl => ?_)
        refine zd_iconst C dX10_replay_54 ?_
        refine lv_istore (lv' := [(7, .int (zI (0))), (6, .int (zI (0))), (0, .ref (bs + (i))), (1, .int (zI (a))), (2, .int (zI (b))), (3, .int (zI (g))), (4, .int (zI (d))), (5, .int (zI (bz (f))))]) C.1 C.2.1 dX10_replay_55 hl (by decide) rfl (fun ls hl => ?_)
        refine zd_iconst C dX10_replay_57 ?_
        refine lv_istore (lv' := [(8, .int (zI (1))), (7, .int (zI (0))), (6, .int (zI (0))), (0, .ref (bs + (i))), (1, .int (zI (a))), (2, .int (zI (b))), (3, .int (zI (g))), (4, .int (zI (d))), (5, .int (zI (bz (f))))]) C.1 C.2.1 dX10_replay_58 hl (by decide) rfl (fun ls hl => ?_)
        obtain ⟨hI14, hF⟩ := hF
        have L14 : ∀ (fu : Nat) (u : Int) (v : Int) (k : Int) (X15 : Nat → Int → Int), rI u → rI v → rI k → (((1 ≤ k ∧ k ≤ hZ Z q a b 0 q 27) ∧ (0 ≤ v ∧ v ≤ u) ∧ u ≤ 3 * k) ∧ (∀ z, z ≠ i + 260 → z ≠ i + 261 → (X15) z = X13 z) ∧ (X15) (i + 260) 0 = hZ Z q a b 0 q 26 ∧ (∀ y, 0 ≤ y → y < 6 → 0 ≤ (X15) (i + 261) y ∧ (X15) (i + 261) y ≤ 200000 + 99 * u) ∧ ∃ M, rpZ (hZ Z q a b 0) q (zAnd (wyP (rP (hZ Z q a b 0) q) g.toNat) (zXor (wyP (rP (hZ Z q a b 0) q) d.toNat) (-1))) (rLd (hZ Z q a b 0) q d.toNat) (k).toNat = (M, v, u) ∧ eqB (hZ Z q a b 0 q 26) ((X15) (i + 261)) M) → ((20 - (k)).toNat) < fu → ∀ (H : Heap) (locs : List Loc) (ls : Array Slot), zH D cy bs N kd len X15 Y3 R4 H → va_S (zA bs) s.heap H locs → lv_has ls 9 [(6, .int (zI (u))), (7, .int (zI (v))), (8, .int (zI (k))), (0, .ref (bs + (i))), (1, .int (zI (a))), (2, .int (zI (b))), (3, .int (zI (g))), (4, .int (zI (d))), (5, .int (zI (bz (f))))] → W p l e (zRm 5 134) s m args below meth c H locs 0 0 (MQ below (zQi D cy bs N kd len (fun r st => (((st.2.2) = wgR Z q R i (a) (b)) ∧ r = rReplay Z q (a) (b) (g) (d) f ∧ qK X (st.1) i))) args s 0 0 (zA bs)) (F0 m 60 ls []) := by
          intro fu
          induction fu with
          | zero => intro u v k X15 _ _ _ _ hmu; exact absurd hmu (Nat.not_lt_zero _)
          | succ fu ih14 =>
            intro u v k X15 hu hv hk hI hmu14 H locs ls hH hS hl
            have hF := hF u v k X15 hu hv hk hH.2.2.1 hI
            refine lv_iload C.1 C.2.1 dX10_replay_60 (lv_at hl 2 rfl) ?_
            refine lv_aload_n C.1 C.2.1 dX10_replay_62 rfl (lv_at hl 3 rfl) ?_
            refine zg10_4 C hH (zW_n hC) (zW_k hC) q_573 (zW_lw hC).1 dX10_replay_63 ?_
            refine zg1_2 C hH (zChart_n0 (zW_lw hC).2.2.2.1.1) (zChart_k0 (zW_lw hC).2.2.2.1.1) q_398 dX10_replay_66 ?_
            refine zd_icmp_gt C hk (hH.2.2.1 _ _) 150 dX10_replay_69 (by decide) (fun c16 => ?_) (fun c16 => ?_)
            · have hF := hF.1 c16
              refine lv_iload C.1 C.2.1 dX10_replay_150 (lv_at hl 8 rfl) ?_
              refine zd_ifB_eq C 163 dX10_replay_152 (by decide) (fun c17 => ?_) (fun c17 => ?_)
              · have hF := hF.1 c17
                refine lv_iload C.1 C.2.1 dX10_replay_163 (lv_at hl 1 rfl) ?_
                exact zd_iret C hr hlk hH hS hv (hF) dX10_replay_165
              · have hF := hF.2 c17
                refine lv_iload C.1 C.2.1 dX10_replay_155 (lv_at hl 0 rfl) ?_
                refine lv_iload C.1 C.2.1 dX10_replay_157 (lv_at hl 1 rfl) ?_
                refine zd_isub C dX10_replay_159 ?_
                refine lv_goto (tgt := 165) C.1 C.2.1 dX10_replay_160 (by decide) ?_
                obtain ⟨o18, hF⟩ := hF
                exact zd_iret C hr hlk hH hS o18 (hF) dX10_replay_165
            · have hF := hF.2 c16
              refine lv_aload_n C.1 C.2.1 dX10_replay_72 rfl (lv_at hl 3 rfl) ?_
              refine zg10_4 C hH (zW_n hC) (zW_k hC) q_573 (zW_lw hC).1 dX10_replay_73 ?_
              refine zg1_5 C hH (zChart_n0 (zW_lw hC).2.2.2.1.1) (zChart_k0 (zW_lw hC).2.2.2.1.1) q_406 (zChart_r10 (zW_lw hC).2.2.2.1.1) dX10_replay_76 ?_
              refine lv_iload_n C.1 C.2.1 dX10_replay_79 rfl (lv_at hl 6 rfl) ?_
              obtain ⟨o19, hF⟩ := hF
              refine zd_iald C hH (zChart_n10 (zW_lw hC).2.2.2.1.1) (zChart_k10 (zW_lw hC).2.2.2.1.1) o19.1 (by rw [zChart_l10 (zW_lw hC).2.2.2.1.1]; exact o19.2) (by rw [zChart_l10 (zW_lw hC).2.2.2.1.1]; decide) dX10_replay_80 ?_
              refine lv_aload_n C.1 C.2.1 dX10_replay_81 rfl (lv_at hl 3 rfl) ?_
              refine zg10_4 C hH (zW_n hC) (zW_k hC) q_573 (zW_lw hC).1 dX10_replay_82 ?_
              refine zg1_5 C hH (zChart_n0 (zW_lw hC).2.2.2.1.1) (zChart_k0 (zW_lw hC).2.2.2.1.1) q_406 (zChart_r10 (zW_lw hC).2.2.2.1.1) dX10_replay_85 ?_
              refine lv_iload C.1 C.2.1 dX10_replay_88 (lv_at hl 7 rfl) ?_
              obtain ⟨o20, hF⟩ := hF
              refine zd_iald C hH (zChart_n10 (zW_lw hC).2.2.2.1.1) (zChart_k10 (zW_lw hC).2.2.2.1.1) o20.1 (by rw [zChart_l10 (zW_lw hC).2.2.2.1.1]; exact o20.2) (by rw [zChart_l10 (zW_lw hC).2.2.2.1.1]; decide) dX10_replay_90 ?_
              refine zd_iconst C dX10_replay_91 ?_
              refine zd_ixor C dX10_replay_92 ?_
              refine zd_iand C dX10_replay_93 ?_
              refine lv_iload C.1 C.2.1 dX10_replay_94 (lv_at hl 2 rfl) ?_
              refine zgoi (zrunS (As := [.int (zI (zAnd (X15 (i + 167) (g)) (zXor (X15 (i + 167) (d)) ((-1))))), .int (zI (k))]) (rest := []) C hE hH hS hl.1 (c_X10_isIn (l := l)  (zAnd (X15 (i + 167) (g)) (zXor (X15 (i + 167) (d)) ((-1)))) (zI_rg _) (k) hk) k_RX10_415 ⟨Nat.le_of_ble_eq_true rfl, Nat.le_of_ble_eq_true rfl⟩ rfl (Nat.le_of_ble_eq_true rfl) dX10_replay_96 ⟨Nat.zero_le _, Nat.zero_le _⟩) hS (fun rq Xq Yq Rq H locs hrq hq hH hS => ?_)
              obtain ⟨h91, h92⟩ := hq
              have h93 : Xq = X15 := congrArg (fun z => z.1) h92
              have h94 : Yq = Y3 := congrArg (fun z => z.2.1) h92
              have h95 : Rq = R4 := congrArg (fun z => z.2.2) h92
              rw [h93, h94, h95] at hH
              subst h91
              refine zd_ifB_ne C 105 dX10_replay_99 (by decide) (fun c21 => ?_) (fun c21 => ?_)
              · have hF := hF.1 c21
                refine lv_iload C.1 C.2.1 dX10_replay_105 (lv_at hl 0 rfl) ?_
                refine lv_aload_n C.1 C.2.1 dX10_replay_107 rfl (lv_at hl 3 rfl) ?_
                refine zg10_4 C hH (zW_n hC) (zW_k hC) q_573 (zW_lw hC).1 dX10_replay_108 ?_
                refine zg1_1 C hH (zChart_n0 (zW_lw hC).2.2.2.1.1) (zChart_k0 (zW_lw hC).2.2.2.1.1) q_395 (zChart_blk (zW_lw hC).2.2.2.1.1).1 dX10_replay_111 ?_
                refine zg0_4 C hH (zBlocks_n0 (zChart_blk (zW_lw hC).2.2.2.1.1).2) (zBlocks_k0 (zChart_blk (zW_lw hC).2.2.2.1.1).2) q_239 (zBlocks_r4 (zChart_blk (zW_lw hC).2.2.2.1.1).2) dX10_replay_114 ?_
                refine lv_iload C.1 C.2.1 dX10_replay_117 (lv_at hl 2 rfl) ?_
                obtain ⟨o22, hF⟩ := hF
                refine zd_iald C hH (zBlocks_n4 (zChart_blk (zW_lw hC).2.2.2.1.1).2) (zBlocks_k4 (zChart_blk (zW_lw hC).2.2.2.1.1).2) o22.1 (by rw [zBlocks_l4 (zChart_blk (zW_lw hC).2.2.2.1.1).2]; exact o22.2) (by rw [zBlocks_l4 (zChart_blk (zW_lw hC).2.2.2.1.1).2]; decide) dX10_replay_119 ?_
                refine zd_iadd C dX10_replay_120 ?_
                refine lv_istore (lv' := [(6, .int (zI (u + (X15 (cb R4 (i + 157) + 4) (k))))), (7, .int (zI (v))), (8, .int (zI (k))), (0, .ref (bs + (i))), (1, .int (zI (a))), (2, .int (zI (b))), (3, .int (zI (g))), (4, .int (zI (d))), (5, .int (zI (bz (f))))]) C.1 C.2.1 dX10_replay_121 hl (by decide) rfl (fun ls hl => ?_)
                refine lv_iload C.1 C.2.1 dX10_replay_123 (lv_at hl 1 rfl) ?_
                refine lv_aload_n C.1 C.2.1 dX10_replay_125 rfl (lv_at hl 3 rfl) ?_
                refine zg10_4 C hH (zW_n hC) (zW_k hC) q_573 (zW_lw hC).1 dX10_replay_126 ?_
                refine zg1_1 C hH (zChart_n0 (zW_lw hC).2.2.2.1.1) (zChart_k0 (zW_lw hC).2.2.2.1.1) q_395 (zChart_blk (zW_lw hC).2.2.2.1.1).1 dX10_replay_129 ?_
                refine lv_iload C.1 C.2.1 dX10_replay_132 (lv_at hl 2 rfl) ?_
                refine lv_aload_n C.1 C.2.1 dX10_replay_134 rfl (lv_at hl 3 rfl) ?_
                refine zg10_8 C hH (zW_n hC) (zW_k hC) q_577 (zW_sp hC).1 dX10_replay_135 ?_
                obtain ⟨o23, hF⟩ := hF
                refine zgoi (zrunV (As := [.int (zI (k)), .ref (bs + (i + 260))]) (rest := [.int (zI (v))]) C hE hH hS hl.1 (c_X0_payEach (l := l) (zChart_blk (zW_lw hC).2.2.2.1.1).2 (zW_sp hC).2 (k) hk o23) k_RX10_418 ⟨Nat.le_of_ble_eq_true rfl, Nat.le_of_ble_eq_true rfl⟩ (zBlocks_n0 (zChart_blk (zW_lw hC).2.2.2.1.1).2) (zBlocks_k0 (zChart_blk (zW_lw hC).2.2.2.1.1).2) rfl rfl rfl (Nat.le_of_ble_eq_true rfl) dX10_replay_138 ⟨Nat.zero_le _, Nat.zero_le _⟩) hS (fun r25 X24 Yq Rq H locs hrq hq hH hS => ?_)
                obtain ⟨h9Y, h9R, hq⟩ := hq
                dsimp only at h9Y h9R
                rw [h9Y, h9R] at hH
                have hr25 := hrq
                have hF := hF r25 hrq X24 hH.2.2.1 hq
                refine zd_iadd C dX10_replay_141 ?_
                refine lv_istore (lv' := [(7, .int (zI (v + r25))), (6, .int (zI (u + (X15 (cb R4 (i + 157) + 4) (k))))), (8, .int (zI (k))), (0, .ref (bs + (i))), (1, .int (zI (a))), (2, .int (zI (b))), (3, .int (zI (g))), (4, .int (zI (d))), (5, .int (zI (bz (f))))]) C.1 C.2.1 dX10_replay_142 hl (by decide) rfl (fun ls hl => ?_)
                refine zd_iinc (k := 2) (lv' := [(8, .int (zI (k + 1))), (7, .int (zI (v + r25))), (6, .int (zI (u + (X15 (cb R4 (i + 157) + 4) (k))))), (0, .ref (bs + (i))), (1, .int (zI (a))), (2, .int (zI (b))), (3, .int (zI (g))), (4, .int (zI (d))), (5, .int (zI (bz (f))))]) C hl rfl dX10_replay_144 (by decide) rfl (fun ls hl => ?_)
                refine lv_goto (tgt := 60) C.1 C.2.1 dX10_replay_147 (by decide) ?_
                obtain ⟨o26, hF⟩ := hF
                obtain ⟨o27, hF⟩ := hF
                obtain ⟨o28, hF⟩ := hF
                exact ih14 (u + (X15 (cb R4 (i + 157) + 4) (k))) (v + r25) (k + 1) X24 o26 o27 o28 hF.1 (Nat.lt_of_lt_of_le hF.2 (Nat.le_of_lt_succ hmu14)) _ _ _ hH hS (lv_sub hl [2, 1, 0, 3, 4, 5, 6, 7, 8] rfl)
              · have hF := hF.2 c21
                refine lv_goto (tgt := 144) C.1 C.2.1 dX10_replay_102 (by decide) ?_
                refine zd_iinc (k := 2) (lv' := [(8, .int (zI (k + 1))), (6, .int (zI (u))), (7, .int (zI (v))), (0, .ref (bs + (i))), (1, .int (zI (a))), (2, .int (zI (b))), (3, .int (zI (g))), (4, .int (zI (d))), (5, .int (zI (bz (f))))]) C hl rfl dX10_replay_144 (by decide) rfl (fun ls hl => ?_)
                refine lv_goto (tgt := 60) C.1 C.2.1 dX10_replay_147 (by decide) ?_
                obtain ⟨o29, hF⟩ := hF
                exact ih14 (u) (v) (k + 1) X15 hu hv o29 hF.1 (Nat.lt_of_lt_of_le hF.2 (Nat.le_of_lt_succ hmu14)) _ _ _ hH hS (lv_sub hl [1, 2, 0, 3, 4, 5, 6, 7, 8] rfl)
        exact L14 (((20 - ((1 : Int))).toNat) + 1) ((0 : Int)) ((0 : Int)) ((1 : Int)) X13 (by decide) (by decide) (by decide) hI14 (Nat.lt_succ_self _) _ _ _ hH hS (lv_sub hl [2, 1, 0, 3, 4, 5, 6, 7, 8] rfl)
      · have hF := hF.2 c10
        refine zd_iconst C dX10_replay_32 ?_
        exact zd_iret C hr hlk hH hS (by decide) (hF) dX10_replay_33
theorem v_X10_replay {X Y : Nat → Int → Int} {R : Nat → Int → Option Nat} {i : Nat} {Z : Nat → Int → Int} {q : Nat} (a : Int) (ha : rI a) (b : Int) (hb : rI b) (g : Int) (hg : rI g) (d : Int) (hd : rI d) (f : Bool) (hp : wcQ Z q X i) : F_X10_replay i Z q X Y R a b g d f := by
  unfold F_X10_replay
  intro hX hY
  have hO := hp.1
  have hT := hp.2.1
  refine ⟨?_, ?_⟩
  · exact hp
  intro r5
  intro X2
  intro rX2
  intro Y3
  intro rY3
  intro R4
  intro h1
  obtain ⟨eR, er, hf, ht⟩ := h1
  refine ⟨?_, ?_⟩
  · intro c1
    obtain ⟨rfl, rfl⟩ := hf c1
    have e : rOk Z q a b = false := by rw [← er]; exact c1
    have hk : qK X2 X2 i := ⟨fun _ _ => rfl, hp.2.2⟩
    refine ⟨eR, ?_, hk⟩
    unfold rReplay
    rw [e]
    rfl
  intro c2
  obtain ⟨hk, hA, h3, h4⟩ := ht c2
  have e : rOk Z q a b = true := by rw [← er]; exact c2
  have l := cA_l hA
  have b0 := cA_b hA
  have a6 := cA_a hA
  have e27 := hz_27 (Z := Z) (q := q) (n := a) (c := b) (f := 0)
  have e26 := hz_26 (Z := Z) (q := q) (n := a) (c := b) (f := 0)
  have hn2 := vZ_n hA.1.1.1
  obtain ⟨ab, ecb, ecn⟩ := cb_wg hO.1 eR e
  obtain ⟨bn, rfl⟩ := nat_of ab.2.1
  have ebn : ((bn : Nat) : Int).toNat = bn := by omega
  rw [ebn] at ecb
  have hB := (hT.2.2.2.2.1 bn (by omega)).1
  rw [show i + 1 + 8 + 8 * bn = i + 9 + 8 * bn by omega] at hB
  refine ⟨?_, ?_⟩
  · omega
  refine ⟨?_, ?_⟩
  · intro c3
    have e9 : (mIn g 0 (qN Z q bn) && (mIn d 0 (qN Z q bn) && (sdf (hZ Z q a bn 0) q g.toNat && sdf (hZ Z q a bn 0) q d.toNat))) = false := by
      have c9 := c3
      rw [cA_so hA, e27] at c9
      cases s1 : sdf (hZ Z q a bn 0) q g.toNat
      · simp
      · rw [s1, Bool.and_true, decide_eq_false_iff_not] at c9
        rw [mIn_f.mpr (show ¬ (0 ≤ g ∧ g ≤ qN Z q bn) by omega)]
        simp
    refine ⟨eR, ?_, hk⟩
    unfold rReplay
    rw [e, e9]
    rfl
  intro c4
  rw [cA_so hA, Bool.and_eq_true, decide_eq_true_eq] at c4
  obtain ⟨gn, rfl⟩ := nat_of c4.1.1
  have eg : ((gn : Nat) : Int).toNat = gn := by omega
  rw [eg] at c4
  refine ⟨?_, ?_⟩
  · omega
  refine ⟨?_, ?_⟩
  · intro c5
    rw [cA_so hA, Bool.and_eq_true, decide_eq_true_eq] at c5
    obtain ⟨dn, rfl⟩ := nat_of c5.1.1
    have ed : ((dn : Nat) : Int).toNat = dn := by omega
    rw [ed] at c5
    rw [eg, ed]
    have l1 := cA_ld hA c5.1.2 c5.2
    have E : rReplay Z q a bn gn dn f = (if f then (rpS (hZ Z q a bn 0) q gn dn).2.2 - (rpS (hZ Z q a bn 0) q gn dn).2.1 else (rpS (hZ Z q a bn 0) q gn dn).2.1) := by
      unfold rReplay
      rw [e, mIn_t.mpr (show 0 ≤ (gn : Int) ∧ (gn : Int) ≤ qN Z q bn by omega), mIn_t.mpr (show 0 ≤ (dn : Int) ∧ (dn : Int) ≤ qN Z q bn by omega), eg, ed, c4.2, c5.2]
      rfl
    refine ⟨?_, ?_⟩
    · omega
    refine ⟨?_, ?_⟩
    · omega
    intro X13
    intro rX13
    intro h2
    obtain ⟨M0, hM0⟩ := Option.isSome_iff_exists.mp (show (rS (hZ Z q a bn 0) q dn).isSome = true from c5.2)
    have g9 := hA.2.2.2.2.2 dn c5.1.2 M0 hM0
    have eM0 : rLd (hZ Z q a bn 0) q dn = M0 := by
      funext y
      unfold rLd
      rw [hM0]
      rfl
    have o13 : ∀ z, z ≠ i + 260 → z ≠ i + 261 → X13 z = X2 z := fun z z1 z2 => by rw [h2, zCp_o (by omega), zU_o (by omega)]
    have s13 : X13 (i + 260) 0 = hZ Z q a bn 0 q 26 := by
      rw [h2, zCp_o (by omega), zU_s]
      exact l1.1
    have v13 : X13 (i + 261) = zCp (zU X2 (i + 260) 0 (X2 (i + 174 + 2 * dn) 0)) (i + 174 + 2 * dn + 1) (i + 261) 0 0 6 (i + 261) := by rw [h2]
    have q13 : eqB (hZ Z q a bn 0 q 26) (X13 (i + 261)) (rLd (hZ Z q a bn 0) q dn) := by
      rw [v13, eM0]
      refine zCp_6 ?_
      rw [zU_o (by omega)]
      exact g9.2
    have b13 : ∀ y, 0 ≤ y → y < 6 → 0 ≤ X13 (i + 261) y ∧ X13 (i + 261) y ≤ 200000 := fun y y0 y1 => by
      have := l1.2.2 y y0 y1
      rw [v13]
      unfold zCp
      rw [if_pos ⟨rfl, y0, by omega⟩, zU_o (by omega), show (0 : Int) + (y - 0) = y by omega]
      have : 0 ≤ X2 (i + 157 + 17 + 2 * dn + 1) y ∧ X2 (i + 157 + 17 + 2 * dn + 1) y ≤ 99 + 396 * dn := this
      rw [show i + 174 + 2 * dn + 1 = i + 157 + 17 + 2 * dn + 1 by omega]
      exact ⟨this.1, by omega⟩
    refine ⟨?_, ?_⟩
    · exact ⟨⟨⟨by omega, by omega⟩, ⟨by omega, by omega⟩, by omega⟩, fun _ _ _ => rfl, s13, fun y y0 y1 => by have := b13 y y0 y1; exact ⟨this.1, by omega⟩, _, rfl, q13⟩
    intro u v k X15
    intro _
    intro _
    intro _
    intro rX15
    intro h3
    obtain ⟨⟨k1, v1, u1⟩, fo, a15, b15, M, hM, q15⟩ := h3
    obtain ⟨kn, rfl⟩ := nat_of (show 0 ≤ k by omega)
    have ek : ((kn : Nat) : Int).toNat = kn := by omega
    rw [ek] at hM
    have o15 : ∀ z, z ≠ i + 260 → z ≠ i + 261 → X15 z = X2 z := fun z z1 z2 => (fo z z1 z2).trans (o13 z z1 z2)
    have hk15 : qK X X15 i := ⟨fun z hz => (o15 z (by omega) (by omega)).trans (hk.1 z hz), by
      unfold chI
      rw [o15 _ (by omega) (by omega), o15 _ (by omega) (by omega)]
      exact hk.2⟩
    have l15 : X15 (i + 157) 2 = hZ Z q a bn 0 q 27 - 1 := by rw [o15 _ (by omega) (by omega)]; exact l.1
    refine ⟨?_, ?_⟩
    · intro c6
      have en : (hZ Z q a bn 0 q 27).toNat = kn := by omega
      have eS : rpS (hZ Z q a bn 0) q gn dn = (M, v, u) := by
        unfold rpS
        rw [en]
        exact hM
      refine ⟨?_, ?_⟩
      · intro c7
        exact ⟨eR, by rw [E, c7, eS]; rfl, hk15⟩
      intro c8
      refine ⟨?_, ?_⟩
      · first | omega | exact ⟨by omega, by omega⟩ | decide | assumption | exact ⟨by omega, by omega, by omega⟩ | exact ⟨by decide, by decide⟩
      exact ⟨eR, by rw [E, c8, eS]; rfl, hk15⟩
    intro c9
    have kl : (kn : Int) < hZ Z q a bn 0 q 27 := by omega
    have hoP := (hA.1.1.1.2.2.2 kn (by omega) (by omega)).1
    have vw : ∀ z, (z : Nat) < hZ Z q a bn 0 q 27 → X15 (i + 167) z = wyP (rP (hZ Z q a bn 0) q) z := fun z hz => by rw [o15 _ (by omega) (by omega)]; exact cA_w hA hz
    rw [vw gn (by omega), vw dn (by omega), isIn_has (by omega) (by omega)]
    have es : ((kn : Int) + 1).toNat = kn + 1 := by omega
    have hbk := hA.1.2.2.1.1.2.2 kn (by omega) kl
    rw [ecb] at hbk
    rw [ecb]
    have np4 : X15 (i + 9 + 8 * bn + 4) kn = mC (hZ Z q a bn 0) q kn 3 := by rw [o15 _ (by omega) (by omega)]; exact hbk.2.2.2.1
    rw [np4]
    refine ⟨?_, ?_⟩
    · omega
    refine ⟨?_, ?_⟩
    · omega
    refine ⟨?_, ?_⟩
    · intro c10
      refine ⟨?_, ?_⟩
      · omega
      refine ⟨?_, ?_⟩
      · refine ⟨Or.inr (by omega), ⟨by omega, by omega⟩, fun y y0 y1 => ?_, fun y y0 y1 => ?_⟩
        · rw [o15 _ (by omega) (by omega), hk.1 _ (by omega)]
          exact hB.1 y y0 y1
        · have := b15 y y0 y1
          exact ⟨this.1, by show X15 (i + 261) y ≤ _; omega⟩
      intro r25
      intro _
      intro X24
      intro rX24
      intro h4
      obtain ⟨n, n3, nn, eX, er9⟩ := h4
      have hnp : n = (mC (hZ Z q a bn 0) q kn 3).toNat := by have := hoP.1; have := hoP.2.1; omega
      have P := pyR (X := X15) (np := (mC (hZ Z q a bn 0) q kn 3).toNat) (b := i + 9 + 8 * bn) (j := i + 260) (k := kn) (c := v) (B := 200000 + 99 * u) (pf := rF (hZ Z q a bn 0) q kn) (pt := rO (hZ Z q a bn 0) q kn) (pm := rM (hZ Z q a bn 0) q kn) a15 a6.2.2 (fun n hn => by
        have e : X15 (i + 9 + 8 * bn + 5) = X2 (i + 9 + 8 * bn + 5) := o15 _ (by omega) (by omega)
        have h5 := hbk.2.2.2.2 n
        rw [e, h5 0 (by omega) (by omega) (by decide) (by decide), h5 1 (by omega) (by omega) (by decide) (by decide), h5 2 (by omega) (by omega) (by decide) (by decide)]
        unfold rF rO rM
        rw [show (4 + 3 * (n : Int) + 0) = 4 + 3 * n by omega, show (4 + 3 * (n : Int) + 1) = 5 + 3 * n by omega, show (4 + 3 * (n : Int) + 2) = 6 + 3 * n by omega]
        exact ⟨rfl, rfl, rfl⟩) q15 b15 (fun n hn => by have := (hoP.2.2 n (by omega)).2.2; omega) n (by omega)
      obtain ⟨⟨p1, p2⟩, p3, p4, p5⟩ := P
      rw [← eX] at p4 p5
      rw [← er9] at p1 p2 p3
      have hs := rpB_s (acc := hZ Z q a bn 0 q 26) (np := fun k => (mC (hZ Z q a bn 0) q k 3).toNat) (pf := fun k => rF (hZ Z q a bn 0) q k) (pt := fun k => rO (hZ Z q a bn 0) q k) (pm := fun k => rM (hZ Z q a bn 0) q k) (set := zAnd (wyP (rP (hZ Z q a bn 0) q) gn) (zXor (wyP (rP (hZ Z q a bn 0) q) dn) (-1))) (L := rLd (hZ Z q a bn 0) q dn) (k := kn)
      have hM : rpB (hZ Z q a bn 0 q 26) (fun k => (mC (hZ Z q a bn 0) q k 3).toNat) (fun k => rF (hZ Z q a bn 0) q k) (fun k => rO (hZ Z q a bn 0) q k) (fun k => rM (hZ Z q a bn 0) q k) (zAnd (wyP (rP (hZ Z q a bn 0) q) gn) (zXor (wyP (rP (hZ Z q a bn 0) q) dn) (-1))) (rLd (hZ Z q a bn 0) q dn) kn = (M, v, u) := hM
      rw [decide_eq_true (show 1 ≤ kn by omega), c10, hM] at hs
      have hs := hs.trans (if_pos rfl)
      have hnp' : ((mC (hZ Z q a bn 0) q kn 3).toNat : Int) = mC (hZ Z q a bn 0) q kn 3 := by have := hoP.1; omega
      rw [← hnp] at hs
      have o24 : ∀ z, z ≠ i + 261 → X24 z = X15 z := fun z hz => by rw [eX]; exact pyW_o n z (by omega)
      refine ⟨?_, ?_⟩
      · have := hoP.1
        have := hoP.2.1
        exact ⟨by omega, by omega⟩
      refine ⟨?_, ?_⟩
      · have := hoP.2.1
        have := hoP.1
        exact ⟨by omega, by omega⟩
      refine ⟨?_, ?_⟩
      · first | omega | exact ⟨by omega, by omega⟩ | decide | assumption | exact ⟨by omega, by omega, by omega⟩ | exact ⟨by decide, by decide⟩
      refine ⟨?_, ?_⟩
      · rw [es]
        refine ⟨⟨⟨by omega, by omega⟩, ⟨by omega, by have := hoP.1; omega⟩, by have := hoP.2.1; omega⟩, fun z z1 z2 => (o24 z z2).trans (fo z z1 z2), by rw [o24 _ (by omega)]; exact a15, fun y y0 y1 => by have h5 : 0 ≤ X24 (i + 261) y ∧ X24 (i + 261) y ≤ 200000 + 99 * u + 99 * n := p5 y y0 y1; exact ⟨h5.1, by have := hoP.1; omega⟩, (rpP (hZ Z q a bn 0 q 26) (rF (hZ Z q a bn 0) q kn) (rO (hZ Z q a bn 0) q kn) (rM (hZ Z q a bn 0) q kn) (M, v) n).1, ?_, p4⟩
        refine hs.trans ?_
        rw [← p3, show u + (n : Int) = u + mC (hZ Z q a bn 0) q kn 3 by have := hoP.1; omega]
      first | omega | exact ⟨by omega, by omega⟩ | decide | assumption | exact ⟨by omega, by omega, by omega⟩ | exact ⟨by decide, by decide⟩
    intro c11
    have hs := rpB_s (acc := hZ Z q a bn 0 q 26) (np := fun k => (mC (hZ Z q a bn 0) q k 3).toNat) (pf := fun k => rF (hZ Z q a bn 0) q k) (pt := fun k => rO (hZ Z q a bn 0) q k) (pm := fun k => rM (hZ Z q a bn 0) q k) (set := zAnd (wyP (rP (hZ Z q a bn 0) q) gn) (zXor (wyP (rP (hZ Z q a bn 0) q) dn) (-1))) (L := rLd (hZ Z q a bn 0) q dn) (k := kn)
    have hM : rpB (hZ Z q a bn 0 q 26) (fun k => (mC (hZ Z q a bn 0) q k 3).toNat) (fun k => rF (hZ Z q a bn 0) q k) (fun k => rO (hZ Z q a bn 0) q k) (fun k => rM (hZ Z q a bn 0) q k) (zAnd (wyP (rP (hZ Z q a bn 0) q) gn) (zXor (wyP (rP (hZ Z q a bn 0) q) dn) (-1))) (rLd (hZ Z q a bn 0) q dn) kn = (M, v, u) := hM
    rw [decide_eq_true (show 1 ≤ kn by omega), c11, hM] at hs
    have hs := hs.trans (if_neg (by decide))
    refine ⟨?_, ?_⟩
    · first | omega | exact ⟨by omega, by omega⟩ | decide | assumption | exact ⟨by omega, by omega, by omega⟩ | exact ⟨by decide, by decide⟩
    refine ⟨?_, ?_⟩
    · rw [es]
      exact ⟨⟨⟨by omega, by omega⟩, v1, by omega⟩, fo, a15, b15, M, hs, q15⟩
    first | omega | exact ⟨by omega, by omega⟩ | decide | assumption | exact ⟨by omega, by omega, by omega⟩ | exact ⟨by decide, by decide⟩
  intro c12
  have e9 : (mIn gn 0 (qN Z q bn) && (mIn d 0 (qN Z q bn) && (sdf (hZ Z q a bn 0) q (gn : Int).toNat && sdf (hZ Z q a bn 0) q d.toNat))) = false := by
    have c9 := c12
    rw [cA_so hA, e27] at c9
    cases s1 : sdf (hZ Z q a bn 0) q d.toNat
    · simp
    · rw [s1, Bool.and_true, decide_eq_false_iff_not] at c9
      rw [mIn_f.mpr (show ¬ (0 ≤ d ∧ d ≤ qN Z q bn) by omega)]
      simp
  refine ⟨eR, ?_, hk⟩
  unfold rReplay
  rw [e, e9]
  rfl
theorem c_X10_replay {l : Launch} {D : va_G} {cy : Nat → ClassId} {bs N : Nat} {sa : Nat → Nat} {kd len : Nat → Nat} {X Y : Nat → Int → Int} {R : Nat → Int → Option Nat} {i : Nat} {Z : Nat → Int → Int} {q : Nat} (hC : zWC N kd len R i) (a : Int) (ha : rI a) (b : Int) (hb : rI b) (g : Int) (hg : rI g) (d : Int) (hd : rI d) (f : Bool) (hp : wcQ Z q X i) : Met l yX10_replay (.code yX10_replay cX10_replay 9 (some .int) :: zTB) (zRm 5 134) (zPc D cy bs sa N kd len X Y R [.ref (bs + (i)), .int (zI (a)), .int (zI (b)), .int (zI (g)), .int (zI (d)), .int (zI (bz (f)))]) (zQi D cy bs N kd len (fun r st => (((st.2.2) = wgR Z q R i (a) (b)) ∧ r = rReplay Z q (a) (b) (g) (d) f ∧ qK X (st.1) i))) 0 0 (zA bs) := w_X10_replay hC a ha b hb g hg d hd f (v_X10_replay a ha b hb g hg d hd f hp)
