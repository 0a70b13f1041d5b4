/-! WHAT IS TOLD, HERE AND IN THE REFERENCE -/
def nV (X : Nat → Int → Int) (n : Nat) : Prop := ∀ a, 0 ≤ a → a < 6 → 0 ≤ X (n + 1) a ∧ X (n + 1) a ≤ 99
def bV (X : Nat → Int → Int) (b : Nat) : Prop := pyP X b ∧ X (b + 2) 0 = 0 ∧ X (b + 4) 0 = 0
def rowV (X : Nat → Int → Int) (r : Nat) (wd mo : Int) (nn : Nat) : Prop := oRw X r nn ∧ X r 0 = wd ∧ X r 1 = mo
def netR (Z : Nat → Int → Int) (q : Nat) (o : Int) (X : Nat → Int → Int) (n : Nat) : Prop := (∀ w, 0 ≤ w → w ≤ 6 → X n w = Z (q + 6) (o + w)) ∧ ∀ a, 0 ≤ a → a < X n 6 → X (n + 1) a = Z (q + 6) (o + (7 + a))
def blkR (Z : Nat → Int → Int) (q : Nat) (o : Int) (X : Nat → Int → Int) (b : Nat) : Prop := X b 0 = Z (q + 7) o ∧ ∀ k, 1 ≤ k → k ≤ X b 0 → (X (b + 1) k = Z (q + 7) (o + 1 + 13 * (k - 1) + 0) ∧ X (b + 2) k = Z (q + 7) (o + 1 + 13 * (k - 1) + 1) ∧ X (b + 3) k = Z (q + 7) (o + 1 + 13 * (k - 1) + 2) ∧ X (b + 4) k = Z (q + 7) (o + 1 + 13 * (k - 1) + 3)) ∧ ∀ j w : Int, 0 ≤ j → j < X (b + 4) k → 0 ≤ w → w < 3 → X (b + 5) ((k * 3 + j) * 3 + w) = Z (q + 7) (o + 1 + 13 * (k - 1) + (4 + 3 * j + w))
def rowR (Z : Nat → Int → Int) (c : Nat) (o wd : Int) (X : Nat → Int → Int) (r : Nat) : Prop := X r 2 = Z c o ∧ ∀ k w : Int, 0 ≤ k → k < X r 2 → 0 ≤ w → w < wd → X (r + 1) (k * wd + w) = Z c (o + 1 + wd * k + w)
/-- the m-th told world of the reference at q is what is told at i -/
def tdR (Z : Nat → Int → Int) (q : Nat) (m : Int) (X : Nat → Int → Int) (i : Nat) : Prop := (X i 1 = Z (q + 2) m ∧ X i 2 = Z (q + 3) m ∧ X i 3 = Z (q + 4) m) ∧ (∀ y, 0 ≤ y → y < 600 → X (i + 1) y = Z (q + 1) (600 * m + y)) ∧ (∀ s, 0 ≤ s → s < 5 → X (i + 2) s = Z (q + 5) (5 * m + s)) ∧
  (∀ n : Nat, n < 2 → nV X (i + 6 + 8 * n) ∧ ((n : Int) < X (i + 2) 0 → netR Z q (26 * m + 13 * n) X (i + 6 + 8 * n))) ∧ (∀ n : Nat, n < 2 → bV X (i + 8 + 8 * n) ∧ ((n : Int) < X (i + 2) 1 → blkR Z q (366 * m + 183 * n) X (i + 8 + 8 * n))) ∧
  (∀ n : Nat, n < 2 → rowV X (i + 22 + 2 * n) 2 40 80 ∧ ((n : Int) < X (i + 2) 2 → rowR Z (q + 8) (162 * m + 81 * n) 2 X (i + 22 + 2 * n))) ∧ (∀ n : Nat, n < 2 → rowV X (i + 26 + 2 * n) 2 8 16 ∧ ((n : Int) < X (i + 2) 3 → rowR Z (q + 9) (34 * m + 17 * n) 2 X (i + 26 + 2 * n))) ∧ (∀ n : Nat, n < 2 → rowV X (i + 30 + 2 * n) 4 6 24 ∧ ((n : Int) < X (i + 2) 4 → rowR Z (q + 10) (50 * m + 25 * n) 4 X (i + 30 + 2 * n)))
/-- what a call that asks stands on -/
def wcQ (Z : Nat → Int → Int) (q : Nat) (X : Nat → Int → Int) (i : Nat) : Prop := (oTN Z q ∧ oTF Z q ∧ oTLg Z q ∧ oTPo Z q) ∧ tdR Z q 0 X (i + 1) ∧ chI X (i + 157)
/-- and what it leaves -/
def qK (X X1 : Nat → Int → Int) (i : Nat) : Prop := (∀ z, (z < i + 157 ∨ i + 261 < z) → X1 z = X z) ∧ chI X1 (i + 157)
theorem qK.tr {X X1 X2 : Nat → Int → Int} {i : Nat} (h : qK X X1 i) (g : qK X1 X2 i) : qK X X2 i := ⟨fun z hz => (g.1 z hz).trans (h.1 z hz), g.2⟩
theorem tdR_o {Z : Nat → Int → Int} {q : Nat} {m : Int} {X X1 : Nat → Int → Int} {i : Nat} (e : ∀ z, i ≤ z → z ≤ i + 33 → X1 z = X z) (h : tdR Z q m X i) : tdR Z q m X1 i := by
  obtain ⟨h1, h2, h3, h4, h5, h6, h7, h8⟩ := h
  have e0 := e i (by omega) (by omega)
  have e2 := e (i + 2) (by omega) (by omega)
  refine ⟨by rw [e0]; exact h1, by rw [e (i + 1) (by omega) (by omega)]; exact h2, by rw [e2]; exact h3, fun n hn => ?_, fun n hn => ?_, fun n hn => ?_, fun n hn => ?_, fun n hn => ?_⟩
  · rw [e2]
    unfold nV netR
    rw [e (i + 6 + 8 * n) (by omega) (by omega), e (i + 6 + 8 * n + 1) (by omega) (by omega)]
    exact h4 n hn
  · rw [e2]
    unfold bV pyP blkR
    rw [e (i + 8 + 8 * n) (by omega) (by omega), e (i + 8 + 8 * n + 1) (by omega) (by omega), e (i + 8 + 8 * n + 2) (by omega) (by omega), e (i + 8 + 8 * n + 3) (by omega) (by omega), e (i + 8 + 8 * n + 4) (by omega) (by omega), e (i + 8 + 8 * n + 5) (by omega) (by omega)]
    exact h5 n hn
  · rw [e2]
    unfold rowV oRw rowR
    rw [e (i + 22 + 2 * n) (by omega) (by omega), e (i + 22 + 2 * n + 1) (by omega) (by omega)]
    exact h6 n hn
  · rw [e2]
    unfold rowV oRw rowR
    rw [e (i + 26 + 2 * n) (by omega) (by omega), e (i + 26 + 2 * n + 1) (by omega) (by omega)]
    exact h7 n hn
  · rw [e2]
    unfold rowV oRw rowR
    rw [e (i + 30 + 2 * n) (by omega) (by omega), e (i + 30 + 2 * n + 1) (by omega) (by omega)]
    exact h8 n hn
theorem wcQ_o {Z : Nat → Int → Int} {q : Nat} {X X1 : Nat → Int → Int} {i : Nat} (k : qK X X1 i) (h : wcQ Z q X i) : wcQ Z q X1 i := ⟨h.1, tdR_o (fun z _ _ => k.1 z (by omega)) h.2.1, k.2⟩
section HZ
variable {Z : Nat → Int → Int} {q : Nat} {n c f : Int}
theorem hz_G (t : Int) : mG (hZ Z q n c f) q t = Z (q + 6) (13 * n + t) := by
  unfold mG
  rw [hZ_o (by omega), hZ_s.1]
theorem hz_C (k w : Int) : mC (hZ Z q n c f) q k w = Z (q + 7) (183 * c + 1 + 13 * (k - 1) + w) := by
  unfold mC
  rw [hZ_o (by omega), hZ_s.2.1]
theorem hz_v (h : oTN Z q) (h0 : 0 ≤ c) (h1 : c < Z (q + 5) 1) : vZ (hZ Z q n c f) q := by
  have hc := h.2.2 c h0 h1
  have h2 := h.1 1 (by decide) (by decide)
  have e27 : hZ Z q n c f q 27 = 1 + Z (q + 7) (183 * c) := hZ_s.2.2.2.1
  have e25 : hZ Z q n c f q 25 = c := hZ_s.2.1
  have hn := hc.1
  refine ⟨by rw [e27]; omega, ?_⟩
  rw [e27, show (1 + Z (q + 7) (183 * c) - 1).toNat = (Z (q + 7) (183 * c)).toNat by omega]
  refine ⟨⟨by unfold oC; rw [e25]; omega, by omega, fun k k1 k2 => ?_⟩, fun k k1 k2 => ?_, fun k k1 k2 => ⟨?_, ?_⟩⟩
  · rw [hz_C]
    exact (hc.2 k k1 (by omega)).1
  · rw [hz_C]
    exact (hc.2 k k1 (by omega)).2.1
  · have g := (hc.2 k (by omega) (by omega)).2.2.2
    unfold oP rF rO rM
    rw [hz_C]
    refine ⟨g.1.1, g.1.2, fun j hj => ?_⟩
    rw [hz_C, hz_C, hz_C]
    exact g.2 j hj
  · rw [hz_C]
    exact (hc.2 k (by omega) (by omega)).2.2.1
theorem hz_n (h : oTN Z q) (h0 : 0 ≤ n) (h1 : n < Z (q + 5) 0) : vN (hZ Z q n c f) q ∧ (0 ≤ hZ Z q n c f q 28 ∧ hZ Z q n c f q 28 ≤ 1) ∧ (0 ≤ hZ Z q n c f q 29 ∧ hZ Z q n c f q 29 ≤ 1) := by
  have hn := h.2.1 n h0 h1
  have h2 := h.1 0 (by decide) (by decide)
  have s := hZ_s (X := Z) (i := q) (n := n) (c := c) (f := f)
  have o : oN (hZ Z q n c f) q := by
    unfold oN
    rw [s.1]
    omega
  refine ⟨⟨⟨o, by rw [s.2.2.2.2.2.2.1]; exact hn.1, by rw [hz_G]; exact hn.2.1, by rw [hz_G]; exact hn.2.2.1⟩, by rw [s.2.2.1]; exact hn.2.2.2.2.2.2.1, o, by rw [hz_G]; exact hn.2.2.2.2.2.1, fun a a0 a1 => ?_⟩, by rw [s.2.2.2.2.1]; exact hn.2.2.2.1, by rw [s.2.2.2.2.2.1]; exact hn.2.2.2.2.1⟩
  show 0 ≤ mG (hZ Z q n c f) q (7 + a) ∧ mG (hZ Z q n c f) q (7 + a) ≤ 99
  rw [hz_G]
  exact hn.2.2.2.2.2.2.2 a a0 a1
theorem hz_bR {X : Nat → Int → Int} {b : Nat} (hv : bV X b) (h : blkR Z q (183 * c) X b) : bR (hZ Z q n c f) q X b := by
  have e27 : hZ Z q n c f q 27 = 1 + Z (q + 7) (183 * c) := hZ_s.2.2.2.1
  refine ⟨by rw [e27, h.1]; omega, hv.2.1, fun k k1 k2 => ?_⟩
  rw [e27] at k2
  have g := h.2 k k1 (by rw [h.1]; omega)
  rw [hz_C, hz_C, hz_C, hz_C]
  refine ⟨g.1.1, g.1.2.1, g.1.2.2.1, g.1.2.2.2, fun j w j0 j1 w0 w1 => ?_⟩
  rw [hz_C]
  exact g.2 j w j0 (by rw [g.1.2.2.2]; exact j1) w0 w1
theorem hz_nR {X : Nat → Int → Int} {d : Nat} (hv : nV X d) (h : netR Z q (13 * n) X d) : nR (hZ Z q n c f) q X d := by
  have s := hZ_s (X := Z) (i := q) (n := n) (c := c) (f := f)
  unfold nR
  rw [hz_G, hz_G, hz_G, s.2.2.1]
  have e6 := h.1 6 (by decide) (by decide)
  refine ⟨h.1 1 (by decide) (by decide), h.1 2 (by decide) (by decide), h.1 5 (by decide) (by decide), e6, fun a a0 a1 => ⟨fun g => ?_, fun _ => hv a a0 a1⟩⟩
  rw [hz_G]
  exact h.2 a a0 (by rw [e6]; exact g)
end HZ
theorem cA_t {Z Z1 : Nat → Int → Int} {q : Nat} {X Y : Nat → Int → Int} {R : Nat → Int → Option Nat} {i : Nat} (t : tS Z Z1 q) (h : cA Z q X Y R i) : cA Z1 q X Y R i := by
  obtain ⟨⟨⟨h1, h2⟩, h3, ⟨h4, h5⟩, h6⟩, hN, ⟨h7, h8⟩, h9, h10⟩ := h
  have e27 : Z1 q 27 = Z q 27 := t.2.2.2.2.2.1
  have e26 : Z1 q 26 = Z q 26 := t.2.2.2.2.1
  refine ⟨⟨⟨⟨by rw [e27]; exact h1.1, by rw [e27]; exact oBs_t t h1.2⟩, h2⟩, by rw [e27]; exact h3, ⟨?_, h5⟩, fun k hk => ?_⟩, ⟨oG_t t hN.1, oA_t t hN.2⟩, ⟨?_, h8⟩, fun k hk => ?_, ?_⟩
  · unfold bR
    rw [e27]
    refine ⟨h4.1, h4.2.1, fun k k1 k2 => ?_⟩
    rw [mC_t t, mC_t t, mC_t t, mC_t t]
    have g := h4.2.2 k k1 k2
    refine ⟨g.1, g.2.1, g.2.2.1, g.2.2.2.1, fun j w j0 j1 w0 w1 => ?_⟩
    rw [mC_t t]
    exact g.2.2.2.2 j w j0 j1 w0 w1
  · rw [rP_t t]
    exact h6 k (by rw [← e27]; exact hk)
  · unfold nR
    rw [mG_t t, mG_t t, mG_t t, e26]
    refine ⟨h7.1, h7.2.1, h7.2.2.1, h7.2.2.2.1, fun a a0 a1 => ?_⟩
    rw [mG_t t]
    exact h7.2.2.2.2 a a0 a1
  · rw [rW_t t, rG_t t]
    exact h9 k (by rw [← e27]; exact hk)
  · unfold jR
    rw [sdf_t t, rS_t t, e26, e27]
    exact h10
theorem hz_f {Z : Nat → Int → Int} {q : Nat} {n c f g : Int} : tS (hZ Z q n c f) (hZ Z q n c g) q := by
  have s := hZ_s (X := Z) (i := q) (n := n) (c := c) (f := f)
  have r := hZ_s (X := Z) (i := q) (n := n) (c := c) (f := g)
  refine ⟨by rw [hZ_o (by omega), hZ_o (by omega)], by rw [hZ_o (by omega), hZ_o (by omega)], by rw [s.1, r.1], by rw [s.2.1, r.2.1], by rw [s.2.2.1, r.2.2.1], by rw [s.2.2.2.1, r.2.2.2.1], by rw [s.2.2.2.2.2.2.1, r.2.2.2.2.2.2.1]⟩
def wgR (Z : Nat → Int → Int) (q : Nat) (R : Nat → Int → Option Nat) (i : Nat) (a b : Int) : Nat → Int → Option Nat := if (0 ≤ a ∧ a < 2 ∧ 0 ≤ b ∧ b < 2) ∧ rOk Z q a b = true then zU (zU R (i + 157) 1 (some (i + 9 + 8 * b.toNat))) (i + 157) 0 (some (i + 7 + 8 * a.toNat)) else R
section ZP
variable {N : Nat} {kd len : Nat → Nat} {R R1 : Nat → Int → Option Nat} {i : Nat}
theorem zWC_putB (h : zWC N kd len R i) {b : Int} {P : Prop} (hb : 0 ≤ b ∧ b < 2 ∧ P) (e : R1 = zU R (i + 157) 1 (some (i + 9 + 8 * b.toNat))) : zWC N kd len R1 i := by
  have c := zChart_net (zW_lw h).2.2.2.1.1
  exact zWC_ch h (fun z hz => by rw [e, zU_o hz]) (fun s _ h1 => by rw [e, zU_n (by omega)]) (by rw [e, zU_n (by omega)]; exact c.1) c.2 (by rw [e, zU_s]) (zTd_nb (zW_td h).2 hb.1 hb.2.1).2.2
theorem zWC_putN (h : zWC N kd len R i) {b : Int} {P : Prop} (hb : 0 ≤ b ∧ b < 2 ∧ P) (e : R1 = zU R (i + 157) 0 (some (i + 7 + 8 * b.toNat))) : zWC N kd len R1 i := by
  have c := zChart_blk (zW_lw h).2.2.2.1.1
  exact zWC_ch h (fun z hz => by rw [e, zU_o hz]) (fun s h1 _ => by rw [e, zU_n (by omega)]) (by rw [e, zU_s]) (zTd_nb (zW_td h).2 hb.1 hb.2.1).1.2 (by rw [e, zU_n (by omega)]; exact c.1) c.2
theorem zWC_wg {Z : Nat → Int → Int} {q : Nat} {a b : Int} (h : zWC N kd len R i) (e : R1 = wgR Z q R i a b) : zWC N kd len R1 i := by
  unfold wgR at e
  split at e
  · rename_i g
    rw [e]
    exact zWC_putN (P := True) (zWC_putB (P := True) h ⟨g.1.2.2.1, g.1.2.2.2, trivial⟩ rfl) ⟨g.1.1, g.1.2.1, trivial⟩ rfl
  · rw [e]
    exact h
end ZP
abbrev cX10_weigh : ByteArray := prog_1_method_22_code
def yX10_weigh : MethodName := ⟨RX10, "weigh", "(II)Z"⟩
theorem dX10_weigh_0 : decode cX10_weigh 0 = .ok (.aload_n 0, 1) := by decide +kernel
theorem dX10_weigh_1 : decode cX10_weigh 1 = .ok (.getfield 10, 3) := by decide +kernel
theorem dX10_weigh_4 : decode cX10_weigh 4 = .ok (.iload_n 1, 1) := by decide +kernel
theorem dX10_weigh_5 : decode cX10_weigh 5 = .ok (.invokevirtual 110, 3) := by decide +kernel
theorem dX10_weigh_8 : decode cX10_weigh 8 = .ok (.astore_n 3, 1) := by decide +kernel
theorem dX10_weigh_9 : decode cX10_weigh 9 = .ok (.aload_n 0, 1) := by decide +kernel
theorem dX10_weigh_10 : decode cX10_weigh 10 = .ok (.getfield 10, 3) := by decide +kernel
theorem dX10_weigh_13 : decode cX10_weigh 13 = .ok (.iload_n 2, 1) := by decide +kernel
theorem dX10_weigh_14 : decode cX10_weigh 14 = .ok (.invokevirtual 144, 3) := by decide +kernel
theorem dX10_weigh_17 : decode cX10_weigh 17 = .ok (.astore 4, 2) := by decide +kernel
theorem dX10_weigh_19 : decode cX10_weigh 19 = .ok (.aload_n 3, 1) := by decide +kernel
theorem dX10_weigh_20 : decode cX10_weigh 20 = .ok (.ifnull 8, 3) := by decide +kernel
theorem dX10_weigh_23 : decode cX10_weigh 23 = .ok (.aload 4, 2) := by decide +kernel
theorem dX10_weigh_25 : decode cX10_weigh 25 = .ok (.ifnonnull 5, 3) := by decide +kernel
theorem dX10_weigh_28 : decode cX10_weigh 28 = .ok (.iconst 0, 1) := by decide +kernel
theorem dX10_weigh_29 : decode cX10_weigh 29 = .ok (.ireturn, 1) := by decide +kernel
theorem dX10_weigh_30 : decode cX10_weigh 30 = .ok (.aload_n 0, 1) := by decide +kernel
theorem dX10_weigh_31 : decode cX10_weigh 31 = .ok (.getfield 34, 3) := by decide +kernel
theorem dX10_weigh_34 : decode cX10_weigh 34 = .ok (.aload 4, 2) := by decide +kernel
theorem dX10_weigh_36 : decode cX10_weigh 36 = .ok (.invokevirtual 272, 3) := by decide +kernel
theorem dX10_weigh_39 : decode cX10_weigh 39 = .ok (.aload_n 0, 1) := by decide +kernel
theorem dX10_weigh_40 : decode cX10_weigh 40 = .ok (.getfield 34, 3) := by decide +kernel
theorem dX10_weigh_43 : decode cX10_weigh 43 = .ok (.aload_n 3, 1) := by decide +kernel
theorem dX10_weigh_44 : decode cX10_weigh 44 = .ok (.aload_n 3, 1) := by decide +kernel
theorem dX10_weigh_45 : decode cX10_weigh 45 = .ok (.getfield 114, 3) := by decide +kernel
theorem dX10_weigh_48 : decode cX10_weigh 48 = .ok (.invokevirtual 275, 3) := by decide +kernel
theorem dX10_weigh_51 : decode cX10_weigh 51 = .ok (.aload_n 0, 1) := by decide +kernel
theorem dX10_weigh_52 : decode cX10_weigh 52 = .ok (.getfield 34, 3) := by decide +kernel
theorem dX10_weigh_55 : decode cX10_weigh 55 = .ok (.invokevirtual 278, 3) := by decide +kernel
theorem dX10_weigh_58 : decode cX10_weigh 58 = .ok (.iconst 1, 1) := by decide +kernel
theorem dX10_weigh_59 : decode cX10_weigh 59 = .ok (.ireturn, 1) := by decide +kernel
theorem q_569 : Cond.fieldLink RX10 10 RX10 "told" "LWorkChains$Told;" ∈ zTB := zmem 569 (by decide +kernel) rfl
theorem q_832 : Cond.methodLink RX10 110 yX9_netAt ∈ zTB := zmem 832 (by decide +kernel) rfl
theorem q_833 : Cond.instanceMethod yX9_netAt ∈ zTB := zmem 833 (by decide +kernel) rfl
theorem q_834 : Cond.selects RX9 yX9_netAt yX9_netAt ∈ zTB := zmem 834 (by decide +kernel) rfl
theorem q_835 : Cond.code yX9_netAt cX9_netAt 2 (some (.object "WorkChains$Net")) ∈ zTB := zmem 835 (by decide +kernel) rfl
theorem k_RX10_110 : zLv RX10 110 RX9 yX9_netAt cX9_netAt 2 (some (.object "WorkChains$Net")) 1 := ⟨⟨q_832, q_833, q_834, q_130, q_835⟩, rfl, ⟨by decide, by decide⟩, by decide +kernel⟩
theorem q_847 : Cond.methodLink RX10 144 yX9_blocksAt ∈ zTB := zmem 847 (by decide +kernel) rfl
theorem q_848 : Cond.instanceMethod yX9_blocksAt ∈ zTB := zmem 848 (by decide +kernel) rfl
theorem q_849 : Cond.selects RX9 yX9_blocksAt yX9_blocksAt ∈ zTB := zmem 849 (by decide +kernel) rfl
theorem q_850 : Cond.code yX9_blocksAt cX9_blocksAt 2 (some (.object "WorkChains$Blocks")) ∈ zTB := zmem 850 (by decide +kernel) rfl
theorem k_RX10_144 : zLv RX10 144 RX9 yX9_blocksAt cX9_blocksAt 2 (some (.object "WorkChains$Blocks")) 1 := ⟨⟨q_847, q_848, q_849, q_130, q_850⟩, rfl, ⟨by decide, by decide⟩, by decide +kernel⟩
theorem q_573 : Cond.fieldLink RX10 34 RX10 "chart" "LWorkChains$Chart;" ∈ zTB := zmem 573 (by decide +kernel) rfl
theorem q_897 : Cond.methodLink RX10 272 yX1_draw ∈ zTB := zmem 897 (by decide +kernel) rfl
theorem q_898 : Cond.instanceMethod yX1_draw ∈ zTB := zmem 898 (by decide +kernel) rfl
theorem q_899 : Cond.selects RX1 yX1_draw yX1_draw ∈ zTB := zmem 899 (by decide +kernel) rfl
theorem q_900 : Cond.code yX1_draw cX1_draw 4 none ∈ zTB := zmem 900 (by decide +kernel) rfl
theorem k_RX10_272 : zLv RX10 272 RX1 yX1_draw cX1_draw 4 none 1 := ⟨⟨q_897, q_898, q_899, q_135, q_900⟩, rfl, ⟨by decide, by decide⟩, by decide +kernel⟩
theorem q_178 : Cond.fieldLink RX10 114 RX6 "step" "I" ∈ zTB := zmem 178 (by decide +kernel) rfl
theorem q_903 : Cond.methodLink RX10 275 yX1_weigh ∈ zTB := zmem 903 (by decide +kernel) rfl
theorem q_904 : Cond.instanceMethod yX1_weigh ∈ zTB := zmem 904 (by decide +kernel) rfl
theorem q_905 : Cond.selects RX1 yX1_weigh yX1_weigh ∈ zTB := zmem 905 (by decide +kernel) rfl
theorem q_906 : Cond.code yX1_weigh cX1_weigh 6 none ∈ zTB := zmem 906 (by decide +kernel) rfl
theorem k_RX10_275 : zLv RX10 275 RX1 yX1_weigh cX1_weigh 6 none 2 := ⟨⟨q_903, q_904, q_905, q_135, q_906⟩, rfl, ⟨by decide, by decide⟩, by decide +kernel⟩
theorem q_922 : Cond.methodLink RX10 278 yX1_judge ∈ zTB := zmem 922 (by decide +kernel) rfl
theorem q_923 : Cond.instanceMethod yX1_judge ∈ zTB := zmem 923 (by decide +kernel) rfl
theorem q_924 : Cond.selects RX1 yX1_judge yX1_judge ∈ zTB := zmem 924 (by decide +kernel) rfl
theorem q_925 : Cond.code yX1_judge cX1_judge 3 none ∈ zTB := zmem 925 (by decide +kernel) rfl
theorem k_RX10_278 : zLv RX10 278 RX1 yX1_judge cX1_judge 3 none 0 := ⟨⟨q_922, q_923, q_924, q_135, q_925⟩, rfl, ⟨by decide, by decide⟩, by decide +kernel⟩
def F_X10_weigh (i : Nat) (Z : Nat → Int → Int) (q : Nat) (X Y : Nat → Int → Int) (R : Nat → Int → Option Nat) (a : Int) (b : Int) : Prop := (∀ i j, rI (X i j)) → (∀ i j, rL (Y i j)) → ((0 ≤ (a) ∧ (a) < 2 ∧ (a) < X (i + 3) 0) → (((0 ≤ (b) ∧ (b) < 2 ∧ (b) < X (i + 3) 1) → ((((vZ (hZ Z q a b 0) q ∧ chI X (i + 157)) ∧ bR (hZ Z q a b 0) q X (i + 9 + 8 * (b : Int).toNat)) ∧ (i + 9 + 8 * (b : Int).toNat) + 5 < (i + 157)) ∧ (∀ X4 : Nat → Int → Int, (∀ i j, rI (X4 i j)) → ∀ R5 : Nat → Int → Option Nat, ((R5 = zU R (i + 157) 1 (some (i + 9 + 8 * (b : Int).toNat))) ∧ dR (hZ Z q a b 0) q (X4) (R5) (i + 157) ∧ (∀ z, z ≠ (i + 157) → z ≠ i + 166 → z ≠ i + 167 → z ≠ i + 168 → (X4) z = X z) ∧ X4 (i + 157) 3 = 0) → (((dR (hZ Z q a b 0) q X4 R5 (i + 157) ∧ vN (hZ Z q a b 0) q) ∧ (nR (hZ Z q a b 0) q X4 (i + 7 + 8 * (a : Int).toNat) ∧ (i + 7 + 8 * (a : Int).toNat) + 1 < (i + 157)) ∧ ((X4 (i + 7 + 8 * (a : Int).toNat) 0)) = (hZ Z q a b 0) q 30) ∧ (∀ Y7 : Nat → Int → Int, (∀ i j, rL (Y7 i j)) → ∀ R8 : Nat → Int → Option Nat, ((R8 = zU R5 (i + 157) 0 (some (i + 7 + 8 * (a : Int).toNat))) ∧ wR (hZ Z q a b 0) q (Y7) (i + 157) ((hZ Z q a b 0) q 27) ∧ ∀ z, z ≠ i + 169 → z ≠ i + 170 → (Y7) z = Y z) → (((dR (hZ Z q a b 0) q X4 R8 (i + 157) ∧ vN (hZ Z q a b 0) q) ∧ (nR (hZ Z q a b 0) q X4 (cn R8 (i + 157)) ∧ (cn R8 (i + 157)) + 1 < (i + 157)) ∧ pyP X4 (cb R8 (i + 157))) ∧ (∀ X10 : Nat → Int → Int, (∀ i j, rI (X10 i j)) → (jR (hZ Z q a b 0) q (X10) (i + 157) ((hZ Z q a b 0) q 27) ∧ jK X4 (X10) (i + 157)) → (((R8) = wgR Z q R i (a) (b)) ∧ true = rOk Z q (a) (b) ∧ (true = false → (X10) = X ∧ (Y7) = Y) ∧ (true = true → qK X (X10) i ∧ cA (hZ Z q (a) (b) 0) q (X10) (Y7) (R8) (i + 157) ∧ (X10) (cn (R8) (i + 157)) 3 = hZ Z q (a) (b) 0 q 28 ∧ (X10) (cn (R8) (i + 157)) 4 = hZ Z q (a) (b) 0 q 29))))))))) ∧ (¬ (0 ≤ (b) ∧ (b) < 2 ∧ (b) < X (i + 3) 1) → (((R) = wgR Z q R i (a) (b)) ∧ false = rOk Z q (a) (b) ∧ (false = false → (X) = X ∧ (Y) = Y) ∧ (false = true → qK X (X) i ∧ cA (hZ Z q (a) (b) 0) q (X) (Y) (R) (i + 157) ∧ (X) (cn (R) (i + 157)) 3 = hZ Z q (a) (b) 0 q 28 ∧ (X) (cn (R) (i + 157)) 4 = hZ Z q (a) (b) 0 q 29))))) ∧ (¬ (0 ≤ (a) ∧ (a) < 2 ∧ (a) < X (i + 3) 0) → (((0 ≤ (b) ∧ (b) < 2 ∧ (b) < X (i + 3) 1) → (((R) = wgR Z q R i (a) (b)) ∧ false = rOk Z q (a) (b) ∧ (false = false → (X) = X ∧ (Y) = Y) ∧ (false = true → qK X (X) i ∧ cA (hZ Z q (a) (b) 0) q (X) (Y) (R) (i + 157) ∧ (X) (cn (R) (i + 157)) 3 = hZ Z q (a) (b) 0 q 28 ∧ (X) (cn (R) (i + 157)) 4 = hZ Z q (a) (b) 0 q 29))) ∧ (¬ (0 ≤ (b) ∧ (b) < 2 ∧ (b) < X (i + 3) 1) → (((R) = wgR Z q R i (a) (b)) ∧ false = rOk Z q (a) (b) ∧ (false = false → (X) = X ∧ (Y) = Y) ∧ (false = true → qK X (X) i ∧ cA (hZ Z q (a) (b) 0) q (X) (Y) (R) (i + 157) ∧ (X) (cn (R) (i + 157)) 3 = hZ Z q (a) (b) 0 q 28 ∧ (X) (cn (R) (i + 157)) 4 = hZ Z q (a) (b) 0 q 29)))))
set_option maxHeartbeats 4000000 in
set_option maxRecDepth 100000 in
theorem w_X10_weigh {l : Launch} {D : va_G} {cy : Nat → ClassId} {bs N : Nat} {sa : Nat → Nat} {kd len : Nat → Nat} {X Y : Nat → Int → Int} {R : Nat → Int → Option Nat} {i : Nat} {Z : Nat → Int → Int} {q : Nat} (hC : zWC N kd len R i) (a : Int) (ha : rI a) (b : Int) (hb : rI b) (hF : F_X10_weigh i Z q X Y R a b) : Met l yX10_weigh (.code yX10_weigh cX10_weigh 5 (some .boolean) :: zTB) (zRm 4 110) (zPc D cy bs sa N kd len X Y R [.ref (bs + (i)), .int (zI (a)), .int (zI (b))]) (zQi D cy bs N kd len (fun r st => ∃ rb : Bool, r = bz rb ∧ (((st.2.2) = wgR Z q R i (a) (b)) ∧ rb = rOk Z q (a) (b) ∧ (rb = false → (st.1) = X ∧ (st.2.1) = Y) ∧ (rb = true → qK X (st.1) i ∧ cA (hZ Z q (a) (b) 0) q (st.1) (st.2.1) (st.2.2) (i + 157) ∧ (st.1) (cn (st.2.2) (i + 157)) 3 = hZ Z q (a) (b) 0 q 28 ∧ (st.1) (cn (st.2.2) (i + 157)) 4 = hZ Z q (a) (b) 0 q 29)))) 0 0 (zA bs) := by
  refine zstart (by decide) (Nat.le_of_ble_eq_true rfl) ?_
  intro p e s m args below meth c ls C hE hH hr hlk hnm hl hargs
  have hF := hF hH.2.2.1 hH.2.2.2
  have hS : va_S (zA bs) s.heap s.heap [] := va_S.rf
  have hl : lv_has ls 5 [(0, .ref (bs + (i))), (1, .int (zI (a))), (2, .int (zI (b)))] := hl
  refine lv_aload_n C.1 C.2.1 dX10_weigh_0 rfl (lv_at hl 0 rfl) ?_
  refine zg10_0 C hH (zW_n hC) (zW_k hC) q_569 (zW_td hC).1 dX10_weigh_1 ?_
  refine lv_iload_n C.1 C.2.1 dX10_weigh_4 rfl (lv_at hl 1 rfl) ?_
  refine zgor (zrunV (As := [.int (zI (a))]) (rest := []) C hE hH hS hl.1 (c_X9_netAt (l := l) (zW_td hC).2 (a) ha) k_RX10_110 ⟨Nat.le_of_ble_eq_true rfl, Nat.le_of_ble_eq_true rfl⟩ (zTold_n0 (zW_td hC).2.1) (zTold_k0 (zW_td hC).2.1) rfl rfl rfl (Nat.le_of_ble_eq_true rfl) dX10_weigh_5 ⟨Nat.zero_le _, Nat.zero_le _⟩) hS (fun rq Xq Yq Rq H locs hq hH hS => ?_)
  obtain ⟨h92, h91⟩ := hq
  have h93 : Xq = X := congrArg (fun z => z.1) h92
  have h94 : Yq = Y := congrArg (fun z => z.2.1) h92
  have h95 : Rq = R := congrArg (fun z => z.2.2) h92
  rw [h93, h94, h95] at hH
  rw [h91]
  by_cases c1 : 0 ≤ (a) ∧ (a) < 2 ∧ (a) < X (i + 3) 0
  · rw [if_pos c1]
    have hF := hF.1 c1
    refine lv_astore_n (lv' := [(3, .ref (bs + (i + 7 + 8 * (a : Int).toNat))), (0, .ref (bs + (i))), (1, .int (zI (a))), (2, .int (zI (b)))]) C.1 C.2.1 dX10_weigh_8 rfl hl (by decide) rfl (fun ls hl => ?_)
    refine lv_aload_n C.1 C.2.1 dX10_weigh_9 rfl (lv_at hl 1 rfl) ?_
    refine zg10_0 C hH (zW_n hC) (zW_k hC) q_569 (zW_td hC).1 dX10_weigh_10 ?_
    refine lv_iload_n C.1 C.2.1 dX10_weigh_13 rfl (lv_at hl 3 rfl) ?_
    refine zgor (zrunV (As := [.int (zI (b))]) (rest := []) C hE hH hS hl.1 (c_X9_blocksAt (l := l) (zW_td hC).2 (b) hb) k_RX10_144 ⟨Nat.le_of_ble_eq_true rfl, Nat.le_of_ble_eq_true rfl⟩ (zTold_n0 (zW_td hC).2.1) (zTold_k0 (zW_td hC).2.1) rfl rfl rfl (Nat.le_of_ble_eq_true rfl) dX10_weigh_14 ⟨Nat.zero_le _, Nat.zero_le _⟩) hS (fun rq Xq Yq Rq H locs hq hH hS => ?_)
    obtain ⟨h92, h91⟩ := hq
    have h93 : Xq = X := congrArg (fun z => z.1) h92
    have h94 : Yq = Y := congrArg (fun z => z.2.1) h92
    have h95 : Rq = R := congrArg (fun z => z.2.2) h92
    rw [h93, h94, h95] at hH
    rw [h91]
    by_cases c2 : 0 ≤ (b) ∧ (b) < 2 ∧ (b) < X (i + 3) 1
    · rw [if_pos c2]
      have hF := hF.1 c2
      refine lv_astore (lv' := [(4, .ref (bs + (i + 9 + 8 * (b : Int).toNat))), (3, .ref (bs + (i + 7 + 8 * (a : Int).toNat))), (0, .ref (bs + (i))), (1, .int (zI (a))), (2, .int (zI (b)))]) C.1 C.2.1 dX10_weigh_17 hl (by decide) rfl (fun ls hl => ?_)
      refine lv_aload_n C.1 C.2.1 dX10_weigh_19 rfl (lv_at hl 1 rfl) ?_
      refine lv_ifnull C.1 C.2.1 dX10_weigh_20 ?_
      refine lv_aload C.1 C.2.1 dX10_weigh_23 (lv_at hl 0 rfl) ?_
      refine lv_ifnonnull (tgt := 30) C.1 C.2.1 dX10_weigh_25 (by decide) ?_
      refine lv_aload_n C.1 C.2.1 dX10_weigh_30 rfl (lv_at hl 2 rfl) ?_
      refine zg10_4 C hH (zW_n hC) (zW_k hC) q_573 (zW_lw hC).1 dX10_weigh_31 ?_
      refine lv_aload C.1 C.2.1 dX10_weigh_34 (lv_at hl 0 rfl) ?_
      obtain ⟨o3, hF⟩ := hF
      refine zgov (zrunV (As := [.ref (bs + (i + 9 + 8 * (b : Int).toNat))]) (rest := []) C hE hH hS hl.1 (c_X1_draw (l := l) (zW_lw hC).2.2.2.1.1 (zTd_nb (zW_td hC).2 c2.1 c2.2.1).2.2  o3) k_RX10_272 ⟨Nat.le_of_ble_eq_true rfl, Nat.le_of_ble_eq_true rfl⟩ (zChart_n0 (zW_lw hC).2.2.2.1.1) (zChart_k0 (zW_lw hC).2.2.2.1.1) rfl rfl rfl (Nat.le_of_ble_eq_true rfl) dX10_weigh_36 ⟨Nat.zero_le _, Nat.zero_le _⟩) hS (fun X4 Yq R5 H locs hq hH hS => ?_)
      obtain ⟨h9Y, hq⟩ := hq
      dsimp only at h9Y
      rw [h9Y] at hH
      have hF := hF X4 hH.2.2.1 R5 hq
      have hC := zWC_putB hC c2 hq.1
      refine lv_aload_n C.1 C.2.1 dX10_weigh_39 rfl (lv_at hl 2 rfl) ?_
      refine zg10_4 C hH (zW_n hC) (zW_k hC) q_573 (zW_lw hC).1 dX10_weigh_40 ?_
      refine lv_aload_n C.1 C.2.1 dX10_weigh_43 rfl (lv_at hl 1 rfl) ?_
      refine lv_aload_n C.1 C.2.1 dX10_weigh_44 rfl (lv_at hl 1 rfl) ?_
      refine zg6_0 C hH (zNet_n0 (zTd_nb (zW_td hC).2 c1.1 c1.2.1).1.2) (zNet_k0 (zTd_nb (zW_td hC).2 c1.1 c1.2.1).1.2) q_178 dX10_weigh_45 ?_
      obtain ⟨o6, hF⟩ := hF
      refine zgov (zrunV (As := [.ref (bs + (i + 7 + 8 * (a : Int).toNat)), .int (zI (X4 (i + 7 + 8 * (a : Int).toNat) 0))]) (rest := []) C hE hH hS hl.1 (c_X1_weigh (l := l) (zW_lw hC).2.2.2.1.1 (zTd_nb (zW_td hC).2 c1.1 c1.2.1).1.2 (X4 (i + 7 + 8 * (a : Int).toNat) 0) (hH.2.2.1 _ _) o6) k_RX10_275 ⟨Nat.le_of_ble_eq_true rfl, Nat.le_of_ble_eq_true rfl⟩ (zChart_n0 (zW_lw hC).2.2.2.1.1) (zChart_k0 (zW_lw hC).2.2.2.1.1) rfl rfl rfl (Nat.le_of_ble_eq_true rfl) dX10_weigh_48 ⟨Nat.zero_le _, Nat.zero_le _⟩) hS (fun Xq Y7 R8 H locs hq hH hS => ?_)
      obtain ⟨h9X, hq⟩ := hq
      dsimp only at h9X
      rw [h9X] at hH
      have hF := hF Y7 hH.2.2.2 R8 hq
      have hC := zWC_putN hC c1 hq.1
      refine lv_aload_n C.1 C.2.1 dX10_weigh_51 rfl (lv_at hl 2 rfl) ?_
      refine zg10_4 C hH (zW_n hC) (zW_k hC) q_573 (zW_lw hC).1 dX10_weigh_52 ?_
      obtain ⟨o9, hF⟩ := hF
      refine zgov (zrunV (As := []) (rest := []) C hE hH hS hl.1 (c_X1_judge (l := l) (zW_lw hC).2.2.2.1.1  o9) k_RX10_278 ⟨Nat.le_of_ble_eq_true rfl, Nat.le_of_ble_eq_true rfl⟩ (zChart_n0 (zW_lw hC).2.2.2.1.1) (zChart_k0 (zW_lw hC).2.2.2.1.1) rfl rfl rfl (Nat.le_of_ble_eq_true rfl) dX10_weigh_55 ⟨Nat.zero_le _, Nat.zero_le _⟩) hS (fun X10 Yq Rq H locs hq hH hS => ?_)
      obtain ⟨h9Y, h9R, hq⟩ := hq
      dsimp only at h9Y h9R
      rw [h9Y, h9R] at hH
      have hF := hF X10 hH.2.2.1 hq
      refine zd_iconst C dX10_weigh_58 ?_
      exact zd_zret C hr hlk hH hS (by decide) (⟨_, rfl, hF⟩) dX10_weigh_59
    · rw [if_neg c2]
      have hF := hF.2 c2
      refine lv_astoreN (lv' := [(4, .null), (3, .ref (bs + (i + 7 + 8 * (a : Int).toNat))), (0, .ref (bs + (i))), (1, .int (zI (a))), (2, .int (zI (b)))]) C.1 C.2.1 dX10_weigh_17 hl (by decide) rfl (fun ls hl => ?_)
      refine lv_aload_n C.1 C.2.1 dX10_weigh_19 rfl (lv_at hl 1 rfl) ?_
      refine lv_ifnull C.1 C.2.1 dX10_weigh_20 ?_
      refine lv_aloadN C.1 C.2.1 dX10_weigh_23 (lv_at hl 0 rfl) ?_
      refine lv_ifnonnullN C.1 C.2.1 dX10_weigh_25 ?_
      refine zd_iconst C dX10_weigh_28 ?_
      exact zd_zret C hr hlk hH hS (by decide) (⟨_, rfl, hF⟩) dX10_weigh_29
  · rw [if_neg c1]
    have hF := hF.2 c1
    refine lv_astore_nN (lv' := [(3, .null), (0, .ref (bs + (i))), (1, .int (zI (a))), (2, .int (zI (b)))]) C.1 C.2.1 dX10_weigh_8 rfl hl (by decide) rfl (fun ls hl => ?_)
    refine lv_aload_n C.1 C.2.1 dX10_weigh_9 rfl (lv_at hl 1 rfl) ?_
    refine zg10_0 C hH (zW_n hC) (zW_k hC) q_569 (zW_td hC).1 dX10_weigh_10 ?_
    refine lv_iload_n C.1 C.2.1 dX10_weigh_13 rfl (lv_at hl 3 rfl) ?_
    refine zgor (zrunV (As := [.int (zI (b))]) (rest := []) C hE hH hS hl.1 (c_X9_blocksAt (l := l) (zW_td hC).2 (b) hb) k_RX10_144 ⟨Nat.le_of_ble_eq_true rfl, Nat.le_of_ble_eq_true rfl⟩ (zTold_n0 (zW_td hC).2.1) (zTold_k0 (zW_td hC).2.1) rfl rfl rfl (Nat.le_of_ble_eq_true rfl) dX10_weigh_14 ⟨Nat.zero_le _, Nat.zero_le _⟩) hS (fun rq Xq Yq Rq H locs hq hH hS => ?_)
    obtain ⟨h92, h91⟩ := hq
    have h93 : Xq = X := congrArg (fun z => z.1) h92
    have h94 : Yq = Y := congrArg (fun z => z.2.1) h92
    have h95 : Rq = R := congrArg (fun z => z.2.2) h92
    rw [h93, h94, h95] at hH
    rw [h91]
    by_cases c11 : 0 ≤ (b) ∧ (b) < 2 ∧ (b) < X (i + 3) 1
    · rw [if_pos c11]
      have hF := hF.1 c11
      refine lv_astore (lv' := [(4, .ref (bs + (i + 9 + 8 * (b : Int).toNat))), (3, .null), (0, .ref (bs + (i))), (1, .int (zI (a))), (2, .int (zI (b)))]) C.1 C.2.1 dX10_weigh_17 hl (by decide) rfl (fun ls hl => ?_)
      refine lv_aload_nN C.1 C.2.1 dX10_weigh_19 rfl (lv_at hl 1 rfl) ?_
      refine lv_ifnullN (tgt := 28) C.1 C.2.1 dX10_weigh_20 (by decide) ?_
      refine zd_iconst C dX10_weigh_28 ?_
      exact zd_zret C hr hlk hH hS (by decide) (⟨_, rfl, hF⟩) dX10_weigh_29
    · rw [if_neg c11]
      have hF := hF.2 c11
      refine lv_astoreN (lv' := [(4, .null), (3, .null), (0, .ref (bs + (i))), (1, .int (zI (a))), (2, .int (zI (b)))]) C.1 C.2.1 dX10_weigh_17 hl (by decide) rfl (fun ls hl => ?_)
      refine lv_aload_nN C.1 C.2.1 dX10_weigh_19 rfl (lv_at hl 1 rfl) ?_
      refine lv_ifnullN (tgt := 28) C.1 C.2.1 dX10_weigh_20 (by decide) ?_
      refine zd_iconst C dX10_weigh_28 ?_
      exact zd_zret C hr hlk hH hS (by decide) (⟨_, rfl, hF⟩) dX10_weigh_29
theorem v_X10_weigh {X Y : Nat → Int → Int} {R : Nat → Int → Option Nat} {i : Nat} {Z : Nat → Int → Int} {q : Nat} (a : Int) (ha : rI a) (b : Int) (hb : rI b) (hp : wcQ Z q X i) : F_X10_weigh i Z q X Y R a b := by
  unfold F_X10_weigh
  intro hX hY
  obtain ⟨hO, hT, hI⟩ := hp
  have tc := hT.2.2.1
  have t0 : X (i + 1 + 2) 0 = Z (q + 5) 0 := tc 0 (by decide) (by decide)
  have t1 : X (i + 1 + 2) 1 = Z (q + 5) 1 := tc 1 (by decide) (by decide)
  have q0 := hO.1.1 0 (by decide) (by decide)
  have q1 := hO.1.1 1 (by decide) (by decide)
  refine ⟨?_, ?_⟩
  · intro c1
    refine ⟨?_, ?_⟩
    · intro c2
      obtain ⟨a0, a1, a2⟩ := c1
      obtain ⟨b0, b1, b2⟩ := c2
      have a2 : a < X (i + 1 + 2) 0 := a2
      have b2 : b < X (i + 1 + 2) 1 := b2
      obtain ⟨an, rfl⟩ := nat_of a0
      obtain ⟨bn, rfl⟩ := nat_of b0
      have ea : ((an : Nat) : Int).toNat = an := by omega
      have eb : ((bn : Nat) : Int).toNat = bn := by omega
      have hN := hT.2.2.2.1 an (by omega)
      have hB := hT.2.2.2.2.1 bn (by omega)
      rw [show i + 1 + 6 + 8 * an = i + 7 + 8 * an by omega] at hN
      rw [show i + 1 + 8 + 8 * bn = i + 9 + 8 * bn by omega] at hB
      have nr := hN.2 a2
      have br := hB.2 b2
      rw [show 26 * (0 : Int) + 13 * (an : Int) = 13 * an by omega] at nr
      rw [show 366 * (0 : Int) + 183 * (bn : Int) = 183 * bn by omega] at br
      have hv := hz_v (n := an) (f := 0) hO.1 b0 (by omega)
      have hn := hz_n (c := bn) (f := 0) hO.1 a0 (by omega)
      rw [ea, eb]
      refine ⟨?_, ?_⟩
      · exact ⟨⟨⟨hv, hI⟩, hz_bR hB.1 br⟩, by omega⟩
      intro X4
      intro rX4
      intro R5
      intro h1
      obtain ⟨eR, hd, fo, _⟩ := h1
      have e4 : X4 (i + 7 + 8 * an) = X (i + 7 + 8 * an) := fo _ (by omega) (by omega) (by omega) (by omega)
      have e4' : X4 (i + 7 + 8 * an + 1) = X (i + 7 + 8 * an + 1) := fo _ (by omega) (by omega) (by omega) (by omega)
      have hnr := hz_nR (c := bn) (f := 0) hN.1 nr
      have hnr4 : nR (hZ Z q an bn 0) q X4 (i + 7 + 8 * an) := by
        unfold nR
        rw [e4, e4']
        exact hnr
      refine ⟨?_, ?_⟩
      · refine ⟨⟨hd, hn.1⟩, ⟨hnr4, by omega⟩, ?_⟩
        rw [e4, hZ_s.2.2.2.2.2.2.1]
        exact (nr.1 0 (by decide) (by decide)).trans (by rw [Int.add_zero])
      intro Y7
      intro rY7
      intro R8
      intro h2
      obtain ⟨eR8, hw, fy⟩ := h2
      have hcn : cn R8 (i + 157) = i + 7 + 8 * an := by
        unfold cn
        rw [eR8, zU_s]
        rfl
      have hcb5 : cb R5 (i + 157) = i + 9 + 8 * bn := by
        unfold cb
        rw [eR, zU_s]
        rfl
      have hcb : cb R8 (i + 157) = i + 9 + 8 * bn := by
        unfold cb
        rw [eR8, zU_n (by omega)]
        exact hcb5
      have hd8 : dR (hZ Z q an bn 0) q X4 R8 (i + 157) := by
        unfold dR
        rw [hcb]
        unfold dR at hd
        rw [hcb5] at hd
        exact hd
      refine ⟨?_, ?_⟩
      · rw [hcn, hcb]
        refine ⟨⟨hd8, hn.1⟩, ⟨hnr4, by omega⟩, ?_⟩
        unfold pyP
        rw [fo _ (by omega) (by omega) (by omega) (by omega)]
        exact hB.1.1
      intro X10
      intro rX10
      intro h3
      obtain ⟨hj, jk⟩ := h3
      have oz : ∀ z, (z < i + 157 ∨ i + 261 < z) → X10 z = X4 z := fun z hz => jk.1 z (by omega) (by omega)
      have hn10 : nR (hZ Z q an bn 0) q X10 (i + 7 + 8 * an) := by
        unfold nR
        rw [oz _ (by omega), oz _ (by omega)]
        exact hnr4
      have e : rOk Z q an bn = true := by
        unfold rOk mIs
        rw [mIn_t.mpr (show 0 ≤ (bn : Int) ∧ (bn : Int) ≤ Z (q + 5) 1 - 1 by omega), mIn_t.mpr (show 0 ≤ (an : Int) ∧ (an : Int) ≤ Z (q + 5) 0 - 1 by omega)]
        rfl
      have hch : chI X10 (i + 157) := by
        unfold chI
        rw [jk.1 (i + 157 + 9) (by omega) (by omega), jk.1 (i + 157 + 11) (by omega) (by omega)]
        exact hd.1.2
      refine ⟨?_, e.symm, (fun g => by cases g), fun _ => ⟨⟨fun z hz => (oz z hz).trans (fo z (by omega) (by omega) (by omega) (by omega)), hch⟩, ⟨?_, hn.1, ?_, ?_, hj⟩, ?_, ?_⟩⟩
      · unfold wgR
        rw [if_pos ⟨⟨a0, a1, b0, b1⟩, e⟩, ea, eb, eR8, eR]
      · obtain ⟨d1, d2, ⟨d3, d4⟩, d5⟩ := hd8
        refine ⟨⟨d1.1, hch⟩, by rw [jk.2 2 (by decide)]; exact d2, ⟨?_, d4⟩, fun k hk => ?_⟩
        · unfold bR
          rw [oz (cb R8 (i + 157)) (by omega), oz (cb R8 (i + 157) + 1) (by omega), oz (cb R8 (i + 157) + 2) (by omega), oz (cb R8 (i + 157) + 3) (by omega), oz (cb R8 (i + 157) + 4) (by omega), oz (cb R8 (i + 157) + 5) (by omega)]
          exact d3
        · rw [jk.1 (i + 157 + 9) (by omega) (by omega), jk.1 (i + 157 + 10) (by omega) (by omega), jk.1 (i + 157 + 11) (by omega) (by omega)]
          exact d5 k hk
      · rw [hcn]
        exact ⟨hn10, by omega⟩
      · exact hw
      · rw [hcn, oz _ (by omega), e4, hZ_s.2.2.2.2.1]
        exact nr.1 3 (by decide) (by decide)
      · rw [hcn, oz _ (by omega), e4, hZ_s.2.2.2.2.2.1]
        exact nr.1 4 (by decide) (by decide)
    intro c3
    have c3 : ¬ (0 ≤ b ∧ b < 2 ∧ b < X (i + 1 + 2) 1) := c3
    have e : rOk Z q a b = false := by
      unfold rOk mIs
      rw [mIn_f.mpr (show ¬ (0 ≤ b ∧ b ≤ Z (q + 5) 1 - 1) by omega), Bool.false_and]
    exact ⟨by unfold wgR; rw [if_neg (by rw [e]; exact fun g => absurd g.2 (by decide))], e.symm, fun _ => ⟨rfl, rfl⟩, (fun g => by cases g)⟩
  intro c4
  refine ⟨?_, ?_⟩
  · intro c5
    have c4 : ¬ (0 ≤ a ∧ a < 2 ∧ a < X (i + 1 + 2) 0) := c4
    have e : rOk Z q a b = false := by
      unfold rOk mIs
      rw [mIn_f.mpr (show ¬ (0 ≤ a ∧ a ≤ Z (q + 5) 0 - 1) by omega), Bool.and_false]
    exact ⟨by unfold wgR; rw [if_neg (by rw [e]; exact fun g => absurd g.2 (by decide))], e.symm, fun _ => ⟨rfl, rfl⟩, (fun g => by cases g)⟩
  intro c6
  have c4 : ¬ (0 ≤ a ∧ a < 2 ∧ a < X (i + 1 + 2) 0) := c4
  have e : rOk Z q a b = false := by
    unfold rOk mIs
    rw [mIn_f.mpr (show ¬ (0 ≤ a ∧ a ≤ Z (q + 5) 0 - 1) by omega), Bool.and_false]
  exact ⟨by unfold wgR; rw [if_neg (by rw [e]; exact fun g => absurd g.2 (by decide))], e.symm, fun _ => ⟨rfl, rfl⟩, (fun g => by cases g)⟩
theorem c_X10_weigh {l : Launch} {D : va_G} {cy : Nat → ClassId} {bs N : Nat} {sa : Nat → Nat} {kd len : Nat → Nat} {X Y : Nat → Int → Int} {R : Nat → Int → Option Nat} {i : Nat} {Z : Nat → Int → Int} {q : Nat} (hC : zWC N kd len R i) (a : Int) (ha : rI a) (b : Int) (hb : rI b) (hp : wcQ Z q X i) : Met l yX10_weigh (.code yX10_weigh cX10_weigh 5 (some .boolean) :: zTB) (zRm 4 110) (zPc D cy bs sa N kd len X Y R [.ref (bs + (i)), .int (zI (a)), .int (zI (b))]) (zQi D cy bs N kd len (fun r st => ∃ rb : Bool, r = bz rb ∧ (((st.2.2) = wgR Z q R i (a) (b)) ∧ rb = rOk Z q (a) (b) ∧ (rb = false → (st.1) = X ∧ (st.2.1) = Y) ∧ (rb = true → qK X (st.1) i ∧ cA (hZ Z q (a) (b) 0) q (st.1) (st.2.1) (st.2.2) (i + 157) ∧ (st.1) (cn (st.2.2) (i + 157)) 3 = hZ Z q (a) (b) 0 q 28 ∧ (st.1) (cn (st.2.2) (i + 157)) 4 = hZ Z q (a) (b) 0 q 29)))) 0 0 (zA bs) := w_X10_weigh hC a ha b hb (v_X10_weigh a ha b hb hp)
