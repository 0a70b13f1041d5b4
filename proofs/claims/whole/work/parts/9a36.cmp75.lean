/-! THE LAW'S START: what is made is laid out as the methods ask -/
section ZWO
variable {N : Nat} {kd len : Nat → Nat} {R : Nat → Int → Option Nat} {i : Nat}
theorem zTd_of (hK : kT kd len i tTold) (hN : i + 33 < N) (h : eTd R i) : zTd N kd len R i := by
  obtain ⟨⟨h0, h4, h5, h6, h7⟩, hn, hb, hr⟩ := h
  refine ⟨⟨by omega, kT_0 hK rfl, kT_k hK 1 rfl, kT_l hK 1 rfl, h0, kT_k hK 2 rfl, kT_l hK 2 rfl, h4⟩, hN, ⟨kT_k hK 3 rfl, kT_l hK 3 rfl, h5⟩, ⟨kT_k hK 4 rfl, kT_l hK 4 rfl, h6⟩, ⟨kT_k hK 5 rfl, kT_l hK 5 rfl, h7⟩, fun z z0 z1 => ?_, fun z z0 z1 => ?_⟩
  · have q : z = 0 ∨ z = 1 := by omega
    rcases q with rfl | rfl
    · exact ⟨⟨(hn 0 (by decide)).1, zNet_of (kT_sub hK 6 tNet (by decide +kernel)) (by omega) (hn 0 (by decide)).2⟩, (hb 0 (by decide)).1, zBlocks_of (kT_sub hK 8 tBlocks (by decide +kernel)) (by omega) (hb 0 (by decide)).2⟩
    · exact ⟨⟨(hn 1 (by decide)).1, zNet_of (kT_sub hK 14 tNet (by decide +kernel)) (by omega) (hn 1 (by decide)).2⟩, (hb 1 (by decide)).1, zBlocks_of (kT_sub hK 16 tBlocks (by decide +kernel)) (by omega) (hb 1 (by decide)).2⟩
  · have q : z = 0 ∨ z = 1 ∨ z = 2 ∨ z = 3 ∨ z = 4 ∨ z = 5 := by omega
    rcases q with rfl | rfl | rfl | rfl | rfl | rfl
    · exact ⟨(hr 0 (by decide)).1, zRows2_of (kT_sub hK 22 tRows2 (by decide +kernel)) (by omega) (hr 0 (by decide)).2⟩
    · exact ⟨(hr 1 (by decide)).1, zRows2_of (kT_sub hK 24 tRows2 (by decide +kernel)) (by omega) (hr 1 (by decide)).2⟩
    · exact ⟨(hr 2 (by decide)).1, zRows3_of (kT_sub hK 26 tRows3 (by decide +kernel)) (by omega) (hr 2 (by decide)).2⟩
    · exact ⟨(hr 3 (by decide)).1, zRows3_of (kT_sub hK 28 tRows3 (by decide +kernel)) (by omega) (hr 3 (by decide)).2⟩
    · exact ⟨(hr 4 (by decide)).1, zRows4_of (kT_sub hK 30 tRows4 (by decide +kernel)) (by omega) (hr 4 (by decide)).2⟩
    · exact ⟨(hr 5 (by decide)).1, zRows4_of (kT_sub hK 32 tRows4 (by decide +kernel)) (by omega) (hr 5 (by decide)).2⟩
theorem zRdr_of (hK : kT kd len i tReader) (hN : i + 17 < N) (h : eRd R i) : zRdr N kd len R i := by
  obtain ⟨⟨h0, hn⟩, ⟨h1, hb⟩, ⟨h2, h5, h11⟩, hr⟩ := h
  have t9 : tp9 R i = i + 10 := by
    unfold tp9
    rw [h5]
    rfl
  refine ⟨hN, kT_0 hK rfl, ⟨h0, zNet_of (kT_sub hK 1 tNet (by decide +kernel)) (by omega) hn⟩, ⟨h1, zBlocks_of (kT_sub hK 3 tBlocks (by decide +kernel)) (by omega) hb⟩, ⟨kT_k hK 9 rfl, kT_l hK 9 rfl, h2⟩, ⟨kT_k hK 11 rfl, kT_l hK 11 rfl, h11⟩, fun z z0 z1 => ?_, by rw [t9]; exact h5, by rw [t9]; omega, by rw [t9]; exact kT_k hK 10 rfl⟩
  have q : z = 0 ∨ z = 1 ∨ z = 2 := by omega
  rcases q with rfl | rfl | rfl
  · exact ⟨(hr 0 (by decide)).1, zRows2_of (kT_sub hK 12 tRows2 (by decide +kernel)) (by omega) (hr 0 (by decide)).2⟩
  · exact ⟨(hr 1 (by decide)).1, zRows3_of (kT_sub hK 14 tRows3 (by decide +kernel)) (by omega) (hr 1 (by decide)).2⟩
  · exact ⟨(hr 2 (by decide)).1, zRows4_of (kT_sub hK 16 tRows4 (by decide +kernel)) (by omega) (hr 2 (by decide)).2⟩
theorem zFill_of (hK : kT kd len i tFilling) (hN : i + 13 < N) (h : eFi R i) : zFill N kd len R i := by
  obtain ⟨⟨h0, hr⟩, ⟨h1, h2, h3⟩, hl⟩ := h
  have t9 : pl9 R i = i + 1 := by
    unfold pl9
    rw [h0]
    rfl
  refine ⟨hN, kT_0 hK rfl, ⟨kT_k hK 3 rfl, kT_l hK 3 rfl, h1⟩, ⟨kT_k hK 4 rfl, kT_l hK 4 rfl, h2⟩, ⟨kT_k hK 5 rfl, kT_l hK 5 rfl, h3⟩, fun z z0 z1 => ?_, by rw [t9]; exact h0, by rw [t9]; exact zRows4_of (kT_sub hK 1 tRows4 (by decide +kernel)) (by omega) hr⟩
  have q : z = 0 ∨ z = 1 ∨ z = 2 ∨ z = 3 := by omega
  rcases q with rfl | rfl | rfl | rfl
  · exact ⟨(hl 0 (by decide)).1, zLedger_of (kT_sub hK 6 tLedger (by decide +kernel)) (by omega) (hl 0 (by decide)).2⟩
  · exact ⟨(hl 1 (by decide)).1, zLedger_of (kT_sub hK 8 tLedger (by decide +kernel)) (by omega) (hl 1 (by decide)).2⟩
  · exact ⟨(hl 2 (by decide)).1, zLedger_of (kT_sub hK 10 tLedger (by decide +kernel)) (by omega) (hl 2 (by decide)).2⟩
  · exact ⟨(hl 3 (by decide)).1, zLedger_of (kT_sub hK 12 tLedger (by decide +kernel)) (by omega) (hl 3 (by decide)).2⟩
theorem zChart_of (hK : kT kd len i tChart) (hN : i + 46 < N) (h : eCh R i) : zChart N kd len R i := by
  obtain ⟨⟨h4, h5, h6, h7, h8, h9, h10, h11⟩, hl, ⟨h0, hn⟩, h1, hb⟩ := h
  have tn : cn R i = i + 1 := by
    unfold cn
    rw [h0]
    rfl
  have tb : cb R i = i + 3 := by
    unfold cb
    rw [h1]
    rfl
  refine ⟨hN, kT_0 hK rfl, kT_k hK 9 rfl, kT_l hK 9 rfl, h4, kT_k hK 10 rfl, kT_l hK 10 rfl, h5, kT_k hK 11 rfl, kT_l hK 11 rfl, h6, kT_k hK 12 rfl, kT_l hK 12 rfl, h7, kT_k hK 13 rfl, kT_l hK 13 rfl, h8, kT_k hK 15 rfl, kT_l hK 15 rfl, h10, kT_k hK 16 rfl, kT_l hK 16 rfl, h11, kT_k hK 14 rfl, kT_l hK 14 rfl, h9, fun z z0 z1 => ?_, ⟨by rw [tn]; exact h0, by rw [tn]; exact zNet_of (kT_sub hK 1 tNet (by decide +kernel)) (by omega) hn⟩, ⟨by rw [tb]; exact h1, by rw [tb]; exact zBlocks_of (kT_sub hK 3 tBlocks (by decide +kernel)) (by omega) hb⟩⟩
  have q : z = 0 ∨ z = 1 ∨ z = 2 ∨ z = 3 ∨ z = 4 ∨ z = 5 ∨ z = 6 ∨ z = 7 ∨ z = 8 ∨ z = 9 ∨ z = 10 ∨ z = 11 ∨ z = 12 ∨ z = 13 ∨ z = 14 := by omega
  rcases q with rfl | rfl | rfl | rfl | rfl | rfl | rfl | rfl | rfl | rfl | rfl | rfl | rfl | rfl | rfl
  · exact ⟨(hl 0 (by decide)).1, zLedger_of (kT_sub hK 17 tLedger (by decide +kernel)) (by omega) (hl 0 (by decide)).2⟩
  · exact ⟨(hl 1 (by decide)).1, zLedger_of (kT_sub hK 19 tLedger (by decide +kernel)) (by omega) (hl 1 (by decide)).2⟩
  · exact ⟨(hl 2 (by decide)).1, zLedger_of (kT_sub hK 21 tLedger (by decide +kernel)) (by omega) (hl 2 (by decide)).2⟩
  · exact ⟨(hl 3 (by decide)).1, zLedger_of (kT_sub hK 23 tLedger (by decide +kernel)) (by omega) (hl 3 (by decide)).2⟩
  · exact ⟨(hl 4 (by decide)).1, zLedger_of (kT_sub hK 25 tLedger (by decide +kernel)) (by omega) (hl 4 (by decide)).2⟩
  · exact ⟨(hl 5 (by decide)).1, zLedger_of (kT_sub hK 27 tLedger (by decide +kernel)) (by omega) (hl 5 (by decide)).2⟩
  · exact ⟨(hl 6 (by decide)).1, zLedger_of (kT_sub hK 29 tLedger (by decide +kernel)) (by omega) (hl 6 (by decide)).2⟩
  · exact ⟨(hl 7 (by decide)).1, zLedger_of (kT_sub hK 31 tLedger (by decide +kernel)) (by omega) (hl 7 (by decide)).2⟩
  · exact ⟨(hl 8 (by decide)).1, zLedger_of (kT_sub hK 33 tLedger (by decide +kernel)) (by omega) (hl 8 (by decide)).2⟩
  · exact ⟨(hl 9 (by decide)).1, zLedger_of (kT_sub hK 35 tLedger (by decide +kernel)) (by omega) (hl 9 (by decide)).2⟩
  · exact ⟨(hl 10 (by decide)).1, zLedger_of (kT_sub hK 37 tLedger (by decide +kernel)) (by omega) (hl 10 (by decide)).2⟩
  · exact ⟨(hl 11 (by decide)).1, zLedger_of (kT_sub hK 39 tLedger (by decide +kernel)) (by omega) (hl 11 (by decide)).2⟩
  · exact ⟨(hl 12 (by decide)).1, zLedger_of (kT_sub hK 41 tLedger (by decide +kernel)) (by omega) (hl 12 (by decide)).2⟩
  · exact ⟨(hl 13 (by decide)).1, zLedger_of (kT_sub hK 43 tLedger (by decide +kernel)) (by omega) (hl 13 (by decide)).2⟩
  · exact ⟨(hl 14 (by decide)).1, zLedger_of (kT_sub hK 45 tLedger (by decide +kernel)) (by omega) (hl 14 (by decide)).2⟩
end ZWO
theorem tWC_len : tWC.length = 262 := by decide +kernel
theorem tWC_l : ∀ n, n < 36 → tWC.getD (208 + n) (0, 0) = (13, 41) := by decide +kernel
theorem zWC_0 {N : Nat} {kd len : Nat → Nat} {R : Nat → Int → Option Nat} (hK : kT kd len 0 tWC) (hN : 261 < N) (h : eWC R 0) : zWC N kd len R 0 := by
  obtain ⟨⟨h0, ht⟩, ⟨h1, h2⟩, hi, ⟨h3, hr⟩, ⟨h4, hc⟩, ⟨h5, c0, c3⟩, ⟨h6, ⟨l0, l1⟩, ⟨l2, l3, l4⟩, lz⟩, ⟨h7, hf⟩, h8, hs⟩ := h
  have q : ∀ z : Nat, z < 3 → kT kd len (0 + (36 + 34 * z)) tTold := fun z hz => by
    have q : z = 0 ∨ z = 1 ∨ z = 2 := by omega
    rcases q with rfl | rfl | rfl <;> exact kT_sub hK _ tTold (by decide +kernel)
  refine ⟨⟨by omega, kT_0 hK rfl⟩, ⟨h0, zTd_of (kT_sub hK 1 tTold (by decide +kernel)) (by omega) ht⟩, ⟨kT_k hK 35 rfl, kT_l hK 35 rfl, h1⟩, fun z z0 z1 => ?_, ⟨kT_k hK 138 rfl, kT_l hK 138 rfl, h2⟩, ⟨h3, zRdr_of (kT_sub hK 139 tReader (by decide +kernel)) (by omega) hr⟩, ⟨h4, h5, h6, ⟨⟨zChart_of (kT_sub hK 157 tChart (by decide +kernel)) (by omega) hc, by omega, kT_k hK 204 rfl, kT_k hK 205 rfl, kT_l hK 205 rfl, c0, c3⟩, by omega, kT_k hK 206 rfl, l0, l1, ⟨kT_k hK 207 rfl, kT_l hK 207 rfl, l2⟩, ⟨kT_k hK 244 rfl, kT_l hK 244 rfl, l3⟩, ⟨kT_k hK 245 rfl, kT_l hK 245 rfl, l4⟩, fun z z0 z1 => ?_⟩⟩, ⟨h7, zFill_of (kT_sub hK 246 tFilling (by decide +kernel)) (by omega) hf⟩, h8, zLedger_of (kT_sub hK 260 tLedger (by decide +kernel)) (by omega) hs⟩
  · obtain ⟨n, rfl⟩ : ∃ n : Nat, z = n := ⟨z.toNat, by omega⟩
    have e : ((n : Nat) : Int).toNat = n := by omega
    rw [e]
    have hz := hi n (by omega)
    refine ⟨hz.1, ?_⟩
    have g := q n (by omega)
    rw [show 0 + (36 + 34 * n) = 0 + 36 + 34 * n by omega] at g
    exact zTd_of g (by omega) hz.2
  · obtain ⟨n, rfl⟩ : ∃ n : Nat, z = n := ⟨z.toNat, by omega⟩
    have e : ((n : Nat) : Int).toNat = n := by omega
    have l9 := lz n z0 z1
    rw [e] at l9 ⊢
    have g := hK (208 + n) (by rw [tWC_len]; omega)
    rw [tWC_l n (by omega)] at g
    rw [show 0 + (208 + n) = 0 + 157 + 51 + n by omega] at g
    exact ⟨l9, by omega, g.1, g.2⟩
theorem zM_R {N : Nat} {kd len : Nat → Nat} {R R1 : Nat → Int → Option Nat} {i : Nat} (e : R1 i = R i) (h : zM N kd len R i) : zM N kd len R1 i := by
  refine ⟨h.1, h.2.1, h.2.2.1, ?_⟩
  rw [e]
  exact h.2.2.2
theorem wcK_wf {Z : Nat → Int → Int} {q : Nat} {R R1 : Nat → Int → Option Nat} {i : Nat} {ok : Prop} [Decidable ok] {a b : Int} (e : R1 = wfR Z q R i ok a b) : wcK R R1 i := ⟨fun _ _ _ h => zWC_wf h e, fun z hz => by
  rw [e]
  unfold wfR
  split
  · exact wgR_o hz
  · rfl⟩
theorem wcK_dw {Z : Nat → Int → Int} {q : Nat} {R R1 : Nat → Int → Option Nat} {i : Nat} {a b g : Int} (e : R1 = wdR Z q R i a b g) : wcK R R1 i := ⟨fun _ _ _ h => zWC_dw h e, fun z hz => by
  rw [e]
  unfold wdR
  split
  · exact zU_o (by omega)
  · rfl⟩
theorem wcK_if {Z : Nat → Int → Int} {q : Nat} {R R1 : Nat → Int → Option Nat} {i : Nat} {ok : Prop} [Decidable ok] {a b g : Int} (e : R1 = if ok then wdR Z q R i a b g else R) : wcK R R1 i := by
  split at e
  · exact wcK_dw e
  · rw [e]
    exact wcK.rf
/-- at the start both sides have nothing told -/
theorem LI_0 {X : Nat → Int → Int} (c : z0WC X 0) (m : z0M X 262) : LI X := by
  obtain ⟨ct, ci, cm, cr, cc⟩ := c
  obtain ⟨m0, m4, m5⟩ := m
  obtain ⟨⟨t1, t2, t3⟩, tt, tc, tn, tb, tf, tl, tp⟩ := ct
  obtain ⟨r1, r2, r3, r4, r5, r6⟩ := cr
  have t1 : X 1 1 = 0 := t1
  have t2 : X 1 2 = 0 := t2
  have t3 : X 1 3 = -1 := t3
  have tt : ∀ y, X 2 y = 0 := tt
  have tc : ∀ y, X 3 y = 0 := tc
  have g : ∀ o : Nat, o ≤ 10 → o ≠ 4 → ∀ y, X (262 + o) y = 0 := fun o h1 h2 => m0 o (Or.inl h1) h2
  have no : ∀ {P : Prop} {n : Nat} {s : Int}, (n : Int) < X (1 + 2) s → P := fun h => by
    rw [show X (1 + 2) _ = 0 from tc _] at h
    omega
  refine ⟨⟨⟨⟨?_, ?_, ?_⟩, fun y _ _ => ?_, fun s _ _ => ?_, fun n hn => ?_, fun n hn => ?_, fun n hn => ?_, fun n hn => ?_, fun n hn => ?_⟩, ⟨fun s _ _ => ?_, fun n n0 n1 => ?_, fun n n0 n1 => ?_, fun n n0 n1 => ?_, fun n n0 n1 => ?_, fun n n0 n1 => ?_⟩⟩, fun z hz => ?_, fun z hz n hn => ?_, ⟨fun y _ _ => ?_, fun z hz y _ _ => ?_, fun y _ _ => ?_⟩, fun m' _ _ => ?_, ⟨⟨⟨?_, ?_⟩, ⟨?_, ?_, ?_⟩, ?_, ?_, ?_⟩, fun k _ _ => ?_⟩, cc⟩
  · rw [t1, g 2 (by decide) (by decide)]
  · rw [t2, g 3 (by decide) (by decide)]
  · rw [t3]
    exact m4.symm
  · rw [g 1 (by decide) (by decide)]
    exact tt y
  · rw [g 5 (by decide) (by decide)]
    exact tc s
  · have q := nV_0 (tn n hn)
    rw [show 0 + 1 + 6 + 8 * n = 1 + 6 + 8 * n by omega] at q
    exact ⟨q, no⟩
  · have q := bV_0 (tb n hn)
    rw [show 0 + 1 + 8 + 8 * n = 1 + 8 + 8 * n by omega] at q
    exact ⟨q, no⟩
  · have q := rowV_0 (nn := 80) (tf n hn) (Or.inl rfl) (by decide) (by decide)
    rw [show 0 + 1 + 22 + 2 * n = 1 + 22 + 2 * n by omega] at q
    exact ⟨q, no⟩
  · have q := rowV_0 (nn := 16) (tl n hn) (Or.inl rfl) (by decide) (by decide)
    rw [show 0 + 1 + 26 + 2 * n = 1 + 26 + 2 * n by omega] at q
    exact ⟨q, no⟩
  · have q := rowV_0 (nn := 24) (tp n hn) (Or.inr rfl) (by decide) (by decide)
    rw [show 0 + 1 + 30 + 2 * n = 1 + 30 + 2 * n by omega] at q
    exact ⟨q, no⟩
  · rw [g 5 (by decide) (by decide)]
    decide
  · rw [g 5 (by decide) (by decide)] at n1
    omega
  · rw [g 5 (by decide) (by decide)] at n1
    omega
  · rw [g 5 (by decide) (by decide)] at n1
    omega
  · rw [g 5 (by decide) (by decide)] at n1
    omega
  · rw [g 5 (by decide) (by decide)] at n1
    omega
  · have z7 : X 287 z = 0 := m0 25 (Or.inr rfl) (by decide) z
    have z8 : X 138 z = 0 := cm z
    rw [z7, z8]
    exact ⟨rfl, fun h => absurd rfl h⟩
  · obtain ⟨-, -, -, -, -, f, l, p⟩ := ci z hz
    have f := f n hn
    have l := l n hn
    have p := p n hn
    rw [show 0 + 36 + 34 * z + 22 + 2 * n = 36 + 34 * z + 22 + 2 * n by omega] at f
    rw [show 0 + 36 + 34 * z + 26 + 2 * n = 36 + 34 * z + 26 + 2 * n by omega] at l
    rw [show 0 + 36 + 34 * z + 30 + 2 * n = 36 + 34 * z + 30 + 2 * n by omega] at p
    exact ⟨⟨f.1, f.2.1⟩, ⟨l.1, l.2.1⟩, p.1, p.2.1⟩
  · rw [tt]
    decide
  · have b := (ci z hz).2.1 y
    rw [show 0 + 36 + 34 * z + 1 = 36 + 34 * z + 1 by omega] at b
    rw [b]
    decide
  · rw [g 1 (by decide) (by decide)]
    decide
  · rw [show X 264 m' = 0 from g 2 (by decide) (by decide) m']
    decide
  · rw [show X (139 + 1) 6 = 0 from r1.1]
    decide
  · exact nV_0 r1
  · rw [show X (139 + 3) 0 = 0 from r2 0 (by decide) 0]
    decide
  · exact bV_0 r2
  · intro k _ _
    rw [show X (139 + 7) k = 0 from r2 4 (by decide) k]
    decide
  · exact rowV_0 r4 (Or.inl rfl) (by decide) (by decide)
  · exact rowV_0 r5 (Or.inl rfl) (by decide) (by decide)
  · exact rowV_0 r6 (Or.inr rfl) (by decide) (by decide)
  · rw [show X (139 + 11) k = 0 from r3 k]
    decide
