/-! TEXTS, as the document has them -/
/-- line after line: the fault of a text, or what it tells -/
def rdA (T : Int → Int) (n : Nat) (of : Int) : Nat → rST → Int ⊕ rST
  | 0, s => .inr s
  | q + 1, s => if tkS T n s.1 = 0 then .inr s else match rdL T n of s with
    | .inl pl => .inl pl
    | .inr s' => if tkS T n s'.1 = 4 then rdA T n of q (tkN T n s'.1, s'.2) else .inl (tkB T n s'.1)
theorem rdA_s {T : Int → Int} {n q : Nat} {of : Int} {s : rST} (hq : n < q + s.1) (hs : s.1 ≤ n) (hk : tkS T n s.1 ≠ 0) : rdA T n of q s = match rdL T n of s with
    | .inl pl => .inl pl
    | .inr s' => if tkS T n s'.1 = 4 then rdA T n of (q - 1) (tkN T n s'.1, s'.2) else .inl (tkB T n s'.1) := by
  cases q with
  | zero => omega
  | succ q =>
    show (if tkS T n s.1 = 0 then _ else _) = _
    rw [if_neg hk]
    rfl
theorem rdA_e {T : Int → Int} {n q : Nat} {of : Int} {s : rST} (hk : tkS T n s.1 = 0) : rdA T n of q s = .inr s := by
  cases q with
  | zero => rfl
  | succ q =>
    show (if tkS T n s.1 = 0 then _ else _) = _
    rw [if_pos hk]
theorem ptN_b {T : Int → Int} {n p : Nat} (h : p ≤ n) : ∀ j, p ≤ ptN T n p j ∧ ptN T n p j ≤ n
  | 0 => ⟨Nat.le_refl _, h⟩
  | j + 1 => by
    have b := ptN_b (T := T) h j
    have t := tk_le (T := T) b.2
    show p ≤ tkN T n (ptN T n p j) ∧ tkN T n (ptN T n p j) ≤ n
    omega
theorem tlN_2 {of w : Int} {v : Nat → Int} {td : (Int → Int) × Int} (h : td.2 ≠ 182) : (tlN of w v td).2 ≠ 182 := by
  unfold tlN
  split
  · split
    · exact h
    · exact h
  · split
    · split
      · show 4 + 13 * td.1 0 ≠ 182
        omega
      · exact h
    · split
      · exact h
      · split
        · exact h
        · exact h
theorem rdL_b {T : Int → Int} {n : Nat} {of : Int} {s s' : rST} (hs : s.1 ≤ n) (h : rdL T n of s = .inr s') : tkN T n s.1 ≤ s'.1 ∧ s'.1 ≤ n ∧ (s.2.1.2 ≠ 182 → s'.2.1.2 ≠ 182) := by
  unfold rdL at h
  split at h
  · cases h
  · split at h
    · cases h
    · cases h
      have t := tk_le (T := T) hs
      have b := ptN_b (T := T) t.2.1.2 (ncN of)
      refine ⟨b.1, b.2, fun g => ?_⟩
      dsimp only
      split
      · exact tlN_2 g
      · exact g
theorem rdS_22 {X X1 Y : Nat → Int → Int} {i : Nat} {v : Int} {s : rST} (e : X1 = zU X i 22 v) (h : rdS X Y i s) : rdS X1 Y i s := by
  obtain ⟨⟨sn, sa⟩, ⟨s18, s19⟩, st⟩ := h
  have o : ∀ z, z ≠ i → X1 z = X z := fun z hz => by rw [e, zU_o hz]
  have n : ∀ y, y ≠ 22 → X1 i y = X i y := fun y hy => by rw [e, zU_n (by omega)]
  refine ⟨⟨by rw [n _ (by decide)]; exact sn, ?_⟩, ⟨by rw [n _ (by decide)]; exact s18, by rw [n 19 (by decide), n 12 (by decide), o _ (by omega)]; exact s19⟩, fun z => ?_⟩
  · unfold tkAt at sa ⊢
    rw [o (i + 1) (by omega), n 11 (by decide), n 12 (by decide), n 13 (by decide), n 14 (by decide), n 15 (by decide)]
    exact sa
  · rw [o _ (by omega), n 23 (by decide)]
    exact st z
/-- so far -/
def alI (X X2 Y Y2 : Nat → Int → Int) (i : Nat) (of : Int) (rd : Bool) : Prop := rdK X X2 Y Y2 i ∧ (rd = true → oRd X2 i ∧ bnD of X2 i) ∧ ∀ s, rdS X Y i s → s.2.1.2 ≠ 182 → (rd = false → rdA (X (i + 1)) (X i 12).toNat of ((X i 12).toNat + 1) s = .inl (X2 i 17)) ∧ (rd = true → ∃ (s' : rST) (q : Nat), rdS X2 Y2 i s' ∧ s'.2.1.2 ≠ 182 ∧ rdA (X (i + 1)) (X i 12).toNat of ((X i 12).toNat + 1) s = rdA (X (i + 1)) (X i 12).toNat of q s' ∧ (X i 12).toNat < q + s'.1)
def alM (X : Nat → Int → Int) (i : Nat) (rd : Bool) : Nat := if rd = true then (X i 12).toNat - (X i 11).toNat + 1 else 0
theorem rdK.f {X X2 Y Y2 : Nat → Int → Int} {i : Nat} (h : rdK X X2 Y Y2 i) : X2 (i + 1) = X (i + 1) ∧ X2 i 12 = X i 12 := ⟨h.1 _ (by omega) (by omega) (by omega), h.2.1 12 (Or.inr (Or.inl rfl))⟩
theorem al_st {X X2 X6 X9 Y Y3 Y10 : Nat → Int → Int} {i : Nat} {of w : Int} {r : Bool} (h1 : alI X X2 Y Y3 i of true) (c4 : ¬ X2 i 14 = 0) (hw : w = if X2 i 14 = 2 then Y3 i 16 else 0) (e6 : X6 = zU X2 i 22 1) (h3 : lnQ of w (X2 i 13) X6 X9 Y3 Y10 i r) :
    rdK X X9 Y Y10 i ∧ (r = true → oRd X9 i ∧ bnD of X9 i) ∧ ∀ s, rdS X Y i s → s.2.1.2 ≠ 182 → (r = false → rdA (X (i + 1)) (X i 12).toNat of ((X i 12).toNat + 1) s = .inl (X9 i 17)) ∧
    (r = true → ∃ (s' : rST) (q : Nat), rdS X9 Y10 i s' ∧ s'.2.1.2 ≠ 182 ∧ (X2 i 11).toNat ≤ s'.1 ∧ (tkS (X (i + 1)) (X i 12).toNat s'.1 = 4 → rdA (X (i + 1)) (X i 12).toNat of ((X i 12).toNat + 1) s = rdA (X (i + 1)) (X i 12).toNat of q (tkN (X (i + 1)) (X i 12).toNat s'.1, s'.2) ∧ (X i 12).toNat < q + tkN (X (i + 1)) (X i 12).toNat s'.1) ∧ (tkS (X (i + 1)) (X i 12).toNat s'.1 ≠ 4 → rdA (X (i + 1)) (X i 12).toNat of ((X i 12).toNat + 1) s = .inl (tkB (X (i + 1)) (X i 12).toNat s'.1))) := by
  obtain ⟨k2, b2, g2⟩ := h1
  have k6 : rdK X2 X6 Y3 Y3 i := ⟨fun z h _ _ => by rw [e6, zU_o h], fun s hs => by rw [e6, zU_n (by omega)], fun _ _ => rfl⟩
  obtain ⟨k9, b9, g9⟩ := h3
  have kk := (k2.tr k6).tr k9
  refine ⟨kk, b9, fun s hs hn => ?_⟩
  obtain ⟨s1, q, hs1, hn1, e1, hq⟩ := (g2 s hs hn).2 rfl
  have hs6 := rdS_22 e6 hs1
  have f6 := (k2.tr k6).f
  have sa := hs1.1.2
  have sn := hs1.1.1
  rw [k2.f.2] at sn
  unfold tkAt at sa
  rw [k2.f.1, k2.f.2] at sa
  have hk : tkS (X (i + 1)) (X i 12).toNat s1.1 ≠ 0 := by rw [← sa.2.2.1]; exact c4
  have ww : w = wdS X6 Y3 i s1 := by
    rw [hw]
    show _ = if tkS (X6 (i + 1)) (X6 i 12).toNat s1.1 = 2 then tkW (X6 (i + 1)) (X6 i 12).toNat s1.1 else 0
    rw [f6.1, f6.2, ← sa.2.2.1]
    split
    · rename_i h
      exact sa.2.2.2.2 h
    · rfl
  have l := g9 s1 hs6 hn1 ww (by rw [f6.1, f6.2]; exact sa.2.1) (by rw [f6.1, f6.2]; exact hk)
  rw [f6.1, f6.2] at l
  rw [e1, rdA_s hq sn hk]
  cases hL : rdL (X (i + 1)) (X i 12).toNat of s1 with
  | inl pl =>
    rw [hL] at l
    obtain ⟨l1, l2⟩ := l
    refine ⟨fun _ => by rw [l2], fun g => ?_⟩
    rw [l1] at g
    cases g
  | inr s2 =>
    rw [hL] at l
    obtain ⟨l1, l2⟩ := l
    refine ⟨fun g => (by rw [l1] at g; cases g), fun _ => ?_⟩
    obtain ⟨x1, x2, x3⟩ := rdL_b sn hL
    have t := tk_le (T := X (i + 1)) x2
    have t1 := tk_le (T := X (i + 1)) sn
    have t2 := t1.2.2 hk
    refine ⟨s2, q - 1, l2, x3 hn1, by rw [sa.1]; exact x1, fun g => ⟨if_pos g, by omega⟩, fun g => if_neg g⟩
abbrev cX11_allLines : ByteArray := prog_13_method_31_code
def yX11_allLines : MethodName := ⟨RX11, "allLines", "(I)Z"⟩
theorem dX11_allLines_0 : decode cX11_allLines 0 = .ok (.iconst 1, 1) := by decide +kernel
theorem dX11_allLines_1 : decode cX11_allLines 1 = .ok (.istore_n 2, 1) := by decide +kernel
theorem dX11_allLines_2 : decode cX11_allLines 2 = .ok (.iload_n 2, 1) := by decide +kernel
theorem dX11_allLines_3 : decode cX11_allLines 3 = .ok (.ifCond .eq 75, 3) := by decide +kernel
theorem dX11_allLines_6 : decode cX11_allLines 6 = .ok (.aload_n 0, 1) := by decide +kernel
theorem dX11_allLines_7 : decode cX11_allLines 7 = .ok (.getfield 125, 3) := by decide +kernel
theorem dX11_allLines_10 : decode cX11_allLines 10 = .ok (.ifCond .eq 68, 3) := by decide +kernel
theorem dX11_allLines_13 : decode cX11_allLines 13 = .ok (.aload_n 0, 1) := by decide +kernel
theorem dX11_allLines_14 : decode cX11_allLines 14 = .ok (.getfield 118, 3) := by decide +kernel
theorem dX11_allLines_17 : decode cX11_allLines 17 = .ok (.istore_n 3, 1) := by decide +kernel
theorem dX11_allLines_18 : decode cX11_allLines 18 = .ok (.aload_n 0, 1) := by decide +kernel
theorem dX11_allLines_19 : decode cX11_allLines 19 = .ok (.getfield 125, 3) := by decide +kernel
theorem dX11_allLines_22 : decode cX11_allLines 22 = .ok (.iconst 2, 1) := by decide +kernel
theorem dX11_allLines_23 : decode cX11_allLines 23 = .ok (.if_icmp .ne 10, 3) := by decide +kernel
theorem dX11_allLines_26 : decode cX11_allLines 26 = .ok (.aload_n 0, 1) := by decide +kernel
theorem dX11_allLines_27 : decode cX11_allLines 27 = .ok (.getfield 121, 3) := by decide +kernel
theorem dX11_allLines_30 : decode cX11_allLines 30 = .ok (.goto 4, 3) := by decide +kernel
theorem dX11_allLines_33 : decode cX11_allLines 33 = .ok (.lconst 0, 1) := by decide +kernel
theorem dX11_allLines_34 : decode cX11_allLines 34 = .ok (.lstore 4, 2) := by decide +kernel
theorem dX11_allLines_36 : decode cX11_allLines 36 = .ok (.aload_n 0, 1) := by decide +kernel
theorem dX11_allLines_37 : decode cX11_allLines 37 = .ok (.iconst 1, 1) := by decide +kernel
theorem dX11_allLines_38 : decode cX11_allLines 38 = .ok (.putfield 148, 3) := by decide +kernel
theorem dX11_allLines_41 : decode cX11_allLines 41 = .ok (.aload_n 0, 1) := by decide +kernel
theorem dX11_allLines_42 : decode cX11_allLines 42 = .ok (.iload_n 1, 1) := by decide +kernel
theorem dX11_allLines_43 : decode cX11_allLines 43 = .ok (.lload 4, 2) := by decide +kernel
theorem dX11_allLines_45 : decode cX11_allLines 45 = .ok (.iload_n 3, 1) := by decide +kernel
theorem dX11_allLines_46 : decode cX11_allLines 46 = .ok (.invokevirtual 229, 3) := by decide +kernel
theorem dX11_allLines_49 : decode cX11_allLines 49 = .ok (.istore_n 2, 1) := by decide +kernel
theorem dX11_allLines_50 : decode cX11_allLines 50 = .ok (.iload_n 2, 1) := by decide +kernel
theorem dX11_allLines_51 : decode cX11_allLines 51 = .ok (.ifCond .eq 16, 3) := by decide +kernel
theorem dX11_allLines_54 : decode cX11_allLines 54 = .ok (.aload_n 0, 1) := by decide +kernel
theorem dX11_allLines_55 : decode cX11_allLines 55 = .ok (.getfield 125, 3) := by decide +kernel
theorem dX11_allLines_58 : decode cX11_allLines 58 = .ok (.iconst 4, 1) := by decide +kernel
theorem dX11_allLines_59 : decode cX11_allLines 59 = .ok (.if_icmp .eq 8, 3) := by decide +kernel
theorem dX11_allLines_62 : decode cX11_allLines 62 = .ok (.aload_n 0, 1) := by decide +kernel
theorem dX11_allLines_63 : decode cX11_allLines 63 = .ok (.invokevirtual 140, 3) := by decide +kernel
theorem dX11_allLines_66 : decode cX11_allLines 66 = .ok (.istore_n 2, 1) := by decide +kernel
theorem dX11_allLines_67 : decode cX11_allLines 67 = .ok (.iload_n 2, 1) := by decide +kernel
theorem dX11_allLines_68 : decode cX11_allLines 68 = .ok (.ifCond .eq 7, 3) := by decide +kernel
theorem dX11_allLines_71 : decode cX11_allLines 71 = .ok (.aload_n 0, 1) := by decide +kernel
theorem dX11_allLines_72 : decode cX11_allLines 72 = .ok (.invokevirtual 152, 3) := by decide +kernel
theorem dX11_allLines_75 : decode cX11_allLines 75 = .ok (.goto (-73), 3) := by decide +kernel
theorem dX11_allLines_78 : decode cX11_allLines 78 = .ok (.iload_n 2, 1) := by decide +kernel
theorem dX11_allLines_79 : decode cX11_allLines 79 = .ok (.ireturn, 1) := by decide +kernel
theorem q_1525 : Cond.methodLink RX11 229 yX11_lineOf ∈ zTB := zmem 1525 (by decide +kernel) rfl
theorem q_1527 : Cond.instanceMethod yX11_lineOf ∈ zTB := zmem 1527 (by decide +kernel) rfl
theorem q_39 : Cond.selects RX11 yX11_lineOf yX11_lineOf ∈ zTB := zmem 39 (by decide +kernel) rfl
theorem q_1528 : Cond.code yX11_lineOf cX11_lineOf 5 (some .boolean) ∈ zTB := zmem 1528 (by decide +kernel) rfl
theorem k_RX11_229 : zLv RX11 229 RX11 yX11_lineOf cX11_lineOf 5 (some .boolean) 3 := ⟨⟨q_1525, q_1527, q_39, q_140, q_1528⟩, rfl, ⟨by decide, by decide⟩, by decide +kernel⟩
def F_X11_allLines (i : Nat) (X Y : Nat → Int → Int) (R : Nat → Int → Option Nat) (a : Int) : Prop := (∀ i j, rI (X i j)) → (∀ i j, rL (Y i j)) → (alI X (X) Y (Y) i a true) ∧ (∀ (rd : Bool) (X2 : Nat → Int → Int) (Y3 : Nat → Int → Int), (∀ i j, rI (X2 i j)) → (∀ i j, rL (Y3 i j)) → (alI X (X2) Y (Y3) i a rd) → (((rd = false) → (rdK X (X2) Y (Y3) i ∧ (rd = true → bnD (a) (X2) i) ∧ ∀ s, rdS X Y i s → s.2.1.2 ≠ 182 → lnR (X2) (Y3) i rd (rdA (X (i + 1)) (X i 12).toNat (a) ((X i 12).toNat + 1) s))) ∧ ((rd = true) → ((((X2 (i) 14) = 0) → (rdK X (X2) Y (Y3) i ∧ (rd = true → bnD (a) (X2) i) ∧ ∀ s, rdS X Y i s → s.2.1.2 ≠ 182 → lnR (X2) (Y3) i rd (rdA (X (i + 1)) (X i 12).toNat (a) ((X i 12).toNat + 1) s))) ∧ ((¬ ((X2 (i) 14) = 0)) → ((∀ (w : Int), rL w → (w = if X2 i 14 = 2 then Y3 i 16 else 0) → (∀ X6 : Nat → Int → Int, X6 = zU X2 (i) 22 (1) → (∀ i j, rI (X6 i j)) → ((rI (X2 (i) 13)) ∧ (((0 ≤ a ∧ a ≤ 4) ∧ oRd X6 i ∧ bnD (a) X6 i ∧ X6 i 22 = 1) ∧ (∀ r11 : Bool, ∀ X9 : Nat → Int → Int, (∀ i j, rI (X9 i j)) → ∀ Y10 : Nat → Int → Int, (∀ i j, rL (Y10 i j)) → (lnQ (a) (w) (X2 (i) 13) X6 (X9) Y3 (Y10) i r11) → (((r11 = false) → (((r11 = false) → ((alI X (X9) Y (Y10) i a r11) ∧ ((alM (X9) i r11) < (alM (X2) i rd)))) ∧ ((r11 = true) → ((oRd X9 i) ∧ (∀ X15 : Nat → Int → Int, (∀ i j, rI (X15 i j)) → ∀ Y16 : Nat → Int → Int, (∀ i j, rL (Y16 i j)) → (tkC X9 (X15) Y10 (Y16) i ∧ (X15) i 11 = tkN (X9 (i + 1)) (X9 i 12).toNat (X9 i 11).toNat ∧ (X15) i 13 = tkB (X9 (i + 1)) (X9 i 12).toNat (X9 i 11).toNat ∧ (X15) i 14 = tkS (X9 (i + 1)) (X9 i 12).toNat (X9 i 11).toNat ∧ ((X15) i 14 = 3 → (X15) i 15 = tkV (X9 (i + 1)) (X9 i 12).toNat (X9 i 11).toNat) ∧ ((X15) i 14 = 2 → (Y16) i 16 = tkW (X9 (i + 1)) (X9 i 12).toNat (X9 i 11).toNat)) → ((alI X (X15) Y (Y16) i a r11) ∧ ((alM (X15) i r11) < (alM (X2) i rd)))))))) ∧ ((r11 = true) → ((((X9 (i) 14) = 4) → (((r11 = false) → ((alI X (X9) Y (Y10) i a r11) ∧ ((alM (X9) i r11) < (alM (X2) i rd)))) ∧ ((r11 = true) → ((oRd X9 i) ∧ (∀ X20 : Nat → Int → Int, (∀ i j, rI (X20 i j)) → ∀ Y21 : Nat → Int → Int, (∀ i j, rL (Y21 i j)) → (tkC X9 (X20) Y10 (Y21) i ∧ (X20) i 11 = tkN (X9 (i + 1)) (X9 i 12).toNat (X9 i 11).toNat ∧ (X20) i 13 = tkB (X9 (i + 1)) (X9 i 12).toNat (X9 i 11).toNat ∧ (X20) i 14 = tkS (X9 (i + 1)) (X9 i 12).toNat (X9 i 11).toNat ∧ ((X20) i 14 = 3 → (X20) i 15 = tkV (X9 (i + 1)) (X9 i 12).toNat (X9 i 11).toNat) ∧ ((X20) i 14 = 2 → (Y21) i 16 = tkW (X9 (i + 1)) (X9 i 12).toNat (X9 i 11).toNat)) → ((alI X (X20) Y (Y21) i a r11) ∧ ((alM (X20) i r11) < (alM (X2) i rd)))))))) ∧ ((¬ ((X9 (i) 14) = 4)) → (∀ r23 : Bool, ∀ X22 : Nat → Int → Int, (∀ i j, rI (X22 i j)) → (r23 = false ∧ (X22) = zU X9 i 17 (X9 i 13)) → (((r23 = false) → ((alI X (X22) Y (Y10) i a r23) ∧ ((alM (X22) i r23) < (alM (X2) i rd)))) ∧ ((r23 = true) → ((oRd X22 i) ∧ (∀ X26 : Nat → Int → Int, (∀ i j, rI (X26 i j)) → ∀ Y27 : Nat → Int → Int, (∀ i j, rL (Y27 i j)) → (tkC X22 (X26) Y10 (Y27) i ∧ (X26) i 11 = tkN (X22 (i + 1)) (X22 i 12).toNat (X22 i 11).toNat ∧ (X26) i 13 = tkB (X22 (i + 1)) (X22 i 12).toNat (X22 i 11).toNat ∧ (X26) i 14 = tkS (X22 (i + 1)) (X22 i 12).toNat (X22 i 11).toNat ∧ ((X26) i 14 = 3 → (X26) i 15 = tkV (X22 (i + 1)) (X22 i 12).toNat (X22 i 11).toNat) ∧ ((X26) i 14 = 2 → (Y27) i 16 = tkW (X22 (i + 1)) (X22 i 12).toNat (X22 i 11).toNat)) → ((alI X (X26) Y (Y27) i a r23) ∧ ((alM (X26) i r23) < (alM (X2) i rd))))))))))))))))) ∧ (((¬ (X2 (i) 14) = 2) → ((0 : Int) = if X2 i 14 = 2 then Y3 i 16 else 0)) ∧ ((¬ (¬ (X2 (i) 14) = 2)) → (Y3 (i) 16 = if X2 i 14 = 2 then Y3 i 16 else 0)))))))))
set_option maxHeartbeats 4000000 in
set_option maxRecDepth 100000 in
theorem w_X11_allLines {l : Launch} {D : va_G} {cy : Nat → ClassId} {bs N : Nat} {sa : Nat → Nat} {kd len : Nat → Nat} {X Y : Nat → Int → Int} {R : Nat → Int → Option Nat} {i : Nat} (hM : zM N kd len R i) (a : Int) (ha : rI a) (hF : F_X11_allLines i X Y R a) : Met l yX11_allLines (.code yX11_allLines cX11_allLines 6 (some .boolean) :: zTB) (zRm 7 161) (zPc D cy bs sa N kd len X Y R [.ref (bs + (i)), .int (zI (a))]) (zQi D cy bs N kd len (fun r st => st.2.2 = R ∧ ∃ rb : Bool, r = bz rb ∧ (rdK X (st.1) Y (st.2.1) i ∧ (rb = true → bnD (a) (st.1) i) ∧ ∀ s, rdS X Y i s → s.2.1.2 ≠ 182 → lnR (st.1) (st.2.1) i rb (rdA (X (i + 1)) (X i 12).toNat (a) ((X i 12).toNat + 1) s)))) 0 0 (zA bs) := by
  refine zstart (by decide) (Nat.le_of_ble_eq_true rfl) ?_
  intro p e s m args below meth c ls C hE hH hr hlk hnm hl hargs
  have hF := hF hH.2.2.1 hH.2.2.2
  have hS : va_S (zA bs) s.heap s.heap [] := va_S.rf
  have hl : lv_has ls 6 [(0, .ref (bs + (i))), (1, .int (zI (a)))] := hl
  refine zd_iconst C dX11_allLines_0 ?_
  refine lv_istore_n (lv' := [(2, .int (zI (1))), (0, .ref (bs + (i))), (1, .int (zI (a)))]) C.1 C.2.1 dX11_allLines_1 rfl hl (by decide) rfl (fun ls hl => ?_)
  obtain ⟨hI1, hF⟩ := hF
  have L1 : ∀ (fu : Nat) (rd : Bool) (X2 : Nat → Int → Int) (Y3 : Nat → Int → Int), (alI X (X2) Y (Y3) i a rd) → (alM (X2) i rd) < fu → ∀ (H : Heap) (locs : List Loc) (ls : Array Slot), zH D cy bs N kd len X2 Y3 R H → va_S (zA bs) s.heap H locs → lv_has ls 6 [(2, .int (zI (bz (rd)))), (0, .ref (bs + (i))), (1, .int (zI (a)))] → W p l e (zRm 7 161) s m args below meth c H locs 0 0 (MQ below (zQi D cy bs N kd len (fun r st => st.2.2 = R ∧ ∃ rb : Bool, r = bz rb ∧ (rdK X (st.1) Y (st.2.1) i ∧ (rb = true → bnD (a) (st.1) i) ∧ ∀ s, rdS X Y i s → s.2.1.2 ≠ 182 → lnR (st.1) (st.2.1) i rb (rdA (X (i + 1)) (X i 12).toNat (a) ((X i 12).toNat + 1) s)))) args s 0 0 (zA bs)) (F0 m 2 ls []) := by
    intro fu
    induction fu with
    | zero => intro rd X2 Y3  _ hmu; exact absurd hmu (Nat.not_lt_zero _)
    | succ fu ih1 =>
      intro rd X2 Y3  hI hmu1 H locs ls hH hS hl
      have hF := hF rd X2 Y3  hH.2.2.1 hH.2.2.2 hI
      refine lv_iload_n C.1 C.2.1 dX11_allLines_2 rfl (lv_at hl 0 rfl) ?_
      refine zd_ifB_eq C 78 dX11_allLines_3 (by decide) (fun c4 => ?_) (fun c4 => ?_)
      · have hF := hF.1 c4
        refine lv_iload_n C.1 C.2.1 dX11_allLines_78 rfl (lv_at hl 0 rfl) ?_
        exact zd_zret C hr hlk hH hS bz_01 (⟨rfl, _, rfl, hF⟩) dX11_allLines_79
      · have hF := hF.2 c4
        refine lv_aload_n C.1 C.2.1 dX11_allLines_6 rfl (lv_at hl 1 rfl) ?_
        refine zg11_14 C hH (zM_n0 hM) (zM_k0 hM) q_1301 dX11_allLines_7 ?_
        refine zd_if_eq C (hH.2.2.1 _ _) 78 dX11_allLines_10 (by decide) (fun c5 => ?_) (fun c5 => ?_)
        · have hF := hF.1 c5
          refine lv_iload_n C.1 C.2.1 dX11_allLines_78 rfl (lv_at hl 0 rfl) ?_
          exact zd_zret C hr hlk hH hS bz_01 (⟨rfl, _, rfl, hF⟩) dX11_allLines_79
        · have hF := hF.2 c5
          refine lv_aload_n C.1 C.2.1 dX11_allLines_13 rfl (lv_at hl 1 rfl) ?_
          refine zg11_13 C hH (zM_n0 hM) (zM_k0 hM) q_1300 dX11_allLines_14 ?_
          refine lv_istore_n (lv' := [(3, .int (zI (X2 (i) 13))), (2, .int (zI (bz (rd)))), (0, .ref (bs + (i))), (1, .int (zI (a)))]) C.1 C.2.1 dX11_allLines_17 rfl hl (by decide) rfl (fun ls hl => ?_)
          have J1 : ∀ (w : Int), rL w → (w = if X2 i 14 = 2 then Y3 i 16 else 0) → ∀ (H : Heap) (locs : List Loc) (ls : Array Slot), zH D cy bs N kd len X2 Y3 R H → va_S (zA bs) s.heap H locs → lv_has ls 6 [(4, .long (zL (w))), (3, .int (zI (X2 (i) 13))), (2, .int (zI (bz (rd)))), (0, .ref (bs + (i))), (1, .int (zI (a)))] → W p l e (zRm 7 161) s m args below meth c H locs 0 0 (MQ below (zQi D cy bs N kd len (fun r st => st.2.2 = R ∧ ∃ rb : Bool, r = bz rb ∧ (rdK X (st.1) Y (st.2.1) i ∧ (rb = true → bnD (a) (st.1) i) ∧ ∀ s, rdS X Y i s → s.2.1.2 ≠ 182 → lnR (st.1) (st.2.1) i rb (rdA (X (i + 1)) (X i 12).toNat (a) ((X i 12).toNat + 1) s)))) args s 0 0 (zA bs)) (F0 m 36 ls []) := by
            intro w hw hI H locs ls hH hS hl
            have hF := hF.1 w hw  hI
            refine lv_aload_n C.1 C.2.1 dX11_allLines_36 rfl (lv_at hl 3 rfl) ?_
            refine zd_iconst C dX11_allLines_37 ?_
            refine zp11_22 C hH hS (zM_n0 hM) (zM_k0 hM) q_1309 (by decide) dX11_allLines_38 (fun H locs hH hS => ?_)
            obtain ⟨X6, eX6⟩ : ∃ z, z = zU X2 (i) 22 (1) := ⟨_, rfl⟩
            rw [← eX6] at hH
            have hF := hF X6 eX6 hH.2.2.1
            refine lv_aload_n C.1 C.2.1 dX11_allLines_41 rfl (lv_at hl 3 rfl) ?_
            refine lv_iload_n C.1 C.2.1 dX11_allLines_42 rfl (lv_at hl 4 rfl) ?_
            refine lv_lload C.1 C.2.1 dX11_allLines_43 (lv_at hl 0 rfl) ?_
            refine lv_iload_n C.1 C.2.1 dX11_allLines_45 rfl (lv_at hl 1 rfl) ?_
            obtain ⟨o7, hF⟩ := hF
            obtain ⟨o8, hF⟩ := hF
            refine zgoi (zrunV (As := [.int (zI (a)), .long (zL (w)), .int (zI (X2 (i) 13))]) (rest := []) C hE hH hS hl.1 (c_X11_lineOf (l := l) hM (a) ha (w) hw (X2 (i) 13) o7 o8) k_RX11_229 ⟨Nat.le_of_ble_eq_true rfl, Nat.le_of_ble_eq_true rfl⟩ (zM_n0 hM) (zM_k0 hM) rfl rfl rfl (Nat.le_of_ble_eq_true rfl) dX11_allLines_46 ⟨Nat.zero_le _, Nat.zero_le _⟩) hS (fun rq X9 Y10 Rq H locs hrq hq hH hS => ?_)
            obtain ⟨h9R, hq⟩ := hq
            dsimp only at h9R
            rw [h9R] at hH
            obtain ⟨r11, h91, hq⟩ := hq
            subst h91
            have hF := hF r11 X9 hH.2.2.1 Y10 hH.2.2.2 hq
            refine lv_istore_n (lv' := [(2, .int (zI (bz (r11)))), (4, .long (zL (w))), (3, .int (zI (X2 (i) 13))), (0, .ref (bs + (i))), (1, .int (zI (a)))]) C.1 C.2.1 dX11_allLines_49 rfl hl (by decide) rfl (fun ls hl => ?_)
            refine lv_iload_n C.1 C.2.1 dX11_allLines_50 rfl (lv_at hl 0 rfl) ?_
            refine zd_ifB_eq C 67 dX11_allLines_51 (by decide) (fun c12 => ?_) (fun c12 => ?_)
            · have hF := hF.1 c12
              refine lv_iload_n C.1 C.2.1 dX11_allLines_67 rfl (lv_at hl 0 rfl) ?_
              refine zd_ifB_eq C 75 dX11_allLines_68 (by decide) (fun c13 => ?_) (fun c13 => ?_)
              · have hF := hF.1 c13
                refine lv_goto (tgt := 2) C.1 C.2.1 dX11_allLines_75 (by decide) ?_
                exact ih1 (r11) X9 Y10  hF.1 (Nat.lt_of_lt_of_le hF.2 (Nat.le_of_lt_succ hmu1)) _ _ _ hH hS (lv_sub hl [0, 3, 4] rfl)
              · have hF := hF.2 c13
                refine lv_aload_n C.1 C.2.1 dX11_allLines_71 rfl (lv_at hl 3 rfl) ?_
                obtain ⟨o14, hF⟩ := hF
                refine zgov (zrunV (As := []) (rest := []) C hE hH hS hl.1 (c_X11_token (l := l) hM  o14) k_RX11_152 ⟨Nat.le_of_ble_eq_true rfl, Nat.le_of_ble_eq_true rfl⟩ (zM_n0 hM) (zM_k0 hM) rfl rfl rfl (Nat.le_of_ble_eq_true rfl) dX11_allLines_72 ⟨Nat.zero_le _, Nat.zero_le _⟩) hS (fun X15 Y16 Rq H locs hq hH hS => ?_)
                obtain ⟨h9R, hq⟩ := hq
                dsimp only at h9R
                rw [h9R] at hH
                have hF := hF X15 hH.2.2.1 Y16 hH.2.2.2 hq
                refine lv_goto (tgt := 2) C.1 C.2.1 dX11_allLines_75 (by decide) ?_
                exact ih1 (r11) X15 Y16  hF.1 (Nat.lt_of_lt_of_le hF.2 (Nat.le_of_lt_succ hmu1)) _ _ _ hH hS (lv_sub hl [0, 3, 4] rfl)
            · have hF := hF.2 c12
              refine lv_aload_n C.1 C.2.1 dX11_allLines_54 rfl (lv_at hl 3 rfl) ?_
              refine zg11_14 C hH (zM_n0 hM) (zM_k0 hM) q_1301 dX11_allLines_55 ?_
              refine zd_iconst C dX11_allLines_58 ?_
              refine zd_icmp_eq C (hH.2.2.1 _ _) (by decide) 67 dX11_allLines_59 (by decide) (fun c17 => ?_) (fun c17 => ?_)
              · have hF := hF.1 c17
                refine lv_iload_n C.1 C.2.1 dX11_allLines_67 rfl (lv_at hl 0 rfl) ?_
                refine zd_ifB_eq C 75 dX11_allLines_68 (by decide) (fun c18 => ?_) (fun c18 => ?_)
                · have hF := hF.1 c18
                  refine lv_goto (tgt := 2) C.1 C.2.1 dX11_allLines_75 (by decide) ?_
                  exact ih1 (r11) X9 Y10  hF.1 (Nat.lt_of_lt_of_le hF.2 (Nat.le_of_lt_succ hmu1)) _ _ _ hH hS (lv_sub hl [0, 3, 4] rfl)
                · have hF := hF.2 c18
                  refine lv_aload_n C.1 C.2.1 dX11_allLines_71 rfl (lv_at hl 3 rfl) ?_
                  obtain ⟨o19, hF⟩ := hF
                  refine zgov (zrunV (As := []) (rest := []) C hE hH hS hl.1 (c_X11_token (l := l) hM  o19) k_RX11_152 ⟨Nat.le_of_ble_eq_true rfl, Nat.le_of_ble_eq_true rfl⟩ (zM_n0 hM) (zM_k0 hM) rfl rfl rfl (Nat.le_of_ble_eq_true rfl) dX11_allLines_72 ⟨Nat.zero_le _, Nat.zero_le _⟩) hS (fun X20 Y21 Rq H locs hq hH hS => ?_)
                  obtain ⟨h9R, hq⟩ := hq
                  dsimp only at h9R
                  rw [h9R] at hH
                  have hF := hF X20 hH.2.2.1 Y21 hH.2.2.2 hq
                  refine lv_goto (tgt := 2) C.1 C.2.1 dX11_allLines_75 (by decide) ?_
                  exact ih1 (r11) X20 Y21  hF.1 (Nat.lt_of_lt_of_le hF.2 (Nat.le_of_lt_succ hmu1)) _ _ _ hH hS (lv_sub hl [0, 3, 4] rfl)
              · have hF := hF.2 c17
                refine lv_aload_n C.1 C.2.1 dX11_allLines_62 rfl (lv_at hl 3 rfl) ?_
                refine zgoi (zrunV (As := []) (rest := []) C hE hH hS hl.1 (c_X11_fails (l := l) hM ) k_RX11_140 ⟨Nat.le_of_ble_eq_true rfl, Nat.le_of_ble_eq_true rfl⟩ (zM_n0 hM) (zM_k0 hM) rfl rfl rfl (Nat.le_of_ble_eq_true rfl) dX11_allLines_63 ⟨Nat.zero_le _, Nat.zero_le _⟩) hS (fun rq X22 Yq Rq H locs hrq hq hH hS => ?_)
                obtain ⟨h9Y, h9R, hq⟩ := hq
                dsimp only at h9Y h9R
                rw [h9Y, h9R] at hH
                obtain ⟨r23, h91, hq⟩ := hq
                subst h91
                have hF := hF r23 X22 hH.2.2.1 hq
                refine lv_istore_n (lv' := [(2, .int (zI (bz (r23)))), (4, .long (zL (w))), (3, .int (zI (X2 (i) 13))), (0, .ref (bs + (i))), (1, .int (zI (a)))]) C.1 C.2.1 dX11_allLines_66 rfl hl (by decide) rfl (fun ls hl => ?_)
                refine lv_iload_n C.1 C.2.1 dX11_allLines_67 rfl (lv_at hl 0 rfl) ?_
                refine zd_ifB_eq C 75 dX11_allLines_68 (by decide) (fun c24 => ?_) (fun c24 => ?_)
                · have hF := hF.1 c24
                  refine lv_goto (tgt := 2) C.1 C.2.1 dX11_allLines_75 (by decide) ?_
                  exact ih1 (r23) X22 Y10  hF.1 (Nat.lt_of_lt_of_le hF.2 (Nat.le_of_lt_succ hmu1)) _ _ _ hH hS (lv_sub hl [0, 3, 4] rfl)
                · have hF := hF.2 c24
                  refine lv_aload_n C.1 C.2.1 dX11_allLines_71 rfl (lv_at hl 3 rfl) ?_
                  obtain ⟨o25, hF⟩ := hF
                  refine zgov (zrunV (As := []) (rest := []) C hE hH hS hl.1 (c_X11_token (l := l) hM  o25) k_RX11_152 ⟨Nat.le_of_ble_eq_true rfl, Nat.le_of_ble_eq_true rfl⟩ (zM_n0 hM) (zM_k0 hM) rfl rfl rfl (Nat.le_of_ble_eq_true rfl) dX11_allLines_72 ⟨Nat.zero_le _, Nat.zero_le _⟩) hS (fun X26 Y27 Rq H locs hq hH hS => ?_)
                  obtain ⟨h9R, hq⟩ := hq
                  dsimp only at h9R
                  rw [h9R] at hH
                  have hF := hF X26 hH.2.2.1 Y27 hH.2.2.2 hq
                  refine lv_goto (tgt := 2) C.1 C.2.1 dX11_allLines_75 (by decide) ?_
                  exact ih1 (r23) X26 Y27  hF.1 (Nat.lt_of_lt_of_le hF.2 (Nat.le_of_lt_succ hmu1)) _ _ _ hH hS (lv_sub hl [0, 3, 4] rfl)
          have hF := hF.2
          refine lv_aload_n C.1 C.2.1 dX11_allLines_18 rfl (lv_at hl 2 rfl) ?_
          refine zg11_14 C hH (zM_n0 hM) (zM_k0 hM) q_1301 dX11_allLines_19 ?_
          refine zd_iconst C dX11_allLines_22 ?_
          refine zd_icmp_ne C (hH.2.2.1 _ _) (by decide) 33 dX11_allLines_23 (by decide) (fun c28 => ?_) (fun c28 => ?_)
          · have hF := hF.1 c28
            refine lv_lconst (v := zL 0) C.1 C.2.1 dX11_allLines_33 rfl ?_
            refine lv_lstore (lv' := [(4, .long (zL (0))), (3, .int (zI (X2 (i) 13))), (2, .int (zI (bz (rd)))), (0, .ref (bs + (i))), (1, .int (zI (a)))]) C.1 C.2.1 dX11_allLines_34 hl (by decide) rfl (fun ls hl => ?_)
            exact J1 ((0 : Int)) (by decide) hF _ _ _ hH hS (lv_sub hl [0, 1, 2, 3, 4] rfl)
          · have hF := hF.2 c28
            refine lv_aload_n C.1 C.2.1 dX11_allLines_26 rfl (lv_at hl 2 rfl) ?_
            refine zg11_16 C hH (zM_n0 hM) (zM_k0 hM) q_1303 dX11_allLines_27 ?_
            refine lv_goto (tgt := 34) C.1 C.2.1 dX11_allLines_30 (by decide) ?_
            refine lv_lstore (lv' := [(4, .long (zL (Y3 (i) 16))), (3, .int (zI (X2 (i) 13))), (2, .int (zI (bz (rd)))), (0, .ref (bs + (i))), (1, .int (zI (a)))]) C.1 C.2.1 dX11_allLines_34 hl (by decide) rfl (fun ls hl => ?_)
            exact J1 (Y3 (i) 16) (hH.2.2.2 _ _) hF _ _ _ hH hS (lv_sub hl [0, 1, 2, 3, 4] rfl)
  exact L1 ((alM (X) i true) + 1) (true) X Y  hI1 (Nat.lt_succ_self _) _ _ _ hH hS (lv_sub hl [0, 1, 2] rfl)
theorem v_X11_allLines {X Y : Nat → Int → Int} {R : Nat → Int → Option Nat} {i : Nat} (a : Int) (ha : rI a) (hp : (0 ≤ a ∧ a ≤ 4) ∧ oRd X i ∧ bnD (a) X i ∧ ∃ s, rdS X Y i s ∧ s.2.1.2 ≠ 182) : F_X11_allLines i X Y R a := by
  unfold F_X11_allLines
  intro hX hY
  obtain ⟨ha4, hr, hbd, s0, hs0, hn0⟩ := hp
  refine ⟨?_, ?_⟩
  · exact ⟨⟨fun _ _ _ _ => rfl, fun _ _ => rfl, fun _ _ => rfl⟩, fun _ => ⟨hr, hbd⟩, fun s hs hn => ⟨fun h => absurd h (by decide), fun _ => ⟨s, (X i 12).toNat + 1, hs, hn, rfl, by omega⟩⟩⟩
  intro rd X2 Y3
  intro rX2
  intro rY3
  intro h1
  refine ⟨?_, ?_⟩
  · intro c1
    refine ⟨h1.1, fun g => (h1.2.1 g).2, fun s hs hn => ?_⟩
    rw [(h1.2.2 s hs hn).1 c1]
    exact ⟨c1, rfl⟩
  intro c2
  subst c2
  obtain ⟨k2, b2, g2⟩ := h1
  have h1 : alI X X2 Y Y3 i a true := ⟨k2, b2, g2⟩
  refine ⟨?_, ?_⟩
  · intro c3
    refine ⟨k2, fun g => (b2 g).2, fun s hs hn => ?_⟩
    obtain ⟨s1, q, z1, z2, z3, z4⟩ := (g2 s hs hn).2 rfl
    have e := z1.1.2.2.2.1
    rw [k2.f.1, k2.f.2, c3] at e
    rw [z3, rdA_e e.symm]
    exact ⟨rfl, z1⟩
  intro c4
  refine ⟨?_, ?_⟩
  · intro w
    intro _
    intro h2
    intro X6
    intro eX6
    intro rX6
    refine ⟨?_, ?_⟩
    · exact rX2 _ _
    refine ⟨?_, ?_⟩
    · have b := b2 rfl
      exact ⟨ha4, oRd_k (by rw [eX6, zU_o (by omega)]) (by rw [eX6, zU_n (by omega)]) (by rw [eX6, zU_n (by omega)]) b.1, bnD_k (by rw [eX6, zU_o (by omega)]) (by rw [eX6, zU_n (by omega)]) b.2, by rw [eX6, zU_s]⟩
    intro r11
    intro X9
    intro rX9
    intro Y10
    intro rY10
    intro h3
    obtain ⟨k9, b9, g9⟩ := al_st h1 c4 h2 eX6 h3
    refine ⟨?_, ?_⟩
    · intro c5
      refine ⟨?_, ?_⟩
      · intro c6
        refine ⟨?_, ?_⟩
        · exact ⟨k9, b9, fun s hs hn => ⟨(g9 s hs hn).1, fun g => (by rw [c6] at g; cases g)⟩⟩
        unfold alM
        rw [c5, if_neg (by decide), if_pos rfl]
        omega
      intro c7
      rw [c5] at c7
      cases c7
    intro c8
    refine ⟨?_, ?_⟩
    · intro c9
      refine ⟨?_, ?_⟩
      · intro c10
        rw [c8] at c10
        cases c10
      intro c11
      obtain ⟨s1, q1, z1, z2, z3, z4, z5⟩ := (g9 s0 hs0 hn0).2 c8
      have n4 : ∀ s1, rdS X9 Y10 i s1 → tkS (X (i + 1)) (X i 12).toNat s1.1 = 4 := fun s1 z => by
        have e := z.1.2.2.2.1
        rw [k9.f.1, k9.f.2] at e
        rw [← e]
        exact c9
      refine ⟨?_, ?_⟩
      · exact (b9 c8).1
      intro X20
      intro rX20
      intro Y21
      intro rY21
      intro h5
      obtain ⟨_, r20, kt, _, _, _, _, ft, _, st20⟩ := fu_st (c := false) (b := X9 i 13) (b9 c8).1 rfl h5
      refine ⟨?_, ?_⟩
      · refine ⟨k9.tr kt, fun _ => ⟨r20, ?_⟩, fun s hs hn => ⟨fun g => (by rw [c11] at g; cases g), fun _ => ?_⟩⟩
        · exact bnD_k (h5.1.1 _ (by omega)) (h5.1.2.1 23 (by decide) (by decide) (by decide) (by decide)) (b9 c8).2
        · obtain ⟨s1, q, z1, z2, z3, z4, z5⟩ := (g9 s hs hn).2 c8
          have e4 := n4 s1 z1
          have z4 := z4 e4
          have q := st20 s1 z1 z1.1.2.2.1 (by rw [k9.f.1, k9.f.2, e4]; decide)
          rw [k9.f.1, k9.f.2] at q
          exact ⟨_, _, q, z2, z4.1, z4.2⟩
      unfold alM
      rw [c8, if_pos rfl, if_pos rfl]
      have e4 := n4 s1 z1
      have t := tk_le (T := X (i + 1)) (by have e := z1.1.1; rw [k9.f.2] at e; exact e : s1.1 ≤ (X i 12).toNat)
      have t4 := t.2.2 (by rw [e4]; decide)
      have e11 : (X9 i 11).toNat = tkN (X (i + 1)) (X i 12).toNat s1.1 := by
        rw [z1.1.2.1, k9.f.1, k9.f.2]
        rfl
      have t5 := tk_le (T := X (i + 1)) t.2.1.2
      have e20 := h5.2.1
      rw [e11, k9.f.1, k9.f.2] at e20
      have e12 := (k9.tr kt).f.2
      have e2 := k2.f.2
      rw [e12, e2, e20]
      omega
    intro c12
    intro r23
    intro X22
    intro rX22
    intro h6
    refine ⟨?_, ?_⟩
    · intro c13
      refine ⟨?_, ?_⟩
      · refine ⟨k9.tr ⟨fun z h _ _ => by rw [h6.2, zU_o h], fun s hs => by rw [h6.2, zU_n (by omega)], fun _ _ => rfl⟩, fun g => (by rw [c13] at g; cases g), fun s hs hn => ⟨fun _ => ?_, fun g => (by rw [c13] at g; cases g)⟩⟩
        obtain ⟨s1, q, z1, z2, z3, z4, z5⟩ := (g9 s hs hn).2 c8
        have e := z1.1.2
        unfold tkAt at e
        rw [k9.f.1, k9.f.2] at e
        rw [z5 (by rw [← e.2.2.1]; exact c12), h6.2, zU_s, e.2.1]
      unfold alM
      rw [h6.1, if_neg (by decide), if_pos rfl]
      omega
    intro c14
    rw [h6.1] at c14
    cases c14
  refine ⟨?_, ?_⟩
  · intro c15
    rw [if_neg c15]
  intro c16
  rw [if_pos (Classical.not_not.mp c16)]
theorem c_X11_allLines {l : Launch} {D : va_G} {cy : Nat → ClassId} {bs N : Nat} {sa : Nat → Nat} {kd len : Nat → Nat} {X Y : Nat → Int → Int} {R : Nat → Int → Option Nat} {i : Nat} (hM : zM N kd len R i) (a : Int) (ha : rI a) (hp : (0 ≤ a ∧ a ≤ 4) ∧ oRd X i ∧ bnD (a) X i ∧ ∃ s, rdS X Y i s ∧ s.2.1.2 ≠ 182) : Met l yX11_allLines (.code yX11_allLines cX11_allLines 6 (some .boolean) :: zTB) (zRm 7 161) (zPc D cy bs sa N kd len X Y R [.ref (bs + (i)), .int (zI (a))]) (zQi D cy bs N kd len (fun r st => st.2.2 = R ∧ ∃ rb : Bool, r = bz rb ∧ (rdK X (st.1) Y (st.2.1) i ∧ (rb = true → bnD (a) (st.1) i) ∧ ∀ s, rdS X Y i s → s.2.1.2 ≠ 182 → lnR (st.1) (st.2.1) i rb (rdA (X (i + 1)) (X i 12).toNat (a) ((X i 12).toNat + 1) s)))) 0 0 (zA bs) := w_X11_allLines hM a ha (v_X11_allLines a ha hp)
