/-! A TEXT -/
def d0R (of y : Int) : Int := if of = 0 then (if y = 0 then 2 else if y < 3 then 10 else if y = 5 then 5 else 0) else 0
def s0R (of : Int) : rST := (0, (d0R of, 0), (0, 0))
def rtR (X1 Y1 : Nat → Int → Int) (i : Nat) (of : Int) (r : Bool) : Int ⊕ rST → Prop
  | .inl pl => r = false ∧ X1 (i + 3) 0 = 1 ∧ X1 (i + 4) 0 = pl
  | .inr s => r = decide (s.2.2.1 = 0) ∧ X1 (i + 3) 0 = s.2.2.1 ∧ X1 (i + 4) 0 = (if 0 < s.2.2.1 then s.2.2.2 else -1) ∧ rdS X1 Y1 i s ∧ bnD of X1 i
/-- what reading a text leaves as it is -/
def rtK (X X1 Y Y1 : Nat → Int → Int) (i : Nat) : Prop := (∀ z, z ≠ i → z ≠ i + 3 → z ≠ i + 4 → z ≠ i + 11 → z ≠ i + 12 → X1 z = X z) ∧ (∀ s, (s < 11 ∨ s = 12 ∨ 23 < s) → X1 i s = X i s) ∧ (∀ y, y ≠ 0 → X1 (i + 3) y = X (i + 3) y ∧ X1 (i + 4) y = X (i + 4) y) ∧ ∀ z, z ≠ i → Y1 z = Y z
theorem bnD_0 {of : Int} {X : Nat → Int → Int} {i : Nat} (t : ∀ y : Int, 0 ≤ y → y < 183 → X (i + 11) y = d0R of y) (h23 : X i 23 = 0) : bnD of X i := by
  unfold bnD
  split
  · rename_i h
    rw [t 6 (by decide) (by decide)]
    unfold d0R
    rw [if_pos h]
    decide
  · rename_i h
    rw [t 0 (by decide) (by decide)]
    have e : d0R of 0 = 0 := if_neg h
    rw [e]
    split
    · exact ⟨by decide, Or.inl h23⟩
    · refine ⟨by decide, ?_⟩
      split
      · decide
      · split <;> decide
theorem rdS_o {X X1 Y : Nat → Int → Int} {i : Nat} {s : rST} (o : X1 i = X i ∧ X1 (i + 1) = X (i + 1) ∧ X1 (i + 11) = X (i + 11)) (h : rdS X Y i s) : rdS X1 Y i s := by
  unfold rdS tkAt at h ⊢
  rw [o.1, o.2.1, o.2.2]
  exact h
theorem rt_fin {X X11 X18 Y Y12 : Nat → Int → Int} {i : Nat} {of f pl : Int} {r r1 : Bool} {A : Int ⊕ rST} (k : rdK X X11 Y Y12 i) (e : X18 = zU (zU X11 (i + 3) 0 f) (i + 4) 0 pl) (hb : r = true → bnD of X11 i) (l : lnR X11 Y12 i r A) (hf : f = if r = true then X11 i 18 else 1) (hp : pl = if r = true then (if 0 < X11 i 18 then X11 i 19 else -1) else X11 i 17) (hr : r1 = decide (f = 0)) : rtK X X18 Y Y12 i ∧ rtR X18 Y12 i of r1 A := by
  have o : ∀ z, z ≠ i + 3 → z ≠ i + 4 → X18 z = X11 z := fun z h1 h2 => by rw [e, zU_o h2, zU_o h1]
  have e3 : X18 (i + 3) 0 = f := by rw [e, zU_o (by omega), zU_s]
  have e4 : X18 (i + 4) 0 = pl := by rw [e, zU_s]
  refine ⟨⟨fun z h1 h2 h3 h4 h5 => (o z h2 h3).trans (k.1 z h1 h4 h5), fun s hs => by rw [o i (by omega) (by omega)]; exact k.2.1 s hs, fun y hy => ⟨?_, ?_⟩, k.2.2⟩, ?_⟩
  · rw [e, zU_o (by omega), zU_n (by omega), k.1 _ (by omega) (by omega) (by omega)]
  · rw [e, zU_n (by omega), zU_o (by omega), k.1 _ (by omega) (by omega) (by omega)]
  · cases A with
    | inl pl' =>
      obtain ⟨l1, l2⟩ := l
      subst l1
      rw [if_neg (by decide)] at hf hp
      subst hf
      exact ⟨hr, e3, by rw [e4, hp, l2]⟩
    | inr s =>
      obtain ⟨l1, l2⟩ := l
      subst l1
      rw [if_pos rfl] at hf hp
      obtain ⟨_, ⟨s18, s19⟩, _⟩ := id l2
      refine ⟨by rw [hr, hf, s18], by rw [e3, hf, s18], ?_, rdS_o ⟨o _ (by omega) (by omega), o _ (by omega) (by omega), o _ (by omega) (by omega)⟩ l2, bnD_k (o _ (by omega) (by omega)) (by rw [o _ (by omega) (by omega)]) (hb rfl)⟩
      rw [e4, hp, s18]
      split
      · rw [(s19 (by omega)).1]
      · rfl
abbrev cX11_readText : ByteArray := prog_13_method_32_code
def yX11_readText : MethodName := ⟨RX11, "readText", "(I)Z"⟩
theorem dX11_readText_0 : decode cX11_readText 0 = .ok (.iconst 0, 1) := by decide +kernel
theorem dX11_readText_1 : decode cX11_readText 1 = .ok (.istore_n 2, 1) := by decide +kernel
theorem dX11_readText_2 : decode cX11_readText 2 = .ok (.iload_n 2, 1) := by decide +kernel
theorem dX11_readText_3 : decode cX11_readText 3 = .ok (.sipush 183, 3) := by decide +kernel
theorem dX11_readText_6 : decode cX11_readText 6 = .ok (.if_icmp .ge 51, 3) := by decide +kernel
theorem dX11_readText_9 : decode cX11_readText 9 = .ok (.aload_n 0, 1) := by decide +kernel
theorem dX11_readText_10 : decode cX11_readText 10 = .ok (.getfield 41, 3) := by decide +kernel
theorem dX11_readText_13 : decode cX11_readText 13 = .ok (.iload_n 2, 1) := by decide +kernel
theorem dX11_readText_14 : decode cX11_readText 14 = .ok (.iload_n 1, 1) := by decide +kernel
theorem dX11_readText_15 : decode cX11_readText 15 = .ok (.ifCond .eq 7, 3) := by decide +kernel
theorem dX11_readText_18 : decode cX11_readText 18 = .ok (.iconst 0, 1) := by decide +kernel
theorem dX11_readText_19 : decode cX11_readText 19 = .ok (.goto 31, 3) := by decide +kernel
theorem dX11_readText_22 : decode cX11_readText 22 = .ok (.iload_n 2, 1) := by decide +kernel
theorem dX11_readText_23 : decode cX11_readText 23 = .ok (.ifCond .ne 7, 3) := by decide +kernel
theorem dX11_readText_26 : decode cX11_readText 26 = .ok (.iconst 2, 1) := by decide +kernel
theorem dX11_readText_27 : decode cX11_readText 27 = .ok (.goto 23, 3) := by decide +kernel
theorem dX11_readText_30 : decode cX11_readText 30 = .ok (.iload_n 2, 1) := by decide +kernel
theorem dX11_readText_31 : decode cX11_readText 31 = .ok (.iconst 3, 1) := by decide +kernel
theorem dX11_readText_32 : decode cX11_readText 32 = .ok (.if_icmp .ge 8, 3) := by decide +kernel
theorem dX11_readText_35 : decode cX11_readText 35 = .ok (.bipush 10, 2) := by decide +kernel
theorem dX11_readText_37 : decode cX11_readText 37 = .ok (.goto 13, 3) := by decide +kernel
theorem dX11_readText_40 : decode cX11_readText 40 = .ok (.iload_n 2, 1) := by decide +kernel
theorem dX11_readText_41 : decode cX11_readText 41 = .ok (.iconst 5, 1) := by decide +kernel
theorem dX11_readText_42 : decode cX11_readText 42 = .ok (.if_icmp .ne 7, 3) := by decide +kernel
theorem dX11_readText_45 : decode cX11_readText 45 = .ok (.iconst 5, 1) := by decide +kernel
theorem dX11_readText_46 : decode cX11_readText 46 = .ok (.goto 4, 3) := by decide +kernel
theorem dX11_readText_49 : decode cX11_readText 49 = .ok (.iconst 0, 1) := by decide +kernel
theorem dX11_readText_50 : decode cX11_readText 50 = .ok (.iastore, 1) := by decide +kernel
theorem dX11_readText_51 : decode cX11_readText 51 = .ok (.iinc 2 1, 3) := by decide +kernel
theorem dX11_readText_54 : decode cX11_readText 54 = .ok (.goto (-52), 3) := by decide +kernel
theorem dX11_readText_57 : decode cX11_readText 57 = .ok (.aload_n 0, 1) := by decide +kernel
theorem dX11_readText_58 : decode cX11_readText 58 = .ok (.iconst 0, 1) := by decide +kernel
theorem dX11_readText_59 : decode cX11_readText 59 = .ok (.putfield 188, 3) := by decide +kernel
theorem dX11_readText_62 : decode cX11_readText 62 = .ok (.aload_n 0, 1) := by decide +kernel
theorem dX11_readText_63 : decode cX11_readText 63 = .ok (.iconst 0, 1) := by decide +kernel
theorem dX11_readText_64 : decode cX11_readText 64 = .ok (.putfield 108, 3) := by decide +kernel
theorem dX11_readText_67 : decode cX11_readText 67 = .ok (.aload_n 0, 1) := by decide +kernel
theorem dX11_readText_68 : decode cX11_readText 68 = .ok (.iconst 0, 1) := by decide +kernel
theorem dX11_readText_69 : decode cX11_readText 69 = .ok (.putfield 134, 3) := by decide +kernel
theorem dX11_readText_72 : decode cX11_readText 72 = .ok (.aload_n 0, 1) := by decide +kernel
theorem dX11_readText_73 : decode cX11_readText 73 = .ok (.invokevirtual 152, 3) := by decide +kernel
theorem dX11_readText_76 : decode cX11_readText 76 = .ok (.aload_n 0, 1) := by decide +kernel
theorem dX11_readText_77 : decode cX11_readText 77 = .ok (.iload_n 1, 1) := by decide +kernel
theorem dX11_readText_78 : decode cX11_readText 78 = .ok (.invokevirtual 233, 3) := by decide +kernel
theorem dX11_readText_81 : decode cX11_readText 81 = .ok (.istore_n 2, 1) := by decide +kernel
theorem dX11_readText_82 : decode cX11_readText 82 = .ok (.aload_n 0, 1) := by decide +kernel
theorem dX11_readText_83 : decode cX11_readText 83 = .ok (.getfield 17, 3) := by decide +kernel
theorem dX11_readText_86 : decode cX11_readText 86 = .ok (.iconst 0, 1) := by decide +kernel
theorem dX11_readText_87 : decode cX11_readText 87 = .ok (.iload_n 2, 1) := by decide +kernel
theorem dX11_readText_88 : decode cX11_readText 88 = .ok (.ifCond .eq 10, 3) := by decide +kernel
theorem dX11_readText_91 : decode cX11_readText 91 = .ok (.aload_n 0, 1) := by decide +kernel
theorem dX11_readText_92 : decode cX11_readText 92 = .ok (.getfield 134, 3) := by decide +kernel
theorem dX11_readText_95 : decode cX11_readText 95 = .ok (.goto 4, 3) := by decide +kernel
theorem dX11_readText_98 : decode cX11_readText 98 = .ok (.iconst 1, 1) := by decide +kernel
theorem dX11_readText_99 : decode cX11_readText 99 = .ok (.iastore, 1) := by decide +kernel
theorem dX11_readText_100 : decode cX11_readText 100 = .ok (.aload_n 0, 1) := by decide +kernel
theorem dX11_readText_101 : decode cX11_readText 101 = .ok (.getfield 20, 3) := by decide +kernel
theorem dX11_readText_104 : decode cX11_readText 104 = .ok (.iconst 0, 1) := by decide +kernel
theorem dX11_readText_105 : decode cX11_readText 105 = .ok (.iload_n 2, 1) := by decide +kernel
theorem dX11_readText_106 : decode cX11_readText 106 = .ok (.ifCond .ne 10, 3) := by decide +kernel
theorem dX11_readText_109 : decode cX11_readText 109 = .ok (.aload_n 0, 1) := by decide +kernel
theorem dX11_readText_110 : decode cX11_readText 110 = .ok (.getfield 131, 3) := by decide +kernel
theorem dX11_readText_113 : decode cX11_readText 113 = .ok (.goto 18, 3) := by decide +kernel
theorem dX11_readText_116 : decode cX11_readText 116 = .ok (.aload_n 0, 1) := by decide +kernel
theorem dX11_readText_117 : decode cX11_readText 117 = .ok (.getfield 134, 3) := by decide +kernel
theorem dX11_readText_120 : decode cX11_readText 120 = .ok (.ifCond .le 10, 3) := by decide +kernel
theorem dX11_readText_123 : decode cX11_readText 123 = .ok (.aload_n 0, 1) := by decide +kernel
theorem dX11_readText_124 : decode cX11_readText 124 = .ok (.getfield 137, 3) := by decide +kernel
theorem dX11_readText_127 : decode cX11_readText 127 = .ok (.goto 4, 3) := by decide +kernel
theorem dX11_readText_130 : decode cX11_readText 130 = .ok (.iconst (-1), 1) := by decide +kernel
theorem dX11_readText_131 : decode cX11_readText 131 = .ok (.iastore, 1) := by decide +kernel
theorem dX11_readText_132 : decode cX11_readText 132 = .ok (.aload_n 0, 1) := by decide +kernel
theorem dX11_readText_133 : decode cX11_readText 133 = .ok (.getfield 17, 3) := by decide +kernel
theorem dX11_readText_136 : decode cX11_readText 136 = .ok (.iconst 0, 1) := by decide +kernel
theorem dX11_readText_137 : decode cX11_readText 137 = .ok (.iaload, 1) := by decide +kernel
theorem dX11_readText_138 : decode cX11_readText 138 = .ok (.ifCond .ne 7, 3) := by decide +kernel
theorem dX11_readText_141 : decode cX11_readText 141 = .ok (.iconst 1, 1) := by decide +kernel
theorem dX11_readText_142 : decode cX11_readText 142 = .ok (.goto 4, 3) := by decide +kernel
theorem dX11_readText_145 : decode cX11_readText 145 = .ok (.iconst 0, 1) := by decide +kernel
theorem dX11_readText_146 : decode cX11_readText 146 = .ok (.ireturn, 1) := by decide +kernel
theorem q_1521 : Cond.methodLink RX11 233 yX11_allLines ∈ zTB := zmem 1521 (by decide +kernel) rfl
theorem q_1523 : Cond.instanceMethod yX11_allLines ∈ zTB := zmem 1523 (by decide +kernel) rfl
theorem q_38 : Cond.selects RX11 yX11_allLines yX11_allLines ∈ zTB := zmem 38 (by decide +kernel) rfl
theorem q_1524 : Cond.code yX11_allLines cX11_allLines 6 (some .boolean) ∈ zTB := zmem 1524 (by decide +kernel) rfl
theorem k_RX11_233 : zLv RX11 233 RX11 yX11_allLines cX11_allLines 6 (some .boolean) 1 := ⟨⟨q_1521, q_1523, q_38, q_140, q_1524⟩, rfl, ⟨by decide, by decide⟩, by decide +kernel⟩
def F_X11_readText (i : Nat) (X Y : Nat → Int → Int) (R : Nat → Int → Option Nat) (a : Int) : Prop := (∀ i j, rI (X i j)) → (∀ i j, rL (Y i j)) → (∃ q : Nat, (0 : Int) = q ∧ q ≤ 183 ∧ (∀ z, z ≠ i + 11 → X z = X z) ∧ ∀ y : Int, 0 ≤ y → y < q → X (i + 11) y = d0R a y) ∧ (∀ (j : Int) (X2 : Nat → Int → Int), rI j → (∀ i j, rI (X2 i j)) → (∃ q : Nat, j = q ∧ q ≤ 183 ∧ (∀ z, z ≠ i + 11 → X2 z = X z) ∧ ∀ y : Int, 0 ≤ y → y < q → X2 (i + 11) y = d0R a y) → (((183 ≤ j) → (∀ X4 : Nat → Int → Int, X4 = zU X2 (i) 23 (0) → (∀ i j, rI (X4 i j)) → (∀ X5 : Nat → Int → Int, X5 = zU X4 (i) 11 (0) → (∀ i j, rI (X5 i j)) → (∀ X6 : Nat → Int → Int, X6 = zU X5 (i) 18 (0) → (∀ i j, rI (X6 i j)) → ((oRd X6 i) ∧ (∀ X8 : Nat → Int → Int, (∀ i j, rI (X8 i j)) → ∀ Y9 : Nat → Int → Int, (∀ i j, rL (Y9 i j)) → (tkC X6 (X8) Y (Y9) i ∧ (X8) i 11 = tkN (X6 (i + 1)) (X6 i 12).toNat (X6 i 11).toNat ∧ (X8) i 13 = tkB (X6 (i + 1)) (X6 i 12).toNat (X6 i 11).toNat ∧ (X8) i 14 = tkS (X6 (i + 1)) (X6 i 12).toNat (X6 i 11).toNat ∧ ((X8) i 14 = 3 → (X8) i 15 = tkV (X6 (i + 1)) (X6 i 12).toNat (X6 i 11).toNat) ∧ ((X8) i 14 = 2 → (Y9) i 16 = tkW (X6 (i + 1)) (X6 i 12).toNat (X6 i 11).toNat)) → (((0 ≤ a ∧ a ≤ 4) ∧ oRd X8 i ∧ bnD (a) X8 i ∧ ∃ s, rdS X8 Y9 i s ∧ s.2.1.2 ≠ 182) ∧ (∀ r13 : Bool, ∀ X11 : Nat → Int → Int, (∀ i j, rI (X11 i j)) → ∀ Y12 : Nat → Int → Int, (∀ i j, rL (Y12 i j)) → (rdK X8 (X11) Y9 (Y12) i ∧ (r13 = true → bnD (a) (X11) i) ∧ ∀ s, rdS X8 Y9 i s → s.2.1.2 ≠ 182 → lnR (X11) (Y12) i r13 (rdA (X8 (i + 1)) (X8 i 12).toNat (a) ((X8 i 12).toNat + 1) s)) → (((r13 = false) → (∀ X15 : Nat → Int → Int, X15 = zU X11 (i + 3) (0) (1) → (∀ i j, rI (X15 i j)) → (((r13 = true) → ((((X15 (i) 18) ≤ 0) → (∀ X18 : Nat → Int → Int, X18 = zU X15 (i + 4) (0) ((-1)) → (∀ i j, rI (X18 i j)) → (((¬ (X18 (i + 3) (0)) = 0) → (rtK X (X18) Y (Y12) i ∧ rtR (X18) (Y12) i (a) false (rdA (X (i + 1)) (X i 12).toNat (a) ((X i 12).toNat + 1) (s0R (a))))) ∧ ((¬ (¬ (X18 (i + 3) (0)) = 0)) → (rtK X (X18) Y (Y12) i ∧ rtR (X18) (Y12) i (a) true (rdA (X (i + 1)) (X i 12).toNat (a) ((X i 12).toNat + 1) (s0R (a)))))))) ∧ ((¬ ((X15 (i) 18) ≤ 0)) → (∀ X20 : Nat → Int → Int, X20 = zU X15 (i + 4) (0) (X15 (i) 19) → (∀ i j, rI (X20 i j)) → (((¬ (X20 (i + 3) (0)) = 0) → (rtK X (X20) Y (Y12) i ∧ rtR (X20) (Y12) i (a) false (rdA (X (i + 1)) (X i 12).toNat (a) ((X i 12).toNat + 1) (s0R (a))))) ∧ ((¬ (¬ (X20 (i + 3) (0)) = 0)) → (rtK X (X20) Y (Y12) i ∧ rtR (X20) (Y12) i (a) true (rdA (X (i + 1)) (X i 12).toNat (a) ((X i 12).toNat + 1) (s0R (a)))))))))) ∧ ((r13 = false) → (∀ X22 : Nat → Int → Int, X22 = zU X15 (i + 4) (0) (X15 (i) 17) → (∀ i j, rI (X22 i j)) → (((¬ (X22 (i + 3) (0)) = 0) → (rtK X (X22) Y (Y12) i ∧ rtR (X22) (Y12) i (a) false (rdA (X (i + 1)) (X i 12).toNat (a) ((X i 12).toNat + 1) (s0R (a))))) ∧ ((¬ (¬ (X22 (i + 3) (0)) = 0)) → (rtK X (X22) Y (Y12) i ∧ rtR (X22) (Y12) i (a) true (rdA (X (i + 1)) (X i 12).toNat (a) ((X i 12).toNat + 1) (s0R (a))))))))))) ∧ ((r13 = true) → (∀ X24 : Nat → Int → Int, X24 = zU X11 (i + 3) (0) (X11 (i) 18) → (∀ i j, rI (X24 i j)) → (((r13 = true) → ((((X24 (i) 18) ≤ 0) → (∀ X27 : Nat → Int → Int, X27 = zU X24 (i + 4) (0) ((-1)) → (∀ i j, rI (X27 i j)) → (((¬ (X27 (i + 3) (0)) = 0) → (rtK X (X27) Y (Y12) i ∧ rtR (X27) (Y12) i (a) false (rdA (X (i + 1)) (X i 12).toNat (a) ((X i 12).toNat + 1) (s0R (a))))) ∧ ((¬ (¬ (X27 (i + 3) (0)) = 0)) → (rtK X (X27) Y (Y12) i ∧ rtR (X27) (Y12) i (a) true (rdA (X (i + 1)) (X i 12).toNat (a) ((X i 12).toNat + 1) (s0R (a)))))))) ∧ ((¬ ((X24 (i) 18) ≤ 0)) → (∀ X29 : Nat → Int → Int, X29 = zU X24 (i + 4) (0) (X24 (i) 19) → (∀ i j, rI (X29 i j)) → (((¬ (X29 (i + 3) (0)) = 0) → (rtK X (X29) Y (Y12) i ∧ rtR (X29) (Y12) i (a) false (rdA (X (i + 1)) (X i 12).toNat (a) ((X i 12).toNat + 1) (s0R (a))))) ∧ ((¬ (¬ (X29 (i + 3) (0)) = 0)) → (rtK X (X29) Y (Y12) i ∧ rtR (X29) (Y12) i (a) true (rdA (X (i + 1)) (X i 12).toNat (a) ((X i 12).toNat + 1) (s0R (a)))))))))) ∧ ((r13 = false) → (∀ X31 : Nat → Int → Int, X31 = zU X24 (i + 4) (0) (X24 (i) 17) → (∀ i j, rI (X31 i j)) → (((¬ (X31 (i + 3) (0)) = 0) → (rtK X (X31) Y (Y12) i ∧ rtR (X31) (Y12) i (a) false (rdA (X (i + 1)) (X i 12).toNat (a) ((X i 12).toNat + 1) (s0R (a))))) ∧ ((¬ (¬ (X31 (i + 3) (0)) = 0)) → (rtK X (X31) Y (Y12) i ∧ rtR (X31) (Y12) i (a) true (rdA (X (i + 1)) (X i 12).toNat (a) ((X i 12).toNat + 1) (s0R (a)))))))))))))))))))) ∧ ((¬ (183 ≤ j)) → (((a = 0) → (((¬ j = 0) → (((3 ≤ j) → (((¬ j = 5) → ((0 ≤ j ∧ j < 183) ∧ (∀ X38 : Nat → Int → Int, X38 = zU X2 (i + 11) (j) (0) → (∀ i j, rI (X38 i j)) → ((rI (j + 1)) ∧ (∃ q : Nat, j + 1 = q ∧ q ≤ 183 ∧ (∀ z, z ≠ i + 11 → X38 z = X z) ∧ ∀ y : Int, 0 ≤ y → y < q → X38 (i + 11) y = d0R a y) ∧ (((183 - (j + 1)).toNat) < ((183 - (j)).toNat)))))) ∧ ((¬ (¬ j = 5)) → ((0 ≤ j ∧ j < 183) ∧ (∀ X41 : Nat → Int → Int, X41 = zU X2 (i + 11) (j) (5) → (∀ i j, rI (X41 i j)) → ((rI (j + 1)) ∧ (∃ q : Nat, j + 1 = q ∧ q ≤ 183 ∧ (∀ z, z ≠ i + 11 → X41 z = X z) ∧ ∀ y : Int, 0 ≤ y → y < q → X41 (i + 11) y = d0R a y) ∧ (((183 - (j + 1)).toNat) < ((183 - (j)).toNat)))))))) ∧ ((¬ (3 ≤ j)) → ((0 ≤ j ∧ j < 183) ∧ (∀ X44 : Nat → Int → Int, X44 = zU X2 (i + 11) (j) (10) → (∀ i j, rI (X44 i j)) → ((rI (j + 1)) ∧ (∃ q : Nat, j + 1 = q ∧ q ≤ 183 ∧ (∀ z, z ≠ i + 11 → X44 z = X z) ∧ ∀ y : Int, 0 ≤ y → y < q → X44 (i + 11) y = d0R a y) ∧ (((183 - (j + 1)).toNat) < ((183 - (j)).toNat)))))))) ∧ ((¬ (¬ j = 0)) → ((0 ≤ j ∧ j < 183) ∧ (∀ X47 : Nat → Int → Int, X47 = zU X2 (i + 11) (j) (2) → (∀ i j, rI (X47 i j)) → ((rI (j + 1)) ∧ (∃ q : Nat, j + 1 = q ∧ q ≤ 183 ∧ (∀ z, z ≠ i + 11 → X47 z = X z) ∧ ∀ y : Int, 0 ≤ y → y < q → X47 (i + 11) y = d0R a y) ∧ (((183 - (j + 1)).toNat) < ((183 - (j)).toNat)))))))) ∧ ((¬ (a = 0)) → ((0 ≤ j ∧ j < 183) ∧ (∀ X50 : Nat → Int → Int, X50 = zU X2 (i + 11) (j) (0) → (∀ i j, rI (X50 i j)) → ((rI (j + 1)) ∧ (∃ q : Nat, j + 1 = q ∧ q ≤ 183 ∧ (∀ z, z ≠ i + 11 → X50 z = X z) ∧ ∀ y : Int, 0 ≤ y → y < q → X50 (i + 11) y = d0R a y) ∧ (((183 - (j + 1)).toNat) < ((183 - (j)).toNat))))))))))
set_option maxHeartbeats 4000000 in
set_option maxRecDepth 100000 in
theorem w_X11_readText {l : Launch} {D : va_G} {cy : Nat → ClassId} {bs N : Nat} {sa : Nat → Nat} {kd len : Nat → Nat} {X Y : Nat → Int → Int} {R : Nat → Int → Option Nat} {i : Nat} (hM : zM N kd len R i) (a : Int) (ha : rI a) (hF : F_X11_readText i X Y R a) : Met l yX11_readText (.code yX11_readText cX11_readText 3 (some .boolean) :: zTB) (zRm 8 186) (zPc D cy bs sa N kd len X Y R [.ref (bs + (i)), .int (zI (a))]) (zQi D cy bs N kd len (fun r st => st.2.2 = R ∧ ∃ rb : Bool, r = bz rb ∧ (rtK X (st.1) Y (st.2.1) i ∧ rtR (st.1) (st.2.1) i (a) rb (rdA (X (i + 1)) (X i 12).toNat (a) ((X i 12).toNat + 1) (s0R (a)))))) 0 0 (zA bs) := by
  refine zstart (by decide) (Nat.le_of_ble_eq_true rfl) ?_
  intro p e s m args below meth c ls C hE hH hr hlk hnm hl hargs
  have hF := hF hH.2.2.1 hH.2.2.2
  have hS : va_S (zA bs) s.heap s.heap [] := va_S.rf
  have hl : lv_has ls 3 [(0, .ref (bs + (i))), (1, .int (zI (a)))] := hl
  refine zd_iconst C dX11_readText_0 ?_
  refine lv_istore_n (lv' := [(2, .int (zI (0))), (0, .ref (bs + (i))), (1, .int (zI (a)))]) C.1 C.2.1 dX11_readText_1 rfl hl (by decide) rfl (fun ls hl => ?_)
  obtain ⟨hI1, hF⟩ := hF
  have L1 : ∀ (fu : Nat) (j : Int) (X2 : Nat → Int → Int), rI j → (∃ q : Nat, j = q ∧ q ≤ 183 ∧ (∀ z, z ≠ i + 11 → X2 z = X z) ∧ ∀ y : Int, 0 ≤ y → y < q → X2 (i + 11) y = d0R a y) → ((183 - (j)).toNat) < fu → ∀ (H : Heap) (locs : List Loc) (ls : Array Slot), zH D cy bs N kd len X2 Y R H → va_S (zA bs) s.heap H locs → lv_has ls 3 [(2, .int (zI (j))), (0, .ref (bs + (i))), (1, .int (zI (a)))] → W p l e (zRm 8 186) s m args below meth c H locs 0 0 (MQ below (zQi D cy bs N kd len (fun r st => st.2.2 = R ∧ ∃ rb : Bool, r = bz rb ∧ (rtK X (st.1) Y (st.2.1) i ∧ rtR (st.1) (st.2.1) i (a) rb (rdA (X (i + 1)) (X i 12).toNat (a) ((X i 12).toNat + 1) (s0R (a)))))) args s 0 0 (zA bs)) (F0 m 2 ls []) := by
    intro fu
    induction fu with
    | zero => intro j X2 _ _ hmu; exact absurd hmu (Nat.not_lt_zero _)
    | succ fu ih1 =>
      intro j X2 hj hI hmu1 H locs ls hH hS hl
      have hF := hF j X2 hj hH.2.2.1 hI
      refine lv_iload_n C.1 C.2.1 dX11_readText_2 rfl (lv_at hl 0 rfl) ?_
      refine zd_sipush C (by decide) dX11_readText_3 ?_
      refine zd_icmp_ge C hj (by decide) 57 dX11_readText_6 (by decide) (fun c3 => ?_) (fun c3 => ?_)
      · have hF := hF.1 c3
        refine lv_aload_n C.1 C.2.1 dX11_readText_57 rfl (lv_at hl 1 rfl) ?_
        refine zd_iconst C dX11_readText_58 ?_
        refine zp11_23 C hH hS (zM_n0 hM) (zM_k0 hM) q_1310 (by decide) dX11_readText_59 (fun H locs hH hS => ?_)
        obtain ⟨X4, eX4⟩ : ∃ z, z = zU X2 (i) 23 (0) := ⟨_, rfl⟩
        rw [← eX4] at hH
        have hF := hF X4 eX4 hH.2.2.1
        refine lv_aload_n C.1 C.2.1 dX11_readText_62 rfl (lv_at hl 1 rfl) ?_
        refine zd_iconst C dX11_readText_63 ?_
        refine zp11_11 C hH hS (zM_n0 hM) (zM_k0 hM) q_1298 (by decide) dX11_readText_64 (fun H locs hH hS => ?_)
        obtain ⟨X5, eX5⟩ : ∃ z, z = zU X4 (i) 11 (0) := ⟨_, rfl⟩
        rw [← eX5] at hH
        have hF := hF X5 eX5 hH.2.2.1
        refine lv_aload_n C.1 C.2.1 dX11_readText_67 rfl (lv_at hl 1 rfl) ?_
        refine zd_iconst C dX11_readText_68 ?_
        refine zp11_18 C hH hS (zM_n0 hM) (zM_k0 hM) q_1305 (by decide) dX11_readText_69 (fun H locs hH hS => ?_)
        obtain ⟨X6, eX6⟩ : ∃ z, z = zU X5 (i) 18 (0) := ⟨_, rfl⟩
        rw [← eX6] at hH
        have hF := hF X6 eX6 hH.2.2.1
        refine lv_aload_n C.1 C.2.1 dX11_readText_72 rfl (lv_at hl 1 rfl) ?_
        obtain ⟨o7, hF⟩ := hF
        refine zgov (zrunV (As := []) (rest := []) C hE hH hS hl.1 (c_X11_token (l := l) hM  o7) k_RX11_152 ⟨Nat.le_of_ble_eq_true rfl, Nat.le_of_ble_eq_true rfl⟩ (zM_n0 hM) (zM_k0 hM) rfl rfl rfl (Nat.le_of_ble_eq_true rfl) dX11_readText_73 ⟨Nat.zero_le _, Nat.zero_le _⟩) hS (fun X8 Y9 Rq H locs hq hH hS => ?_)
        obtain ⟨h9R, hq⟩ := hq
        dsimp only at h9R
        rw [h9R] at hH
        have hF := hF X8 hH.2.2.1 Y9 hH.2.2.2 hq
        refine lv_aload_n C.1 C.2.1 dX11_readText_76 rfl (lv_at hl 1 rfl) ?_
        refine lv_iload_n C.1 C.2.1 dX11_readText_77 rfl (lv_at hl 2 rfl) ?_
        obtain ⟨o10, hF⟩ := hF
        refine zgoi (zrunV (As := [.int (zI (a))]) (rest := []) C hE hH hS hl.1 (c_X11_allLines (l := l) hM (a) ha o10) k_RX11_233 ⟨Nat.le_of_ble_eq_true rfl, Nat.le_of_ble_eq_true rfl⟩ (zM_n0 hM) (zM_k0 hM) rfl rfl rfl (Nat.le_of_ble_eq_true rfl) dX11_readText_78 ⟨Nat.zero_le _, Nat.zero_le _⟩) hS (fun rq X11 Y12 Rq H locs hrq hq hH hS => ?_)
        obtain ⟨h9R, hq⟩ := hq
        dsimp only at h9R
        rw [h9R] at hH
        obtain ⟨r13, h91, hq⟩ := hq
        subst h91
        have hF := hF r13 X11 hH.2.2.1 Y12 hH.2.2.2 hq
        refine lv_istore_n (lv' := [(2, .int (zI (bz (r13)))), (0, .ref (bs + (i))), (1, .int (zI (a)))]) C.1 C.2.1 dX11_readText_81 rfl hl (by decide) rfl (fun ls hl => ?_)
        refine lv_aload_n C.1 C.2.1 dX11_readText_82 rfl (lv_at hl 1 rfl) ?_
        refine zg11_3 C hH (zM_n0 hM) (zM_k0 hM) q_1290 (zM_r3 hM) dX11_readText_83 ?_
        refine zd_iconst C dX11_readText_86 ?_
        refine lv_iload_n C.1 C.2.1 dX11_readText_87 rfl (lv_at hl 0 rfl) ?_
        refine zd_ifB_eq C 98 dX11_readText_88 (by decide) (fun c14 => ?_) (fun c14 => ?_)
        · have hF := hF.1 c14
          refine zd_iconst C dX11_readText_98 ?_
          refine zd_iast C hH hS (zM_n3 hM) (zM_k3 hM) (by decide) (by rw [zM_l3 hM]; decide) (by rw [zM_l3 hM]; decide) (by decide) dX11_readText_99 (fun H locs hH hS => ?_)
          obtain ⟨X15, eX15⟩ : ∃ z, z = zU X11 (i + 3) (0) (1) := ⟨_, rfl⟩
          rw [← eX15] at hH
          have hF := hF X15 eX15 hH.2.2.1
          refine lv_aload_n C.1 C.2.1 dX11_readText_100 rfl (lv_at hl 1 rfl) ?_
          refine zg11_4 C hH (zM_n0 hM) (zM_k0 hM) q_1291 (zM_r4 hM) dX11_readText_101 ?_
          refine zd_iconst C dX11_readText_104 ?_
          refine lv_iload_n C.1 C.2.1 dX11_readText_105 rfl (lv_at hl 0 rfl) ?_
          refine zd_ifB_ne C 116 dX11_readText_106 (by decide) (fun c16 => ?_) (fun c16 => ?_)
          · have hF := hF.1 c16
            refine lv_aload_n C.1 C.2.1 dX11_readText_116 rfl (lv_at hl 1 rfl) ?_
            refine zg11_18 C hH (zM_n0 hM) (zM_k0 hM) q_1305 dX11_readText_117 ?_
            refine zd_if_le C (hH.2.2.1 _ _) 130 dX11_readText_120 (by decide) (fun c17 => ?_) (fun c17 => ?_)
            · have hF := hF.1 c17
              refine zd_iconst C dX11_readText_130 ?_
              refine zd_iast C hH hS (zM_n4 hM) (zM_k4 hM) (by decide) (by rw [zM_l4 hM]; decide) (by rw [zM_l4 hM]; decide) (by decide) dX11_readText_131 (fun H locs hH hS => ?_)
              obtain ⟨X18, eX18⟩ : ∃ z, z = zU X15 (i + 4) (0) ((-1)) := ⟨_, rfl⟩
              rw [← eX18] at hH
              have hF := hF X18 eX18 hH.2.2.1
              refine lv_aload_n C.1 C.2.1 dX11_readText_132 rfl (lv_at hl 1 rfl) ?_
              refine zg11_3 C hH (zM_n0 hM) (zM_k0 hM) q_1290 (zM_r3 hM) dX11_readText_133 ?_
              refine zd_iconst C dX11_readText_136 ?_
              refine zd_iald C hH (zM_n3 hM) (zM_k3 hM) (by decide) (by rw [zM_l3 hM]; decide) (by rw [zM_l3 hM]; decide) dX11_readText_137 ?_
              refine zd_if_ne C (hH.2.2.1 _ _) 145 dX11_readText_138 (by decide) (fun c19 => ?_) (fun c19 => ?_)
              · have hF := hF.1 c19
                refine zd_iconst C dX11_readText_145 ?_
                exact zd_zret C hr hlk hH hS (by decide) (⟨rfl, _, rfl, hF⟩) dX11_readText_146
              · have hF := hF.2 c19
                refine zd_iconst C dX11_readText_141 ?_
                refine lv_goto (tgt := 146) C.1 C.2.1 dX11_readText_142 (by decide) ?_
                exact zd_zret C hr hlk hH hS (by decide) (⟨rfl, _, rfl, hF⟩) dX11_readText_146
            · have hF := hF.2 c17
              refine lv_aload_n C.1 C.2.1 dX11_readText_123 rfl (lv_at hl 1 rfl) ?_
              refine zg11_19 C hH (zM_n0 hM) (zM_k0 hM) q_1306 dX11_readText_124 ?_
              refine lv_goto (tgt := 131) C.1 C.2.1 dX11_readText_127 (by decide) ?_
              refine zd_iast C hH hS (zM_n4 hM) (zM_k4 hM) (by decide) (by rw [zM_l4 hM]; decide) (by rw [zM_l4 hM]; decide) (hH.2.2.1 _ _) dX11_readText_131 (fun H locs hH hS => ?_)
              obtain ⟨X20, eX20⟩ : ∃ z, z = zU X15 (i + 4) (0) (X15 (i) 19) := ⟨_, rfl⟩
              rw [← eX20] at hH
              have hF := hF X20 eX20 hH.2.2.1
              refine lv_aload_n C.1 C.2.1 dX11_readText_132 rfl (lv_at hl 1 rfl) ?_
              refine zg11_3 C hH (zM_n0 hM) (zM_k0 hM) q_1290 (zM_r3 hM) dX11_readText_133 ?_
              refine zd_iconst C dX11_readText_136 ?_
              refine zd_iald C hH (zM_n3 hM) (zM_k3 hM) (by decide) (by rw [zM_l3 hM]; decide) (by rw [zM_l3 hM]; decide) dX11_readText_137 ?_
              refine zd_if_ne C (hH.2.2.1 _ _) 145 dX11_readText_138 (by decide) (fun c21 => ?_) (fun c21 => ?_)
              · have hF := hF.1 c21
                refine zd_iconst C dX11_readText_145 ?_
                exact zd_zret C hr hlk hH hS (by decide) (⟨rfl, _, rfl, hF⟩) dX11_readText_146
              · have hF := hF.2 c21
                refine zd_iconst C dX11_readText_141 ?_
                refine lv_goto (tgt := 146) C.1 C.2.1 dX11_readText_142 (by decide) ?_
                exact zd_zret C hr hlk hH hS (by decide) (⟨rfl, _, rfl, hF⟩) dX11_readText_146
          · have hF := hF.2 c16
            refine lv_aload_n C.1 C.2.1 dX11_readText_109 rfl (lv_at hl 1 rfl) ?_
            refine zg11_17 C hH (zM_n0 hM) (zM_k0 hM) q_1304 dX11_readText_110 ?_
            refine lv_goto (tgt := 131) C.1 C.2.1 dX11_readText_113 (by decide) ?_
            refine zd_iast C hH hS (zM_n4 hM) (zM_k4 hM) (by decide) (by rw [zM_l4 hM]; decide) (by rw [zM_l4 hM]; decide) (hH.2.2.1 _ _) dX11_readText_131 (fun H locs hH hS => ?_)
            obtain ⟨X22, eX22⟩ : ∃ z, z = zU X15 (i + 4) (0) (X15 (i) 17) := ⟨_, rfl⟩
            rw [← eX22] at hH
            have hF := hF X22 eX22 hH.2.2.1
            refine lv_aload_n C.1 C.2.1 dX11_readText_132 rfl (lv_at hl 1 rfl) ?_
            refine zg11_3 C hH (zM_n0 hM) (zM_k0 hM) q_1290 (zM_r3 hM) dX11_readText_133 ?_
            refine zd_iconst C dX11_readText_136 ?_
            refine zd_iald C hH (zM_n3 hM) (zM_k3 hM) (by decide) (by rw [zM_l3 hM]; decide) (by rw [zM_l3 hM]; decide) dX11_readText_137 ?_
            refine zd_if_ne C (hH.2.2.1 _ _) 145 dX11_readText_138 (by decide) (fun c23 => ?_) (fun c23 => ?_)
            · have hF := hF.1 c23
              refine zd_iconst C dX11_readText_145 ?_
              exact zd_zret C hr hlk hH hS (by decide) (⟨rfl, _, rfl, hF⟩) dX11_readText_146
            · have hF := hF.2 c23
              refine zd_iconst C dX11_readText_141 ?_
              refine lv_goto (tgt := 146) C.1 C.2.1 dX11_readText_142 (by decide) ?_
              exact zd_zret C hr hlk hH hS (by decide) (⟨rfl, _, rfl, hF⟩) dX11_readText_146
        · have hF := hF.2 c14
          refine lv_aload_n C.1 C.2.1 dX11_readText_91 rfl (lv_at hl 1 rfl) ?_
          refine zg11_18 C hH (zM_n0 hM) (zM_k0 hM) q_1305 dX11_readText_92 ?_
          refine lv_goto (tgt := 99) C.1 C.2.1 dX11_readText_95 (by decide) ?_
          refine zd_iast C hH hS (zM_n3 hM) (zM_k3 hM) (by decide) (by rw [zM_l3 hM]; decide) (by rw [zM_l3 hM]; decide) (hH.2.2.1 _ _) dX11_readText_99 (fun H locs hH hS => ?_)
          obtain ⟨X24, eX24⟩ : ∃ z, z = zU X11 (i + 3) (0) (X11 (i) 18) := ⟨_, rfl⟩
          rw [← eX24] at hH
          have hF := hF X24 eX24 hH.2.2.1
          refine lv_aload_n C.1 C.2.1 dX11_readText_100 rfl (lv_at hl 1 rfl) ?_
          refine zg11_4 C hH (zM_n0 hM) (zM_k0 hM) q_1291 (zM_r4 hM) dX11_readText_101 ?_
          refine zd_iconst C dX11_readText_104 ?_
          refine lv_iload_n C.1 C.2.1 dX11_readText_105 rfl (lv_at hl 0 rfl) ?_
          refine zd_ifB_ne C 116 dX11_readText_106 (by decide) (fun c25 => ?_) (fun c25 => ?_)
          · have hF := hF.1 c25
            refine lv_aload_n C.1 C.2.1 dX11_readText_116 rfl (lv_at hl 1 rfl) ?_
            refine zg11_18 C hH (zM_n0 hM) (zM_k0 hM) q_1305 dX11_readText_117 ?_
            refine zd_if_le C (hH.2.2.1 _ _) 130 dX11_readText_120 (by decide) (fun c26 => ?_) (fun c26 => ?_)
            · have hF := hF.1 c26
              refine zd_iconst C dX11_readText_130 ?_
              refine zd_iast C hH hS (zM_n4 hM) (zM_k4 hM) (by decide) (by rw [zM_l4 hM]; decide) (by rw [zM_l4 hM]; decide) (by decide) dX11_readText_131 (fun H locs hH hS => ?_)
              obtain ⟨X27, eX27⟩ : ∃ z, z = zU X24 (i + 4) (0) ((-1)) := ⟨_, rfl⟩
              rw [← eX27] at hH
              have hF := hF X27 eX27 hH.2.2.1
              refine lv_aload_n C.1 C.2.1 dX11_readText_132 rfl (lv_at hl 1 rfl) ?_
              refine zg11_3 C hH (zM_n0 hM) (zM_k0 hM) q_1290 (zM_r3 hM) dX11_readText_133 ?_
              refine zd_iconst C dX11_readText_136 ?_
              refine zd_iald C hH (zM_n3 hM) (zM_k3 hM) (by decide) (by rw [zM_l3 hM]; decide) (by rw [zM_l3 hM]; decide) dX11_readText_137 ?_
              refine zd_if_ne C (hH.2.2.1 _ _) 145 dX11_readText_138 (by decide) (fun c28 => ?_) (fun c28 => ?_)
              · have hF := hF.1 c28
                refine zd_iconst C dX11_readText_145 ?_
                exact zd_zret C hr hlk hH hS (by decide) (⟨rfl, _, rfl, hF⟩) dX11_readText_146
              · have hF := hF.2 c28
                refine zd_iconst C dX11_readText_141 ?_
                refine lv_goto (tgt := 146) C.1 C.2.1 dX11_readText_142 (by decide) ?_
                exact zd_zret C hr hlk hH hS (by decide) (⟨rfl, _, rfl, hF⟩) dX11_readText_146
            · have hF := hF.2 c26
              refine lv_aload_n C.1 C.2.1 dX11_readText_123 rfl (lv_at hl 1 rfl) ?_
              refine zg11_19 C hH (zM_n0 hM) (zM_k0 hM) q_1306 dX11_readText_124 ?_
              refine lv_goto (tgt := 131) C.1 C.2.1 dX11_readText_127 (by decide) ?_
              refine zd_iast C hH hS (zM_n4 hM) (zM_k4 hM) (by decide) (by rw [zM_l4 hM]; decide) (by rw [zM_l4 hM]; decide) (hH.2.2.1 _ _) dX11_readText_131 (fun H locs hH hS => ?_)
              obtain ⟨X29, eX29⟩ : ∃ z, z = zU X24 (i + 4) (0) (X24 (i) 19) := ⟨_, rfl⟩
              rw [← eX29] at hH
              have hF := hF X29 eX29 hH.2.2.1
              refine lv_aload_n C.1 C.2.1 dX11_readText_132 rfl (lv_at hl 1 rfl) ?_
              refine zg11_3 C hH (zM_n0 hM) (zM_k0 hM) q_1290 (zM_r3 hM) dX11_readText_133 ?_
              refine zd_iconst C dX11_readText_136 ?_
              refine zd_iald C hH (zM_n3 hM) (zM_k3 hM) (by decide) (by rw [zM_l3 hM]; decide) (by rw [zM_l3 hM]; decide) dX11_readText_137 ?_
              refine zd_if_ne C (hH.2.2.1 _ _) 145 dX11_readText_138 (by decide) (fun c30 => ?_) (fun c30 => ?_)
              · have hF := hF.1 c30
                refine zd_iconst C dX11_readText_145 ?_
                exact zd_zret C hr hlk hH hS (by decide) (⟨rfl, _, rfl, hF⟩) dX11_readText_146
              · have hF := hF.2 c30
                refine zd_iconst C dX11_readText_141 ?_
                refine lv_goto (tgt := 146) C.1 C.2.1 dX11_readText_142 (by decide) ?_
                exact zd_zret C hr hlk hH hS (by decide) (⟨rfl, _, rfl, hF⟩) dX11_readText_146
          · have hF := hF.2 c25
            refine lv_aload_n C.1 C.2.1 dX11_readText_109 rfl (lv_at hl 1 rfl) ?_
            refine zg11_17 C hH (zM_n0 hM) (zM_k0 hM) q_1304 dX11_readText_110 ?_
            refine lv_goto (tgt := 131) C.1 C.2.1 dX11_readText_113 (by decide) ?_
            refine zd_iast C hH hS (zM_n4 hM) (zM_k4 hM) (by decide) (by rw [zM_l4 hM]; decide) (by rw [zM_l4 hM]; decide) (hH.2.2.1 _ _) dX11_readText_131 (fun H locs hH hS => ?_)
            obtain ⟨X31, eX31⟩ : ∃ z, z = zU X24 (i + 4) (0) (X24 (i) 17) := ⟨_, rfl⟩
            rw [← eX31] at hH
            have hF := hF X31 eX31 hH.2.2.1
            refine lv_aload_n C.1 C.2.1 dX11_readText_132 rfl (lv_at hl 1 rfl) ?_
            refine zg11_3 C hH (zM_n0 hM) (zM_k0 hM) q_1290 (zM_r3 hM) dX11_readText_133 ?_
            refine zd_iconst C dX11_readText_136 ?_
            refine zd_iald C hH (zM_n3 hM) (zM_k3 hM) (by decide) (by rw [zM_l3 hM]; decide) (by rw [zM_l3 hM]; decide) dX11_readText_137 ?_
            refine zd_if_ne C (hH.2.2.1 _ _) 145 dX11_readText_138 (by decide) (fun c32 => ?_) (fun c32 => ?_)
            · have hF := hF.1 c32
              refine zd_iconst C dX11_readText_145 ?_
              exact zd_zret C hr hlk hH hS (by decide) (⟨rfl, _, rfl, hF⟩) dX11_readText_146
            · have hF := hF.2 c32
              refine zd_iconst C dX11_readText_141 ?_
              refine lv_goto (tgt := 146) C.1 C.2.1 dX11_readText_142 (by decide) ?_
              exact zd_zret C hr hlk hH hS (by decide) (⟨rfl, _, rfl, hF⟩) dX11_readText_146
      · have hF := hF.2 c3
        refine lv_aload_n C.1 C.2.1 dX11_readText_9 rfl (lv_at hl 1 rfl) ?_
        refine zg11_20 C hH (zM_n0 hM) (zM_k0 hM) q_1307 (zM_r11 hM) dX11_readText_10 ?_
        refine lv_iload_n C.1 C.2.1 dX11_readText_13 rfl (lv_at hl 0 rfl) ?_
        refine lv_iload_n C.1 C.2.1 dX11_readText_14 rfl (lv_at hl 2 rfl) ?_
        refine zd_if_eq C ha 22 dX11_readText_15 (by decide) (fun c33 => ?_) (fun c33 => ?_)
        · have hF := hF.1 c33
          refine lv_iload_n C.1 C.2.1 dX11_readText_22 rfl (lv_at hl 0 rfl) ?_
          refine zd_if_ne C hj 30 dX11_readText_23 (by decide) (fun c34 => ?_) (fun c34 => ?_)
          · have hF := hF.1 c34
            refine lv_iload_n C.1 C.2.1 dX11_readText_30 rfl (lv_at hl 0 rfl) ?_
            refine zd_iconst C dX11_readText_31 ?_
            refine zd_icmp_ge C hj (by decide) 40 dX11_readText_32 (by decide) (fun c35 => ?_) (fun c35 => ?_)
            · have hF := hF.1 c35
              refine lv_iload_n C.1 C.2.1 dX11_readText_40 rfl (lv_at hl 0 rfl) ?_
              refine zd_iconst C dX11_readText_41 ?_
              refine zd_icmp_ne C hj (by decide) 49 dX11_readText_42 (by decide) (fun c36 => ?_) (fun c36 => ?_)
              · have hF := hF.1 c36
                refine zd_iconst C dX11_readText_49 ?_
                obtain ⟨o37, hF⟩ := hF
                refine zd_iast C hH hS (zM_n11 hM) (zM_k11 hM) o37.1 (by rw [zM_l11 hM]; exact o37.2) (by rw [zM_l11 hM]; decide) (by decide) dX11_readText_50 (fun H locs hH hS => ?_)
                obtain ⟨X38, eX38⟩ : ∃ z, z = zU X2 (i + 11) (j) (0) := ⟨_, rfl⟩
                rw [← eX38] at hH
                have hF := hF X38 eX38 hH.2.2.1
                refine zd_iinc (k := 0) (lv' := [(2, .int (zI (j + 1))), (0, .ref (bs + (i))), (1, .int (zI (a)))]) C hl rfl dX11_readText_51 (by decide) rfl (fun ls hl => ?_)
                refine lv_goto (tgt := 2) C.1 C.2.1 dX11_readText_54 (by decide) ?_
                obtain ⟨o39, hF⟩ := hF
                exact ih1 (j + 1) X38 o39 hF.1 (Nat.lt_of_lt_of_le hF.2 (Nat.le_of_lt_succ hmu1)) _ _ _ hH hS (lv_sub hl [0, 1, 2] rfl)
              · have hF := hF.2 c36
                refine zd_iconst C dX11_readText_45 ?_
                refine lv_goto (tgt := 50) C.1 C.2.1 dX11_readText_46 (by decide) ?_
                obtain ⟨o40, hF⟩ := hF
                refine zd_iast C hH hS (zM_n11 hM) (zM_k11 hM) o40.1 (by rw [zM_l11 hM]; exact o40.2) (by rw [zM_l11 hM]; decide) (by decide) dX11_readText_50 (fun H locs hH hS => ?_)
                obtain ⟨X41, eX41⟩ : ∃ z, z = zU X2 (i + 11) (j) (5) := ⟨_, rfl⟩
                rw [← eX41] at hH
                have hF := hF X41 eX41 hH.2.2.1
                refine zd_iinc (k := 0) (lv' := [(2, .int (zI (j + 1))), (0, .ref (bs + (i))), (1, .int (zI (a)))]) C hl rfl dX11_readText_51 (by decide) rfl (fun ls hl => ?_)
                refine lv_goto (tgt := 2) C.1 C.2.1 dX11_readText_54 (by decide) ?_
                obtain ⟨o42, hF⟩ := hF
                exact ih1 (j + 1) X41 o42 hF.1 (Nat.lt_of_lt_of_le hF.2 (Nat.le_of_lt_succ hmu1)) _ _ _ hH hS (lv_sub hl [0, 1, 2] rfl)
            · have hF := hF.2 c35
              refine zd_bipush C (by decide) dX11_readText_35 ?_
              refine lv_goto (tgt := 50) C.1 C.2.1 dX11_readText_37 (by decide) ?_
              obtain ⟨o43, hF⟩ := hF
              refine zd_iast C hH hS (zM_n11 hM) (zM_k11 hM) o43.1 (by rw [zM_l11 hM]; exact o43.2) (by rw [zM_l11 hM]; decide) (by decide) dX11_readText_50 (fun H locs hH hS => ?_)
              obtain ⟨X44, eX44⟩ : ∃ z, z = zU X2 (i + 11) (j) (10) := ⟨_, rfl⟩
              rw [← eX44] at hH
              have hF := hF X44 eX44 hH.2.2.1
              refine zd_iinc (k := 0) (lv' := [(2, .int (zI (j + 1))), (0, .ref (bs + (i))), (1, .int (zI (a)))]) C hl rfl dX11_readText_51 (by decide) rfl (fun ls hl => ?_)
              refine lv_goto (tgt := 2) C.1 C.2.1 dX11_readText_54 (by decide) ?_
              obtain ⟨o45, hF⟩ := hF
              exact ih1 (j + 1) X44 o45 hF.1 (Nat.lt_of_lt_of_le hF.2 (Nat.le_of_lt_succ hmu1)) _ _ _ hH hS (lv_sub hl [0, 1, 2] rfl)
          · have hF := hF.2 c34
            refine zd_iconst C dX11_readText_26 ?_
            refine lv_goto (tgt := 50) C.1 C.2.1 dX11_readText_27 (by decide) ?_
            obtain ⟨o46, hF⟩ := hF
            refine zd_iast C hH hS (zM_n11 hM) (zM_k11 hM) o46.1 (by rw [zM_l11 hM]; exact o46.2) (by rw [zM_l11 hM]; decide) (by decide) dX11_readText_50 (fun H locs hH hS => ?_)
            obtain ⟨X47, eX47⟩ : ∃ z, z = zU X2 (i + 11) (j) (2) := ⟨_, rfl⟩
            rw [← eX47] at hH
            have hF := hF X47 eX47 hH.2.2.1
            refine zd_iinc (k := 0) (lv' := [(2, .int (zI (j + 1))), (0, .ref (bs + (i))), (1, .int (zI (a)))]) C hl rfl dX11_readText_51 (by decide) rfl (fun ls hl => ?_)
            refine lv_goto (tgt := 2) C.1 C.2.1 dX11_readText_54 (by decide) ?_
            obtain ⟨o48, hF⟩ := hF
            exact ih1 (j + 1) X47 o48 hF.1 (Nat.lt_of_lt_of_le hF.2 (Nat.le_of_lt_succ hmu1)) _ _ _ hH hS (lv_sub hl [0, 1, 2] rfl)
        · have hF := hF.2 c33
          refine zd_iconst C dX11_readText_18 ?_
          refine lv_goto (tgt := 50) C.1 C.2.1 dX11_readText_19 (by decide) ?_
          obtain ⟨o49, hF⟩ := hF
          refine zd_iast C hH hS (zM_n11 hM) (zM_k11 hM) o49.1 (by rw [zM_l11 hM]; exact o49.2) (by rw [zM_l11 hM]; decide) (by decide) dX11_readText_50 (fun H locs hH hS => ?_)
          obtain ⟨X50, eX50⟩ : ∃ z, z = zU X2 (i + 11) (j) (0) := ⟨_, rfl⟩
          rw [← eX50] at hH
          have hF := hF X50 eX50 hH.2.2.1
          refine zd_iinc (k := 0) (lv' := [(2, .int (zI (j + 1))), (0, .ref (bs + (i))), (1, .int (zI (a)))]) C hl rfl dX11_readText_51 (by decide) rfl (fun ls hl => ?_)
          refine lv_goto (tgt := 2) C.1 C.2.1 dX11_readText_54 (by decide) ?_
          obtain ⟨o51, hF⟩ := hF
          exact ih1 (j + 1) X50 o51 hF.1 (Nat.lt_of_lt_of_le hF.2 (Nat.le_of_lt_succ hmu1)) _ _ _ hH hS (lv_sub hl [0, 1, 2] rfl)
  exact L1 (((183 - ((0 : Int))).toNat) + 1) ((0 : Int)) X (by decide) hI1 (Nat.lt_succ_self _) _ _ _ hH hS (lv_sub hl [0, 1, 2] rfl)
theorem v_X11_readText {X Y : Nat → Int → Int} {R : Nat → Int → Option Nat} {i : Nat} (a : Int) (ha : rI a) (hp : (0 ≤ a ∧ a ≤ 4) ∧ oTb X i ∧ 0 ≤ X i 12 ∧ X i 12 ≤ 600) : F_X11_readText i X Y R a := by
  unfold F_X11_readText
  intro hX hY
  obtain ⟨ha4, htb, hl0, hl1⟩ := hp
  refine ⟨?_, ?_⟩
  · exact ⟨0, rfl, by decide, fun _ _ => rfl, fun y y0 y1 => absurd y1 (by omega)⟩
  intro j X2
  intro _
  intro rX2
  intro h1
  obtain ⟨q, hq, q3, o, hd⟩ := h1
  subst hq
  refine ⟨?_, ?_⟩
  · intro c1
    have e3 : q = 183 := by omega
    subst e3
    intro X4
    intro eX4
    intro rX4
    intro X5
    intro eX5
    intro rX5
    intro X6
    intro eX6
    have o6 : ∀ z, z ≠ i → z ≠ i + 11 → X6 z = X z := fun z h1 h2 => by rw [eX6, zU_o h1, eX5, zU_o h1, eX4, zU_o h1, o z h2]
    have n6 : ∀ y, y ≠ 11 → y ≠ 18 → y ≠ 23 → X6 i y = X i y := fun y h1 h2 h3 => by rw [eX6, zU_n (by omega), eX5, zU_n (by omega), eX4, zU_n (by omega), o _ (by omega)]
    have z11 : X6 i 11 = 0 := by rw [eX6, zU_n (by omega), eX5, zU_s]
    have z18 : X6 i 18 = 0 := by rw [eX6, zU_s]
    have z23 : X6 i 23 = 0 := by rw [eX6, zU_n (by omega), eX5, zU_n (by omega), eX4, zU_s]
    have t6 : ∀ y : Int, 0 ≤ y → y < 183 → X6 (i + 11) y = d0R a y := fun y y0 y1 => by
      rw [eX6, zU_o (by omega), eX5, zU_o (by omega), eX4, zU_o (by omega)]
      exact hd y y0 y1
    have r6 : oRd X6 i := by
      refine ⟨fun y y0 y1 => by rw [o6 (i + 1) (by omega) (by omega)]; exact htb y y0 y1, ⟨by rw [z11]; exact Int.le_refl 0, by rw [z11, n6 12 (by decide) (by decide) (by decide)]; exact hl0⟩, by rw [n6 12 (by decide) (by decide) (by decide)]; exact hl1⟩
    intro rX6
    refine ⟨?_, ?_⟩
    · exact r6
    intro X8
    intro rX8
    intro Y9
    intro rY9
    intro h2
    obtain ⟨_, r8, k68, u8, _, w8, _, g82, g81, _⟩ := fu_st (c := false) (b := 0) r6 rfl h2
    have f81 : X8 (i + 1) = X (i + 1) := g81.trans (o6 _ (by omega) (by omega))
    have f82 : X8 i 12 = X i 12 := g82.trans (n6 12 (by decide) (by decide) (by decide))
    have k8 : rdK X X8 Y Y9 i := rdK.tr ⟨fun z h1 h2 _ => o6 z h1 h2, fun s hs => n6 s (by omega) (by omega) (by omega), fun _ _ => rfl⟩ k68
    have hs0 : rdS X8 Y9 i (s0R a) := by
      refine ⟨⟨Nat.zero_le _, ?_⟩, ⟨by rw [h2.1.2.1 18 (by decide) (by decide) (by decide) (by decide)]; exact z18, fun g => absurd rfl g⟩, fun _ => ⟨fun y y0 y1 => by rw [u8]; exact t6 y y0 y1, by rw [w8]; exact z23⟩⟩
      have h2 := h2.2
      rw [z11] at h2
      unfold tkAt
      rw [g81, g82]
      exact h2
    refine ⟨?_, ?_⟩
    · refine ⟨ha4, r8, bnD_0 (fun y y0 y1 => by rw [u8]; exact t6 y y0 y1) (by rw [w8]; exact z23), s0R a, hs0, ?_⟩
      show (0 : Int) ≠ 182
      decide
    intro r13
    intro X11
    intro rX11
    intro Y12
    intro rY12
    intro h3
    obtain ⟨k11, b11, l11⟩ := h3
    have l := l11 (s0R a) hs0 (show (0 : Int) ≠ 182 by decide)
    rw [f81, f82] at l
    have K := k8.tr k11
    refine ⟨?_, ?_⟩
    · intro c2
      intro X15
      intro eX15
      intro rX15
      refine ⟨?_, ?_⟩
      · intro c3
        rw [c2] at c3
        cases c3
      intro c10
      intro X22
      intro eX22
      intro rX22
      refine ⟨?_, ?_⟩
      · intro c11
        exact rt_fin (f := 1) (pl := X11 i 17) K (by rw [eX22, eX15, zU_o (show i ≠ i + 3 by omega)]) b11 l (by rw [c2, if_neg (by decide)]) (by rw [c2, if_neg (by decide)]) rfl
      intro c12
      exact absurd (Classical.not_not.mp c12) (by rw [eX22, zU_o (by omega), eX15, zU_s]; decide)
    intro c13
    intro X24
    intro eX24
    have o24 : ∀ y, X24 i y = X11 i y := fun y => by rw [eX24, zU_o (by omega)]
    intro rX24
    refine ⟨?_, ?_⟩
    · intro c14
      refine ⟨?_, ?_⟩
      · intro c15
        rw [o24] at c15
        intro X27
        intro eX27
        have e18 : X27 (i + 3) 0 = X11 i 18 := by rw [eX27, zU_o (by omega), eX24, zU_s]
        intro rX27
        refine ⟨?_, ?_⟩
        · intro c16
          rw [e18] at c16
          exact rt_fin (f := X11 i 18) (pl := -1) K (by rw [eX27, eX24]) b11 l (by rw [if_pos c13]) (by rw [if_pos c13, if_neg (by omega)]) (decide_eq_false c16).symm
        intro c17
        rw [e18] at c17
        exact rt_fin (f := X11 i 18) (pl := -1) K (by rw [eX27, eX24]) b11 l (by rw [if_pos c13]) (by rw [if_pos c13, if_neg (by omega)]) (decide_eq_true (Classical.not_not.mp c17)).symm
      intro c18
      rw [o24] at c18
      intro X29
      intro eX29
      have e18 : X29 (i + 3) 0 = X11 i 18 := by rw [eX29, zU_o (by omega), eX24, zU_s]
      intro rX29
      refine ⟨?_, ?_⟩
      · intro c19
        rw [e18] at c19
        exact rt_fin (f := X11 i 18) (pl := X11 i 19) K (by rw [eX29, o24, eX24]) b11 l (by rw [if_pos c13]) (by rw [if_pos c13, if_pos (by omega)]) (decide_eq_false c19).symm
      intro c20
      exact absurd (Classical.not_not.mp c20) (by rw [eX29, zU_o (by omega), eX24, zU_s]; omega)
    intro c21
    rw [c13] at c21
    cases c21
  intro c24
  refine ⟨?_, ?_⟩
  · intro c25
    refine ⟨?_, ?_⟩
    · intro c26
      refine ⟨?_, ?_⟩
      · intro c27
        refine ⟨?_, ?_⟩
        · intro c28
          refine ⟨?_, ?_⟩
          · first | omega | exact ⟨by omega, by omega⟩ | decide | assumption | exact ⟨by omega, by omega, by omega⟩ | exact ⟨by decide, by decide⟩
          intro X38
          intro eX38
          intro rX38
          refine ⟨?_, ?_⟩
          · first | omega | exact ⟨by omega, by omega⟩ | decide | assumption | exact ⟨by omega, by omega, by omega⟩ | exact ⟨by decide, by decide⟩
          refine ⟨?_, ?_⟩
          · refine ⟨q + 1, by omega, by omega, fun z hz => by rw [eX38, zU_o hz]; exact o z hz, fun y y0 y1 => ?_⟩
            rw [eX38, zU_up]
            unfold upI
            split
            · rename_i h
              rw [h]
              unfold d0R
              rw [if_pos c25, if_neg c26, if_neg (by omega), if_neg c28]
            · exact hd y y0 (by omega)
          first | omega | exact ⟨by omega, by omega⟩ | decide | assumption | exact ⟨by omega, by omega, by omega⟩ | exact ⟨by decide, by decide⟩
        intro c29
        refine ⟨?_, ?_⟩
        · first | omega | exact ⟨by omega, by omega⟩ | decide | assumption | exact ⟨by omega, by omega, by omega⟩ | exact ⟨by decide, by decide⟩
        intro X41
        intro eX41
        intro rX41
        refine ⟨?_, ?_⟩
        · first | omega | exact ⟨by omega, by omega⟩ | decide | assumption | exact ⟨by omega, by omega, by omega⟩ | exact ⟨by decide, by decide⟩
        refine ⟨?_, ?_⟩
        · refine ⟨q + 1, by omega, by omega, fun z hz => by rw [eX41, zU_o hz]; exact o z hz, fun y y0 y1 => ?_⟩
          rw [eX41, zU_up]
          unfold upI
          split
          · rename_i h
            rw [h]
            unfold d0R
            rw [if_pos c25, if_neg c26, if_neg (by omega), if_pos (Classical.not_not.mp c29)]
          · exact hd y y0 (by omega)
        first | omega | exact ⟨by omega, by omega⟩ | decide | assumption | exact ⟨by omega, by omega, by omega⟩ | exact ⟨by decide, by decide⟩
      intro c30
      refine ⟨?_, ?_⟩
      · first | omega | exact ⟨by omega, by omega⟩ | decide | assumption | exact ⟨by omega, by omega, by omega⟩ | exact ⟨by decide, by decide⟩
      intro X44
      intro eX44
      intro rX44
      refine ⟨?_, ?_⟩
      · first | omega | exact ⟨by omega, by omega⟩ | decide | assumption | exact ⟨by omega, by omega, by omega⟩ | exact ⟨by decide, by decide⟩
      refine ⟨?_, ?_⟩
      · refine ⟨q + 1, by omega, by omega, fun z hz => by rw [eX44, zU_o hz]; exact o z hz, fun y y0 y1 => ?_⟩
        rw [eX44, zU_up]
        unfold upI
        split
        · rename_i h
          rw [h]
          unfold d0R
          rw [if_pos c25, if_neg c26, if_pos (by omega)]
        · exact hd y y0 (by omega)
      first | omega | exact ⟨by omega, by omega⟩ | decide | assumption | exact ⟨by omega, by omega, by omega⟩ | exact ⟨by decide, by decide⟩
    intro c31
    refine ⟨?_, ?_⟩
    · first | omega | exact ⟨by omega, by omega⟩ | decide | assumption | exact ⟨by omega, by omega, by omega⟩ | exact ⟨by decide, by decide⟩
    intro X47
    intro eX47
    intro rX47
    refine ⟨?_, ?_⟩
    · first | omega | exact ⟨by omega, by omega⟩ | decide | assumption | exact ⟨by omega, by omega, by omega⟩ | exact ⟨by decide, by decide⟩
    refine ⟨?_, ?_⟩
    · refine ⟨q + 1, by omega, by omega, fun z hz => by rw [eX47, zU_o hz]; exact o z hz, fun y y0 y1 => ?_⟩
      rw [eX47, zU_up]
      unfold upI
      split
      · rename_i h
        rw [h]
        unfold d0R
        rw [if_pos c25, if_pos (Classical.not_not.mp c31)]
      · exact hd y y0 (by omega)
    first | omega | exact ⟨by omega, by omega⟩ | decide | assumption | exact ⟨by omega, by omega, by omega⟩ | exact ⟨by decide, by decide⟩
  intro c32
  refine ⟨?_, ?_⟩
  · first | omega | exact ⟨by omega, by omega⟩ | decide | assumption | exact ⟨by omega, by omega, by omega⟩ | exact ⟨by decide, by decide⟩
  intro X50
  intro eX50
  intro rX50
  refine ⟨?_, ?_⟩
  · first | omega | exact ⟨by omega, by omega⟩ | decide | assumption | exact ⟨by omega, by omega, by omega⟩ | exact ⟨by decide, by decide⟩
  refine ⟨?_, ?_⟩
  · refine ⟨q + 1, by omega, by omega, fun z hz => by rw [eX50, zU_o hz]; exact o z hz, fun y y0 y1 => ?_⟩
    rw [eX50, zU_up]
    unfold upI
    split
    · rename_i h
      rw [h]
      unfold d0R
      rw [if_neg c32]
    · exact hd y y0 (by omega)
  first | omega | exact ⟨by omega, by omega⟩ | decide | assumption | exact ⟨by omega, by omega, by omega⟩ | exact ⟨by decide, by decide⟩
theorem c_X11_readText {l : Launch} {D : va_G} {cy : Nat → ClassId} {bs N : Nat} {sa : Nat → Nat} {kd len : Nat → Nat} {X Y : Nat → Int → Int} {R : Nat → Int → Option Nat} {i : Nat} (hM : zM N kd len R i) (a : Int) (ha : rI a) (hp : (0 ≤ a ∧ a ≤ 4) ∧ oTb X i ∧ 0 ≤ X i 12 ∧ X i 12 ≤ 600) : Met l yX11_readText (.code yX11_readText cX11_readText 3 (some .boolean) :: zTB) (zRm 8 186) (zPc D cy bs sa N kd len X Y R [.ref (bs + (i)), .int (zI (a))]) (zQi D cy bs N kd len (fun r st => st.2.2 = R ∧ ∃ rb : Bool, r = bz rb ∧ (rtK X (st.1) Y (st.2.1) i ∧ rtR (st.1) (st.2.1) i (a) rb (rdA (X (i + 1)) (X i 12).toNat (a) ((X i 12).toNat + 1) (s0R (a)))))) 0 0 (zA bs) := w_X11_readText hM a ha (v_X11_readText a ha hp)
