/-! FEES OF A ROW -/
theorem zU_up {X : Nat → Int → Int} {i : Nat} {k v : Int} : zU X i k v i = upI (X i) k v := funext fun b => by
  unfold zU upI
  by_cases h : b = k
  · rw [if_pos ⟨rfl, h⟩, if_pos h]
  · rw [if_neg (fun q => h q.2), if_neg h]
theorem upI_c {A B : Int → Int} (h : eq6 A B) {f v : Int} : eq6 (upI A f v) (upI B f v) := fun y h1 h2 => by
  unfold upI
  split
  · rfl
  · exact h y h1 h2
/-- a digit by sixes, of n, from the left -/
def dg6 (n m j : Nat) : Nat := m / 6 ^ (n - 1 - j) % 6
/-- which are taken, fees so far, what is left -/
def fsU (acc : Int) (pf pt pm pe : Nat → Int) (cnt : Int) (row : Nat → Nat) (L : Int → Int) : Nat → Option (Int × Int × (Int → Int))
  | 0 => some (0, 0, L)
  | q + 1 => match fsU acc pf pt pm pe cnt row L q with
    | none => none
    | some (h, s, M) => if decide ((row q : Int) < cnt) && !mHas h (row q) && (mIn (pf (row q)) 0 (acc - 1) && mIn (pt (row q)) 0 (acc - 1) && decide (pm (row q) + pe (row q) ≤ M (pf (row q)))) then some (zOr h (zShl 1 (row q)), s + pe (row q), upI (upI M (pf (row q)) (M (pf (row q)) - (pm (row q) + pe (row q)))) (pt (row q)) (upI M (pf (row q)) (M (pf (row q)) - (pm (row q) + pe (row q))) (pt (row q)) + pm (row q))) else none
theorem fsU_no {acc : Int} {pf pt pm pe : Nat → Int} {cnt : Int} {row : Nat → Nat} {L : Int → Int} {q : Nat} (h : fsU acc pf pt pm pe cnt row L q = none) : ∀ d, fsU acc pf pt pm pe cnt row L (q + d) = none
  | 0 => h
  | d + 1 => by
    show fsU acc pf pt pm pe cnt row L ((q + d) + 1) = none
    unfold fsU
    rw [fsU_no h d]
theorem fsU_s {acc : Int} {pf pt pm pe : Nat → Int} {cnt : Int} {row : Nat → Nat} {L : Int → Int} {q : Nat} {h s : Int} {M : Int → Int} (e : fsU acc pf pt pm pe cnt row L q = some (h, s, M)) : fsU acc pf pt pm pe cnt row L (q + 1) = if decide ((row q : Int) < cnt) && !mHas h (row q) && (mIn (pf (row q)) 0 (acc - 1) && mIn (pt (row q)) 0 (acc - 1) && decide (pm (row q) + pe (row q) ≤ M (pf (row q)))) then some (zOr h (zShl 1 (row q)), s + pe (row q), upI (upI M (pf (row q)) (M (pf (row q)) - (pm (row q) + pe (row q)))) (pt (row q)) (upI M (pf (row q)) (M (pf (row q)) - (pm (row q) + pe (row q))) (pt (row q)) + pm (row q))) else none := by
  conv => lhs; unfold fsU
  rw [e]
def fsV (acc : Int) (pf pt pm pe : Nat → Int) (cnt : Int) (row : Nat → Nat) (L : Int → Int) (n : Nat) : Int := match fsU acc pf pt pm pe cnt row L n with
  | none => -1
  | some x => x.2.1
theorem fsV_e {acc : Int} {pf pt pm pe : Nat → Int} {cnt : Int} {row : Nat → Nat} {L : Int → Int} {n : Nat} {h s : Int} {M : Int → Int} (e : fsU acc pf pt pm pe cnt row L n = some (h, s, M)) : fsV acc pf pt pm pe cnt row L n = s := by
  unfold fsV
  rw [e]
theorem fsV_n {acc : Int} {pf pt pm pe : Nat → Int} {cnt : Int} {row : Nat → Nat} {L : Int → Int} {n : Nat} (e : fsU acc pf pt pm pe cnt row L n = none) : fsV acc pf pt pm pe cnt row L n = -1 := by
  unfold fsV
  rw [e]
abbrev qF (X : Nat → Int → Int) (i w : Nat) : Nat → Int := fun k => mQf X i k w
abbrev rFs (X : Nat → Int → Int) (i : Nat) (L : Int → Int) (m n : Nat) : Nat → Option (Int × Int × (Int → Int)) := fsU (X i 26) (qF X i 0) (qF X i 1) (qF X i 2) (qF X i 3) (mQn X i) (dg6 n m) L
abbrev rFv (X : Nat → Int → Int) (i : Nat) (L : Int → Int) (m n : Nat) : Int := fsV (X i 26) (qF X i 0) (qF X i 1) (qF X i 2) (qF X i 3) (mQn X i) (dg6 n m) L n
/-- what fees change -/
def pu9 (X X1 : Nat → Int → Int) (i : Nat) : Prop := ∀ z, z ≠ i + 19 → z ≠ i + 20 → X1 z = X z
/-- a told pool, as looked at -/
def oPq (X : Nat → Int → Int) (i : Nat) : Prop := oPo X i ∧ (0 ≤ mQn X i ∧ mQn X i ≤ 6) ∧ ∀ k : Nat, (k : Int) < mQn X i → (0 ≤ qF X i 0 k ∧ qF X i 0 k ≤ 5) ∧ (0 ≤ qF X i 1 k ∧ qF X i 1 k ≤ 5) ∧ (1 ≤ qF X i 2 k ∧ qF X i 2 k ≤ 99) ∧ (0 ≤ qF X i 3 k ∧ qF X i 3 k ≤ 9)
abbrev cX11_feesOf : ByteArray := prog_13_method_89_code
def yX11_feesOf : MethodName := ⟨RX11, "feesOf", "(III)I"⟩
theorem dX11_feesOf_0 : decode cX11_feesOf 0 = .ok (.aload_n 0, 1) := by decide +kernel
theorem dX11_feesOf_1 : decode cX11_feesOf 1 = .ok (.iload_n 1, 1) := by decide +kernel
theorem dX11_feesOf_2 : decode cX11_feesOf 2 = .ok (.invokevirtual 441, 3) := by decide +kernel
theorem dX11_feesOf_5 : decode cX11_feesOf 5 = .ok (.iload_n 3, 1) := by decide +kernel
theorem dX11_feesOf_6 : decode cX11_feesOf 6 = .ok (.istore 4, 2) := by decide +kernel
theorem dX11_feesOf_8 : decode cX11_feesOf 8 = .ok (.iload_n 2, 1) := by decide +kernel
theorem dX11_feesOf_9 : decode cX11_feesOf 9 = .ok (.iconst 1, 1) := by decide +kernel
theorem dX11_feesOf_10 : decode cX11_feesOf 10 = .ok (.isub, 1) := by decide +kernel
theorem dX11_feesOf_11 : decode cX11_feesOf 11 = .ok (.istore 5, 2) := by decide +kernel
theorem dX11_feesOf_13 : decode cX11_feesOf 13 = .ok (.iload 5, 2) := by decide +kernel
theorem dX11_feesOf_15 : decode cX11_feesOf 15 = .ok (.ifCond .lt 28, 3) := by decide +kernel
theorem dX11_feesOf_18 : decode cX11_feesOf 18 = .ok (.aload_n 0, 1) := by decide +kernel
theorem dX11_feesOf_19 : decode cX11_feesOf 19 = .ok (.getfield 69, 3) := by decide +kernel
theorem dX11_feesOf_22 : decode cX11_feesOf 22 = .ok (.iload 5, 2) := by decide +kernel
theorem dX11_feesOf_24 : decode cX11_feesOf 24 = .ok (.iload 4, 2) := by decide +kernel
theorem dX11_feesOf_26 : decode cX11_feesOf 26 = .ok (.bipush 6, 2) := by decide +kernel
theorem dX11_feesOf_28 : decode cX11_feesOf 28 = .ok (.irem, 1) := by decide +kernel
theorem dX11_feesOf_29 : decode cX11_feesOf 29 = .ok (.iastore, 1) := by decide +kernel
theorem dX11_feesOf_30 : decode cX11_feesOf 30 = .ok (.iload 4, 2) := by decide +kernel
theorem dX11_feesOf_32 : decode cX11_feesOf 32 = .ok (.bipush 6, 2) := by decide +kernel
theorem dX11_feesOf_34 : decode cX11_feesOf 34 = .ok (.idiv, 1) := by decide +kernel
theorem dX11_feesOf_35 : decode cX11_feesOf 35 = .ok (.istore 4, 2) := by decide +kernel
theorem dX11_feesOf_37 : decode cX11_feesOf 37 = .ok (.iinc 5 (-1), 3) := by decide +kernel
theorem dX11_feesOf_40 : decode cX11_feesOf 40 = .ok (.goto (-27), 3) := by decide +kernel
theorem dX11_feesOf_43 : decode cX11_feesOf 43 = .ok (.iconst 0, 1) := by decide +kernel
theorem dX11_feesOf_44 : decode cX11_feesOf 44 = .ok (.istore 5, 2) := by decide +kernel
theorem dX11_feesOf_46 : decode cX11_feesOf 46 = .ok (.iconst 0, 1) := by decide +kernel
theorem dX11_feesOf_47 : decode cX11_feesOf 47 = .ok (.istore 6, 2) := by decide +kernel
theorem dX11_feesOf_49 : decode cX11_feesOf 49 = .ok (.iconst 0, 1) := by decide +kernel
theorem dX11_feesOf_50 : decode cX11_feesOf 50 = .ok (.istore 7, 2) := by decide +kernel
theorem dX11_feesOf_52 : decode cX11_feesOf 52 = .ok (.iload 7, 2) := by decide +kernel
theorem dX11_feesOf_54 : decode cX11_feesOf 54 = .ok (.iload_n 2, 1) := by decide +kernel
theorem dX11_feesOf_55 : decode cX11_feesOf 55 = .ok (.if_icmp .ge 95, 3) := by decide +kernel
theorem dX11_feesOf_58 : decode cX11_feesOf 58 = .ok (.aload_n 0, 1) := by decide +kernel
theorem dX11_feesOf_59 : decode cX11_feesOf 59 = .ok (.getfield 69, 3) := by decide +kernel
theorem dX11_feesOf_62 : decode cX11_feesOf 62 = .ok (.iload 7, 2) := by decide +kernel
theorem dX11_feesOf_64 : decode cX11_feesOf 64 = .ok (.iaload, 1) := by decide +kernel
theorem dX11_feesOf_65 : decode cX11_feesOf 65 = .ok (.istore 8, 2) := by decide +kernel
theorem dX11_feesOf_67 : decode cX11_feesOf 67 = .ok (.iload 8, 2) := by decide +kernel
theorem dX11_feesOf_69 : decode cX11_feesOf 69 = .ok (.aload_n 0, 1) := by decide +kernel
theorem dX11_feesOf_70 : decode cX11_feesOf 70 = .ok (.invokevirtual 435, 3) := by decide +kernel
theorem dX11_feesOf_73 : decode cX11_feesOf 73 = .ok (.if_icmp .ge 48, 3) := by decide +kernel
theorem dX11_feesOf_76 : decode cX11_feesOf 76 = .ok (.iload 5, 2) := by decide +kernel
theorem dX11_feesOf_78 : decode cX11_feesOf 78 = .ok (.iload 8, 2) := by decide +kernel
theorem dX11_feesOf_80 : decode cX11_feesOf 80 = .ok (.invokestatic 92, 3) := by decide +kernel
theorem dX11_feesOf_83 : decode cX11_feesOf 83 = .ok (.ifCond .ne 38, 3) := by decide +kernel
theorem dX11_feesOf_86 : decode cX11_feesOf 86 = .ok (.aload_n 0, 1) := by decide +kernel
theorem dX11_feesOf_87 : decode cX11_feesOf 87 = .ok (.aload_n 0, 1) := by decide +kernel
theorem dX11_feesOf_88 : decode cX11_feesOf 88 = .ok (.iload 8, 2) := by decide +kernel
theorem dX11_feesOf_90 : decode cX11_feesOf 90 = .ok (.iconst 0, 1) := by decide +kernel
theorem dX11_feesOf_91 : decode cX11_feesOf 91 = .ok (.invokevirtual 438, 3) := by decide +kernel
theorem dX11_feesOf_94 : decode cX11_feesOf 94 = .ok (.aload_n 0, 1) := by decide +kernel
theorem dX11_feesOf_95 : decode cX11_feesOf 95 = .ok (.iload 8, 2) := by decide +kernel
theorem dX11_feesOf_97 : decode cX11_feesOf 97 = .ok (.iconst 1, 1) := by decide +kernel
theorem dX11_feesOf_98 : decode cX11_feesOf 98 = .ok (.invokevirtual 438, 3) := by decide +kernel
theorem dX11_feesOf_101 : decode cX11_feesOf 101 = .ok (.aload_n 0, 1) := by decide +kernel
theorem dX11_feesOf_102 : decode cX11_feesOf 102 = .ok (.iload 8, 2) := by decide +kernel
theorem dX11_feesOf_104 : decode cX11_feesOf 104 = .ok (.iconst 2, 1) := by decide +kernel
theorem dX11_feesOf_105 : decode cX11_feesOf 105 = .ok (.invokevirtual 438, 3) := by decide +kernel
theorem dX11_feesOf_108 : decode cX11_feesOf 108 = .ok (.aload_n 0, 1) := by decide +kernel
theorem dX11_feesOf_109 : decode cX11_feesOf 109 = .ok (.iload 8, 2) := by decide +kernel
theorem dX11_feesOf_111 : decode cX11_feesOf 111 = .ok (.iconst 3, 1) := by decide +kernel
theorem dX11_feesOf_112 : decode cX11_feesOf 112 = .ok (.invokevirtual 438, 3) := by decide +kernel
theorem dX11_feesOf_115 : decode cX11_feesOf 115 = .ok (.invokevirtual 444, 3) := by decide +kernel
theorem dX11_feesOf_118 : decode cX11_feesOf 118 = .ok (.ifCond .ne 5, 3) := by decide +kernel
theorem dX11_feesOf_121 : decode cX11_feesOf 121 = .ok (.iconst (-1), 1) := by decide +kernel
theorem dX11_feesOf_122 : decode cX11_feesOf 122 = .ok (.ireturn, 1) := by decide +kernel
theorem dX11_feesOf_123 : decode cX11_feesOf 123 = .ok (.iload 5, 2) := by decide +kernel
theorem dX11_feesOf_125 : decode cX11_feesOf 125 = .ok (.iconst 1, 1) := by decide +kernel
theorem dX11_feesOf_126 : decode cX11_feesOf 126 = .ok (.iload 8, 2) := by decide +kernel
theorem dX11_feesOf_128 : decode cX11_feesOf 128 = .ok (.ishl, 1) := by decide +kernel
theorem dX11_feesOf_129 : decode cX11_feesOf 129 = .ok (.ior, 1) := by decide +kernel
theorem dX11_feesOf_130 : decode cX11_feesOf 130 = .ok (.istore 5, 2) := by decide +kernel
theorem dX11_feesOf_132 : decode cX11_feesOf 132 = .ok (.iload 6, 2) := by decide +kernel
theorem dX11_feesOf_134 : decode cX11_feesOf 134 = .ok (.aload_n 0, 1) := by decide +kernel
theorem dX11_feesOf_135 : decode cX11_feesOf 135 = .ok (.iload 8, 2) := by decide +kernel
theorem dX11_feesOf_137 : decode cX11_feesOf 137 = .ok (.iconst 3, 1) := by decide +kernel
theorem dX11_feesOf_138 : decode cX11_feesOf 138 = .ok (.invokevirtual 438, 3) := by decide +kernel
theorem dX11_feesOf_141 : decode cX11_feesOf 141 = .ok (.iadd, 1) := by decide +kernel
theorem dX11_feesOf_142 : decode cX11_feesOf 142 = .ok (.istore 6, 2) := by decide +kernel
theorem dX11_feesOf_144 : decode cX11_feesOf 144 = .ok (.iinc 7 1, 3) := by decide +kernel
theorem dX11_feesOf_147 : decode cX11_feesOf 147 = .ok (.goto (-95), 3) := by decide +kernel
theorem dX11_feesOf_150 : decode cX11_feesOf 150 = .ok (.iload 6, 2) := by decide +kernel
theorem dX11_feesOf_152 : decode cX11_feesOf 152 = .ok (.ireturn, 1) := by decide +kernel
theorem q_1832 : Cond.methodLink RX11 441 yX11_openPurse ∈ zTB := zmem 1832 (by decide +kernel) rfl
theorem q_1834 : Cond.instanceMethod yX11_openPurse ∈ zTB := zmem 1834 (by decide +kernel) rfl
theorem q_99 : Cond.selects RX11 yX11_openPurse yX11_openPurse ∈ zTB := zmem 99 (by decide +kernel) rfl
theorem q_1835 : Cond.code yX11_openPurse cX11_openPurse 3 none ∈ zTB := zmem 1835 (by decide +kernel) rfl
theorem k_RX11_441 : zLv RX11 441 RX11 yX11_openPurse cX11_openPurse 3 none 1 := ⟨⟨q_1832, q_1834, q_99, q_140, q_1835⟩, rfl, ⟨by decide, by decide⟩, by decide +kernel⟩
theorem q_1337 : Cond.fieldLink RX11 69 RX11 "row" "[I" ∈ zTB := zmem 1337 (by decide +kernel) rfl
theorem q_1836 : Cond.methodLink RX11 444 yX11_moves ∈ zTB := zmem 1836 (by decide +kernel) rfl
theorem q_1838 : Cond.instanceMethod yX11_moves ∈ zTB := zmem 1838 (by decide +kernel) rfl
theorem q_100 : Cond.selects RX11 yX11_moves yX11_moves ∈ zTB := zmem 100 (by decide +kernel) rfl
theorem q_1839 : Cond.code yX11_moves cX11_moves 5 (some .boolean) ∈ zTB := zmem 1839 (by decide +kernel) rfl
theorem k_RX11_444 : zLv RX11 444 RX11 yX11_moves cX11_moves 5 (some .boolean) 4 := ⟨⟨q_1836, q_1838, q_100, q_140, q_1839⟩, rfl, ⟨by decide, by decide⟩, by decide +kernel⟩
def F_X11_feesOf (i : Nat) (X Y : Nat → Int → Int) (R : Nat → Int → Option Nat) (a : Int) (b : Int) (g : Int) : Prop := (∀ i j, rI (X i j)) → (∀ i j, rL (Y i j)) → (0 ≤ a ∧ a < 15) ∧ (∀ X2 : Nat → Int → Int, (∀ i j, rI (X2 i j)) → ((∀ z, z ≠ i + 19 → (X2) z = X z) ∧ ∀ z, 0 ≤ z → z < 6 → (X2) (i + 19) z = X (i + 16) (6 * (a) + z)) → ((rI (b - 1)) ∧ (∃ q : Nat, (b - 1) = b - 1 - (q : Int) ∧ (q : Int) ≤ b ∧ (g) = ((g.toNat / 6 ^ q : Nat) : Int) ∧ pu9 X X2 i ∧ (∀ y, 0 ≤ y → y < 6 → X2 (i + 19) y = X (i + 16) (6 * a + y)) ∧ ∀ y : Nat, b - 1 - (q : Int) < (y : Int) → (y : Int) < b → X2 (i + 20) y = ((dg6 b.toNat g.toNat y : Nat) : Int)) ∧ (∀ (rs : Int) (j : Int) (X4 : Nat → Int → Int), rI rs → rI j → (∀ i j, rI (X4 i j)) → (∃ q : Nat, (j) = b - 1 - (q : Int) ∧ (q : Int) ≤ b ∧ (rs) = ((g.toNat / 6 ^ q : Nat) : Int) ∧ pu9 X X4 i ∧ (∀ y, 0 ≤ y → y < 6 → X4 (i + 19) y = X (i + 16) (6 * a + y)) ∧ ∀ y : Nat, b - 1 - (q : Int) < (y : Int) → (y : Int) < b → X4 (i + 20) y = ((dg6 b.toNat g.toNat y : Nat) : Int)) → (((j < 0) → ((∃ q : Nat, ((0 : Int)) = (q : Int) ∧ (q : Int) ≤ b ∧ pu9 X X4 i ∧ (∀ y : Nat, (y : Int) < b → X4 (i + 20) y = ((dg6 b.toNat g.toNat y : Nat) : Int)) ∧ oPu X4 i (500000 + 99 * (q : Int)) ∧ (0 ≤ ((0 : Int)) ∧ ((0 : Int)) ≤ 9 * (q : Int)) ∧ ∀ L, eq6 (fun y => X (i + 16) (6 * a + y)) L → ∃ M, rFs X i L g.toNat b.toNat q = some (((0 : Int)), ((0 : Int)), M) ∧ eq6 (fun y => X4 (i + 19) y) M) ∧ (∀ (w : Int) (sm : Int) (j : Int) (X7 : Nat → Int → Int), rI w → rI sm → rI j → (∀ i j, rI (X7 i j)) → (∃ q : Nat, (j) = (q : Int) ∧ (q : Int) ≤ b ∧ pu9 X X7 i ∧ (∀ y : Nat, (y : Int) < b → X7 (i + 20) y = ((dg6 b.toNat g.toNat y : Nat) : Int)) ∧ oPu X7 i (500000 + 99 * (q : Int)) ∧ (0 ≤ (sm) ∧ (sm) ≤ 9 * (q : Int)) ∧ ∀ L, eq6 (fun y => X (i + 16) (6 * a + y)) L → ∃ M, rFs X i L g.toNat b.toNat q = some ((w), (sm), M) ∧ eq6 (fun y => X7 (i + 19) y) M) → (((b ≤ j) → (pu9 X (X7) i ∧ (-1 ≤ sm ∧ sm ≤ 27) ∧ ∀ L, eq6 (fun y => X (i + 16) (6 * a + y)) L → sm = rFv X i L (g).toNat (b).toNat)) ∧ ((¬ (b ≤ j)) → ((0 ≤ j ∧ j < 3) ∧ ((oPo X7 i) ∧ (rI (mQn X7 i) → ((((mQn X7 i) ≤ (X7 (i + 20) (j))) → (pu9 X (X7) i ∧ (-1 ≤ (-1) ∧ (-1) ≤ 27) ∧ ∀ L, eq6 (fun y => X (i + 16) (6 * a + y)) L → (-1) = rFv X i L (g).toNat (b).toNat)) ∧ ((¬ ((mQn X7 i) ≤ (X7 (i + 20) (j)))) → ((((mHas (w) (X7 (i + 20) (j))) = true) → (pu9 X (X7) i ∧ (-1 ≤ (-1) ∧ (-1) ≤ 27) ∧ ∀ L, eq6 (fun y => X (i + 16) (6 * a + y)) L → (-1) = rFv X i L (g).toNat (b).toNat)) ∧ (((mHas (w) (X7 (i + 20) (j))) = false) → ((oPo X7 i ∧ (0 ≤ X7 (i + 20) (j) ∧ X7 (i + 20) (j) ≤ 5) ∧ 0 ≤ (0 : Int) ∧ (0 : Int) ≤ 3) ∧ (rI (mQf X7 i (X7 (i + 20) (j)) ((0 : Int))) → ((oPo X7 i ∧ (0 ≤ X7 (i + 20) (j) ∧ X7 (i + 20) (j) ≤ 5) ∧ 0 ≤ (1 : Int) ∧ (1 : Int) ≤ 3) ∧ (rI (mQf X7 i (X7 (i + 20) (j)) ((1 : Int))) → ((oPo X7 i ∧ (0 ≤ X7 (i + 20) (j) ∧ X7 (i + 20) (j) ≤ 5) ∧ 0 ≤ (2 : Int) ∧ (2 : Int) ≤ 3) ∧ (rI (mQf X7 i (X7 (i + 20) (j)) ((2 : Int))) → ((oPo X7 i ∧ (0 ≤ X7 (i + 20) (j) ∧ X7 (i + 20) (j) ≤ 5) ∧ 0 ≤ (3 : Int) ∧ (3 : Int) ≤ 3) ∧ (rI (mQf X7 i (X7 (i + 20) (j)) ((3 : Int))) → (((0 ≤ X7 i 26 ∧ X7 i 26 ≤ 6) ∧ oPu X7 i 1000000 ∧ (0 ≤ mQf X7 i (X7 (i + 20) (j)) ((2 : Int)) ∧ mQf X7 i (X7 (i + 20) (j)) ((2 : Int)) ≤ 99) ∧ (0 ≤ mQf X7 i (X7 (i + 20) (j)) ((3 : Int)) ∧ mQf X7 i (X7 (i + 20) (j)) ((3 : Int)) ≤ 9)) ∧ (∀ r24 : Bool, ∀ X23 : Nat → Int → Int, (∀ i j, rI (X23 i j)) → (r24 = ((mIn (mQf X7 i (X7 (i + 20) (j)) ((0 : Int))) 0 (X7 i 26 - 1) && mIn (mQf X7 i (X7 (i + 20) (j)) ((1 : Int))) 0 (X7 i 26 - 1)) && decide (mQf X7 i (X7 (i + 20) (j)) ((2 : Int)) + mQf X7 i (X7 (i + 20) (j)) ((3 : Int)) ≤ X7 (i + 19) (mQf X7 i (X7 (i + 20) (j)) ((0 : Int))))) ∧ (X23) = if r24 then zU (zU X7 (i + 19) (mQf X7 i (X7 (i + 20) (j)) ((0 : Int))) (X7 (i + 19) (mQf X7 i (X7 (i + 20) (j)) ((0 : Int))) - (mQf X7 i (X7 (i + 20) (j)) ((2 : Int)) + mQf X7 i (X7 (i + 20) (j)) ((3 : Int))))) (i + 19) (mQf X7 i (X7 (i + 20) (j)) ((1 : Int))) (zU X7 (i + 19) (mQf X7 i (X7 (i + 20) (j)) ((0 : Int))) (X7 (i + 19) (mQf X7 i (X7 (i + 20) (j)) ((0 : Int))) - (mQf X7 i (X7 (i + 20) (j)) ((2 : Int)) + mQf X7 i (X7 (i + 20) (j)) ((3 : Int)))) (i + 19) (mQf X7 i (X7 (i + 20) (j)) ((1 : Int))) + mQf X7 i (X7 (i + 20) (j)) ((2 : Int))) else X7) → (((r24 = true) → ((oPo X23 i ∧ (0 ≤ X7 (i + 20) (j) ∧ X7 (i + 20) (j) ≤ 5) ∧ 0 ≤ (3 : Int) ∧ (3 : Int) ≤ 3) ∧ (rI (mQf X23 i (X7 (i + 20) (j)) ((3 : Int))) → ((rI (sm + (mQf X23 i (X7 (i + 20) (j)) ((3 : Int))))) ∧ (rI (j + 1)) ∧ (∃ q : Nat, (j + 1) = (q : Int) ∧ (q : Int) ≤ b ∧ pu9 X X23 i ∧ (∀ y : Nat, (y : Int) < b → X23 (i + 20) y = ((dg6 b.toNat g.toNat y : Nat) : Int)) ∧ oPu X23 i (500000 + 99 * (q : Int)) ∧ (0 ≤ (sm + (mQf X23 i (X7 (i + 20) (j)) ((3 : Int)))) ∧ (sm + (mQf X23 i (X7 (i + 20) (j)) ((3 : Int)))) ≤ 9 * (q : Int)) ∧ ∀ L, eq6 (fun y => X (i + 16) (6 * a + y)) L → ∃ M, rFs X i L g.toNat b.toNat q = some ((zOr (w) (zShl (1) (X7 (i + 20) (j)))), (sm + (mQf X23 i (X7 (i + 20) (j)) ((3 : Int)))), M) ∧ eq6 (fun y => X23 (i + 19) y) M) ∧ (((b - (j + 1)).toNat) < ((b - (j)).toNat)))))) ∧ ((r24 = false) → (pu9 X (X23) i ∧ (-1 ≤ (-1) ∧ (-1) ≤ 27) ∧ ∀ L, eq6 (fun y => X (i + 16) (6 * a + y)) L → (-1) = rFv X i L (g).toNat (b).toNat))))))))))))))))))))))))) ∧ ((¬ (j < 0)) → ((0 ≤ j ∧ j < 3) ∧ (∀ X31 : Nat → Int → Int, X31 = zU X4 (i + 20) (j) ((rs).tmod (6)) → (∀ i j, rI (X31 i j)) → ((rI (j + (-1))) ∧ (∃ q : Nat, (j + (-1)) = b - 1 - (q : Int) ∧ (q : Int) ≤ b ∧ ((rs).tdiv (6)) = ((g.toNat / 6 ^ q : Nat) : Int) ∧ pu9 X X31 i ∧ (∀ y, 0 ≤ y → y < 6 → X31 (i + 19) y = X (i + 16) (6 * a + y)) ∧ ∀ y : Nat, b - 1 - (q : Int) < (y : Int) → (y : Int) < b → X31 (i + 20) y = ((dg6 b.toNat g.toNat y : Nat) : Int)) ∧ (((j + (-1) + 1).toNat) < ((j + 1).toNat))))))))))
set_option maxHeartbeats 4000000 in
set_option maxRecDepth 100000 in
theorem w_X11_feesOf {l : Launch} {D : va_G} {cy : Nat → ClassId} {bs N : Nat} {sa : Nat → Nat} {kd len : Nat → Nat} {X Y : Nat → Int → Int} {R : Nat → Int → Option Nat} {i : Nat} (hM : zM N kd len R i) (a : Int) (ha : rI a) (b : Int) (hb : rI b) (g : Int) (hg : rI g) (hF : F_X11_feesOf i X Y R a b g) : Met l yX11_feesOf (.code yX11_feesOf cX11_feesOf 9 (some .int) :: zTB) (zRm 3 67) (zPc D cy bs sa N kd len X Y R [.ref (bs + (i)), .int (zI (a)), .int (zI (b)), .int (zI (g))]) (zQi D cy bs N kd len (fun r st => st.2.1 = Y ∧ st.2.2 = R ∧ (pu9 X (st.1) i ∧ (-1 ≤ r ∧ r ≤ 27) ∧ ∀ L, eq6 (fun y => X (i + 16) (6 * a + y)) L → r = rFv X i L (g).toNat (b).toNat))) 0 0 (zA bs) := by
  refine zstart (by decide) (Nat.le_of_ble_eq_true rfl) ?_
  intro p e s m args below meth c ls C hE hH hr hlk hnm hl hargs
  have hF := hF hH.2.2.1 hH.2.2.2
  have hS : va_S (zA bs) s.heap s.heap [] := va_S.rf
  have hl : lv_has ls 9 [(0, .ref (bs + (i))), (1, .int (zI (a))), (2, .int (zI (b))), (3, .int (zI (g)))] := hl
  refine lv_aload_n C.1 C.2.1 dX11_feesOf_0 rfl (lv_at hl 0 rfl) ?_
  refine lv_iload_n C.1 C.2.1 dX11_feesOf_1 rfl (lv_at hl 1 rfl) ?_
  obtain ⟨o1, hF⟩ := hF
  refine zgov (zrunV (As := [.int (zI (a))]) (rest := []) C hE hH hS hl.1 (c_X11_openPurse (l := l) hM (a) ha o1) k_RX11_441 ⟨Nat.le_of_ble_eq_true rfl, Nat.le_of_ble_eq_true rfl⟩ (zM_n0 hM) (zM_k0 hM) rfl rfl rfl (Nat.le_of_ble_eq_true rfl) dX11_feesOf_2 ⟨Nat.zero_le _, Nat.zero_le _⟩) hS (fun X2 Yq Rq H locs hq hH hS => ?_)
  obtain ⟨h9Y, h9R, hq⟩ := hq
  dsimp only at h9Y h9R
  rw [h9Y, h9R] at hH
  have hF := hF X2 hH.2.2.1 hq
  refine lv_iload_n C.1 C.2.1 dX11_feesOf_5 rfl (lv_at hl 3 rfl) ?_
  refine lv_istore (lv' := [(4, .int (zI (g))), (0, .ref (bs + (i))), (1, .int (zI (a))), (2, .int (zI (b))), (3, .int (zI (g)))]) C.1 C.2.1 dX11_feesOf_6 hl (by decide) rfl (fun ls hl => ?_)
  refine lv_iload_n C.1 C.2.1 dX11_feesOf_8 rfl (lv_at hl 3 rfl) ?_
  refine zd_iconst C dX11_feesOf_9 ?_
  refine zd_isub C dX11_feesOf_10 ?_
  refine lv_istore (lv' := [(5, .int (zI (b - 1))), (4, .int (zI (g))), (0, .ref (bs + (i))), (1, .int (zI (a))), (2, .int (zI (b))), (3, .int (zI (g)))]) C.1 C.2.1 dX11_feesOf_11 hl (by decide) rfl (fun ls hl => ?_)
  obtain ⟨o33, hF⟩ := hF
  obtain ⟨hI3, hF⟩ := hF
  have L3 : ∀ (fu : Nat) (rs : Int) (j : Int) (X4 : Nat → Int → Int), rI rs → rI j → (∃ q : Nat, (j) = b - 1 - (q : Int) ∧ (q : Int) ≤ b ∧ (rs) = ((g.toNat / 6 ^ q : Nat) : Int) ∧ pu9 X X4 i ∧ (∀ y, 0 ≤ y → y < 6 → X4 (i + 19) y = X (i + 16) (6 * a + y)) ∧ ∀ y : Nat, b - 1 - (q : Int) < (y : Int) → (y : Int) < b → X4 (i + 20) y = ((dg6 b.toNat g.toNat y : Nat) : Int)) → ((j + 1).toNat) < fu → ∀ (H : Heap) (locs : List Loc) (ls : Array Slot), zH D cy bs N kd len X4 Y R H → va_S (zA bs) s.heap H locs → lv_has ls 9 [(4, .int (zI (rs))), (5, .int (zI (j))), (0, .ref (bs + (i))), (1, .int (zI (a))), (2, .int (zI (b))), (3, .int (zI (g)))] → W p l e (zRm 3 67) s m args below meth c H locs 0 0 (MQ below (zQi D cy bs N kd len (fun r st => st.2.1 = Y ∧ st.2.2 = R ∧ (pu9 X (st.1) i ∧ (-1 ≤ r ∧ r ≤ 27) ∧ ∀ L, eq6 (fun y => X (i + 16) (6 * a + y)) L → r = rFv X i L (g).toNat (b).toNat))) args s 0 0 (zA bs)) (F0 m 13 ls []) := by
    intro fu
    induction fu with
    | zero => intro rs j X4 _ _ _ hmu; exact absurd hmu (Nat.not_lt_zero _)
    | succ fu ih3 =>
      intro rs j X4 hrs hj hI hmu3 H locs ls hH hS hl
      have hF := hF rs j X4 hrs hj hH.2.2.1 hI
      refine lv_iload C.1 C.2.1 dX11_feesOf_13 (lv_at hl 1 rfl) ?_
      refine zd_if_lt C hj 43 dX11_feesOf_15 (by decide) (fun c5 => ?_) (fun c5 => ?_)
      · have hF := hF.1 c5
        refine zd_iconst C dX11_feesOf_43 ?_
        refine lv_istore (lv' := [(5, .int (zI (0))), (4, .int (zI (rs))), (0, .ref (bs + (i))), (1, .int (zI (a))), (2, .int (zI (b))), (3, .int (zI (g)))]) C.1 C.2.1 dX11_feesOf_44 hl (by decide) rfl (fun ls hl => ?_)
        refine zd_iconst C dX11_feesOf_46 ?_
        refine lv_istore (lv' := [(6, .int (zI (0))), (5, .int (zI (0))), (4, .int (zI (rs))), (0, .ref (bs + (i))), (1, .int (zI (a))), (2, .int (zI (b))), (3, .int (zI (g)))]) C.1 C.2.1 dX11_feesOf_47 hl (by decide) rfl (fun ls hl => ?_)
        refine zd_iconst C dX11_feesOf_49 ?_
        refine lv_istore (lv' := [(7, .int (zI (0))), (6, .int (zI (0))), (5, .int (zI (0))), (4, .int (zI (rs))), (0, .ref (bs + (i))), (1, .int (zI (a))), (2, .int (zI (b))), (3, .int (zI (g)))]) C.1 C.2.1 dX11_feesOf_50 hl (by decide) rfl (fun ls hl => ?_)
        obtain ⟨hI6, hF⟩ := hF
        have L6 : ∀ (fu : Nat) (w : Int) (sm : Int) (j : Int) (X7 : Nat → Int → Int), rI w → rI sm → rI j → (∃ q : Nat, (j) = (q : Int) ∧ (q : Int) ≤ b ∧ pu9 X X7 i ∧ (∀ y : Nat, (y : Int) < b → X7 (i + 20) y = ((dg6 b.toNat g.toNat y : Nat) : Int)) ∧ oPu X7 i (500000 + 99 * (q : Int)) ∧ (0 ≤ (sm) ∧ (sm) ≤ 9 * (q : Int)) ∧ ∀ L, eq6 (fun y => X (i + 16) (6 * a + y)) L → ∃ M, rFs X i L g.toNat b.toNat q = some ((w), (sm), M) ∧ eq6 (fun y => X7 (i + 19) y) M) → ((b - (j)).toNat) < fu → ∀ (H : Heap) (locs : List Loc) (ls : Array Slot), zH D cy bs N kd len X7 Y R H → va_S (zA bs) s.heap H locs → lv_has ls 9 [(5, .int (zI (w))), (6, .int (zI (sm))), (7, .int (zI (j))), (0, .ref (bs + (i))), (1, .int (zI (a))), (2, .int (zI (b)))] → W p l e (zRm 3 67) s m args below meth c H locs 0 0 (MQ below (zQi D cy bs N kd len (fun r st => st.2.1 = Y ∧ st.2.2 = R ∧ (pu9 X (st.1) i ∧ (-1 ≤ r ∧ r ≤ 27) ∧ ∀ L, eq6 (fun y => X (i + 16) (6 * a + y)) L → r = rFv X i L (g).toNat (b).toNat))) args s 0 0 (zA bs)) (F0 m 52 ls []) := by
          intro fu
          induction fu with
          | zero => intro w sm j X7 _ _ _ _ hmu; exact absurd hmu (Nat.not_lt_zero _)
          | succ fu ih6 =>
            intro w sm j X7 hw hsm hj hI hmu6 H locs ls hH hS hl
            have hF := hF w sm j X7 hw hsm hj hH.2.2.1 hI
            refine lv_iload C.1 C.2.1 dX11_feesOf_52 (lv_at hl 2 rfl) ?_
            refine lv_iload_n C.1 C.2.1 dX11_feesOf_54 rfl (lv_at hl 5 rfl) ?_
            refine zd_icmp_ge C hj hb 150 dX11_feesOf_55 (by decide) (fun c8 => ?_) (fun c8 => ?_)
            · have hF := hF.1 c8
              refine lv_iload C.1 C.2.1 dX11_feesOf_150 (lv_at hl 1 rfl) ?_
              exact zd_iret C hr hlk hH hS hsm (⟨rfl, rfl, hF⟩) dX11_feesOf_152
            · have hF := hF.2 c8
              refine lv_aload_n C.1 C.2.1 dX11_feesOf_58 rfl (lv_at hl 3 rfl) ?_
              refine zg11_50 C hH (zM_n0 hM) (zM_k0 hM) q_1337 (zM_r20 hM) dX11_feesOf_59 ?_
              refine lv_iload C.1 C.2.1 dX11_feesOf_62 (lv_at hl 2 rfl) ?_
              obtain ⟨o9, hF⟩ := hF
              refine zd_iald C hH (zM_n20 hM) (zM_k20 hM) o9.1 (by rw [zM_l20 hM]; exact o9.2) (by rw [zM_l20 hM]; decide) dX11_feesOf_64 ?_
              refine lv_istore (lv' := [(8, .int (zI (X7 (i + 20) (j)))), (5, .int (zI (w))), (6, .int (zI (sm))), (7, .int (zI (j))), (0, .ref (bs + (i))), (1, .int (zI (a))), (2, .int (zI (b)))]) C.1 C.2.1 dX11_feesOf_65 hl (by decide) rfl (fun ls hl => ?_)
              refine lv_iload C.1 C.2.1 dX11_feesOf_67 (lv_at hl 0 rfl) ?_
              refine lv_aload_n C.1 C.2.1 dX11_feesOf_69 rfl (lv_at hl 4 rfl) ?_
              obtain ⟨o10, hF⟩ := hF
              refine zgoi (zrunV (As := []) (rest := [.int (zI (X7 (i + 20) (j)))]) C hE hH hS hl.1 (c_X11_allPays (l := l) hM  o10) k_RX11_435 ⟨Nat.le_of_ble_eq_true rfl, Nat.le_of_ble_eq_true rfl⟩ (zM_n0 hM) (zM_k0 hM) rfl rfl rfl (Nat.le_of_ble_eq_true rfl) dX11_feesOf_70 ⟨Nat.zero_le _, Nat.zero_le _⟩) hS (fun rq Xq Yq Rq H locs hrq hq hH hS => ?_)
              obtain ⟨h91, h92⟩ := hq
              have h93 : Xq = X7 := congrArg (fun z => z.1) h92
              have h94 : Yq = Y := congrArg (fun z => z.2.1) h92
              have h95 : Rq = R := congrArg (fun z => z.2.2) h92
              rw [h93, h94, h95] at hH
              subst h91
              have hr11 := hrq
              have hF := hF hr11
              refine zd_icmp_ge C (hH.2.2.1 _ _) hr11 121 dX11_feesOf_73 (by decide) (fun c12 => ?_) (fun c12 => ?_)
              · have hF := hF.1 c12
                refine zd_iconst C dX11_feesOf_121 ?_
                exact zd_iret C hr hlk hH hS (by decide) (⟨rfl, rfl, hF⟩) dX11_feesOf_122
              · have hF := hF.2 c12
                refine lv_iload C.1 C.2.1 dX11_feesOf_76 (lv_at hl 1 rfl) ?_
                refine lv_iload C.1 C.2.1 dX11_feesOf_78 (lv_at hl 0 rfl) ?_
                refine zgoi (zrunS (As := [.int (zI (w)), .int (zI (X7 (i + 20) (j)))]) (rest := []) C hE hH hS hl.1 (c_X11_has (l := l)  (w) hw (X7 (i + 20) (j)) (hH.2.2.1 _ _)) k_RX11_92 ⟨Nat.le_of_ble_eq_true rfl, Nat.le_of_ble_eq_true rfl⟩ rfl (Nat.le_of_ble_eq_true rfl) dX11_feesOf_80 ⟨Nat.zero_le _, Nat.zero_le _⟩) hS (fun rq Xq Yq Rq H locs hrq hq hH hS => ?_)
                obtain ⟨h91, h92⟩ := hq
                have h93 : Xq = X7 := congrArg (fun z => z.1) h92
                have h94 : Yq = Y := congrArg (fun z => z.2.1) h92
                have h95 : Rq = R := congrArg (fun z => z.2.2) h92
                rw [h93, h94, h95] at hH
                subst h91
                refine zd_ifB_ne C 121 dX11_feesOf_83 (by decide) (fun c13 => ?_) (fun c13 => ?_)
                · have hF := hF.1 c13
                  refine zd_iconst C dX11_feesOf_121 ?_
                  exact zd_iret C hr hlk hH hS (by decide) (⟨rfl, rfl, hF⟩) dX11_feesOf_122
                · have hF := hF.2 c13
                  refine lv_aload_n C.1 C.2.1 dX11_feesOf_86 rfl (lv_at hl 4 rfl) ?_
                  refine lv_aload_n C.1 C.2.1 dX11_feesOf_87 rfl (lv_at hl 4 rfl) ?_
                  refine lv_iload C.1 C.2.1 dX11_feesOf_88 (lv_at hl 0 rfl) ?_
                  refine zd_iconst C dX11_feesOf_90 ?_
                  obtain ⟨o14, hF⟩ := hF
                  refine zgoi (zrunV (As := [.int (zI (X7 (i + 20) (j))), .int (zI (0))]) (rest := [.ref (bs + (i))]) C hE hH hS hl.1 (c_X11_payOf (l := l) hM (X7 (i + 20) (j)) (hH.2.2.1 _ _) (0) (by decide) o14) k_RX11_438 ⟨Nat.le_of_ble_eq_true rfl, Nat.le_of_ble_eq_true rfl⟩ (zM_n0 hM) (zM_k0 hM) rfl rfl rfl (Nat.le_of_ble_eq_true rfl) dX11_feesOf_91 ⟨Nat.zero_le _, Nat.zero_le _⟩) hS (fun rq Xq Yq Rq H locs hrq hq hH hS => ?_)
                  obtain ⟨h91, h92⟩ := hq
                  have h93 : Xq = X7 := congrArg (fun z => z.1) h92
                  have h94 : Yq = Y := congrArg (fun z => z.2.1) h92
                  have h95 : Rq = R := congrArg (fun z => z.2.2) h92
                  rw [h93, h94, h95] at hH
                  subst h91
                  have hr15 := hrq
                  have hF := hF hr15
                  refine lv_aload_n C.1 C.2.1 dX11_feesOf_94 rfl (lv_at hl 4 rfl) ?_
                  refine lv_iload C.1 C.2.1 dX11_feesOf_95 (lv_at hl 0 rfl) ?_
                  refine zd_iconst C dX11_feesOf_97 ?_
                  obtain ⟨o16, hF⟩ := hF
                  refine zgoi (zrunV (As := [.int (zI (X7 (i + 20) (j))), .int (zI (1))]) (rest := [.int (zI (mQf X7 i (X7 (i + 20) (j)) ((0 : Int)))), .ref (bs + (i))]) C hE hH hS hl.1 (c_X11_payOf (l := l) hM (X7 (i + 20) (j)) (hH.2.2.1 _ _) (1) (by decide) o16) k_RX11_438 ⟨Nat.le_of_ble_eq_true rfl, Nat.le_of_ble_eq_true rfl⟩ (zM_n0 hM) (zM_k0 hM) rfl rfl rfl (Nat.le_of_ble_eq_true rfl) dX11_feesOf_98 ⟨Nat.zero_le _, Nat.zero_le _⟩) hS (fun rq Xq Yq Rq H locs hrq hq hH hS => ?_)
                  obtain ⟨h91, h92⟩ := hq
                  have h93 : Xq = X7 := congrArg (fun z => z.1) h92
                  have h94 : Yq = Y := congrArg (fun z => z.2.1) h92
                  have h95 : Rq = R := congrArg (fun z => z.2.2) h92
                  rw [h93, h94, h95] at hH
                  subst h91
                  have hr17 := hrq
                  have hF := hF hr17
                  refine lv_aload_n C.1 C.2.1 dX11_feesOf_101 rfl (lv_at hl 4 rfl) ?_
                  refine lv_iload C.1 C.2.1 dX11_feesOf_102 (lv_at hl 0 rfl) ?_
                  refine zd_iconst C dX11_feesOf_104 ?_
                  obtain ⟨o18, hF⟩ := hF
                  refine zgoi (zrunV (As := [.int (zI (X7 (i + 20) (j))), .int (zI (2))]) (rest := [.int (zI (mQf X7 i (X7 (i + 20) (j)) ((1 : Int)))), .int (zI (mQf X7 i (X7 (i + 20) (j)) ((0 : Int)))), .ref (bs + (i))]) C hE hH hS hl.1 (c_X11_payOf (l := l) hM (X7 (i + 20) (j)) (hH.2.2.1 _ _) (2) (by decide) o18) k_RX11_438 ⟨Nat.le_of_ble_eq_true rfl, Nat.le_of_ble_eq_true rfl⟩ (zM_n0 hM) (zM_k0 hM) rfl rfl rfl (Nat.le_of_ble_eq_true rfl) dX11_feesOf_105 ⟨Nat.zero_le _, Nat.zero_le _⟩) hS (fun rq Xq Yq Rq H locs hrq hq hH hS => ?_)
                  obtain ⟨h91, h92⟩ := hq
                  have h93 : Xq = X7 := congrArg (fun z => z.1) h92
                  have h94 : Yq = Y := congrArg (fun z => z.2.1) h92
                  have h95 : Rq = R := congrArg (fun z => z.2.2) h92
                  rw [h93, h94, h95] at hH
                  subst h91
                  have hr19 := hrq
                  have hF := hF hr19
                  refine lv_aload_n C.1 C.2.1 dX11_feesOf_108 rfl (lv_at hl 4 rfl) ?_
                  refine lv_iload C.1 C.2.1 dX11_feesOf_109 (lv_at hl 0 rfl) ?_
                  refine zd_iconst C dX11_feesOf_111 ?_
                  obtain ⟨o20, hF⟩ := hF
                  refine zgoi (zrunV (As := [.int (zI (X7 (i + 20) (j))), .int (zI (3))]) (rest := [.int (zI (mQf X7 i (X7 (i + 20) (j)) ((2 : Int)))), .int (zI (mQf X7 i (X7 (i + 20) (j)) ((1 : Int)))), .int (zI (mQf X7 i (X7 (i + 20) (j)) ((0 : Int)))), .ref (bs + (i))]) C hE hH hS hl.1 (c_X11_payOf (l := l) hM (X7 (i + 20) (j)) (hH.2.2.1 _ _) (3) (by decide) o20) k_RX11_438 ⟨Nat.le_of_ble_eq_true rfl, Nat.le_of_ble_eq_true rfl⟩ (zM_n0 hM) (zM_k0 hM) rfl rfl rfl (Nat.le_of_ble_eq_true rfl) dX11_feesOf_112 ⟨Nat.zero_le _, Nat.zero_le _⟩) hS (fun rq Xq Yq Rq H locs hrq hq hH hS => ?_)
                  obtain ⟨h91, h92⟩ := hq
                  have h93 : Xq = X7 := congrArg (fun z => z.1) h92
                  have h94 : Yq = Y := congrArg (fun z => z.2.1) h92
                  have h95 : Rq = R := congrArg (fun z => z.2.2) h92
                  rw [h93, h94, h95] at hH
                  subst h91
                  have hr21 := hrq
                  have hF := hF hr21
                  obtain ⟨o22, hF⟩ := hF
                  have gg1 := hH.2.2.1
                  refine zgoi (zrunV (As := [.int (zI (mQf X7 i (X7 (i + 20) (j)) ((0 : Int)))), .int (zI (mQf X7 i (X7 (i + 20) (j)) ((1 : Int)))), .int (zI (mQf X7 i (X7 (i + 20) (j)) ((2 : Int)))), .int (zI (mQf X7 i (X7 (i + 20) (j)) ((3 : Int))))]) (rest := []) C hE hH hS hl.1 (c_X11_moves (l := l) hM (mQf X7 i (X7 (i + 20) (j)) ((0 : Int))) hr15 (mQf X7 i (X7 (i + 20) (j)) ((1 : Int))) hr17 (mQf X7 i (X7 (i + 20) (j)) ((2 : Int))) hr19 (mQf X7 i (X7 (i + 20) (j)) ((3 : Int))) hr21 o22) k_RX11_444 ⟨Nat.le_of_ble_eq_true rfl, Nat.le_of_ble_eq_true rfl⟩ (zM_n0 hM) (zM_k0 hM) rfl rfl rfl (Nat.le_of_ble_eq_true rfl) dX11_feesOf_115 ⟨Nat.zero_le _, Nat.zero_le _⟩) hS (fun rq X23 Yq Rq H locs hrq hq hH hS => ?_)
                  obtain ⟨h9Y, h9R, hq⟩ := hq
                  dsimp only at h9Y h9R
                  rw [h9Y, h9R] at hH
                  obtain ⟨r24, h91, hq⟩ := hq
                  subst h91
                  have hF := hF r24 X23 hH.2.2.1 hq
                  refine zd_ifB_ne C 123 dX11_feesOf_118 (by decide) (fun c25 => ?_) (fun c25 => ?_)
                  · have hF := hF.1 c25
                    refine lv_iload C.1 C.2.1 dX11_feesOf_123 (lv_at hl 1 rfl) ?_
                    refine zd_iconst C dX11_feesOf_125 ?_
                    refine lv_iload C.1 C.2.1 dX11_feesOf_126 (lv_at hl 0 rfl) ?_
                    refine zd_ishl C dX11_feesOf_128 ?_
                    refine zd_ior C dX11_feesOf_129 ?_
                    refine lv_istore (lv' := [(5, .int (zI (zOr (w) (zShl (1) (X7 (i + 20) (j)))))), (8, .int (zI (X7 (i + 20) (j)))), (6, .int (zI (sm))), (7, .int (zI (j))), (0, .ref (bs + (i))), (1, .int (zI (a))), (2, .int (zI (b)))]) C.1 C.2.1 dX11_feesOf_130 hl (by decide) rfl (fun ls hl => ?_)
                    refine lv_iload C.1 C.2.1 dX11_feesOf_132 (lv_at hl 2 rfl) ?_
                    refine lv_aload_n C.1 C.2.1 dX11_feesOf_134 rfl (lv_at hl 4 rfl) ?_
                    refine lv_iload C.1 C.2.1 dX11_feesOf_135 (lv_at hl 1 rfl) ?_
                    refine zd_iconst C dX11_feesOf_137 ?_
                    obtain ⟨o26, hF⟩ := hF
                    refine zgoi (zrunV (As := [.int (zI (X7 (i + 20) (j))), .int (zI (3))]) (rest := [.int (zI (sm))]) C hE hH hS hl.1 (c_X11_payOf (l := l) hM (X7 (i + 20) (j)) (gg1 _ _) (3) (by decide) o26) k_RX11_438 ⟨Nat.le_of_ble_eq_true rfl, Nat.le_of_ble_eq_true rfl⟩ (zM_n0 hM) (zM_k0 hM) rfl rfl rfl (Nat.le_of_ble_eq_true rfl) dX11_feesOf_138 ⟨Nat.zero_le _, Nat.zero_le _⟩) hS (fun rq Xq Yq Rq H locs hrq hq hH hS => ?_)
                    obtain ⟨h91, h92⟩ := hq
                    have h93 : Xq = X23 := congrArg (fun z => z.1) h92
                    have h94 : Yq = Y := congrArg (fun z => z.2.1) h92
                    have h95 : Rq = R := congrArg (fun z => z.2.2) h92
                    rw [h93, h94, h95] at hH
                    subst h91
                    have hr27 := hrq
                    have hF := hF hr27
                    refine zd_iadd C dX11_feesOf_141 ?_
                    refine lv_istore (lv' := [(6, .int (zI (sm + (mQf X23 i (X7 (i + 20) (j)) ((3 : Int)))))), (5, .int (zI (zOr (w) (zShl (1) (X7 (i + 20) (j)))))), (8, .int (zI (X7 (i + 20) (j)))), (7, .int (zI (j))), (0, .ref (bs + (i))), (1, .int (zI (a))), (2, .int (zI (b)))]) C.1 C.2.1 dX11_feesOf_142 hl (by decide) rfl (fun ls hl => ?_)
                    refine zd_iinc (k := 3) (lv' := [(7, .int (zI (j + 1))), (6, .int (zI (sm + (mQf X23 i (X7 (i + 20) (j)) ((3 : Int)))))), (5, .int (zI (zOr (w) (zShl (1) (X7 (i + 20) (j)))))), (8, .int (zI (X7 (i + 20) (j)))), (0, .ref (bs + (i))), (1, .int (zI (a))), (2, .int (zI (b)))]) C hl rfl dX11_feesOf_144 (by decide) rfl (fun ls hl => ?_)
                    refine lv_goto (tgt := 52) C.1 C.2.1 dX11_feesOf_147 (by decide) ?_
                    obtain ⟨o28, hF⟩ := hF
                    obtain ⟨o29, hF⟩ := hF
                    exact ih6 (zOr (w) (zShl (1) (X7 (i + 20) (j)))) (sm + (mQf X23 i (X7 (i + 20) (j)) ((3 : Int)))) (j + 1) X23 (zI_rg _) o28 o29 hF.1 (Nat.lt_of_lt_of_le hF.2 (Nat.le_of_lt_succ hmu6)) _ _ _ hH hS (lv_sub hl [2, 1, 0, 4, 5, 6] rfl)
                  · have hF := hF.2 c25
                    refine zd_iconst C dX11_feesOf_121 ?_
                    exact zd_iret C hr hlk hH hS (by decide) (⟨rfl, rfl, hF⟩) dX11_feesOf_122
        exact L6 (((b - ((0 : Int))).toNat) + 1) ((0 : Int)) ((0 : Int)) ((0 : Int)) X4 (by decide) (by decide) (by decide) hI6 (Nat.lt_succ_self _) _ _ _ hH hS (lv_sub hl [2, 1, 0, 4, 5, 6] rfl)
      · have hF := hF.2 c5
        refine lv_aload_n C.1 C.2.1 dX11_feesOf_18 rfl (lv_at hl 2 rfl) ?_
        refine zg11_50 C hH (zM_n0 hM) (zM_k0 hM) q_1337 (zM_r20 hM) dX11_feesOf_19 ?_
        refine lv_iload C.1 C.2.1 dX11_feesOf_22 (lv_at hl 1 rfl) ?_
        refine lv_iload C.1 C.2.1 dX11_feesOf_24 (lv_at hl 0 rfl) ?_
        refine zd_bipush C (by decide) dX11_feesOf_26 ?_
        refine zd_irem C hrs (by decide) (by decide) (by decide) dX11_feesOf_28 ?_
        obtain ⟨o30, hF⟩ := hF
        refine zd_iast C hH hS (zM_n20 hM) (zM_k20 hM) o30.1 (by rw [zM_l20 hM]; exact o30.2) (by rw [zM_l20 hM]; decide) (tmod_rI hrs (show (6 : Int) ≠ -1 from (by decide))) dX11_feesOf_29 (fun H locs hH hS => ?_)
        obtain ⟨X31, eX31⟩ : ∃ z, z = zU X4 (i + 20) (j) ((rs).tmod (6)) := ⟨_, rfl⟩
        rw [← eX31] at hH
        have hF := hF X31 eX31 hH.2.2.1
        refine lv_iload C.1 C.2.1 dX11_feesOf_30 (lv_at hl 0 rfl) ?_
        refine zd_bipush C (by decide) dX11_feesOf_32 ?_
        refine zd_idiv C hrs (by decide) (by decide) (by decide) dX11_feesOf_34 ?_
        refine lv_istore (lv' := [(4, .int (zI ((rs).tdiv (6)))), (5, .int (zI (j))), (0, .ref (bs + (i))), (1, .int (zI (a))), (2, .int (zI (b))), (3, .int (zI (g)))]) C.1 C.2.1 dX11_feesOf_35 hl (by decide) rfl (fun ls hl => ?_)
        refine zd_iinc (k := 1) (lv' := [(5, .int (zI (j + (-1)))), (4, .int (zI ((rs).tdiv (6)))), (0, .ref (bs + (i))), (1, .int (zI (a))), (2, .int (zI (b))), (3, .int (zI (g)))]) C hl rfl dX11_feesOf_37 (by decide) rfl (fun ls hl => ?_)
        refine lv_goto (tgt := 13) C.1 C.2.1 dX11_feesOf_40 (by decide) ?_
        obtain ⟨o32, hF⟩ := hF
        exact ih3 ((rs).tdiv (6)) (j + (-1)) X31 (tdiv_rI hrs (show (6 : Int) ≠ -1 from (by decide))) o32 hF.1 (Nat.lt_of_lt_of_le hF.2 (Nat.le_of_lt_succ hmu3)) _ _ _ hH hS (lv_sub hl [1, 0, 2, 3, 4, 5] rfl)
  exact L3 (((b - 1 + 1).toNat) + 1) (g) (b - 1) X2 hg o33 hI3 (Nat.lt_succ_self _) _ _ _ hH hS (lv_sub hl [1, 0, 2, 3, 4, 5] rfl)
theorem v_X11_feesOf {X Y : Nat → Int → Int} {R : Nat → Int → Option Nat} {i : Nat} (a : Int) (ha : rI a) (b : Int) (hb : rI b) (g : Int) (hg : rI g) (hp : (0 ≤ a ∧ a < 15) ∧ (0 ≤ b ∧ b ≤ 3) ∧ (0 ≤ g ∧ g < 1000) ∧ (0 ≤ X i 26 ∧ X i 26 ≤ 6) ∧ oPq X i ∧ ∀ y, 0 ≤ y → y < 6 → 0 ≤ X (i + 16) (6 * a + y) ∧ X (i + 16) (6 * a + y) ≤ 100000) : F_X11_feesOf i X Y R a b g := by
  unfold F_X11_feesOf
  intro hX hY
  obtain ⟨ha, hb, hg, h26, hpq, hled⟩ := hp
  refine ⟨?_, ?_⟩
  · first | omega | exact ⟨by omega, by omega⟩ | decide | assumption | exact ⟨by omega, by omega, by omega⟩ | exact ⟨by decide, by decide⟩
  intro X2
  intro rX2
  intro h1
  obtain ⟨o1, p1⟩ := h1
  refine ⟨?_, ?_⟩
  · first | omega | exact ⟨by omega, by omega⟩ | decide | assumption | exact ⟨by omega, by omega, by omega⟩ | exact ⟨by decide, by decide⟩
  refine ⟨?_, ?_⟩
  · exact ⟨0, by omega, by omega, by rw [Nat.pow_zero, Nat.div_one]; omega, fun y h _ => o1 y h, p1, fun y h1 h2 => by omega⟩
  intro rs j X4
  intro _
  intro _
  intro rX4
  intro h2
  obtain ⟨q, hj, hqb, hz, pu, pp, prw⟩ := h2
  refine ⟨?_, ?_⟩
  · intro c1
    refine ⟨?_, ?_⟩
    · exact ⟨0, rfl, by omega, pu, fun y hy => prw y (by omega) hy, fun y y0 y1 => (by rw [pp y y0 y1]; have := hled y y0 y1; exact ⟨by omega, by omega⟩), ⟨by decide, by decide⟩, fun L hL => ⟨L, rfl, fun y y0 y1 => (by show X4 (i + 19) y = L y; rw [pp y y0 y1]; exact hL y y0 y1)⟩⟩
    intro w sm j X7
    intro _
    intro _
    intro _
    intro rX7
    intro h3
    obtain ⟨q, hj, hqb, pu, prw, opu, hzb, hL⟩ := h3
    subst hj
    refine ⟨?_, ?_⟩
    · intro c2
      refine ⟨pu, ⟨by omega, by omega⟩, fun L h => ?_⟩
      obtain ⟨M, e, _⟩ := hL L h
      rw [show b.toNat = q by omega] at e ⊢
      exact (fsV_e e).symm
    intro c3
    have s0 : X7 i = X i := pu _ (by omega) (by omega)
    have s10 : X7 (i + 10) = X (i + 10) := pu _ (by omega) (by omega)
    have eQn : mQn X7 i = mQn X i := by
      unfold mQn
      rw [s0, s10]
    have eQf : ∀ k w, mQf X7 i k w = mQf X i k w := fun k w => by
      unfold mQf
      rw [s0, s10]
    have opo : oPo X7 i := by
      show 0 ≤ X7 i 48 ∧ X7 i 48 ≤ 1
      rw [s0]
      exact hpq.1
    have rj := prw q (by omega)
    have k6 : dg6 b.toNat g.toNat q < 6 := Nat.mod_lt _ (by decide)
    have st : ∀ L M, rFs X i L g.toNat b.toNat q = some (w, sm, M) → rFs X i L g.toNat b.toNat (q + 1) = if decide ((dg6 b.toNat g.toNat q : Int) < mQn X i) && !mHas w (dg6 b.toNat g.toNat q) && (mIn (qF X i 0 (dg6 b.toNat g.toNat q)) 0 (X i 26 - 1) && mIn (qF X i 1 (dg6 b.toNat g.toNat q)) 0 (X i 26 - 1) && decide (qF X i 2 (dg6 b.toNat g.toNat q) + qF X i 3 (dg6 b.toNat g.toNat q) ≤ M (qF X i 0 (dg6 b.toNat g.toNat q)))) then some (zOr w (zShl 1 (dg6 b.toNat g.toNat q)), sm + qF X i 3 (dg6 b.toNat g.toNat q), upI (upI M (qF X i 0 (dg6 b.toNat g.toNat q)) (M (qF X i 0 (dg6 b.toNat g.toNat q)) - (qF X i 2 (dg6 b.toNat g.toNat q) + qF X i 3 (dg6 b.toNat g.toNat q)))) (qF X i 1 (dg6 b.toNat g.toNat q)) (upI M (qF X i 0 (dg6 b.toNat g.toNat q)) (M (qF X i 0 (dg6 b.toNat g.toNat q)) - (qF X i 2 (dg6 b.toNat g.toNat q) + qF X i 3 (dg6 b.toNat g.toNat q))) (qF X i 1 (dg6 b.toNat g.toNat q)) + qF X i 2 (dg6 b.toNat g.toNat q))) else none := fun L M e => fsU_s e
    have fl : (∀ L M, rFs X i L g.toNat b.toNat q = some (w, sm, M) → eq6 (fun y => X7 (i + 19) y) M → rFs X i L g.toNat b.toNat (q + 1) = none) → (pu9 X X7 i ∧ (-1 ≤ (-1 : Int) ∧ (-1 : Int) ≤ 27) ∧ ∀ L, eq6 (fun y => X (i + 16) (6 * a + y)) L → (-1 : Int) = rFv X i L g.toNat b.toNat) := fun hn => ⟨pu, ⟨by decide, by decide⟩, fun L h => by
      obtain ⟨M, e, e2⟩ := hL L h
      have e3 := fsU_no (hn L M e e2) (b.toNat - (q + 1))
      rw [show q + 1 + (b.toNat - (q + 1)) = b.toNat by omega] at e3
      exact (fsV_n e3).symm⟩
    simp only [eQn, eQf, rj, s0]
    generalize dg6 b.toNat g.toNat q = k at st k6 rj ⊢
    refine ⟨?_, ?_⟩
    · first | omega | exact ⟨by omega, by omega⟩ | decide | assumption | exact ⟨by omega, by omega, by omega⟩ | exact ⟨by decide, by decide⟩
    refine ⟨?_, ?_⟩
    · exact opo
    intro _
    refine ⟨?_, ?_⟩
    · intro c4
      exact fl (fun L M e e2 => by rw [st L M e, decide_eq_false (by omega)]; rfl)
    intro c5
    have pk : (0 ≤ mQf X i k 0 ∧ mQf X i k 0 ≤ 5) ∧ (0 ≤ mQf X i k 1 ∧ mQf X i k 1 ≤ 5) ∧ (1 ≤ mQf X i k 2 ∧ mQf X i k 2 ≤ 99) ∧ (0 ≤ mQf X i k 3 ∧ mQf X i k 3 ≤ 9) := hpq.2.2 k (by omega)
    have dk : decide ((k : Int) < mQn X i) = true := decide_eq_true (by omega)
    have st : ∀ L M, rFs X i L g.toNat b.toNat q = some (w, sm, M) → rFs X i L g.toNat b.toNat (q + 1) = if decide ((k : Int) < mQn X i) && !mHas w k && (mIn (mQf X i k 0) 0 (X i 26 - 1) && mIn (mQf X i k 1) 0 (X i 26 - 1) && decide (mQf X i k 2 + mQf X i k 3 ≤ M (mQf X i k 0))) then some (zOr w (zShl 1 k), sm + mQf X i k 3, upI (upI M (mQf X i k 0) (M (mQf X i k 0) - (mQf X i k 2 + mQf X i k 3))) (mQf X i k 1) (upI M (mQf X i k 0) (M (mQf X i k 0) - (mQf X i k 2 + mQf X i k 3)) (mQf X i k 1) + mQf X i k 2)) else none := st
    refine ⟨?_, ?_⟩
    · intro c6
      exact fl (fun L M e e2 => by rw [st L M e, dk, c6]; rfl)
    intro c7
    rw [dk, c7] at st
    have key : ∀ M, eq6 (fun y => X7 (i + 19) y) M → (mIn (mQf X i k 0) 0 (X i 26 - 1) && mIn (mQf X i k 1) 0 (X i 26 - 1) && decide (mQf X i k 2 + mQf X i k 3 ≤ M (mQf X i k 0))) = (mIn (mQf X i k 0) 0 (X i 26 - 1) && mIn (mQf X i k 1) 0 (X i 26 - 1) && decide (mQf X i k 2 + mQf X i k 3 ≤ X7 (i + 19) (mQf X i k 0))) := fun M e2 => by
      have e3 : X7 (i + 19) (mQf X i k 0) = M (mQf X i k 0) := e2 _ (by omega) (by omega)
      rw [e3]
    refine ⟨?_, ?_⟩
    · exact ⟨opo, ⟨by omega, by omega⟩, by decide, by decide⟩
    intro _
    refine ⟨?_, ?_⟩
    · exact ⟨opo, ⟨by omega, by omega⟩, by decide, by decide⟩
    intro _
    refine ⟨?_, ?_⟩
    · exact ⟨opo, ⟨by omega, by omega⟩, by decide, by decide⟩
    intro _
    refine ⟨?_, ?_⟩
    · exact ⟨opo, ⟨by omega, by omega⟩, by decide, by decide⟩
    intro _
    refine ⟨?_, ?_⟩
    · exact ⟨h26, fun y y0 y1 => ⟨(opu y y0 y1).1, by have := (opu y y0 y1).2; omega⟩, ⟨by omega, by omega⟩, by omega, by omega⟩
    intro r24
    intro X23
    intro rX23
    intro h4
    obtain ⟨er, eX⟩ := h4
    refine ⟨?_, ?_⟩
    · intro c8
      rw [c8, if_pos rfl] at eX
      rw [c8] at er
      have s23 : ∀ y, y ≠ i + 19 → X23 y = X7 y := fun y hy => by rw [eX, zU_o hy, zU_o hy]
      have eF23 : mQf X23 i k 3 = mQf X i k 3 := by
        unfold mQf
        rw [s23 _ (by omega), s23 _ (by omega), s0, s10]
      rw [eF23]
      have x23 : X23 (i + 19) = upI (upI (X7 (i + 19)) (mQf X i k 0) (X7 (i + 19) (mQf X i k 0) - (mQf X i k 2 + mQf X i k 3))) (mQf X i k 1) (upI (X7 (i + 19)) (mQf X i k 0) (X7 (i + 19) (mQf X i k 0) - (mQf X i k 2 + mQf X i k 3)) (mQf X i k 1) + mQf X i k 2) := by
        rw [eX, zU_up, zU_up]
      have er2 := er.symm
      simp only [Bool.and_eq_true, decide_eq_true_eq] at er2
      have of := opu (mQf X i k 0) (by omega) (by omega)
      have ot := opu (mQf X i k 1) (by omega) (by omega)
      refine ⟨?_, ?_⟩
      · refine ⟨?_, ⟨by omega, by omega⟩, by decide, by decide⟩
        show 0 ≤ X23 i 48 ∧ X23 i 48 ≤ 1
        rw [s23 _ (by omega)]
        exact opo
      intro _
      refine ⟨?_, ?_⟩
      · first | omega | exact ⟨by omega, by omega⟩ | decide | assumption | exact ⟨by omega, by omega, by omega⟩ | exact ⟨by decide, by decide⟩
      refine ⟨?_, ?_⟩
      · first | omega | exact ⟨by omega, by omega⟩ | decide | assumption | exact ⟨by omega, by omega, by omega⟩ | exact ⟨by decide, by decide⟩
      refine ⟨?_, ?_⟩
      · refine ⟨q + 1, by omega, by omega, fun y h1 h2 => (by rw [s23 y h1]; exact pu y h1 h2), fun y hy => (by rw [s23 _ (by omega)]; exact prw y hy), fun y y0 y1 => ?_, ⟨by omega, by omega⟩, fun L h => ?_⟩
        · rw [x23]
          have oy := opu y y0 y1
          unfold upI
          split
          · split
            · exact ⟨by omega, by omega⟩
            · exact ⟨by omega, by omega⟩
          · split
            · exact ⟨by omega, by omega⟩
            · exact ⟨by omega, by omega⟩
        · obtain ⟨M, e, e2⟩ := hL L h
          have ef : X7 (i + 19) (mQf X i k 0) = M (mQf X i k 0) := e2 _ (by omega) (by omega)
          have e4 := upI_c e2 (f := mQf X i k 0) (v := M (mQf X i k 0) - (mQf X i k 2 + mQf X i k 3))
          have e5 := e4 (mQf X i k 1) (by omega) (by omega)
          refine ⟨_, by rw [st L M e, key M e2, ← er]; rfl, ?_⟩
          show eq6 (X23 (i + 19)) _
          rw [x23, ef]
          have e5 : upI (X7 (i + 19)) (mQf X i k 0) (M (mQf X i k 0) - (mQf X i k 2 + mQf X i k 3)) (mQf X i k 1) = upI M (mQf X i k 0) (M (mQf X i k 0) - (mQf X i k 2 + mQf X i k 3)) (mQf X i k 1) := e5
          rw [e5]
          exact upI_c e4
      first | omega | exact ⟨by omega, by omega⟩ | decide | assumption | exact ⟨by omega, by omega, by omega⟩ | exact ⟨by decide, by decide⟩
    intro c9
    rw [c9, if_neg (by decide)] at eX
    rw [c9] at er
    rw [eX]
    exact fl (fun L M e e2 => by rw [st L M e, key M e2, ← er]; rfl)
  intro c10
  subst hz
  refine ⟨?_, ?_⟩
  · first | omega | exact ⟨by omega, by omega⟩ | decide | assumption | exact ⟨by omega, by omega, by omega⟩ | exact ⟨by decide, by decide⟩
  intro X31
  intro eX31
  intro rX31
  refine ⟨?_, ?_⟩
  · first | omega | exact ⟨by omega, by omega⟩ | decide | assumption | exact ⟨by omega, by omega, by omega⟩ | exact ⟨by decide, by decide⟩
  refine ⟨?_, ?_⟩
  · refine ⟨q + 1, by omega, by omega, ?_, fun y h1 h2 => (by rw [eX31, zU_o h2]; exact pu y h1 h2), fun y y0 y1 => (by rw [eX31, zU_o (by omega)]; exact pp y y0 y1), fun y h1 h2 => ?_⟩
    · show ((g.toNat / 6 ^ q / 6 : Nat) : Int) = _
      rw [Nat.div_div_eq_div_mul, ← Nat.pow_succ]
    · rw [eX31]
      by_cases e : (y : Int) = j
      · rw [zU_at e]
        show ((g.toNat / 6 ^ q % 6 : Nat) : Int) = ((g.toNat / 6 ^ (b.toNat - 1 - y) % 6 : Nat) : Int)
        rw [show b.toNat - 1 - y = q by omega]
      · rw [zU_n (by omega)]
        exact prw y (by omega) h2
  first | omega | exact ⟨by omega, by omega⟩ | decide | assumption | exact ⟨by omega, by omega, by omega⟩ | exact ⟨by decide, by decide⟩
theorem c_X11_feesOf {l : Launch} {D : va_G} {cy : Nat → ClassId} {bs N : Nat} {sa : Nat → Nat} {kd len : Nat → Nat} {X Y : Nat → Int → Int} {R : Nat → Int → Option Nat} {i : Nat} (hM : zM N kd len R i) (a : Int) (ha : rI a) (b : Int) (hb : rI b) (g : Int) (hg : rI g) (hp : (0 ≤ a ∧ a < 15) ∧ (0 ≤ b ∧ b ≤ 3) ∧ (0 ≤ g ∧ g < 1000) ∧ (0 ≤ X i 26 ∧ X i 26 ≤ 6) ∧ oPq X i ∧ ∀ y, 0 ≤ y → y < 6 → 0 ≤ X (i + 16) (6 * a + y) ∧ X (i + 16) (6 * a + y) ≤ 100000) : Met l yX11_feesOf (.code yX11_feesOf cX11_feesOf 9 (some .int) :: zTB) (zRm 3 67) (zPc D cy bs sa N kd len X Y R [.ref (bs + (i)), .int (zI (a)), .int (zI (b)), .int (zI (g))]) (zQi D cy bs N kd len (fun r st => st.2.1 = Y ∧ st.2.2 = R ∧ (pu9 X (st.1) i ∧ (-1 ≤ r ∧ r ≤ 27) ∧ ∀ L, eq6 (fun y => X (i + 16) (6 * a + y)) L → r = rFv X i L (g).toNat (b).toNat))) 0 0 (zA bs) := w_X11_feesOf hM a ha b hb g hg (v_X11_feesOf a ha b hb g hg hp)
