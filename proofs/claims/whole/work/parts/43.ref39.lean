/-! REPLAY -/
def rpP (acc : Int) (pf pt pm : Nat → Int) (s : (Int → Int) × Int) : Nat → (Int → Int) × Int
  | 0 => s
  | j + 1 => if mIn (pf j) 0 (acc - 1) && mIn (pt j) 0 (acc - 1) && decide (pm j ≤ (rpP acc pf pt pm s j).1 (pf j)) then
      (upI (upI (rpP acc pf pt pm s j).1 (pf j) ((rpP acc pf pt pm s j).1 (pf j) - pm j)) (pt j) (upI (rpP acc pf pt pm s j).1 (pf j) ((rpP acc pf pt pm s j).1 (pf j) - pm j) (pt j) + pm j), (rpP acc pf pt pm s j).2 + 1)
    else rpP acc pf pt pm s j
def rpB (acc : Int) (np : Nat → Nat) (pf pt pm : Nat → Nat → Int) (set : Int) (L : Int → Int) : Nat → (Int → Int) × Int × Int
  | 0 => (L, 0, 0)
  | k + 1 => if decide (1 ≤ k) && mHas set k then
      ((rpP acc (pf k) (pt k) (pm k) ((rpB acc np pf pt pm set L k).1, (rpB acc np pf pt pm set L k).2.1) (np k)).1, (rpP acc (pf k) (pt k) (pm k) ((rpB acc np pf pt pm set L k).1, (rpB acc np pf pt pm set L k).2.1) (np k)).2, (rpB acc np pf pt pm set L k).2.2 + np k)
    else rpB acc np pf pt pm set L k
abbrev rpZ (Z : Nat → Int → Int) (i : Nat) (set : Int) (L : Int → Int) : Nat → (Int → Int) × Int × Int := rpB (Z i 26) (fun k => (mC Z i k 3).toNat) (fun k => rF Z i k) (fun k => rO Z i k) (fun k => rM Z i k) set L
def rpS (Z : Nat → Int → Int) (i a b : Nat) : (Int → Int) × Int × Int := rpZ Z i (zAnd (wyP (rP Z i) a) (zXor (wyP (rP Z i) b) (-1))) (rLd Z i b) (Z i 27).toNat
def rReplay (X : Nat → Int → Int) (i : Nat) (n c a b : Int) (u : Bool) : Int := if rOk X i n c && (mIn a 0 (qN X i c) && (mIn b 0 (qN X i c) && (sdf (hZ X i n c 0) i a.toNat && sdf (hZ X i n c 0) i b.toNat))) then (if u then (rpS (hZ X i n c 0) i a.toNat b.toNat).2.2 - (rpS (hZ X i n c 0) i a.toNat b.toNat).2.1 else (rpS (hZ X i n c 0) i a.toNat b.toNat).2.1) else -1
abbrev cX11_replay : ByteArray := prog_13_method_92_code
def yX11_replay : MethodName := ⟨RX11, "replay", "(IIIIZ)I"⟩
theorem dX11_replay_0 : decode cX11_replay 0 = .ok (.aload_n 0, 1) := by decide +kernel
theorem dX11_replay_1 : decode cX11_replay 1 = .ok (.iconst 0, 1) := by decide +kernel
theorem dX11_replay_2 : decode cX11_replay 2 = .ok (.putfield 88, 3) := by decide +kernel
theorem dX11_replay_5 : decode cX11_replay 5 = .ok (.aload_n 0, 1) := by decide +kernel
theorem dX11_replay_6 : decode cX11_replay 6 = .ok (.iload_n 1, 1) := by decide +kernel
theorem dX11_replay_7 : decode cX11_replay 7 = .ok (.iload_n 2, 1) := by decide +kernel
theorem dX11_replay_8 : decode cX11_replay 8 = .ok (.invokevirtual 397, 3) := by decide +kernel
theorem dX11_replay_11 : decode cX11_replay 11 = .ok (.ifCond .eq 43, 3) := by decide +kernel
theorem dX11_replay_14 : decode cX11_replay 14 = .ok (.aload_n 0, 1) := by decide +kernel
theorem dX11_replay_15 : decode cX11_replay 15 = .ok (.iload_n 3, 1) := by decide +kernel
theorem dX11_replay_16 : decode cX11_replay 16 = .ok (.invokevirtual 319, 3) := by decide +kernel
theorem dX11_replay_19 : decode cX11_replay 19 = .ok (.ifCond .eq 35, 3) := by decide +kernel
theorem dX11_replay_22 : decode cX11_replay 22 = .ok (.aload_n 0, 1) := by decide +kernel
theorem dX11_replay_23 : decode cX11_replay 23 = .ok (.iload 4, 2) := by decide +kernel
theorem dX11_replay_25 : decode cX11_replay 25 = .ok (.invokevirtual 319, 3) := by decide +kernel
theorem dX11_replay_28 : decode cX11_replay 28 = .ok (.ifCond .eq 26, 3) := by decide +kernel
theorem dX11_replay_31 : decode cX11_replay 31 = .ok (.aload_n 0, 1) := by decide +kernel
theorem dX11_replay_32 : decode cX11_replay 32 = .ok (.getfield 292, 3) := by decide +kernel
theorem dX11_replay_35 : decode cX11_replay 35 = .ok (.iload_n 3, 1) := by decide +kernel
theorem dX11_replay_36 : decode cX11_replay 36 = .ok (.invokestatic 92, 3) := by decide +kernel
theorem dX11_replay_39 : decode cX11_replay 39 = .ok (.ifCond .eq 15, 3) := by decide +kernel
theorem dX11_replay_42 : decode cX11_replay 42 = .ok (.aload_n 0, 1) := by decide +kernel
theorem dX11_replay_43 : decode cX11_replay 43 = .ok (.getfield 292, 3) := by decide +kernel
theorem dX11_replay_46 : decode cX11_replay 46 = .ok (.iload 4, 2) := by decide +kernel
theorem dX11_replay_48 : decode cX11_replay 48 = .ok (.invokestatic 92, 3) := by decide +kernel
theorem dX11_replay_51 : decode cX11_replay 51 = .ok (.ifCond .ne 5, 3) := by decide +kernel
theorem dX11_replay_54 : decode cX11_replay 54 = .ok (.iconst (-1), 1) := by decide +kernel
theorem dX11_replay_55 : decode cX11_replay 55 = .ok (.ireturn, 1) := by decide +kernel
theorem dX11_replay_56 : decode cX11_replay 56 = .ok (.aload_n 0, 1) := by decide +kernel
theorem dX11_replay_57 : decode cX11_replay 57 = .ok (.iload 4, 2) := by decide +kernel
theorem dX11_replay_59 : decode cX11_replay 59 = .ok (.invokevirtual 441, 3) := by decide +kernel
theorem dX11_replay_62 : decode cX11_replay 62 = .ok (.aload_n 0, 1) := by decide +kernel
theorem dX11_replay_63 : decode cX11_replay 63 = .ok (.iload_n 3, 1) := by decide +kernel
theorem dX11_replay_64 : decode cX11_replay 64 = .ok (.invokevirtual 382, 3) := by decide +kernel
theorem dX11_replay_67 : decode cX11_replay 67 = .ok (.aload_n 0, 1) := by decide +kernel
theorem dX11_replay_68 : decode cX11_replay 68 = .ok (.iload 4, 2) := by decide +kernel
theorem dX11_replay_70 : decode cX11_replay 70 = .ok (.invokevirtual 382, 3) := by decide +kernel
theorem dX11_replay_73 : decode cX11_replay 73 = .ok (.iconst (-1), 1) := by decide +kernel
theorem dX11_replay_74 : decode cX11_replay 74 = .ok (.ixor, 1) := by decide +kernel
theorem dX11_replay_75 : decode cX11_replay 75 = .ok (.iand, 1) := by decide +kernel
theorem dX11_replay_76 : decode cX11_replay 76 = .ok (.istore 6, 2) := by decide +kernel
theorem dX11_replay_78 : decode cX11_replay 78 = .ok (.iconst 0, 1) := by decide +kernel
theorem dX11_replay_79 : decode cX11_replay 79 = .ok (.istore 7, 2) := by decide +kernel
theorem dX11_replay_81 : decode cX11_replay 81 = .ok (.iconst 0, 1) := by decide +kernel
theorem dX11_replay_82 : decode cX11_replay 82 = .ok (.istore 8, 2) := by decide +kernel
theorem dX11_replay_84 : decode cX11_replay 84 = .ok (.iconst 1, 1) := by decide +kernel
theorem dX11_replay_85 : decode cX11_replay 85 = .ok (.istore 9, 2) := by decide +kernel
theorem dX11_replay_87 : decode cX11_replay 87 = .ok (.iload 9, 2) := by decide +kernel
theorem dX11_replay_89 : decode cX11_replay 89 = .ok (.aload_n 0, 1) := by decide +kernel
theorem dX11_replay_90 : decode cX11_replay 90 = .ok (.getfield 255, 3) := by decide +kernel
theorem dX11_replay_93 : decode cX11_replay 93 = .ok (.if_icmp .ge 98, 3) := by decide +kernel
theorem dX11_replay_96 : decode cX11_replay 96 = .ok (.iconst 0, 1) := by decide +kernel
theorem dX11_replay_97 : decode cX11_replay 97 = .ok (.istore 10, 2) := by decide +kernel
theorem dX11_replay_99 : decode cX11_replay 99 = .ok (.iload 6, 2) := by decide +kernel
theorem dX11_replay_101 : decode cX11_replay 101 = .ok (.iload 9, 2) := by decide +kernel
theorem dX11_replay_103 : decode cX11_replay 103 = .ok (.invokestatic 92, 3) := by decide +kernel
theorem dX11_replay_106 : decode cX11_replay 106 = .ok (.ifCond .eq 79, 3) := by decide +kernel
theorem dX11_replay_109 : decode cX11_replay 109 = .ok (.iload 10, 2) := by decide +kernel
theorem dX11_replay_111 : decode cX11_replay 111 = .ok (.aload_n 0, 1) := by decide +kernel
theorem dX11_replay_112 : decode cX11_replay 112 = .ok (.iload 9, 2) := by decide +kernel
theorem dX11_replay_114 : decode cX11_replay 114 = .ok (.iconst 3, 1) := by decide +kernel
theorem dX11_replay_115 : decode cX11_replay 115 = .ok (.invokevirtual 258, 3) := by decide +kernel
theorem dX11_replay_118 : decode cX11_replay 118 = .ok (.if_icmp .ge 67, 3) := by decide +kernel
theorem dX11_replay_121 : decode cX11_replay 121 = .ok (.iinc 8 1, 3) := by decide +kernel
theorem dX11_replay_124 : decode cX11_replay 124 = .ok (.iload 7, 2) := by decide +kernel
theorem dX11_replay_126 : decode cX11_replay 126 = .ok (.aload_n 0, 1) := by decide +kernel
theorem dX11_replay_127 : decode cX11_replay 127 = .ok (.aload_n 0, 1) := by decide +kernel
theorem dX11_replay_128 : decode cX11_replay 128 = .ok (.iload 9, 2) := by decide +kernel
theorem dX11_replay_130 : decode cX11_replay 130 = .ok (.iconst 4, 1) := by decide +kernel
theorem dX11_replay_131 : decode cX11_replay 131 = .ok (.iconst 3, 1) := by decide +kernel
theorem dX11_replay_132 : decode cX11_replay 132 = .ok (.iload 10, 2) := by decide +kernel
theorem dX11_replay_134 : decode cX11_replay 134 = .ok (.imul, 1) := by decide +kernel
theorem dX11_replay_135 : decode cX11_replay 135 = .ok (.iadd, 1) := by decide +kernel
theorem dX11_replay_136 : decode cX11_replay 136 = .ok (.invokevirtual 258, 3) := by decide +kernel
theorem dX11_replay_139 : decode cX11_replay 139 = .ok (.aload_n 0, 1) := by decide +kernel
theorem dX11_replay_140 : decode cX11_replay 140 = .ok (.iload 9, 2) := by decide +kernel
theorem dX11_replay_142 : decode cX11_replay 142 = .ok (.iconst 5, 1) := by decide +kernel
theorem dX11_replay_143 : decode cX11_replay 143 = .ok (.iconst 3, 1) := by decide +kernel
theorem dX11_replay_144 : decode cX11_replay 144 = .ok (.iload 10, 2) := by decide +kernel
theorem dX11_replay_146 : decode cX11_replay 146 = .ok (.imul, 1) := by decide +kernel
theorem dX11_replay_147 : decode cX11_replay 147 = .ok (.iadd, 1) := by decide +kernel
theorem dX11_replay_148 : decode cX11_replay 148 = .ok (.invokevirtual 258, 3) := by decide +kernel
theorem dX11_replay_151 : decode cX11_replay 151 = .ok (.aload_n 0, 1) := by decide +kernel
theorem dX11_replay_152 : decode cX11_replay 152 = .ok (.iload 9, 2) := by decide +kernel
theorem dX11_replay_154 : decode cX11_replay 154 = .ok (.bipush 6, 2) := by decide +kernel
theorem dX11_replay_156 : decode cX11_replay 156 = .ok (.iconst 3, 1) := by decide +kernel
theorem dX11_replay_157 : decode cX11_replay 157 = .ok (.iload 10, 2) := by decide +kernel
theorem dX11_replay_159 : decode cX11_replay 159 = .ok (.imul, 1) := by decide +kernel
theorem dX11_replay_160 : decode cX11_replay 160 = .ok (.iadd, 1) := by decide +kernel
theorem dX11_replay_161 : decode cX11_replay 161 = .ok (.invokevirtual 258, 3) := by decide +kernel
theorem dX11_replay_164 : decode cX11_replay 164 = .ok (.iconst 0, 1) := by decide +kernel
theorem dX11_replay_165 : decode cX11_replay 165 = .ok (.invokevirtual 444, 3) := by decide +kernel
theorem dX11_replay_168 : decode cX11_replay 168 = .ok (.ifCond .eq 7, 3) := by decide +kernel
theorem dX11_replay_171 : decode cX11_replay 171 = .ok (.iconst 1, 1) := by decide +kernel
theorem dX11_replay_172 : decode cX11_replay 172 = .ok (.goto 4, 3) := by decide +kernel
theorem dX11_replay_175 : decode cX11_replay 175 = .ok (.iconst 0, 1) := by decide +kernel
theorem dX11_replay_176 : decode cX11_replay 176 = .ok (.iadd, 1) := by decide +kernel
theorem dX11_replay_177 : decode cX11_replay 177 = .ok (.istore 7, 2) := by decide +kernel
theorem dX11_replay_179 : decode cX11_replay 179 = .ok (.iinc 10 1, 3) := by decide +kernel
theorem dX11_replay_182 : decode cX11_replay 182 = .ok (.goto (-83), 3) := by decide +kernel
theorem dX11_replay_185 : decode cX11_replay 185 = .ok (.iinc 9 1, 3) := by decide +kernel
theorem dX11_replay_188 : decode cX11_replay 188 = .ok (.goto (-101), 3) := by decide +kernel
theorem dX11_replay_191 : decode cX11_replay 191 = .ok (.iload 5, 2) := by decide +kernel
theorem dX11_replay_193 : decode cX11_replay 193 = .ok (.ifCond .eq 11, 3) := by decide +kernel
theorem dX11_replay_196 : decode cX11_replay 196 = .ok (.iload 8, 2) := by decide +kernel
theorem dX11_replay_198 : decode cX11_replay 198 = .ok (.iload 7, 2) := by decide +kernel
theorem dX11_replay_200 : decode cX11_replay 200 = .ok (.isub, 1) := by decide +kernel
theorem dX11_replay_201 : decode cX11_replay 201 = .ok (.goto 5, 3) := by decide +kernel
theorem dX11_replay_204 : decode cX11_replay 204 = .ok (.iload 7, 2) := by decide +kernel
theorem dX11_replay_206 : decode cX11_replay 206 = .ok (.ireturn, 1) := by decide +kernel
def F_X11_replay (i : Nat) (X Y : Nat → Int → Int) (R : Nat → Int → Option Nat) (a : Int) (b : Int) (g : Int) (d : Int) (f : Bool) : Prop := (∀ i j, rI (X i j)) → (∀ i j, rL (Y i j)) → ∀ X1 : Nat → Int → Int, X1 = zU X (i) 0 (0) → (∀ i j, rI (X1 i j)) → ((oTN X1 i) ∧ (∀ r5 : Bool, ∀ X3 : Nat → Int → Int, (∀ i j, rI (X3 i j)) → ∀ Y4 : Nat → Int → Int, (∀ i j, rL (Y4 i j)) → (r5 = (mIs i X1 1 (b) && mIs i X1 0 (a)) ∧ hK X1 (X3) Y (Y4) i ∧ (r5 = true → hS9 X1 (X3) i (a) (b) ∧ oH (X3) (Y4) i)) → (((r5 = false) → ((-1) = rReplay X i (a) (b) (g) (d) f ∧ pK X (X3) i)) ∧ ((r5 = true) → ((0 ≤ X3 i 27) ∧ ((((mIn (g) 0 (X3 i 27 - 1)) = false) → ((-1) = rReplay X i (a) (b) (g) (d) f ∧ pK X (X3) i)) ∧ (((mIn (g) 0 (X3 i 27 - 1)) = true) → ((0 ≤ X3 i 27) ∧ ((((mIn (d) 0 (X3 i 27 - 1)) = false) → ((-1) = rReplay X i (a) (b) (g) (d) f ∧ pK X (X3) i)) ∧ (((mIn (d) 0 (X3 i 27 - 1)) = true) → ((((mHas (X3 (i) 35) (g)) = false) → ((-1) = rReplay X i (a) (b) (g) (d) f ∧ pK X (X3) i)) ∧ (((mHas (X3 (i) 35) (g)) = true) → ((((mHas (X3 (i) 35) (d)) = true) → ((0 ≤ d ∧ d < 15) ∧ (∀ X14 : Nat → Int → Int, (∀ i j, rI (X14 i j)) → ((∀ z, z ≠ i + 19 → (X14) z = X3 z) ∧ ∀ z, 0 ≤ z → z < 6 → (X14) (i + 19) z = X3 (i + 16) (6 * (d) + z)) → ((∃ n : Nat, oB X14 i n ∧ 0 ≤ g ∧ g ≤ n) ∧ (rI (rWy X14 i (g).toNat) → ((∃ n : Nat, oB X14 i n ∧ 0 ≤ d ∧ d ≤ n) ∧ (rI (rWy X14 i (d).toNat) → ((∃ q : Nat, ((1 : Int)) = (q : Int) ∧ 1 ≤ q ∧ ((1 : Int)) ≤ (X14 i 27) ∧ (∀ z, z ≠ i + 19 → X14 z = X14 z) ∧ ((0 ≤ ((0 : Int)) ∧ ((0 : Int)) ≤ ((0 : Int))) ∧ ((0 : Int)) ≤ 3 * (q : Int)) ∧ oPu X14 i (200000 + 99 * ((0 : Int))) ∧ ∃ M, rpZ (hZ X i a b 0) i (zAnd (wyP (rP (hZ X i a b 0) i) g.toNat) (zXor (wyP (rP (hZ X i a b 0) i) d.toNat) (-1))) (rLd (hZ X i a b 0) i d.toNat) q = (M, ((0 : Int)), ((0 : Int))) ∧ eq6 (X14 (i + 19)) M) ∧ (∀ (ar : Int) (al : Int) (k : Int) (X20 : Nat → Int → Int), rI ar → rI al → rI k → (∀ i j, rI (X20 i j)) → (∃ q : Nat, (k) = (q : Int) ∧ 1 ≤ q ∧ (k) ≤ (X14 i 27) ∧ (∀ z, z ≠ i + 19 → X20 z = X14 z) ∧ ((0 ≤ (ar) ∧ (ar) ≤ (al)) ∧ (al) ≤ 3 * (q : Int)) ∧ oPu X20 i (200000 + 99 * (al)) ∧ ∃ M, rpZ (hZ X i a b 0) i (zAnd (wyP (rP (hZ X i a b 0) i) g.toNat) (zXor (wyP (rP (hZ X i a b 0) i) d.toNat) (-1))) (rLd (hZ X i a b 0) i d.toNat) q = (M, (ar), (al)) ∧ eq6 (X20 (i + 19)) M) → ((((X20 (i) 27) ≤ k) → (((f = false) → (ar = rReplay X i (a) (b) (g) (d) f ∧ pK X (X20) i)) ∧ ((f = true) → ((rI (al - ar)) ∧ (al - ar = rReplay X i (a) (b) (g) (d) f ∧ pK X (X20) i))))) ∧ ((¬ ((X20 (i) 27) ≤ k)) → ((∃ p q : Nat, k = (q : Int) ∧ ((0 : Int)) = (p : Int) ∧ (p = 0 ∨ (mHas (zAnd (wyP (rP (hZ X i a b 0) i) g.toNat) (zXor (wyP (rP (hZ X i a b 0) i) d.toNat) (-1))) q = true ∧ ((0 : Int)) ≤ mC (hZ X i a b 0) i q 3)) ∧ (∀ z, z ≠ i + 19 → X20 z = X20 z) ∧ ((0 ≤ (ar) ∧ (ar) ≤ (al)) ∧ (al) ≤ 3 * (q : Int) + (p : Int)) ∧ oPu X20 i (200000 + 99 * (al)) ∧ ∃ M, rpP (hZ X i a b 0 i 26) (rF (hZ X i a b 0) i q) (rO (hZ X i a b 0) i q) (rM (hZ X i a b 0) i q) ((rpZ (hZ X i a b 0) i (zAnd (wyP (rP (hZ X i a b 0) i) g.toNat) (zXor (wyP (rP (hZ X i a b 0) i) d.toNat) (-1))) (rLd (hZ X i a b 0) i d.toNat) q).1, (rpZ (hZ X i a b 0) i (zAnd (wyP (rP (hZ X i a b 0) i) g.toNat) (zXor (wyP (rP (hZ X i a b 0) i) d.toNat) (-1))) (rLd (hZ X i a b 0) i d.toNat) q).2.1) p = (M, (ar)) ∧ (al) = (rpZ (hZ X i a b 0) i (zAnd (wyP (rP (hZ X i a b 0) i) g.toNat) (zXor (wyP (rP (hZ X i a b 0) i) d.toNat) (-1))) (rLd (hZ X i a b 0) i d.toNat) q).2.2 + (p : Int) ∧ eq6 (X20 (i + 19)) M) ∧ (∀ (ar : Int) (al : Int) (j : Int) (X25 : Nat → Int → Int), rI ar → rI al → rI j → (∀ i j, rI (X25 i j)) → (∃ p q : Nat, k = (q : Int) ∧ (j) = (p : Int) ∧ (p = 0 ∨ (mHas (zAnd (wyP (rP (hZ X i a b 0) i) g.toNat) (zXor (wyP (rP (hZ X i a b 0) i) d.toNat) (-1))) q = true ∧ (j) ≤ mC (hZ X i a b 0) i q 3)) ∧ (∀ z, z ≠ i + 19 → X25 z = X20 z) ∧ ((0 ≤ (ar) ∧ (ar) ≤ (al)) ∧ (al) ≤ 3 * (q : Int) + (p : Int)) ∧ oPu X25 i (200000 + 99 * (al)) ∧ ∃ M, rpP (hZ X i a b 0 i 26) (rF (hZ X i a b 0) i q) (rO (hZ X i a b 0) i q) (rM (hZ X i a b 0) i q) ((rpZ (hZ X i a b 0) i (zAnd (wyP (rP (hZ X i a b 0) i) g.toNat) (zXor (wyP (rP (hZ X i a b 0) i) d.toNat) (-1))) (rLd (hZ X i a b 0) i d.toNat) q).1, (rpZ (hZ X i a b 0) i (zAnd (wyP (rP (hZ X i a b 0) i) g.toNat) (zXor (wyP (rP (hZ X i a b 0) i) d.toNat) (-1))) (rLd (hZ X i a b 0) i d.toNat) q).2.1) p = (M, (ar)) ∧ (al) = (rpZ (hZ X i a b 0) i (zAnd (wyP (rP (hZ X i a b 0) i) g.toNat) (zXor (wyP (rP (hZ X i a b 0) i) d.toNat) (-1))) (rLd (hZ X i a b 0) i d.toNat) q).2.2 + (p : Int) ∧ eq6 (X25 (i + 19)) M) → ((((mHas (zAnd (rWy X14 i (g).toNat) (zXor (rWy X14 i (d).toNat) ((-1)))) (k)) = false) → ((rI (k + 1)) ∧ (∃ q : Nat, (k + 1) = (q : Int) ∧ 1 ≤ q ∧ (k + 1) ≤ (X14 i 27) ∧ (∀ z, z ≠ i + 19 → X25 z = X14 z) ∧ ((0 ≤ (ar) ∧ (ar) ≤ (al)) ∧ (al) ≤ 3 * (q : Int)) ∧ oPu X25 i (200000 + 99 * (al)) ∧ ∃ M, rpZ (hZ X i a b 0) i (zAnd (wyP (rP (hZ X i a b 0) i) g.toNat) (zXor (wyP (rP (hZ X i a b 0) i) d.toNat) (-1))) (rLd (hZ X i a b 0) i d.toNat) q = (M, (ar), (al)) ∧ eq6 (X25 (i + 19)) M) ∧ (((X14 i 27 - (k + 1)).toNat) < ((X14 i 27 - (k)).toNat)))) ∧ (((mHas (zAnd (rWy X14 i (g).toNat) (zXor (rWy X14 i (d).toNat) ((-1)))) (k)) = true) → ((oC X25 i ∧ 1 ≤ k ∧ k ≤ 14 ∧ 0 ≤ (3 : Int) ∧ (3 : Int) ≤ 12) ∧ (rI (mC X25 i (k) ((3 : Int))) → ((((mC X25 i (k) ((3 : Int))) ≤ j) → ((rI (k + 1)) ∧ (∃ q : Nat, (k + 1) = (q : Int) ∧ 1 ≤ q ∧ (k + 1) ≤ (X14 i 27) ∧ (∀ z, z ≠ i + 19 → X25 z = X14 z) ∧ ((0 ≤ (ar) ∧ (ar) ≤ (al)) ∧ (al) ≤ 3 * (q : Int)) ∧ oPu X25 i (200000 + 99 * (al)) ∧ ∃ M, rpZ (hZ X i a b 0) i (zAnd (wyP (rP (hZ X i a b 0) i) g.toNat) (zXor (wyP (rP (hZ X i a b 0) i) d.toNat) (-1))) (rLd (hZ X i a b 0) i d.toNat) q = (M, (ar), (al)) ∧ eq6 (X25 (i + 19)) M) ∧ (((X14 i 27 - (k + 1)).toNat) < ((X14 i 27 - (k)).toNat)))) ∧ ((¬ ((mC X25 i (k) ((3 : Int))) ≤ j)) → ((rI (4 + (3 * j))) ∧ ((oC X25 i ∧ 1 ≤ k ∧ k ≤ 14 ∧ 0 ≤ 4 + (3 * j) ∧ 4 + (3 * j) ≤ 12) ∧ (rI (mC X25 i (k) (4 + (3 * j))) → ((rI (5 + (3 * j))) ∧ ((oC X25 i ∧ 1 ≤ k ∧ k ≤ 14 ∧ 0 ≤ 5 + (3 * j) ∧ 5 + (3 * j) ≤ 12) ∧ (rI (mC X25 i (k) (5 + (3 * j))) → ((rI (6 + (3 * j))) ∧ ((oC X25 i ∧ 1 ≤ k ∧ k ≤ 14 ∧ 0 ≤ 6 + (3 * j) ∧ 6 + (3 * j) ≤ 12) ∧ (rI (mC X25 i (k) (6 + (3 * j))) → (((0 ≤ X25 i 26 ∧ X25 i 26 ≤ 6) ∧ oPu X25 i 1000000 ∧ (0 ≤ mC X25 i (k) (6 + (3 * j)) ∧ mC X25 i (k) (6 + (3 * j)) ≤ 99) ∧ (0 ≤ (0 : Int) ∧ (0 : Int) ≤ 9)) ∧ (∀ r43 : Bool, ∀ X42 : Nat → Int → Int, (∀ i j, rI (X42 i j)) → (r43 = ((mIn (mC X25 i (k) (4 + (3 * j))) 0 (X25 i 26 - 1) && mIn (mC X25 i (k) (5 + (3 * j))) 0 (X25 i 26 - 1)) && decide (mC X25 i (k) (6 + (3 * j)) + (0 : Int) ≤ X25 (i + 19) (mC X25 i (k) (4 + (3 * j))))) ∧ (X42) = if r43 then zU (zU X25 (i + 19) (mC X25 i (k) (4 + (3 * j))) (X25 (i + 19) (mC X25 i (k) (4 + (3 * j))) - (mC X25 i (k) (6 + (3 * j)) + (0 : Int)))) (i + 19) (mC X25 i (k) (5 + (3 * j))) (zU X25 (i + 19) (mC X25 i (k) (4 + (3 * j))) (X25 (i + 19) (mC X25 i (k) (4 + (3 * j))) - (mC X25 i (k) (6 + (3 * j)) + (0 : Int))) (i + 19) (mC X25 i (k) (5 + (3 * j))) + mC X25 i (k) (6 + (3 * j))) else X25) → (((r43 = false) → ((rI (ar + 0)) ∧ (rI (al + 1)) ∧ (rI (j + 1)) ∧ (∃ p q : Nat, k = (q : Int) ∧ (j + 1) = (p : Int) ∧ (p = 0 ∨ (mHas (zAnd (wyP (rP (hZ X i a b 0) i) g.toNat) (zXor (wyP (rP (hZ X i a b 0) i) d.toNat) (-1))) q = true ∧ (j + 1) ≤ mC (hZ X i a b 0) i q 3)) ∧ (∀ z, z ≠ i + 19 → X42 z = X20 z) ∧ ((0 ≤ (ar + 0) ∧ (ar + 0) ≤ (al + 1)) ∧ (al + 1) ≤ 3 * (q : Int) + (p : Int)) ∧ oPu X42 i (200000 + 99 * (al + 1)) ∧ ∃ M, rpP (hZ X i a b 0 i 26) (rF (hZ X i a b 0) i q) (rO (hZ X i a b 0) i q) (rM (hZ X i a b 0) i q) ((rpZ (hZ X i a b 0) i (zAnd (wyP (rP (hZ X i a b 0) i) g.toNat) (zXor (wyP (rP (hZ X i a b 0) i) d.toNat) (-1))) (rLd (hZ X i a b 0) i d.toNat) q).1, (rpZ (hZ X i a b 0) i (zAnd (wyP (rP (hZ X i a b 0) i) g.toNat) (zXor (wyP (rP (hZ X i a b 0) i) d.toNat) (-1))) (rLd (hZ X i a b 0) i d.toNat) q).2.1) p = (M, (ar + 0)) ∧ (al + 1) = (rpZ (hZ X i a b 0) i (zAnd (wyP (rP (hZ X i a b 0) i) g.toNat) (zXor (wyP (rP (hZ X i a b 0) i) d.toNat) (-1))) (rLd (hZ X i a b 0) i d.toNat) q).2.2 + (p : Int) ∧ eq6 (X42 (i + 19)) M) ∧ (((3 - (j + 1)).toNat) < ((3 - (j)).toNat)))) ∧ ((r43 = true) → ((rI (ar + 1)) ∧ (rI (al + 1)) ∧ (rI (j + 1)) ∧ (∃ p q : Nat, k = (q : Int) ∧ (j + 1) = (p : Int) ∧ (p = 0 ∨ (mHas (zAnd (wyP (rP (hZ X i a b 0) i) g.toNat) (zXor (wyP (rP (hZ X i a b 0) i) d.toNat) (-1))) q = true ∧ (j + 1) ≤ mC (hZ X i a b 0) i q 3)) ∧ (∀ z, z ≠ i + 19 → X42 z = X20 z) ∧ ((0 ≤ (ar + 1) ∧ (ar + 1) ≤ (al + 1)) ∧ (al + 1) ≤ 3 * (q : Int) + (p : Int)) ∧ oPu X42 i (200000 + 99 * (al + 1)) ∧ ∃ M, rpP (hZ X i a b 0 i 26) (rF (hZ X i a b 0) i q) (rO (hZ X i a b 0) i q) (rM (hZ X i a b 0) i q) ((rpZ (hZ X i a b 0) i (zAnd (wyP (rP (hZ X i a b 0) i) g.toNat) (zXor (wyP (rP (hZ X i a b 0) i) d.toNat) (-1))) (rLd (hZ X i a b 0) i d.toNat) q).1, (rpZ (hZ X i a b 0) i (zAnd (wyP (rP (hZ X i a b 0) i) g.toNat) (zXor (wyP (rP (hZ X i a b 0) i) d.toNat) (-1))) (rLd (hZ X i a b 0) i d.toNat) q).2.1) p = (M, (ar + 1)) ∧ (al + 1) = (rpZ (hZ X i a b 0) i (zAnd (wyP (rP (hZ X i a b 0) i) g.toNat) (zXor (wyP (rP (hZ X i a b 0) i) d.toNat) (-1))) (rLd (hZ X i a b 0) i d.toNat) q).2.2 + (p : Int) ∧ eq6 (X42 (i + 19)) M) ∧ (((3 - (j + 1)).toNat) < ((3 - (j)).toNat))))))))))))))))))))))))))))))))))) ∧ (((mHas (X3 (i) 35) (d)) = false) → ((-1) = rReplay X i (a) (b) (g) (d) f ∧ pK X (X3) i)))))))))))))))
set_option maxHeartbeats 4000000 in
set_option maxRecDepth 100000 in
theorem w_X11_replay {l : Launch} {D : va_G} {cy : Nat → ClassId} {bs N : Nat} {sa : Nat → Nat} {kd len : Nat → Nat} {X Y : Nat → Int → Int} {R : Nat → Int → Option Nat} {i : Nat} (hM : zM N kd len R i) (a : Int) (ha : rI a) (b : Int) (hb : rI b) (g : Int) (hg : rI g) (d : Int) (hd : rI d) (f : Bool) (hF : F_X11_replay i X Y R a b g d f) : Met l yX11_replay (.code yX11_replay cX11_replay 11 (some .int) :: zTB) (zRm 6 140) (zPc D cy bs sa N kd len X Y R [.ref (bs + (i)), .int (zI (a)), .int (zI (b)), .int (zI (g)), .int (zI (d)), .int (zI (bz (f)))]) (zQi D cy bs N kd len (fun r st => st.2.2 = R ∧ (r = rReplay X i (a) (b) (g) (d) f ∧ pK X (st.1) i))) 0 0 (zA bs) := by
  refine zstart (by decide) (Nat.le_of_ble_eq_true rfl) ?_
  intro p e s m args below meth c ls C hE hH hr hlk hnm hl hargs
  have hF := hF hH.2.2.1 hH.2.2.2
  have hS : va_S (zA bs) s.heap s.heap [] := va_S.rf
  have hl : lv_has ls 11 [(0, .ref (bs + (i))), (1, .int (zI (a))), (2, .int (zI (b))), (3, .int (zI (g))), (4, .int (zI (d))), (5, .int (zI (bz (f))))] := hl
  refine lv_aload_n C.1 C.2.1 dX11_replay_0 rfl (lv_at hl 0 rfl) ?_
  refine zd_iconst C dX11_replay_1 ?_
  refine zp11_0 C hH hS (zM_n0 hM) (zM_k0 hM) q_1287 (by decide) dX11_replay_2 (fun H locs hH hS => ?_)
  obtain ⟨X1, eX1⟩ : ∃ z, z = zU X (i) 0 (0) := ⟨_, rfl⟩
  rw [← eX1] at hH
  have hF := hF X1 eX1 hH.2.2.1
  refine lv_aload_n C.1 C.2.1 dX11_replay_5 rfl (lv_at hl 0 rfl) ?_
  refine lv_iload_n C.1 C.2.1 dX11_replay_6 rfl (lv_at hl 1 rfl) ?_
  refine lv_iload_n C.1 C.2.1 dX11_replay_7 rfl (lv_at hl 2 rfl) ?_
  obtain ⟨o2, hF⟩ := hF
  refine zgoi (zrunV (As := [.int (zI (a)), .int (zI (b))]) (rest := []) C hE hH hS hl.1 (c_X11_hand (l := l) hM (a) ha (b) hb o2) k_RX11_397 ⟨Nat.le_of_ble_eq_true rfl, Nat.le_of_ble_eq_true rfl⟩ (zM_n0 hM) (zM_k0 hM) rfl rfl rfl (Nat.le_of_ble_eq_true rfl) dX11_replay_8 ⟨Nat.zero_le _, Nat.zero_le _⟩) hS (fun rq X3 Y4 Rq H locs hrq hq hH hS => ?_)
  obtain ⟨h9R, hq⟩ := hq
  dsimp only at h9R
  rw [h9R] at hH
  obtain ⟨r5, h91, hq⟩ := hq
  subst h91
  have hF := hF r5 X3 hH.2.2.1 Y4 hH.2.2.2 hq
  refine zd_ifB_eq C 54 dX11_replay_11 (by decide) (fun c6 => ?_) (fun c6 => ?_)
  · have hF := hF.1 c6
    refine zd_iconst C dX11_replay_54 ?_
    exact zd_iret C hr hlk hH hS (by decide) (⟨rfl, hF⟩) dX11_replay_55
  · have hF := hF.2 c6
    refine lv_aload_n C.1 C.2.1 dX11_replay_14 rfl (lv_at hl 0 rfl) ?_
    refine lv_iload_n C.1 C.2.1 dX11_replay_15 rfl (lv_at hl 3 rfl) ?_
    obtain ⟨o7, hF⟩ := hF
    refine zgoi (zrunV (As := [.int (zI (g))]) (rest := []) C hE hH hS hl.1 (c_X11_isBlock (l := l) hM (g) hg o7) k_RX11_319 ⟨Nat.le_of_ble_eq_true rfl, Nat.le_of_ble_eq_true rfl⟩ (zM_n0 hM) (zM_k0 hM) rfl rfl rfl (Nat.le_of_ble_eq_true rfl) dX11_replay_16 ⟨Nat.zero_le _, Nat.zero_le _⟩) hS (fun rq Xq Yq Rq H locs hrq hq hH hS => ?_)
    obtain ⟨h91, h92⟩ := hq
    have h93 : Xq = X3 := congrArg (fun z => z.1) h92
    have h94 : Yq = Y4 := congrArg (fun z => z.2.1) h92
    have h95 : Rq = R := congrArg (fun z => z.2.2) h92
    rw [h93, h94, h95] at hH
    subst h91
    refine zd_ifB_eq C 54 dX11_replay_19 (by decide) (fun c8 => ?_) (fun c8 => ?_)
    · have hF := hF.1 c8
      refine zd_iconst C dX11_replay_54 ?_
      exact zd_iret C hr hlk hH hS (by decide) (⟨rfl, hF⟩) dX11_replay_55
    · have hF := hF.2 c8
      refine lv_aload_n C.1 C.2.1 dX11_replay_22 rfl (lv_at hl 0 rfl) ?_
      refine lv_iload C.1 C.2.1 dX11_replay_23 (lv_at hl 4 rfl) ?_
      obtain ⟨o9, hF⟩ := hF
      refine zgoi (zrunV (As := [.int (zI (d))]) (rest := []) C hE hH hS hl.1 (c_X11_isBlock (l := l) hM (d) hd o9) k_RX11_319 ⟨Nat.le_of_ble_eq_true rfl, Nat.le_of_ble_eq_true rfl⟩ (zM_n0 hM) (zM_k0 hM) rfl rfl rfl (Nat.le_of_ble_eq_true rfl) dX11_replay_25 ⟨Nat.zero_le _, Nat.zero_le _⟩) hS (fun rq Xq Yq Rq H locs hrq hq hH hS => ?_)
      obtain ⟨h91, h92⟩ := hq
      have h93 : Xq = X3 := congrArg (fun z => z.1) h92
      have h94 : Yq = Y4 := congrArg (fun z => z.2.1) h92
      have h95 : Rq = R := congrArg (fun z => z.2.2) h92
      rw [h93, h94, h95] at hH
      subst h91
      refine zd_ifB_eq C 54 dX11_replay_28 (by decide) (fun c10 => ?_) (fun c10 => ?_)
      · have hF := hF.1 c10
        refine zd_iconst C dX11_replay_54 ?_
        exact zd_iret C hr hlk hH hS (by decide) (⟨rfl, hF⟩) dX11_replay_55
      · have hF := hF.2 c10
        refine lv_aload_n C.1 C.2.1 dX11_replay_31 rfl (lv_at hl 0 rfl) ?_
        refine zg11_35 C hH (zM_n0 hM) (zM_k0 hM) q_1322 dX11_replay_32 ?_
        refine lv_iload_n C.1 C.2.1 dX11_replay_35 rfl (lv_at hl 3 rfl) ?_
        refine zgoi (zrunS (As := [.int (zI (X3 (i) 35)), .int (zI (g))]) (rest := []) C hE hH hS hl.1 (c_X11_has (l := l)  (X3 (i) 35) (hH.2.2.1 _ _) (g) hg) k_RX11_92 ⟨Nat.le_of_ble_eq_true rfl, Nat.le_of_ble_eq_true rfl⟩ rfl (Nat.le_of_ble_eq_true rfl) dX11_replay_36 ⟨Nat.zero_le _, Nat.zero_le _⟩) hS (fun rq Xq Yq Rq H locs hrq hq hH hS => ?_)
        obtain ⟨h91, h92⟩ := hq
        have h93 : Xq = X3 := congrArg (fun z => z.1) h92
        have h94 : Yq = Y4 := congrArg (fun z => z.2.1) h92
        have h95 : Rq = R := congrArg (fun z => z.2.2) h92
        rw [h93, h94, h95] at hH
        subst h91
        refine zd_ifB_eq C 54 dX11_replay_39 (by decide) (fun c11 => ?_) (fun c11 => ?_)
        · have hF := hF.1 c11
          refine zd_iconst C dX11_replay_54 ?_
          exact zd_iret C hr hlk hH hS (by decide) (⟨rfl, hF⟩) dX11_replay_55
        · have hF := hF.2 c11
          refine lv_aload_n C.1 C.2.1 dX11_replay_42 rfl (lv_at hl 0 rfl) ?_
          refine zg11_35 C hH (zM_n0 hM) (zM_k0 hM) q_1322 dX11_replay_43 ?_
          refine lv_iload C.1 C.2.1 dX11_replay_46 (lv_at hl 4 rfl) ?_
          refine zgoi (zrunS (As := [.int (zI (X3 (i) 35)), .int (zI (d))]) (rest := []) C hE hH hS hl.1 (c_X11_has (l := l)  (X3 (i) 35) (hH.2.2.1 _ _) (d) hd) k_RX11_92 ⟨Nat.le_of_ble_eq_true rfl, Nat.le_of_ble_eq_true rfl⟩ rfl (Nat.le_of_ble_eq_true rfl) dX11_replay_48 ⟨Nat.zero_le _, Nat.zero_le _⟩) hS (fun rq Xq Yq Rq H locs hrq hq hH hS => ?_)
          obtain ⟨h91, h92⟩ := hq
          have h93 : Xq = X3 := congrArg (fun z => z.1) h92
          have h94 : Yq = Y4 := congrArg (fun z => z.2.1) h92
          have h95 : Rq = R := congrArg (fun z => z.2.2) h92
          rw [h93, h94, h95] at hH
          subst h91
          refine zd_ifB_ne C 56 dX11_replay_51 (by decide) (fun c12 => ?_) (fun c12 => ?_)
          · have hF := hF.1 c12
            refine lv_aload_n C.1 C.2.1 dX11_replay_56 rfl (lv_at hl 0 rfl) ?_
            refine lv_iload C.1 C.2.1 dX11_replay_57 (lv_at hl 4 rfl) ?_
            obtain ⟨o13, hF⟩ := hF
            refine zgov (zrunV (As := [.int (zI (d))]) (rest := []) C hE hH hS hl.1 (c_X11_openPurse (l := l) hM (d) hd o13) k_RX11_441 ⟨Nat.le_of_ble_eq_true rfl, Nat.le_of_ble_eq_true rfl⟩ (zM_n0 hM) (zM_k0 hM) rfl rfl rfl (Nat.le_of_ble_eq_true rfl) dX11_replay_59 ⟨Nat.zero_le _, Nat.zero_le _⟩) hS (fun X14 Yq Rq H locs hq hH hS => ?_)
            obtain ⟨h9Y, h9R, hq⟩ := hq
            dsimp only at h9Y h9R
            rw [h9Y, h9R] at hH
            have hF := hF X14 hH.2.2.1 hq
            refine lv_aload_n C.1 C.2.1 dX11_replay_62 rfl (lv_at hl 0 rfl) ?_
            refine lv_iload_n C.1 C.2.1 dX11_replay_63 rfl (lv_at hl 3 rfl) ?_
            obtain ⟨o15, hF⟩ := hF
            refine zgoi (zrunV (As := [.int (zI (g))]) (rest := []) C hE hH hS hl.1 (c_X11_wayTo (l := l) hM (g) hg o15) k_RX11_382 ⟨Nat.le_of_ble_eq_true rfl, Nat.le_of_ble_eq_true rfl⟩ (zM_n0 hM) (zM_k0 hM) rfl rfl rfl (Nat.le_of_ble_eq_true rfl) dX11_replay_64 ⟨Nat.zero_le _, Nat.zero_le _⟩) hS (fun rq Xq Yq Rq H locs hrq hq hH hS => ?_)
            obtain ⟨h91, h92⟩ := hq
            have h93 : Xq = X14 := congrArg (fun z => z.1) h92
            have h94 : Yq = Y4 := congrArg (fun z => z.2.1) h92
            have h95 : Rq = R := congrArg (fun z => z.2.2) h92
            rw [h93, h94, h95] at hH
            subst h91
            have hr16 := hrq
            have hF := hF hr16
            refine lv_aload_n C.1 C.2.1 dX11_replay_67 rfl (lv_at hl 0 rfl) ?_
            refine lv_iload C.1 C.2.1 dX11_replay_68 (lv_at hl 4 rfl) ?_
            obtain ⟨o17, hF⟩ := hF
            refine zgoi (zrunV (As := [.int (zI (d))]) (rest := [.int (zI (rWy X14 i (g).toNat))]) C hE hH hS hl.1 (c_X11_wayTo (l := l) hM (d) hd o17) k_RX11_382 ⟨Nat.le_of_ble_eq_true rfl, Nat.le_of_ble_eq_true rfl⟩ (zM_n0 hM) (zM_k0 hM) rfl rfl rfl (Nat.le_of_ble_eq_true rfl) dX11_replay_70 ⟨Nat.zero_le _, Nat.zero_le _⟩) hS (fun rq Xq Yq Rq H locs hrq hq hH hS => ?_)
            obtain ⟨h91, h92⟩ := hq
            have h93 : Xq = X14 := congrArg (fun z => z.1) h92
            have h94 : Yq = Y4 := congrArg (fun z => z.2.1) h92
            have h95 : Rq = R := congrArg (fun z => z.2.2) h92
            rw [h93, h94, h95] at hH
            subst h91
            have hr18 := hrq
            have hF := hF hr18
            refine zd_iconst C dX11_replay_73 ?_
            refine zd_ixor C dX11_replay_74 ?_
            refine zd_iand C dX11_replay_75 ?_
            refine lv_istore (lv' := [(6, .int (zI (zAnd (rWy X14 i (g).toNat) (zXor (rWy X14 i (d).toNat) ((-1)))))), (0, .ref (bs + (i))), (1, .int (zI (a))), (2, .int (zI (b))), (3, .int (zI (g))), (4, .int (zI (d))), (5, .int (zI (bz (f))))]) C.1 C.2.1 dX11_replay_76 hl (by decide) rfl (fun ls hl => ?_)
            refine zd_iconst C dX11_replay_78 ?_
            refine lv_istore (lv' := [(7, .int (zI (0))), (6, .int (zI (zAnd (rWy X14 i (g).toNat) (zXor (rWy X14 i (d).toNat) ((-1)))))), (0, .ref (bs + (i))), (1, .int (zI (a))), (2, .int (zI (b))), (3, .int (zI (g))), (4, .int (zI (d))), (5, .int (zI (bz (f))))]) C.1 C.2.1 dX11_replay_79 hl (by decide) rfl (fun ls hl => ?_)
            refine zd_iconst C dX11_replay_81 ?_
            refine lv_istore (lv' := [(8, .int (zI (0))), (7, .int (zI (0))), (6, .int (zI (zAnd (rWy X14 i (g).toNat) (zXor (rWy X14 i (d).toNat) ((-1)))))), (0, .ref (bs + (i))), (1, .int (zI (a))), (2, .int (zI (b))), (3, .int (zI (g))), (4, .int (zI (d))), (5, .int (zI (bz (f))))]) C.1 C.2.1 dX11_replay_82 hl (by decide) rfl (fun ls hl => ?_)
            refine zd_iconst C dX11_replay_84 ?_
            refine lv_istore (lv' := [(9, .int (zI (1))), (8, .int (zI (0))), (7, .int (zI (0))), (6, .int (zI (zAnd (rWy X14 i (g).toNat) (zXor (rWy X14 i (d).toNat) ((-1)))))), (0, .ref (bs + (i))), (1, .int (zI (a))), (2, .int (zI (b))), (3, .int (zI (g))), (4, .int (zI (d))), (5, .int (zI (bz (f))))]) C.1 C.2.1 dX11_replay_85 hl (by decide) rfl (fun ls hl => ?_)
            obtain ⟨hI19, hF⟩ := hF
            have L19 : ∀ (fu : Nat) (ar : Int) (al : Int) (k : Int) (X20 : Nat → Int → Int), rI ar → rI al → rI k → (∃ q : Nat, (k) = (q : Int) ∧ 1 ≤ q ∧ (k) ≤ (X14 i 27) ∧ (∀ z, z ≠ i + 19 → X20 z = X14 z) ∧ ((0 ≤ (ar) ∧ (ar) ≤ (al)) ∧ (al) ≤ 3 * (q : Int)) ∧ oPu X20 i (200000 + 99 * (al)) ∧ ∃ M, rpZ (hZ X i a b 0) i (zAnd (wyP (rP (hZ X i a b 0) i) g.toNat) (zXor (wyP (rP (hZ X i a b 0) i) d.toNat) (-1))) (rLd (hZ X i a b 0) i d.toNat) q = (M, (ar), (al)) ∧ eq6 (X20 (i + 19)) M) → ((X14 i 27 - (k)).toNat) < fu → ∀ (H : Heap) (locs : List Loc) (ls : Array Slot), zH D cy bs N kd len X20 Y4 R H → va_S (zA bs) s.heap H locs → lv_has ls 11 [(7, .int (zI (ar))), (8, .int (zI (al))), (9, .int (zI (k))), (6, .int (zI (zAnd (rWy X14 i (g).toNat) (zXor (rWy X14 i (d).toNat) ((-1)))))), (0, .ref (bs + (i))), (5, .int (zI (bz (f))))] → W p l e (zRm 6 140) s m args below meth c H locs 0 0 (MQ below (zQi D cy bs N kd len (fun r st => st.2.2 = R ∧ (r = rReplay X i (a) (b) (g) (d) f ∧ pK X (st.1) i))) args s 0 0 (zA bs)) (F0 m 87 ls []) := by
              intro fu
              induction fu with
              | zero => intro ar al k X20 _ _ _ _ hmu; exact absurd hmu (Nat.not_lt_zero _)
              | succ fu ih19 =>
                intro ar al k X20 har hal hk hI hmu19 H locs ls hH hS hl
                have hF := hF ar al k X20 har hal hk hH.2.2.1 hI
                refine lv_iload C.1 C.2.1 dX11_replay_87 (lv_at hl 2 rfl) ?_
                refine lv_aload_n C.1 C.2.1 dX11_replay_89 rfl (lv_at hl 4 rfl) ?_
                refine zg11_27 C hH (zM_n0 hM) (zM_k0 hM) q_1314 dX11_replay_90 ?_
                refine zd_icmp_ge C hk (hH.2.2.1 _ _) 191 dX11_replay_93 (by decide) (fun c21 => ?_) (fun c21 => ?_)
                · have hF := hF.1 c21
                  refine lv_iload C.1 C.2.1 dX11_replay_191 (lv_at hl 5 rfl) ?_
                  refine zd_ifB_eq C 204 dX11_replay_193 (by decide) (fun c22 => ?_) (fun c22 => ?_)
                  · have hF := hF.1 c22
                    refine lv_iload C.1 C.2.1 dX11_replay_204 (lv_at hl 0 rfl) ?_
                    exact zd_iret C hr hlk hH hS har (⟨rfl, hF⟩) dX11_replay_206
                  · have hF := hF.2 c22
                    refine lv_iload C.1 C.2.1 dX11_replay_196 (lv_at hl 1 rfl) ?_
                    refine lv_iload C.1 C.2.1 dX11_replay_198 (lv_at hl 0 rfl) ?_
                    refine zd_isub C dX11_replay_200 ?_
                    refine lv_goto (tgt := 206) C.1 C.2.1 dX11_replay_201 (by decide) ?_
                    obtain ⟨o23, hF⟩ := hF
                    exact zd_iret C hr hlk hH hS o23 (⟨rfl, hF⟩) dX11_replay_206
                · have hF := hF.2 c21
                  refine zd_iconst C dX11_replay_96 ?_
                  refine lv_istore (lv' := [(10, .int (zI (0))), (7, .int (zI (ar))), (8, .int (zI (al))), (9, .int (zI (k))), (6, .int (zI (zAnd (rWy X14 i (g).toNat) (zXor (rWy X14 i (d).toNat) ((-1)))))), (0, .ref (bs + (i))), (5, .int (zI (bz (f))))]) C.1 C.2.1 dX11_replay_97 hl (by decide) rfl (fun ls hl => ?_)
                  obtain ⟨hI24, hF⟩ := hF
                  have L24 : ∀ (fu : Nat) (ar : Int) (al : Int) (j : Int) (X25 : Nat → Int → Int), rI ar → rI al → rI j → (∃ p q : Nat, k = (q : Int) ∧ (j) = (p : Int) ∧ (p = 0 ∨ (mHas (zAnd (wyP (rP (hZ X i a b 0) i) g.toNat) (zXor (wyP (rP (hZ X i a b 0) i) d.toNat) (-1))) q = true ∧ (j) ≤ mC (hZ X i a b 0) i q 3)) ∧ (∀ z, z ≠ i + 19 → X25 z = X20 z) ∧ ((0 ≤ (ar) ∧ (ar) ≤ (al)) ∧ (al) ≤ 3 * (q : Int) + (p : Int)) ∧ oPu X25 i (200000 + 99 * (al)) ∧ ∃ M, rpP (hZ X i a b 0 i 26) (rF (hZ X i a b 0) i q) (rO (hZ X i a b 0) i q) (rM (hZ X i a b 0) i q) ((rpZ (hZ X i a b 0) i (zAnd (wyP (rP (hZ X i a b 0) i) g.toNat) (zXor (wyP (rP (hZ X i a b 0) i) d.toNat) (-1))) (rLd (hZ X i a b 0) i d.toNat) q).1, (rpZ (hZ X i a b 0) i (zAnd (wyP (rP (hZ X i a b 0) i) g.toNat) (zXor (wyP (rP (hZ X i a b 0) i) d.toNat) (-1))) (rLd (hZ X i a b 0) i d.toNat) q).2.1) p = (M, (ar)) ∧ (al) = (rpZ (hZ X i a b 0) i (zAnd (wyP (rP (hZ X i a b 0) i) g.toNat) (zXor (wyP (rP (hZ X i a b 0) i) d.toNat) (-1))) (rLd (hZ X i a b 0) i d.toNat) q).2.2 + (p : Int) ∧ eq6 (X25 (i + 19)) M) → ((3 - (j)).toNat) < fu → ∀ (H : Heap) (locs : List Loc) (ls : Array Slot), zH D cy bs N kd len X25 Y4 R H → va_S (zA bs) s.heap H locs → lv_has ls 11 [(7, .int (zI (ar))), (8, .int (zI (al))), (10, .int (zI (j))), (9, .int (zI (k))), (6, .int (zI (zAnd (rWy X14 i (g).toNat) (zXor (rWy X14 i (d).toNat) ((-1)))))), (0, .ref (bs + (i))), (5, .int (zI (bz (f))))] → W p l e (zRm 6 140) s m args below meth c H locs 0 0 (MQ below (zQi D cy bs N kd len (fun r st => st.2.2 = R ∧ (r = rReplay X i (a) (b) (g) (d) f ∧ pK X (st.1) i))) args s 0 0 (zA bs)) (F0 m 99 ls []) := by
                    intro fu
                    induction fu with
                    | zero => intro ar al j X25 _ _ _ _ hmu; exact absurd hmu (Nat.not_lt_zero _)
                    | succ fu ih24 =>
                      intro ar al j X25 har hal hj hI hmu24 H locs ls hH hS hl
                      have hF := hF ar al j X25 har hal hj hH.2.2.1 hI
                      refine lv_iload C.1 C.2.1 dX11_replay_99 (lv_at hl 4 rfl) ?_
                      refine lv_iload C.1 C.2.1 dX11_replay_101 (lv_at hl 3 rfl) ?_
                      refine zgoi (zrunS (As := [.int (zI (zAnd (rWy X14 i (g).toNat) (zXor (rWy X14 i (d).toNat) ((-1))))), .int (zI (k))]) (rest := []) C hE hH hS hl.1 (c_X11_has (l := l)  (zAnd (rWy X14 i (g).toNat) (zXor (rWy X14 i (d).toNat) ((-1)))) (zI_rg _) (k) hk) k_RX11_92 ⟨Nat.le_of_ble_eq_true rfl, Nat.le_of_ble_eq_true rfl⟩ rfl (Nat.le_of_ble_eq_true rfl) dX11_replay_103 ⟨Nat.zero_le _, Nat.zero_le _⟩) hS (fun rq Xq Yq Rq H locs hrq hq hH hS => ?_)
                      obtain ⟨h91, h92⟩ := hq
                      have h93 : Xq = X25 := congrArg (fun z => z.1) h92
                      have h94 : Yq = Y4 := congrArg (fun z => z.2.1) h92
                      have h95 : Rq = R := congrArg (fun z => z.2.2) h92
                      rw [h93, h94, h95] at hH
                      subst h91
                      refine zd_ifB_eq C 185 dX11_replay_106 (by decide) (fun c26 => ?_) (fun c26 => ?_)
                      · have hF := hF.1 c26
                        refine zd_iinc (k := 3) (lv' := [(9, .int (zI (k + 1))), (7, .int (zI (ar))), (8, .int (zI (al))), (10, .int (zI (j))), (6, .int (zI (zAnd (rWy X14 i (g).toNat) (zXor (rWy X14 i (d).toNat) ((-1)))))), (0, .ref (bs + (i))), (5, .int (zI (bz (f))))]) C hl rfl dX11_replay_185 (by decide) rfl (fun ls hl => ?_)
                        refine lv_goto (tgt := 87) C.1 C.2.1 dX11_replay_188 (by decide) ?_
                        obtain ⟨o27, hF⟩ := hF
                        exact ih19 (ar) (al) (k + 1) X25 har hal o27 hF.1 (Nat.lt_of_lt_of_le hF.2 (Nat.le_of_lt_succ hmu19)) _ _ _ hH hS (lv_sub hl [1, 2, 0, 4, 5, 6] rfl)
                      · have hF := hF.2 c26
                        refine lv_iload C.1 C.2.1 dX11_replay_109 (lv_at hl 2 rfl) ?_
                        refine lv_aload_n C.1 C.2.1 dX11_replay_111 rfl (lv_at hl 5 rfl) ?_
                        refine lv_iload C.1 C.2.1 dX11_replay_112 (lv_at hl 3 rfl) ?_
                        refine zd_iconst C dX11_replay_114 ?_
                        obtain ⟨o28, hF⟩ := hF
                        refine zgoi (zrunV (As := [.int (zI (k)), .int (zI (3))]) (rest := [.int (zI (j))]) C hE hH hS hl.1 (c_X11_ofBlock (l := l) hM (k) hk (3) (by decide) o28) k_RX11_258 ⟨Nat.le_of_ble_eq_true rfl, Nat.le_of_ble_eq_true rfl⟩ (zM_n0 hM) (zM_k0 hM) rfl rfl rfl (Nat.le_of_ble_eq_true rfl) dX11_replay_115 ⟨Nat.zero_le _, Nat.zero_le _⟩) hS (fun rq Xq Yq Rq H locs hrq hq hH hS => ?_)
                        obtain ⟨h91, h92⟩ := hq
                        have h93 : Xq = X25 := congrArg (fun z => z.1) h92
                        have h94 : Yq = Y4 := congrArg (fun z => z.2.1) h92
                        have h95 : Rq = R := congrArg (fun z => z.2.2) h92
                        rw [h93, h94, h95] at hH
                        subst h91
                        have hr29 := hrq
                        have hF := hF hr29
                        refine zd_icmp_ge C hj hr29 185 dX11_replay_118 (by decide) (fun c30 => ?_) (fun c30 => ?_)
                        · have hF := hF.1 c30
                          refine zd_iinc (k := 3) (lv' := [(9, .int (zI (k + 1))), (7, .int (zI (ar))), (8, .int (zI (al))), (10, .int (zI (j))), (6, .int (zI (zAnd (rWy X14 i (g).toNat) (zXor (rWy X14 i (d).toNat) ((-1)))))), (0, .ref (bs + (i))), (5, .int (zI (bz (f))))]) C hl rfl dX11_replay_185 (by decide) rfl (fun ls hl => ?_)
                          refine lv_goto (tgt := 87) C.1 C.2.1 dX11_replay_188 (by decide) ?_
                          obtain ⟨o31, hF⟩ := hF
                          exact ih19 (ar) (al) (k + 1) X25 har hal o31 hF.1 (Nat.lt_of_lt_of_le hF.2 (Nat.le_of_lt_succ hmu19)) _ _ _ hH hS (lv_sub hl [1, 2, 0, 4, 5, 6] rfl)
                        · have hF := hF.2 c30
                          refine zd_iinc (k := 1) (lv' := [(8, .int (zI (al + 1))), (7, .int (zI (ar))), (10, .int (zI (j))), (9, .int (zI (k))), (6, .int (zI (zAnd (rWy X14 i (g).toNat) (zXor (rWy X14 i (d).toNat) ((-1)))))), (0, .ref (bs + (i))), (5, .int (zI (bz (f))))]) C hl rfl dX11_replay_121 (by decide) rfl (fun ls hl => ?_)
                          refine lv_iload C.1 C.2.1 dX11_replay_124 (lv_at hl 1 rfl) ?_
                          refine lv_aload_n C.1 C.2.1 dX11_replay_126 rfl (lv_at hl 5 rfl) ?_
                          refine lv_aload_n C.1 C.2.1 dX11_replay_127 rfl (lv_at hl 5 rfl) ?_
                          refine lv_iload C.1 C.2.1 dX11_replay_128 (lv_at hl 3 rfl) ?_
                          refine zd_iconst C dX11_replay_130 ?_
                          refine zd_iconst C dX11_replay_131 ?_
                          refine lv_iload C.1 C.2.1 dX11_replay_132 (lv_at hl 2 rfl) ?_
                          refine zd_imul C dX11_replay_134 ?_
                          refine zd_iadd C dX11_replay_135 ?_
                          obtain ⟨o32, hF⟩ := hF
                          obtain ⟨o33, hF⟩ := hF
                          refine zgoi (zrunV (As := [.int (zI (k)), .int (zI (4 + (3 * j)))]) (rest := [.ref (bs + (i)), .int (zI (ar))]) C hE hH hS hl.1 (c_X11_ofBlock (l := l) hM (k) hk (4 + (3 * j)) o32 o33) k_RX11_258 ⟨Nat.le_of_ble_eq_true rfl, Nat.le_of_ble_eq_true rfl⟩ (zM_n0 hM) (zM_k0 hM) rfl rfl rfl (Nat.le_of_ble_eq_true rfl) dX11_replay_136 ⟨Nat.zero_le _, Nat.zero_le _⟩) hS (fun rq Xq Yq Rq H locs hrq hq hH hS => ?_)
                          obtain ⟨h91, h92⟩ := hq
                          have h93 : Xq = X25 := congrArg (fun z => z.1) h92
                          have h94 : Yq = Y4 := congrArg (fun z => z.2.1) h92
                          have h95 : Rq = R := congrArg (fun z => z.2.2) h92
                          rw [h93, h94, h95] at hH
                          subst h91
                          have hr34 := hrq
                          have hF := hF hr34
                          refine lv_aload_n C.1 C.2.1 dX11_replay_139 rfl (lv_at hl 5 rfl) ?_
                          refine lv_iload C.1 C.2.1 dX11_replay_140 (lv_at hl 3 rfl) ?_
                          refine zd_iconst C dX11_replay_142 ?_
                          refine zd_iconst C dX11_replay_143 ?_
                          refine lv_iload C.1 C.2.1 dX11_replay_144 (lv_at hl 2 rfl) ?_
                          refine zd_imul C dX11_replay_146 ?_
                          refine zd_iadd C dX11_replay_147 ?_
                          obtain ⟨o35, hF⟩ := hF
                          obtain ⟨o36, hF⟩ := hF
                          refine zgoi (zrunV (As := [.int (zI (k)), .int (zI (5 + (3 * j)))]) (rest := [.int (zI (mC X25 i (k) (4 + (3 * j)))), .ref (bs + (i)), .int (zI (ar))]) C hE hH hS hl.1 (c_X11_ofBlock (l := l) hM (k) hk (5 + (3 * j)) o35 o36) k_RX11_258 ⟨Nat.le_of_ble_eq_true rfl, Nat.le_of_ble_eq_true rfl⟩ (zM_n0 hM) (zM_k0 hM) rfl rfl rfl (Nat.le_of_ble_eq_true rfl) dX11_replay_148 ⟨Nat.zero_le _, Nat.zero_le _⟩) hS (fun rq Xq Yq Rq H locs hrq hq hH hS => ?_)
                          obtain ⟨h91, h92⟩ := hq
                          have h93 : Xq = X25 := congrArg (fun z => z.1) h92
                          have h94 : Yq = Y4 := congrArg (fun z => z.2.1) h92
                          have h95 : Rq = R := congrArg (fun z => z.2.2) h92
                          rw [h93, h94, h95] at hH
                          subst h91
                          have hr37 := hrq
                          have hF := hF hr37
                          refine lv_aload_n C.1 C.2.1 dX11_replay_151 rfl (lv_at hl 5 rfl) ?_
                          refine lv_iload C.1 C.2.1 dX11_replay_152 (lv_at hl 3 rfl) ?_
                          refine zd_bipush C (by decide) dX11_replay_154 ?_
                          refine zd_iconst C dX11_replay_156 ?_
                          refine lv_iload C.1 C.2.1 dX11_replay_157 (lv_at hl 2 rfl) ?_
                          refine zd_imul C dX11_replay_159 ?_
                          refine zd_iadd C dX11_replay_160 ?_
                          obtain ⟨o38, hF⟩ := hF
                          obtain ⟨o39, hF⟩ := hF
                          refine zgoi (zrunV (As := [.int (zI (k)), .int (zI (6 + (3 * j)))]) (rest := [.int (zI (mC X25 i (k) (5 + (3 * j)))), .int (zI (mC X25 i (k) (4 + (3 * j)))), .ref (bs + (i)), .int (zI (ar))]) C hE hH hS hl.1 (c_X11_ofBlock (l := l) hM (k) hk (6 + (3 * j)) o38 o39) k_RX11_258 ⟨Nat.le_of_ble_eq_true rfl, Nat.le_of_ble_eq_true rfl⟩ (zM_n0 hM) (zM_k0 hM) rfl rfl rfl (Nat.le_of_ble_eq_true rfl) dX11_replay_161 ⟨Nat.zero_le _, Nat.zero_le _⟩) hS (fun rq Xq Yq Rq H locs hrq hq hH hS => ?_)
                          obtain ⟨h91, h92⟩ := hq
                          have h93 : Xq = X25 := congrArg (fun z => z.1) h92
                          have h94 : Yq = Y4 := congrArg (fun z => z.2.1) h92
                          have h95 : Rq = R := congrArg (fun z => z.2.2) h92
                          rw [h93, h94, h95] at hH
                          subst h91
                          have hr40 := hrq
                          have hF := hF hr40
                          refine zd_iconst C dX11_replay_164 ?_
                          obtain ⟨o41, hF⟩ := hF
                          refine zgoi (zrunV (As := [.int (zI (mC X25 i (k) (4 + (3 * j)))), .int (zI (mC X25 i (k) (5 + (3 * j)))), .int (zI (mC X25 i (k) (6 + (3 * j)))), .int (zI (0))]) (rest := [.int (zI (ar))]) C hE hH hS hl.1 (c_X11_moves (l := l) hM (mC X25 i (k) (4 + (3 * j))) hr34 (mC X25 i (k) (5 + (3 * j))) hr37 (mC X25 i (k) (6 + (3 * j))) hr40 (0) (by decide) o41) k_RX11_444 ⟨Nat.le_of_ble_eq_true rfl, Nat.le_of_ble_eq_true rfl⟩ (zM_n0 hM) (zM_k0 hM) rfl rfl rfl (Nat.le_of_ble_eq_true rfl) dX11_replay_165 ⟨Nat.zero_le _, Nat.zero_le _⟩) hS (fun rq X42 Yq Rq H locs hrq hq hH hS => ?_)
                          obtain ⟨h9Y, h9R, hq⟩ := hq
                          dsimp only at h9Y h9R
                          rw [h9Y, h9R] at hH
                          obtain ⟨r43, h91, hq⟩ := hq
                          subst h91
                          have hF := hF r43 X42 hH.2.2.1 hq
                          refine zd_ifB_eq C 175 dX11_replay_168 (by decide) (fun c44 => ?_) (fun c44 => ?_)
                          · have hF := hF.1 c44
                            refine zd_iconst C dX11_replay_175 ?_
                            refine zd_iadd C dX11_replay_176 ?_
                            refine lv_istore (lv' := [(7, .int (zI (ar + 0))), (8, .int (zI (al + 1))), (10, .int (zI (j))), (9, .int (zI (k))), (6, .int (zI (zAnd (rWy X14 i (g).toNat) (zXor (rWy X14 i (d).toNat) ((-1)))))), (0, .ref (bs + (i))), (5, .int (zI (bz (f))))]) C.1 C.2.1 dX11_replay_177 hl (by decide) rfl (fun ls hl => ?_)
                            refine zd_iinc (k := 2) (lv' := [(10, .int (zI (j + 1))), (7, .int (zI (ar + 0))), (8, .int (zI (al + 1))), (9, .int (zI (k))), (6, .int (zI (zAnd (rWy X14 i (g).toNat) (zXor (rWy X14 i (d).toNat) ((-1)))))), (0, .ref (bs + (i))), (5, .int (zI (bz (f))))]) C hl rfl dX11_replay_179 (by decide) rfl (fun ls hl => ?_)
                            refine lv_goto (tgt := 99) C.1 C.2.1 dX11_replay_182 (by decide) ?_
                            obtain ⟨o45, hF⟩ := hF
                            obtain ⟨o46, hF⟩ := hF
                            obtain ⟨o47, hF⟩ := hF
                            exact ih24 (ar + 0) (al + 1) (j + 1) X42 o45 o46 o47 hF.1 (Nat.lt_of_lt_of_le hF.2 (Nat.le_of_lt_succ hmu24)) _ _ _ hH hS (lv_sub hl [1, 2, 0, 3, 4, 5, 6] rfl)
                          · have hF := hF.2 c44
                            refine zd_iconst C dX11_replay_171 ?_
                            refine lv_goto (tgt := 176) C.1 C.2.1 dX11_replay_172 (by decide) ?_
                            refine zd_iadd C dX11_replay_176 ?_
                            refine lv_istore (lv' := [(7, .int (zI (ar + 1))), (8, .int (zI (al + 1))), (10, .int (zI (j))), (9, .int (zI (k))), (6, .int (zI (zAnd (rWy X14 i (g).toNat) (zXor (rWy X14 i (d).toNat) ((-1)))))), (0, .ref (bs + (i))), (5, .int (zI (bz (f))))]) C.1 C.2.1 dX11_replay_177 hl (by decide) rfl (fun ls hl => ?_)
                            refine zd_iinc (k := 2) (lv' := [(10, .int (zI (j + 1))), (7, .int (zI (ar + 1))), (8, .int (zI (al + 1))), (9, .int (zI (k))), (6, .int (zI (zAnd (rWy X14 i (g).toNat) (zXor (rWy X14 i (d).toNat) ((-1)))))), (0, .ref (bs + (i))), (5, .int (zI (bz (f))))]) C hl rfl dX11_replay_179 (by decide) rfl (fun ls hl => ?_)
                            refine lv_goto (tgt := 99) C.1 C.2.1 dX11_replay_182 (by decide) ?_
                            obtain ⟨o48, hF⟩ := hF
                            obtain ⟨o49, hF⟩ := hF
                            obtain ⟨o50, hF⟩ := hF
                            exact ih24 (ar + 1) (al + 1) (j + 1) X42 o48 o49 o50 hF.1 (Nat.lt_of_lt_of_le hF.2 (Nat.le_of_lt_succ hmu24)) _ _ _ hH hS (lv_sub hl [1, 2, 0, 3, 4, 5, 6] rfl)
                  exact L24 (((3 - ((0 : Int))).toNat) + 1) (ar) (al) ((0 : Int)) X20 har hal (by decide) hI24 (Nat.lt_succ_self _) _ _ _ hH hS (lv_sub hl [1, 2, 0, 3, 4, 5, 6] rfl)
            exact L19 (((X14 i 27 - ((1 : Int))).toNat) + 1) ((0 : Int)) ((0 : Int)) ((1 : Int)) X14 (by decide) (by decide) (by decide) hI19 (Nat.lt_succ_self _) _ _ _ hH hS (lv_sub hl [2, 1, 0, 3, 4, 9] rfl)
          · have hF := hF.2 c12
            refine zd_iconst C dX11_replay_54 ?_
            exact zd_iret C hr hlk hH hS (by decide) (⟨rfl, hF⟩) dX11_replay_55
theorem v_X11_replay {X Y : Nat → Int → Int} {R : Nat → Int → Option Nat} {i : Nat} (a : Int) (ha : rI a) (b : Int) (hb : rI b) (g : Int) (hg : rI g) (d : Int) (hd : rI d) (f : Bool) (hp : oTN X i) : F_X11_replay i X Y R a b g d f := by
  unfold F_X11_replay
  intro hX hY
  have hT := hp
  intro X1
  intro eX1
  have o1 : ∀ z, z ≠ i → X1 z = X z := fun z h => by rw [eX1, zU_o h]
  have z1 : X1 i 0 = 0 := by rw [eX1, zU_s]
  intro rX1
  refine ⟨?_, ?_⟩
  · exact oTN_k (o1 _ (by omega)) (o1 _ (by omega)) (o1 _ (by omega)) hT
  intro r5
  intro X3
  intro rX3
  intro Y4
  intro rY4
  intro h1
  obtain ⟨e5, hk, h9⟩ := h1
  rw [em9 (o1 _ (by omega)), em9 (o1 _ (by omega))] at e5
  have p3 : pK X X3 i := ⟨fun z g1 g2 => (hk.1 z g1 (by omega) (by omega)).trans (o1 z g1), (hk.2.1 0 (by omega) (by decide)).trans z1⟩
  refine ⟨?_, ?_⟩
  · intro c1
    exact ⟨by unfold rReplay rOk; rw [← e5, c1]; rfl, p3⟩
  intro c2
  obtain ⟨g9, h⟩ := h9 c2
  obtain ⟨-, z, h27, h26, hx, ld, sd, ks, ko⟩ := hd9 o1 z1 hk g9 h
  have hb := h.1.2.2.1
  have hA := h.1.2.1
  have hBs := h.1.2.2.2
  have en : X3 i 27 - 1 = qN X i b := by
    rw [h27]
    show 1 + X (i + 7) (183 * b) - 1 = X (i + 7) (183 * b)
    omega
  rw [en]
  refine ⟨?_, ?_⟩
  · first | omega | exact ⟨by omega, by omega⟩ | decide | assumption | exact ⟨by omega, by omega, by omega⟩ | exact ⟨by decide, by decide⟩
  refine ⟨?_, ?_⟩
  · intro c3
    exact ⟨by unfold rReplay rOk; rw [← e5, c3, Bool.false_and, Bool.and_false]; rfl, p3⟩
  intro c4
  have x1 := (hx g c4).1
  rw [(hx g c4).2]
  refine ⟨?_, ?_⟩
  · first | omega | exact ⟨by omega, by omega⟩ | decide | assumption | exact ⟨by omega, by omega, by omega⟩ | exact ⟨by decide, by decide⟩
  refine ⟨?_, ?_⟩
  · intro c5
    exact ⟨by unfold rReplay rOk; rw [← e5, c4, c5, Bool.false_and, Bool.and_false, Bool.and_false]; rfl, p3⟩
  intro c6
  have x2 := (hx d c6).1
  have x3 := (hx d c6).2
  refine ⟨?_, ?_⟩
  · intro c7
    exact ⟨by unfold rReplay rOk; rw [← e5, c2, c4, c6, c7]; rfl, p3⟩
  intro c8
  refine ⟨?_, ?_⟩
  · intro c9
    have led : ∀ y, 0 ≤ y → y < 6 → X3 (i + 16) (6 * d + y) = rLd (hZ X i a b 0) i d.toNat y ∧ 0 ≤ X3 (i + 16) (6 * d + y) ∧ X3 (i + 16) (6 * d + y) ≤ 100000 := fun y y0 y1 => ld d y c6 c9 y0 y1
    rw [x3] at c9
    refine ⟨?_, ?_⟩
    · exact ⟨by omega, by omega⟩
    intro X14
    intro rX14
    intro h2
    obtain ⟨o14, p14⟩ := h2
    have tZ : tS (hZ X i a b 0) X14 i := z.1.trans (tS_of (o14 _ (by omega)) (o14 _ (by omega)) (o14 _ (by omega)))
    have s27 : X14 i 27 = X3 i 27 := by rw [o14 _ (by omega)]
    have oB14 : oB X14 i (((X3 i 27 - 1).toNat : Nat) : Int) := oB_t (tS_of (o14 _ (by omega)) (o14 _ (by omega)) (o14 _ (by omega))) hBs.1
    have eS : zAnd (rWy X14 i g.toNat) (zXor (rWy X14 i d.toNat) (-1)) = zAnd (wyP (rP (hZ X i a b 0) i) g.toNat) (zXor (wyP (rP (hZ X i a b 0) i) d.toNat) (-1)) := by
      show zAnd (wyP (rP X14 i) _) (zXor (wyP (rP X14 i) _) (-1)) = _
      rw [rP_t tZ]
    rw [eS]
    have u : ∀ y (X4 : Nat → Int → Int), (∀ w, w ≠ i + 19 → X4 w = X3 w) → y = (if f then (rpS (hZ X i a b 0) i g.toNat d.toNat).2.2 - (rpS (hZ X i a b 0) i g.toNat d.toNat).2.1 else (rpS (hZ X i a b 0) i g.toNat d.toNat).2.1) → y = rReplay X i a b g d f ∧ pK X X4 i := fun y X4 h4 hy => by
      refine ⟨?_, tr9 p3 (fun w g1 g2 => h4 w (by omega)) (by rw [h4 _ (by omega)])⟩
      unfold rReplay rOk
      rw [← e5, c2, c4, c6, c8, c9]
      exact hy
    unfold rpS at u
    have hL : eq6 (X14 (i + 19)) (rLd (hZ X i a b 0) i d.toNat) := fun y y0 y1 => by rw [p14 y y0 y1]; exact (led y y0 y1).1
    have z26 : hZ X i a b 0 i 26 = X3 i 26 := by rw [h26]; exact hZ_26
    have z27 : hZ X i a b 0 i 27 = X3 i 27 := by rw [h27]; exact hZ_s.2.2.2.1
    rw [z27] at u
    have zc : ∀ k w, mC (hZ X i a b 0) i k w = mC X3 i k w := fun k w => (mC_t z.1 k w).symm
    have bk : ∀ q : Nat, 1 ≤ q → (q : Int) < X3 i 27 → (0 ≤ mC (hZ X i a b 0) i q 3 ∧ mC (hZ X i a b 0) i q 3 ≤ 3) ∧ ∀ j : Nat, (j : Int) < mC (hZ X i a b 0) i q 3 → (0 ≤ rF (hZ X i a b 0) i q j ∧ rF (hZ X i a b 0) i q j ≤ 5) ∧ (0 ≤ rO (hZ X i a b 0) i q j ∧ rO (hZ X i a b 0) i q j ≤ 5) ∧ (1 ≤ rM (hZ X i a b 0) i q j ∧ rM (hZ X i a b 0) i q j ≤ 99) := fun q q1 q2 => by
      have k := (hBs.2.2 q q1 (by omega)).1
      rw [zc, ← rF_t z.1, ← rO_t z.1, ← rM_t z.1]
      exact ⟨⟨k.1, k.2.1⟩, k.2.2⟩
    generalize rLd (hZ X i a b 0) i d.toNat = L at hL u ⊢
    generalize zAnd (wyP (rP (hZ X i a b 0) i) g.toNat) (zXor (wyP (rP (hZ X i a b 0) i) d.toNat) (-1)) = S at u ⊢
    refine ⟨?_, ?_⟩
    · exact ⟨_, oB14, x1.1, by omega⟩
    intro _
    refine ⟨?_, ?_⟩
    · exact ⟨_, oB14, x2.1, by omega⟩
    intro _
    refine ⟨?_, ?_⟩
    · exact ⟨1, rfl, Nat.le_refl _, by omega, fun _ _ => rfl, ⟨⟨by decide, by decide⟩, by decide⟩, fun y y0 y1 => (by rw [p14 y y0 y1]; have := led y y0 y1; exact ⟨by omega, by omega⟩), L, rfl, hL⟩
    intro ar al k X20
    intro _
    intro _
    intro _
    intro rX20
    intro h3
    obtain ⟨q, hq, q1, q2, o20, hb20, op20, M0, hM0, e20⟩ := h3
    subst hq
    have f27 : X20 i 27 = X3 i 27 := by rw [o20 _ (by omega), s27]
    rw [f27]
    refine ⟨?_, ?_⟩
    · intro c10
      refine ⟨?_, ?_⟩
      · intro c11
        refine u _ _ (fun w hw => by rw [o20 w hw, o14 w hw]) ?_
        rw [c11, show (X3 i 27).toNat = q by omega, hM0]
        rfl
      intro c12
      refine ⟨?_, ?_⟩
      · first | omega | exact ⟨by omega, by omega⟩ | decide | assumption | exact ⟨by omega, by omega, by omega⟩ | exact ⟨by decide, by decide⟩
      refine u _ _ (fun w hw => by rw [o20 w hw, o14 w hw]) ?_
      rw [c12, show (X3 i 27).toNat = q by omega, hM0]
      rfl
    intro c13
    refine ⟨?_, ?_⟩
    · exact ⟨0, q, rfl, rfl, Or.inl rfl, fun _ _ => rfl, ⟨hb20.1, by omega⟩, op20, M0, by rw [hM0]; rfl, by rw [hM0]; show al = al + ((0 : Nat) : Int); omega, e20⟩
    intro ar al j X25
    intro _
    intro _
    intro _
    intro rX25
    intro h4
    obtain ⟨p, q', hq', hj, hd, o25, hb25, op25, M, hM, hal, e25⟩ := h4
    have eqq : q = q' := by omega
    subst eqq
    subst hj
    have o25' : ∀ w, w ≠ i + 19 → X25 w = X14 w := fun w hw => (o25 w hw).trans (o20 w hw)
    have t25 : tS (hZ X i a b 0) X25 i := tZ.trans (tS_of (o25' _ (by omega)) (o25' _ (by omega)) (o25' _ (by omega)))
    have oC25 : oC X25 i := by
      show 0 ≤ X25 i 25 ∧ X25 i 25 ≤ 1
      rw [o25' _ (by omega), o14 _ (by omega)]
      exact hBs.1.1
    have bq := bk q q1 (by omega)
    have c25 : ∀ k w, mC X25 i k w = mC (hZ X i a b 0) i k w := mC_t t25
    have f26 : X25 i 26 = X3 i 26 := by rw [o25' _ (by omega), o14 _ (by omega)]
    have stp : rpZ (hZ X i a b 0) i S L (q + 1) = if decide (1 ≤ q) && mHas S q then
          ((rpP (hZ X i a b 0 i 26) (rF (hZ X i a b 0) i q) (rO (hZ X i a b 0) i q) (rM (hZ X i a b 0) i q) ((rpZ (hZ X i a b 0) i S L q).1, (rpZ (hZ X i a b 0) i S L q).2.1) (mC (hZ X i a b 0) i q 3).toNat).1, (rpP (hZ X i a b 0 i 26) (rF (hZ X i a b 0) i q) (rO (hZ X i a b 0) i q) (rM (hZ X i a b 0) i q) ((rpZ (hZ X i a b 0) i S L q).1, (rpZ (hZ X i a b 0) i S L q).2.1) (mC (hZ X i a b 0) i q 3).toNat).2, (rpZ (hZ X i a b 0) i S L q).2.2 + ((mC (hZ X i a b 0) i q 3).toNat : Nat))
        else rpZ (hZ X i a b 0) i S L q := rfl
    simp only [c25, f26]
    have d1 : decide (1 ≤ q) = true := decide_eq_true q1
    refine ⟨?_, ?_⟩
    · intro c14
      have p0 : p = 0 := by
        rcases hd with h | h
        · exact h
        · rw [c14] at h
          exact absurd h.1 (by decide)
      subst p0
      have hM : ((rpZ (hZ X i a b 0) i S L q).1, (rpZ (hZ X i a b 0) i S L q).2.1) = (M, ar) := hM
      refine ⟨?_, ?_⟩
      · first | omega | exact ⟨by omega, by omega⟩ | decide | assumption | exact ⟨by omega, by omega, by omega⟩ | exact ⟨by decide, by decide⟩
      refine ⟨?_, ?_⟩
      · refine ⟨q + 1, by omega, by omega, by omega, o25', ⟨hb25.1, by omega⟩, op25, M, ?_, e25⟩
        rw [stp, c14, Bool.and_false, if_neg (by decide)]
        injection hM with h1 h2
        refine Prod.ext h1 (Prod.ext h2 ?_)
        show (rpZ (hZ X i a b 0) i S L q).2.2 = al
        omega
      first | omega | exact ⟨by omega, by omega⟩ | decide | assumption | exact ⟨by omega, by omega, by omega⟩ | exact ⟨by decide, by decide⟩
    intro c15
    refine ⟨?_, ?_⟩
    · exact ⟨oC25, by omega, by omega, by decide, by decide⟩
    intro _
    refine ⟨?_, ?_⟩
    · intro c16
      have ep : (mC (hZ X i a b 0) i q 3).toNat = p := by
        rcases hd with h | h
        · omega
        · omega
      rw [ep] at stp
      rw [hM] at stp
      refine ⟨?_, ?_⟩
      · first | omega | exact ⟨by omega, by omega⟩ | decide | assumption | exact ⟨by omega, by omega, by omega⟩ | exact ⟨by decide, by decide⟩
      refine ⟨?_, ?_⟩
      · refine ⟨q + 1, by omega, by omega, by omega, o25', ⟨hb25.1, by omega⟩, op25, M, ?_, e25⟩
        rw [stp, c15, d1, hal]
        rfl
      first | omega | exact ⟨by omega, by omega⟩ | decide | assumption | exact ⟨by omega, by omega, by omega⟩ | exact ⟨by decide, by decide⟩
    intro c17
    have bp := bq.2 p (by omega)
    have eF : mC (hZ X i a b 0) i q (4 + 3 * (p : Int)) = rF (hZ X i a b 0) i q p := rfl
    have eO : mC (hZ X i a b 0) i q (5 + 3 * (p : Int)) = rO (hZ X i a b 0) i q p := rfl
    have eM : mC (hZ X i a b 0) i q (6 + 3 * (p : Int)) = rM (hZ X i a b 0) i q p := rfl
    rw [eF, eO, eM]
    have st2 : ∀ s, rpP (hZ X i a b 0 i 26) (rF (hZ X i a b 0) i q) (rO (hZ X i a b 0) i q) (rM (hZ X i a b 0) i q) s p = (M, ar) → rpP (hZ X i a b 0 i 26) (rF (hZ X i a b 0) i q) (rO (hZ X i a b 0) i q) (rM (hZ X i a b 0) i q) s (p + 1) = if mIn (rF (hZ X i a b 0) i q p) 0 (X3 i 26 - 1) && mIn (rO (hZ X i a b 0) i q p) 0 (X3 i 26 - 1) && decide (rM (hZ X i a b 0) i q p ≤ X25 (i + 19) (rF (hZ X i a b 0) i q p)) then
          (upI (upI M (rF (hZ X i a b 0) i q p) (X25 (i + 19) (rF (hZ X i a b 0) i q p) - rM (hZ X i a b 0) i q p)) (rO (hZ X i a b 0) i q p) (upI (X25 (i + 19)) (rF (hZ X i a b 0) i q p) (X25 (i + 19) (rF (hZ X i a b 0) i q p) - rM (hZ X i a b 0) i q p) (rO (hZ X i a b 0) i q p) + rM (hZ X i a b 0) i q p), ar + 1) else (M, ar) := fun s hs => by
      show (if mIn (rF (hZ X i a b 0) i q p) 0 (hZ X i a b 0 i 26 - 1) && mIn (rO (hZ X i a b 0) i q p) 0 (hZ X i a b 0 i 26 - 1) && decide (rM (hZ X i a b 0) i q p ≤ (rpP (hZ X i a b 0 i 26) (rF (hZ X i a b 0) i q) (rO (hZ X i a b 0) i q) (rM (hZ X i a b 0) i q) s p).1 (rF (hZ X i a b 0) i q p)) then _ else _) = _
      have g1 : M (rF (hZ X i a b 0) i q p) = X25 (i + 19) (rF (hZ X i a b 0) i q p) := (e25 _ bp.1.1 (by omega)).symm
      have g2 := upI_c e25 (f := rF (hZ X i a b 0) i q p) (v := X25 (i + 19) (rF (hZ X i a b 0) i q p) - rM (hZ X i a b 0) i q p) (rO (hZ X i a b 0) i q p) bp.2.1.1 (by omega)
      rw [hs, z26]
      dsimp only
      simp only [g1, g2]
    have st3 := st2 _ hM
    generalize rF (hZ X i a b 0) i q p = f' at bp st3 ⊢
    generalize rO (hZ X i a b 0) i q p = t' at bp st3 ⊢
    generalize rM (hZ X i a b 0) i q p = m' at bp st3 ⊢
    have m0 : m' + 0 = m' := by omega
    rw [m0]
    refine ⟨?_, ?_⟩
    · first | omega | exact ⟨by omega, by omega⟩ | decide | assumption | exact ⟨by omega, by omega, by omega⟩ | exact ⟨by decide, by decide⟩
    refine ⟨?_, ?_⟩
    · exact ⟨oC25, by omega, by omega, by omega, by omega⟩
    intro _
    refine ⟨?_, ?_⟩
    · first | omega | exact ⟨by omega, by omega⟩ | decide | assumption | exact ⟨by omega, by omega, by omega⟩ | exact ⟨by decide, by decide⟩
    refine ⟨?_, ?_⟩
    · exact ⟨oC25, by omega, by omega, by omega, by omega⟩
    intro _
    refine ⟨?_, ?_⟩
    · first | omega | exact ⟨by omega, by omega⟩ | decide | assumption | exact ⟨by omega, by omega, by omega⟩ | exact ⟨by decide, by decide⟩
    refine ⟨?_, ?_⟩
    · exact ⟨oC25, by omega, by omega, by omega, by omega⟩
    intro _
    refine ⟨?_, ?_⟩
    · exact ⟨hA.1, fun y y0 y1 => ⟨(op25 y y0 y1).1, by have := (op25 y y0 y1).2; omega⟩, ⟨by omega, by omega⟩, by decide, by decide⟩
    intro r43
    intro X42
    intro rX42
    intro h5
    obtain ⟨er, eX⟩ := h5
    refine ⟨?_, ?_⟩
    · intro c18
      rw [c18, if_neg (by decide)] at eX
      rw [c18] at er
      rw [← er] at st3
      rw [eX]
      refine ⟨?_, ?_⟩
      · first | omega | exact ⟨by omega, by omega⟩ | decide | assumption | exact ⟨by omega, by omega, by omega⟩ | exact ⟨by decide, by decide⟩
      refine ⟨?_, ?_⟩
      · first | omega | exact ⟨by omega, by omega⟩ | decide | assumption | exact ⟨by omega, by omega, by omega⟩ | exact ⟨by decide, by decide⟩
      refine ⟨?_, ?_⟩
      · first | omega | exact ⟨by omega, by omega⟩ | decide | assumption | exact ⟨by omega, by omega, by omega⟩ | exact ⟨by decide, by decide⟩
      refine ⟨?_, ?_⟩
      · refine ⟨p + 1, q, rfl, by omega, Or.inr ⟨c15, by omega⟩, o25, ⟨⟨by omega, by omega⟩, by omega⟩, fun y y0 y1 => ?_, M, ?_, by omega, e25⟩
        · have := op25 y y0 y1
          exact ⟨by omega, by omega⟩
        · rw [st3, show ar + 0 = ar by omega]
          rfl
      first | omega | exact ⟨by omega, by omega⟩ | decide | assumption | exact ⟨by omega, by omega, by omega⟩ | exact ⟨by decide, by decide⟩
    intro c19
    rw [c19, if_pos rfl] at eX
    rw [c19] at er
    rw [← er] at st3
    have er2 := er.symm
    simp only [Bool.and_eq_true, decide_eq_true_eq] at er2
    have x42 : X42 (i + 19) = upI (upI (X25 (i + 19)) f' (X25 (i + 19) f' - m')) t' (upI (X25 (i + 19)) f' (X25 (i + 19) f' - m') t' + m') := by
      rw [eX, zU_up, zU_up]
    have of := op25 f' bp.1.1 (by omega)
    have ot := op25 t' bp.2.1.1 (by omega)
    refine ⟨?_, ?_⟩
    · first | omega | exact ⟨by omega, by omega⟩ | decide | assumption | exact ⟨by omega, by omega, by omega⟩ | exact ⟨by decide, by decide⟩
    refine ⟨?_, ?_⟩
    · first | omega | exact ⟨by omega, by omega⟩ | decide | assumption | exact ⟨by omega, by omega, by omega⟩ | exact ⟨by decide, by decide⟩
    refine ⟨?_, ?_⟩
    · first | omega | exact ⟨by omega, by omega⟩ | decide | assumption | exact ⟨by omega, by omega, by omega⟩ | exact ⟨by decide, by decide⟩
    refine ⟨?_, ?_⟩
    · refine ⟨p + 1, q, rfl, by omega, Or.inr ⟨c15, by omega⟩, fun w hw => (by rw [eX, zU_o hw, zU_o hw]; exact o25 w hw), ⟨⟨by omega, by omega⟩, by omega⟩, fun y y0 y1 => ?_, _, by rw [st3]; rfl, by omega, ?_⟩
      · rw [x42]
        have oy := op25 y y0 y1
        unfold upI
        split
        · split
          · exact ⟨by omega, by omega⟩
          · exact ⟨by omega, by omega⟩
        · split
          · exact ⟨by omega, by omega⟩
          · exact ⟨by omega, by omega⟩
      · rw [x42]
        exact upI_c (upI_c e25)
    first | omega | exact ⟨by omega, by omega⟩ | decide | assumption | exact ⟨by omega, by omega, by omega⟩ | exact ⟨by decide, by decide⟩
  intro c20
  exact ⟨by unfold rReplay rOk; rw [← e5, c2, c4, c6, c8, ← x3, c20]; rfl, p3⟩
theorem c_X11_replay {l : Launch} {D : va_G} {cy : Nat → ClassId} {bs N : Nat} {sa : Nat → Nat} {kd len : Nat → Nat} {X Y : Nat → Int → Int} {R : Nat → Int → Option Nat} {i : Nat} (hM : zM N kd len R i) (a : Int) (ha : rI a) (b : Int) (hb : rI b) (g : Int) (hg : rI g) (d : Int) (hd : rI d) (f : Bool) (hp : oTN X i) : Met l yX11_replay (.code yX11_replay cX11_replay 11 (some .int) :: zTB) (zRm 6 140) (zPc D cy bs sa N kd len X Y R [.ref (bs + (i)), .int (zI (a)), .int (zI (b)), .int (zI (g)), .int (zI (d)), .int (zI (bz (f)))]) (zQi D cy bs N kd len (fun r st => st.2.2 = R ∧ (r = rReplay X i (a) (b) (g) (d) f ∧ pK X (st.1) i))) 0 0 (zA bs) := w_X11_replay hM a ha b hb g hg d hd f (v_X11_replay a ha b hb g hg d hd f hp)
