/-! GAIN -/
theorem zW_id {z : Int} (h : rI z) : zW z = z := (zI_eq (zW_rg z) h).mp (zI_zW z)
def gaN (w : Nat → Bool) (L : Nat → Int) : Nat → Nat × Int
  | 0 => (0, 0)
  | q + 1 => if w q then (if L (gaN w L q).1 < L q then (q, 1) else if L q = L (gaN w L q).1 then ((gaN w L q).1, (gaN w L q).2 + 1) else gaN w L q) else gaN w L q
theorem gaN_b {w : Nat → Bool} {L : Nat → Int} (h0 : w 0 = true) : ∀ q, (gaN w L q).1 ≤ q - 1 ∧ w (gaN w L q).1 = true ∧ 0 ≤ (gaN w L q).2 ∧ (gaN w L q).2 ≤ q
  | 0 => ⟨Nat.le_refl _, h0, Int.le_refl _, Int.le_refl _⟩
  | q + 1 => by
    obtain ⟨h1, h2, h3, h4⟩ := gaN_b (w := w) (L := L) h0 q
    unfold gaN
    split
    · rename_i c
      split
      · exact ⟨Nat.le_refl _, c, (by decide : (0 : Int) ≤ 1), by show (1 : Int) ≤ ((q + 1 : Nat) : Int); omega⟩
      · split
        · exact ⟨by show (gaN w L q).1 ≤ q + 1 - 1; omega, h2, by show 0 ≤ (gaN w L q).2 + 1; omega, by show (gaN w L q).2 + 1 ≤ ((q + 1 : Nat) : Int); omega⟩
        · exact ⟨by omega, h2, h3, by omega⟩
    · exact ⟨by omega, h2, h3, by omega⟩
def rGain (X : Nat → Int → Int) (i : Nat) (n c h w : Int) : Int := if rOk X i n c && (mIn h 0 (X (i + 6) (13 * n + 6) - 1) && mIn w 0 2) then
  (if w = 0 then ((gaN (sdf (hZ X i n c 0) i) (fun k => rLd (hZ X i n c 0) i k h) (hZ X i n c 0 i 27).toNat).1 : Int) else if w = 1 then rLd (hZ X i n c 0) i (gaN (sdf (hZ X i n c 0) i) (fun k => rLd (hZ X i n c 0) i k h) (hZ X i n c 0 i 27).toNat).1 h else (gaN (sdf (hZ X i n c 0) i) (fun k => rLd (hZ X i n c 0) i k h) (hZ X i n c 0 i 27).toNat).2) else -1
abbrev cX11_gain : ByteArray := prog_13_method_132_code
def yX11_gain : MethodName := ⟨RX11, "gain", "(IIII)I"⟩
theorem dX11_gain_0 : decode cX11_gain 0 = .ok (.aload_n 0, 1) := by decide +kernel
theorem dX11_gain_1 : decode cX11_gain 1 = .ok (.iconst 0, 1) := by decide +kernel
theorem dX11_gain_2 : decode cX11_gain 2 = .ok (.putfield 88, 3) := by decide +kernel
theorem dX11_gain_5 : decode cX11_gain 5 = .ok (.aload_n 0, 1) := by decide +kernel
theorem dX11_gain_6 : decode cX11_gain 6 = .ok (.iload_n 1, 1) := by decide +kernel
theorem dX11_gain_7 : decode cX11_gain 7 = .ok (.iload_n 2, 1) := by decide +kernel
theorem dX11_gain_8 : decode cX11_gain 8 = .ok (.invokevirtual 397, 3) := by decide +kernel
theorem dX11_gain_11 : decode cX11_gain 11 = .ok (.ifCond .eq 21, 3) := by decide +kernel
theorem dX11_gain_14 : decode cX11_gain 14 = .ok (.aload_n 0, 1) := by decide +kernel
theorem dX11_gain_15 : decode cX11_gain 15 = .ok (.iload_n 3, 1) := by decide +kernel
theorem dX11_gain_16 : decode cX11_gain 16 = .ok (.invokevirtual 289, 3) := by decide +kernel
theorem dX11_gain_19 : decode cX11_gain 19 = .ok (.ifCond .eq 13, 3) := by decide +kernel
theorem dX11_gain_22 : decode cX11_gain 22 = .ok (.iload 4, 2) := by decide +kernel
theorem dX11_gain_24 : decode cX11_gain 24 = .ok (.iconst 0, 1) := by decide +kernel
theorem dX11_gain_25 : decode cX11_gain 25 = .ok (.iconst 2, 1) := by decide +kernel
theorem dX11_gain_26 : decode cX11_gain 26 = .ok (.invokestatic 100, 3) := by decide +kernel
theorem dX11_gain_29 : decode cX11_gain 29 = .ok (.ifCond .ne 5, 3) := by decide +kernel
theorem dX11_gain_32 : decode cX11_gain 32 = .ok (.iconst (-1), 1) := by decide +kernel
theorem dX11_gain_33 : decode cX11_gain 33 = .ok (.ireturn, 1) := by decide +kernel
theorem dX11_gain_34 : decode cX11_gain 34 = .ok (.iconst 0, 1) := by decide +kernel
theorem dX11_gain_35 : decode cX11_gain 35 = .ok (.istore 5, 2) := by decide +kernel
theorem dX11_gain_37 : decode cX11_gain 37 = .ok (.iconst 0, 1) := by decide +kernel
theorem dX11_gain_38 : decode cX11_gain 38 = .ok (.istore 6, 2) := by decide +kernel
theorem dX11_gain_40 : decode cX11_gain 40 = .ok (.iconst 0, 1) := by decide +kernel
theorem dX11_gain_41 : decode cX11_gain 41 = .ok (.istore 7, 2) := by decide +kernel
theorem dX11_gain_43 : decode cX11_gain 43 = .ok (.iload 7, 2) := by decide +kernel
theorem dX11_gain_45 : decode cX11_gain 45 = .ok (.aload_n 0, 1) := by decide +kernel
theorem dX11_gain_46 : decode cX11_gain 46 = .ok (.getfield 255, 3) := by decide +kernel
theorem dX11_gain_49 : decode cX11_gain 49 = .ok (.if_icmp .ge 111, 3) := by decide +kernel
theorem dX11_gain_52 : decode cX11_gain 52 = .ok (.aload_n 0, 1) := by decide +kernel
theorem dX11_gain_53 : decode cX11_gain 53 = .ok (.getfield 57, 3) := by decide +kernel
theorem dX11_gain_56 : decode cX11_gain 56 = .ok (.bipush 6, 2) := by decide +kernel
theorem dX11_gain_58 : decode cX11_gain 58 = .ok (.iload 7, 2) := by decide +kernel
theorem dX11_gain_60 : decode cX11_gain 60 = .ok (.imul, 1) := by decide +kernel
theorem dX11_gain_61 : decode cX11_gain 61 = .ok (.iload_n 3, 1) := by decide +kernel
theorem dX11_gain_62 : decode cX11_gain 62 = .ok (.iadd, 1) := by decide +kernel
theorem dX11_gain_63 : decode cX11_gain 63 = .ok (.iaload, 1) := by decide +kernel
theorem dX11_gain_64 : decode cX11_gain 64 = .ok (.aload_n 0, 1) := by decide +kernel
theorem dX11_gain_65 : decode cX11_gain 65 = .ok (.getfield 57, 3) := by decide +kernel
theorem dX11_gain_68 : decode cX11_gain 68 = .ok (.bipush 6, 2) := by decide +kernel
theorem dX11_gain_70 : decode cX11_gain 70 = .ok (.iload 5, 2) := by decide +kernel
theorem dX11_gain_72 : decode cX11_gain 72 = .ok (.imul, 1) := by decide +kernel
theorem dX11_gain_73 : decode cX11_gain 73 = .ok (.iload_n 3, 1) := by decide +kernel
theorem dX11_gain_74 : decode cX11_gain 74 = .ok (.iadd, 1) := by decide +kernel
theorem dX11_gain_75 : decode cX11_gain 75 = .ok (.iaload, 1) := by decide +kernel
theorem dX11_gain_76 : decode cX11_gain 76 = .ok (.isub, 1) := by decide +kernel
theorem dX11_gain_77 : decode cX11_gain 77 = .ok (.istore 8, 2) := by decide +kernel
theorem dX11_gain_79 : decode cX11_gain 79 = .ok (.aload_n 0, 1) := by decide +kernel
theorem dX11_gain_80 : decode cX11_gain 80 = .ok (.getfield 292, 3) := by decide +kernel
theorem dX11_gain_83 : decode cX11_gain 83 = .ok (.iload 7, 2) := by decide +kernel
theorem dX11_gain_85 : decode cX11_gain 85 = .ok (.invokestatic 92, 3) := by decide +kernel
theorem dX11_gain_88 : decode cX11_gain 88 = .ok (.ifCond .eq 12, 3) := by decide +kernel
theorem dX11_gain_91 : decode cX11_gain 91 = .ok (.iload 8, 2) := by decide +kernel
theorem dX11_gain_93 : decode cX11_gain 93 = .ok (.ifCond .le 7, 3) := by decide +kernel
theorem dX11_gain_96 : decode cX11_gain 96 = .ok (.iconst 1, 1) := by decide +kernel
theorem dX11_gain_97 : decode cX11_gain 97 = .ok (.goto 4, 3) := by decide +kernel
theorem dX11_gain_100 : decode cX11_gain 100 = .ok (.iconst 0, 1) := by decide +kernel
theorem dX11_gain_101 : decode cX11_gain 101 = .ok (.istore 9, 2) := by decide +kernel
theorem dX11_gain_103 : decode cX11_gain 103 = .ok (.iload 9, 2) := by decide +kernel
theorem dX11_gain_105 : decode cX11_gain 105 = .ok (.ifCond .eq 7, 3) := by decide +kernel
theorem dX11_gain_108 : decode cX11_gain 108 = .ok (.iconst 1, 1) := by decide +kernel
theorem dX11_gain_109 : decode cX11_gain 109 = .ok (.goto 29, 3) := by decide +kernel
theorem dX11_gain_112 : decode cX11_gain 112 = .ok (.aload_n 0, 1) := by decide +kernel
theorem dX11_gain_113 : decode cX11_gain 113 = .ok (.getfield 292, 3) := by decide +kernel
theorem dX11_gain_116 : decode cX11_gain 116 = .ok (.iload 7, 2) := by decide +kernel
theorem dX11_gain_118 : decode cX11_gain 118 = .ok (.invokestatic 92, 3) := by decide +kernel
theorem dX11_gain_121 : decode cX11_gain 121 = .ok (.ifCond .eq 15, 3) := by decide +kernel
theorem dX11_gain_124 : decode cX11_gain 124 = .ok (.iload 8, 2) := by decide +kernel
theorem dX11_gain_126 : decode cX11_gain 126 = .ok (.ifCond .ne 10, 3) := by decide +kernel
theorem dX11_gain_129 : decode cX11_gain 129 = .ok (.iload 6, 2) := by decide +kernel
theorem dX11_gain_131 : decode cX11_gain 131 = .ok (.iconst 1, 1) := by decide +kernel
theorem dX11_gain_132 : decode cX11_gain 132 = .ok (.iadd, 1) := by decide +kernel
theorem dX11_gain_133 : decode cX11_gain 133 = .ok (.goto 5, 3) := by decide +kernel
theorem dX11_gain_136 : decode cX11_gain 136 = .ok (.iload 6, 2) := by decide +kernel
theorem dX11_gain_138 : decode cX11_gain 138 = .ok (.istore 6, 2) := by decide +kernel
theorem dX11_gain_140 : decode cX11_gain 140 = .ok (.iload 9, 2) := by decide +kernel
theorem dX11_gain_142 : decode cX11_gain 142 = .ok (.ifCond .eq 8, 3) := by decide +kernel
theorem dX11_gain_145 : decode cX11_gain 145 = .ok (.iload 7, 2) := by decide +kernel
theorem dX11_gain_147 : decode cX11_gain 147 = .ok (.goto 5, 3) := by decide +kernel
theorem dX11_gain_150 : decode cX11_gain 150 = .ok (.iload 5, 2) := by decide +kernel
theorem dX11_gain_152 : decode cX11_gain 152 = .ok (.istore 5, 2) := by decide +kernel
theorem dX11_gain_154 : decode cX11_gain 154 = .ok (.iinc 7 1, 3) := by decide +kernel
theorem dX11_gain_157 : decode cX11_gain 157 = .ok (.goto (-114), 3) := by decide +kernel
theorem dX11_gain_160 : decode cX11_gain 160 = .ok (.iload 4, 2) := by decide +kernel
theorem dX11_gain_162 : decode cX11_gain 162 = .ok (.ifCond .ne 8, 3) := by decide +kernel
theorem dX11_gain_165 : decode cX11_gain 165 = .ok (.iload 5, 2) := by decide +kernel
theorem dX11_gain_167 : decode cX11_gain 167 = .ok (.goto 26, 3) := by decide +kernel
theorem dX11_gain_170 : decode cX11_gain 170 = .ok (.iload 4, 2) := by decide +kernel
theorem dX11_gain_172 : decode cX11_gain 172 = .ok (.iconst 1, 1) := by decide +kernel
theorem dX11_gain_173 : decode cX11_gain 173 = .ok (.if_icmp .ne 18, 3) := by decide +kernel
theorem dX11_gain_176 : decode cX11_gain 176 = .ok (.aload_n 0, 1) := by decide +kernel
theorem dX11_gain_177 : decode cX11_gain 177 = .ok (.getfield 57, 3) := by decide +kernel
theorem dX11_gain_180 : decode cX11_gain 180 = .ok (.bipush 6, 2) := by decide +kernel
theorem dX11_gain_182 : decode cX11_gain 182 = .ok (.iload 5, 2) := by decide +kernel
theorem dX11_gain_184 : decode cX11_gain 184 = .ok (.imul, 1) := by decide +kernel
theorem dX11_gain_185 : decode cX11_gain 185 = .ok (.iload_n 3, 1) := by decide +kernel
theorem dX11_gain_186 : decode cX11_gain 186 = .ok (.iadd, 1) := by decide +kernel
theorem dX11_gain_187 : decode cX11_gain 187 = .ok (.iaload, 1) := by decide +kernel
theorem dX11_gain_188 : decode cX11_gain 188 = .ok (.goto 5, 3) := by decide +kernel
theorem dX11_gain_191 : decode cX11_gain 191 = .ok (.iload 6, 2) := by decide +kernel
theorem dX11_gain_193 : decode cX11_gain 193 = .ok (.ireturn, 1) := by decide +kernel
def F_X11_gain (i : Nat) (X Y : Nat → Int → Int) (R : Nat → Int → Option Nat) (a : Int) (b : Int) (g : Int) (d : Int) : Prop := (∀ i j, rI (X i j)) → (∀ i j, rL (Y i j)) → ∀ X1 : Nat → Int → Int, X1 = zU X (i) 0 (0) → (∀ i j, rI (X1 i j)) → ((oTN X1 i) ∧ (∀ r5 : Bool, ∀ X3 : Nat → Int → Int, (∀ i j, rI (X3 i j)) → ∀ Y4 : Nat → Int → Int, (∀ i j, rL (Y4 i j)) → (r5 = (mIs i X1 1 (b) && mIs i X1 0 (a)) ∧ hK X1 (X3) Y (Y4) i ∧ (r5 = true → hS9 X1 (X3) i (a) (b) ∧ oH (X3) (Y4) i)) → (((r5 = false) → ((-1) = rGain X i (a) (b) (g) (d) ∧ pK X (X3) i)) ∧ ((r5 = true) → ((0 ≤ X3 i 26) ∧ ((((mIn (g) 0 (X3 i 26 - 1)) = false) → ((-1) = rGain X i (a) (b) (g) (d) ∧ pK X (X3) i)) ∧ (((mIn (g) 0 (X3 i 26 - 1)) = true) → ((((mIn (d) ((0 : Int)) ((2 : Int))) = true) → ((∃ q : Nat, (0 : Int) = q ∧ (0 : Int) ≤ X3 i 27 ∧ (0 : Int) = ((gaN (sdf X3 i) (fun k => rLd X3 i k g) q).1 : Int) ∧ (0 : Int) = (gaN (sdf X3 i) (fun k => rLd X3 i k g) q).2) ∧ (∀ (best : Int) (z : Int) (k : Int), rI best → rI z → rI k → (∃ q : Nat, k = q ∧ k ≤ X3 i 27 ∧ best = ((gaN (sdf X3 i) (fun k => rLd X3 i k g) q).1 : Int) ∧ z = (gaN (sdf X3 i) (fun k => rLd X3 i k g) q).2) → ((((X3 (i) 27) ≤ k) → (((¬ d = 0) → (((¬ d = 1) → (z = rGain X i (a) (b) (g) (d) ∧ pK X (X3) i)) ∧ ((¬ (¬ d = 1)) → ((0 ≤ ((6 * best) + g) ∧ ((6 * best) + g) < 90) ∧ (X3 (i + 16) ((6 * best) + g) = rGain X i (a) (b) (g) (d) ∧ pK X (X3) i))))) ∧ ((¬ (¬ d = 0)) → (best = rGain X i (a) (b) (g) (d) ∧ pK X (X3) i)))) ∧ ((¬ ((X3 (i) 27) ≤ k)) → ((0 ≤ ((6 * k) + g) ∧ ((6 * k) + g) < 90) ∧ ((0 ≤ ((6 * best) + g) ∧ ((6 * best) + g) < 90) ∧ ((((mHas (X3 (i) 35) (k)) = false) → ((((mHas (X3 (i) 35) (k)) = false) → ((rI (k + 1)) ∧ (∃ q : Nat, k + 1 = q ∧ k + 1 ≤ X3 i 27 ∧ best = ((gaN (sdf X3 i) (fun k => rLd X3 i k g) q).1 : Int) ∧ z = (gaN (sdf X3 i) (fun k => rLd X3 i k g) q).2) ∧ (((X3 i 27 - (k + 1)).toNat) < ((X3 i 27 - (k)).toNat)))) ∧ (((mHas (X3 (i) 35) (k)) = true) → (((¬ (zW ((X3 (i + 16) ((6 * k) + g)) - (X3 (i + 16) ((6 * best) + g)))) = 0) → ((rI (k + 1)) ∧ (∃ q : Nat, k + 1 = q ∧ k + 1 ≤ X3 i 27 ∧ best = ((gaN (sdf X3 i) (fun k => rLd X3 i k g) q).1 : Int) ∧ z = (gaN (sdf X3 i) (fun k => rLd X3 i k g) q).2) ∧ (((X3 i 27 - (k + 1)).toNat) < ((X3 i 27 - (k)).toNat)))) ∧ ((¬ (¬ (zW ((X3 (i + 16) ((6 * k) + g)) - (X3 (i + 16) ((6 * best) + g)))) = 0)) → ((rI (z + 1)) ∧ (rI (k + 1)) ∧ (∃ q : Nat, k + 1 = q ∧ k + 1 ≤ X3 i 27 ∧ best = ((gaN (sdf X3 i) (fun k => rLd X3 i k g) q).1 : Int) ∧ z + 1 = (gaN (sdf X3 i) (fun k => rLd X3 i k g) q).2) ∧ (((X3 i 27 - (k + 1)).toNat) < ((X3 i 27 - (k)).toNat)))))))) ∧ (((mHas (X3 (i) 35) (k)) = true) → ((((zW ((X3 (i + 16) ((6 * k) + g)) - (X3 (i + 16) ((6 * best) + g)))) ≤ 0) → ((((mHas (X3 (i) 35) (k)) = false) → ((rI (k + 1)) ∧ (∃ q : Nat, k + 1 = q ∧ k + 1 ≤ X3 i 27 ∧ best = ((gaN (sdf X3 i) (fun k => rLd X3 i k g) q).1 : Int) ∧ z = (gaN (sdf X3 i) (fun k => rLd X3 i k g) q).2) ∧ (((X3 i 27 - (k + 1)).toNat) < ((X3 i 27 - (k)).toNat)))) ∧ (((mHas (X3 (i) 35) (k)) = true) → (((¬ (zW ((X3 (i + 16) ((6 * k) + g)) - (X3 (i + 16) ((6 * best) + g)))) = 0) → ((rI (k + 1)) ∧ (∃ q : Nat, k + 1 = q ∧ k + 1 ≤ X3 i 27 ∧ best = ((gaN (sdf X3 i) (fun k => rLd X3 i k g) q).1 : Int) ∧ z = (gaN (sdf X3 i) (fun k => rLd X3 i k g) q).2) ∧ (((X3 i 27 - (k + 1)).toNat) < ((X3 i 27 - (k)).toNat)))) ∧ ((¬ (¬ (zW ((X3 (i + 16) ((6 * k) + g)) - (X3 (i + 16) ((6 * best) + g)))) = 0)) → ((rI (z + 1)) ∧ (rI (k + 1)) ∧ (∃ q : Nat, k + 1 = q ∧ k + 1 ≤ X3 i 27 ∧ best = ((gaN (sdf X3 i) (fun k => rLd X3 i k g) q).1 : Int) ∧ z + 1 = (gaN (sdf X3 i) (fun k => rLd X3 i k g) q).2) ∧ (((X3 i 27 - (k + 1)).toNat) < ((X3 i 27 - (k)).toNat)))))))) ∧ ((¬ ((zW ((X3 (i + 16) ((6 * k) + g)) - (X3 (i + 16) ((6 * best) + g)))) ≤ 0)) → ((rI (k + 1)) ∧ (∃ q : Nat, k + 1 = q ∧ k + 1 ≤ X3 i 27 ∧ k = ((gaN (sdf X3 i) (fun k => rLd X3 i k g) q).1 : Int) ∧ (1 : Int) = (gaN (sdf X3 i) (fun k => rLd X3 i k g) q).2) ∧ (((X3 i 27 - (k + 1)).toNat) < ((X3 i 27 - (k)).toNat)))))))))))))) ∧ (((mIn (d) ((0 : Int)) ((2 : Int))) = false) → ((-1) = rGain X i (a) (b) (g) (d) ∧ pK X (X3) i))))))))))
set_option maxHeartbeats 4000000 in
set_option maxRecDepth 100000 in
theorem w_X11_gain {l : Launch} {D : va_G} {cy : Nat → ClassId} {bs N : Nat} {sa : Nat → Nat} {kd len : Nat → Nat} {X Y : Nat → Int → Int} {R : Nat → Int → Option Nat} {i : Nat} (hM : zM N kd len R i) (a : Int) (ha : rI a) (b : Int) (hb : rI b) (g : Int) (hg : rI g) (d : Int) (hd : rI d) (hF : F_X11_gain i X Y R a b g d) : Met l yX11_gain (.code yX11_gain cX11_gain 10 (some .int) :: zTB) (zRm 6 140) (zPc D cy bs sa N kd len X Y R [.ref (bs + (i)), .int (zI (a)), .int (zI (b)), .int (zI (g)), .int (zI (d))]) (zQi D cy bs N kd len (fun r st => st.2.2 = R ∧ (r = rGain X i (a) (b) (g) (d) ∧ pK X (st.1) i))) 0 0 (zA bs) := by
  refine zstart (by decide) (Nat.le_of_ble_eq_true rfl) ?_
  intro p e s m args below meth c ls C hE hH hr hlk hnm hl hargs
  have hF := hF hH.2.2.1 hH.2.2.2
  have hS : va_S (zA bs) s.heap s.heap [] := va_S.rf
  have hl : lv_has ls 10 [(0, .ref (bs + (i))), (1, .int (zI (a))), (2, .int (zI (b))), (3, .int (zI (g))), (4, .int (zI (d)))] := hl
  refine lv_aload_n C.1 C.2.1 dX11_gain_0 rfl (lv_at hl 0 rfl) ?_
  refine zd_iconst C dX11_gain_1 ?_
  refine zp11_0 C hH hS (zM_n0 hM) (zM_k0 hM) q_1287 (by decide) dX11_gain_2 (fun H locs hH hS => ?_)
  obtain ⟨X1, eX1⟩ : ∃ z, z = zU X (i) 0 (0) := ⟨_, rfl⟩
  rw [← eX1] at hH
  have hF := hF X1 eX1 hH.2.2.1
  refine lv_aload_n C.1 C.2.1 dX11_gain_5 rfl (lv_at hl 0 rfl) ?_
  refine lv_iload_n C.1 C.2.1 dX11_gain_6 rfl (lv_at hl 1 rfl) ?_
  refine lv_iload_n C.1 C.2.1 dX11_gain_7 rfl (lv_at hl 2 rfl) ?_
  obtain ⟨o2, hF⟩ := hF
  refine zgoi (zrunV (As := [.int (zI (a)), .int (zI (b))]) (rest := []) C hE hH hS hl.1 (c_X11_hand (l := l) hM (a) ha (b) hb o2) k_RX11_397 ⟨Nat.le_of_ble_eq_true rfl, Nat.le_of_ble_eq_true rfl⟩ (zM_n0 hM) (zM_k0 hM) rfl rfl rfl (Nat.le_of_ble_eq_true rfl) dX11_gain_8 ⟨Nat.zero_le _, Nat.zero_le _⟩) hS (fun rq X3 Y4 Rq H locs hrq hq hH hS => ?_)
  obtain ⟨h9R, hq⟩ := hq
  dsimp only at h9R
  rw [h9R] at hH
  obtain ⟨r5, h91, hq⟩ := hq
  subst h91
  have hF := hF r5 X3 hH.2.2.1 Y4 hH.2.2.2 hq
  refine zd_ifB_eq C 32 dX11_gain_11 (by decide) (fun c6 => ?_) (fun c6 => ?_)
  · have hF := hF.1 c6
    refine zd_iconst C dX11_gain_32 ?_
    exact zd_iret C hr hlk hH hS (by decide) (⟨rfl, hF⟩) dX11_gain_33
  · have hF := hF.2 c6
    refine lv_aload_n C.1 C.2.1 dX11_gain_14 rfl (lv_at hl 0 rfl) ?_
    refine lv_iload_n C.1 C.2.1 dX11_gain_15 rfl (lv_at hl 3 rfl) ?_
    obtain ⟨o7, hF⟩ := hF
    refine zgoi (zrunV (As := [.int (zI (g))]) (rest := []) C hE hH hS hl.1 (c_X11_isAccount (l := l) hM (g) hg o7) k_RX11_289 ⟨Nat.le_of_ble_eq_true rfl, Nat.le_of_ble_eq_true rfl⟩ (zM_n0 hM) (zM_k0 hM) rfl rfl rfl (Nat.le_of_ble_eq_true rfl) dX11_gain_16 ⟨Nat.zero_le _, Nat.zero_le _⟩) hS (fun rq Xq Yq Rq H locs hrq hq hH hS => ?_)
    obtain ⟨h91, h92⟩ := hq
    have h93 : Xq = X3 := congrArg (fun z => z.1) h92
    have h94 : Yq = Y4 := congrArg (fun z => z.2.1) h92
    have h95 : Rq = R := congrArg (fun z => z.2.2) h92
    rw [h93, h94, h95] at hH
    subst h91
    refine zd_ifB_eq C 32 dX11_gain_19 (by decide) (fun c8 => ?_) (fun c8 => ?_)
    · have hF := hF.1 c8
      refine zd_iconst C dX11_gain_32 ?_
      exact zd_iret C hr hlk hH hS (by decide) (⟨rfl, hF⟩) dX11_gain_33
    · have hF := hF.2 c8
      refine lv_iload C.1 C.2.1 dX11_gain_22 (lv_at hl 4 rfl) ?_
      refine zd_iconst C dX11_gain_24 ?_
      refine zd_iconst C dX11_gain_25 ?_
      refine zgoi (zrunS (As := [.int (zI (d)), .int (zI (0)), .int (zI (2))]) (rest := []) C hE hH hS hl.1 (c_X11_in (l := l)  (d) hd (0) (by decide) (2) (by decide)) k_RX11_100 ⟨Nat.le_of_ble_eq_true rfl, Nat.le_of_ble_eq_true rfl⟩ rfl (Nat.le_of_ble_eq_true rfl) dX11_gain_26 ⟨Nat.zero_le _, Nat.zero_le _⟩) hS (fun rq Xq Yq Rq H locs hrq hq hH hS => ?_)
      obtain ⟨h91, h92⟩ := hq
      have h93 : Xq = X3 := congrArg (fun z => z.1) h92
      have h94 : Yq = Y4 := congrArg (fun z => z.2.1) h92
      have h95 : Rq = R := congrArg (fun z => z.2.2) h92
      rw [h93, h94, h95] at hH
      subst h91
      refine zd_ifB_ne C 34 dX11_gain_29 (by decide) (fun c9 => ?_) (fun c9 => ?_)
      · have hF := hF.1 c9
        refine zd_iconst C dX11_gain_34 ?_
        refine lv_istore (lv' := [(5, .int (zI (0))), (0, .ref (bs + (i))), (1, .int (zI (a))), (2, .int (zI (b))), (3, .int (zI (g))), (4, .int (zI (d)))]) C.1 C.2.1 dX11_gain_35 hl (by decide) rfl (fun ls hl => ?_)
        refine zd_iconst C dX11_gain_37 ?_
        refine lv_istore (lv' := [(6, .int (zI (0))), (5, .int (zI (0))), (0, .ref (bs + (i))), (1, .int (zI (a))), (2, .int (zI (b))), (3, .int (zI (g))), (4, .int (zI (d)))]) C.1 C.2.1 dX11_gain_38 hl (by decide) rfl (fun ls hl => ?_)
        refine zd_iconst C dX11_gain_40 ?_
        refine lv_istore (lv' := [(7, .int (zI (0))), (6, .int (zI (0))), (5, .int (zI (0))), (0, .ref (bs + (i))), (1, .int (zI (a))), (2, .int (zI (b))), (3, .int (zI (g))), (4, .int (zI (d)))]) C.1 C.2.1 dX11_gain_41 hl (by decide) rfl (fun ls hl => ?_)
        obtain ⟨hI10, hF⟩ := hF
        have L10 : ∀ (fu : Nat) (best : Int) (z : Int) (k : Int), rI best → rI z → rI k → (∃ q : Nat, k = q ∧ k ≤ X3 i 27 ∧ best = ((gaN (sdf X3 i) (fun k => rLd X3 i k g) q).1 : Int) ∧ z = (gaN (sdf X3 i) (fun k => rLd X3 i k g) q).2) → ((X3 i 27 - (k)).toNat) < fu → ∀ (H : Heap) (locs : List Loc) (ls : Array Slot), zH D cy bs N kd len X3 Y4 R H → va_S (zA bs) s.heap H locs → lv_has ls 10 [(5, .int (zI (best))), (6, .int (zI (z))), (7, .int (zI (k))), (0, .ref (bs + (i))), (1, .int (zI (a))), (2, .int (zI (b))), (3, .int (zI (g))), (4, .int (zI (d)))] → W p l e (zRm 6 140) s m args below meth c H locs 0 0 (MQ below (zQi D cy bs N kd len (fun r st => st.2.2 = R ∧ (r = rGain X i (a) (b) (g) (d) ∧ pK X (st.1) i))) args s 0 0 (zA bs)) (F0 m 43 ls []) := by
          intro fu
          induction fu with
          | zero => intro best z k _ _ _ _ hmu; exact absurd hmu (Nat.not_lt_zero _)
          | succ fu ih10 =>
            intro best z k hbest hz hk hI hmu10 H locs ls hH hS hl
            have hF := hF best z k hbest hz hk  hI
            refine lv_iload C.1 C.2.1 dX11_gain_43 (lv_at hl 2 rfl) ?_
            refine lv_aload_n C.1 C.2.1 dX11_gain_45 rfl (lv_at hl 3 rfl) ?_
            refine zg11_27 C hH (zM_n0 hM) (zM_k0 hM) q_1314 dX11_gain_46 ?_
            refine zd_icmp_ge C hk (hH.2.2.1 _ _) 160 dX11_gain_49 (by decide) (fun c11 => ?_) (fun c11 => ?_)
            · have hF := hF.1 c11
              refine lv_iload C.1 C.2.1 dX11_gain_160 (lv_at hl 7 rfl) ?_
              refine zd_if_ne C hd 170 dX11_gain_162 (by decide) (fun c12 => ?_) (fun c12 => ?_)
              · have hF := hF.1 c12
                refine lv_iload C.1 C.2.1 dX11_gain_170 (lv_at hl 7 rfl) ?_
                refine zd_iconst C dX11_gain_172 ?_
                refine zd_icmp_ne C hd (by decide) 191 dX11_gain_173 (by decide) (fun c13 => ?_) (fun c13 => ?_)
                · have hF := hF.1 c13
                  refine lv_iload C.1 C.2.1 dX11_gain_191 (lv_at hl 1 rfl) ?_
                  exact zd_iret C hr hlk hH hS hz (⟨rfl, hF⟩) dX11_gain_193
                · have hF := hF.2 c13
                  refine lv_aload_n C.1 C.2.1 dX11_gain_176 rfl (lv_at hl 3 rfl) ?_
                  refine zg11_34 C hH (zM_n0 hM) (zM_k0 hM) q_1321 (zM_r16 hM) dX11_gain_177 ?_
                  refine zd_bipush C (by decide) dX11_gain_180 ?_
                  refine lv_iload C.1 C.2.1 dX11_gain_182 (lv_at hl 0 rfl) ?_
                  refine zd_imul C dX11_gain_184 ?_
                  refine lv_iload_n C.1 C.2.1 dX11_gain_185 rfl (lv_at hl 6 rfl) ?_
                  refine zd_iadd C dX11_gain_186 ?_
                  obtain ⟨o14, hF⟩ := hF
                  refine zd_iald C hH (zM_n16 hM) (zM_k16 hM) o14.1 (by rw [zM_l16 hM]; exact o14.2) (by rw [zM_l16 hM]; decide) dX11_gain_187 ?_
                  refine lv_goto (tgt := 193) C.1 C.2.1 dX11_gain_188 (by decide) ?_
                  exact zd_iret C hr hlk hH hS (hH.2.2.1 _ _) (⟨rfl, hF⟩) dX11_gain_193
              · have hF := hF.2 c12
                refine lv_iload C.1 C.2.1 dX11_gain_165 (lv_at hl 0 rfl) ?_
                refine lv_goto (tgt := 193) C.1 C.2.1 dX11_gain_167 (by decide) ?_
                exact zd_iret C hr hlk hH hS hbest (⟨rfl, hF⟩) dX11_gain_193
            · have hF := hF.2 c11
              refine lv_aload_n C.1 C.2.1 dX11_gain_52 rfl (lv_at hl 3 rfl) ?_
              refine zg11_34 C hH (zM_n0 hM) (zM_k0 hM) q_1321 (zM_r16 hM) dX11_gain_53 ?_
              refine zd_bipush C (by decide) dX11_gain_56 ?_
              refine lv_iload C.1 C.2.1 dX11_gain_58 (lv_at hl 2 rfl) ?_
              refine zd_imul C dX11_gain_60 ?_
              refine lv_iload_n C.1 C.2.1 dX11_gain_61 rfl (lv_at hl 6 rfl) ?_
              refine zd_iadd C dX11_gain_62 ?_
              obtain ⟨o15, hF⟩ := hF
              refine zd_iald C hH (zM_n16 hM) (zM_k16 hM) o15.1 (by rw [zM_l16 hM]; exact o15.2) (by rw [zM_l16 hM]; decide) dX11_gain_63 ?_
              refine lv_aload_n C.1 C.2.1 dX11_gain_64 rfl (lv_at hl 3 rfl) ?_
              refine zg11_34 C hH (zM_n0 hM) (zM_k0 hM) q_1321 (zM_r16 hM) dX11_gain_65 ?_
              refine zd_bipush C (by decide) dX11_gain_68 ?_
              refine lv_iload C.1 C.2.1 dX11_gain_70 (lv_at hl 0 rfl) ?_
              refine zd_imul C dX11_gain_72 ?_
              refine lv_iload_n C.1 C.2.1 dX11_gain_73 rfl (lv_at hl 6 rfl) ?_
              refine zd_iadd C dX11_gain_74 ?_
              obtain ⟨o16, hF⟩ := hF
              refine zd_iald C hH (zM_n16 hM) (zM_k16 hM) o16.1 (by rw [zM_l16 hM]; exact o16.2) (by rw [zM_l16 hM]; decide) dX11_gain_75 ?_
              refine zd_isub C dX11_gain_76 ?_
              rw [show zI ((X3 (i + 16) ((6 * k) + g)) - (X3 (i + 16) ((6 * best) + g))) = zI (zW ((X3 (i + 16) ((6 * k) + g)) - (X3 (i + 16) ((6 * best) + g)))) from (zI_zW _).symm]
              refine lv_istore (lv' := [(8, .int (zI (zW ((X3 (i + 16) ((6 * k) + g)) - (X3 (i + 16) ((6 * best) + g)))))), (5, .int (zI (best))), (6, .int (zI (z))), (7, .int (zI (k))), (0, .ref (bs + (i))), (1, .int (zI (a))), (2, .int (zI (b))), (3, .int (zI (g))), (4, .int (zI (d)))]) C.1 C.2.1 dX11_gain_77 hl (by decide) rfl (fun ls hl => ?_)
              refine lv_aload_n C.1 C.2.1 dX11_gain_79 rfl (lv_at hl 4 rfl) ?_
              refine zg11_35 C hH (zM_n0 hM) (zM_k0 hM) q_1322 dX11_gain_80 ?_
              refine lv_iload C.1 C.2.1 dX11_gain_83 (lv_at hl 3 rfl) ?_
              refine zgoi (zrunS (As := [.int (zI (X3 (i) 35)), .int (zI (k))]) (rest := []) C hE hH hS hl.1 (c_X11_has (l := l)  (X3 (i) 35) (hH.2.2.1 _ _) (k) hk) k_RX11_92 ⟨Nat.le_of_ble_eq_true rfl, Nat.le_of_ble_eq_true rfl⟩ rfl (Nat.le_of_ble_eq_true rfl) dX11_gain_85 ⟨Nat.zero_le _, Nat.zero_le _⟩) hS (fun rq Xq Yq Rq H locs hrq hq hH hS => ?_)
              obtain ⟨h91, h92⟩ := hq
              have h93 : Xq = X3 := congrArg (fun z => z.1) h92
              have h94 : Yq = Y4 := congrArg (fun z => z.2.1) h92
              have h95 : Rq = R := congrArg (fun z => z.2.2) h92
              rw [h93, h94, h95] at hH
              subst h91
              refine zd_ifB_eq C 100 dX11_gain_88 (by decide) (fun c17 => ?_) (fun c17 => ?_)
              · have hF := hF.1 c17
                refine zd_iconst C dX11_gain_100 ?_
                refine lv_istore (lv' := [(9, .int (zI (0))), (8, .int (zI (zW ((X3 (i + 16) ((6 * k) + g)) - (X3 (i + 16) ((6 * best) + g)))))), (5, .int (zI (best))), (6, .int (zI (z))), (7, .int (zI (k))), (0, .ref (bs + (i))), (1, .int (zI (a))), (2, .int (zI (b))), (3, .int (zI (g))), (4, .int (zI (d)))]) C.1 C.2.1 dX11_gain_101 hl (by decide) rfl (fun ls hl => ?_)
                refine lv_iload C.1 C.2.1 dX11_gain_103 (lv_at hl 0 rfl) ?_
                refine zd_if_eq C (by decide) 112 dX11_gain_105 (by decide) (fun c18 => ?_) (fun c18 => ?_)
                · refine lv_aload_n C.1 C.2.1 dX11_gain_112 rfl (lv_at hl 5 rfl) ?_
                  refine zg11_35 C hH (zM_n0 hM) (zM_k0 hM) q_1322 dX11_gain_113 ?_
                  refine lv_iload C.1 C.2.1 dX11_gain_116 (lv_at hl 4 rfl) ?_
                  refine zgoi (zrunS (As := [.int (zI (X3 (i) 35)), .int (zI (k))]) (rest := []) C hE hH hS hl.1 (c_X11_has (l := l)  (X3 (i) 35) (hH.2.2.1 _ _) (k) hk) k_RX11_92 ⟨Nat.le_of_ble_eq_true rfl, Nat.le_of_ble_eq_true rfl⟩ rfl (Nat.le_of_ble_eq_true rfl) dX11_gain_118 ⟨Nat.zero_le _, Nat.zero_le _⟩) hS (fun rq Xq Yq Rq H locs hrq hq hH hS => ?_)
                  obtain ⟨h91, h92⟩ := hq
                  have h93 : Xq = X3 := congrArg (fun z => z.1) h92
                  have h94 : Yq = Y4 := congrArg (fun z => z.2.1) h92
                  have h95 : Rq = R := congrArg (fun z => z.2.2) h92
                  rw [h93, h94, h95] at hH
                  subst h91
                  refine zd_ifB_eq C 136 dX11_gain_121 (by decide) (fun c19 => ?_) (fun c19 => ?_)
                  · have hF := hF.1 c19
                    refine lv_iload C.1 C.2.1 dX11_gain_136 (lv_at hl 3 rfl) ?_
                    refine lv_istore (lv' := [(6, .int (zI (z))), (9, .int (zI (0))), (8, .int (zI (zW ((X3 (i + 16) ((6 * k) + g)) - (X3 (i + 16) ((6 * best) + g)))))), (5, .int (zI (best))), (7, .int (zI (k))), (0, .ref (bs + (i))), (1, .int (zI (a))), (2, .int (zI (b))), (3, .int (zI (g))), (4, .int (zI (d)))]) C.1 C.2.1 dX11_gain_138 hl (by decide) rfl (fun ls hl => ?_)
                    refine lv_iload C.1 C.2.1 dX11_gain_140 (lv_at hl 1 rfl) ?_
                    refine zd_if_eq C (by decide) 150 dX11_gain_142 (by decide) (fun c20 => ?_) (fun c20 => ?_)
                    · refine lv_iload C.1 C.2.1 dX11_gain_150 (lv_at hl 3 rfl) ?_
                      refine lv_istore (lv' := [(5, .int (zI (best))), (6, .int (zI (z))), (9, .int (zI (0))), (8, .int (zI (zW ((X3 (i + 16) ((6 * k) + g)) - (X3 (i + 16) ((6 * best) + g)))))), (7, .int (zI (k))), (0, .ref (bs + (i))), (1, .int (zI (a))), (2, .int (zI (b))), (3, .int (zI (g))), (4, .int (zI (d)))]) C.1 C.2.1 dX11_gain_152 hl (by decide) rfl (fun ls hl => ?_)
                      refine zd_iinc (k := 4) (lv' := [(7, .int (zI (k + 1))), (5, .int (zI (best))), (6, .int (zI (z))), (9, .int (zI (0))), (8, .int (zI (zW ((X3 (i + 16) ((6 * k) + g)) - (X3 (i + 16) ((6 * best) + g)))))), (0, .ref (bs + (i))), (1, .int (zI (a))), (2, .int (zI (b))), (3, .int (zI (g))), (4, .int (zI (d)))]) C hl rfl dX11_gain_154 (by decide) rfl (fun ls hl => ?_)
                      refine lv_goto (tgt := 43) C.1 C.2.1 dX11_gain_157 (by decide) ?_
                      obtain ⟨o21, hF⟩ := hF
                      exact ih10 (best) (z) (k + 1) hbest hz o21 hF.1 (Nat.lt_of_lt_of_le hF.2 (Nat.le_of_lt_succ hmu10)) _ _ _ hH hS (lv_sub hl [1, 2, 0, 5, 6, 7, 8, 9] rfl)
                    · exact absurd (by decide) c20
                  · have hF := hF.2 c19
                    refine lv_iload C.1 C.2.1 dX11_gain_124 (lv_at hl 1 rfl) ?_
                    refine zd_if_ne C (zW_rg _) 136 dX11_gain_126 (by decide) (fun c22 => ?_) (fun c22 => ?_)
                    · have hF := hF.1 c22
                      refine lv_iload C.1 C.2.1 dX11_gain_136 (lv_at hl 3 rfl) ?_
                      refine lv_istore (lv' := [(6, .int (zI (z))), (9, .int (zI (0))), (8, .int (zI (zW ((X3 (i + 16) ((6 * k) + g)) - (X3 (i + 16) ((6 * best) + g)))))), (5, .int (zI (best))), (7, .int (zI (k))), (0, .ref (bs + (i))), (1, .int (zI (a))), (2, .int (zI (b))), (3, .int (zI (g))), (4, .int (zI (d)))]) C.1 C.2.1 dX11_gain_138 hl (by decide) rfl (fun ls hl => ?_)
                      refine lv_iload C.1 C.2.1 dX11_gain_140 (lv_at hl 1 rfl) ?_
                      refine zd_if_eq C (by decide) 150 dX11_gain_142 (by decide) (fun c23 => ?_) (fun c23 => ?_)
                      · refine lv_iload C.1 C.2.1 dX11_gain_150 (lv_at hl 3 rfl) ?_
                        refine lv_istore (lv' := [(5, .int (zI (best))), (6, .int (zI (z))), (9, .int (zI (0))), (8, .int (zI (zW ((X3 (i + 16) ((6 * k) + g)) - (X3 (i + 16) ((6 * best) + g)))))), (7, .int (zI (k))), (0, .ref (bs + (i))), (1, .int (zI (a))), (2, .int (zI (b))), (3, .int (zI (g))), (4, .int (zI (d)))]) C.1 C.2.1 dX11_gain_152 hl (by decide) rfl (fun ls hl => ?_)
                        refine zd_iinc (k := 4) (lv' := [(7, .int (zI (k + 1))), (5, .int (zI (best))), (6, .int (zI (z))), (9, .int (zI (0))), (8, .int (zI (zW ((X3 (i + 16) ((6 * k) + g)) - (X3 (i + 16) ((6 * best) + g)))))), (0, .ref (bs + (i))), (1, .int (zI (a))), (2, .int (zI (b))), (3, .int (zI (g))), (4, .int (zI (d)))]) C hl rfl dX11_gain_154 (by decide) rfl (fun ls hl => ?_)
                        refine lv_goto (tgt := 43) C.1 C.2.1 dX11_gain_157 (by decide) ?_
                        obtain ⟨o24, hF⟩ := hF
                        exact ih10 (best) (z) (k + 1) hbest hz o24 hF.1 (Nat.lt_of_lt_of_le hF.2 (Nat.le_of_lt_succ hmu10)) _ _ _ hH hS (lv_sub hl [1, 2, 0, 5, 6, 7, 8, 9] rfl)
                      · exact absurd (by decide) c23
                    · have hF := hF.2 c22
                      refine lv_iload C.1 C.2.1 dX11_gain_129 (lv_at hl 3 rfl) ?_
                      refine zd_iconst C dX11_gain_131 ?_
                      refine zd_iadd C dX11_gain_132 ?_
                      refine lv_goto (tgt := 138) C.1 C.2.1 dX11_gain_133 (by decide) ?_
                      refine lv_istore (lv' := [(6, .int (zI (z + 1))), (9, .int (zI (0))), (8, .int (zI (zW ((X3 (i + 16) ((6 * k) + g)) - (X3 (i + 16) ((6 * best) + g)))))), (5, .int (zI (best))), (7, .int (zI (k))), (0, .ref (bs + (i))), (1, .int (zI (a))), (2, .int (zI (b))), (3, .int (zI (g))), (4, .int (zI (d)))]) C.1 C.2.1 dX11_gain_138 hl (by decide) rfl (fun ls hl => ?_)
                      refine lv_iload C.1 C.2.1 dX11_gain_140 (lv_at hl 1 rfl) ?_
                      refine zd_if_eq C (by decide) 150 dX11_gain_142 (by decide) (fun c25 => ?_) (fun c25 => ?_)
                      · refine lv_iload C.1 C.2.1 dX11_gain_150 (lv_at hl 3 rfl) ?_
                        refine lv_istore (lv' := [(5, .int (zI (best))), (6, .int (zI (z + 1))), (9, .int (zI (0))), (8, .int (zI (zW ((X3 (i + 16) ((6 * k) + g)) - (X3 (i + 16) ((6 * best) + g)))))), (7, .int (zI (k))), (0, .ref (bs + (i))), (1, .int (zI (a))), (2, .int (zI (b))), (3, .int (zI (g))), (4, .int (zI (d)))]) C.1 C.2.1 dX11_gain_152 hl (by decide) rfl (fun ls hl => ?_)
                        refine zd_iinc (k := 4) (lv' := [(7, .int (zI (k + 1))), (5, .int (zI (best))), (6, .int (zI (z + 1))), (9, .int (zI (0))), (8, .int (zI (zW ((X3 (i + 16) ((6 * k) + g)) - (X3 (i + 16) ((6 * best) + g)))))), (0, .ref (bs + (i))), (1, .int (zI (a))), (2, .int (zI (b))), (3, .int (zI (g))), (4, .int (zI (d)))]) C hl rfl dX11_gain_154 (by decide) rfl (fun ls hl => ?_)
                        refine lv_goto (tgt := 43) C.1 C.2.1 dX11_gain_157 (by decide) ?_
                        obtain ⟨o26, hF⟩ := hF
                        obtain ⟨o27, hF⟩ := hF
                        exact ih10 (best) (z + 1) (k + 1) hbest o26 o27 hF.1 (Nat.lt_of_lt_of_le hF.2 (Nat.le_of_lt_succ hmu10)) _ _ _ hH hS (lv_sub hl [1, 2, 0, 5, 6, 7, 8, 9] rfl)
                      · exact absurd (by decide) c25
                · exact absurd (by decide) c18
              · have hF := hF.2 c17
                refine lv_iload C.1 C.2.1 dX11_gain_91 (lv_at hl 0 rfl) ?_
                refine zd_if_le C (zW_rg _) 100 dX11_gain_93 (by decide) (fun c28 => ?_) (fun c28 => ?_)
                · have hF := hF.1 c28
                  refine zd_iconst C dX11_gain_100 ?_
                  refine lv_istore (lv' := [(9, .int (zI (0))), (8, .int (zI (zW ((X3 (i + 16) ((6 * k) + g)) - (X3 (i + 16) ((6 * best) + g)))))), (5, .int (zI (best))), (6, .int (zI (z))), (7, .int (zI (k))), (0, .ref (bs + (i))), (1, .int (zI (a))), (2, .int (zI (b))), (3, .int (zI (g))), (4, .int (zI (d)))]) C.1 C.2.1 dX11_gain_101 hl (by decide) rfl (fun ls hl => ?_)
                  refine lv_iload C.1 C.2.1 dX11_gain_103 (lv_at hl 0 rfl) ?_
                  refine zd_if_eq C (by decide) 112 dX11_gain_105 (by decide) (fun c29 => ?_) (fun c29 => ?_)
                  · refine lv_aload_n C.1 C.2.1 dX11_gain_112 rfl (lv_at hl 5 rfl) ?_
                    refine zg11_35 C hH (zM_n0 hM) (zM_k0 hM) q_1322 dX11_gain_113 ?_
                    refine lv_iload C.1 C.2.1 dX11_gain_116 (lv_at hl 4 rfl) ?_
                    refine zgoi (zrunS (As := [.int (zI (X3 (i) 35)), .int (zI (k))]) (rest := []) C hE hH hS hl.1 (c_X11_has (l := l)  (X3 (i) 35) (hH.2.2.1 _ _) (k) hk) k_RX11_92 ⟨Nat.le_of_ble_eq_true rfl, Nat.le_of_ble_eq_true rfl⟩ rfl (Nat.le_of_ble_eq_true rfl) dX11_gain_118 ⟨Nat.zero_le _, Nat.zero_le _⟩) hS (fun rq Xq Yq Rq H locs hrq hq hH hS => ?_)
                    obtain ⟨h91, h92⟩ := hq
                    have h93 : Xq = X3 := congrArg (fun z => z.1) h92
                    have h94 : Yq = Y4 := congrArg (fun z => z.2.1) h92
                    have h95 : Rq = R := congrArg (fun z => z.2.2) h92
                    rw [h93, h94, h95] at hH
                    subst h91
                    refine zd_ifB_eq C 136 dX11_gain_121 (by decide) (fun c30 => ?_) (fun c30 => ?_)
                    · have hF := hF.1 c30
                      refine lv_iload C.1 C.2.1 dX11_gain_136 (lv_at hl 3 rfl) ?_
                      refine lv_istore (lv' := [(6, .int (zI (z))), (9, .int (zI (0))), (8, .int (zI (zW ((X3 (i + 16) ((6 * k) + g)) - (X3 (i + 16) ((6 * best) + g)))))), (5, .int (zI (best))), (7, .int (zI (k))), (0, .ref (bs + (i))), (1, .int (zI (a))), (2, .int (zI (b))), (3, .int (zI (g))), (4, .int (zI (d)))]) C.1 C.2.1 dX11_gain_138 hl (by decide) rfl (fun ls hl => ?_)
                      refine lv_iload C.1 C.2.1 dX11_gain_140 (lv_at hl 1 rfl) ?_
                      refine zd_if_eq C (by decide) 150 dX11_gain_142 (by decide) (fun c31 => ?_) (fun c31 => ?_)
                      · refine lv_iload C.1 C.2.1 dX11_gain_150 (lv_at hl 3 rfl) ?_
                        refine lv_istore (lv' := [(5, .int (zI (best))), (6, .int (zI (z))), (9, .int (zI (0))), (8, .int (zI (zW ((X3 (i + 16) ((6 * k) + g)) - (X3 (i + 16) ((6 * best) + g)))))), (7, .int (zI (k))), (0, .ref (bs + (i))), (1, .int (zI (a))), (2, .int (zI (b))), (3, .int (zI (g))), (4, .int (zI (d)))]) C.1 C.2.1 dX11_gain_152 hl (by decide) rfl (fun ls hl => ?_)
                        refine zd_iinc (k := 4) (lv' := [(7, .int (zI (k + 1))), (5, .int (zI (best))), (6, .int (zI (z))), (9, .int (zI (0))), (8, .int (zI (zW ((X3 (i + 16) ((6 * k) + g)) - (X3 (i + 16) ((6 * best) + g)))))), (0, .ref (bs + (i))), (1, .int (zI (a))), (2, .int (zI (b))), (3, .int (zI (g))), (4, .int (zI (d)))]) C hl rfl dX11_gain_154 (by decide) rfl (fun ls hl => ?_)
                        refine lv_goto (tgt := 43) C.1 C.2.1 dX11_gain_157 (by decide) ?_
                        obtain ⟨o32, hF⟩ := hF
                        exact ih10 (best) (z) (k + 1) hbest hz o32 hF.1 (Nat.lt_of_lt_of_le hF.2 (Nat.le_of_lt_succ hmu10)) _ _ _ hH hS (lv_sub hl [1, 2, 0, 5, 6, 7, 8, 9] rfl)
                      · exact absurd (by decide) c31
                    · have hF := hF.2 c30
                      refine lv_iload C.1 C.2.1 dX11_gain_124 (lv_at hl 1 rfl) ?_
                      refine zd_if_ne C (zW_rg _) 136 dX11_gain_126 (by decide) (fun c33 => ?_) (fun c33 => ?_)
                      · have hF := hF.1 c33
                        refine lv_iload C.1 C.2.1 dX11_gain_136 (lv_at hl 3 rfl) ?_
                        refine lv_istore (lv' := [(6, .int (zI (z))), (9, .int (zI (0))), (8, .int (zI (zW ((X3 (i + 16) ((6 * k) + g)) - (X3 (i + 16) ((6 * best) + g)))))), (5, .int (zI (best))), (7, .int (zI (k))), (0, .ref (bs + (i))), (1, .int (zI (a))), (2, .int (zI (b))), (3, .int (zI (g))), (4, .int (zI (d)))]) C.1 C.2.1 dX11_gain_138 hl (by decide) rfl (fun ls hl => ?_)
                        refine lv_iload C.1 C.2.1 dX11_gain_140 (lv_at hl 1 rfl) ?_
                        refine zd_if_eq C (by decide) 150 dX11_gain_142 (by decide) (fun c34 => ?_) (fun c34 => ?_)
                        · refine lv_iload C.1 C.2.1 dX11_gain_150 (lv_at hl 3 rfl) ?_
                          refine lv_istore (lv' := [(5, .int (zI (best))), (6, .int (zI (z))), (9, .int (zI (0))), (8, .int (zI (zW ((X3 (i + 16) ((6 * k) + g)) - (X3 (i + 16) ((6 * best) + g)))))), (7, .int (zI (k))), (0, .ref (bs + (i))), (1, .int (zI (a))), (2, .int (zI (b))), (3, .int (zI (g))), (4, .int (zI (d)))]) C.1 C.2.1 dX11_gain_152 hl (by decide) rfl (fun ls hl => ?_)
                          refine zd_iinc (k := 4) (lv' := [(7, .int (zI (k + 1))), (5, .int (zI (best))), (6, .int (zI (z))), (9, .int (zI (0))), (8, .int (zI (zW ((X3 (i + 16) ((6 * k) + g)) - (X3 (i + 16) ((6 * best) + g)))))), (0, .ref (bs + (i))), (1, .int (zI (a))), (2, .int (zI (b))), (3, .int (zI (g))), (4, .int (zI (d)))]) C hl rfl dX11_gain_154 (by decide) rfl (fun ls hl => ?_)
                          refine lv_goto (tgt := 43) C.1 C.2.1 dX11_gain_157 (by decide) ?_
                          obtain ⟨o35, hF⟩ := hF
                          exact ih10 (best) (z) (k + 1) hbest hz o35 hF.1 (Nat.lt_of_lt_of_le hF.2 (Nat.le_of_lt_succ hmu10)) _ _ _ hH hS (lv_sub hl [1, 2, 0, 5, 6, 7, 8, 9] rfl)
                        · exact absurd (by decide) c34
                      · have hF := hF.2 c33
                        refine lv_iload C.1 C.2.1 dX11_gain_129 (lv_at hl 3 rfl) ?_
                        refine zd_iconst C dX11_gain_131 ?_
                        refine zd_iadd C dX11_gain_132 ?_
                        refine lv_goto (tgt := 138) C.1 C.2.1 dX11_gain_133 (by decide) ?_
                        refine lv_istore (lv' := [(6, .int (zI (z + 1))), (9, .int (zI (0))), (8, .int (zI (zW ((X3 (i + 16) ((6 * k) + g)) - (X3 (i + 16) ((6 * best) + g)))))), (5, .int (zI (best))), (7, .int (zI (k))), (0, .ref (bs + (i))), (1, .int (zI (a))), (2, .int (zI (b))), (3, .int (zI (g))), (4, .int (zI (d)))]) C.1 C.2.1 dX11_gain_138 hl (by decide) rfl (fun ls hl => ?_)
                        refine lv_iload C.1 C.2.1 dX11_gain_140 (lv_at hl 1 rfl) ?_
                        refine zd_if_eq C (by decide) 150 dX11_gain_142 (by decide) (fun c36 => ?_) (fun c36 => ?_)
                        · refine lv_iload C.1 C.2.1 dX11_gain_150 (lv_at hl 3 rfl) ?_
                          refine lv_istore (lv' := [(5, .int (zI (best))), (6, .int (zI (z + 1))), (9, .int (zI (0))), (8, .int (zI (zW ((X3 (i + 16) ((6 * k) + g)) - (X3 (i + 16) ((6 * best) + g)))))), (7, .int (zI (k))), (0, .ref (bs + (i))), (1, .int (zI (a))), (2, .int (zI (b))), (3, .int (zI (g))), (4, .int (zI (d)))]) C.1 C.2.1 dX11_gain_152 hl (by decide) rfl (fun ls hl => ?_)
                          refine zd_iinc (k := 4) (lv' := [(7, .int (zI (k + 1))), (5, .int (zI (best))), (6, .int (zI (z + 1))), (9, .int (zI (0))), (8, .int (zI (zW ((X3 (i + 16) ((6 * k) + g)) - (X3 (i + 16) ((6 * best) + g)))))), (0, .ref (bs + (i))), (1, .int (zI (a))), (2, .int (zI (b))), (3, .int (zI (g))), (4, .int (zI (d)))]) C hl rfl dX11_gain_154 (by decide) rfl (fun ls hl => ?_)
                          refine lv_goto (tgt := 43) C.1 C.2.1 dX11_gain_157 (by decide) ?_
                          obtain ⟨o37, hF⟩ := hF
                          obtain ⟨o38, hF⟩ := hF
                          exact ih10 (best) (z + 1) (k + 1) hbest o37 o38 hF.1 (Nat.lt_of_lt_of_le hF.2 (Nat.le_of_lt_succ hmu10)) _ _ _ hH hS (lv_sub hl [1, 2, 0, 5, 6, 7, 8, 9] rfl)
                        · exact absurd (by decide) c36
                  · exact absurd (by decide) c29
                · have hF := hF.2 c28
                  refine zd_iconst C dX11_gain_96 ?_
                  refine lv_goto (tgt := 101) C.1 C.2.1 dX11_gain_97 (by decide) ?_
                  refine lv_istore (lv' := [(9, .int (zI (1))), (8, .int (zI (zW ((X3 (i + 16) ((6 * k) + g)) - (X3 (i + 16) ((6 * best) + g)))))), (5, .int (zI (best))), (6, .int (zI (z))), (7, .int (zI (k))), (0, .ref (bs + (i))), (1, .int (zI (a))), (2, .int (zI (b))), (3, .int (zI (g))), (4, .int (zI (d)))]) C.1 C.2.1 dX11_gain_101 hl (by decide) rfl (fun ls hl => ?_)
                  refine lv_iload C.1 C.2.1 dX11_gain_103 (lv_at hl 0 rfl) ?_
                  refine zd_if_eq C (by decide) 112 dX11_gain_105 (by decide) (fun c39 => ?_) (fun c39 => ?_)
                  · exact absurd c39 (by decide)
                  · refine zd_iconst C dX11_gain_108 ?_
                    refine lv_goto (tgt := 138) C.1 C.2.1 dX11_gain_109 (by decide) ?_
                    refine lv_istore (lv' := [(6, .int (zI (1))), (9, .int (zI (1))), (8, .int (zI (zW ((X3 (i + 16) ((6 * k) + g)) - (X3 (i + 16) ((6 * best) + g)))))), (5, .int (zI (best))), (7, .int (zI (k))), (0, .ref (bs + (i))), (1, .int (zI (a))), (2, .int (zI (b))), (3, .int (zI (g))), (4, .int (zI (d)))]) C.1 C.2.1 dX11_gain_138 hl (by decide) rfl (fun ls hl => ?_)
                    refine lv_iload C.1 C.2.1 dX11_gain_140 (lv_at hl 1 rfl) ?_
                    refine zd_if_eq C (by decide) 150 dX11_gain_142 (by decide) (fun c40 => ?_) (fun c40 => ?_)
                    · exact absurd c40 (by decide)
                    · refine lv_iload C.1 C.2.1 dX11_gain_145 (lv_at hl 4 rfl) ?_
                      refine lv_goto (tgt := 152) C.1 C.2.1 dX11_gain_147 (by decide) ?_
                      refine lv_istore (lv' := [(5, .int (zI (k))), (6, .int (zI (1))), (9, .int (zI (1))), (8, .int (zI (zW ((X3 (i + 16) ((6 * k) + g)) - (X3 (i + 16) ((6 * best) + g)))))), (7, .int (zI (k))), (0, .ref (bs + (i))), (1, .int (zI (a))), (2, .int (zI (b))), (3, .int (zI (g))), (4, .int (zI (d)))]) C.1 C.2.1 dX11_gain_152 hl (by decide) rfl (fun ls hl => ?_)
                      refine zd_iinc (k := 4) (lv' := [(7, .int (zI (k + 1))), (5, .int (zI (k))), (6, .int (zI (1))), (9, .int (zI (1))), (8, .int (zI (zW ((X3 (i + 16) ((6 * k) + g)) - (X3 (i + 16) ((6 * best) + g)))))), (0, .ref (bs + (i))), (1, .int (zI (a))), (2, .int (zI (b))), (3, .int (zI (g))), (4, .int (zI (d)))]) C hl rfl dX11_gain_154 (by decide) rfl (fun ls hl => ?_)
                      refine lv_goto (tgt := 43) C.1 C.2.1 dX11_gain_157 (by decide) ?_
                      obtain ⟨o41, hF⟩ := hF
                      exact ih10 (k) ((1 : Int)) (k + 1) hk (by decide) o41 hF.1 (Nat.lt_of_lt_of_le hF.2 (Nat.le_of_lt_succ hmu10)) _ _ _ hH hS (lv_sub hl [1, 2, 0, 5, 6, 7, 8, 9] rfl)
        exact L10 (((X3 i 27 - ((0 : Int))).toNat) + 1) ((0 : Int)) ((0 : Int)) ((0 : Int)) (by decide) (by decide) (by decide) hI10 (Nat.lt_succ_self _) _ _ _ hH hS (lv_sub hl [2, 1, 0, 3, 4, 5, 6, 7] rfl)
      · have hF := hF.2 c9
        refine zd_iconst C dX11_gain_32 ?_
        exact zd_iret C hr hlk hH hS (by decide) (⟨rfl, hF⟩) dX11_gain_33
theorem v_X11_gain {X Y : Nat → Int → Int} {R : Nat → Int → Option Nat} {i : Nat} (a : Int) (ha : rI a) (b : Int) (hb : rI b) (g : Int) (hg : rI g) (d : Int) (hd : rI d) (hp : oTN X i) : F_X11_gain i X Y R a b g d := by
  unfold F_X11_gain
  intro hX hY X1 e1 xr1
  have hT := hp
  have o1 : ∀ z, z ≠ i → X1 z = X z := fun z h => by rw [e1, zU_o h]
  have em : ∀ s k, mIs i X1 s k = mIs i X s k := fun s k => by
    unfold mIs
    rw [o1 _ (by omega)]
  refine ⟨oTN_k (o1 _ (by omega)) (o1 _ (by omega)) (o1 _ (by omega)) hT, fun r5 X3 xr3 Y4 yr4 h5 => ?_⟩
  obtain ⟨e5, hk, h5⟩ := h5
  rw [em, em] at e5
  obtain ⟨p3, hz⟩ := hd_ok (n := a) (c := b) e1 hk
  refine ⟨fun c => ⟨by unfold rGain rOk; rw [← e5, c]; rfl, p3⟩, fun c => ?_⟩
  rw [c] at e5
  obtain ⟨h9, h⟩ := h5 c
  obtain ⟨z, h27⟩ := hz h9
  have hb := h.1.2.2.1
  have hA := h.1.2.1
  have hBs := h.1.2.2.2
  have en : X3 i 27 - 1 = qN X i b := by
    rw [h27]
    show 1 + X (i + 7) (183 * b) - 1 = X (i + 7) (183 * b)
    omega
  have h0 : 0 ≤ X3 i 27 := by omega
  have h35 := h.2.2.2.1
  have h26 : X3 i 26 = X (i + 6) (13 * a + 6) := z.1.2.2.2.2.1.trans hZ_26
  have hx : ∀ k, mIn k 0 (qN X i b) = true → (0 ≤ k ∧ k < X3 i 27) ∧ mHas (X3 i 35) k = sdf (hZ X i a b 0) i k.toNat := fun k hk => by
    have hm := mIn_t.mp hk
    have h2 : k ≤ X (i + 7) (183 * b) := hm.2
    have h3 : k < X3 i 27 := by rw [h27]; show k < 1 + X (i + 7) (183 * b); omega
    refine ⟨⟨hm.1, h3⟩, ?_⟩
    rw [← sdf_s z, h35]
    have q := bS_has (sdf X3 i) (n := (X3 i 27).toNat) (k := k.toNat) (by omega) (by omega)
    rw [show ((k.toNat : Nat) : Int) = k by omega] at q
    exact q
  have ld : ∀ k w, mIn k 0 (qN X i b) = true → mHas (X3 i 35) k = true → 0 ≤ w → w < 6 → X3 (i + 16) (6 * k + w) = rLd (hZ X i a b 0) i k.toNat w ∧ 0 ≤ X3 (i + 16) (6 * k + w) ∧ X3 (i + 16) (6 * k + w) ≤ 100000 := fun k w hk hs w0 w1 => by
    obtain ⟨⟨k0, k1⟩, k2⟩ := hx k hk
    rw [k2, ← sdf_s z] at hs
    have q := led_k h (k := k.toNat) (a := w) (by omega) hs w0 w1
    rw [show ((k.toNat : Nat) : Int) = k by omega] at q
    unfold sdf at hs
    obtain ⟨M, hM⟩ := Option.isSome_iff_exists.mp hs
    have b := rS_b hA hBs k.toNat (by omega) M hM w w0 w1
    have e : rLd X3 i k.toNat w = M w := by
      unfold rLd
      rw [hM]
      rfl
    rw [q, ← rLd_s z, e]
    exact ⟨rfl, b.1, by omega⟩
  rw [h26]
  have hA1 := hA.1
  rw [h26] at hA1
  have sd3 : ∀ q : Nat, (q : Int) < X3 i 27 → mHas (X3 i 35) q = sdf X3 i q := fun q hq => by
    rw [h35]
    exact bS_has _ (by omega) (by omega)
  refine ⟨hA1.1, fun c1 => ⟨by unfold rGain rOk; rw [← e5, c1]; rfl, p3⟩, fun c1 => ⟨fun c2 => ?_, fun c2 => ⟨by unfold rGain rOk; rw [← e5, c1, c2]; rfl, p3⟩⟩⟩
  have hm := mIn_t.mp c1
  have hm2 := mIn_t.mp c2
  have l3 : ∀ q : Nat, (q : Int) < X3 i 27 → sdf X3 i q = true → X3 (i + 16) (6 * q + g) = rLd X3 i q g ∧ 0 ≤ rLd X3 i q g ∧ rLd X3 i q g ≤ 100000 := fun q hq hs => by
    have l := led_k h hq hs hm.1 (by omega)
    unfold sdf at hs
    obtain ⟨M, hM⟩ := Option.isSome_iff_exists.mp hs
    have b := rS_b hA hBs q (by omega) M hM g hm.1 (by omega)
    have e : rLd X3 i q g = M g := by
      unfold rLd
      rw [hM]
      rfl
    refine ⟨l, ?_, ?_⟩
    · rw [e]; exact b.1
    · rw [e]; omega
  refine ⟨⟨0, rfl, by omega, rfl, rfl⟩, fun best z' k br zr kr hI => ?_⟩
  obtain ⟨q, hq, q2, hbest, hz'⟩ := hI
  subst hq
  have gb := gaN_b (w := sdf X3 i) (L := fun k => rLd X3 i k g) sdf_0 q
  have st : gaN (sdf X3 i) (fun k => rLd X3 i k g) (q + 1) = if sdf X3 i q then (if rLd X3 i (gaN (sdf X3 i) (fun k => rLd X3 i k g) q).1 g < rLd X3 i q g then (q, 1) else if rLd X3 i q g = rLd X3 i (gaN (sdf X3 i) (fun k => rLd X3 i k g) q).1 g then ((gaN (sdf X3 i) (fun k => rLd X3 i k g) q).1, (gaN (sdf X3 i) (fun k => rLd X3 i k g) q).2 + 1) else gaN (sdf X3 i) (fun k => rLd X3 i k g) q) else gaN (sdf X3 i) (fun k => rLd X3 i k g) q := rfl
  refine ⟨fun c => ?_, fun c => ?_⟩
  · have eq : (X3 i 27).toNat = q := by omega
    have u : ∀ y, y = (if d = 0 then ((gaN (sdf X3 i) (fun k => rLd X3 i k g) q).1 : Int) else if d = 1 then rLd X3 i (gaN (sdf X3 i) (fun k => rLd X3 i k g) q).1 g else (gaN (sdf X3 i) (fun k => rLd X3 i k g) q).2) → y = rGain X i a b g d ∧ pK X X3 i := fun y hy => by
      refine ⟨?_, p3⟩
      unfold rGain rOk
      rw [← e5, c1, c2, ← sdf_s z, ← rLd_s z, ← z.1.2.2.2.2.2.1, eq]
      exact hy
    have lb := l3 (gaN (sdf X3 i) (fun k => rLd X3 i k g) q).1 (by omega) gb.2.1
    refine ⟨fun d0 => ⟨fun d1 => u _ (by rw [if_neg d0, if_neg d1]; exact hz'), fun d1 => ⟨⟨by omega, by omega⟩, u _ (by rw [if_neg d0, if_pos (Classical.not_not.mp d1), hbest]; exact lb.1)⟩⟩, fun d0 => u _ (by rw [if_pos (Classical.not_not.mp d0)]; exact hbest)⟩
  generalize hP : gaN (sdf X3 i) (fun k => rLd X3 i k g) q = p at gb st hbest hz'
  have lb := l3 p.1 (by omega) gb.2.1
  rw [← hbest] at lb
  rw [sd3 q (by omega)]
  have keep : gaN (sdf X3 i) (fun k => rLd X3 i k g) (q + 1) = p → (rI ((q : Int) + 1)) ∧ (∃ y : Nat, (q : Int) + 1 = y ∧ (q : Int) + 1 ≤ X3 i 27 ∧ best = ((gaN (sdf X3 i) (fun k => rLd X3 i k g) y).1 : Int) ∧ z' = (gaN (sdf X3 i) (fun k => rLd X3 i k g) y).2) ∧ ((X3 i 27 - ((q : Int) + 1)).toNat < (X3 i 27 - q).toNat) := fun e => ⟨⟨by omega, by omega⟩, ⟨q + 1, by omega, by omega, by rw [e]; exact hbest, by rw [e]; exact hz'⟩, by omega⟩
  have wz : sdf X3 i q = true → zW (X3 (i + 16) (6 * q + g) - X3 (i + 16) (6 * best + g)) = rLd X3 i q g - rLd X3 i p.1 g := fun hs => by
    have lq := l3 q (by omega) hs
    rw [lq.1, lb.1]
    exact zW_id ⟨by omega, by omega⟩
  have eq2 : sdf X3 i q = true → rLd X3 i q g = rLd X3 i p.1 g → (rI (z' + 1)) ∧ (rI ((q : Int) + 1)) ∧ (∃ y : Nat, (q : Int) + 1 = y ∧ (q : Int) + 1 ≤ X3 i 27 ∧ best = ((gaN (sdf X3 i) (fun k => rLd X3 i k g) y).1 : Int) ∧ z' + 1 = (gaN (sdf X3 i) (fun k => rLd X3 i k g) y).2) ∧ ((X3 i 27 - ((q : Int) + 1)).toNat < (X3 i 27 - q).toNat) := fun hs he => by
    have e : gaN (sdf X3 i) (fun k => rLd X3 i k g) (q + 1) = (p.1, p.2 + 1) := by rw [st, hs, if_pos rfl, if_neg (by omega), if_pos he]
    exact ⟨⟨by omega, by omega⟩, ⟨by omega, by omega⟩, ⟨q + 1, by omega, by omega, by rw [e]; exact hbest, by rw [e, hz']⟩, by omega⟩
  refine ⟨⟨by omega, by omega⟩, ⟨by omega, by omega⟩, fun cs => ⟨fun _ => keep (by rw [st, cs]; rfl), fun q => by rw [cs] at q; cases q⟩, fun cs => ?_⟩
  rw [wz cs]
  refine ⟨fun c3 => ⟨fun q => (by rw [cs] at q; cases q), fun _ => ⟨fun c4 => keep (by rw [st, cs, if_pos rfl, if_neg (by omega), if_neg (by omega)]), fun c4 => eq2 cs (by omega)⟩⟩, fun c3 => ?_⟩
  have e : gaN (sdf X3 i) (fun k => rLd X3 i k g) (q + 1) = (q, 1) := by rw [st, cs, if_pos rfl, if_pos (by omega)]
  exact ⟨⟨by omega, by omega⟩, ⟨q + 1, by omega, by omega, by rw [e], by rw [e]⟩, by omega⟩
theorem c_X11_gain {l : Launch} {D : va_G} {cy : Nat → ClassId} {bs N : Nat} {sa : Nat → Nat} {kd len : Nat → Nat} {X Y : Nat → Int → Int} {R : Nat → Int → Option Nat} {i : Nat} (hM : zM N kd len R i) (a : Int) (ha : rI a) (b : Int) (hb : rI b) (g : Int) (hg : rI g) (d : Int) (hd : rI d) (hp : oTN X i) : Met l yX11_gain (.code yX11_gain cX11_gain 10 (some .int) :: zTB) (zRm 6 140) (zPc D cy bs sa N kd len X Y R [.ref (bs + (i)), .int (zI (a)), .int (zI (b)), .int (zI (g)), .int (zI (d))]) (zQi D cy bs N kd len (fun r st => st.2.2 = R ∧ (r = rGain X i (a) (b) (g) (d) ∧ pK X (st.1) i))) 0 0 (zA bs) := w_X11_gain hM a ha b hb g hg d hd (v_X11_gain a ha b hb g hg d hd hp)
