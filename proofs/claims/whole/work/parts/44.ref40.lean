/-! CAN BE TIP -/
/-- heaviest ones by all work -/
def fCb (w : Nat → Bool) (G : Nat → Int) (best k : Nat) : Bool := w k && decide (G k = G best)
/-- reached, and those that can be it -/
def cbR (P : Nat → Nat) (w : Nat → Bool) (sb : Nat → Int) (hv : Nat → Int) : Nat → Nat → Bool
  | 0, e => decide (e = 0)
  | k + 1, e => cbR P w sb hv k e || (cbR P w sb hv k k && (decide (hv k ≠ -1) && (decide (k < e) && (w e && (decide (P e = k) && decide (sb e = sb (hv k).toNat))))))
abbrev cX11_canBeTip : ByteArray := prog_13_method_80_code
def yX11_canBeTip : MethodName := ⟨RX11, "canBeTip", "()I"⟩
theorem dX11_canBeTip_0 : decode cX11_canBeTip 0 = .ok (.aload_n 0, 1) := by decide +kernel
theorem dX11_canBeTip_1 : decode cX11_canBeTip 1 = .ok (.iconst 0, 1) := by decide +kernel
theorem dX11_canBeTip_2 : decode cX11_canBeTip 2 = .ok (.invokevirtual 420, 3) := by decide +kernel
theorem dX11_canBeTip_5 : decode cX11_canBeTip 5 = .ok (.pop, 1) := by decide +kernel
theorem dX11_canBeTip_6 : decode cX11_canBeTip 6 = .ok (.iconst 0, 1) := by decide +kernel
theorem dX11_canBeTip_7 : decode cX11_canBeTip 7 = .ok (.istore_n 1, 1) := by decide +kernel
theorem dX11_canBeTip_8 : decode cX11_canBeTip 8 = .ok (.aload_n 0, 1) := by decide +kernel
theorem dX11_canBeTip_9 : decode cX11_canBeTip 9 = .ok (.getfield 307, 3) := by decide +kernel
theorem dX11_canBeTip_12 : decode cX11_canBeTip 12 = .ok (.ifCond .ne 63, 3) := by decide +kernel
theorem dX11_canBeTip_15 : decode cX11_canBeTip 15 = .ok (.aload_n 0, 1) := by decide +kernel
theorem dX11_canBeTip_16 : decode cX11_canBeTip 16 = .ok (.invokevirtual 331, 3) := by decide +kernel
theorem dX11_canBeTip_19 : decode cX11_canBeTip 19 = .ok (.istore_n 2, 1) := by decide +kernel
theorem dX11_canBeTip_20 : decode cX11_canBeTip 20 = .ok (.iconst 0, 1) := by decide +kernel
theorem dX11_canBeTip_21 : decode cX11_canBeTip 21 = .ok (.istore_n 3, 1) := by decide +kernel
theorem dX11_canBeTip_22 : decode cX11_canBeTip 22 = .ok (.iload_n 3, 1) := by decide +kernel
theorem dX11_canBeTip_23 : decode cX11_canBeTip 23 = .ok (.aload_n 0, 1) := by decide +kernel
theorem dX11_canBeTip_24 : decode cX11_canBeTip 24 = .ok (.getfield 255, 3) := by decide +kernel
theorem dX11_canBeTip_27 : decode cX11_canBeTip 27 = .ok (.if_icmp .ge 46, 3) := by decide +kernel
theorem dX11_canBeTip_30 : decode cX11_canBeTip 30 = .ok (.iload_n 1, 1) := by decide +kernel
theorem dX11_canBeTip_31 : decode cX11_canBeTip 31 = .ok (.aload_n 0, 1) := by decide +kernel
theorem dX11_canBeTip_32 : decode cX11_canBeTip 32 = .ok (.getfield 292, 3) := by decide +kernel
theorem dX11_canBeTip_35 : decode cX11_canBeTip 35 = .ok (.iload_n 3, 1) := by decide +kernel
theorem dX11_canBeTip_36 : decode cX11_canBeTip 36 = .ok (.invokestatic 92, 3) := by decide +kernel
theorem dX11_canBeTip_39 : decode cX11_canBeTip 39 = .ok (.ifCond .eq 25, 3) := by decide +kernel
theorem dX11_canBeTip_42 : decode cX11_canBeTip 42 = .ok (.aload_n 0, 1) := by decide +kernel
theorem dX11_canBeTip_43 : decode cX11_canBeTip 43 = .ok (.getfield 54, 3) := by decide +kernel
theorem dX11_canBeTip_46 : decode cX11_canBeTip 46 = .ok (.iload_n 3, 1) := by decide +kernel
theorem dX11_canBeTip_47 : decode cX11_canBeTip 47 = .ok (.laload, 1) := by decide +kernel
theorem dX11_canBeTip_48 : decode cX11_canBeTip 48 = .ok (.aload_n 0, 1) := by decide +kernel
theorem dX11_canBeTip_49 : decode cX11_canBeTip 49 = .ok (.getfield 54, 3) := by decide +kernel
theorem dX11_canBeTip_52 : decode cX11_canBeTip 52 = .ok (.iload_n 2, 1) := by decide +kernel
theorem dX11_canBeTip_53 : decode cX11_canBeTip 53 = .ok (.laload, 1) := by decide +kernel
theorem dX11_canBeTip_54 : decode cX11_canBeTip 54 = .ok (.lcmp, 1) := by decide +kernel
theorem dX11_canBeTip_55 : decode cX11_canBeTip 55 = .ok (.ifCond .ne 9, 3) := by decide +kernel
theorem dX11_canBeTip_58 : decode cX11_canBeTip 58 = .ok (.iconst 1, 1) := by decide +kernel
theorem dX11_canBeTip_59 : decode cX11_canBeTip 59 = .ok (.iload_n 3, 1) := by decide +kernel
theorem dX11_canBeTip_60 : decode cX11_canBeTip 60 = .ok (.ishl, 1) := by decide +kernel
theorem dX11_canBeTip_61 : decode cX11_canBeTip 61 = .ok (.goto 4, 3) := by decide +kernel
theorem dX11_canBeTip_64 : decode cX11_canBeTip 64 = .ok (.iconst 0, 1) := by decide +kernel
theorem dX11_canBeTip_65 : decode cX11_canBeTip 65 = .ok (.ior, 1) := by decide +kernel
theorem dX11_canBeTip_66 : decode cX11_canBeTip 66 = .ok (.istore_n 1, 1) := by decide +kernel
theorem dX11_canBeTip_67 : decode cX11_canBeTip 67 = .ok (.iinc 3 1, 3) := by decide +kernel
theorem dX11_canBeTip_70 : decode cX11_canBeTip 70 = .ok (.goto (-48), 3) := by decide +kernel
theorem dX11_canBeTip_73 : decode cX11_canBeTip 73 = .ok (.iload_n 1, 1) := by decide +kernel
theorem dX11_canBeTip_74 : decode cX11_canBeTip 74 = .ok (.ireturn, 1) := by decide +kernel
theorem dX11_canBeTip_75 : decode cX11_canBeTip 75 = .ok (.aload_n 0, 1) := by decide +kernel
theorem dX11_canBeTip_76 : decode cX11_canBeTip 76 = .ok (.aload_n 0, 1) := by decide +kernel
theorem dX11_canBeTip_77 : decode cX11_canBeTip 77 = .ok (.getfield 292, 3) := by decide +kernel
theorem dX11_canBeTip_80 : decode cX11_canBeTip 80 = .ok (.invokevirtual 334, 3) := by decide +kernel
theorem dX11_canBeTip_83 : decode cX11_canBeTip 83 = .ok (.iconst 1, 1) := by decide +kernel
theorem dX11_canBeTip_84 : decode cX11_canBeTip 84 = .ok (.istore_n 2, 1) := by decide +kernel
theorem dX11_canBeTip_85 : decode cX11_canBeTip 85 = .ok (.iconst 0, 1) := by decide +kernel
theorem dX11_canBeTip_86 : decode cX11_canBeTip 86 = .ok (.istore_n 3, 1) := by decide +kernel
theorem dX11_canBeTip_87 : decode cX11_canBeTip 87 = .ok (.iload_n 3, 1) := by decide +kernel
theorem dX11_canBeTip_88 : decode cX11_canBeTip 88 = .ok (.aload_n 0, 1) := by decide +kernel
theorem dX11_canBeTip_89 : decode cX11_canBeTip 89 = .ok (.getfield 255, 3) := by decide +kernel
theorem dX11_canBeTip_92 : decode cX11_canBeTip 92 = .ok (.if_icmp .ge 129, 3) := by decide +kernel
theorem dX11_canBeTip_95 : decode cX11_canBeTip 95 = .ok (.iload_n 2, 1) := by decide +kernel
theorem dX11_canBeTip_96 : decode cX11_canBeTip 96 = .ok (.iload_n 3, 1) := by decide +kernel
theorem dX11_canBeTip_97 : decode cX11_canBeTip 97 = .ok (.invokestatic 92, 3) := by decide +kernel
theorem dX11_canBeTip_100 : decode cX11_canBeTip 100 = .ok (.ifCond .eq 11, 3) := by decide +kernel
theorem dX11_canBeTip_103 : decode cX11_canBeTip 103 = .ok (.aload_n 0, 1) := by decide +kernel
theorem dX11_canBeTip_104 : decode cX11_canBeTip 104 = .ok (.iload_n 3, 1) := by decide +kernel
theorem dX11_canBeTip_105 : decode cX11_canBeTip 105 = .ok (.invokevirtual 337, 3) := by decide +kernel
theorem dX11_canBeTip_108 : decode cX11_canBeTip 108 = .ok (.goto 4, 3) := by decide +kernel
theorem dX11_canBeTip_111 : decode cX11_canBeTip 111 = .ok (.iconst (-1), 1) := by decide +kernel
theorem dX11_canBeTip_112 : decode cX11_canBeTip 112 = .ok (.istore 4, 2) := by decide +kernel
theorem dX11_canBeTip_114 : decode cX11_canBeTip 114 = .ok (.iload_n 1, 1) := by decide +kernel
theorem dX11_canBeTip_115 : decode cX11_canBeTip 115 = .ok (.iload_n 2, 1) := by decide +kernel
theorem dX11_canBeTip_116 : decode cX11_canBeTip 116 = .ok (.iload_n 3, 1) := by decide +kernel
theorem dX11_canBeTip_117 : decode cX11_canBeTip 117 = .ok (.invokestatic 92, 3) := by decide +kernel
theorem dX11_canBeTip_120 : decode cX11_canBeTip 120 = .ok (.ifCond .eq 15, 3) := by decide +kernel
theorem dX11_canBeTip_123 : decode cX11_canBeTip 123 = .ok (.iload 4, 2) := by decide +kernel
theorem dX11_canBeTip_125 : decode cX11_canBeTip 125 = .ok (.iconst (-1), 1) := by decide +kernel
theorem dX11_canBeTip_126 : decode cX11_canBeTip 126 = .ok (.if_icmp .ne 9, 3) := by decide +kernel
theorem dX11_canBeTip_129 : decode cX11_canBeTip 129 = .ok (.iconst 1, 1) := by decide +kernel
theorem dX11_canBeTip_130 : decode cX11_canBeTip 130 = .ok (.iload_n 3, 1) := by decide +kernel
theorem dX11_canBeTip_131 : decode cX11_canBeTip 131 = .ok (.ishl, 1) := by decide +kernel
theorem dX11_canBeTip_132 : decode cX11_canBeTip 132 = .ok (.goto 4, 3) := by decide +kernel
theorem dX11_canBeTip_135 : decode cX11_canBeTip 135 = .ok (.iconst 0, 1) := by decide +kernel
theorem dX11_canBeTip_136 : decode cX11_canBeTip 136 = .ok (.ior, 1) := by decide +kernel
theorem dX11_canBeTip_137 : decode cX11_canBeTip 137 = .ok (.istore_n 1, 1) := by decide +kernel
theorem dX11_canBeTip_138 : decode cX11_canBeTip 138 = .ok (.iload_n 3, 1) := by decide +kernel
theorem dX11_canBeTip_139 : decode cX11_canBeTip 139 = .ok (.iconst 1, 1) := by decide +kernel
theorem dX11_canBeTip_140 : decode cX11_canBeTip 140 = .ok (.iadd, 1) := by decide +kernel
theorem dX11_canBeTip_141 : decode cX11_canBeTip 141 = .ok (.istore 5, 2) := by decide +kernel
theorem dX11_canBeTip_143 : decode cX11_canBeTip 143 = .ok (.iload 5, 2) := by decide +kernel
theorem dX11_canBeTip_145 : decode cX11_canBeTip 145 = .ok (.aload_n 0, 1) := by decide +kernel
theorem dX11_canBeTip_146 : decode cX11_canBeTip 146 = .ok (.getfield 255, 3) := by decide +kernel
theorem dX11_canBeTip_149 : decode cX11_canBeTip 149 = .ok (.if_icmp .ge 66, 3) := by decide +kernel
theorem dX11_canBeTip_152 : decode cX11_canBeTip 152 = .ok (.iload 4, 2) := by decide +kernel
theorem dX11_canBeTip_154 : decode cX11_canBeTip 154 = .ok (.iconst (-1), 1) := by decide +kernel
theorem dX11_canBeTip_155 : decode cX11_canBeTip 155 = .ok (.if_icmp .eq 60, 3) := by decide +kernel
theorem dX11_canBeTip_158 : decode cX11_canBeTip 158 = .ok (.iload_n 2, 1) := by decide +kernel
theorem dX11_canBeTip_159 : decode cX11_canBeTip 159 = .ok (.aload_n 0, 1) := by decide +kernel
theorem dX11_canBeTip_160 : decode cX11_canBeTip 160 = .ok (.getfield 292, 3) := by decide +kernel
theorem dX11_canBeTip_163 : decode cX11_canBeTip 163 = .ok (.iload 5, 2) := by decide +kernel
theorem dX11_canBeTip_165 : decode cX11_canBeTip 165 = .ok (.invokestatic 92, 3) := by decide +kernel
theorem dX11_canBeTip_168 : decode cX11_canBeTip 168 = .ok (.ifCond .eq 38, 3) := by decide +kernel
theorem dX11_canBeTip_171 : decode cX11_canBeTip 171 = .ok (.aload_n 0, 1) := by decide +kernel
theorem dX11_canBeTip_172 : decode cX11_canBeTip 172 = .ok (.iload 5, 2) := by decide +kernel
theorem dX11_canBeTip_174 : decode cX11_canBeTip 174 = .ok (.invokevirtual 264, 3) := by decide +kernel
theorem dX11_canBeTip_177 : decode cX11_canBeTip 177 = .ok (.iload_n 3, 1) := by decide +kernel
theorem dX11_canBeTip_178 : decode cX11_canBeTip 178 = .ok (.if_icmp .ne 28, 3) := by decide +kernel
theorem dX11_canBeTip_181 : decode cX11_canBeTip 181 = .ok (.aload_n 0, 1) := by decide +kernel
theorem dX11_canBeTip_182 : decode cX11_canBeTip 182 = .ok (.getfield 63, 3) := by decide +kernel
theorem dX11_canBeTip_185 : decode cX11_canBeTip 185 = .ok (.iload 5, 2) := by decide +kernel
theorem dX11_canBeTip_187 : decode cX11_canBeTip 187 = .ok (.laload, 1) := by decide +kernel
theorem dX11_canBeTip_188 : decode cX11_canBeTip 188 = .ok (.aload_n 0, 1) := by decide +kernel
theorem dX11_canBeTip_189 : decode cX11_canBeTip 189 = .ok (.getfield 63, 3) := by decide +kernel
theorem dX11_canBeTip_192 : decode cX11_canBeTip 192 = .ok (.iload 4, 2) := by decide +kernel
theorem dX11_canBeTip_194 : decode cX11_canBeTip 194 = .ok (.laload, 1) := by decide +kernel
theorem dX11_canBeTip_195 : decode cX11_canBeTip 195 = .ok (.lcmp, 1) := by decide +kernel
theorem dX11_canBeTip_196 : decode cX11_canBeTip 196 = .ok (.ifCond .ne 10, 3) := by decide +kernel
theorem dX11_canBeTip_199 : decode cX11_canBeTip 199 = .ok (.iconst 1, 1) := by decide +kernel
theorem dX11_canBeTip_200 : decode cX11_canBeTip 200 = .ok (.iload 5, 2) := by decide +kernel
theorem dX11_canBeTip_202 : decode cX11_canBeTip 202 = .ok (.ishl, 1) := by decide +kernel
theorem dX11_canBeTip_203 : decode cX11_canBeTip 203 = .ok (.goto 4, 3) := by decide +kernel
theorem dX11_canBeTip_206 : decode cX11_canBeTip 206 = .ok (.iconst 0, 1) := by decide +kernel
theorem dX11_canBeTip_207 : decode cX11_canBeTip 207 = .ok (.ior, 1) := by decide +kernel
theorem dX11_canBeTip_208 : decode cX11_canBeTip 208 = .ok (.istore_n 2, 1) := by decide +kernel
theorem dX11_canBeTip_209 : decode cX11_canBeTip 209 = .ok (.iinc 5 1, 3) := by decide +kernel
theorem dX11_canBeTip_212 : decode cX11_canBeTip 212 = .ok (.goto (-69), 3) := by decide +kernel
theorem dX11_canBeTip_215 : decode cX11_canBeTip 215 = .ok (.iinc 3 1, 3) := by decide +kernel
theorem dX11_canBeTip_218 : decode cX11_canBeTip 218 = .ok (.goto (-131), 3) := by decide +kernel
theorem dX11_canBeTip_221 : decode cX11_canBeTip 221 = .ok (.iload_n 1, 1) := by decide +kernel
theorem dX11_canBeTip_222 : decode cX11_canBeTip 222 = .ok (.ireturn, 1) := by decide +kernel
def F_X11_canBeTip (i : Nat) (X Y : Nat → Int → Int) (R : Nat → Int → Option Nat)  : Prop := (∀ i j, rI (X i j)) → (∀ i j, rL (Y i j)) → (oH X Y i) ∧ (∀ r4 : Int, rI r4 → ∀ X2 : Nat → Int → Int, (∀ i j, rI (X2 i j)) → ∀ Y3 : Nat → Int → Int, (∀ i j, rL (Y3 i j)) → (r4 = ((rTip X i (mWo X i ((0 : Int))) : Nat) : Int) ∧ tW X (X2) i ∧ wK (X2) i (mWo X i ((0 : Int))) (X i 27).toNat ∧ ∀ a, a ≠ i + 18 → (Y3) a = Y a) → (((¬ (X2 (i) 28) = 0) → ((oW X2 Y3 i) ∧ (∀ Y7 : Nat → Int → Int, (∀ i j, rL (Y7 i j)) → (lT X2 Y3 (Y7) i (X2 (i) 35) 0) → ((True) ∧ (∀ (st : Int) (rc : Int) (k : Int), rI st → rI rc → rI k → (True) → ((((X2 (i) 27) ≤ k) → (True)) ∧ ((¬ ((X2 (i) 27) ≤ k)) → ((((mHas (rc) (k)) = false) → ((((mHas (rc) (k)) = false) → ((rI (k + 1)) ∧ (True) ∧ (∀ (rc : Int) (e : Int), rI rc → rI e → (True) → ((((X2 (i) 27) ≤ e) → ((rI (k + 1)) ∧ (True) ∧ (((X2 i 27 - (k + 1)).toNat) < ((X2 i 27 - (k)).toNat)))) ∧ ((¬ ((X2 (i) 27) ≤ e)) → ((rI (k + 1)) ∧ (True) ∧ (((X2 i 27 - (k + 1)).toNat) < ((X2 i 27 - (k)).toNat)))))))) ∧ (((mHas (rc) (k)) = true) → ((rI (k + 1)) ∧ (True) ∧ (∀ (rc : Int) (e : Int), rI rc → rI e → (True) → ((((X2 (i) 27) ≤ e) → ((rI (k + 1)) ∧ (True) ∧ (((X2 i 27 - (k + 1)).toNat) < ((X2 i 27 - (k)).toNat)))) ∧ ((¬ ((X2 (i) 27) ≤ e)) → ((rI (k + 1)) ∧ (True) ∧ (((X2 i 27 - (k + 1)).toNat) < ((X2 i 27 - (k)).toNat)))))))))) ∧ (((mHas (rc) (k)) = true) → (((1 ≤ X2 i 27 ∧ X2 i 27 ≤ 15) ∧ oB X2 i (X2 i 27 - 1) ∧ 0 ≤ k ∧ k < X2 i 27) ∧ (rI (mHc X2 Y7 i (k).toNat (X2 i 27).toNat) → ((((mHas (rc) (k)) = false) → ((rI (k + 1)) ∧ (True) ∧ (∀ (rc : Int) (e : Int), rI rc → rI e → (True) → ((((X2 (i) 27) ≤ e) → ((rI (k + 1)) ∧ (True) ∧ (((X2 i 27 - (k + 1)).toNat) < ((X2 i 27 - (k)).toNat)))) ∧ ((¬ ((X2 (i) 27) ≤ e)) → ((((mHc X2 Y7 i (k).toNat (X2 i 27).toNat) = (-1)) → ((rI (k + 1)) ∧ (True) ∧ (((X2 i 27 - (k + 1)).toNat) < ((X2 i 27 - (k)).toNat)))) ∧ ((¬ ((mHc X2 Y7 i (k).toNat (X2 i 27).toNat) = (-1))) → ((((mHas (X2 (i) 35) (e)) = false) → ((rI (e + 1)) ∧ (True) ∧ (((X2 i 27 - (e + 1)).toNat) < ((X2 i 27 - (e)).toNat)))) ∧ (((mHas (X2 (i) 35) (e)) = true) → ((oC X2 i ∧ 0 ≤ e ∧ e ≤ 14) ∧ (rI (mPar X2 i (e)) → (((¬ (mPar X2 i (e)) = k) → ((rI (e + 1)) ∧ (True) ∧ (((X2 i 27 - (e + 1)).toNat) < ((X2 i 27 - (e)).toNat)))) ∧ ((¬ (¬ (mPar X2 i (e)) = k)) → ((0 ≤ e ∧ e < 15) ∧ ((0 ≤ (mHc X2 Y7 i (k).toNat (X2 i 27).toNat) ∧ (mHc X2 Y7 i (k).toNat (X2 i 27).toNat) < 15) ∧ (((¬ (Y7 (i + 18) (e)) = (Y7 (i + 18) (mHc X2 Y7 i (k).toNat (X2 i 27).toNat))) → ((rI (e + 1)) ∧ (True) ∧ (((X2 i 27 - (e + 1)).toNat) < ((X2 i 27 - (e)).toNat)))) ∧ ((¬ (¬ (Y7 (i + 18) (e)) = (Y7 (i + 18) (mHc X2 Y7 i (k).toNat (X2 i 27).toNat)))) → ((rI (e + 1)) ∧ (True) ∧ (((X2 i 27 - (e + 1)).toNat) < ((X2 i 27 - (e)).toNat)))))))))))))))))))) ∧ (((mHas (rc) (k)) = true) → (((¬ (mHc X2 Y7 i (k).toNat (X2 i 27).toNat) = (-1)) → ((rI (k + 1)) ∧ (True) ∧ (∀ (rc : Int) (e : Int), rI rc → rI e → (True) → ((((X2 (i) 27) ≤ e) → ((rI (k + 1)) ∧ (True) ∧ (((X2 i 27 - (k + 1)).toNat) < ((X2 i 27 - (k)).toNat)))) ∧ ((¬ ((X2 (i) 27) ≤ e)) → ((((mHc X2 Y7 i (k).toNat (X2 i 27).toNat) = (-1)) → ((rI (k + 1)) ∧ (True) ∧ (((X2 i 27 - (k + 1)).toNat) < ((X2 i 27 - (k)).toNat)))) ∧ ((¬ ((mHc X2 Y7 i (k).toNat (X2 i 27).toNat) = (-1))) → ((((mHas (X2 (i) 35) (e)) = false) → ((rI (e + 1)) ∧ (True) ∧ (((X2 i 27 - (e + 1)).toNat) < ((X2 i 27 - (e)).toNat)))) ∧ (((mHas (X2 (i) 35) (e)) = true) → ((oC X2 i ∧ 0 ≤ e ∧ e ≤ 14) ∧ (rI (mPar X2 i (e)) → (((¬ (mPar X2 i (e)) = k) → ((rI (e + 1)) ∧ (True) ∧ (((X2 i 27 - (e + 1)).toNat) < ((X2 i 27 - (e)).toNat)))) ∧ ((¬ (¬ (mPar X2 i (e)) = k)) → ((0 ≤ e ∧ e < 15) ∧ ((0 ≤ (mHc X2 Y7 i (k).toNat (X2 i 27).toNat) ∧ (mHc X2 Y7 i (k).toNat (X2 i 27).toNat) < 15) ∧ (((¬ (Y7 (i + 18) (e)) = (Y7 (i + 18) (mHc X2 Y7 i (k).toNat (X2 i 27).toNat))) → ((rI (e + 1)) ∧ (True) ∧ (((X2 i 27 - (e + 1)).toNat) < ((X2 i 27 - (e)).toNat)))) ∧ ((¬ (¬ (Y7 (i + 18) (e)) = (Y7 (i + 18) (mHc X2 Y7 i (k).toNat (X2 i 27).toNat)))) → ((rI (e + 1)) ∧ (True) ∧ (((X2 i 27 - (e + 1)).toNat) < ((X2 i 27 - (e)).toNat)))))))))))))))))))) ∧ ((¬ (¬ (mHc X2 Y7 i (k).toNat (X2 i 27).toNat) = (-1))) → ((rI (k + 1)) ∧ (True) ∧ (∀ (rc : Int) (e : Int), rI rc → rI e → (True) → ((((X2 (i) 27) ≤ e) → ((rI (k + 1)) ∧ (True) ∧ (((X2 i 27 - (k + 1)).toNat) < ((X2 i 27 - (k)).toNat)))) ∧ ((¬ ((X2 (i) 27) ≤ e)) → ((((mHc X2 Y7 i (k).toNat (X2 i 27).toNat) = (-1)) → ((rI (k + 1)) ∧ (True) ∧ (((X2 i 27 - (k + 1)).toNat) < ((X2 i 27 - (k)).toNat)))) ∧ ((¬ ((mHc X2 Y7 i (k).toNat (X2 i 27).toNat) = (-1))) → ((((mHas (X2 (i) 35) (e)) = false) → ((rI (e + 1)) ∧ (True) ∧ (((X2 i 27 - (e + 1)).toNat) < ((X2 i 27 - (e)).toNat)))) ∧ (((mHas (X2 (i) 35) (e)) = true) → ((oC X2 i ∧ 0 ≤ e ∧ e ≤ 14) ∧ (rI (mPar X2 i (e)) → (((¬ (mPar X2 i (e)) = k) → ((rI (e + 1)) ∧ (True) ∧ (((X2 i 27 - (e + 1)).toNat) < ((X2 i 27 - (e)).toNat)))) ∧ ((¬ (¬ (mPar X2 i (e)) = k)) → ((0 ≤ e ∧ e < 15) ∧ ((0 ≤ (mHc X2 Y7 i (k).toNat (X2 i 27).toNat) ∧ (mHc X2 Y7 i (k).toNat (X2 i 27).toNat) < 15) ∧ (((¬ (Y7 (i + 18) (e)) = (Y7 (i + 18) (mHc X2 Y7 i (k).toNat (X2 i 27).toNat))) → ((rI (e + 1)) ∧ (True) ∧ (((X2 i 27 - (e + 1)).toNat) < ((X2 i 27 - (e)).toNat)))) ∧ ((¬ (¬ (Y7 (i + 18) (e)) = (Y7 (i + 18) (mHc X2 Y7 i (k).toNat (X2 i 27).toNat)))) → ((rI (e + 1)) ∧ (True) ∧ (((X2 i 27 - (e + 1)).toNat) < ((X2 i 27 - (e)).toNat)))))))))))))))))))))))))))))))))) ∧ ((¬ (¬ (X2 (i) 28) = 0)) → ((1 ≤ X2 i 27 ∧ X2 i 27 ≤ 15) ∧ (rI (((mHv X2 Y3 i (X2 i 27).toNat : Nat) : Int)) → ((True) ∧ (∀ (st : Int) (k : Int), rI st → rI k → (True) → ((((X2 (i) 27) ≤ k) → (True)) ∧ ((¬ ((X2 (i) 27) ≤ k)) → ((((mHas (X2 (i) 35) (k)) = false) → ((rI (k + 1)) ∧ (True) ∧ (((X2 i 27 - (k + 1)).toNat) < ((X2 i 27 - (k)).toNat)))) ∧ (((mHas (X2 (i) 35) (k)) = true) → ((0 ≤ k ∧ k < 15) ∧ ((0 ≤ ((mHv X2 Y3 i (X2 i 27).toNat : Nat) : Int) ∧ ((mHv X2 Y3 i (X2 i 27).toNat : Nat) : Int) < 15) ∧ (((¬ (Y3 (i + 15) (k)) = (Y3 (i + 15) (((mHv X2 Y3 i (X2 i 27).toNat : Nat) : Int)))) → ((rI (k + 1)) ∧ (True) ∧ (((X2 i 27 - (k + 1)).toNat) < ((X2 i 27 - (k)).toNat)))) ∧ ((¬ (¬ (Y3 (i + 15) (k)) = (Y3 (i + 15) (((mHv X2 Y3 i (X2 i 27).toNat : Nat) : Int))))) → ((rI (k + 1)) ∧ (True) ∧ (((X2 i 27 - (k + 1)).toNat) < ((X2 i 27 - (k)).toNat))))))))))))))))))
set_option maxHeartbeats 4000000 in
set_option maxRecDepth 100000 in
theorem w_X11_canBeTip {l : Launch} {D : va_G} {cy : Nat → ClassId} {bs N : Nat} {sa : Nat → Nat} {kd len : Nat → Nat} {X Y : Nat → Int → Int} {R : Nat → Int → Option Nat} {i : Nat} (hM : zM N kd len R i)  (hF : F_X11_canBeTip i X Y R ) : Met l yX11_canBeTip (.code yX11_canBeTip cX11_canBeTip 6 (some .int) :: zTB) (zRm 5 111) (zPc D cy bs sa N kd len X Y R [.ref (bs + (i))]) (zQi D cy bs N kd len (fun r st => st.2.2 = R ∧ (True))) 0 0 (zA bs) := by
  refine zstart (by decide) (Nat.le_of_ble_eq_true rfl) ?_
  intro p e s m args below meth c ls C hE hH hr hlk hnm hl hargs
  have hF := hF hH.2.2.1 hH.2.2.2
  have hS : va_S (zA bs) s.heap s.heap [] := va_S.rf
  have hl : lv_has ls 6 [(0, .ref (bs + (i)))] := hl
  refine lv_aload_n C.1 C.2.1 dX11_canBeTip_0 rfl (lv_at hl 0 rfl) ?_
  refine zd_iconst C dX11_canBeTip_1 ?_
  obtain ⟨o1, hF⟩ := hF
  refine zgoi (zrunV (As := [.int (zI (0))]) (rest := []) C hE hH hS hl.1 (c_X11_tipWithout (l := l) hM (0) (by decide) o1) k_RX11_420 ⟨Nat.le_of_ble_eq_true rfl, Nat.le_of_ble_eq_true rfl⟩ (zM_n0 hM) (zM_k0 hM) rfl rfl rfl (Nat.le_of_ble_eq_true rfl) dX11_canBeTip_2 ⟨Nat.zero_le _, Nat.zero_le _⟩) hS (fun r4 X2 Y3 Rq H locs hrq hq hH hS => ?_)
  obtain ⟨h9R, hq⟩ := hq
  dsimp only at h9R
  rw [h9R] at hH
  have hr4 := hrq
  have hF := hF r4 hrq X2 hH.2.2.1 Y3 hH.2.2.2 hq
  refine lv_pop C.1 C.2.1 dX11_canBeTip_5 rfl ?_
  refine zd_iconst C dX11_canBeTip_6 ?_
  refine lv_istore_n (lv' := [(1, .int (zI (0))), (0, .ref (bs + (i)))]) C.1 C.2.1 dX11_canBeTip_7 rfl hl (by decide) rfl (fun ls hl => ?_)
  refine lv_aload_n C.1 C.2.1 dX11_canBeTip_8 rfl (lv_at hl 1 rfl) ?_
  refine zg11_28 C hH (zM_n0 hM) (zM_k0 hM) q_1315 dX11_canBeTip_9 ?_
  refine zd_if_ne C (hH.2.2.1 _ _) 75 dX11_canBeTip_12 (by decide) (fun c5 => ?_) (fun c5 => ?_)
  · have hF := hF.1 c5
    refine lv_aload_n C.1 C.2.1 dX11_canBeTip_75 rfl (lv_at hl 1 rfl) ?_
    refine lv_aload_n C.1 C.2.1 dX11_canBeTip_76 rfl (lv_at hl 1 rfl) ?_
    refine zg11_35 C hH (zM_n0 hM) (zM_k0 hM) q_1322 dX11_canBeTip_77 ?_
    obtain ⟨o6, hF⟩ := hF
    refine zgov (zrunV (As := [.int (zI (X2 (i) 35))]) (rest := []) C hE hH hS hl.1 (c_X11_laySubtrees (l := l) hM (X2 (i) 35) (hH.2.2.1 _ _) o6) k_RX11_334 ⟨Nat.le_of_ble_eq_true rfl, Nat.le_of_ble_eq_true rfl⟩ (zM_n0 hM) (zM_k0 hM) rfl rfl rfl (Nat.le_of_ble_eq_true rfl) dX11_canBeTip_80 ⟨Nat.zero_le _, Nat.zero_le _⟩) hS (fun Xq Y7 Rq H locs hq hH hS => ?_)
    obtain ⟨h9X, h9R, hq⟩ := hq
    dsimp only at h9X h9R
    rw [h9X, h9R] at hH
    have hF := hF Y7 hH.2.2.2 hq
    refine zd_iconst C dX11_canBeTip_83 ?_
    refine lv_istore_n (lv' := [(2, .int (zI (1))), (1, .int (zI (0))), (0, .ref (bs + (i)))]) C.1 C.2.1 dX11_canBeTip_84 rfl hl (by decide) rfl (fun ls hl => ?_)
    refine zd_iconst C dX11_canBeTip_85 ?_
    refine lv_istore_n (lv' := [(3, .int (zI (0))), (2, .int (zI (1))), (1, .int (zI (0))), (0, .ref (bs + (i)))]) C.1 C.2.1 dX11_canBeTip_86 rfl hl (by decide) rfl (fun ls hl => ?_)
    obtain ⟨hI8, hF⟩ := hF
    have L8 : ∀ (fu : Nat) (st : Int) (rc : Int) (k : Int), rI st → rI rc → rI k → (True) → ((X2 i 27 - (k)).toNat) < fu → ∀ (H : Heap) (locs : List Loc) (ls : Array Slot), zH D cy bs N kd len X2 Y7 R H → va_S (zA bs) s.heap H locs → lv_has ls 6 [(1, .int (zI (st))), (2, .int (zI (rc))), (3, .int (zI (k))), (0, .ref (bs + (i)))] → W p l e (zRm 5 111) s m args below meth c H locs 0 0 (MQ below (zQi D cy bs N kd len (fun r st => st.2.2 = R ∧ (True))) args s 0 0 (zA bs)) (F0 m 87 ls []) := by
      intro fu
      induction fu with
      | zero => intro st rc k _ _ _ _ hmu; exact absurd hmu (Nat.not_lt_zero _)
      | succ fu ih8 =>
        intro st rc k hst hrc hk hI hmu8 H locs ls hH hS hl
        have hF := hF st rc k hst hrc hk  hI
        refine lv_iload_n C.1 C.2.1 dX11_canBeTip_87 rfl (lv_at hl 2 rfl) ?_
        refine lv_aload_n C.1 C.2.1 dX11_canBeTip_88 rfl (lv_at hl 3 rfl) ?_
        refine zg11_27 C hH (zM_n0 hM) (zM_k0 hM) q_1314 dX11_canBeTip_89 ?_
        refine zd_icmp_ge C hk (hH.2.2.1 _ _) 221 dX11_canBeTip_92 (by decide) (fun c9 => ?_) (fun c9 => ?_)
        · have hF := hF.1 c9
          refine lv_iload_n C.1 C.2.1 dX11_canBeTip_221 rfl (lv_at hl 0 rfl) ?_
          exact zd_iret C hr hlk hH hS hst (⟨rfl, hF⟩) dX11_canBeTip_222
        · have hF := hF.2 c9
          refine lv_iload_n C.1 C.2.1 dX11_canBeTip_95 rfl (lv_at hl 1 rfl) ?_
          refine lv_iload_n C.1 C.2.1 dX11_canBeTip_96 rfl (lv_at hl 2 rfl) ?_
          refine zgoi (zrunS (As := [.int (zI (rc)), .int (zI (k))]) (rest := []) C hE hH hS hl.1 (c_X11_has (l := l)  (rc) hrc (k) hk) k_RX11_92 ⟨Nat.le_of_ble_eq_true rfl, Nat.le_of_ble_eq_true rfl⟩ rfl (Nat.le_of_ble_eq_true rfl) dX11_canBeTip_97 ⟨Nat.zero_le _, Nat.zero_le _⟩) hS (fun rq Xq Yq Rq H locs hrq hq hH hS => ?_)
          obtain ⟨h91, h92⟩ := hq
          have h93 : Xq = X2 := congrArg (fun z => z.1) h92
          have h94 : Yq = Y7 := congrArg (fun z => z.2.1) h92
          have h95 : Rq = R := congrArg (fun z => z.2.2) h92
          rw [h93, h94, h95] at hH
          subst h91
          refine zd_ifB_eq C 111 dX11_canBeTip_100 (by decide) (fun c10 => ?_) (fun c10 => ?_)
          · have hF := hF.1 c10
            refine zd_iconst C dX11_canBeTip_111 ?_
            refine lv_istore (lv' := [(4, .int (zI ((-1)))), (1, .int (zI (st))), (2, .int (zI (rc))), (3, .int (zI (k))), (0, .ref (bs + (i)))]) C.1 C.2.1 dX11_canBeTip_112 hl (by decide) rfl (fun ls hl => ?_)
            refine lv_iload_n C.1 C.2.1 dX11_canBeTip_114 rfl (lv_at hl 1 rfl) ?_
            refine lv_iload_n C.1 C.2.1 dX11_canBeTip_115 rfl (lv_at hl 2 rfl) ?_
            refine lv_iload_n C.1 C.2.1 dX11_canBeTip_116 rfl (lv_at hl 3 rfl) ?_
            refine zgoi (zrunS (As := [.int (zI (rc)), .int (zI (k))]) (rest := [.int (zI (st))]) C hE hH hS hl.1 (c_X11_has (l := l)  (rc) hrc (k) hk) k_RX11_92 ⟨Nat.le_of_ble_eq_true rfl, Nat.le_of_ble_eq_true rfl⟩ rfl (Nat.le_of_ble_eq_true rfl) dX11_canBeTip_117 ⟨Nat.zero_le _, Nat.zero_le _⟩) hS (fun rq Xq Yq Rq H locs hrq hq hH hS => ?_)
            obtain ⟨h91, h92⟩ := hq
            have h93 : Xq = X2 := congrArg (fun z => z.1) h92
            have h94 : Yq = Y7 := congrArg (fun z => z.2.1) h92
            have h95 : Rq = R := congrArg (fun z => z.2.2) h92
            rw [h93, h94, h95] at hH
            subst h91
            refine zd_ifB_eq C 135 dX11_canBeTip_120 (by decide) (fun c11 => ?_) (fun c11 => ?_)
            · have hF := hF.1 c11
              refine zd_iconst C dX11_canBeTip_135 ?_
              refine zd_ior C dX11_canBeTip_136 ?_
              refine lv_istore_n (lv' := [(1, .int (zI (zOr (st) (0)))), (4, .int (zI ((-1)))), (2, .int (zI (rc))), (3, .int (zI (k))), (0, .ref (bs + (i)))]) C.1 C.2.1 dX11_canBeTip_137 rfl hl (by decide) rfl (fun ls hl => ?_)
              refine lv_iload_n C.1 C.2.1 dX11_canBeTip_138 rfl (lv_at hl 3 rfl) ?_
              refine zd_iconst C dX11_canBeTip_139 ?_
              refine zd_iadd C dX11_canBeTip_140 ?_
              refine lv_istore (lv' := [(5, .int (zI (k + 1))), (1, .int (zI (zOr (st) (0)))), (4, .int (zI ((-1)))), (2, .int (zI (rc))), (3, .int (zI (k))), (0, .ref (bs + (i)))]) C.1 C.2.1 dX11_canBeTip_141 hl (by decide) rfl (fun ls hl => ?_)
              obtain ⟨o17, hF⟩ := hF
              obtain ⟨hI12, hF⟩ := hF
              have L12 : ∀ (fu : Nat) (rc : Int) (e : Int), rI rc → rI e → (True) → ((X2 i 27 - (e)).toNat) < fu → ∀ (H : Heap) (locs : List Loc) (ls : Array Slot), zH D cy bs N kd len X2 Y7 R H → va_S (zA bs) s.heap H locs → lv_has ls 6 [(2, .int (zI (rc))), (5, .int (zI (e))), (1, .int (zI (zOr (st) (0)))), (4, .int (zI ((-1)))), (3, .int (zI (k))), (0, .ref (bs + (i)))] → W p l e (zRm 5 111) s m args below meth c H locs 0 0 (MQ below (zQi D cy bs N kd len (fun r st => st.2.2 = R ∧ (True))) args s 0 0 (zA bs)) (F0 m 143 ls []) := by
                intro fu
                induction fu with
                | zero => intro rc e _ _ _ hmu; exact absurd hmu (Nat.not_lt_zero _)
                | succ fu ih12 =>
                  intro rc e hrc he hI hmu12 H locs ls hH hS hl
                  have hF := hF rc e hrc he  hI
                  refine lv_iload C.1 C.2.1 dX11_canBeTip_143 (lv_at hl 1 rfl) ?_
                  refine lv_aload_n C.1 C.2.1 dX11_canBeTip_145 rfl (lv_at hl 5 rfl) ?_
                  refine zg11_27 C hH (zM_n0 hM) (zM_k0 hM) q_1314 dX11_canBeTip_146 ?_
                  refine zd_icmp_ge C he (hH.2.2.1 _ _) 215 dX11_canBeTip_149 (by decide) (fun c13 => ?_) (fun c13 => ?_)
                  · have hF := hF.1 c13
                    refine zd_iinc (k := 4) (lv' := [(3, .int (zI (k + 1))), (2, .int (zI (rc))), (5, .int (zI (e))), (1, .int (zI (zOr (st) (0)))), (4, .int (zI ((-1)))), (0, .ref (bs + (i)))]) C hl rfl dX11_canBeTip_215 (by decide) rfl (fun ls hl => ?_)
                    refine lv_goto (tgt := 87) C.1 C.2.1 dX11_canBeTip_218 (by decide) ?_
                    obtain ⟨o14, hF⟩ := hF
                    exact ih8 (zOr (st) (0)) (rc) (k + 1) (zI_rg _) hrc o14 hF.1 (Nat.lt_of_lt_of_le hF.2 (Nat.le_of_lt_succ hmu8)) _ _ _ hH hS (lv_sub hl [3, 1, 0, 5] rfl)
                  · have hF := hF.2 c13
                    refine lv_iload C.1 C.2.1 dX11_canBeTip_152 (lv_at hl 3 rfl) ?_
                    refine zd_iconst C dX11_canBeTip_154 ?_
                    refine zd_icmp_eq C (by decide) (by decide) 215 dX11_canBeTip_155 (by decide) (fun c15 => ?_) (fun c15 => ?_)
                    · refine zd_iinc (k := 4) (lv' := [(3, .int (zI (k + 1))), (2, .int (zI (rc))), (5, .int (zI (e))), (1, .int (zI (zOr (st) (0)))), (4, .int (zI ((-1)))), (0, .ref (bs + (i)))]) C hl rfl dX11_canBeTip_215 (by decide) rfl (fun ls hl => ?_)
                      refine lv_goto (tgt := 87) C.1 C.2.1 dX11_canBeTip_218 (by decide) ?_
                      obtain ⟨o16, hF⟩ := hF
                      exact ih8 (zOr (st) (0)) (rc) (k + 1) (zI_rg _) hrc o16 hF.1 (Nat.lt_of_lt_of_le hF.2 (Nat.le_of_lt_succ hmu8)) _ _ _ hH hS (lv_sub hl [3, 1, 0, 5] rfl)
                    · exact absurd (by decide) c15
              exact L12 (((X2 i 27 - (k + 1)).toNat) + 1) (rc) (k + 1) hrc o17 hI12 (Nat.lt_succ_self _) _ _ _ hH hS (lv_sub hl [3, 0, 1, 2, 4, 5] rfl)
            · have hF := hF.2 c11
              refine lv_iload C.1 C.2.1 dX11_canBeTip_123 (lv_at hl 0 rfl) ?_
              refine zd_iconst C dX11_canBeTip_125 ?_
              refine zd_icmp_ne C (by decide) (by decide) 135 dX11_canBeTip_126 (by decide) (fun c18 => ?_) (fun c18 => ?_)
              · exact absurd c18 (by decide)
              · refine zd_iconst C dX11_canBeTip_129 ?_
                refine lv_iload_n C.1 C.2.1 dX11_canBeTip_130 rfl (lv_at hl 3 rfl) ?_
                refine zd_ishl C dX11_canBeTip_131 ?_
                refine lv_goto (tgt := 136) C.1 C.2.1 dX11_canBeTip_132 (by decide) ?_
                refine zd_ior C dX11_canBeTip_136 ?_
                refine lv_istore_n (lv' := [(1, .int (zI (zOr (st) (zShl (1) (k))))), (4, .int (zI ((-1)))), (2, .int (zI (rc))), (3, .int (zI (k))), (0, .ref (bs + (i)))]) C.1 C.2.1 dX11_canBeTip_137 rfl hl (by decide) rfl (fun ls hl => ?_)
                refine lv_iload_n C.1 C.2.1 dX11_canBeTip_138 rfl (lv_at hl 3 rfl) ?_
                refine zd_iconst C dX11_canBeTip_139 ?_
                refine zd_iadd C dX11_canBeTip_140 ?_
                refine lv_istore (lv' := [(5, .int (zI (k + 1))), (1, .int (zI (zOr (st) (zShl (1) (k))))), (4, .int (zI ((-1)))), (2, .int (zI (rc))), (3, .int (zI (k))), (0, .ref (bs + (i)))]) C.1 C.2.1 dX11_canBeTip_141 hl (by decide) rfl (fun ls hl => ?_)
                obtain ⟨o24, hF⟩ := hF
                obtain ⟨hI19, hF⟩ := hF
                have L19 : ∀ (fu : Nat) (rc : Int) (e : Int), rI rc → rI e → (True) → ((X2 i 27 - (e)).toNat) < fu → ∀ (H : Heap) (locs : List Loc) (ls : Array Slot), zH D cy bs N kd len X2 Y7 R H → va_S (zA bs) s.heap H locs → lv_has ls 6 [(2, .int (zI (rc))), (5, .int (zI (e))), (1, .int (zI (zOr (st) (zShl (1) (k))))), (4, .int (zI ((-1)))), (3, .int (zI (k))), (0, .ref (bs + (i)))] → W p l e (zRm 5 111) s m args below meth c H locs 0 0 (MQ below (zQi D cy bs N kd len (fun r st => st.2.2 = R ∧ (True))) args s 0 0 (zA bs)) (F0 m 143 ls []) := by
                  intro fu
                  induction fu with
                  | zero => intro rc e _ _ _ hmu; exact absurd hmu (Nat.not_lt_zero _)
                  | succ fu ih19 =>
                    intro rc e hrc he hI hmu19 H locs ls hH hS hl
                    have hF := hF rc e hrc he  hI
                    refine lv_iload C.1 C.2.1 dX11_canBeTip_143 (lv_at hl 1 rfl) ?_
                    refine lv_aload_n C.1 C.2.1 dX11_canBeTip_145 rfl (lv_at hl 5 rfl) ?_
                    refine zg11_27 C hH (zM_n0 hM) (zM_k0 hM) q_1314 dX11_canBeTip_146 ?_
                    refine zd_icmp_ge C he (hH.2.2.1 _ _) 215 dX11_canBeTip_149 (by decide) (fun c20 => ?_) (fun c20 => ?_)
                    · have hF := hF.1 c20
                      refine zd_iinc (k := 4) (lv' := [(3, .int (zI (k + 1))), (2, .int (zI (rc))), (5, .int (zI (e))), (1, .int (zI (zOr (st) (zShl (1) (k))))), (4, .int (zI ((-1)))), (0, .ref (bs + (i)))]) C hl rfl dX11_canBeTip_215 (by decide) rfl (fun ls hl => ?_)
                      refine lv_goto (tgt := 87) C.1 C.2.1 dX11_canBeTip_218 (by decide) ?_
                      obtain ⟨o21, hF⟩ := hF
                      exact ih8 (zOr (st) (zShl (1) (k))) (rc) (k + 1) (zI_rg _) hrc o21 hF.1 (Nat.lt_of_lt_of_le hF.2 (Nat.le_of_lt_succ hmu8)) _ _ _ hH hS (lv_sub hl [3, 1, 0, 5] rfl)
                    · have hF := hF.2 c20
                      refine lv_iload C.1 C.2.1 dX11_canBeTip_152 (lv_at hl 3 rfl) ?_
                      refine zd_iconst C dX11_canBeTip_154 ?_
                      refine zd_icmp_eq C (by decide) (by decide) 215 dX11_canBeTip_155 (by decide) (fun c22 => ?_) (fun c22 => ?_)
                      · refine zd_iinc (k := 4) (lv' := [(3, .int (zI (k + 1))), (2, .int (zI (rc))), (5, .int (zI (e))), (1, .int (zI (zOr (st) (zShl (1) (k))))), (4, .int (zI ((-1)))), (0, .ref (bs + (i)))]) C hl rfl dX11_canBeTip_215 (by decide) rfl (fun ls hl => ?_)
                        refine lv_goto (tgt := 87) C.1 C.2.1 dX11_canBeTip_218 (by decide) ?_
                        obtain ⟨o23, hF⟩ := hF
                        exact ih8 (zOr (st) (zShl (1) (k))) (rc) (k + 1) (zI_rg _) hrc o23 hF.1 (Nat.lt_of_lt_of_le hF.2 (Nat.le_of_lt_succ hmu8)) _ _ _ hH hS (lv_sub hl [3, 1, 0, 5] rfl)
                      · exact absurd (by decide) c22
                exact L19 (((X2 i 27 - (k + 1)).toNat) + 1) (rc) (k + 1) hrc o24 hI19 (Nat.lt_succ_self _) _ _ _ hH hS (lv_sub hl [3, 0, 1, 2, 4, 5] rfl)
          · have hF := hF.2 c10
            refine lv_aload_n C.1 C.2.1 dX11_canBeTip_103 rfl (lv_at hl 3 rfl) ?_
            refine lv_iload_n C.1 C.2.1 dX11_canBeTip_104 rfl (lv_at hl 2 rfl) ?_
            obtain ⟨o25, hF⟩ := hF
            refine zgoi (zrunV (As := [.int (zI (k))]) (rest := []) C hE hH hS hl.1 (c_X11_heavyChild (l := l) hM (k) hk o25) k_RX11_337 ⟨Nat.le_of_ble_eq_true rfl, Nat.le_of_ble_eq_true rfl⟩ (zM_n0 hM) (zM_k0 hM) rfl rfl rfl (Nat.le_of_ble_eq_true rfl) dX11_canBeTip_105 ⟨Nat.zero_le _, Nat.zero_le _⟩) hS (fun rq Xq Yq Rq H locs hrq hq hH hS => ?_)
            obtain ⟨h91, h92⟩ := hq
            have h93 : Xq = X2 := congrArg (fun z => z.1) h92
            have h94 : Yq = Y7 := congrArg (fun z => z.2.1) h92
            have h95 : Rq = R := congrArg (fun z => z.2.2) h92
            rw [h93, h94, h95] at hH
            subst h91
            have hr26 := hrq
            have hF := hF hr26
            refine lv_goto (tgt := 112) C.1 C.2.1 dX11_canBeTip_108 (by decide) ?_
            refine lv_istore (lv' := [(4, .int (zI (mHc X2 Y7 i (k).toNat (X2 i 27).toNat))), (1, .int (zI (st))), (2, .int (zI (rc))), (3, .int (zI (k))), (0, .ref (bs + (i)))]) C.1 C.2.1 dX11_canBeTip_112 hl (by decide) rfl (fun ls hl => ?_)
            refine lv_iload_n C.1 C.2.1 dX11_canBeTip_114 rfl (lv_at hl 1 rfl) ?_
            refine lv_iload_n C.1 C.2.1 dX11_canBeTip_115 rfl (lv_at hl 2 rfl) ?_
            refine lv_iload_n C.1 C.2.1 dX11_canBeTip_116 rfl (lv_at hl 3 rfl) ?_
            refine zgoi (zrunS (As := [.int (zI (rc)), .int (zI (k))]) (rest := [.int (zI (st))]) C hE hH hS hl.1 (c_X11_has (l := l)  (rc) hrc (k) hk) k_RX11_92 ⟨Nat.le_of_ble_eq_true rfl, Nat.le_of_ble_eq_true rfl⟩ rfl (Nat.le_of_ble_eq_true rfl) dX11_canBeTip_117 ⟨Nat.zero_le _, Nat.zero_le _⟩) hS (fun rq Xq Yq Rq H locs hrq hq hH hS => ?_)
            obtain ⟨h91, h92⟩ := hq
            have h93 : Xq = X2 := congrArg (fun z => z.1) h92
            have h94 : Yq = Y7 := congrArg (fun z => z.2.1) h92
            have h95 : Rq = R := congrArg (fun z => z.2.2) h92
            rw [h93, h94, h95] at hH
            subst h91
            refine zd_ifB_eq C 135 dX11_canBeTip_120 (by decide) (fun c27 => ?_) (fun c27 => ?_)
            · have hF := hF.1 c27
              refine zd_iconst C dX11_canBeTip_135 ?_
              refine zd_ior C dX11_canBeTip_136 ?_
              refine lv_istore_n (lv' := [(1, .int (zI (zOr (st) (0)))), (4, .int (zI (mHc X2 Y7 i (k).toNat (X2 i 27).toNat))), (2, .int (zI (rc))), (3, .int (zI (k))), (0, .ref (bs + (i)))]) C.1 C.2.1 dX11_canBeTip_137 rfl hl (by decide) rfl (fun ls hl => ?_)
              refine lv_iload_n C.1 C.2.1 dX11_canBeTip_138 rfl (lv_at hl 3 rfl) ?_
              refine zd_iconst C dX11_canBeTip_139 ?_
              refine zd_iadd C dX11_canBeTip_140 ?_
              refine lv_istore (lv' := [(5, .int (zI (k + 1))), (1, .int (zI (zOr (st) (0)))), (4, .int (zI (mHc X2 Y7 i (k).toNat (X2 i 27).toNat))), (2, .int (zI (rc))), (3, .int (zI (k))), (0, .ref (bs + (i)))]) C.1 C.2.1 dX11_canBeTip_141 hl (by decide) rfl (fun ls hl => ?_)
              obtain ⟨o44, hF⟩ := hF
              obtain ⟨hI28, hF⟩ := hF
              have L28 : ∀ (fu : Nat) (rc : Int) (e : Int), rI rc → rI e → (True) → ((X2 i 27 - (e)).toNat) < fu → ∀ (H : Heap) (locs : List Loc) (ls : Array Slot), zH D cy bs N kd len X2 Y7 R H → va_S (zA bs) s.heap H locs → lv_has ls 6 [(2, .int (zI (rc))), (5, .int (zI (e))), (1, .int (zI (zOr (st) (0)))), (4, .int (zI (mHc X2 Y7 i (k).toNat (X2 i 27).toNat))), (3, .int (zI (k))), (0, .ref (bs + (i)))] → W p l e (zRm 5 111) s m args below meth c H locs 0 0 (MQ below (zQi D cy bs N kd len (fun r st => st.2.2 = R ∧ (True))) args s 0 0 (zA bs)) (F0 m 143 ls []) := by
                intro fu
                induction fu with
                | zero => intro rc e _ _ _ hmu; exact absurd hmu (Nat.not_lt_zero _)
                | succ fu ih28 =>
                  intro rc e hrc he hI hmu28 H locs ls hH hS hl
                  have hF := hF rc e hrc he  hI
                  refine lv_iload C.1 C.2.1 dX11_canBeTip_143 (lv_at hl 1 rfl) ?_
                  refine lv_aload_n C.1 C.2.1 dX11_canBeTip_145 rfl (lv_at hl 5 rfl) ?_
                  refine zg11_27 C hH (zM_n0 hM) (zM_k0 hM) q_1314 dX11_canBeTip_146 ?_
                  refine zd_icmp_ge C he (hH.2.2.1 _ _) 215 dX11_canBeTip_149 (by decide) (fun c29 => ?_) (fun c29 => ?_)
                  · have hF := hF.1 c29
                    refine zd_iinc (k := 4) (lv' := [(3, .int (zI (k + 1))), (2, .int (zI (rc))), (5, .int (zI (e))), (1, .int (zI (zOr (st) (0)))), (4, .int (zI (mHc X2 Y7 i (k).toNat (X2 i 27).toNat))), (0, .ref (bs + (i)))]) C hl rfl dX11_canBeTip_215 (by decide) rfl (fun ls hl => ?_)
                    refine lv_goto (tgt := 87) C.1 C.2.1 dX11_canBeTip_218 (by decide) ?_
                    obtain ⟨o30, hF⟩ := hF
                    exact ih8 (zOr (st) (0)) (rc) (k + 1) (zI_rg _) hrc o30 hF.1 (Nat.lt_of_lt_of_le hF.2 (Nat.le_of_lt_succ hmu8)) _ _ _ hH hS (lv_sub hl [3, 1, 0, 5] rfl)
                  · have hF := hF.2 c29
                    refine lv_iload C.1 C.2.1 dX11_canBeTip_152 (lv_at hl 3 rfl) ?_
                    refine zd_iconst C dX11_canBeTip_154 ?_
                    refine zd_icmp_eq C hr26 (by decide) 215 dX11_canBeTip_155 (by decide) (fun c31 => ?_) (fun c31 => ?_)
                    · have hF := hF.1 c31
                      refine zd_iinc (k := 4) (lv' := [(3, .int (zI (k + 1))), (2, .int (zI (rc))), (5, .int (zI (e))), (1, .int (zI (zOr (st) (0)))), (4, .int (zI (mHc X2 Y7 i (k).toNat (X2 i 27).toNat))), (0, .ref (bs + (i)))]) C hl rfl dX11_canBeTip_215 (by decide) rfl (fun ls hl => ?_)
                      refine lv_goto (tgt := 87) C.1 C.2.1 dX11_canBeTip_218 (by decide) ?_
                      obtain ⟨o32, hF⟩ := hF
                      exact ih8 (zOr (st) (0)) (rc) (k + 1) (zI_rg _) hrc o32 hF.1 (Nat.lt_of_lt_of_le hF.2 (Nat.le_of_lt_succ hmu8)) _ _ _ hH hS (lv_sub hl [3, 1, 0, 5] rfl)
                    · have hF := hF.2 c31
                      refine lv_iload_n C.1 C.2.1 dX11_canBeTip_158 rfl (lv_at hl 0 rfl) ?_
                      refine lv_aload_n C.1 C.2.1 dX11_canBeTip_159 rfl (lv_at hl 5 rfl) ?_
                      refine zg11_35 C hH (zM_n0 hM) (zM_k0 hM) q_1322 dX11_canBeTip_160 ?_
                      refine lv_iload C.1 C.2.1 dX11_canBeTip_163 (lv_at hl 1 rfl) ?_
                      refine zgoi (zrunS (As := [.int (zI (X2 (i) 35)), .int (zI (e))]) (rest := [.int (zI (rc))]) C hE hH hS hl.1 (c_X11_has (l := l)  (X2 (i) 35) (hH.2.2.1 _ _) (e) he) k_RX11_92 ⟨Nat.le_of_ble_eq_true rfl, Nat.le_of_ble_eq_true rfl⟩ rfl (Nat.le_of_ble_eq_true rfl) dX11_canBeTip_165 ⟨Nat.zero_le _, Nat.zero_le _⟩) hS (fun rq Xq Yq Rq H locs hrq hq hH hS => ?_)
                      obtain ⟨h91, h92⟩ := hq
                      have h93 : Xq = X2 := congrArg (fun z => z.1) h92
                      have h94 : Yq = Y7 := congrArg (fun z => z.2.1) h92
                      have h95 : Rq = R := congrArg (fun z => z.2.2) h92
                      rw [h93, h94, h95] at hH
                      subst h91
                      refine zd_ifB_eq C 206 dX11_canBeTip_168 (by decide) (fun c33 => ?_) (fun c33 => ?_)
                      · have hF := hF.1 c33
                        refine zd_iconst C dX11_canBeTip_206 ?_
                        refine zd_ior C dX11_canBeTip_207 ?_
                        refine lv_istore_n (lv' := [(2, .int (zI (zOr (rc) (0)))), (5, .int (zI (e))), (1, .int (zI (zOr (st) (0)))), (4, .int (zI (mHc X2 Y7 i (k).toNat (X2 i 27).toNat))), (3, .int (zI (k))), (0, .ref (bs + (i)))]) C.1 C.2.1 dX11_canBeTip_208 rfl hl (by decide) rfl (fun ls hl => ?_)
                        refine zd_iinc (k := 1) (lv' := [(5, .int (zI (e + 1))), (2, .int (zI (zOr (rc) (0)))), (1, .int (zI (zOr (st) (0)))), (4, .int (zI (mHc X2 Y7 i (k).toNat (X2 i 27).toNat))), (3, .int (zI (k))), (0, .ref (bs + (i)))]) C hl rfl dX11_canBeTip_209 (by decide) rfl (fun ls hl => ?_)
                        refine lv_goto (tgt := 143) C.1 C.2.1 dX11_canBeTip_212 (by decide) ?_
                        obtain ⟨o34, hF⟩ := hF
                        exact ih28 (zOr (rc) (0)) (e + 1) (zI_rg _) o34 hF.1 (Nat.lt_of_lt_of_le hF.2 (Nat.le_of_lt_succ hmu28)) _ _ _ hH hS (lv_sub hl [1, 0, 2, 3, 4, 5] rfl)
                      · have hF := hF.2 c33
                        refine lv_aload_n C.1 C.2.1 dX11_canBeTip_171 rfl (lv_at hl 5 rfl) ?_
                        refine lv_iload C.1 C.2.1 dX11_canBeTip_172 (lv_at hl 1 rfl) ?_
                        obtain ⟨o35, hF⟩ := hF
                        refine zgoi (zrunV (As := [.int (zI (e))]) (rest := [.int (zI (rc))]) C hE hH hS hl.1 (c_X11_parentOf (l := l) hM (e) he o35) k_RX11_264 ⟨Nat.le_of_ble_eq_true rfl, Nat.le_of_ble_eq_true rfl⟩ (zM_n0 hM) (zM_k0 hM) rfl rfl rfl (Nat.le_of_ble_eq_true rfl) dX11_canBeTip_174 ⟨Nat.zero_le _, Nat.zero_le _⟩) hS (fun rq Xq Yq Rq H locs hrq hq hH hS => ?_)
                        obtain ⟨h91, h92⟩ := hq
                        have h93 : Xq = X2 := congrArg (fun z => z.1) h92
                        have h94 : Yq = Y7 := congrArg (fun z => z.2.1) h92
                        have h95 : Rq = R := congrArg (fun z => z.2.2) h92
                        rw [h93, h94, h95] at hH
                        subst h91
                        have hr36 := hrq
                        have hF := hF hr36
                        refine lv_iload_n C.1 C.2.1 dX11_canBeTip_177 rfl (lv_at hl 4 rfl) ?_
                        refine zd_icmp_ne C hr36 hk 206 dX11_canBeTip_178 (by decide) (fun c37 => ?_) (fun c37 => ?_)
                        · have hF := hF.1 c37
                          refine zd_iconst C dX11_canBeTip_206 ?_
                          refine zd_ior C dX11_canBeTip_207 ?_
                          refine lv_istore_n (lv' := [(2, .int (zI (zOr (rc) (0)))), (5, .int (zI (e))), (1, .int (zI (zOr (st) (0)))), (4, .int (zI (mHc X2 Y7 i (k).toNat (X2 i 27).toNat))), (3, .int (zI (k))), (0, .ref (bs + (i)))]) C.1 C.2.1 dX11_canBeTip_208 rfl hl (by decide) rfl (fun ls hl => ?_)
                          refine zd_iinc (k := 1) (lv' := [(5, .int (zI (e + 1))), (2, .int (zI (zOr (rc) (0)))), (1, .int (zI (zOr (st) (0)))), (4, .int (zI (mHc X2 Y7 i (k).toNat (X2 i 27).toNat))), (3, .int (zI (k))), (0, .ref (bs + (i)))]) C hl rfl dX11_canBeTip_209 (by decide) rfl (fun ls hl => ?_)
                          refine lv_goto (tgt := 143) C.1 C.2.1 dX11_canBeTip_212 (by decide) ?_
                          obtain ⟨o38, hF⟩ := hF
                          exact ih28 (zOr (rc) (0)) (e + 1) (zI_rg _) o38 hF.1 (Nat.lt_of_lt_of_le hF.2 (Nat.le_of_lt_succ hmu28)) _ _ _ hH hS (lv_sub hl [1, 0, 2, 3, 4, 5] rfl)
                        · have hF := hF.2 c37
                          refine lv_aload_n C.1 C.2.1 dX11_canBeTip_181 rfl (lv_at hl 5 rfl) ?_
                          refine zg11_39 C hH (zM_n0 hM) (zM_k0 hM) q_1326 (zM_r18 hM) dX11_canBeTip_182 ?_
                          refine lv_iload C.1 C.2.1 dX11_canBeTip_185 (lv_at hl 1 rfl) ?_
                          obtain ⟨o39, hF⟩ := hF
                          refine zd_lald C hH (zM_n18 hM) (zM_k18 hM) o39.1 (by rw [zM_l18 hM]; exact o39.2) (by rw [zM_l18 hM]; decide) dX11_canBeTip_187 ?_
                          refine lv_aload_n C.1 C.2.1 dX11_canBeTip_188 rfl (lv_at hl 5 rfl) ?_
                          refine zg11_39 C hH (zM_n0 hM) (zM_k0 hM) q_1326 (zM_r18 hM) dX11_canBeTip_189 ?_
                          refine lv_iload C.1 C.2.1 dX11_canBeTip_192 (lv_at hl 3 rfl) ?_
                          obtain ⟨o40, hF⟩ := hF
                          refine zd_lald C hH (zM_n18 hM) (zM_k18 hM) o40.1 (by rw [zM_l18 hM]; exact o40.2) (by rw [zM_l18 hM]; decide) dX11_canBeTip_194 ?_
                          refine zd_lcmp C (hH.2.2.2 _ _) (hH.2.2.2 _ _) dX11_canBeTip_195 ?_
                          refine zd_ifL_ne C 206 dX11_canBeTip_196 (by decide) (fun c41 => ?_) (fun c41 => ?_)
                          · have hF := hF.1 c41
                            refine zd_iconst C dX11_canBeTip_206 ?_
                            refine zd_ior C dX11_canBeTip_207 ?_
                            refine lv_istore_n (lv' := [(2, .int (zI (zOr (rc) (0)))), (5, .int (zI (e))), (1, .int (zI (zOr (st) (0)))), (4, .int (zI (mHc X2 Y7 i (k).toNat (X2 i 27).toNat))), (3, .int (zI (k))), (0, .ref (bs + (i)))]) C.1 C.2.1 dX11_canBeTip_208 rfl hl (by decide) rfl (fun ls hl => ?_)
                            refine zd_iinc (k := 1) (lv' := [(5, .int (zI (e + 1))), (2, .int (zI (zOr (rc) (0)))), (1, .int (zI (zOr (st) (0)))), (4, .int (zI (mHc X2 Y7 i (k).toNat (X2 i 27).toNat))), (3, .int (zI (k))), (0, .ref (bs + (i)))]) C hl rfl dX11_canBeTip_209 (by decide) rfl (fun ls hl => ?_)
                            refine lv_goto (tgt := 143) C.1 C.2.1 dX11_canBeTip_212 (by decide) ?_
                            obtain ⟨o42, hF⟩ := hF
                            exact ih28 (zOr (rc) (0)) (e + 1) (zI_rg _) o42 hF.1 (Nat.lt_of_lt_of_le hF.2 (Nat.le_of_lt_succ hmu28)) _ _ _ hH hS (lv_sub hl [1, 0, 2, 3, 4, 5] rfl)
                          · have hF := hF.2 c41
                            refine zd_iconst C dX11_canBeTip_199 ?_
                            refine lv_iload C.1 C.2.1 dX11_canBeTip_200 (lv_at hl 1 rfl) ?_
                            refine zd_ishl C dX11_canBeTip_202 ?_
                            refine lv_goto (tgt := 207) C.1 C.2.1 dX11_canBeTip_203 (by decide) ?_
                            refine zd_ior C dX11_canBeTip_207 ?_
                            refine lv_istore_n (lv' := [(2, .int (zI (zOr (rc) (zShl (1) (e))))), (5, .int (zI (e))), (1, .int (zI (zOr (st) (0)))), (4, .int (zI (mHc X2 Y7 i (k).toNat (X2 i 27).toNat))), (3, .int (zI (k))), (0, .ref (bs + (i)))]) C.1 C.2.1 dX11_canBeTip_208 rfl hl (by decide) rfl (fun ls hl => ?_)
                            refine zd_iinc (k := 1) (lv' := [(5, .int (zI (e + 1))), (2, .int (zI (zOr (rc) (zShl (1) (e))))), (1, .int (zI (zOr (st) (0)))), (4, .int (zI (mHc X2 Y7 i (k).toNat (X2 i 27).toNat))), (3, .int (zI (k))), (0, .ref (bs + (i)))]) C hl rfl dX11_canBeTip_209 (by decide) rfl (fun ls hl => ?_)
                            refine lv_goto (tgt := 143) C.1 C.2.1 dX11_canBeTip_212 (by decide) ?_
                            obtain ⟨o43, hF⟩ := hF
                            exact ih28 (zOr (rc) (zShl (1) (e))) (e + 1) (zI_rg _) o43 hF.1 (Nat.lt_of_lt_of_le hF.2 (Nat.le_of_lt_succ hmu28)) _ _ _ hH hS (lv_sub hl [1, 0, 2, 3, 4, 5] rfl)
              exact L28 (((X2 i 27 - (k + 1)).toNat) + 1) (rc) (k + 1) hrc o44 hI28 (Nat.lt_succ_self _) _ _ _ hH hS (lv_sub hl [3, 0, 1, 2, 4, 5] rfl)
            · have hF := hF.2 c27
              refine lv_iload C.1 C.2.1 dX11_canBeTip_123 (lv_at hl 0 rfl) ?_
              refine zd_iconst C dX11_canBeTip_125 ?_
              refine zd_icmp_ne C hr26 (by decide) 135 dX11_canBeTip_126 (by decide) (fun c45 => ?_) (fun c45 => ?_)
              · have hF := hF.1 c45
                refine zd_iconst C dX11_canBeTip_135 ?_
                refine zd_ior C dX11_canBeTip_136 ?_
                refine lv_istore_n (lv' := [(1, .int (zI (zOr (st) (0)))), (4, .int (zI (mHc X2 Y7 i (k).toNat (X2 i 27).toNat))), (2, .int (zI (rc))), (3, .int (zI (k))), (0, .ref (bs + (i)))]) C.1 C.2.1 dX11_canBeTip_137 rfl hl (by decide) rfl (fun ls hl => ?_)
                refine lv_iload_n C.1 C.2.1 dX11_canBeTip_138 rfl (lv_at hl 3 rfl) ?_
                refine zd_iconst C dX11_canBeTip_139 ?_
                refine zd_iadd C dX11_canBeTip_140 ?_
                refine lv_istore (lv' := [(5, .int (zI (k + 1))), (1, .int (zI (zOr (st) (0)))), (4, .int (zI (mHc X2 Y7 i (k).toNat (X2 i 27).toNat))), (2, .int (zI (rc))), (3, .int (zI (k))), (0, .ref (bs + (i)))]) C.1 C.2.1 dX11_canBeTip_141 hl (by decide) rfl (fun ls hl => ?_)
                obtain ⟨o62, hF⟩ := hF
                obtain ⟨hI46, hF⟩ := hF
                have L46 : ∀ (fu : Nat) (rc : Int) (e : Int), rI rc → rI e → (True) → ((X2 i 27 - (e)).toNat) < fu → ∀ (H : Heap) (locs : List Loc) (ls : Array Slot), zH D cy bs N kd len X2 Y7 R H → va_S (zA bs) s.heap H locs → lv_has ls 6 [(2, .int (zI (rc))), (5, .int (zI (e))), (1, .int (zI (zOr (st) (0)))), (4, .int (zI (mHc X2 Y7 i (k).toNat (X2 i 27).toNat))), (3, .int (zI (k))), (0, .ref (bs + (i)))] → W p l e (zRm 5 111) s m args below meth c H locs 0 0 (MQ below (zQi D cy bs N kd len (fun r st => st.2.2 = R ∧ (True))) args s 0 0 (zA bs)) (F0 m 143 ls []) := by
                  intro fu
                  induction fu with
                  | zero => intro rc e _ _ _ hmu; exact absurd hmu (Nat.not_lt_zero _)
                  | succ fu ih46 =>
                    intro rc e hrc he hI hmu46 H locs ls hH hS hl
                    have hF := hF rc e hrc he  hI
                    refine lv_iload C.1 C.2.1 dX11_canBeTip_143 (lv_at hl 1 rfl) ?_
                    refine lv_aload_n C.1 C.2.1 dX11_canBeTip_145 rfl (lv_at hl 5 rfl) ?_
                    refine zg11_27 C hH (zM_n0 hM) (zM_k0 hM) q_1314 dX11_canBeTip_146 ?_
                    refine zd_icmp_ge C he (hH.2.2.1 _ _) 215 dX11_canBeTip_149 (by decide) (fun c47 => ?_) (fun c47 => ?_)
                    · have hF := hF.1 c47
                      refine zd_iinc (k := 4) (lv' := [(3, .int (zI (k + 1))), (2, .int (zI (rc))), (5, .int (zI (e))), (1, .int (zI (zOr (st) (0)))), (4, .int (zI (mHc X2 Y7 i (k).toNat (X2 i 27).toNat))), (0, .ref (bs + (i)))]) C hl rfl dX11_canBeTip_215 (by decide) rfl (fun ls hl => ?_)
                      refine lv_goto (tgt := 87) C.1 C.2.1 dX11_canBeTip_218 (by decide) ?_
                      obtain ⟨o48, hF⟩ := hF
                      exact ih8 (zOr (st) (0)) (rc) (k + 1) (zI_rg _) hrc o48 hF.1 (Nat.lt_of_lt_of_le hF.2 (Nat.le_of_lt_succ hmu8)) _ _ _ hH hS (lv_sub hl [3, 1, 0, 5] rfl)
                    · have hF := hF.2 c47
                      refine lv_iload C.1 C.2.1 dX11_canBeTip_152 (lv_at hl 3 rfl) ?_
                      refine zd_iconst C dX11_canBeTip_154 ?_
                      refine zd_icmp_eq C hr26 (by decide) 215 dX11_canBeTip_155 (by decide) (fun c49 => ?_) (fun c49 => ?_)
                      · have hF := hF.1 c49
                        refine zd_iinc (k := 4) (lv' := [(3, .int (zI (k + 1))), (2, .int (zI (rc))), (5, .int (zI (e))), (1, .int (zI (zOr (st) (0)))), (4, .int (zI (mHc X2 Y7 i (k).toNat (X2 i 27).toNat))), (0, .ref (bs + (i)))]) C hl rfl dX11_canBeTip_215 (by decide) rfl (fun ls hl => ?_)
                        refine lv_goto (tgt := 87) C.1 C.2.1 dX11_canBeTip_218 (by decide) ?_
                        obtain ⟨o50, hF⟩ := hF
                        exact ih8 (zOr (st) (0)) (rc) (k + 1) (zI_rg _) hrc o50 hF.1 (Nat.lt_of_lt_of_le hF.2 (Nat.le_of_lt_succ hmu8)) _ _ _ hH hS (lv_sub hl [3, 1, 0, 5] rfl)
                      · have hF := hF.2 c49
                        refine lv_iload_n C.1 C.2.1 dX11_canBeTip_158 rfl (lv_at hl 0 rfl) ?_
                        refine lv_aload_n C.1 C.2.1 dX11_canBeTip_159 rfl (lv_at hl 5 rfl) ?_
                        refine zg11_35 C hH (zM_n0 hM) (zM_k0 hM) q_1322 dX11_canBeTip_160 ?_
                        refine lv_iload C.1 C.2.1 dX11_canBeTip_163 (lv_at hl 1 rfl) ?_
                        refine zgoi (zrunS (As := [.int (zI (X2 (i) 35)), .int (zI (e))]) (rest := [.int (zI (rc))]) C hE hH hS hl.1 (c_X11_has (l := l)  (X2 (i) 35) (hH.2.2.1 _ _) (e) he) k_RX11_92 ⟨Nat.le_of_ble_eq_true rfl, Nat.le_of_ble_eq_true rfl⟩ rfl (Nat.le_of_ble_eq_true rfl) dX11_canBeTip_165 ⟨Nat.zero_le _, Nat.zero_le _⟩) hS (fun rq Xq Yq Rq H locs hrq hq hH hS => ?_)
                        obtain ⟨h91, h92⟩ := hq
                        have h93 : Xq = X2 := congrArg (fun z => z.1) h92
                        have h94 : Yq = Y7 := congrArg (fun z => z.2.1) h92
                        have h95 : Rq = R := congrArg (fun z => z.2.2) h92
                        rw [h93, h94, h95] at hH
                        subst h91
                        refine zd_ifB_eq C 206 dX11_canBeTip_168 (by decide) (fun c51 => ?_) (fun c51 => ?_)
                        · have hF := hF.1 c51
                          refine zd_iconst C dX11_canBeTip_206 ?_
                          refine zd_ior C dX11_canBeTip_207 ?_
                          refine lv_istore_n (lv' := [(2, .int (zI (zOr (rc) (0)))), (5, .int (zI (e))), (1, .int (zI (zOr (st) (0)))), (4, .int (zI (mHc X2 Y7 i (k).toNat (X2 i 27).toNat))), (3, .int (zI (k))), (0, .ref (bs + (i)))]) C.1 C.2.1 dX11_canBeTip_208 rfl hl (by decide) rfl (fun ls hl => ?_)
                          refine zd_iinc (k := 1) (lv' := [(5, .int (zI (e + 1))), (2, .int (zI (zOr (rc) (0)))), (1, .int (zI (zOr (st) (0)))), (4, .int (zI (mHc X2 Y7 i (k).toNat (X2 i 27).toNat))), (3, .int (zI (k))), (0, .ref (bs + (i)))]) C hl rfl dX11_canBeTip_209 (by decide) rfl (fun ls hl => ?_)
                          refine lv_goto (tgt := 143) C.1 C.2.1 dX11_canBeTip_212 (by decide) ?_
                          obtain ⟨o52, hF⟩ := hF
                          exact ih46 (zOr (rc) (0)) (e + 1) (zI_rg _) o52 hF.1 (Nat.lt_of_lt_of_le hF.2 (Nat.le_of_lt_succ hmu46)) _ _ _ hH hS (lv_sub hl [1, 0, 2, 3, 4, 5] rfl)
                        · have hF := hF.2 c51
                          refine lv_aload_n C.1 C.2.1 dX11_canBeTip_171 rfl (lv_at hl 5 rfl) ?_
                          refine lv_iload C.1 C.2.1 dX11_canBeTip_172 (lv_at hl 1 rfl) ?_
                          obtain ⟨o53, hF⟩ := hF
                          refine zgoi (zrunV (As := [.int (zI (e))]) (rest := [.int (zI (rc))]) C hE hH hS hl.1 (c_X11_parentOf (l := l) hM (e) he o53) k_RX11_264 ⟨Nat.le_of_ble_eq_true rfl, Nat.le_of_ble_eq_true rfl⟩ (zM_n0 hM) (zM_k0 hM) rfl rfl rfl (Nat.le_of_ble_eq_true rfl) dX11_canBeTip_174 ⟨Nat.zero_le _, Nat.zero_le _⟩) hS (fun rq Xq Yq Rq H locs hrq hq hH hS => ?_)
                          obtain ⟨h91, h92⟩ := hq
                          have h93 : Xq = X2 := congrArg (fun z => z.1) h92
                          have h94 : Yq = Y7 := congrArg (fun z => z.2.1) h92
                          have h95 : Rq = R := congrArg (fun z => z.2.2) h92
                          rw [h93, h94, h95] at hH
                          subst h91
                          have hr54 := hrq
                          have hF := hF hr54
                          refine lv_iload_n C.1 C.2.1 dX11_canBeTip_177 rfl (lv_at hl 4 rfl) ?_
                          refine zd_icmp_ne C hr54 hk 206 dX11_canBeTip_178 (by decide) (fun c55 => ?_) (fun c55 => ?_)
                          · have hF := hF.1 c55
                            refine zd_iconst C dX11_canBeTip_206 ?_
                            refine zd_ior C dX11_canBeTip_207 ?_
                            refine lv_istore_n (lv' := [(2, .int (zI (zOr (rc) (0)))), (5, .int (zI (e))), (1, .int (zI (zOr (st) (0)))), (4, .int (zI (mHc X2 Y7 i (k).toNat (X2 i 27).toNat))), (3, .int (zI (k))), (0, .ref (bs + (i)))]) C.1 C.2.1 dX11_canBeTip_208 rfl hl (by decide) rfl (fun ls hl => ?_)
                            refine zd_iinc (k := 1) (lv' := [(5, .int (zI (e + 1))), (2, .int (zI (zOr (rc) (0)))), (1, .int (zI (zOr (st) (0)))), (4, .int (zI (mHc X2 Y7 i (k).toNat (X2 i 27).toNat))), (3, .int (zI (k))), (0, .ref (bs + (i)))]) C hl rfl dX11_canBeTip_209 (by decide) rfl (fun ls hl => ?_)
                            refine lv_goto (tgt := 143) C.1 C.2.1 dX11_canBeTip_212 (by decide) ?_
                            obtain ⟨o56, hF⟩ := hF
                            exact ih46 (zOr (rc) (0)) (e + 1) (zI_rg _) o56 hF.1 (Nat.lt_of_lt_of_le hF.2 (Nat.le_of_lt_succ hmu46)) _ _ _ hH hS (lv_sub hl [1, 0, 2, 3, 4, 5] rfl)
                          · have hF := hF.2 c55
                            refine lv_aload_n C.1 C.2.1 dX11_canBeTip_181 rfl (lv_at hl 5 rfl) ?_
                            refine zg11_39 C hH (zM_n0 hM) (zM_k0 hM) q_1326 (zM_r18 hM) dX11_canBeTip_182 ?_
                            refine lv_iload C.1 C.2.1 dX11_canBeTip_185 (lv_at hl 1 rfl) ?_
                            obtain ⟨o57, hF⟩ := hF
                            refine zd_lald C hH (zM_n18 hM) (zM_k18 hM) o57.1 (by rw [zM_l18 hM]; exact o57.2) (by rw [zM_l18 hM]; decide) dX11_canBeTip_187 ?_
                            refine lv_aload_n C.1 C.2.1 dX11_canBeTip_188 rfl (lv_at hl 5 rfl) ?_
                            refine zg11_39 C hH (zM_n0 hM) (zM_k0 hM) q_1326 (zM_r18 hM) dX11_canBeTip_189 ?_
                            refine lv_iload C.1 C.2.1 dX11_canBeTip_192 (lv_at hl 3 rfl) ?_
                            obtain ⟨o58, hF⟩ := hF
                            refine zd_lald C hH (zM_n18 hM) (zM_k18 hM) o58.1 (by rw [zM_l18 hM]; exact o58.2) (by rw [zM_l18 hM]; decide) dX11_canBeTip_194 ?_
                            refine zd_lcmp C (hH.2.2.2 _ _) (hH.2.2.2 _ _) dX11_canBeTip_195 ?_
                            refine zd_ifL_ne C 206 dX11_canBeTip_196 (by decide) (fun c59 => ?_) (fun c59 => ?_)
                            · have hF := hF.1 c59
                              refine zd_iconst C dX11_canBeTip_206 ?_
                              refine zd_ior C dX11_canBeTip_207 ?_
                              refine lv_istore_n (lv' := [(2, .int (zI (zOr (rc) (0)))), (5, .int (zI (e))), (1, .int (zI (zOr (st) (0)))), (4, .int (zI (mHc X2 Y7 i (k).toNat (X2 i 27).toNat))), (3, .int (zI (k))), (0, .ref (bs + (i)))]) C.1 C.2.1 dX11_canBeTip_208 rfl hl (by decide) rfl (fun ls hl => ?_)
                              refine zd_iinc (k := 1) (lv' := [(5, .int (zI (e + 1))), (2, .int (zI (zOr (rc) (0)))), (1, .int (zI (zOr (st) (0)))), (4, .int (zI (mHc X2 Y7 i (k).toNat (X2 i 27).toNat))), (3, .int (zI (k))), (0, .ref (bs + (i)))]) C hl rfl dX11_canBeTip_209 (by decide) rfl (fun ls hl => ?_)
                              refine lv_goto (tgt := 143) C.1 C.2.1 dX11_canBeTip_212 (by decide) ?_
                              obtain ⟨o60, hF⟩ := hF
                              exact ih46 (zOr (rc) (0)) (e + 1) (zI_rg _) o60 hF.1 (Nat.lt_of_lt_of_le hF.2 (Nat.le_of_lt_succ hmu46)) _ _ _ hH hS (lv_sub hl [1, 0, 2, 3, 4, 5] rfl)
                            · have hF := hF.2 c59
                              refine zd_iconst C dX11_canBeTip_199 ?_
                              refine lv_iload C.1 C.2.1 dX11_canBeTip_200 (lv_at hl 1 rfl) ?_
                              refine zd_ishl C dX11_canBeTip_202 ?_
                              refine lv_goto (tgt := 207) C.1 C.2.1 dX11_canBeTip_203 (by decide) ?_
                              refine zd_ior C dX11_canBeTip_207 ?_
                              refine lv_istore_n (lv' := [(2, .int (zI (zOr (rc) (zShl (1) (e))))), (5, .int (zI (e))), (1, .int (zI (zOr (st) (0)))), (4, .int (zI (mHc X2 Y7 i (k).toNat (X2 i 27).toNat))), (3, .int (zI (k))), (0, .ref (bs + (i)))]) C.1 C.2.1 dX11_canBeTip_208 rfl hl (by decide) rfl (fun ls hl => ?_)
                              refine zd_iinc (k := 1) (lv' := [(5, .int (zI (e + 1))), (2, .int (zI (zOr (rc) (zShl (1) (e))))), (1, .int (zI (zOr (st) (0)))), (4, .int (zI (mHc X2 Y7 i (k).toNat (X2 i 27).toNat))), (3, .int (zI (k))), (0, .ref (bs + (i)))]) C hl rfl dX11_canBeTip_209 (by decide) rfl (fun ls hl => ?_)
                              refine lv_goto (tgt := 143) C.1 C.2.1 dX11_canBeTip_212 (by decide) ?_
                              obtain ⟨o61, hF⟩ := hF
                              exact ih46 (zOr (rc) (zShl (1) (e))) (e + 1) (zI_rg _) o61 hF.1 (Nat.lt_of_lt_of_le hF.2 (Nat.le_of_lt_succ hmu46)) _ _ _ hH hS (lv_sub hl [1, 0, 2, 3, 4, 5] rfl)
                exact L46 (((X2 i 27 - (k + 1)).toNat) + 1) (rc) (k + 1) hrc o62 hI46 (Nat.lt_succ_self _) _ _ _ hH hS (lv_sub hl [3, 0, 1, 2, 4, 5] rfl)
              · have hF := hF.2 c45
                refine zd_iconst C dX11_canBeTip_129 ?_
                refine lv_iload_n C.1 C.2.1 dX11_canBeTip_130 rfl (lv_at hl 3 rfl) ?_
                refine zd_ishl C dX11_canBeTip_131 ?_
                refine lv_goto (tgt := 136) C.1 C.2.1 dX11_canBeTip_132 (by decide) ?_
                refine zd_ior C dX11_canBeTip_136 ?_
                refine lv_istore_n (lv' := [(1, .int (zI (zOr (st) (zShl (1) (k))))), (4, .int (zI (mHc X2 Y7 i (k).toNat (X2 i 27).toNat))), (2, .int (zI (rc))), (3, .int (zI (k))), (0, .ref (bs + (i)))]) C.1 C.2.1 dX11_canBeTip_137 rfl hl (by decide) rfl (fun ls hl => ?_)
                refine lv_iload_n C.1 C.2.1 dX11_canBeTip_138 rfl (lv_at hl 3 rfl) ?_
                refine zd_iconst C dX11_canBeTip_139 ?_
                refine zd_iadd C dX11_canBeTip_140 ?_
                refine lv_istore (lv' := [(5, .int (zI (k + 1))), (1, .int (zI (zOr (st) (zShl (1) (k))))), (4, .int (zI (mHc X2 Y7 i (k).toNat (X2 i 27).toNat))), (2, .int (zI (rc))), (3, .int (zI (k))), (0, .ref (bs + (i)))]) C.1 C.2.1 dX11_canBeTip_141 hl (by decide) rfl (fun ls hl => ?_)
                obtain ⟨o79, hF⟩ := hF
                obtain ⟨hI63, hF⟩ := hF
                have L63 : ∀ (fu : Nat) (rc : Int) (e : Int), rI rc → rI e → (True) → ((X2 i 27 - (e)).toNat) < fu → ∀ (H : Heap) (locs : List Loc) (ls : Array Slot), zH D cy bs N kd len X2 Y7 R H → va_S (zA bs) s.heap H locs → lv_has ls 6 [(2, .int (zI (rc))), (5, .int (zI (e))), (1, .int (zI (zOr (st) (zShl (1) (k))))), (4, .int (zI (mHc X2 Y7 i (k).toNat (X2 i 27).toNat))), (3, .int (zI (k))), (0, .ref (bs + (i)))] → W p l e (zRm 5 111) s m args below meth c H locs 0 0 (MQ below (zQi D cy bs N kd len (fun r st => st.2.2 = R ∧ (True))) args s 0 0 (zA bs)) (F0 m 143 ls []) := by
                  intro fu
                  induction fu with
                  | zero => intro rc e _ _ _ hmu; exact absurd hmu (Nat.not_lt_zero _)
                  | succ fu ih63 =>
                    intro rc e hrc he hI hmu63 H locs ls hH hS hl
                    have hF := hF rc e hrc he  hI
                    refine lv_iload C.1 C.2.1 dX11_canBeTip_143 (lv_at hl 1 rfl) ?_
                    refine lv_aload_n C.1 C.2.1 dX11_canBeTip_145 rfl (lv_at hl 5 rfl) ?_
                    refine zg11_27 C hH (zM_n0 hM) (zM_k0 hM) q_1314 dX11_canBeTip_146 ?_
                    refine zd_icmp_ge C he (hH.2.2.1 _ _) 215 dX11_canBeTip_149 (by decide) (fun c64 => ?_) (fun c64 => ?_)
                    · have hF := hF.1 c64
                      refine zd_iinc (k := 4) (lv' := [(3, .int (zI (k + 1))), (2, .int (zI (rc))), (5, .int (zI (e))), (1, .int (zI (zOr (st) (zShl (1) (k))))), (4, .int (zI (mHc X2 Y7 i (k).toNat (X2 i 27).toNat))), (0, .ref (bs + (i)))]) C hl rfl dX11_canBeTip_215 (by decide) rfl (fun ls hl => ?_)
                      refine lv_goto (tgt := 87) C.1 C.2.1 dX11_canBeTip_218 (by decide) ?_
                      obtain ⟨o65, hF⟩ := hF
                      exact ih8 (zOr (st) (zShl (1) (k))) (rc) (k + 1) (zI_rg _) hrc o65 hF.1 (Nat.lt_of_lt_of_le hF.2 (Nat.le_of_lt_succ hmu8)) _ _ _ hH hS (lv_sub hl [3, 1, 0, 5] rfl)
                    · have hF := hF.2 c64
                      refine lv_iload C.1 C.2.1 dX11_canBeTip_152 (lv_at hl 3 rfl) ?_
                      refine zd_iconst C dX11_canBeTip_154 ?_
                      refine zd_icmp_eq C hr26 (by decide) 215 dX11_canBeTip_155 (by decide) (fun c66 => ?_) (fun c66 => ?_)
                      · have hF := hF.1 c66
                        refine zd_iinc (k := 4) (lv' := [(3, .int (zI (k + 1))), (2, .int (zI (rc))), (5, .int (zI (e))), (1, .int (zI (zOr (st) (zShl (1) (k))))), (4, .int (zI (mHc X2 Y7 i (k).toNat (X2 i 27).toNat))), (0, .ref (bs + (i)))]) C hl rfl dX11_canBeTip_215 (by decide) rfl (fun ls hl => ?_)
                        refine lv_goto (tgt := 87) C.1 C.2.1 dX11_canBeTip_218 (by decide) ?_
                        obtain ⟨o67, hF⟩ := hF
                        exact ih8 (zOr (st) (zShl (1) (k))) (rc) (k + 1) (zI_rg _) hrc o67 hF.1 (Nat.lt_of_lt_of_le hF.2 (Nat.le_of_lt_succ hmu8)) _ _ _ hH hS (lv_sub hl [3, 1, 0, 5] rfl)
                      · have hF := hF.2 c66
                        refine lv_iload_n C.1 C.2.1 dX11_canBeTip_158 rfl (lv_at hl 0 rfl) ?_
                        refine lv_aload_n C.1 C.2.1 dX11_canBeTip_159 rfl (lv_at hl 5 rfl) ?_
                        refine zg11_35 C hH (zM_n0 hM) (zM_k0 hM) q_1322 dX11_canBeTip_160 ?_
                        refine lv_iload C.1 C.2.1 dX11_canBeTip_163 (lv_at hl 1 rfl) ?_
                        refine zgoi (zrunS (As := [.int (zI (X2 (i) 35)), .int (zI (e))]) (rest := [.int (zI (rc))]) C hE hH hS hl.1 (c_X11_has (l := l)  (X2 (i) 35) (hH.2.2.1 _ _) (e) he) k_RX11_92 ⟨Nat.le_of_ble_eq_true rfl, Nat.le_of_ble_eq_true rfl⟩ rfl (Nat.le_of_ble_eq_true rfl) dX11_canBeTip_165 ⟨Nat.zero_le _, Nat.zero_le _⟩) hS (fun rq Xq Yq Rq H locs hrq hq hH hS => ?_)
                        obtain ⟨h91, h92⟩ := hq
                        have h93 : Xq = X2 := congrArg (fun z => z.1) h92
                        have h94 : Yq = Y7 := congrArg (fun z => z.2.1) h92
                        have h95 : Rq = R := congrArg (fun z => z.2.2) h92
                        rw [h93, h94, h95] at hH
                        subst h91
                        refine zd_ifB_eq C 206 dX11_canBeTip_168 (by decide) (fun c68 => ?_) (fun c68 => ?_)
                        · have hF := hF.1 c68
                          refine zd_iconst C dX11_canBeTip_206 ?_
                          refine zd_ior C dX11_canBeTip_207 ?_
                          refine lv_istore_n (lv' := [(2, .int (zI (zOr (rc) (0)))), (5, .int (zI (e))), (1, .int (zI (zOr (st) (zShl (1) (k))))), (4, .int (zI (mHc X2 Y7 i (k).toNat (X2 i 27).toNat))), (3, .int (zI (k))), (0, .ref (bs + (i)))]) C.1 C.2.1 dX11_canBeTip_208 rfl hl (by decide) rfl (fun ls hl => ?_)
                          refine zd_iinc (k := 1) (lv' := [(5, .int (zI (e + 1))), (2, .int (zI (zOr (rc) (0)))), (1, .int (zI (zOr (st) (zShl (1) (k))))), (4, .int (zI (mHc X2 Y7 i (k).toNat (X2 i 27).toNat))), (3, .int (zI (k))), (0, .ref (bs + (i)))]) C hl rfl dX11_canBeTip_209 (by decide) rfl (fun ls hl => ?_)
                          refine lv_goto (tgt := 143) C.1 C.2.1 dX11_canBeTip_212 (by decide) ?_
                          obtain ⟨o69, hF⟩ := hF
                          exact ih63 (zOr (rc) (0)) (e + 1) (zI_rg _) o69 hF.1 (Nat.lt_of_lt_of_le hF.2 (Nat.le_of_lt_succ hmu63)) _ _ _ hH hS (lv_sub hl [1, 0, 2, 3, 4, 5] rfl)
                        · have hF := hF.2 c68
                          refine lv_aload_n C.1 C.2.1 dX11_canBeTip_171 rfl (lv_at hl 5 rfl) ?_
                          refine lv_iload C.1 C.2.1 dX11_canBeTip_172 (lv_at hl 1 rfl) ?_
                          obtain ⟨o70, hF⟩ := hF
                          refine zgoi (zrunV (As := [.int (zI (e))]) (rest := [.int (zI (rc))]) C hE hH hS hl.1 (c_X11_parentOf (l := l) hM (e) he o70) k_RX11_264 ⟨Nat.le_of_ble_eq_true rfl, Nat.le_of_ble_eq_true rfl⟩ (zM_n0 hM) (zM_k0 hM) rfl rfl rfl (Nat.le_of_ble_eq_true rfl) dX11_canBeTip_174 ⟨Nat.zero_le _, Nat.zero_le _⟩) hS (fun rq Xq Yq Rq H locs hrq hq hH hS => ?_)
                          obtain ⟨h91, h92⟩ := hq
                          have h93 : Xq = X2 := congrArg (fun z => z.1) h92
                          have h94 : Yq = Y7 := congrArg (fun z => z.2.1) h92
                          have h95 : Rq = R := congrArg (fun z => z.2.2) h92
                          rw [h93, h94, h95] at hH
                          subst h91
                          have hr71 := hrq
                          have hF := hF hr71
                          refine lv_iload_n C.1 C.2.1 dX11_canBeTip_177 rfl (lv_at hl 4 rfl) ?_
                          refine zd_icmp_ne C hr71 hk 206 dX11_canBeTip_178 (by decide) (fun c72 => ?_) (fun c72 => ?_)
                          · have hF := hF.1 c72
                            refine zd_iconst C dX11_canBeTip_206 ?_
                            refine zd_ior C dX11_canBeTip_207 ?_
                            refine lv_istore_n (lv' := [(2, .int (zI (zOr (rc) (0)))), (5, .int (zI (e))), (1, .int (zI (zOr (st) (zShl (1) (k))))), (4, .int (zI (mHc X2 Y7 i (k).toNat (X2 i 27).toNat))), (3, .int (zI (k))), (0, .ref (bs + (i)))]) C.1 C.2.1 dX11_canBeTip_208 rfl hl (by decide) rfl (fun ls hl => ?_)
                            refine zd_iinc (k := 1) (lv' := [(5, .int (zI (e + 1))), (2, .int (zI (zOr (rc) (0)))), (1, .int (zI (zOr (st) (zShl (1) (k))))), (4, .int (zI (mHc X2 Y7 i (k).toNat (X2 i 27).toNat))), (3, .int (zI (k))), (0, .ref (bs + (i)))]) C hl rfl dX11_canBeTip_209 (by decide) rfl (fun ls hl => ?_)
                            refine lv_goto (tgt := 143) C.1 C.2.1 dX11_canBeTip_212 (by decide) ?_
                            obtain ⟨o73, hF⟩ := hF
                            exact ih63 (zOr (rc) (0)) (e + 1) (zI_rg _) o73 hF.1 (Nat.lt_of_lt_of_le hF.2 (Nat.le_of_lt_succ hmu63)) _ _ _ hH hS (lv_sub hl [1, 0, 2, 3, 4, 5] rfl)
                          · have hF := hF.2 c72
                            refine lv_aload_n C.1 C.2.1 dX11_canBeTip_181 rfl (lv_at hl 5 rfl) ?_
                            refine zg11_39 C hH (zM_n0 hM) (zM_k0 hM) q_1326 (zM_r18 hM) dX11_canBeTip_182 ?_
                            refine lv_iload C.1 C.2.1 dX11_canBeTip_185 (lv_at hl 1 rfl) ?_
                            obtain ⟨o74, hF⟩ := hF
                            refine zd_lald C hH (zM_n18 hM) (zM_k18 hM) o74.1 (by rw [zM_l18 hM]; exact o74.2) (by rw [zM_l18 hM]; decide) dX11_canBeTip_187 ?_
                            refine lv_aload_n C.1 C.2.1 dX11_canBeTip_188 rfl (lv_at hl 5 rfl) ?_
                            refine zg11_39 C hH (zM_n0 hM) (zM_k0 hM) q_1326 (zM_r18 hM) dX11_canBeTip_189 ?_
                            refine lv_iload C.1 C.2.1 dX11_canBeTip_192 (lv_at hl 3 rfl) ?_
                            obtain ⟨o75, hF⟩ := hF
                            refine zd_lald C hH (zM_n18 hM) (zM_k18 hM) o75.1 (by rw [zM_l18 hM]; exact o75.2) (by rw [zM_l18 hM]; decide) dX11_canBeTip_194 ?_
                            refine zd_lcmp C (hH.2.2.2 _ _) (hH.2.2.2 _ _) dX11_canBeTip_195 ?_
                            refine zd_ifL_ne C 206 dX11_canBeTip_196 (by decide) (fun c76 => ?_) (fun c76 => ?_)
                            · have hF := hF.1 c76
                              refine zd_iconst C dX11_canBeTip_206 ?_
                              refine zd_ior C dX11_canBeTip_207 ?_
                              refine lv_istore_n (lv' := [(2, .int (zI (zOr (rc) (0)))), (5, .int (zI (e))), (1, .int (zI (zOr (st) (zShl (1) (k))))), (4, .int (zI (mHc X2 Y7 i (k).toNat (X2 i 27).toNat))), (3, .int (zI (k))), (0, .ref (bs + (i)))]) C.1 C.2.1 dX11_canBeTip_208 rfl hl (by decide) rfl (fun ls hl => ?_)
                              refine zd_iinc (k := 1) (lv' := [(5, .int (zI (e + 1))), (2, .int (zI (zOr (rc) (0)))), (1, .int (zI (zOr (st) (zShl (1) (k))))), (4, .int (zI (mHc X2 Y7 i (k).toNat (X2 i 27).toNat))), (3, .int (zI (k))), (0, .ref (bs + (i)))]) C hl rfl dX11_canBeTip_209 (by decide) rfl (fun ls hl => ?_)
                              refine lv_goto (tgt := 143) C.1 C.2.1 dX11_canBeTip_212 (by decide) ?_
                              obtain ⟨o77, hF⟩ := hF
                              exact ih63 (zOr (rc) (0)) (e + 1) (zI_rg _) o77 hF.1 (Nat.lt_of_lt_of_le hF.2 (Nat.le_of_lt_succ hmu63)) _ _ _ hH hS (lv_sub hl [1, 0, 2, 3, 4, 5] rfl)
                            · have hF := hF.2 c76
                              refine zd_iconst C dX11_canBeTip_199 ?_
                              refine lv_iload C.1 C.2.1 dX11_canBeTip_200 (lv_at hl 1 rfl) ?_
                              refine zd_ishl C dX11_canBeTip_202 ?_
                              refine lv_goto (tgt := 207) C.1 C.2.1 dX11_canBeTip_203 (by decide) ?_
                              refine zd_ior C dX11_canBeTip_207 ?_
                              refine lv_istore_n (lv' := [(2, .int (zI (zOr (rc) (zShl (1) (e))))), (5, .int (zI (e))), (1, .int (zI (zOr (st) (zShl (1) (k))))), (4, .int (zI (mHc X2 Y7 i (k).toNat (X2 i 27).toNat))), (3, .int (zI (k))), (0, .ref (bs + (i)))]) C.1 C.2.1 dX11_canBeTip_208 rfl hl (by decide) rfl (fun ls hl => ?_)
                              refine zd_iinc (k := 1) (lv' := [(5, .int (zI (e + 1))), (2, .int (zI (zOr (rc) (zShl (1) (e))))), (1, .int (zI (zOr (st) (zShl (1) (k))))), (4, .int (zI (mHc X2 Y7 i (k).toNat (X2 i 27).toNat))), (3, .int (zI (k))), (0, .ref (bs + (i)))]) C hl rfl dX11_canBeTip_209 (by decide) rfl (fun ls hl => ?_)
                              refine lv_goto (tgt := 143) C.1 C.2.1 dX11_canBeTip_212 (by decide) ?_
                              obtain ⟨o78, hF⟩ := hF
                              exact ih63 (zOr (rc) (zShl (1) (e))) (e + 1) (zI_rg _) o78 hF.1 (Nat.lt_of_lt_of_le hF.2 (Nat.le_of_lt_succ hmu63)) _ _ _ hH hS (lv_sub hl [1, 0, 2, 3, 4, 5] rfl)
                exact L63 (((X2 i 27 - (k + 1)).toNat) + 1) (rc) (k + 1) hrc o79 hI63 (Nat.lt_succ_self _) _ _ _ hH hS (lv_sub hl [3, 0, 1, 2, 4, 5] rfl)
    exact L8 (((X2 i 27 - ((0 : Int))).toNat) + 1) ((0 : Int)) ((1 : Int)) ((0 : Int)) (by decide) (by decide) (by decide) hI8 (Nat.lt_succ_self _) _ _ _ hH hS (lv_sub hl [2, 1, 0, 3] rfl)
  · have hF := hF.2 c5
    refine lv_aload_n C.1 C.2.1 dX11_canBeTip_15 rfl (lv_at hl 1 rfl) ?_
    obtain ⟨o80, hF⟩ := hF
    refine zgoi (zrunV (As := []) (rest := []) C hE hH hS hl.1 (c_X11_heaviest (l := l) hM  o80) k_RX11_331 ⟨Nat.le_of_ble_eq_true rfl, Nat.le_of_ble_eq_true rfl⟩ (zM_n0 hM) (zM_k0 hM) rfl rfl rfl (Nat.le_of_ble_eq_true rfl) dX11_canBeTip_16 ⟨Nat.zero_le _, Nat.zero_le _⟩) hS (fun rq Xq Yq Rq H locs hrq hq hH hS => ?_)
    obtain ⟨h91, h92⟩ := hq
    have h93 : Xq = X2 := congrArg (fun z => z.1) h92
    have h94 : Yq = Y3 := congrArg (fun z => z.2.1) h92
    have h95 : Rq = R := congrArg (fun z => z.2.2) h92
    rw [h93, h94, h95] at hH
    subst h91
    have hr81 := hrq
    have hF := hF hr81
    refine lv_istore_n (lv' := [(2, .int (zI (((mHv X2 Y3 i (X2 i 27).toNat : Nat) : Int)))), (1, .int (zI (0))), (0, .ref (bs + (i)))]) C.1 C.2.1 dX11_canBeTip_19 rfl hl (by decide) rfl (fun ls hl => ?_)
    refine zd_iconst C dX11_canBeTip_20 ?_
    refine lv_istore_n (lv' := [(3, .int (zI (0))), (2, .int (zI (((mHv X2 Y3 i (X2 i 27).toNat : Nat) : Int)))), (1, .int (zI (0))), (0, .ref (bs + (i)))]) C.1 C.2.1 dX11_canBeTip_21 rfl hl (by decide) rfl (fun ls hl => ?_)
    obtain ⟨hI82, hF⟩ := hF
    have L82 : ∀ (fu : Nat) (st : Int) (k : Int), rI st → rI k → (True) → ((X2 i 27 - (k)).toNat) < fu → ∀ (H : Heap) (locs : List Loc) (ls : Array Slot), zH D cy bs N kd len X2 Y3 R H → va_S (zA bs) s.heap H locs → lv_has ls 6 [(1, .int (zI (st))), (3, .int (zI (k))), (2, .int (zI (((mHv X2 Y3 i (X2 i 27).toNat : Nat) : Int)))), (0, .ref (bs + (i)))] → W p l e (zRm 5 111) s m args below meth c H locs 0 0 (MQ below (zQi D cy bs N kd len (fun r st => st.2.2 = R ∧ (True))) args s 0 0 (zA bs)) (F0 m 22 ls []) := by
      intro fu
      induction fu with
      | zero => intro st k _ _ _ hmu; exact absurd hmu (Nat.not_lt_zero _)
      | succ fu ih82 =>
        intro st k hst hk hI hmu82 H locs ls hH hS hl
        have hF := hF st k hst hk  hI
        refine lv_iload_n C.1 C.2.1 dX11_canBeTip_22 rfl (lv_at hl 1 rfl) ?_
        refine lv_aload_n C.1 C.2.1 dX11_canBeTip_23 rfl (lv_at hl 3 rfl) ?_
        refine zg11_27 C hH (zM_n0 hM) (zM_k0 hM) q_1314 dX11_canBeTip_24 ?_
        refine zd_icmp_ge C hk (hH.2.2.1 _ _) 73 dX11_canBeTip_27 (by decide) (fun c83 => ?_) (fun c83 => ?_)
        · have hF := hF.1 c83
          refine lv_iload_n C.1 C.2.1 dX11_canBeTip_73 rfl (lv_at hl 0 rfl) ?_
          exact zd_iret C hr hlk hH hS hst (⟨rfl, hF⟩) dX11_canBeTip_74
        · have hF := hF.2 c83
          refine lv_iload_n C.1 C.2.1 dX11_canBeTip_30 rfl (lv_at hl 0 rfl) ?_
          refine lv_aload_n C.1 C.2.1 dX11_canBeTip_31 rfl (lv_at hl 3 rfl) ?_
          refine zg11_35 C hH (zM_n0 hM) (zM_k0 hM) q_1322 dX11_canBeTip_32 ?_
          refine lv_iload_n C.1 C.2.1 dX11_canBeTip_35 rfl (lv_at hl 1 rfl) ?_
          refine zgoi (zrunS (As := [.int (zI (X2 (i) 35)), .int (zI (k))]) (rest := [.int (zI (st))]) C hE hH hS hl.1 (c_X11_has (l := l)  (X2 (i) 35) (hH.2.2.1 _ _) (k) hk) k_RX11_92 ⟨Nat.le_of_ble_eq_true rfl, Nat.le_of_ble_eq_true rfl⟩ rfl (Nat.le_of_ble_eq_true rfl) dX11_canBeTip_36 ⟨Nat.zero_le _, Nat.zero_le _⟩) hS (fun rq Xq Yq Rq H locs hrq hq hH hS => ?_)
          obtain ⟨h91, h92⟩ := hq
          have h93 : Xq = X2 := congrArg (fun z => z.1) h92
          have h94 : Yq = Y3 := congrArg (fun z => z.2.1) h92
          have h95 : Rq = R := congrArg (fun z => z.2.2) h92
          rw [h93, h94, h95] at hH
          subst h91
          refine zd_ifB_eq C 64 dX11_canBeTip_39 (by decide) (fun c84 => ?_) (fun c84 => ?_)
          · have hF := hF.1 c84
            refine zd_iconst C dX11_canBeTip_64 ?_
            refine zd_ior C dX11_canBeTip_65 ?_
            refine lv_istore_n (lv' := [(1, .int (zI (zOr (st) (0)))), (3, .int (zI (k))), (2, .int (zI (((mHv X2 Y3 i (X2 i 27).toNat : Nat) : Int)))), (0, .ref (bs + (i)))]) C.1 C.2.1 dX11_canBeTip_66 rfl hl (by decide) rfl (fun ls hl => ?_)
            refine zd_iinc (k := 1) (lv' := [(3, .int (zI (k + 1))), (1, .int (zI (zOr (st) (0)))), (2, .int (zI (((mHv X2 Y3 i (X2 i 27).toNat : Nat) : Int)))), (0, .ref (bs + (i)))]) C hl rfl dX11_canBeTip_67 (by decide) rfl (fun ls hl => ?_)
            refine lv_goto (tgt := 22) C.1 C.2.1 dX11_canBeTip_70 (by decide) ?_
            obtain ⟨o85, hF⟩ := hF
            exact ih82 (zOr (st) (0)) (k + 1) (zI_rg _) o85 hF.1 (Nat.lt_of_lt_of_le hF.2 (Nat.le_of_lt_succ hmu82)) _ _ _ hH hS (lv_sub hl [1, 0, 2, 3] rfl)
          · have hF := hF.2 c84
            refine lv_aload_n C.1 C.2.1 dX11_canBeTip_42 rfl (lv_at hl 3 rfl) ?_
            refine zg11_33 C hH (zM_n0 hM) (zM_k0 hM) q_1320 (zM_r15 hM) dX11_canBeTip_43 ?_
            refine lv_iload_n C.1 C.2.1 dX11_canBeTip_46 rfl (lv_at hl 1 rfl) ?_
            obtain ⟨o86, hF⟩ := hF
            refine zd_lald C hH (zM_n15 hM) (zM_k15 hM) o86.1 (by rw [zM_l15 hM]; exact o86.2) (by rw [zM_l15 hM]; decide) dX11_canBeTip_47 ?_
            refine lv_aload_n C.1 C.2.1 dX11_canBeTip_48 rfl (lv_at hl 3 rfl) ?_
            refine zg11_33 C hH (zM_n0 hM) (zM_k0 hM) q_1320 (zM_r15 hM) dX11_canBeTip_49 ?_
            refine lv_iload_n C.1 C.2.1 dX11_canBeTip_52 rfl (lv_at hl 2 rfl) ?_
            obtain ⟨o87, hF⟩ := hF
            refine zd_lald C hH (zM_n15 hM) (zM_k15 hM) o87.1 (by rw [zM_l15 hM]; exact o87.2) (by rw [zM_l15 hM]; decide) dX11_canBeTip_53 ?_
            refine zd_lcmp C (hH.2.2.2 _ _) (hH.2.2.2 _ _) dX11_canBeTip_54 ?_
            refine zd_ifL_ne C 64 dX11_canBeTip_55 (by decide) (fun c88 => ?_) (fun c88 => ?_)
            · have hF := hF.1 c88
              refine zd_iconst C dX11_canBeTip_64 ?_
              refine zd_ior C dX11_canBeTip_65 ?_
              refine lv_istore_n (lv' := [(1, .int (zI (zOr (st) (0)))), (3, .int (zI (k))), (2, .int (zI (((mHv X2 Y3 i (X2 i 27).toNat : Nat) : Int)))), (0, .ref (bs + (i)))]) C.1 C.2.1 dX11_canBeTip_66 rfl hl (by decide) rfl (fun ls hl => ?_)
              refine zd_iinc (k := 1) (lv' := [(3, .int (zI (k + 1))), (1, .int (zI (zOr (st) (0)))), (2, .int (zI (((mHv X2 Y3 i (X2 i 27).toNat : Nat) : Int)))), (0, .ref (bs + (i)))]) C hl rfl dX11_canBeTip_67 (by decide) rfl (fun ls hl => ?_)
              refine lv_goto (tgt := 22) C.1 C.2.1 dX11_canBeTip_70 (by decide) ?_
              obtain ⟨o89, hF⟩ := hF
              exact ih82 (zOr (st) (0)) (k + 1) (zI_rg _) o89 hF.1 (Nat.lt_of_lt_of_le hF.2 (Nat.le_of_lt_succ hmu82)) _ _ _ hH hS (lv_sub hl [1, 0, 2, 3] rfl)
            · have hF := hF.2 c88
              refine zd_iconst C dX11_canBeTip_58 ?_
              refine lv_iload_n C.1 C.2.1 dX11_canBeTip_59 rfl (lv_at hl 1 rfl) ?_
              refine zd_ishl C dX11_canBeTip_60 ?_
              refine lv_goto (tgt := 65) C.1 C.2.1 dX11_canBeTip_61 (by decide) ?_
              refine zd_ior C dX11_canBeTip_65 ?_
              refine lv_istore_n (lv' := [(1, .int (zI (zOr (st) (zShl (1) (k))))), (3, .int (zI (k))), (2, .int (zI (((mHv X2 Y3 i (X2 i 27).toNat : Nat) : Int)))), (0, .ref (bs + (i)))]) C.1 C.2.1 dX11_canBeTip_66 rfl hl (by decide) rfl (fun ls hl => ?_)
              refine zd_iinc (k := 1) (lv' := [(3, .int (zI (k + 1))), (1, .int (zI (zOr (st) (zShl (1) (k))))), (2, .int (zI (((mHv X2 Y3 i (X2 i 27).toNat : Nat) : Int)))), (0, .ref (bs + (i)))]) C hl rfl dX11_canBeTip_67 (by decide) rfl (fun ls hl => ?_)
              refine lv_goto (tgt := 22) C.1 C.2.1 dX11_canBeTip_70 (by decide) ?_
              obtain ⟨o90, hF⟩ := hF
              exact ih82 (zOr (st) (zShl (1) (k))) (k + 1) (zI_rg _) o90 hF.1 (Nat.lt_of_lt_of_le hF.2 (Nat.le_of_lt_succ hmu82)) _ _ _ hH hS (lv_sub hl [1, 0, 2, 3] rfl)
    exact L82 (((X2 i 27 - ((0 : Int))).toNat) + 1) ((0 : Int)) ((0 : Int)) (by decide) (by decide) hI82 (Nat.lt_succ_self _) _ _ _ hH hS (lv_sub hl [2, 0, 1, 3] rfl)
theorem v_X11_canBeTip {X Y : Nat → Int → Int} {R : Nat → Int → Option Nat} {i : Nat}  (hp : oH X Y i) : F_X11_canBeTip i X Y R  := by
  unfold F_X11_canBeTip
  intro hX hY
  have h := hp
  refine ⟨?_, ?_⟩
  · first | omega | exact ⟨by omega, by omega⟩ | decide | assumption | exact ⟨by omega, by omega, by omega⟩ | exact ⟨by decide, by decide⟩
  intro r4
  intro _
  intro X2
  intro rX2
  intro Y3
  intro rY3
  intro h1
  refine ⟨?_, ?_⟩
  · intro c1
    refine ⟨?_, ?_⟩
    · first | omega | exact ⟨by omega, by omega⟩ | decide | assumption | exact ⟨by omega, by omega, by omega⟩ | exact ⟨by decide, by decide⟩
    intro Y7
    intro rY7
    intro h2
    refine ⟨?_, ?_⟩
    · sorry
    intro st rc k
    intro _
    intro _
    intro _
    intro h3
    refine ⟨?_, ?_⟩
    · intro c2
      sorry
    intro c3
    refine ⟨?_, ?_⟩
    · intro c4
      refine ⟨?_, ?_⟩
      · intro c5
        refine ⟨?_, ?_⟩
        · first | omega | exact ⟨by omega, by omega⟩ | decide | assumption | exact ⟨by omega, by omega, by omega⟩ | exact ⟨by decide, by decide⟩
        refine ⟨?_, ?_⟩
        · sorry
        intro rc e
        intro _
        intro _
        intro h4
        refine ⟨?_, ?_⟩
        · intro c6
          refine ⟨?_, ?_⟩
          · first | omega | exact ⟨by omega, by omega⟩ | decide | assumption | exact ⟨by omega, by omega, by omega⟩ | exact ⟨by decide, by decide⟩
          refine ⟨?_, ?_⟩
          · sorry
          first | omega | exact ⟨by omega, by omega⟩ | decide | assumption | exact ⟨by omega, by omega, by omega⟩ | exact ⟨by decide, by decide⟩
        intro c7
        refine ⟨?_, ?_⟩
        · first | omega | exact ⟨by omega, by omega⟩ | decide | assumption | exact ⟨by omega, by omega, by omega⟩ | exact ⟨by decide, by decide⟩
        refine ⟨?_, ?_⟩
        · sorry
        first | omega | exact ⟨by omega, by omega⟩ | decide | assumption | exact ⟨by omega, by omega, by omega⟩ | exact ⟨by decide, by decide⟩
      intro c8
      refine ⟨?_, ?_⟩
      · first | omega | exact ⟨by omega, by omega⟩ | decide | assumption | exact ⟨by omega, by omega, by omega⟩ | exact ⟨by decide, by decide⟩
      refine ⟨?_, ?_⟩
      · sorry
      intro rc e
      intro _
      intro _
      intro h5
      refine ⟨?_, ?_⟩
      · intro c9
        refine ⟨?_, ?_⟩
        · first | omega | exact ⟨by omega, by omega⟩ | decide | assumption | exact ⟨by omega, by omega, by omega⟩ | exact ⟨by decide, by decide⟩
        refine ⟨?_, ?_⟩
        · sorry
        first | omega | exact ⟨by omega, by omega⟩ | decide | assumption | exact ⟨by omega, by omega, by omega⟩ | exact ⟨by decide, by decide⟩
      intro c10
      refine ⟨?_, ?_⟩
      · first | omega | exact ⟨by omega, by omega⟩ | decide | assumption | exact ⟨by omega, by omega, by omega⟩ | exact ⟨by decide, by decide⟩
      refine ⟨?_, ?_⟩
      · sorry
      first | omega | exact ⟨by omega, by omega⟩ | decide | assumption | exact ⟨by omega, by omega, by omega⟩ | exact ⟨by decide, by decide⟩
    intro c11
    refine ⟨?_, ?_⟩
    · first | omega | exact ⟨by omega, by omega⟩ | decide | assumption | exact ⟨by omega, by omega, by omega⟩ | exact ⟨by decide, by decide⟩
    intro _
    refine ⟨?_, ?_⟩
    · intro c12
      refine ⟨?_, ?_⟩
      · first | omega | exact ⟨by omega, by omega⟩ | decide | assumption | exact ⟨by omega, by omega, by omega⟩ | exact ⟨by decide, by decide⟩
      refine ⟨?_, ?_⟩
      · sorry
      intro rc e
      intro _
      intro _
      intro h6
      refine ⟨?_, ?_⟩
      · intro c13
        refine ⟨?_, ?_⟩
        · first | omega | exact ⟨by omega, by omega⟩ | decide | assumption | exact ⟨by omega, by omega, by omega⟩ | exact ⟨by decide, by decide⟩
        refine ⟨?_, ?_⟩
        · sorry
        first | omega | exact ⟨by omega, by omega⟩ | decide | assumption | exact ⟨by omega, by omega, by omega⟩ | exact ⟨by decide, by decide⟩
      intro c14
      refine ⟨?_, ?_⟩
      · intro c15
        refine ⟨?_, ?_⟩
        · first | omega | exact ⟨by omega, by omega⟩ | decide | assumption | exact ⟨by omega, by omega, by omega⟩ | exact ⟨by decide, by decide⟩
        refine ⟨?_, ?_⟩
        · sorry
        first | omega | exact ⟨by omega, by omega⟩ | decide | assumption | exact ⟨by omega, by omega, by omega⟩ | exact ⟨by decide, by decide⟩
      intro c16
      refine ⟨?_, ?_⟩
      · intro c17
        refine ⟨?_, ?_⟩
        · first | omega | exact ⟨by omega, by omega⟩ | decide | assumption | exact ⟨by omega, by omega, by omega⟩ | exact ⟨by decide, by decide⟩
        refine ⟨?_, ?_⟩
        · sorry
        first | omega | exact ⟨by omega, by omega⟩ | decide | assumption | exact ⟨by omega, by omega, by omega⟩ | exact ⟨by decide, by decide⟩
      intro c18
      refine ⟨?_, ?_⟩
      · first | omega | exact ⟨by omega, by omega⟩ | decide | assumption | exact ⟨by omega, by omega, by omega⟩ | exact ⟨by decide, by decide⟩
      intro _
      refine ⟨?_, ?_⟩
      · intro c19
        refine ⟨?_, ?_⟩
        · first | omega | exact ⟨by omega, by omega⟩ | decide | assumption | exact ⟨by omega, by omega, by omega⟩ | exact ⟨by decide, by decide⟩
        refine ⟨?_, ?_⟩
        · sorry
        first | omega | exact ⟨by omega, by omega⟩ | decide | assumption | exact ⟨by omega, by omega, by omega⟩ | exact ⟨by decide, by decide⟩
      intro c20
      refine ⟨?_, ?_⟩
      · first | omega | exact ⟨by omega, by omega⟩ | decide | assumption | exact ⟨by omega, by omega, by omega⟩ | exact ⟨by decide, by decide⟩
      refine ⟨?_, ?_⟩
      · first | omega | exact ⟨by omega, by omega⟩ | decide | assumption | exact ⟨by omega, by omega, by omega⟩ | exact ⟨by decide, by decide⟩
      refine ⟨?_, ?_⟩
      · intro c21
        refine ⟨?_, ?_⟩
        · first | omega | exact ⟨by omega, by omega⟩ | decide | assumption | exact ⟨by omega, by omega, by omega⟩ | exact ⟨by decide, by decide⟩
        refine ⟨?_, ?_⟩
        · sorry
        first | omega | exact ⟨by omega, by omega⟩ | decide | assumption | exact ⟨by omega, by omega, by omega⟩ | exact ⟨by decide, by decide⟩
      intro c22
      refine ⟨?_, ?_⟩
      · first | omega | exact ⟨by omega, by omega⟩ | decide | assumption | exact ⟨by omega, by omega, by omega⟩ | exact ⟨by decide, by decide⟩
      refine ⟨?_, ?_⟩
      · sorry
      first | omega | exact ⟨by omega, by omega⟩ | decide | assumption | exact ⟨by omega, by omega, by omega⟩ | exact ⟨by decide, by decide⟩
    intro c23
    refine ⟨?_, ?_⟩
    · intro c24
      refine ⟨?_, ?_⟩
      · first | omega | exact ⟨by omega, by omega⟩ | decide | assumption | exact ⟨by omega, by omega, by omega⟩ | exact ⟨by decide, by decide⟩
      refine ⟨?_, ?_⟩
      · sorry
      intro rc e
      intro _
      intro _
      intro h7
      refine ⟨?_, ?_⟩
      · intro c25
        refine ⟨?_, ?_⟩
        · first | omega | exact ⟨by omega, by omega⟩ | decide | assumption | exact ⟨by omega, by omega, by omega⟩ | exact ⟨by decide, by decide⟩
        refine ⟨?_, ?_⟩
        · sorry
        first | omega | exact ⟨by omega, by omega⟩ | decide | assumption | exact ⟨by omega, by omega, by omega⟩ | exact ⟨by decide, by decide⟩
      intro c26
      refine ⟨?_, ?_⟩
      · intro c27
        refine ⟨?_, ?_⟩
        · first | omega | exact ⟨by omega, by omega⟩ | decide | assumption | exact ⟨by omega, by omega, by omega⟩ | exact ⟨by decide, by decide⟩
        refine ⟨?_, ?_⟩
        · sorry
        first | omega | exact ⟨by omega, by omega⟩ | decide | assumption | exact ⟨by omega, by omega, by omega⟩ | exact ⟨by decide, by decide⟩
      intro c28
      refine ⟨?_, ?_⟩
      · intro c29
        refine ⟨?_, ?_⟩
        · first | omega | exact ⟨by omega, by omega⟩ | decide | assumption | exact ⟨by omega, by omega, by omega⟩ | exact ⟨by decide, by decide⟩
        refine ⟨?_, ?_⟩
        · sorry
        first | omega | exact ⟨by omega, by omega⟩ | decide | assumption | exact ⟨by omega, by omega, by omega⟩ | exact ⟨by decide, by decide⟩
      intro c30
      refine ⟨?_, ?_⟩
      · first | omega | exact ⟨by omega, by omega⟩ | decide | assumption | exact ⟨by omega, by omega, by omega⟩ | exact ⟨by decide, by decide⟩
      intro _
      refine ⟨?_, ?_⟩
      · intro c31
        refine ⟨?_, ?_⟩
        · first | omega | exact ⟨by omega, by omega⟩ | decide | assumption | exact ⟨by omega, by omega, by omega⟩ | exact ⟨by decide, by decide⟩
        refine ⟨?_, ?_⟩
        · sorry
        first | omega | exact ⟨by omega, by omega⟩ | decide | assumption | exact ⟨by omega, by omega, by omega⟩ | exact ⟨by decide, by decide⟩
      intro c32
      refine ⟨?_, ?_⟩
      · first | omega | exact ⟨by omega, by omega⟩ | decide | assumption | exact ⟨by omega, by omega, by omega⟩ | exact ⟨by decide, by decide⟩
      refine ⟨?_, ?_⟩
      · first | omega | exact ⟨by omega, by omega⟩ | decide | assumption | exact ⟨by omega, by omega, by omega⟩ | exact ⟨by decide, by decide⟩
      refine ⟨?_, ?_⟩
      · intro c33
        refine ⟨?_, ?_⟩
        · first | omega | exact ⟨by omega, by omega⟩ | decide | assumption | exact ⟨by omega, by omega, by omega⟩ | exact ⟨by decide, by decide⟩
        refine ⟨?_, ?_⟩
        · sorry
        first | omega | exact ⟨by omega, by omega⟩ | decide | assumption | exact ⟨by omega, by omega, by omega⟩ | exact ⟨by decide, by decide⟩
      intro c34
      refine ⟨?_, ?_⟩
      · first | omega | exact ⟨by omega, by omega⟩ | decide | assumption | exact ⟨by omega, by omega, by omega⟩ | exact ⟨by decide, by decide⟩
      refine ⟨?_, ?_⟩
      · sorry
      first | omega | exact ⟨by omega, by omega⟩ | decide | assumption | exact ⟨by omega, by omega, by omega⟩ | exact ⟨by decide, by decide⟩
    intro c35
    refine ⟨?_, ?_⟩
    · first | omega | exact ⟨by omega, by omega⟩ | decide | assumption | exact ⟨by omega, by omega, by omega⟩ | exact ⟨by decide, by decide⟩
    refine ⟨?_, ?_⟩
    · sorry
    intro rc e
    intro _
    intro _
    intro h8
    refine ⟨?_, ?_⟩
    · intro c36
      refine ⟨?_, ?_⟩
      · first | omega | exact ⟨by omega, by omega⟩ | decide | assumption | exact ⟨by omega, by omega, by omega⟩ | exact ⟨by decide, by decide⟩
      refine ⟨?_, ?_⟩
      · sorry
      first | omega | exact ⟨by omega, by omega⟩ | decide | assumption | exact ⟨by omega, by omega, by omega⟩ | exact ⟨by decide, by decide⟩
    intro c37
    refine ⟨?_, ?_⟩
    · intro c38
      refine ⟨?_, ?_⟩
      · first | omega | exact ⟨by omega, by omega⟩ | decide | assumption | exact ⟨by omega, by omega, by omega⟩ | exact ⟨by decide, by decide⟩
      refine ⟨?_, ?_⟩
      · sorry
      first | omega | exact ⟨by omega, by omega⟩ | decide | assumption | exact ⟨by omega, by omega, by omega⟩ | exact ⟨by decide, by decide⟩
    intro c39
    refine ⟨?_, ?_⟩
    · intro c40
      refine ⟨?_, ?_⟩
      · first | omega | exact ⟨by omega, by omega⟩ | decide | assumption | exact ⟨by omega, by omega, by omega⟩ | exact ⟨by decide, by decide⟩
      refine ⟨?_, ?_⟩
      · sorry
      first | omega | exact ⟨by omega, by omega⟩ | decide | assumption | exact ⟨by omega, by omega, by omega⟩ | exact ⟨by decide, by decide⟩
    intro c41
    refine ⟨?_, ?_⟩
    · first | omega | exact ⟨by omega, by omega⟩ | decide | assumption | exact ⟨by omega, by omega, by omega⟩ | exact ⟨by decide, by decide⟩
    intro _
    refine ⟨?_, ?_⟩
    · intro c42
      refine ⟨?_, ?_⟩
      · first | omega | exact ⟨by omega, by omega⟩ | decide | assumption | exact ⟨by omega, by omega, by omega⟩ | exact ⟨by decide, by decide⟩
      refine ⟨?_, ?_⟩
      · sorry
      first | omega | exact ⟨by omega, by omega⟩ | decide | assumption | exact ⟨by omega, by omega, by omega⟩ | exact ⟨by decide, by decide⟩
    intro c43
    refine ⟨?_, ?_⟩
    · first | omega | exact ⟨by omega, by omega⟩ | decide | assumption | exact ⟨by omega, by omega, by omega⟩ | exact ⟨by decide, by decide⟩
    refine ⟨?_, ?_⟩
    · first | omega | exact ⟨by omega, by omega⟩ | decide | assumption | exact ⟨by omega, by omega, by omega⟩ | exact ⟨by decide, by decide⟩
    refine ⟨?_, ?_⟩
    · intro c44
      refine ⟨?_, ?_⟩
      · first | omega | exact ⟨by omega, by omega⟩ | decide | assumption | exact ⟨by omega, by omega, by omega⟩ | exact ⟨by decide, by decide⟩
      refine ⟨?_, ?_⟩
      · sorry
      first | omega | exact ⟨by omega, by omega⟩ | decide | assumption | exact ⟨by omega, by omega, by omega⟩ | exact ⟨by decide, by decide⟩
    intro c45
    refine ⟨?_, ?_⟩
    · first | omega | exact ⟨by omega, by omega⟩ | decide | assumption | exact ⟨by omega, by omega, by omega⟩ | exact ⟨by decide, by decide⟩
    refine ⟨?_, ?_⟩
    · sorry
    first | omega | exact ⟨by omega, by omega⟩ | decide | assumption | exact ⟨by omega, by omega, by omega⟩ | exact ⟨by decide, by decide⟩
  intro c46
  refine ⟨?_, ?_⟩
  · first | omega | exact ⟨by omega, by omega⟩ | decide | assumption | exact ⟨by omega, by omega, by omega⟩ | exact ⟨by decide, by decide⟩
  intro _
  refine ⟨?_, ?_⟩
  · sorry
  intro st k
  intro _
  intro _
  intro h9
  refine ⟨?_, ?_⟩
  · intro c47
    sorry
  intro c48
  refine ⟨?_, ?_⟩
  · intro c49
    refine ⟨?_, ?_⟩
    · first | omega | exact ⟨by omega, by omega⟩ | decide | assumption | exact ⟨by omega, by omega, by omega⟩ | exact ⟨by decide, by decide⟩
    refine ⟨?_, ?_⟩
    · sorry
    first | omega | exact ⟨by omega, by omega⟩ | decide | assumption | exact ⟨by omega, by omega, by omega⟩ | exact ⟨by decide, by decide⟩
  intro c50
  refine ⟨?_, ?_⟩
  · first | omega | exact ⟨by omega, by omega⟩ | decide | assumption | exact ⟨by omega, by omega, by omega⟩ | exact ⟨by decide, by decide⟩
  refine ⟨?_, ?_⟩
  · first | omega | exact ⟨by omega, by omega⟩ | decide | assumption | exact ⟨by omega, by omega, by omega⟩ | exact ⟨by decide, by decide⟩
  refine ⟨?_, ?_⟩
  · intro c51
    refine ⟨?_, ?_⟩
    · first | omega | exact ⟨by omega, by omega⟩ | decide | assumption | exact ⟨by omega, by omega, by omega⟩ | exact ⟨by decide, by decide⟩
    refine ⟨?_, ?_⟩
    · sorry
    first | omega | exact ⟨by omega, by omega⟩ | decide | assumption | exact ⟨by omega, by omega, by omega⟩ | exact ⟨by decide, by decide⟩
  intro c52
  refine ⟨?_, ?_⟩
  · first | omega | exact ⟨by omega, by omega⟩ | decide | assumption | exact ⟨by omega, by omega, by omega⟩ | exact ⟨by decide, by decide⟩
  refine ⟨?_, ?_⟩
  · sorry
  first | omega | exact ⟨by omega, by omega⟩ | decide | assumption | exact ⟨by omega, by omega, by omega⟩ | exact ⟨by decide, by decide⟩
theorem c_X11_canBeTip {l : Launch} {D : va_G} {cy : Nat → ClassId} {bs N : Nat} {sa : Nat → Nat} {kd len : Nat → Nat} {X Y : Nat → Int → Int} {R : Nat → Int → Option Nat} {i : Nat} (hM : zM N kd len R i)  (hp : oH X Y i) : Met l yX11_canBeTip (.code yX11_canBeTip cX11_canBeTip 6 (some .int) :: zTB) (zRm 5 111) (zPc D cy bs sa N kd len X Y R [.ref (bs + (i))]) (zQi D cy bs N kd len (fun r st => st.2.2 = R ∧ (True))) 0 0 (zA bs) := w_X11_canBeTip hM  (v_X11_canBeTip  hp)
