/-! CAN BE TIP -/
theorem mHas_0 {k : Nat} (h : k < 32) : mHas 0 k = false := by rw [mHas_zb _ h, zb_0]
/-- a sound one's parent is sound -/
theorem sdf_P {X : Nat → Int → Int} {i n k : Nat} (hB : oBs X i n) (h1 : 1 ≤ k) (hk : k ≤ n) (h : sdf X i k = true) : sdf X i (rP X i k) = true := by
  have hp := rP_par hB.1 k h1 hk
  unfold sdf at h ⊢
  rw [rS_s hp] at h
  cases e : rS X i (rP X i k) with
  | none =>
    rw [e] at h
    cases h
  | some M => rfl
theorem mWo_0 {X : Nat → Int → Int} {i n : Nat} (hB : oBs X i n) : ∀ k, k ≤ n → mWo X i 0 k = sdf X i k := by
  intro k
  induction k using Nat.strongRecOn with
  | _ k ih =>
    intro hk
    have hn := hB.1.2.1
    by_cases h0 : k = 0
    · subst h0
      rw [sdf_0]
      exact woF_0
    · have hp := rP_par hB.1 k (by omega) hk
      show woF _ _ _ k = _
      rw [woF_s hp]
      have e := ih (rP X i k) hp (by omega)
      have e : woF (rP X i) (sdf X i) (fun k => mHas 0 k) (rP X i k) = sdf X i (rP X i k) := e
      rw [e, mHas_0 (by omega)]
      cases c : sdf X i k with
      | false => rfl
      | true => rw [sdf_P hB (by omega) hk c]; rfl
/-- no child that is in w -/
theorem aHc_m1 {P : Nat → Nat} {sb : Nat → Int} {w : Nat → Bool} {ah : Nat → Nat → Bool} {at_ : Nat} : ∀ n, aHc P sb w ah at_ n = -1 → ∀ e, at_ < e → e < n → w e = true → P e ≠ at_
  | 0, _, e, _, h, _ => absurd h (by omega)
  | n + 1, h, e, h1, h2, h3 => by
    intro h4
    unfold aHc at h
    by_cases q : e = n
    · subst q
      split at h
      · omega
      · rename_i c
        rcases aHc_b (P := P) (sb := sb) (w := w) (ah := ah) (at_ := at_) e with b | b
        · apply c
          rw [h]
          simp [h1, h3, h4]
        · omega
    · split at h
      · rename_i c
        omega
      · exact aHc_m1 n h e h1 (by omega) h3 h4
def rcF (P : Nat → Nat) (w : Nat → Bool) (sb hv : Nat → Int) : Nat → Bool := pr P true (fun k x => w k && (x && decide (sb k = sb (hv (P k)).toNat)))
theorem rcF_s {P : Nat → Nat} {w : Nat → Bool} {sb hv : Nat → Int} {k : Nat} (h : P k < k) : rcF P w sb hv k = (w k && (rcF P w sb hv (P k) && decide (sb k = sb (hv (P k)).toNat))) := pr_s h
theorem rcF_0 {P : Nat → Nat} {w : Nat → Bool} {sb hv : Nat → Int} : rcF P w sb hv 0 = true := pr_0
def fCb (w : Nat → Bool) (G : Nat → Int) (best k : Nat) : Bool := w k && decide (G k = G best)
def tSb (X : Nat → Int → Int) (i : Nat) : Nat → Int := sSb (rP X i) (rW X i) (sdf X i) (X i 27).toNat
def tHv (X : Nat → Int → Int) (i k : Nat) : Int := aHc (rP X i) (tSb X i) (sdf X i) (fun a b => decide (a < b)) k (X i 27).toNat
def tRc (X : Nat → Int → Int) (i : Nat) : Nat → Bool := rcF (rP X i) (sdf X i) (tSb X i) (tHv X i)
def fTp (X : Nat → Int → Int) (i k : Nat) : Bool := tRc X i k && decide (tHv X i k = -1)
def tBs (X : Nat → Int → Int) (i : Nat) : Nat := aHv (rG X i) (sdf X i) (fun a b => decide (a < b)) (X i 27).toNat
def rCb (X : Nat → Int → Int) (i : Nat) : Int := if X i 28 = 0 then bS (fCb (sdf X i) (rG X i) (tBs X i)) (X i 27).toNat else bS (fTp X i) (X i 27).toNat
def cbI (X : Nat → Int → Int) (i q : Nat) (rc : Int) : Prop := ∀ e, e < (X i 27).toNat → mHas rc e = (tRc X i e && (decide (e = 0) || decide (rP X i e < q)))
def cbJ (X : Nat → Int → Int) (i q x : Nat) (rc : Int) : Prop := ∀ e, e < (X i 27).toNat → mHas rc e = (tRc X i e && (decide (e = 0) || (decide (rP X i e < q) || (decide (rP X i e = q) && decide (e < x)))))
abbrev cX11_canBeTip : ByteArray := prog_13_method_80_code
def yX11_canBeTip : MethodName := ⟨RX11, "canBeTip", "()I"⟩
theorem dX11_canBeTip_0 : decode cX11_canBeTip 0 = .ok (.aload_n 0, 1) := by decide +kernel
theorem dX11_canBeTip_1 : decode cX11_canBeTip 1 = .ok (.iconst 0, 1) := by decide +kernel
theorem dX11_canBeTip_2 : decode cX11_canBeTip 2 = .ok (.invokevirtual 420, 3) := by decide +kernel
theorem dX11_canBeTip_5 : decode cX11_canBeTip 5 = .ok (.pop, 1) := by decide +kernel
theorem dX11_canBeTip_6 : decode cX11_canBeTip 6 = .ok (.iconst 0, 1) := by decide +kernel
theorem dX11_canBeTip_7 : decode cX11_canBeTip 7 = .ok (.istore_n 1, 1) := by decide +kernel
theorem dX11_canBeTip_8 : decode cX11_canBeTip 8 = .ok (.aload_n 0, 1) := by decide +kernel
theorem dX11_canBeTip_9 : decode cX11_canBeTip 9 = .ok (.getfield 307, 3) := by decide +kernel
theorem dX11_canBeTip_12 : decode cX11_canBeTip 12 = .ok (.ifCond .ne 63, 3) := by decide +kernel
theorem dX11_canBeTip_15 : decode cX11_canBeTip 15 = .ok (.aload_n 0, 1) := by decide +kernel
theorem dX11_canBeTip_16 : decode cX11_canBeTip 16 = .ok (.invokevirtual 331, 3) := by decide +kernel
theorem dX11_canBeTip_19 : decode cX11_canBeTip 19 = .ok (.istore_n 2, 1) := by decide +kernel
theorem dX11_canBeTip_20 : decode cX11_canBeTip 20 = .ok (.iconst 0, 1) := by decide +kernel
theorem dX11_canBeTip_21 : decode cX11_canBeTip 21 = .ok (.istore_n 3, 1) := by decide +kernel
theorem dX11_canBeTip_22 : decode cX11_canBeTip 22 = .ok (.iload_n 3, 1) := by decide +kernel
theorem dX11_canBeTip_23 : decode cX11_canBeTip 23 = .ok (.aload_n 0, 1) := by decide +kernel
theorem dX11_canBeTip_24 : decode cX11_canBeTip 24 = .ok (.getfield 255, 3) := by decide +kernel
theorem dX11_canBeTip_27 : decode cX11_canBeTip 27 = .ok (.if_icmp .ge 46, 3) := by decide +kernel
theorem dX11_canBeTip_30 : decode cX11_canBeTip 30 = .ok (.iload_n 1, 1) := by decide +kernel
theorem dX11_canBeTip_31 : decode cX11_canBeTip 31 = .ok (.aload_n 0, 1) := by decide +kernel
theorem dX11_canBeTip_32 : decode cX11_canBeTip 32 = .ok (.getfield 292, 3) := by decide +kernel
theorem dX11_canBeTip_35 : decode cX11_canBeTip 35 = .ok (.iload_n 3, 1) := by decide +kernel
theorem dX11_canBeTip_36 : decode cX11_canBeTip 36 = .ok (.invokestatic 92, 3) := by decide +kernel
theorem dX11_canBeTip_39 : decode cX11_canBeTip 39 = .ok (.ifCond .eq 25, 3) := by decide +kernel
theorem dX11_canBeTip_42 : decode cX11_canBeTip 42 = .ok (.aload_n 0, 1) := by decide +kernel
theorem dX11_canBeTip_43 : decode cX11_canBeTip 43 = .ok (.getfield 54, 3) := by decide +kernel
theorem dX11_canBeTip_46 : decode cX11_canBeTip 46 = .ok (.iload_n 3, 1) := by decide +kernel
theorem dX11_canBeTip_47 : decode cX11_canBeTip 47 = .ok (.laload, 1) := by decide +kernel
theorem dX11_canBeTip_48 : decode cX11_canBeTip 48 = .ok (.aload_n 0, 1) := by decide +kernel
theorem dX11_canBeTip_49 : decode cX11_canBeTip 49 = .ok (.getfield 54, 3) := by decide +kernel
theorem dX11_canBeTip_52 : decode cX11_canBeTip 52 = .ok (.iload_n 2, 1) := by decide +kernel
theorem dX11_canBeTip_53 : decode cX11_canBeTip 53 = .ok (.laload, 1) := by decide +kernel
theorem dX11_canBeTip_54 : decode cX11_canBeTip 54 = .ok (.lcmp, 1) := by decide +kernel
theorem dX11_canBeTip_55 : decode cX11_canBeTip 55 = .ok (.ifCond .ne 9, 3) := by decide +kernel
theorem dX11_canBeTip_58 : decode cX11_canBeTip 58 = .ok (.iconst 1, 1) := by decide +kernel
theorem dX11_canBeTip_59 : decode cX11_canBeTip 59 = .ok (.iload_n 3, 1) := by decide +kernel
theorem dX11_canBeTip_60 : decode cX11_canBeTip 60 = .ok (.ishl, 1) := by decide +kernel
theorem dX11_canBeTip_61 : decode cX11_canBeTip 61 = .ok (.goto 4, 3) := by decide +kernel
theorem dX11_canBeTip_64 : decode cX11_canBeTip 64 = .ok (.iconst 0, 1) := by decide +kernel
theorem dX11_canBeTip_65 : decode cX11_canBeTip 65 = .ok (.ior, 1) := by decide +kernel
theorem dX11_canBeTip_66 : decode cX11_canBeTip 66 = .ok (.istore_n 1, 1) := by decide +kernel
theorem dX11_canBeTip_67 : decode cX11_canBeTip 67 = .ok (.iinc 3 1, 3) := by decide +kernel
theorem dX11_canBeTip_70 : decode cX11_canBeTip 70 = .ok (.goto (-48), 3) := by decide +kernel
theorem dX11_canBeTip_73 : decode cX11_canBeTip 73 = .ok (.iload_n 1, 1) := by decide +kernel
theorem dX11_canBeTip_74 : decode cX11_canBeTip 74 = .ok (.ireturn, 1) := by decide +kernel
theorem dX11_canBeTip_75 : decode cX11_canBeTip 75 = .ok (.aload_n 0, 1) := by decide +kernel
theorem dX11_canBeTip_76 : decode cX11_canBeTip 76 = .ok (.aload_n 0, 1) := by decide +kernel
theorem dX11_canBeTip_77 : decode cX11_canBeTip 77 = .ok (.getfield 292, 3) := by decide +kernel
theorem dX11_canBeTip_80 : decode cX11_canBeTip 80 = .ok (.invokevirtual 334, 3) := by decide +kernel
theorem dX11_canBeTip_83 : decode cX11_canBeTip 83 = .ok (.iconst 1, 1) := by decide +kernel
theorem dX11_canBeTip_84 : decode cX11_canBeTip 84 = .ok (.istore_n 2, 1) := by decide +kernel
theorem dX11_canBeTip_85 : decode cX11_canBeTip 85 = .ok (.iconst 0, 1) := by decide +kernel
theorem dX11_canBeTip_86 : decode cX11_canBeTip 86 = .ok (.istore_n 3, 1) := by decide +kernel
theorem dX11_canBeTip_87 : decode cX11_canBeTip 87 = .ok (.iload_n 3, 1) := by decide +kernel
theorem dX11_canBeTip_88 : decode cX11_canBeTip 88 = .ok (.aload_n 0, 1) := by decide +kernel
theorem dX11_canBeTip_89 : decode cX11_canBeTip 89 = .ok (.getfield 255, 3) := by decide +kernel
theorem dX11_canBeTip_92 : decode cX11_canBeTip 92 = .ok (.if_icmp .ge 129, 3) := by decide +kernel
theorem dX11_canBeTip_95 : decode cX11_canBeTip 95 = .ok (.iload_n 2, 1) := by decide +kernel
theorem dX11_canBeTip_96 : decode cX11_canBeTip 96 = .ok (.iload_n 3, 1) := by decide +kernel
theorem dX11_canBeTip_97 : decode cX11_canBeTip 97 = .ok (.invokestatic 92, 3) := by decide +kernel
theorem dX11_canBeTip_100 : decode cX11_canBeTip 100 = .ok (.ifCond .eq 11, 3) := by decide +kernel
theorem dX11_canBeTip_103 : decode cX11_canBeTip 103 = .ok (.aload_n 0, 1) := by decide +kernel
theorem dX11_canBeTip_104 : decode cX11_canBeTip 104 = .ok (.iload_n 3, 1) := by decide +kernel
theorem dX11_canBeTip_105 : decode cX11_canBeTip 105 = .ok (.invokevirtual 337, 3) := by decide +kernel
theorem dX11_canBeTip_108 : decode cX11_canBeTip 108 = .ok (.goto 4, 3) := by decide +kernel
theorem dX11_canBeTip_111 : decode cX11_canBeTip 111 = .ok (.iconst (-1), 1) := by decide +kernel
theorem dX11_canBeTip_112 : decode cX11_canBeTip 112 = .ok (.istore 4, 2) := by decide +kernel
theorem dX11_canBeTip_114 : decode cX11_canBeTip 114 = .ok (.iload_n 1, 1) := by decide +kernel
theorem dX11_canBeTip_115 : decode cX11_canBeTip 115 = .ok (.iload_n 2, 1) := by decide +kernel
theorem dX11_canBeTip_116 : decode cX11_canBeTip 116 = .ok (.iload_n 3, 1) := by decide +kernel
theorem dX11_canBeTip_117 : decode cX11_canBeTip 117 = .ok (.invokestatic 92, 3) := by decide +kernel
theorem dX11_canBeTip_120 : decode cX11_canBeTip 120 = .ok (.ifCond .eq 15, 3) := by decide +kernel
theorem dX11_canBeTip_123 : decode cX11_canBeTip 123 = .ok (.iload 4, 2) := by decide +kernel
theorem dX11_canBeTip_125 : decode cX11_canBeTip 125 = .ok (.iconst (-1), 1) := by decide +kernel
theorem dX11_canBeTip_126 : decode cX11_canBeTip 126 = .ok (.if_icmp .ne 9, 3) := by decide +kernel
theorem dX11_canBeTip_129 : decode cX11_canBeTip 129 = .ok (.iconst 1, 1) := by decide +kernel
theorem dX11_canBeTip_130 : decode cX11_canBeTip 130 = .ok (.iload_n 3, 1) := by decide +kernel
theorem dX11_canBeTip_131 : decode cX11_canBeTip 131 = .ok (.ishl, 1) := by decide +kernel
theorem dX11_canBeTip_132 : decode cX11_canBeTip 132 = .ok (.goto 4, 3) := by decide +kernel
theorem dX11_canBeTip_135 : decode cX11_canBeTip 135 = .ok (.iconst 0, 1) := by decide +kernel
theorem dX11_canBeTip_136 : decode cX11_canBeTip 136 = .ok (.ior, 1) := by decide +kernel
theorem dX11_canBeTip_137 : decode cX11_canBeTip 137 = .ok (.istore_n 1, 1) := by decide +kernel
theorem dX11_canBeTip_138 : decode cX11_canBeTip 138 = .ok (.iload_n 3, 1) := by decide +kernel
theorem dX11_canBeTip_139 : decode cX11_canBeTip 139 = .ok (.iconst 1, 1) := by decide +kernel
theorem dX11_canBeTip_140 : decode cX11_canBeTip 140 = .ok (.iadd, 1) := by decide +kernel
theorem dX11_canBeTip_141 : decode cX11_canBeTip 141 = .ok (.istore 5, 2) := by decide +kernel
theorem dX11_canBeTip_143 : decode cX11_canBeTip 143 = .ok (.iload 5, 2) := by decide +kernel
theorem dX11_canBeTip_145 : decode cX11_canBeTip 145 = .ok (.aload_n 0, 1) := by decide +kernel
theorem dX11_canBeTip_146 : decode cX11_canBeTip 146 = .ok (.getfield 255, 3) := by decide +kernel
theorem dX11_canBeTip_149 : decode cX11_canBeTip 149 = .ok (.if_icmp .ge 66, 3) := by decide +kernel
theorem dX11_canBeTip_152 : decode cX11_canBeTip 152 = .ok (.iload 4, 2) := by decide +kernel
theorem dX11_canBeTip_154 : decode cX11_canBeTip 154 = .ok (.iconst (-1), 1) := by decide +kernel
theorem dX11_canBeTip_155 : decode cX11_canBeTip 155 = .ok (.if_icmp .eq 60, 3) := by decide +kernel
theorem dX11_canBeTip_158 : decode cX11_canBeTip 158 = .ok (.iload_n 2, 1) := by decide +kernel
theorem dX11_canBeTip_159 : decode cX11_canBeTip 159 = .ok (.aload_n 0, 1) := by decide +kernel
theorem dX11_canBeTip_160 : decode cX11_canBeTip 160 = .ok (.getfield 292, 3) := by decide +kernel
theorem dX11_canBeTip_163 : decode cX11_canBeTip 163 = .ok (.iload 5, 2) := by decide +kernel
theorem dX11_canBeTip_165 : decode cX11_canBeTip 165 = .ok (.invokestatic 92, 3) := by decide +kernel
theorem dX11_canBeTip_168 : decode cX11_canBeTip 168 = .ok (.ifCond .eq 38, 3) := by decide +kernel
theorem dX11_canBeTip_171 : decode cX11_canBeTip 171 = .ok (.aload_n 0, 1) := by decide +kernel
theorem dX11_canBeTip_172 : decode cX11_canBeTip 172 = .ok (.iload 5, 2) := by decide +kernel
theorem dX11_canBeTip_174 : decode cX11_canBeTip 174 = .ok (.invokevirtual 264, 3) := by decide +kernel
theorem dX11_canBeTip_177 : decode cX11_canBeTip 177 = .ok (.iload_n 3, 1) := by decide +kernel
theorem dX11_canBeTip_178 : decode cX11_canBeTip 178 = .ok (.if_icmp .ne 28, 3) := by decide +kernel
theorem dX11_canBeTip_181 : decode cX11_canBeTip 181 = .ok (.aload_n 0, 1) := by decide +kernel
theorem dX11_canBeTip_182 : decode cX11_canBeTip 182 = .ok (.getfield 63, 3) := by decide +kernel
theorem dX11_canBeTip_185 : decode cX11_canBeTip 185 = .ok (.iload 5, 2) := by decide +kernel
theorem dX11_canBeTip_187 : decode cX11_canBeTip 187 = .ok (.laload, 1) := by decide +kernel
theorem dX11_canBeTip_188 : decode cX11_canBeTip 188 = .ok (.aload_n 0, 1) := by decide +kernel
theorem dX11_canBeTip_189 : decode cX11_canBeTip 189 = .ok (.getfield 63, 3) := by decide +kernel
theorem dX11_canBeTip_192 : decode cX11_canBeTip 192 = .ok (.iload 4, 2) := by decide +kernel
theorem dX11_canBeTip_194 : decode cX11_canBeTip 194 = .ok (.laload, 1) := by decide +kernel
theorem dX11_canBeTip_195 : decode cX11_canBeTip 195 = .ok (.lcmp, 1) := by decide +kernel
theorem dX11_canBeTip_196 : decode cX11_canBeTip 196 = .ok (.ifCond .ne 10, 3) := by decide +kernel
theorem dX11_canBeTip_199 : decode cX11_canBeTip 199 = .ok (.iconst 1, 1) := by decide +kernel
theorem dX11_canBeTip_200 : decode cX11_canBeTip 200 = .ok (.iload 5, 2) := by decide +kernel
theorem dX11_canBeTip_202 : decode cX11_canBeTip 202 = .ok (.ishl, 1) := by decide +kernel
theorem dX11_canBeTip_203 : decode cX11_canBeTip 203 = .ok (.goto 4, 3) := by decide +kernel
theorem dX11_canBeTip_206 : decode cX11_canBeTip 206 = .ok (.iconst 0, 1) := by decide +kernel
theorem dX11_canBeTip_207 : decode cX11_canBeTip 207 = .ok (.ior, 1) := by decide +kernel
theorem dX11_canBeTip_208 : decode cX11_canBeTip 208 = .ok (.istore_n 2, 1) := by decide +kernel
theorem dX11_canBeTip_209 : decode cX11_canBeTip 209 = .ok (.iinc 5 1, 3) := by decide +kernel
theorem dX11_canBeTip_212 : decode cX11_canBeTip 212 = .ok (.goto (-69), 3) := by decide +kernel
theorem dX11_canBeTip_215 : decode cX11_canBeTip 215 = .ok (.iinc 3 1, 3) := by decide +kernel
theorem dX11_canBeTip_218 : decode cX11_canBeTip 218 = .ok (.goto (-131), 3) := by decide +kernel
theorem dX11_canBeTip_221 : decode cX11_canBeTip 221 = .ok (.iload_n 1, 1) := by decide +kernel
theorem dX11_canBeTip_222 : decode cX11_canBeTip 222 = .ok (.ireturn, 1) := by decide +kernel
def F_X11_canBeTip (i : Nat) (X Y : Nat → Int → Int) (R : Nat → Int → Option Nat)  : Prop := (∀ i j, rI (X i j)) → (∀ i j, rL (Y i j)) → (oH X Y i) ∧ (∀ r4 : Int, rI r4 → ∀ X2 : Nat → Int → Int, (∀ i j, rI (X2 i j)) → ∀ Y3 : Nat → Int → Int, (∀ i j, rL (Y3 i j)) → (r4 = ((rTip X i (mWo X i ((0 : Int))) : Nat) : Int) ∧ tW X (X2) i ∧ wK (X2) i (mWo X i ((0 : Int))) (X i 27).toNat ∧ ∀ a, a ≠ i + 18 → (Y3) a = Y a) → (((¬ (X2 (i) 28) = 0) → ((oW X2 Y3 i) ∧ (∀ Y7 : Nat → Int → Int, (∀ i j, rL (Y7 i j)) → (lT X2 Y3 (Y7) i (X2 (i) 35) 0) → ((∃ q : Nat, (0 : Int) = q ∧ (0 : Int) ≤ X i 27 ∧ (0 : Int) = bS (fTp X i) q ∧ cbI X i q ((1 : Int))) ∧ (∀ (st : Int) (rc : Int) (k : Int), rI st → rI rc → rI k → (∃ q : Nat, k = q ∧ k ≤ X i 27 ∧ st = bS (fTp X i) q ∧ cbI X i q (rc)) → ((((X2 (i) 27) ≤ k) → (st = rCb X i ∧ tW X (X2) i ∧ ∀ a, a ≠ i + 18 → (Y7) a = Y a)) ∧ ((¬ ((X2 (i) 27) ≤ k)) → ((∀ (hv : Int), rI hv → (∀ q : Nat, k = q → hv = if tRc X i q then tHv X i q else -1) → ((∀ (st2 : Int), rI st2 → (∀ q : Nat, k = q → st2 = bS (fTp X i) (q + 1)) → ((rI (k + 1)) ∧ (∃ q x : Nat, k = q ∧ k + 1 = x ∧ q < x ∧ k + 1 ≤ X i 27 ∧ cbJ X i q x (rc)) ∧ (∀ (rc : Int) (ee : Int), rI rc → rI ee → (∃ q x : Nat, k = q ∧ ee = x ∧ q < x ∧ ee ≤ X i 27 ∧ cbJ X i q x (rc)) → ((((X2 (i) 27) ≤ ee) → ((rI (k + 1)) ∧ (∃ q : Nat, k + 1 = q ∧ k + 1 ≤ X i 27 ∧ st2 = bS (fTp X i) q ∧ cbI X i q (rc)) ∧ (((X i 27 - (k + 1)).toNat) < ((X i 27 - (k)).toNat)))) ∧ ((¬ ((X2 (i) 27) ≤ ee)) → (((hv = (-1)) → ((rI (k + 1)) ∧ (∃ q : Nat, k + 1 = q ∧ k + 1 ≤ X i 27 ∧ st2 = bS (fTp X i) q ∧ cbI X i q (rc)) ∧ (((X i 27 - (k + 1)).toNat) < ((X i 27 - (k)).toNat)))) ∧ ((¬ (hv = (-1))) → ((∀ (rc2 : Int), rI rc2 → (∀ q x : Nat, k = q → ee = x → cbJ X i q (x + 1) (rc2)) → ((rI (ee + 1)) ∧ (∃ q x : Nat, k = q ∧ ee + 1 = x ∧ q < x ∧ ee + 1 ≤ X i 27 ∧ cbJ X i q x (rc2)) ∧ (((X i 27 - (ee + 1)).toNat) < ((X i 27 - (ee)).toNat)))) ∧ ((((mHas (X2 (i) 35) (ee)) = false) → (∀ q x : Nat, k = q → ee = x → cbJ X i q (x + 1) (zOr (rc) (0)))) ∧ (((mHas (X2 (i) 35) (ee)) = true) → ((oC X2 i ∧ 0 ≤ ee ∧ ee ≤ 14) ∧ (rI (mPar X2 i (ee)) → (((¬ (mPar X2 i (ee)) = k) → (∀ q x : Nat, k = q → ee = x → cbJ X i q (x + 1) (zOr (rc) (0)))) ∧ ((¬ (¬ (mPar X2 i (ee)) = k)) → ((0 ≤ ee ∧ ee < 15) ∧ ((0 ≤ hv ∧ hv < 15) ∧ (((¬ (Y7 (i + 18) (ee)) = (Y7 (i + 18) (hv))) → (∀ q x : Nat, k = q → ee = x → cbJ X i q (x + 1) (zOr (rc) (0)))) ∧ ((¬ (¬ (Y7 (i + 18) (ee)) = (Y7 (i + 18) (hv)))) → (∀ q x : Nat, k = q → ee = x → cbJ X i q (x + 1) (zOr (rc) (zShl (1) (ee)))))))))))))))))))))) ∧ ((((mHas (rc) (k)) = false) → (∀ q : Nat, k = q → zOr (st) (0) = bS (fTp X i) (q + 1))) ∧ (((mHas (rc) (k)) = true) → (((¬ hv = (-1)) → (∀ q : Nat, k = q → zOr (st) (0) = bS (fTp X i) (q + 1))) ∧ ((¬ (¬ hv = (-1))) → (∀ q : Nat, k = q → zOr (st) (zShl (1) (k)) = bS (fTp X i) (q + 1)))))))) ∧ ((((mHas (rc) (k)) = false) → (∀ q : Nat, k = q → (-1 : Int) = if tRc X i q then tHv X i q else -1)) ∧ (((mHas (rc) (k)) = true) → (((1 ≤ X2 i 27 ∧ X2 i 27 ≤ 15) ∧ oB X2 i (X2 i 27 - 1) ∧ 0 ≤ k ∧ k < X2 i 27) ∧ (rI (mHc X2 Y7 i (k).toNat (X2 i 27).toNat) → (∀ q : Nat, k = q → mHc X2 Y7 i (k).toNat (X2 i 27).toNat = if tRc X i q then tHv X i q else -1))))))))))))) ∧ ((¬ (¬ (X2 (i) 28) = 0)) → ((1 ≤ X2 i 27 ∧ X2 i 27 ≤ 15) ∧ (rI (((mHv X2 Y3 i (X2 i 27).toNat : Nat) : Int)) → ((∃ q : Nat, (0 : Int) = q ∧ (0 : Int) ≤ X i 27 ∧ (0 : Int) = bS (fCb (sdf X i) (rG X i) (tBs X i)) q) ∧ (∀ (st : Int) (k : Int), rI st → rI k → (∃ q : Nat, k = q ∧ k ≤ X i 27 ∧ st = bS (fCb (sdf X i) (rG X i) (tBs X i)) q) → ((((X2 (i) 27) ≤ k) → (st = rCb X i ∧ tW X (X2) i ∧ ∀ a, a ≠ i + 18 → (Y3) a = Y a)) ∧ ((¬ ((X2 (i) 27) ≤ k)) → ((∀ (st2 : Int), rI st2 → (∀ q : Nat, k = q → st2 = bS (fCb (sdf X i) (rG X i) (tBs X i)) (q + 1)) → ((rI (k + 1)) ∧ (∃ q : Nat, k + 1 = q ∧ k + 1 ≤ X i 27 ∧ st2 = bS (fCb (sdf X i) (rG X i) (tBs X i)) q) ∧ (((X i 27 - (k + 1)).toNat) < ((X i 27 - (k)).toNat)))) ∧ ((((mHas (X2 (i) 35) (k)) = false) → (∀ q : Nat, k = q → zOr (st) (0) = bS (fCb (sdf X i) (rG X i) (tBs X i)) (q + 1))) ∧ (((mHas (X2 (i) 35) (k)) = true) → ((0 ≤ k ∧ k < 15) ∧ ((0 ≤ ((mHv X2 Y3 i (X2 i 27).toNat : Nat) : Int) ∧ ((mHv X2 Y3 i (X2 i 27).toNat : Nat) : Int) < 15) ∧ (((¬ (Y3 (i + 15) (k)) = (Y3 (i + 15) (((mHv X2 Y3 i (X2 i 27).toNat : Nat) : Int)))) → (∀ q : Nat, k = q → zOr (st) (0) = bS (fCb (sdf X i) (rG X i) (tBs X i)) (q + 1))) ∧ ((¬ (¬ (Y3 (i + 15) (k)) = (Y3 (i + 15) (((mHv X2 Y3 i (X2 i 27).toNat : Nat) : Int))))) → (∀ q : Nat, k = q → zOr (st) (zShl (1) (k)) = bS (fCb (sdf X i) (rG X i) (tBs X i)) (q + 1))))))))))))))))))
set_option maxHeartbeats 4000000 in
set_option maxRecDepth 100000 in
theorem w_X11_canBeTip {l : Launch} {D : va_G} {cy : Nat → ClassId} {bs N : Nat} {sa : Nat → Nat} {kd len : Nat → Nat} {X Y : Nat → Int → Int} {R : Nat → Int → Option Nat} {i : Nat} (hM : zM N kd len R i)  (hF : F_X11_canBeTip i X Y R ) : Met l yX11_canBeTip (.code yX11_canBeTip cX11_canBeTip 6 (some .int) :: zTB) (zRm 5 111) (zPc D cy bs sa N kd len X Y R [.ref (bs + (i))]) (zQi D cy bs N kd len (fun r st => st.2.2 = R ∧ (r = rCb X i ∧ tW X (st.1) i ∧ ∀ a, a ≠ i + 18 → (st.2.1) a = Y a))) 0 0 (zA bs) := by
  refine zstart (by decide) (Nat.le_of_ble_eq_true rfl) ?_
  intro p e s m args below meth c ls C hE hH hr hlk hnm hl hargs
  have hF := hF hH.2.2.1 hH.2.2.2
  have hS : va_S (zA bs) s.heap s.heap [] := va_S.rf
  have hl : lv_has ls 6 [(0, .ref (bs + (i)))] := hl
  refine lv_aload_n C.1 C.2.1 dX11_canBeTip_0 rfl (lv_at hl 0 rfl) ?_
  refine zd_iconst C dX11_canBeTip_1 ?_
  obtain ⟨o1, hF⟩ := hF
  refine zgoi (zrunV (As := [.int (zI (0))]) (rest := []) C hE hH hS hl.1 (c_X11_tipWithout (l := l) hM (0) (by decide) o1) k_RX11_420 ⟨Nat.le_of_ble_eq_true rfl, Nat.le_of_ble_eq_true rfl⟩ (zM_n0 hM) (zM_k0 hM) rfl rfl rfl (Nat.le_of_ble_eq_true rfl) dX11_canBeTip_2 ⟨Nat.zero_le _, Nat.zero_le _⟩) hS (fun r4 X2 Y3 Rq H locs hrq hq hH hS => ?_)
  obtain ⟨h9R, hq⟩ := hq
  dsimp only at h9R
  rw [h9R] at hH
  have hr4 := hrq
  have hF := hF r4 hrq X2 hH.2.2.1 Y3 hH.2.2.2 hq
  refine lv_pop C.1 C.2.1 dX11_canBeTip_5 rfl ?_
  refine zd_iconst C dX11_canBeTip_6 ?_
  refine lv_istore_n (lv' := [(1, .int (zI (0))), (0, .ref (bs + (i)))]) C.1 C.2.1 dX11_canBeTip_7 rfl hl (by decide) rfl (fun ls hl => ?_)
  refine lv_aload_n C.1 C.2.1 dX11_canBeTip_8 rfl (lv_at hl 1 rfl) ?_
  refine zg11_28 C hH (zM_n0 hM) (zM_k0 hM) q_1315 dX11_canBeTip_9 ?_
  refine zd_if_ne C (hH.2.2.1 _ _) 75 dX11_canBeTip_12 (by decide) (fun c5 => ?_) (fun c5 => ?_)
  · have hF := hF.1 c5
    refine lv_aload_n C.1 C.2.1 dX11_canBeTip_75 rfl (lv_at hl 1 rfl) ?_
    refine lv_aload_n C.1 C.2.1 dX11_canBeTip_76 rfl (lv_at hl 1 rfl) ?_
    refine zg11_35 C hH (zM_n0 hM) (zM_k0 hM) q_1322 dX11_canBeTip_77 ?_
    obtain ⟨o6, hF⟩ := hF
    refine zgov (zrunV (As := [.int (zI (X2 (i) 35))]) (rest := []) C hE hH hS hl.1 (c_X11_laySubtrees (l := l) hM (X2 (i) 35) (hH.2.2.1 _ _) o6) k_RX11_334 ⟨Nat.le_of_ble_eq_true rfl, Nat.le_of_ble_eq_true rfl⟩ (zM_n0 hM) (zM_k0 hM) rfl rfl rfl (Nat.le_of_ble_eq_true rfl) dX11_canBeTip_80 ⟨Nat.zero_le _, Nat.zero_le _⟩) hS (fun Xq Y7 Rq H locs hq hH hS => ?_)
    obtain ⟨h9X, h9R, hq⟩ := hq
    dsimp only at h9X h9R
    rw [h9X, h9R] at hH
    have hF := hF Y7 hH.2.2.2 hq
    refine zd_iconst C dX11_canBeTip_83 ?_
    refine lv_istore_n (lv' := [(2, .int (zI (1))), (1, .int (zI (0))), (0, .ref (bs + (i)))]) C.1 C.2.1 dX11_canBeTip_84 rfl hl (by decide) rfl (fun ls hl => ?_)
    refine zd_iconst C dX11_canBeTip_85 ?_
    refine lv_istore_n (lv' := [(3, .int (zI (0))), (2, .int (zI (1))), (1, .int (zI (0))), (0, .ref (bs + (i)))]) C.1 C.2.1 dX11_canBeTip_86 rfl hl (by decide) rfl (fun ls hl => ?_)
    obtain ⟨hI8, hF⟩ := hF
    have L8 : ∀ (fu : Nat) (st : Int) (rc : Int) (k : Int), rI st → rI rc → rI k → (∃ q : Nat, k = q ∧ k ≤ X i 27 ∧ st = bS (fTp X i) q ∧ cbI X i q (rc)) → ((X i 27 - (k)).toNat) < fu → ∀ (H : Heap) (locs : List Loc) (ls : Array Slot), zH D cy bs N kd len X2 Y7 R H → va_S (zA bs) s.heap H locs → lv_has ls 6 [(1, .int (zI (st))), (2, .int (zI (rc))), (3, .int (zI (k))), (0, .ref (bs + (i)))] → W p l e (zRm 5 111) s m args below meth c H locs 0 0 (MQ below (zQi D cy bs N kd len (fun r st => st.2.2 = R ∧ (r = rCb X i ∧ tW X (st.1) i ∧ ∀ a, a ≠ i + 18 → (st.2.1) a = Y a))) args s 0 0 (zA bs)) (F0 m 87 ls []) := by
      intro fu
      induction fu with
      | zero => intro st rc k _ _ _ _ hmu; exact absurd hmu (Nat.not_lt_zero _)
      | succ fu ih8 =>
        intro st rc k hst hrc hk hI hmu8 H locs ls hH hS hl
        have hF := hF st rc k hst hrc hk  hI
        refine lv_iload_n C.1 C.2.1 dX11_canBeTip_87 rfl (lv_at hl 2 rfl) ?_
        refine lv_aload_n C.1 C.2.1 dX11_canBeTip_88 rfl (lv_at hl 3 rfl) ?_
        refine zg11_27 C hH (zM_n0 hM) (zM_k0 hM) q_1314 dX11_canBeTip_89 ?_
        refine zd_icmp_ge C hk (hH.2.2.1 _ _) 221 dX11_canBeTip_92 (by decide) (fun c9 => ?_) (fun c9 => ?_)
        · have hF := hF.1 c9
          refine lv_iload_n C.1 C.2.1 dX11_canBeTip_221 rfl (lv_at hl 0 rfl) ?_
          exact zd_iret C hr hlk hH hS hst (⟨rfl, hF⟩) dX11_canBeTip_222
        · have hF := hF.2 c9
          have J1 : ∀ (hv : Int), rI hv → (∀ q : Nat, k = q → hv = if tRc X i q then tHv X i q else -1) → ∀ (H : Heap) (locs : List Loc) (ls : Array Slot), zH D cy bs N kd len X2 Y7 R H → va_S (zA bs) s.heap H locs → lv_has ls 6 [(4, .int (zI (hv))), (1, .int (zI (st))), (2, .int (zI (rc))), (3, .int (zI (k))), (0, .ref (bs + (i)))] → W p l e (zRm 5 111) s m args below meth c H locs 0 0 (MQ below (zQi D cy bs N kd len (fun r st => st.2.2 = R ∧ (r = rCb X i ∧ tW X (st.1) i ∧ ∀ a, a ≠ i + 18 → (st.2.1) a = Y a))) args s 0 0 (zA bs)) (F0 m 114 ls []) := by
            intro hv hhv hI H locs ls hH hS hl
            have hF := hF.1 hv hhv  hI
            have J2 : ∀ (st2 : Int), rI st2 → (∀ q : Nat, k = q → st2 = bS (fTp X i) (q + 1)) → ∀ (H : Heap) (locs : List Loc) (ls : Array Slot), zH D cy bs N kd len X2 Y7 R H → va_S (zA bs) s.heap H locs → lv_has ls 6 [(1, .int (zI (st2))), (4, .int (zI (hv))), (2, .int (zI (rc))), (3, .int (zI (k))), (0, .ref (bs + (i)))] → W p l e (zRm 5 111) s m args below meth c H locs 0 0 (MQ below (zQi D cy bs N kd len (fun r st => st.2.2 = R ∧ (r = rCb X i ∧ tW X (st.1) i ∧ ∀ a, a ≠ i + 18 → (st.2.1) a = Y a))) args s 0 0 (zA bs)) (F0 m 138 ls []) := by
              intro st2 hst2 hI H locs ls hH hS hl
              have hF := hF.1 st2 hst2  hI
              refine lv_iload_n C.1 C.2.1 dX11_canBeTip_138 rfl (lv_at hl 3 rfl) ?_
              refine zd_iconst C dX11_canBeTip_139 ?_
              refine zd_iadd C dX11_canBeTip_140 ?_
              refine lv_istore (lv' := [(5, .int (zI (k + 1))), (1, .int (zI (st2))), (4, .int (zI (hv))), (2, .int (zI (rc))), (3, .int (zI (k))), (0, .ref (bs + (i)))]) C.1 C.2.1 dX11_canBeTip_141 hl (by decide) rfl (fun ls hl => ?_)
              obtain ⟨o23, hF⟩ := hF
              obtain ⟨hI10, hF⟩ := hF
              have L10 : ∀ (fu : Nat) (rc : Int) (ee : Int), rI rc → rI ee → (∃ q x : Nat, k = q ∧ ee = x ∧ q < x ∧ ee ≤ X i 27 ∧ cbJ X i q x (rc)) → ((X i 27 - (ee)).toNat) < fu → ∀ (H : Heap) (locs : List Loc) (ls : Array Slot), zH D cy bs N kd len X2 Y7 R H → va_S (zA bs) s.heap H locs → lv_has ls 6 [(2, .int (zI (rc))), (5, .int (zI (ee))), (1, .int (zI (st2))), (4, .int (zI (hv))), (3, .int (zI (k))), (0, .ref (bs + (i)))] → W p l e (zRm 5 111) s m args below meth c H locs 0 0 (MQ below (zQi D cy bs N kd len (fun r st => st.2.2 = R ∧ (r = rCb X i ∧ tW X (st.1) i ∧ ∀ a, a ≠ i + 18 → (st.2.1) a = Y a))) args s 0 0 (zA bs)) (F0 m 143 ls []) := by
                intro fu
                induction fu with
                | zero => intro rc ee _ _ _ hmu; exact absurd hmu (Nat.not_lt_zero _)
                | succ fu ih10 =>
                  intro rc ee hrc hee hI hmu10 H locs ls hH hS hl
                  have hF := hF rc ee hrc hee  hI
                  refine lv_iload C.1 C.2.1 dX11_canBeTip_143 (lv_at hl 1 rfl) ?_
                  refine lv_aload_n C.1 C.2.1 dX11_canBeTip_145 rfl (lv_at hl 5 rfl) ?_
                  refine zg11_27 C hH (zM_n0 hM) (zM_k0 hM) q_1314 dX11_canBeTip_146 ?_
                  refine zd_icmp_ge C hee (hH.2.2.1 _ _) 215 dX11_canBeTip_149 (by decide) (fun c11 => ?_) (fun c11 => ?_)
                  · have hF := hF.1 c11
                    refine zd_iinc (k := 4) (lv' := [(3, .int (zI (k + 1))), (2, .int (zI (rc))), (5, .int (zI (ee))), (1, .int (zI (st2))), (4, .int (zI (hv))), (0, .ref (bs + (i)))]) C hl rfl dX11_canBeTip_215 (by decide) rfl (fun ls hl => ?_)
                    refine lv_goto (tgt := 87) C.1 C.2.1 dX11_canBeTip_218 (by decide) ?_
                    obtain ⟨o12, hF⟩ := hF
                    exact ih8 (st2) (rc) (k + 1) hst2 hrc o12 hF.1 (Nat.lt_of_lt_of_le hF.2 (Nat.le_of_lt_succ hmu8)) _ _ _ hH hS (lv_sub hl [3, 1, 0, 5] rfl)
                  · have hF := hF.2 c11
                    refine lv_iload C.1 C.2.1 dX11_canBeTip_152 (lv_at hl 3 rfl) ?_
                    refine zd_iconst C dX11_canBeTip_154 ?_
                    refine zd_icmp_eq C hhv (by decide) 215 dX11_canBeTip_155 (by decide) (fun c13 => ?_) (fun c13 => ?_)
                    · have hF := hF.1 c13
                      refine zd_iinc (k := 4) (lv' := [(3, .int (zI (k + 1))), (2, .int (zI (rc))), (5, .int (zI (ee))), (1, .int (zI (st2))), (4, .int (zI (hv))), (0, .ref (bs + (i)))]) C hl rfl dX11_canBeTip_215 (by decide) rfl (fun ls hl => ?_)
                      refine lv_goto (tgt := 87) C.1 C.2.1 dX11_canBeTip_218 (by decide) ?_
                      obtain ⟨o14, hF⟩ := hF
                      exact ih8 (st2) (rc) (k + 1) hst2 hrc o14 hF.1 (Nat.lt_of_lt_of_le hF.2 (Nat.le_of_lt_succ hmu8)) _ _ _ hH hS (lv_sub hl [3, 1, 0, 5] rfl)
                    · have hF := hF.2 c13
                      have J3 : ∀ (rc2 : Int), rI rc2 → (∀ q x : Nat, k = q → ee = x → cbJ X i q (x + 1) (rc2)) → ∀ (H : Heap) (locs : List Loc) (ls : Array Slot), zH D cy bs N kd len X2 Y7 R H → va_S (zA bs) s.heap H locs → lv_has ls 6 [(2, .int (zI (rc2))), (5, .int (zI (ee))), (1, .int (zI (st2))), (4, .int (zI (hv))), (3, .int (zI (k))), (0, .ref (bs + (i)))] → W p l e (zRm 5 111) s m args below meth c H locs 0 0 (MQ below (zQi D cy bs N kd len (fun r st => st.2.2 = R ∧ (r = rCb X i ∧ tW X (st.1) i ∧ ∀ a, a ≠ i + 18 → (st.2.1) a = Y a))) args s 0 0 (zA bs)) (F0 m 209 ls []) := by
                        intro rc2 hrc2 hI H locs ls hH hS hl
                        have hF := hF.1 rc2 hrc2  hI
                        refine zd_iinc (k := 1) (lv' := [(5, .int (zI (ee + 1))), (2, .int (zI (rc2))), (1, .int (zI (st2))), (4, .int (zI (hv))), (3, .int (zI (k))), (0, .ref (bs + (i)))]) C hl rfl dX11_canBeTip_209 (by decide) rfl (fun ls hl => ?_)
                        refine lv_goto (tgt := 143) C.1 C.2.1 dX11_canBeTip_212 (by decide) ?_
                        obtain ⟨o15, hF⟩ := hF
                        exact ih10 (rc2) (ee + 1) hrc2 o15 hF.1 (Nat.lt_of_lt_of_le hF.2 (Nat.le_of_lt_succ hmu10)) _ _ _ hH hS (lv_sub hl [1, 0, 2, 3, 4, 5] rfl)
                      have hF := hF.2
                      refine lv_iload_n C.1 C.2.1 dX11_canBeTip_158 rfl (lv_at hl 0 rfl) ?_
                      refine lv_aload_n C.1 C.2.1 dX11_canBeTip_159 rfl (lv_at hl 5 rfl) ?_
                      refine zg11_35 C hH (zM_n0 hM) (zM_k0 hM) q_1322 dX11_canBeTip_160 ?_
                      refine lv_iload C.1 C.2.1 dX11_canBeTip_163 (lv_at hl 1 rfl) ?_
                      refine zgoi (zrunS (As := [.int (zI (X2 (i) 35)), .int (zI (ee))]) (rest := [.int (zI (rc))]) C hE hH hS hl.1 (c_X11_has (l := l)  (X2 (i) 35) (hH.2.2.1 _ _) (ee) hee) k_RX11_92 ⟨Nat.le_of_ble_eq_true rfl, Nat.le_of_ble_eq_true rfl⟩ rfl (Nat.le_of_ble_eq_true rfl) dX11_canBeTip_165 ⟨Nat.zero_le _, Nat.zero_le _⟩) hS (fun rq Xq Yq Rq H locs hrq hq hH hS => ?_)
                      obtain ⟨h91, h92⟩ := hq
                      have h93 : Xq = X2 := congrArg (fun z => z.1) h92
                      have h94 : Yq = Y7 := congrArg (fun z => z.2.1) h92
                      have h95 : Rq = R := congrArg (fun z => z.2.2) h92
                      rw [h93, h94, h95] at hH
                      subst h91
                      refine zd_ifB_eq C 206 dX11_canBeTip_168 (by decide) (fun c16 => ?_) (fun c16 => ?_)
                      · have hF := hF.1 c16
                        refine zd_iconst C dX11_canBeTip_206 ?_
                        refine zd_ior C dX11_canBeTip_207 ?_
                        refine lv_istore_n (lv' := [(2, .int (zI (zOr (rc) (0)))), (5, .int (zI (ee))), (1, .int (zI (st2))), (4, .int (zI (hv))), (3, .int (zI (k))), (0, .ref (bs + (i)))]) C.1 C.2.1 dX11_canBeTip_208 rfl hl (by decide) rfl (fun ls hl => ?_)
                        exact J3 (zOr (rc) (0)) (zI_rg _) hF _ _ _ hH hS (lv_sub hl [0, 1, 2, 3, 4, 5] rfl)
                      · have hF := hF.2 c16
                        refine lv_aload_n C.1 C.2.1 dX11_canBeTip_171 rfl (lv_at hl 5 rfl) ?_
                        refine lv_iload C.1 C.2.1 dX11_canBeTip_172 (lv_at hl 1 rfl) ?_
                        obtain ⟨o17, hF⟩ := hF
                        refine zgoi (zrunV (As := [.int (zI (ee))]) (rest := [.int (zI (rc))]) C hE hH hS hl.1 (c_X11_parentOf (l := l) hM (ee) hee o17) k_RX11_264 ⟨Nat.le_of_ble_eq_true rfl, Nat.le_of_ble_eq_true rfl⟩ (zM_n0 hM) (zM_k0 hM) rfl rfl rfl (Nat.le_of_ble_eq_true rfl) dX11_canBeTip_174 ⟨Nat.zero_le _, Nat.zero_le _⟩) hS (fun rq Xq Yq Rq H locs hrq hq hH hS => ?_)
                        obtain ⟨h91, h92⟩ := hq
                        have h93 : Xq = X2 := congrArg (fun z => z.1) h92
                        have h94 : Yq = Y7 := congrArg (fun z => z.2.1) h92
                        have h95 : Rq = R := congrArg (fun z => z.2.2) h92
                        rw [h93, h94, h95] at hH
                        subst h91
                        have hr18 := hrq
                        have hF := hF hr18
                        refine lv_iload_n C.1 C.2.1 dX11_canBeTip_177 rfl (lv_at hl 4 rfl) ?_
                        refine zd_icmp_ne C hr18 hk 206 dX11_canBeTip_178 (by decide) (fun c19 => ?_) (fun c19 => ?_)
                        · have hF := hF.1 c19
                          refine zd_iconst C dX11_canBeTip_206 ?_
                          refine zd_ior C dX11_canBeTip_207 ?_
                          refine lv_istore_n (lv' := [(2, .int (zI (zOr (rc) (0)))), (5, .int (zI (ee))), (1, .int (zI (st2))), (4, .int (zI (hv))), (3, .int (zI (k))), (0, .ref (bs + (i)))]) C.1 C.2.1 dX11_canBeTip_208 rfl hl (by decide) rfl (fun ls hl => ?_)
                          exact J3 (zOr (rc) (0)) (zI_rg _) hF _ _ _ hH hS (lv_sub hl [0, 1, 2, 3, 4, 5] rfl)
                        · have hF := hF.2 c19
                          refine lv_aload_n C.1 C.2.1 dX11_canBeTip_181 rfl (lv_at hl 5 rfl) ?_
                          refine zg11_39 C hH (zM_n0 hM) (zM_k0 hM) q_1326 (zM_r18 hM) dX11_canBeTip_182 ?_
                          refine lv_iload C.1 C.2.1 dX11_canBeTip_185 (lv_at hl 1 rfl) ?_
                          obtain ⟨o20, hF⟩ := hF
                          refine zd_lald C hH (zM_n18 hM) (zM_k18 hM) o20.1 (by rw [zM_l18 hM]; exact o20.2) (by rw [zM_l18 hM]; decide) dX11_canBeTip_187 ?_
                          refine lv_aload_n C.1 C.2.1 dX11_canBeTip_188 rfl (lv_at hl 5 rfl) ?_
                          refine zg11_39 C hH (zM_n0 hM) (zM_k0 hM) q_1326 (zM_r18 hM) dX11_canBeTip_189 ?_
                          refine lv_iload C.1 C.2.1 dX11_canBeTip_192 (lv_at hl 3 rfl) ?_
                          obtain ⟨o21, hF⟩ := hF
                          refine zd_lald C hH (zM_n18 hM) (zM_k18 hM) o21.1 (by rw [zM_l18 hM]; exact o21.2) (by rw [zM_l18 hM]; decide) dX11_canBeTip_194 ?_
                          refine zd_lcmp C (hH.2.2.2 _ _) (hH.2.2.2 _ _) dX11_canBeTip_195 ?_
                          refine zd_ifL_ne C 206 dX11_canBeTip_196 (by decide) (fun c22 => ?_) (fun c22 => ?_)
                          · have hF := hF.1 c22
                            refine zd_iconst C dX11_canBeTip_206 ?_
                            refine zd_ior C dX11_canBeTip_207 ?_
                            refine lv_istore_n (lv' := [(2, .int (zI (zOr (rc) (0)))), (5, .int (zI (ee))), (1, .int (zI (st2))), (4, .int (zI (hv))), (3, .int (zI (k))), (0, .ref (bs + (i)))]) C.1 C.2.1 dX11_canBeTip_208 rfl hl (by decide) rfl (fun ls hl => ?_)
                            exact J3 (zOr (rc) (0)) (zI_rg _) hF _ _ _ hH hS (lv_sub hl [0, 1, 2, 3, 4, 5] rfl)
                          · have hF := hF.2 c22
                            refine zd_iconst C dX11_canBeTip_199 ?_
                            refine lv_iload C.1 C.2.1 dX11_canBeTip_200 (lv_at hl 1 rfl) ?_
                            refine zd_ishl C dX11_canBeTip_202 ?_
                            refine lv_goto (tgt := 207) C.1 C.2.1 dX11_canBeTip_203 (by decide) ?_
                            refine zd_ior C dX11_canBeTip_207 ?_
                            refine lv_istore_n (lv' := [(2, .int (zI (zOr (rc) (zShl (1) (ee))))), (5, .int (zI (ee))), (1, .int (zI (st2))), (4, .int (zI (hv))), (3, .int (zI (k))), (0, .ref (bs + (i)))]) C.1 C.2.1 dX11_canBeTip_208 rfl hl (by decide) rfl (fun ls hl => ?_)
                            exact J3 (zOr (rc) (zShl (1) (ee))) (zI_rg _) hF _ _ _ hH hS (lv_sub hl [0, 1, 2, 3, 4, 5] rfl)
              exact L10 (((X i 27 - (k + 1)).toNat) + 1) (rc) (k + 1) hrc o23 hI10 (Nat.lt_succ_self _) _ _ _ hH hS (lv_sub hl [3, 0, 1, 2, 4, 5] rfl)
            have hF := hF.2
            refine lv_iload_n C.1 C.2.1 dX11_canBeTip_114 rfl (lv_at hl 1 rfl) ?_
            refine lv_iload_n C.1 C.2.1 dX11_canBeTip_115 rfl (lv_at hl 2 rfl) ?_
            refine lv_iload_n C.1 C.2.1 dX11_canBeTip_116 rfl (lv_at hl 3 rfl) ?_
            refine zgoi (zrunS (As := [.int (zI (rc)), .int (zI (k))]) (rest := [.int (zI (st))]) C hE hH hS hl.1 (c_X11_has (l := l)  (rc) hrc (k) hk) k_RX11_92 ⟨Nat.le_of_ble_eq_true rfl, Nat.le_of_ble_eq_true rfl⟩ rfl (Nat.le_of_ble_eq_true rfl) dX11_canBeTip_117 ⟨Nat.zero_le _, Nat.zero_le _⟩) hS (fun rq Xq Yq Rq H locs hrq hq hH hS => ?_)
            obtain ⟨h91, h92⟩ := hq
            have h93 : Xq = X2 := congrArg (fun z => z.1) h92
            have h94 : Yq = Y7 := congrArg (fun z => z.2.1) h92
            have h95 : Rq = R := congrArg (fun z => z.2.2) h92
            rw [h93, h94, h95] at hH
            subst h91
            refine zd_ifB_eq C 135 dX11_canBeTip_120 (by decide) (fun c24 => ?_) (fun c24 => ?_)
            · have hF := hF.1 c24
              refine zd_iconst C dX11_canBeTip_135 ?_
              refine zd_ior C dX11_canBeTip_136 ?_
              refine lv_istore_n (lv' := [(1, .int (zI (zOr (st) (0)))), (4, .int (zI (hv))), (2, .int (zI (rc))), (3, .int (zI (k))), (0, .ref (bs + (i)))]) C.1 C.2.1 dX11_canBeTip_137 rfl hl (by decide) rfl (fun ls hl => ?_)
              exact J2 (zOr (st) (0)) (zI_rg _) hF _ _ _ hH hS (lv_sub hl [0, 1, 2, 3, 4] rfl)
            · have hF := hF.2 c24
              refine lv_iload C.1 C.2.1 dX11_canBeTip_123 (lv_at hl 0 rfl) ?_
              refine zd_iconst C dX11_canBeTip_125 ?_
              refine zd_icmp_ne C hhv (by decide) 135 dX11_canBeTip_126 (by decide) (fun c25 => ?_) (fun c25 => ?_)
              · have hF := hF.1 c25
                refine zd_iconst C dX11_canBeTip_135 ?_
                refine zd_ior C dX11_canBeTip_136 ?_
                refine lv_istore_n (lv' := [(1, .int (zI (zOr (st) (0)))), (4, .int (zI (hv))), (2, .int (zI (rc))), (3, .int (zI (k))), (0, .ref (bs + (i)))]) C.1 C.2.1 dX11_canBeTip_137 rfl hl (by decide) rfl (fun ls hl => ?_)
                exact J2 (zOr (st) (0)) (zI_rg _) hF _ _ _ hH hS (lv_sub hl [0, 1, 2, 3, 4] rfl)
              · have hF := hF.2 c25
                refine zd_iconst C dX11_canBeTip_129 ?_
                refine lv_iload_n C.1 C.2.1 dX11_canBeTip_130 rfl (lv_at hl 3 rfl) ?_
                refine zd_ishl C dX11_canBeTip_131 ?_
                refine lv_goto (tgt := 136) C.1 C.2.1 dX11_canBeTip_132 (by decide) ?_
                refine zd_ior C dX11_canBeTip_136 ?_
                refine lv_istore_n (lv' := [(1, .int (zI (zOr (st) (zShl (1) (k))))), (4, .int (zI (hv))), (2, .int (zI (rc))), (3, .int (zI (k))), (0, .ref (bs + (i)))]) C.1 C.2.1 dX11_canBeTip_137 rfl hl (by decide) rfl (fun ls hl => ?_)
                exact J2 (zOr (st) (zShl (1) (k))) (zI_rg _) hF _ _ _ hH hS (lv_sub hl [0, 1, 2, 3, 4] rfl)
          have hF := hF.2
          refine lv_iload_n C.1 C.2.1 dX11_canBeTip_95 rfl (lv_at hl 1 rfl) ?_
          refine lv_iload_n C.1 C.2.1 dX11_canBeTip_96 rfl (lv_at hl 2 rfl) ?_
          refine zgoi (zrunS (As := [.int (zI (rc)), .int (zI (k))]) (rest := []) C hE hH hS hl.1 (c_X11_has (l := l)  (rc) hrc (k) hk) k_RX11_92 ⟨Nat.le_of_ble_eq_true rfl, Nat.le_of_ble_eq_true rfl⟩ rfl (Nat.le_of_ble_eq_true rfl) dX11_canBeTip_97 ⟨Nat.zero_le _, Nat.zero_le _⟩) hS (fun rq Xq Yq Rq H locs hrq hq hH hS => ?_)
          obtain ⟨h91, h92⟩ := hq
          have h93 : Xq = X2 := congrArg (fun z => z.1) h92
          have h94 : Yq = Y7 := congrArg (fun z => z.2.1) h92
          have h95 : Rq = R := congrArg (fun z => z.2.2) h92
          rw [h93, h94, h95] at hH
          subst h91
          refine zd_ifB_eq C 111 dX11_canBeTip_100 (by decide) (fun c26 => ?_) (fun c26 => ?_)
          · have hF := hF.1 c26
            refine zd_iconst C dX11_canBeTip_111 ?_
            refine lv_istore (lv' := [(4, .int (zI ((-1)))), (1, .int (zI (st))), (2, .int (zI (rc))), (3, .int (zI (k))), (0, .ref (bs + (i)))]) C.1 C.2.1 dX11_canBeTip_112 hl (by decide) rfl (fun ls hl => ?_)
            exact J1 ((-1 : Int)) (by decide) hF _ _ _ hH hS (lv_sub hl [0, 1, 2, 3, 4] rfl)
          · have hF := hF.2 c26
            refine lv_aload_n C.1 C.2.1 dX11_canBeTip_103 rfl (lv_at hl 3 rfl) ?_
            refine lv_iload_n C.1 C.2.1 dX11_canBeTip_104 rfl (lv_at hl 2 rfl) ?_
            obtain ⟨o27, hF⟩ := hF
            refine zgoi (zrunV (As := [.int (zI (k))]) (rest := []) C hE hH hS hl.1 (c_X11_heavyChild (l := l) hM (k) hk o27) k_RX11_337 ⟨Nat.le_of_ble_eq_true rfl, Nat.le_of_ble_eq_true rfl⟩ (zM_n0 hM) (zM_k0 hM) rfl rfl rfl (Nat.le_of_ble_eq_true rfl) dX11_canBeTip_105 ⟨Nat.zero_le _, Nat.zero_le _⟩) hS (fun rq Xq Yq Rq H locs hrq hq hH hS => ?_)
            obtain ⟨h91, h92⟩ := hq
            have h93 : Xq = X2 := congrArg (fun z => z.1) h92
            have h94 : Yq = Y7 := congrArg (fun z => z.2.1) h92
            have h95 : Rq = R := congrArg (fun z => z.2.2) h92
            rw [h93, h94, h95] at hH
            subst h91
            have hr28 := hrq
            have hF := hF hr28
            refine lv_goto (tgt := 112) C.1 C.2.1 dX11_canBeTip_108 (by decide) ?_
            refine lv_istore (lv' := [(4, .int (zI (mHc X2 Y7 i (k).toNat (X2 i 27).toNat))), (1, .int (zI (st))), (2, .int (zI (rc))), (3, .int (zI (k))), (0, .ref (bs + (i)))]) C.1 C.2.1 dX11_canBeTip_112 hl (by decide) rfl (fun ls hl => ?_)
            exact J1 (mHc X2 Y7 i (k).toNat (X2 i 27).toNat) hr28 hF _ _ _ hH hS (lv_sub hl [0, 1, 2, 3, 4] rfl)
    exact L8 (((X i 27 - ((0 : Int))).toNat) + 1) ((0 : Int)) ((1 : Int)) ((0 : Int)) (by decide) (by decide) (by decide) hI8 (Nat.lt_succ_self _) _ _ _ hH hS (lv_sub hl [2, 1, 0, 3] rfl)
  · have hF := hF.2 c5
    refine lv_aload_n C.1 C.2.1 dX11_canBeTip_15 rfl (lv_at hl 1 rfl) ?_
    obtain ⟨o29, hF⟩ := hF
    refine zgoi (zrunV (As := []) (rest := []) C hE hH hS hl.1 (c_X11_heaviest (l := l) hM  o29) k_RX11_331 ⟨Nat.le_of_ble_eq_true rfl, Nat.le_of_ble_eq_true rfl⟩ (zM_n0 hM) (zM_k0 hM) rfl rfl rfl (Nat.le_of_ble_eq_true rfl) dX11_canBeTip_16 ⟨Nat.zero_le _, Nat.zero_le _⟩) hS (fun rq Xq Yq Rq H locs hrq hq hH hS => ?_)
    obtain ⟨h91, h92⟩ := hq
    have h93 : Xq = X2 := congrArg (fun z => z.1) h92
    have h94 : Yq = Y3 := congrArg (fun z => z.2.1) h92
    have h95 : Rq = R := congrArg (fun z => z.2.2) h92
    rw [h93, h94, h95] at hH
    subst h91
    have hr30 := hrq
    have hF := hF hr30
    refine lv_istore_n (lv' := [(2, .int (zI (((mHv X2 Y3 i (X2 i 27).toNat : Nat) : Int)))), (1, .int (zI (0))), (0, .ref (bs + (i)))]) C.1 C.2.1 dX11_canBeTip_19 rfl hl (by decide) rfl (fun ls hl => ?_)
    refine zd_iconst C dX11_canBeTip_20 ?_
    refine lv_istore_n (lv' := [(3, .int (zI (0))), (2, .int (zI (((mHv X2 Y3 i (X2 i 27).toNat : Nat) : Int)))), (1, .int (zI (0))), (0, .ref (bs + (i)))]) C.1 C.2.1 dX11_canBeTip_21 rfl hl (by decide) rfl (fun ls hl => ?_)
    obtain ⟨hI31, hF⟩ := hF
    have L31 : ∀ (fu : Nat) (st : Int) (k : Int), rI st → rI k → (∃ q : Nat, k = q ∧ k ≤ X i 27 ∧ st = bS (fCb (sdf X i) (rG X i) (tBs X i)) q) → ((X i 27 - (k)).toNat) < fu → ∀ (H : Heap) (locs : List Loc) (ls : Array Slot), zH D cy bs N kd len X2 Y3 R H → va_S (zA bs) s.heap H locs → lv_has ls 6 [(1, .int (zI (st))), (3, .int (zI (k))), (2, .int (zI (((mHv X2 Y3 i (X2 i 27).toNat : Nat) : Int)))), (0, .ref (bs + (i)))] → W p l e (zRm 5 111) s m args below meth c H locs 0 0 (MQ below (zQi D cy bs N kd len (fun r st => st.2.2 = R ∧ (r = rCb X i ∧ tW X (st.1) i ∧ ∀ a, a ≠ i + 18 → (st.2.1) a = Y a))) args s 0 0 (zA bs)) (F0 m 22 ls []) := by
      intro fu
      induction fu with
      | zero => intro st k _ _ _ hmu; exact absurd hmu (Nat.not_lt_zero _)
      | succ fu ih31 =>
        intro st k hst hk hI hmu31 H locs ls hH hS hl
        have hF := hF st k hst hk  hI
        refine lv_iload_n C.1 C.2.1 dX11_canBeTip_22 rfl (lv_at hl 1 rfl) ?_
        refine lv_aload_n C.1 C.2.1 dX11_canBeTip_23 rfl (lv_at hl 3 rfl) ?_
        refine zg11_27 C hH (zM_n0 hM) (zM_k0 hM) q_1314 dX11_canBeTip_24 ?_
        refine zd_icmp_ge C hk (hH.2.2.1 _ _) 73 dX11_canBeTip_27 (by decide) (fun c32 => ?_) (fun c32 => ?_)
        · have hF := hF.1 c32
          refine lv_iload_n C.1 C.2.1 dX11_canBeTip_73 rfl (lv_at hl 0 rfl) ?_
          exact zd_iret C hr hlk hH hS hst (⟨rfl, hF⟩) dX11_canBeTip_74
        · have hF := hF.2 c32
          have J4 : ∀ (st2 : Int), rI st2 → (∀ q : Nat, k = q → st2 = bS (fCb (sdf X i) (rG X i) (tBs X i)) (q + 1)) → ∀ (H : Heap) (locs : List Loc) (ls : Array Slot), zH D cy bs N kd len X2 Y3 R H → va_S (zA bs) s.heap H locs → lv_has ls 6 [(1, .int (zI (st2))), (3, .int (zI (k))), (2, .int (zI (((mHv X2 Y3 i (X2 i 27).toNat : Nat) : Int)))), (0, .ref (bs + (i)))] → W p l e (zRm 5 111) s m args below meth c H locs 0 0 (MQ below (zQi D cy bs N kd len (fun r st => st.2.2 = R ∧ (r = rCb X i ∧ tW X (st.1) i ∧ ∀ a, a ≠ i + 18 → (st.2.1) a = Y a))) args s 0 0 (zA bs)) (F0 m 67 ls []) := by
            intro st2 hst2 hI H locs ls hH hS hl
            have hF := hF.1 st2 hst2  hI
            refine zd_iinc (k := 1) (lv' := [(3, .int (zI (k + 1))), (1, .int (zI (st2))), (2, .int (zI (((mHv X2 Y3 i (X2 i 27).toNat : Nat) : Int)))), (0, .ref (bs + (i)))]) C hl rfl dX11_canBeTip_67 (by decide) rfl (fun ls hl => ?_)
            refine lv_goto (tgt := 22) C.1 C.2.1 dX11_canBeTip_70 (by decide) ?_
            obtain ⟨o33, hF⟩ := hF
            exact ih31 (st2) (k + 1) hst2 o33 hF.1 (Nat.lt_of_lt_of_le hF.2 (Nat.le_of_lt_succ hmu31)) _ _ _ hH hS (lv_sub hl [1, 0, 2, 3] rfl)
          have hF := hF.2
          refine lv_iload_n C.1 C.2.1 dX11_canBeTip_30 rfl (lv_at hl 0 rfl) ?_
          refine lv_aload_n C.1 C.2.1 dX11_canBeTip_31 rfl (lv_at hl 3 rfl) ?_
          refine zg11_35 C hH (zM_n0 hM) (zM_k0 hM) q_1322 dX11_canBeTip_32 ?_
          refine lv_iload_n C.1 C.2.1 dX11_canBeTip_35 rfl (lv_at hl 1 rfl) ?_
          refine zgoi (zrunS (As := [.int (zI (X2 (i) 35)), .int (zI (k))]) (rest := [.int (zI (st))]) C hE hH hS hl.1 (c_X11_has (l := l)  (X2 (i) 35) (hH.2.2.1 _ _) (k) hk) k_RX11_92 ⟨Nat.le_of_ble_eq_true rfl, Nat.le_of_ble_eq_true rfl⟩ rfl (Nat.le_of_ble_eq_true rfl) dX11_canBeTip_36 ⟨Nat.zero_le _, Nat.zero_le _⟩) hS (fun rq Xq Yq Rq H locs hrq hq hH hS => ?_)
          obtain ⟨h91, h92⟩ := hq
          have h93 : Xq = X2 := congrArg (fun z => z.1) h92
          have h94 : Yq = Y3 := congrArg (fun z => z.2.1) h92
          have h95 : Rq = R := congrArg (fun z => z.2.2) h92
          rw [h93, h94, h95] at hH
          subst h91
          refine zd_ifB_eq C 64 dX11_canBeTip_39 (by decide) (fun c34 => ?_) (fun c34 => ?_)
          · have hF := hF.1 c34
            refine zd_iconst C dX11_canBeTip_64 ?_
            refine zd_ior C dX11_canBeTip_65 ?_
            refine lv_istore_n (lv' := [(1, .int (zI (zOr (st) (0)))), (3, .int (zI (k))), (2, .int (zI (((mHv X2 Y3 i (X2 i 27).toNat : Nat) : Int)))), (0, .ref (bs + (i)))]) C.1 C.2.1 dX11_canBeTip_66 rfl hl (by decide) rfl (fun ls hl => ?_)
            exact J4 (zOr (st) (0)) (zI_rg _) hF _ _ _ hH hS (lv_sub hl [0, 1, 2, 3] rfl)
          · have hF := hF.2 c34
            refine lv_aload_n C.1 C.2.1 dX11_canBeTip_42 rfl (lv_at hl 3 rfl) ?_
            refine zg11_33 C hH (zM_n0 hM) (zM_k0 hM) q_1320 (zM_r15 hM) dX11_canBeTip_43 ?_
            refine lv_iload_n C.1 C.2.1 dX11_canBeTip_46 rfl (lv_at hl 1 rfl) ?_
            obtain ⟨o35, hF⟩ := hF
            refine zd_lald C hH (zM_n15 hM) (zM_k15 hM) o35.1 (by rw [zM_l15 hM]; exact o35.2) (by rw [zM_l15 hM]; decide) dX11_canBeTip_47 ?_
            refine lv_aload_n C.1 C.2.1 dX11_canBeTip_48 rfl (lv_at hl 3 rfl) ?_
            refine zg11_33 C hH (zM_n0 hM) (zM_k0 hM) q_1320 (zM_r15 hM) dX11_canBeTip_49 ?_
            refine lv_iload_n C.1 C.2.1 dX11_canBeTip_52 rfl (lv_at hl 2 rfl) ?_
            obtain ⟨o36, hF⟩ := hF
            refine zd_lald C hH (zM_n15 hM) (zM_k15 hM) o36.1 (by rw [zM_l15 hM]; exact o36.2) (by rw [zM_l15 hM]; decide) dX11_canBeTip_53 ?_
            refine zd_lcmp C (hH.2.2.2 _ _) (hH.2.2.2 _ _) dX11_canBeTip_54 ?_
            refine zd_ifL_ne C 64 dX11_canBeTip_55 (by decide) (fun c37 => ?_) (fun c37 => ?_)
            · have hF := hF.1 c37
              refine zd_iconst C dX11_canBeTip_64 ?_
              refine zd_ior C dX11_canBeTip_65 ?_
              refine lv_istore_n (lv' := [(1, .int (zI (zOr (st) (0)))), (3, .int (zI (k))), (2, .int (zI (((mHv X2 Y3 i (X2 i 27).toNat : Nat) : Int)))), (0, .ref (bs + (i)))]) C.1 C.2.1 dX11_canBeTip_66 rfl hl (by decide) rfl (fun ls hl => ?_)
              exact J4 (zOr (st) (0)) (zI_rg _) hF _ _ _ hH hS (lv_sub hl [0, 1, 2, 3] rfl)
            · have hF := hF.2 c37
              refine zd_iconst C dX11_canBeTip_58 ?_
              refine lv_iload_n C.1 C.2.1 dX11_canBeTip_59 rfl (lv_at hl 1 rfl) ?_
              refine zd_ishl C dX11_canBeTip_60 ?_
              refine lv_goto (tgt := 65) C.1 C.2.1 dX11_canBeTip_61 (by decide) ?_
              refine zd_ior C dX11_canBeTip_65 ?_
              refine lv_istore_n (lv' := [(1, .int (zI (zOr (st) (zShl (1) (k))))), (3, .int (zI (k))), (2, .int (zI (((mHv X2 Y3 i (X2 i 27).toNat : Nat) : Int)))), (0, .ref (bs + (i)))]) C.1 C.2.1 dX11_canBeTip_66 rfl hl (by decide) rfl (fun ls hl => ?_)
              exact J4 (zOr (st) (zShl (1) (k))) (zI_rg _) hF _ _ _ hH hS (lv_sub hl [0, 1, 2, 3] rfl)
    exact L31 (((X i 27 - ((0 : Int))).toNat) + 1) ((0 : Int)) ((0 : Int)) (by decide) (by decide) hI31 (Nat.lt_succ_self _) _ _ _ hH hS (lv_sub hl [2, 0, 1, 3] rfl)
theorem v_X11_canBeTip {X Y : Nat → Int → Int} {R : Nat → Int → Option Nat} {i : Nat}  (hp : oH X Y i) : F_X11_canBeTip i X Y R  := by
  unfold F_X11_canBeTip
  intro hX hY
  have h := hp
  have h27 := h.1.2.2.1
  have hbs := h.1.2.2.2
  have h35 := h.2.2.2.1
  have hl := h.2.2.1
  have sd : ∀ q : Nat, (q : Int) < X i 27 → mHas (X i 35) q = sdf X i q := fun q hq => by
    rw [h35]
    exact bS_has _ (by omega) (by omega)
  have ep : ∀ q : Nat, 1 ≤ q → (q : Int) < X i 27 → mPar X i q = rP X i q := fun q h1 h2 => rP_c hbs.1 h1 (by omega)
  have pb : ∀ q : Nat, 1 ≤ q → (q : Int) < X i 27 → rP X i q < q := fun q h1 h2 => rP_par hbs.1 q h1 (by omega)
  have hW := (oH_W h).2.2
  have hB' : oB X i (X i 27 - 1) := by
    have q := hbs.1
    rwa [show (((X i 27 - 1).toNat : Nat) : Int) = X i 27 - 1 by omega] at q
  refine ⟨?_, ?_⟩
  · exact h
  intro r4
  intro _
  intro X2
  intro rX2
  intro Y3
  intro rY3
  intro h1
  obtain ⟨-, tw, wk, y3⟩ := h1
  have t2 : tS X X2 i := tW_t tw
  have s27 : X2 i 27 = X i 27 := tw.2 27 (by decide) (by decide)
  have s28 : X2 i 28 = X i 28 := tw.2 28 (by decide) (by decide)
  have s35 : X2 i 35 = X i 35 := tw.2 35 (by decide) (by decide)
  simp only [s27, s28, s35]
  have ws : ∀ z, z < (X i 27).toNat → mWh X2 i z = sdf X i z := fun z hz => by
    show mHas (X2 i 36) z = _
    rw [wk.1, bS_has _ (by omega) hz]
    exact mWo_0 hbs z (by omega)
  have ah : ∀ a b, a < (X i 27).toNat → b < (X i 27).toNat → mWh X2 i a = true → mWh X2 i b = true → mAh9 X2 i a b = decide (a < b) := fun a b h1 h2 h3 h4 => wK_ah wk h1 h2 (by rw [← h3, ws a h1]; exact mWo_0 hbs a (by omega)) (by rw [← h4, ws b h2]; exact mWo_0 hbs b (by omega))
  have eP : rP X2 i = rP X i := rP_t t2
  refine ⟨?_, ?_⟩
  · intro c1
    refine ⟨?_, ?_⟩
    · exact oW_t t2 (y3 _ (by omega)) (oH_W h)
    intro Y7
    intro rY7
    intro h2
    obtain ⟨y7, l7⟩ := h2
    have sb7 : ∀ j, j < (X i 27).toNat → Y7 (i + 18) j = tSb X i j := fun j hj => by
      rw [l7 j (by omega) (by rw [s27]; omega)]
      show sSb (rP X2 i) (fun k => Y3 (i + 14) k) (fun e => mHas (X i 35) e) (X2 i 27).toNat j = _
      rw [eP, s27]
      exact sSb_cong (fun z hz => by rw [y3 _ (by omega)]; exact (hl z (by omega)).2.1) (fun z hz => sd z (by omega)) j hj
    have hv7 : ∀ q, q < (X i 27).toNat → mHc X2 Y7 i q (X i 27).toNat = tHv X i q := fun q hq => by
      show aHc (rP X2 i) (fun k => Y7 (i + 18) k) (mWh X2 i) (mAh9 X2 i) q _ = _
      rw [eP]
      exact aHc_cong _ sb7 ws ah
    refine ⟨?_, ?_⟩
    · refine ⟨0, rfl, by omega, rfl, fun y hy => ?_⟩
      rw [show (1 : Int) = zShl 1 ((0 : Nat) : Int) by decide, mHas_zb _ (by omega), zb_one (by decide) (by omega), decide_eq_false (Nat.not_lt_zero _), Bool.or_false]
      by_cases y0 : y = 0
      · rw [y0]
        show true = (rcF _ _ _ _ 0 && true)
        rw [rcF_0]
        rfl
      · rw [decide_eq_false y0, Bool.and_false]
    intro st rc k
    intro _
    intro _
    intro _
    intro h3
    obtain ⟨q, hq, q2, hst, hrc⟩ := h3
    subst hq
    refine ⟨?_, ?_⟩
    · intro c2
      refine ⟨?_, tw, fun y hy => by rw [y7 y hy, y3 y hy]⟩
      unfold rCb
      rw [if_neg c1, show (X i 27).toNat = q by omega]
      exact hst
    intro c3
    have rq : mHas rc q = tRc X i q := by
      rw [hrc q (by omega)]
      by_cases q0 : q = 0
      · rw [decide_eq_true q0, Bool.true_or, Bool.and_true]
      · rw [decide_eq_true (pb q (by omega) (by omega)), Bool.or_true, Bool.and_true]
    refine ⟨?_, ?_⟩
    · intro hv
      intro _
      intro h4
      have hve := h4 q rfl
      refine ⟨?_, ?_⟩
      · intro st2
        intro _
        intro h5
        have st2e := h5 q rfl
        refine ⟨?_, ?_⟩
        · first | omega | exact ⟨by omega, by omega⟩ | decide | assumption | exact ⟨by omega, by omega, by omega⟩ | exact ⟨by decide, by decide⟩
        refine ⟨?_, ?_⟩
        · refine ⟨q, q + 1, rfl, by omega, by omega, by omega, fun y hy => ?_⟩
          rw [hrc y hy]
          by_cases y0 : y = 0
          · rw [decide_eq_true y0, Bool.true_or, Bool.true_or]
          · have py := pb y (by omega) (by omega)
            by_cases e2 : rP X i y = q
            · rw [decide_eq_false (show ¬ y < q + 1 by omega), Bool.and_false, Bool.or_false]
            · rw [decide_eq_false e2, Bool.false_and, Bool.or_false]
        intro rc ee
        intro _
        intro _
        intro h6
        obtain ⟨q', x, hq', hx, hqx, hx2, hj⟩ := h6
        obtain rfl : q = q' := by omega
        subst hx
        have rs : ∀ z, 1 ≤ z → z < (X i 27).toNat → tRc X i z = (sdf X i z && (tRc X i (rP X i z) && decide (tSb X i z = tSb X i (tHv X i (rP X i z)).toNat))) := fun z h1 h2 => rcF_s (pb z h1 (by omega))
        refine ⟨?_, ?_⟩
        · intro c4
          refine ⟨?_, ?_⟩
          · first | omega | exact ⟨by omega, by omega⟩ | decide | assumption | exact ⟨by omega, by omega, by omega⟩ | exact ⟨by decide, by decide⟩
          refine ⟨?_, ?_⟩
          · refine ⟨q + 1, by omega, by omega, st2e, fun y hy => ?_⟩
            rw [hj y hy, decide_eq_true (show y < x by omega), Bool.and_true]
            congr 2
            by_cases e2 : rP X i y < q
            · rw [decide_eq_true e2, Bool.true_or]
              exact (decide_eq_true (by omega)).symm
            · rw [decide_eq_false e2, Bool.false_or]
              exact decide_eq_decide.mpr ⟨fun _ => by omega, fun _ => by omega⟩
          first | omega | exact ⟨by omega, by omega⟩ | decide | assumption | exact ⟨by omega, by omega, by omega⟩ | exact ⟨by decide, by decide⟩
        intro c5
        have hk : (rP X i x = q → tRc X i x = false) → cbJ X i q (x + 1) rc := fun hn y hy => by
          rw [hj y hy]
          by_cases e1 : y = x
          · subst e1
            by_cases e2 : rP X i y = q
            · rw [hn e2, Bool.false_and, Bool.false_and]
            · rw [decide_eq_false e2, Bool.false_and, Bool.false_and]
          · rw [show decide (y < x + 1) = decide (y < x) from decide_eq_decide.mpr ⟨fun _ => by omega, fun _ => by omega⟩]
        refine ⟨?_, ?_⟩
        · intro c6
          refine ⟨?_, ?_⟩
          · first | omega | exact ⟨by omega, by omega⟩ | decide | assumption | exact ⟨by omega, by omega, by omega⟩ | exact ⟨by decide, by decide⟩
          refine ⟨?_, ?_⟩
          · refine ⟨q + 1, by omega, by omega, st2e, fun y hy => ?_⟩
            rw [hj y hy]
            by_cases y0 : y = 0
            · rw [decide_eq_true y0, Bool.true_or, Bool.true_or]
            by_cases e2 : rP X i y = q
            · have e3 : tRc X i y = false := by
                rw [rs y (by omega) hy, e2]
                cases c : tRc X i q with
                | false => rw [Bool.false_and, Bool.and_false]
                | true =>
                  rw [c, if_pos rfl] at hve
                  have e4 : tHv X i q = -1 := by rw [← hve]; exact c6
                  have py := pb y (by omega) (by omega)
                  cases c9 : sdf X i y with
                  | false => rfl
                  | true => exact absurd e2 (aHc_m1 _ e4 y (by omega) hy c9)
              rw [e3, Bool.false_and, Bool.false_and]
            · congr 2
              rw [decide_eq_false e2, Bool.false_and, Bool.or_false]
              exact decide_eq_decide.mpr ⟨fun _ => by omega, fun _ => by omega⟩
          first | omega | exact ⟨by omega, by omega⟩ | decide | assumption | exact ⟨by omega, by omega, by omega⟩ | exact ⟨by decide, by decide⟩
        intro c7
        have tq : tRc X i q = true := by
          cases c : tRc X i q with
          | true => rfl
          | false =>
            rw [c, if_neg (by decide)] at hve
            exact absurd hve c7
        rw [tq, if_pos rfl] at hve
        have hvb := aHc_h (P := rP X i) (sb := tSb X i) (w := sdf X i) (ah := fun a b => decide (a < b)) (n := (X i 27).toNat) q (by omega)
        have hvb : tHv X i q = -1 ∨ ((q : Int) < tHv X i q ∧ tHv X i q < (X i 27).toNat) := hvb
        have epx : mPar X2 i x = rP X i x := (mPar_t t2 x).trans (ep x (by omega) (by omega))
        refine ⟨?_, ?_⟩
        · intro rc2
          intro _
          intro h7
          refine ⟨?_, ?_⟩
          · first | omega | exact ⟨by omega, by omega⟩ | decide | assumption | exact ⟨by omega, by omega, by omega⟩ | exact ⟨by decide, by decide⟩
          refine ⟨?_, ?_⟩
          · exact ⟨q, x + 1, rfl, by omega, by omega, by omega, h7 q x rfl rfl⟩
          first | omega | exact ⟨by omega, by omega⟩ | decide | assumption | exact ⟨by omega, by omega, by omega⟩ | exact ⟨by decide, by decide⟩
        refine ⟨?_, ?_⟩
        · intro c8
          rw [sd x (by omega)] at c8
          intro q' x' hq' hx'
          obtain rfl : q = q' := by omega
          obtain rfl : x = x' := by omega
          rw [zOr_0 ‹rI rc›]
          exact hk (fun _ => by rw [rs x (by omega) (by omega), c8, Bool.false_and])
        intro c9
        rw [sd x (by omega)] at c9
        rw [epx]
        refine ⟨?_, ?_⟩
        · exact ⟨oC_t t2 hbs.1.1, by omega, by omega⟩
        intro _
        refine ⟨?_, ?_⟩
        · intro c10
          intro q' x' hq' hx'
          obtain rfl : q = q' := by omega
          obtain rfl : x = x' := by omega
          rw [zOr_0 ‹rI rc›]
          exact hk (fun e2 => absurd (by omega) c10)
        intro c11
        have hyv : Y7 (i + 18) hv = tSb X i (tHv X i q).toNat := by
          have := sb7 (tHv X i q).toNat (by omega)
          rw [show (((tHv X i q).toNat : Nat) : Int) = hv by omega] at this
          exact this
        rw [sb7 x (by omega), hyv]
        refine ⟨?_, ?_⟩
        · first | omega | exact ⟨by omega, by omega⟩ | decide | assumption | exact ⟨by omega, by omega, by omega⟩ | exact ⟨by decide, by decide⟩
        refine ⟨?_, ?_⟩
        · exact ⟨by omega, by omega⟩
        refine ⟨?_, ?_⟩
        · intro c12
          intro q' x' hq' hx'
          obtain rfl : q = q' := by omega
          obtain rfl : x = x' := by omega
          rw [zOr_0 ‹rI rc›]
          exact hk (fun e2 => by rw [rs x (by omega) (by omega), e2, decide_eq_false c12, Bool.and_false, Bool.and_false])
        intro c13
        intro q' x' hq' hx'
        obtain rfl : q = q' := by omega
        obtain rfl : x = x' := by omega
        intro y hy
        rw [mHas_set (by omega) (by omega)]
        have e2 : rP X i x = q := by omega
        by_cases e1 : y = x
        · subst e1
          rw [decide_eq_true rfl, Bool.or_true, rs y (by omega) hy, c9, e2, tq, decide_eq_true (Classical.not_not.mp c13), decide_eq_true rfl, decide_eq_true (show y < y + 1 by omega), Bool.and_true, Bool.or_true, Bool.or_true]
          rfl
        · rw [decide_eq_false e1, Bool.or_false, hj y hy, show decide (y < x + 1) = decide (y < x) from decide_eq_decide.mpr ⟨fun _ => by omega, fun _ => by omega⟩]
      refine ⟨?_, ?_⟩
      · intro c14
        intro q' hq'
        obtain rfl : q = q' := by omega
        refine (bS_st hst).1 ?_
        unfold fTp
        rw [← rq, c14, Bool.false_and]
      intro c15
      refine ⟨?_, ?_⟩
      · intro c16
        intro q' hq'
        obtain rfl : q = q' := by omega
        refine (bS_st hst).1 ?_
        unfold fTp
        rw [← rq, c15, if_pos rfl] at hve
        rw [decide_eq_false (by omega), Bool.and_false]
      intro c17
      intro q' hq'
      obtain rfl : q = q' := by omega
      refine (bS_st hst).2 ?_
      rw [← rq, c15, if_pos rfl] at hve
      unfold fTp
      rw [← rq, c15, decide_eq_true (by omega)]
      rfl
    refine ⟨?_, ?_⟩
    · intro c18
      intro q' hq'
      obtain rfl : q = q' := by omega
      rw [← rq, c18]
      rfl
    intro c19
    refine ⟨?_, ?_⟩
    · exact ⟨h27, oB_t t2 hB', by omega, by omega⟩
    intro _
    intro q' hq'
    obtain rfl : q = q' := by omega
    rw [← rq, c19, if_pos rfl, Int.toNat_natCast]
    exact hv7 q (by omega)
  intro c20
  have hbest : mHv X2 Y3 i (X i 27).toNat = tBs X i := by
    show aHv (fun k => Y3 (i + 15) k) (mWh X2 i) (mAh9 X2 i) _ = _
    exact aHv_cong (by rw [ws 0 (by omega)]; exact sdf_0) _ (fun z hz => by rw [y3 _ (by omega)]; exact (hl z (by omega)).2.2) ws ah
  have bb := aHv_b (wt := rG X i) (w := sdf X i) (ah := fun a b => decide (a < b)) (X i 27).toNat
  have bb : tBs X i ≤ (X i 27).toNat - 1 := bb
  rw [hbest]
  refine ⟨?_, ?_⟩
  · exact h27
  intro _
  refine ⟨?_, ?_⟩
  · exact ⟨0, rfl, by omega, rfl⟩
  intro st k
  intro _
  intro _
  intro h8
  obtain ⟨q, hq, q2, hst⟩ := h8
  subst hq
  refine ⟨?_, ?_⟩
  · intro c21
    refine ⟨?_, tw, y3⟩
    unfold rCb
    rw [if_pos (Classical.not_not.mp c20), show (X i 27).toNat = q by omega]
    exact hst
  intro c22
  have nx := bS_st hst
  rw [sd q (by omega), y3 _ (by omega), (hl q (by omega)).2.2, (hl (tBs X i) (by omega)).2.2]
  refine ⟨?_, ?_⟩
  · intro st2
    intro _
    intro h9
    have st2e := h9 q rfl
    refine ⟨?_, ?_⟩
    · first | omega | exact ⟨by omega, by omega⟩ | decide | assumption | exact ⟨by omega, by omega, by omega⟩ | exact ⟨by decide, by decide⟩
    refine ⟨?_, ?_⟩
    · exact ⟨q + 1, by omega, by omega, st2e⟩
    first | omega | exact ⟨by omega, by omega⟩ | decide | assumption | exact ⟨by omega, by omega, by omega⟩ | exact ⟨by decide, by decide⟩
  refine ⟨?_, ?_⟩
  · intro c23
    intro q' hq'
    obtain rfl : q = q' := by omega
    refine nx.1 ?_
    unfold fCb
    rw [c23, Bool.false_and]
  intro c24
  refine ⟨?_, ?_⟩
  · first | omega | exact ⟨by omega, by omega⟩ | decide | assumption | exact ⟨by omega, by omega, by omega⟩ | exact ⟨by decide, by decide⟩
  refine ⟨?_, ?_⟩
  · first | omega | exact ⟨by omega, by omega⟩ | decide | assumption | exact ⟨by omega, by omega, by omega⟩ | exact ⟨by decide, by decide⟩
  refine ⟨?_, ?_⟩
  · intro c25
    intro q' hq'
    obtain rfl : q = q' := by omega
    refine nx.1 ?_
    unfold fCb
    rw [decide_eq_false c25, Bool.and_false]
  intro c26
  intro q' hq'
  obtain rfl : q = q' := by omega
  refine nx.2 ?_
  unfold fCb
  rw [c24, decide_eq_true (Classical.not_not.mp c26)]
  rfl
theorem c_X11_canBeTip {l : Launch} {D : va_G} {cy : Nat → ClassId} {bs N : Nat} {sa : Nat → Nat} {kd len : Nat → Nat} {X Y : Nat → Int → Int} {R : Nat → Int → Option Nat} {i : Nat} (hM : zM N kd len R i)  (hp : oH X Y i) : Met l yX11_canBeTip (.code yX11_canBeTip cX11_canBeTip 6 (some .int) :: zTB) (zRm 5 111) (zPc D cy bs sa N kd len X Y R [.ref (bs + (i))]) (zQi D cy bs N kd len (fun r st => st.2.2 = R ∧ (r = rCb X i ∧ tW X (st.1) i ∧ ∀ a, a ≠ i + 18 → (st.2.1) a = Y a))) 0 0 (zA bs) := w_X11_canBeTip hM  (v_X11_canBeTip  hp)
