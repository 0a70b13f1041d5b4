/-! HOW MANY BITS; THE n-TH BIT -/
theorem zb_nat {n k : Nat} (h : n < 2147483648) (hk : k < 32) : zb (n : Int) k = n.testBit k := by
  unfold zb bt
  rw [zI_nat]
  show (Int32.ofNat n).toBitVec.getLsbD k = _
  rw [show (Int32.ofNat n).toBitVec = BitVec.ofNat 32 n from rfl, BitVec.getLsbD_ofNat, decide_eq_true hk, Bool.true_and]
theorem rI_nat {n : Nat} (h : n < 2147483648) : rI (n : Int) := ⟨by omega, by omega⟩
theorem zAnd_nat {a b : Nat} (ha : a < 2147483648) (hb : b < 2147483648) : zAnd a b = ((a &&& b : Nat) : Int) := by
  have h : a &&& b < 2147483648 := Nat.lt_of_le_of_lt Nat.and_le_left ha
  refine zb_ext (zI_rg _) (rI_nat h) fun k hk => ?_
  rw [zb_and, zb_nat ha hk, zb_nat hb hk, zb_nat h hk, Nat.testBit_and]
theorem zUsh_nat {a k : Nat} (ha : a < 2147483648) (hk : k < 32) : zUsh a k = ((a >>> k : Nat) : Int) := by
  have h : a >>> k < 2147483648 := Nat.lt_of_le_of_lt (Nat.shiftRight_le _ _) ha
  refine zb_ext (zI_rg _) (rI_nat h) fun j hj => ?_
  rw [zb_nat h hj, Nat.testBit_shiftRight]
  unfold zb zUsh
  rw [zI_of, zI_nat k, b_ushr k hk]
  by_cases g : k + j < 32
  · exact zb_nat ha g
  · rw [b_big (by omega), Nat.testBit_lt_two_pow (Nat.lt_of_lt_of_le ha (Nat.le_trans (show 2147483648 ≤ 2 ^ 31 by decide) (Nat.pow_le_pow_right (by decide) (by omega))))]
def nBc (n : Nat) : Nat :=
  let a := n - ((n >>> 1) &&& 1431655765)
  let b := (a &&& 858993459) + ((a >>> 2) &&& 858993459)
  let c := (b + (b >>> 4)) &&& 252645135
  let d := c + (c >>> 8)
  (d + (d >>> 16)) &&& 63
def nOn (n : Nat) : Nat → Nat
  | 0 => 0
  | k + 1 => nOn n k + (if n.testBit k then 1 else 0)
def nf1 (M n : Nat) : Nat := n - ((n >>> 1) &&& M)
def nf2 (M a : Nat) : Nat := (a &&& M) + ((a >>> 2) &&& M)
theorem nib_tb {x m : Nat} (hx : x < 16) (i : Nat) : (16 * m + x).testBit i = if i < 4 then x.testBit i else m.testBit (i - 4) := Nat.testBit_two_pow_mul_add (i := 4) m hx i
theorem nib_and {x m c M s : Nat} (hx : x < 16) (hc : c < 16) (h : ∀ i, i < 4 → 4 ≤ s + i → c.testBit i = false) : ((16 * m + x) >>> s) &&& (16 * M + c) = 16 * ((m >>> s) &&& M) + ((x >>> s) &&& c) := by
  have lt : (x >>> s) &&& c < 16 := Nat.lt_of_le_of_lt Nat.and_le_right hc
  refine Nat.eq_of_testBit_eq fun i => ?_
  rw [Nat.testBit_and, Nat.testBit_shiftRight, nib_tb hx, nib_tb hc, nib_tb lt, Nat.testBit_and, Nat.testBit_and, Nat.testBit_shiftRight, Nat.testBit_shiftRight]
  by_cases g : i < 4
  · rw [if_pos g, if_pos g]
    by_cases g2 : s + i < 4
    · rw [if_pos g2]
    · rw [h i g (by omega), Bool.and_false, Bool.and_false]
  · rw [if_neg g, if_neg g, if_neg (by omega), show s + (i - 4) = s + i - 4 by omega]
theorem nf1_s {x m M : Nat} (hx : x < 16) : nf1 (16 * M + 5) (16 * m + x) = 16 * nf1 M m + nf1 5 x := by
  unfold nf1
  rw [nib_and hx (by decide) ((by decide : ∀ i, i < 4 → 4 ≤ 1 + i → Nat.testBit 5 i = false))]
  have a : (m >>> 1) &&& M ≤ m := Nat.le_trans Nat.and_le_left (Nat.shiftRight_le _ _)
  have b : (x >>> 1) &&& 5 ≤ x := Nat.le_trans Nat.and_le_left (Nat.shiftRight_le _ _)
  omega
theorem nf2_s {x m M : Nat} (hx : x < 16) : nf2 (16 * M + 3) (16 * m + x) = 16 * nf2 M m + nf2 3 x := by
  unfold nf2
  have h0 := nib_and (m := m) (M := M) (s := 0) hx (show 3 < 16 by decide) ((by decide : ∀ i, i < 4 → 4 ≤ 0 + i → Nat.testBit 3 i = false))
  have h2 := nib_and (m := m) (M := M) (s := 2) hx (show 3 < 16 by decide) ((by decide : ∀ i, i < 4 → 4 ≤ 2 + i → Nat.testBit 3 i = false))
  rw [Nat.shiftRight_zero, Nat.shiftRight_zero, Nat.shiftRight_zero] at h0
  rw [h0, h2]
  omega
theorem nib_1 : ∀ x, x < 16 → nf1 5 x < 16 ∧ nf2 3 (nf1 5 x) = nOn x 4 ∧ nOn x 4 ≤ 4 := by decide +kernel
theorem nib_3 : ∀ x, x < 8 → nOn x 3 = nOn x 4 := by decide +kernel
theorem nOn_s {x m : Nat} (hx : x < 16) : ∀ j, nOn (16 * m + x) (4 + j) = nOn m j + nOn x 4
  | 0 => by
    rw [show nOn m 0 = 0 from rfl, Nat.zero_add]
    show nOn (16 * m + x) 4 = _
    unfold nOn nOn nOn nOn nOn
    rw [nib_tb hx, nib_tb hx, nib_tb hx, nib_tb hx]
    rfl
  | j + 1 => by
    show nOn (16 * m + x) (4 + j) + (if (16 * m + x).testBit (4 + j) then 1 else 0) = nOn m j + (if m.testBit j then 1 else 0) + nOn x 4
    have tb : (16 * m + x).testBit (4 + j) = m.testBit j := by rw [nib_tb hx, if_neg (show ¬ 4 + j < 4 by omega), show 4 + j - 4 = j by omega]
    rw [nOn_s hx j, tb]
    omega
def nTl (b : Nat) : Nat :=
  let c := (b + (b >>> 4)) &&& 252645135
  let d := c + (c >>> 8)
  (d + (d >>> 16)) &&& 63
theorem nTl_ok : ∀ a, a < 5 → ∀ b, b < 5 → ∀ c, c < 5 → ∀ d, d < 5 → nTl (16 * (16 * (16 * d + c) + b) + a) = a + b + c + d := by decide +kernel
theorem nf_0 : nf1 5 0 = 0 ∧ nf2 3 0 = 0 := by decide
theorem nBc_ok {n : Nat} (h : n < 32768) : nBc n = nOn n 15 := by
  obtain ⟨x0, x1, x2, x3, h0, h1, h2, h3, rfl⟩ : ∃ x0 x1 x2 x3, x0 < 16 ∧ x1 < 16 ∧ x2 < 16 ∧ x3 < 8 ∧ n = 16 * (16 * (16 * x3 + x2) + x1) + x0 := ⟨n % 16, n / 16 % 16, n / 256 % 16, n / 4096, by omega, by omega, by omega, by omega, by omega⟩
  have e : nBc (16 * (16 * (16 * x3 + x2) + x1) + x0) = nTl (nf2 858993459 (nf1 1431655765 (16 * (16 * (16 * x3 + x2) + x1) + x0))) := rfl
  have z1 : nf1 349525 x3 = nf1 5 x3 := (by decide +kernel : ∀ x, x < 8 → nf1 349525 x = nf1 5 x) x3 h3
  have n0 := nib_1 x0 h0
  have n1 := nib_1 x1 h1
  have n2 := nib_1 x2 h2
  have n3 := nib_1 x3 (by omega)
  have z2 : ∀ x, x < 16 → nf2 209715 x = nf2 3 x := by decide +kernel
  have a1 : nf1 1431655765 (16 * (16 * (16 * x3 + x2) + x1) + x0) = 16 * (16 * (16 * nf1 5 x3 + nf1 5 x2) + nf1 5 x1) + nf1 5 x0 := by
    rw [show (1431655765 : Nat) = 16 * 89478485 + 5 from rfl, nf1_s h0, show (89478485 : Nat) = 16 * 5592405 + 5 from rfl, nf1_s h1, show (5592405 : Nat) = 16 * 349525 + 5 from rfl, nf1_s h2, z1]
  have a2 : nf2 858993459 (16 * (16 * (16 * nf1 5 x3 + nf1 5 x2) + nf1 5 x1) + nf1 5 x0) = 16 * (16 * (16 * nOn x3 4 + nOn x2 4) + nOn x1 4) + nOn x0 4 := by
    rw [show (858993459 : Nat) = 16 * 53687091 + 3 from rfl, nf2_s n0.1, show (53687091 : Nat) = 16 * 3355443 + 3 from rfl, nf2_s n1.1, show (3355443 : Nat) = 16 * 209715 + 3 from rfl, nf2_s n2.1, z2 _ n3.1, n0.2.1, n1.2.1, n2.2.1, n3.2.1]
  rw [e, a1, a2, nTl_ok _ (by omega) _ (by omega) _ (by omega) _ (by omega), show (15 : Nat) = 4 + (4 + (4 + 3)) from rfl, nOn_s h0, nOn_s h1, nOn_s h2, nib_3 x3 h3]
  omega
theorem mBc_nat {n : Nat} (h : n < 32768) : mBc n = (nBc n : Nat) := by
  have l1 : (n >>> 1) &&& 1431655765 ≤ n := Nat.le_trans Nat.and_le_left (Nat.shiftRight_le _ _)
  have e1 : bc1 n = ((n - ((n >>> 1) &&& 1431655765) : Nat) : Int) := by
    unfold bc1
    rw [show (1 : Int) = ((1 : Nat) : Int) from rfl, zUsh_nat (by omega) (by decide), show (1431655765 : Int) = ((1431655765 : Nat) : Int) from rfl, zAnd_nat (Nat.lt_of_le_of_lt (Nat.shiftRight_le _ _) (by omega)) (by decide)]
    omega
  obtain ⟨a, ha⟩ : ∃ a, a = n - ((n >>> 1) &&& 1431655765) := ⟨_, rfl⟩
  have la : a < 32768 := by omega
  have e2 : bc2 a = (((a &&& 858993459) + ((a >>> 2) &&& 858993459) : Nat) : Int) := by
    unfold bc2
    rw [show (2 : Int) = ((2 : Nat) : Int) from rfl, zUsh_nat (by omega) (by decide), show (858993459 : Int) = ((858993459 : Nat) : Int) from rfl, zAnd_nat (by omega) (by decide), zAnd_nat (Nat.lt_of_le_of_lt (Nat.shiftRight_le _ _) (by omega)) (by decide)]
    rfl
  obtain ⟨b, hb⟩ : ∃ b, b = (a &&& 858993459) + ((a >>> 2) &&& 858993459) := ⟨_, rfl⟩
  have lb : b < 65536 := by
    have g1 : a &&& 858993459 ≤ a := Nat.and_le_left
    have g2 : (a >>> 2) &&& 858993459 ≤ a := Nat.le_trans Nat.and_le_left (Nat.shiftRight_le _ _)
    omega
  have s4 : b >>> 4 ≤ b := Nat.shiftRight_le _ _
  have e3 : bc3 b = (((b + (b >>> 4)) &&& 252645135 : Nat) : Int) := by
    unfold bc3
    rw [show (4 : Int) = ((4 : Nat) : Int) from rfl, zUsh_nat (by omega) (by decide), show (252645135 : Int) = ((252645135 : Nat) : Int) from rfl, ← Int.natCast_add, zAnd_nat (by omega) (by decide)]
  obtain ⟨c, hc⟩ : ∃ c, c = (b + (b >>> 4)) &&& 252645135 := ⟨_, rfl⟩
  have lc : c < 131072 := by
    have : (b + (b >>> 4)) &&& 252645135 ≤ b + (b >>> 4) := Nat.and_le_left
    omega
  have s8 : c >>> 8 ≤ c := Nat.shiftRight_le _ _
  have e4 : bc4 c = ((c + (c >>> 8) : Nat) : Int) := by
    unfold bc4
    rw [show (8 : Int) = ((8 : Nat) : Int) from rfl, zUsh_nat (by omega) (by decide)]
    rfl
  obtain ⟨d, hd⟩ : ∃ d, d = c + (c >>> 8) := ⟨_, rfl⟩
  have s16 : d >>> 16 ≤ d := Nat.shiftRight_le _ _
  have e5 : bc5 d = ((d + (d >>> 16) : Nat) : Int) := by
    unfold bc5
    rw [show (16 : Int) = ((16 : Nat) : Int) from rfl, zUsh_nat (by omega) (by decide)]
    rfl
  unfold mBc
  rw [e1, ← ha, e2, ← hb, e3, ← hc, e4, ← hd, e5, show (63 : Int) = ((63 : Nat) : Int) from rfl, zAnd_nat (by omega) (by decide)]
  unfold nBc
  rw [hd, hc, hb, ha]
theorem mOnes_nat {n : Nat} (h : n < 32768) : ∀ m, m ≤ 15 → mOnesN n m = (nOn n m : Nat)
  | 0, _ => rfl
  | m + 1, hm => by
    show mOnesN n m + bz (mHas n m) = ((nOn n m + (if n.testBit m then 1 else 0) : Nat) : Int)
    rw [mOnes_nat h m (by omega), mHas_zb _ (by omega), zb_nat (by omega) (by omega)]
    cases n.testBit m <;> simp [bz]
theorem mBc_ones {s : Int} (h0 : 0 ≤ s) (h1 : s < 32768) : mBc s = mOnes s := by
  obtain ⟨n, rfl⟩ := nat_of h0
  rw [mBc_nat (by omega), nBc_ok (by omega)]
  exact (mOnes_nat (by omega) 15 (by omega)).symm
theorem small_of {s : Int} (hr : rI s) (h : ∀ k, 15 ≤ k → k < 32 → zb s k = false) : 0 ≤ s ∧ s < 32768 := by
  have e : s = zAnd s ((32767 : Nat) : Int) := zb_ext hr (zI_rg _) fun k hk => by
    rw [zb_and, zb_nat (by decide) hk]
    by_cases g : k < 15
    · rw [show Nat.testBit 32767 k = true from (by decide : ∀ k, k < 15 → Nat.testBit 32767 k = true) k g, Bool.and_true]
    · rw [h k (by omega) hk, Bool.false_and]
  have a : zAnd s ((32767 : Nat) : Int) = ((zI s &&& 32767).toInt) := rfl
  have b : zI s &&& 32767 = Int32.ofNat ((zI s).toBitVec.toNat &&& 32767) := by
    apply Int32.toBitVec_inj.mp
    apply BitVec.eq_of_toNat_eq
    rw [Int32.toBitVec_and, BitVec.toNat_and]
    show _ = (BitVec.ofNat 32 _).toNat
    rw [BitVec.toNat_ofNat, Nat.mod_eq_of_lt (Nat.lt_of_le_of_lt Nat.and_le_right (by decide))]
    rfl
  have c : (zI s).toBitVec.toNat &&& 32767 ≤ 32767 := Nat.and_le_right
  rw [e, a, b, Int32.toInt_ofNat_of_lt (by omega)]
  exact ⟨by omega, by omega⟩
theorem mOnes_bS {f : Nat → Bool} {n : Nat} (hn : n ≤ 15) : ∀ m, m ≤ 15 → mOnesN (bS f n) m = cN f (min m n)
  | 0, _ => by rw [show min 0 n = 0 by omega]; rfl
  | m + 1, hm => by
    show mOnesN (bS f n) m + bz (mHas (bS f n) m) = _
    rw [mOnes_bS hn m (by omega), mHas_zb _ (by omega), zb_bS f n m (by omega) (by omega)]
    by_cases g : m < n
    · rw [show min (m + 1) n = m + 1 by omega, show min m n = m by omega, decide_eq_true g, Bool.true_and]
      rfl
    · rw [show min (m + 1) n = min m n by omega, decide_eq_false g, Bool.false_and]
      show _ + 0 = _
      omega
theorem bS_sm {f : Nat → Bool} {n : Nat} (hn : n ≤ 15) : 0 ≤ bS f n ∧ bS f n < 32768 := small_of (bS_rg _ _) fun k h1 h2 => by rw [zb_bS f n k (by omega) h2, decide_eq_false (by omega), Bool.false_and]
theorem mBc_bS {f : Nat → Bool} {n : Nat} (hn : n ≤ 15) : mBc (bS f n) = cN f n := by
  rw [mBc_ones (bS_sm hn).1 (bS_sm hn).2]
  show mOnesN _ 15 = _
  rw [mOnes_bS hn 15 (Nat.le_refl _), show min 15 n = n by omega]
theorem wy_sm {P : Nat → Nat} {k : Nat} : 0 ≤ wyP P k ∧ wyP P k < 32768 := bS_sm (by decide)
theorem and_sm {a b : Int} (h : 0 ≤ a ∧ a < 32768) : 0 ≤ zAnd a b ∧ zAnd a b < 32768 := small_of (zI_rg _) fun k h1 h2 => by
  obtain ⟨n, rfl⟩ := nat_of h.1
  rw [zb_and, zb_nat (by omega) h2, Nat.testBit_lt_two_pow (Nat.lt_of_lt_of_le (show n < 2 ^ 15 by omega) (Nat.pow_le_pow_right (by decide) h1)), Bool.false_and]
/-- the place of the n-th bit, or -1 -/
def nbN (s n : Int) : Nat → Int
  | 0 => -1
  | m + 1 => if nbN s n m = -1 then (if mHas s m = true ∧ mOnesN s m = n then m else -1) else nbN s n m
theorem nbN_st {s n : Int} {m : Nat} (h : nbN s n m ≠ -1) : ∀ d, nbN s n (m + d) = nbN s n m
  | 0 => rfl
  | d + 1 => by
    show (if nbN s n (m + d) = -1 then _ else nbN s n (m + d)) = _
    rw [nbN_st h d, if_neg h]
abbrev cX10_nthBit : ByteArray := prog_1_method_51_code
def yX10_nthBit : MethodName := ⟨RX10, "nthBit", "(II)I"⟩
theorem dX10_nthBit_0 : decode cX10_nthBit 0 = .ok (.iconst 0, 1) := by decide +kernel
theorem dX10_nthBit_1 : decode cX10_nthBit 1 = .ok (.istore_n 2, 1) := by decide +kernel
theorem dX10_nthBit_2 : decode cX10_nthBit 2 = .ok (.iconst 0, 1) := by decide +kernel
theorem dX10_nthBit_3 : decode cX10_nthBit 3 = .ok (.istore_n 3, 1) := by decide +kernel
theorem dX10_nthBit_4 : decode cX10_nthBit 4 = .ok (.iload_n 3, 1) := by decide +kernel
theorem dX10_nthBit_5 : decode cX10_nthBit 5 = .ok (.bipush 15, 2) := by decide +kernel
theorem dX10_nthBit_7 : decode cX10_nthBit 7 = .ok (.if_icmp .ge 30, 3) := by decide +kernel
theorem dX10_nthBit_10 : decode cX10_nthBit 10 = .ok (.iload_n 0, 1) := by decide +kernel
theorem dX10_nthBit_11 : decode cX10_nthBit 11 = .ok (.iload_n 3, 1) := by decide +kernel
theorem dX10_nthBit_12 : decode cX10_nthBit 12 = .ok (.ishr, 1) := by decide +kernel
theorem dX10_nthBit_13 : decode cX10_nthBit 13 = .ok (.iconst 1, 1) := by decide +kernel
theorem dX10_nthBit_14 : decode cX10_nthBit 14 = .ok (.iand, 1) := by decide +kernel
theorem dX10_nthBit_15 : decode cX10_nthBit 15 = .ok (.ifCond .ne 6, 3) := by decide +kernel
theorem dX10_nthBit_18 : decode cX10_nthBit 18 = .ok (.goto 13, 3) := by decide +kernel
theorem dX10_nthBit_21 : decode cX10_nthBit 21 = .ok (.iload_n 2, 1) := by decide +kernel
theorem dX10_nthBit_22 : decode cX10_nthBit 22 = .ok (.iload_n 1, 1) := by decide +kernel
theorem dX10_nthBit_23 : decode cX10_nthBit 23 = .ok (.if_icmp .ne 5, 3) := by decide +kernel
theorem dX10_nthBit_26 : decode cX10_nthBit 26 = .ok (.iload_n 3, 1) := by decide +kernel
theorem dX10_nthBit_27 : decode cX10_nthBit 27 = .ok (.ireturn, 1) := by decide +kernel
theorem dX10_nthBit_28 : decode cX10_nthBit 28 = .ok (.iinc 2 1, 3) := by decide +kernel
theorem dX10_nthBit_31 : decode cX10_nthBit 31 = .ok (.iinc 3 1, 3) := by decide +kernel
theorem dX10_nthBit_34 : decode cX10_nthBit 34 = .ok (.goto (-30), 3) := by decide +kernel
theorem dX10_nthBit_37 : decode cX10_nthBit 37 = .ok (.iconst (-1), 1) := by decide +kernel
theorem dX10_nthBit_38 : decode cX10_nthBit 38 = .ok (.ireturn, 1) := by decide +kernel
def F_X10_nthBit (X Y : Nat → Int → Int) (R : Nat → Int → Option Nat) (a : Int) (b : Int) : Prop := (∀ i j, rI (X i j)) → (∀ i j, rL (Y i j)) → (∃ kn : Nat, (0 : Int) = kn ∧ kn ≤ 15 ∧ (0 : Int) = mOnesN a kn ∧ nbN a b kn = -1) ∧ (∀ (u : Int) (k : Int), rI u → rI k → (∃ kn : Nat, k = kn ∧ kn ≤ 15 ∧ u = mOnesN a kn ∧ nbN a b kn = -1) → (((15 ≤ k) → ((-1) = nbN (a) (b) 15)) ∧ ((¬ (15 ≤ k)) → (((¬ (zAnd (zShr (a) (k)) (1)) = 0) → (((¬ u = b) → ((rI (u + 1)) ∧ (rI (k + 1)) ∧ (∃ kn : Nat, (k + 1) = kn ∧ kn ≤ 15 ∧ (u + 1) = mOnesN a kn ∧ nbN a b kn = -1) ∧ (((20 - (k + 1)).toNat) < ((20 - (k)).toNat)))) ∧ ((¬ (¬ u = b)) → (k = nbN (a) (b) 15)))) ∧ ((¬ (¬ (zAnd (zShr (a) (k)) (1)) = 0)) → ((rI (k + 1)) ∧ (∃ kn : Nat, (k + 1) = kn ∧ kn ≤ 15 ∧ u = mOnesN a kn ∧ nbN a b kn = -1) ∧ (((20 - (k + 1)).toNat) < ((20 - (k)).toNat))))))))
set_option maxHeartbeats 4000000 in
set_option maxRecDepth 100000 in
theorem w_X10_nthBit {l : Launch} {D : va_G} {cy : Nat → ClassId} {bs N : Nat} {sa : Nat → Nat} {kd len : Nat → Nat} {X Y : Nat → Int → Int} {R : Nat → Int → Option Nat}  (a : Int) (ha : rI a) (b : Int) (hb : rI b) (hF : F_X10_nthBit  X Y R a b) : Met l yX10_nthBit (.code yX10_nthBit cX10_nthBit 4 (some .int) :: zTB) (zRm 0 0) (zPc D cy bs sa N kd len X Y R [.int (zI (a)), .int (zI (b))]) (zQi D cy bs N kd len (fun r st => r = nbN (a) (b) 15 ∧ st = (X, Y, R))) 0 0 (zA bs) := by
  refine zstart (by decide) (Nat.le_of_ble_eq_true rfl) ?_
  intro p e s m args below meth c ls C hE hH hr hlk hnm hl hargs
  have hF := hF hH.2.2.1 hH.2.2.2
  have hS : va_S (zA bs) s.heap s.heap [] := va_S.rf
  have hl : lv_has ls 4 [(0, .int (zI (a))), (1, .int (zI (b)))] := hl
  refine zd_iconst C dX10_nthBit_0 ?_
  refine lv_istore_n (lv' := [(2, .int (zI (0))), (0, .int (zI (a))), (1, .int (zI (b)))]) C.1 C.2.1 dX10_nthBit_1 rfl hl (by decide) rfl (fun ls hl => ?_)
  refine zd_iconst C dX10_nthBit_2 ?_
  refine lv_istore_n (lv' := [(3, .int (zI (0))), (2, .int (zI (0))), (0, .int (zI (a))), (1, .int (zI (b)))]) C.1 C.2.1 dX10_nthBit_3 rfl hl (by decide) rfl (fun ls hl => ?_)
  obtain ⟨hI1, hF⟩ := hF
  have L1 : ∀ (fu : Nat) (u : Int) (k : Int), rI u → rI k → (∃ kn : Nat, k = kn ∧ kn ≤ 15 ∧ u = mOnesN a kn ∧ nbN a b kn = -1) → ((20 - (k)).toNat) < fu → ∀ (H : Heap) (locs : List Loc) (ls : Array Slot), zH D cy bs N kd len X Y R H → va_S (zA bs) s.heap H locs → lv_has ls 4 [(2, .int (zI (u))), (3, .int (zI (k))), (0, .int (zI (a))), (1, .int (zI (b)))] → W p l e (zRm 0 0) s m args below meth c H locs 0 0 (MQ below (zQi D cy bs N kd len (fun r st => r = nbN (a) (b) 15 ∧ st = (X, Y, R))) args s 0 0 (zA bs)) (F0 m 4 ls []) := by
    intro fu
    induction fu with
    | zero => intro u k _ _ _ hmu; exact absurd hmu (Nat.not_lt_zero _)
    | succ fu ih1 =>
      intro u k hu hk hI hmu1 H locs ls hH hS hl
      have hF := hF u k hu hk  hI
      refine lv_iload_n C.1 C.2.1 dX10_nthBit_4 rfl (lv_at hl 1 rfl) ?_
      refine zd_bipush C (by decide) dX10_nthBit_5 ?_
      refine zd_icmp_ge C hk (by decide) 37 dX10_nthBit_7 (by decide) (fun c2 => ?_) (fun c2 => ?_)
      · have hF := hF.1 c2
        refine zd_iconst C dX10_nthBit_37 ?_
        exact zd_iret C hr hlk hH hS (by decide) (⟨hF, rfl⟩) dX10_nthBit_38
      · have hF := hF.2 c2
        refine lv_iload_n C.1 C.2.1 dX10_nthBit_10 rfl (lv_at hl 2 rfl) ?_
        refine lv_iload_n C.1 C.2.1 dX10_nthBit_11 rfl (lv_at hl 1 rfl) ?_
        refine zd_ishr C dX10_nthBit_12 ?_
        refine zd_iconst C dX10_nthBit_13 ?_
        refine zd_iand C dX10_nthBit_14 ?_
        refine zd_if_ne C (zI_rg _) 21 dX10_nthBit_15 (by decide) (fun c3 => ?_) (fun c3 => ?_)
        · have hF := hF.1 c3
          refine lv_iload_n C.1 C.2.1 dX10_nthBit_21 rfl (lv_at hl 0 rfl) ?_
          refine lv_iload_n C.1 C.2.1 dX10_nthBit_22 rfl (lv_at hl 3 rfl) ?_
          refine zd_icmp_ne C hu hb 28 dX10_nthBit_23 (by decide) (fun c4 => ?_) (fun c4 => ?_)
          · have hF := hF.1 c4
            refine zd_iinc (k := 0) (lv' := [(2, .int (zI (u + 1))), (3, .int (zI (k))), (0, .int (zI (a))), (1, .int (zI (b)))]) C hl rfl dX10_nthBit_28 (by decide) rfl (fun ls hl => ?_)
            refine zd_iinc (k := 1) (lv' := [(3, .int (zI (k + 1))), (2, .int (zI (u + 1))), (0, .int (zI (a))), (1, .int (zI (b)))]) C hl rfl dX10_nthBit_31 (by decide) rfl (fun ls hl => ?_)
            refine lv_goto (tgt := 4) C.1 C.2.1 dX10_nthBit_34 (by decide) ?_
            obtain ⟨o5, hF⟩ := hF
            obtain ⟨o6, hF⟩ := hF
            exact ih1 (u + 1) (k + 1) o5 o6 hF.1 (Nat.lt_of_lt_of_le hF.2 (Nat.le_of_lt_succ hmu1)) _ _ _ hH hS (lv_sub hl [1, 0, 2, 3] rfl)
          · have hF := hF.2 c4
            refine lv_iload_n C.1 C.2.1 dX10_nthBit_26 rfl (lv_at hl 1 rfl) ?_
            exact zd_iret C hr hlk hH hS hk (⟨hF, rfl⟩) dX10_nthBit_27
        · have hF := hF.2 c3
          refine lv_goto (tgt := 31) C.1 C.2.1 dX10_nthBit_18 (by decide) ?_
          refine zd_iinc (k := 1) (lv' := [(3, .int (zI (k + 1))), (2, .int (zI (u))), (0, .int (zI (a))), (1, .int (zI (b)))]) C hl rfl dX10_nthBit_31 (by decide) rfl (fun ls hl => ?_)
          refine lv_goto (tgt := 4) C.1 C.2.1 dX10_nthBit_34 (by decide) ?_
          obtain ⟨o7, hF⟩ := hF
          exact ih1 (u) (k + 1) hu o7 hF.1 (Nat.lt_of_lt_of_le hF.2 (Nat.le_of_lt_succ hmu1)) _ _ _ hH hS (lv_sub hl [1, 0, 2, 3] rfl)
  exact L1 (((20 - ((0 : Int))).toNat) + 1) ((0 : Int)) ((0 : Int)) (by decide) (by decide) hI1 (Nat.lt_succ_self _) _ _ _ hH hS (lv_sub hl [1, 0, 2, 3] rfl)
theorem v_X10_nthBit {X Y : Nat → Int → Int} {R : Nat → Int → Option Nat}  (a : Int) (ha : rI a) (b : Int) (hb : rI b) : F_X10_nthBit  X Y R a b := by
  unfold F_X10_nthBit
  intro hX hY
  refine ⟨?_, ?_⟩
  · exact ⟨0, rfl, by omega, rfl, rfl⟩
  intro u k
  intro _
  intro _
  intro h1
  obtain ⟨kn, rfl, k15, rfl, hn⟩ := h1
  have ob := mOnesN_b a kn
  refine ⟨?_, ?_⟩
  · intro c1
    rw [show (15 : Nat) = kn by omega, hn]
  intro c2
  have st : nbN a b (kn + 1) = if nbN a b kn = -1 then (if mHas a kn = true ∧ mOnesN a kn = b then (kn : Int) else -1) else nbN a b kn := rfl
  rw [hn, if_pos rfl] at st
  have so : mOnesN a (kn + 1) = mOnesN a kn + bz (mHas a kn) := rfl
  refine ⟨?_, ?_⟩
  · intro c3
    have c3 := has_1.mpr c3
    rw [c3] at so
    refine ⟨?_, ?_⟩
    · intro c4
      refine ⟨?_, ?_⟩
      · exact ⟨by omega, by omega⟩
      refine ⟨?_, ?_⟩
      · first | omega | exact ⟨by omega, by omega⟩ | decide | assumption | exact ⟨by omega, by omega, by omega⟩ | exact ⟨by decide, by decide⟩
      refine ⟨?_, ?_⟩
      · rw [if_neg (fun z => c4 z.2)] at st
        exact ⟨kn + 1, by omega, by omega, by rw [so]; rfl, st⟩
      first | omega | exact ⟨by omega, by omega⟩ | decide | assumption | exact ⟨by omega, by omega, by omega⟩ | exact ⟨by decide, by decide⟩
    intro c5
    rw [if_pos ⟨c3, Classical.not_not.mp c5⟩] at st
    have g := nbN_st (s := a) (n := b) (m := kn + 1) (by rw [st]; omega) (14 - kn)
    rw [show kn + 1 + (14 - kn) = 15 by omega] at g
    rw [g, st]
  intro c6
  have c6 := has_0.mpr (Classical.not_not.mp c6)
  rw [c6] at so
  refine ⟨?_, ?_⟩
  · first | omega | exact ⟨by omega, by omega⟩ | decide | assumption | exact ⟨by omega, by omega, by omega⟩ | exact ⟨by decide, by decide⟩
  refine ⟨?_, ?_⟩
  · rw [if_neg (fun z => by rw [c6] at z; exact absurd z.1 (by decide))] at st
    exact ⟨kn + 1, by omega, by omega, by rw [so]; exact (Int.add_zero _).symm, st⟩
  first | omega | exact ⟨by omega, by omega⟩ | decide | assumption | exact ⟨by omega, by omega, by omega⟩ | exact ⟨by decide, by decide⟩
theorem c_X10_nthBit {l : Launch} {D : va_G} {cy : Nat → ClassId} {bs N : Nat} {sa : Nat → Nat} {kd len : Nat → Nat} {X Y : Nat → Int → Int} {R : Nat → Int → Option Nat}  (a : Int) (ha : rI a) (b : Int) (hb : rI b) : Met l yX10_nthBit (.code yX10_nthBit cX10_nthBit 4 (some .int) :: zTB) (zRm 0 0) (zPc D cy bs sa N kd len X Y R [.int (zI (a)), .int (zI (b))]) (zQi D cy bs N kd len (fun r st => r = nbN (a) (b) 15 ∧ st = (X, Y, R))) 0 0 (zA bs) := w_X10_nthBit  a ha b hb (v_X10_nthBit a ha b hb)
abbrev cX10_lowest : ByteArray := prog_1_method_49_code
def yX10_lowest : MethodName := ⟨RX10, "lowest", "(I)I"⟩
theorem dX10_lowest_0 : decode cX10_lowest 0 = .ok (.iload_n 0, 1) := by decide +kernel
theorem dX10_lowest_1 : decode cX10_lowest 1 = .ok (.iconst 0, 1) := by decide +kernel
theorem dX10_lowest_2 : decode cX10_lowest 2 = .ok (.invokestatic 393, 3) := by decide +kernel
theorem dX10_lowest_5 : decode cX10_lowest 5 = .ok (.ireturn, 1) := by decide +kernel
theorem q_1162 : Cond.static yX10_nthBit ∈ zTB := zmem 1162 (by decide +kernel) rfl
theorem q_1163 : Cond.code yX10_nthBit cX10_nthBit 4 (some .int) ∈ zTB := zmem 1163 (by decide +kernel) rfl
theorem q_1161 : Cond.methodLink RX10 393 yX10_nthBit ∈ zTB := zmem 1161 (by decide +kernel) rfl
theorem k_RX10_393 : zLs RX10 393 yX10_nthBit cX10_nthBit 4 (some .int) 2 := ⟨⟨q_1161, q_1162, q_129, q_1163⟩, ⟨by decide, by decide⟩, by decide +kernel⟩
def F_X10_lowest (X Y : Nat → Int → Int) (R : Nat → Int → Option Nat) (a : Int) : Prop := (∀ i j, rI (X i j)) → (∀ i j, rL (Y i j)) → rI (nbN (a) ((0 : Int)) 15) → (nbN (a) ((0 : Int)) 15 = nbN (a) 0 15)
set_option maxHeartbeats 4000000 in
set_option maxRecDepth 100000 in
theorem w_X10_lowest {l : Launch} {D : va_G} {cy : Nat → ClassId} {bs N : Nat} {sa : Nat → Nat} {kd len : Nat → Nat} {X Y : Nat → Int → Int} {R : Nat → Int → Option Nat}  (a : Int) (ha : rI a) (hF : F_X10_lowest  X Y R a) : Met l yX10_lowest (.code yX10_lowest cX10_lowest 1 (some .int) :: zTB) (zRm 1 23) (zPc D cy bs sa N kd len X Y R [.int (zI (a))]) (zQi D cy bs N kd len (fun r st => r = nbN (a) 0 15 ∧ st = (X, Y, R))) 0 0 (zA bs) := by
  refine zstart (by decide) (Nat.le_of_ble_eq_true rfl) ?_
  intro p e s m args below meth c ls C hE hH hr hlk hnm hl hargs
  have hF := hF hH.2.2.1 hH.2.2.2
  have hS : va_S (zA bs) s.heap s.heap [] := va_S.rf
  have hl : lv_has ls 1 [(0, .int (zI (a)))] := hl
  refine lv_iload_n C.1 C.2.1 dX10_lowest_0 rfl (lv_at hl 0 rfl) ?_
  refine zd_iconst C dX10_lowest_1 ?_
  refine zgoi (zrunS (As := [.int (zI (a)), .int (zI (0))]) (rest := []) C hE hH hS hl.1 (c_X10_nthBit (l := l)  (a) ha (0) (by decide)) k_RX10_393 ⟨Nat.le_of_ble_eq_true rfl, Nat.le_of_ble_eq_true rfl⟩ rfl (Nat.le_of_ble_eq_true rfl) dX10_lowest_2 ⟨Nat.zero_le _, Nat.zero_le _⟩) hS (fun rq Xq Yq Rq H locs hrq hq hH hS => ?_)
  obtain ⟨h91, h92⟩ := hq
  have h93 : Xq = X := congrArg (fun z => z.1) h92
  have h94 : Yq = Y := congrArg (fun z => z.2.1) h92
  have h95 : Rq = R := congrArg (fun z => z.2.2) h92
  rw [h93, h94, h95] at hH
  subst h91
  have hr1 := hrq
  have hF := hF hr1
  exact zd_iret C hr hlk hH hS hr1 (⟨hF, rfl⟩) dX10_lowest_5
theorem v_X10_lowest {X Y : Nat → Int → Int} {R : Nat → Int → Option Nat}  (a : Int) (ha : rI a) : F_X10_lowest  X Y R a := by
  unfold F_X10_lowest
  intro hX hY
  intro _
  rfl
theorem c_X10_lowest {l : Launch} {D : va_G} {cy : Nat → ClassId} {bs N : Nat} {sa : Nat → Nat} {kd len : Nat → Nat} {X Y : Nat → Int → Int} {R : Nat → Int → Option Nat}  (a : Int) (ha : rI a) : Met l yX10_lowest (.code yX10_lowest cX10_lowest 1 (some .int) :: zTB) (zRm 1 23) (zPc D cy bs sa N kd len X Y R [.int (zI (a))]) (zQi D cy bs N kd len (fun r st => r = nbN (a) 0 15 ∧ st = (X, Y, R))) 0 0 (zA bs) := w_X10_lowest  a ha (v_X10_lowest a ha)
abbrev cX10_highest : ByteArray := prog_1_method_50_code
def yX10_highest : MethodName := ⟨RX10, "highest", "(I)I"⟩
theorem dX10_highest_0 : decode cX10_highest 0 = .ok (.iload_n 0, 1) := by decide +kernel
theorem dX10_highest_1 : decode cX10_highest 1 = .ok (.iload_n 0, 1) := by decide +kernel
theorem dX10_highest_2 : decode cX10_highest 2 = .ok (.invokestatic 317, 3) := by decide +kernel
theorem dX10_highest_5 : decode cX10_highest 5 = .ok (.iconst 1, 1) := by decide +kernel
theorem dX10_highest_6 : decode cX10_highest 6 = .ok (.isub, 1) := by decide +kernel
theorem dX10_highest_7 : decode cX10_highest 7 = .ok (.invokestatic 393, 3) := by decide +kernel
theorem dX10_highest_10 : decode cX10_highest 10 = .ok (.ireturn, 1) := by decide +kernel
theorem q_1001 : Cond.static yJ6_bitCount_0f7a4 ∈ zTB := zmem 1001 (by decide +kernel) rfl
theorem q_147 : Cond.initialized yJ6_bitCount_0f7a4.cls ∈ zTB := zmem 147 (by decide +kernel) rfl
theorem q_1002 : Cond.code yJ6_bitCount_0f7a4 cJ6_bitCount_0f7a4 1 (some .int) ∈ zTB := zmem 1002 (by decide +kernel) rfl
theorem q_1080 : Cond.methodLink RX10 317 yJ6_bitCount_0f7a4 ∈ zTB := zmem 1080 (by decide +kernel) rfl
theorem k_RX10_317 : zLs RX10 317 yJ6_bitCount_0f7a4 cJ6_bitCount_0f7a4 1 (some .int) 1 := ⟨⟨q_1080, q_1001, q_147, q_1002⟩, ⟨by decide, by decide⟩, by decide +kernel⟩
def F_X10_highest (X Y : Nat → Int → Int) (R : Nat → Int → Option Nat) (a : Int) : Prop := (∀ i j, rI (X i j)) → (∀ i j, rL (Y i j)) → rI (mBc (a)) → ((rI ((mBc (a)) - 1)) ∧ (rI (nbN (a) ((mBc (a)) - 1) 15) → (nbN (a) ((mBc (a)) - 1) 15 = nbN (a) (mOnes (a) - 1) 15)))
set_option maxHeartbeats 4000000 in
set_option maxRecDepth 100000 in
theorem w_X10_highest {l : Launch} {D : va_G} {cy : Nat → ClassId} {bs N : Nat} {sa : Nat → Nat} {kd len : Nat → Nat} {X Y : Nat → Int → Int} {R : Nat → Int → Option Nat}  (a : Int) (ha : rI a) (hF : F_X10_highest  X Y R a) : Met l yX10_highest (.code yX10_highest cX10_highest 1 (some .int) :: zTB) (zRm 1 23) (zPc D cy bs sa N kd len X Y R [.int (zI (a))]) (zQi D cy bs N kd len (fun r st => r = nbN (a) (mOnes (a) - 1) 15 ∧ st = (X, Y, R))) 0 0 (zA bs) := by
  refine zstart (by decide) (Nat.le_of_ble_eq_true rfl) ?_
  intro p e s m args below meth c ls C hE hH hr hlk hnm hl hargs
  have hF := hF hH.2.2.1 hH.2.2.2
  have hS : va_S (zA bs) s.heap s.heap [] := va_S.rf
  have hl : lv_has ls 1 [(0, .int (zI (a)))] := hl
  refine lv_iload_n C.1 C.2.1 dX10_highest_0 rfl (lv_at hl 0 rfl) ?_
  refine lv_iload_n C.1 C.2.1 dX10_highest_1 rfl (lv_at hl 0 rfl) ?_
  refine zgoi (zrunS (As := [.int (zI (a))]) (rest := [.int (zI (a))]) C hE hH hS hl.1 (c_J6_bitCount_0f7a4 (l := l)  (a) ha) k_RX10_317 ⟨Nat.le_of_ble_eq_true rfl, Nat.le_of_ble_eq_true rfl⟩ rfl (Nat.le_of_ble_eq_true rfl) dX10_highest_2 ⟨Nat.zero_le _, Nat.zero_le _⟩) hS (fun rq Xq Yq Rq H locs hrq hq hH hS => ?_)
  obtain ⟨h91, h92⟩ := hq
  have h93 : Xq = X := congrArg (fun z => z.1) h92
  have h94 : Yq = Y := congrArg (fun z => z.2.1) h92
  have h95 : Rq = R := congrArg (fun z => z.2.2) h92
  rw [h93, h94, h95] at hH
  subst h91
  have hr1 := hrq
  have hF := hF hr1
  refine zd_iconst C dX10_highest_5 ?_
  refine zd_isub C dX10_highest_6 ?_
  obtain ⟨o2, hF⟩ := hF
  refine zgoi (zrunS (As := [.int (zI (a)), .int (zI ((mBc (a)) - 1))]) (rest := []) C hE hH hS hl.1 (c_X10_nthBit (l := l)  (a) ha ((mBc (a)) - 1) o2) k_RX10_393 ⟨Nat.le_of_ble_eq_true rfl, Nat.le_of_ble_eq_true rfl⟩ rfl (Nat.le_of_ble_eq_true rfl) dX10_highest_7 ⟨Nat.zero_le _, Nat.zero_le _⟩) hS (fun rq Xq Yq Rq H locs hrq hq hH hS => ?_)
  obtain ⟨h91, h92⟩ := hq
  have h93 : Xq = X := congrArg (fun z => z.1) h92
  have h94 : Yq = Y := congrArg (fun z => z.2.1) h92
  have h95 : Rq = R := congrArg (fun z => z.2.2) h92
  rw [h93, h94, h95] at hH
  subst h91
  have hr3 := hrq
  have hF := hF hr3
  exact zd_iret C hr hlk hH hS hr3 (⟨hF, rfl⟩) dX10_highest_10
theorem v_X10_highest {X Y : Nat → Int → Int} {R : Nat → Int → Option Nat}  (a : Int) (ha : rI a) (hp : 0 ≤ a ∧ a < 32768) : F_X10_highest  X Y R a := by
  unfold F_X10_highest
  intro hX hY
  have e := mBc_ones hp.1 hp.2
  have b := mOnes_b a
  intro _
  refine ⟨?_, ?_⟩
  · rw [e]
    exact ⟨by omega, by omega⟩
  intro _
  rw [e]
theorem c_X10_highest {l : Launch} {D : va_G} {cy : Nat → ClassId} {bs N : Nat} {sa : Nat → Nat} {kd len : Nat → Nat} {X Y : Nat → Int → Int} {R : Nat → Int → Option Nat}  (a : Int) (ha : rI a) (hp : 0 ≤ a ∧ a < 32768) : Met l yX10_highest (.code yX10_highest cX10_highest 1 (some .int) :: zTB) (zRm 1 23) (zPc D cy bs sa N kd len X Y R [.int (zI (a))]) (zQi D cy bs N kd len (fun r st => r = nbN (a) (mOnes (a) - 1) 15 ∧ st = (X, Y, R))) 0 0 (zA bs) := w_X10_highest  a ha (v_X10_highest a ha hp)
