/-! ===== Int32 by its bits: bt x i ===== -/
def bt (x : Int32) (i : Nat) : Bool := x.toBitVec.getLsbD i
theorem b_ext {x y : Int32} (h : ∀ i, i < 32 → bt x i = bt y i) : x = y := Int32.toBitVec_inj.mp (BitVec.eq_of_getLsbD_eq (fun i hi => h i hi))
theorem b_or (x y : Int32) (i : Nat) : bt (x ||| y) i = (bt x i || bt y i) := by unfold bt; rw [Int32.toBitVec_or, BitVec.getLsbD_or]
theorem b_and (x y : Int32) (i : Nat) : bt (x &&& y) i = (bt x i && bt y i) := by unfold bt; rw [Int32.toBitVec_and, BitVec.getLsbD_and]
theorem b_xor (x y : Int32) (i : Nat) : bt (x ^^^ y) i = (bt x i ^^ bt y i) := by unfold bt; rw [Int32.toBitVec_xor, BitVec.getLsbD_xor]
theorem b_big {x : Int32} {i : Nat} (h : 32 ≤ i) : bt x i = false := BitVec.getLsbD_of_ge _ _ h
theorem b_255 (i : Nat) : bt 255 i = decide (i < 8) := by
  rcases Nat.lt_or_ge i 32 with h | h
  · exact (by decide +kernel : ∀ i, i < 32 → bt 255 i = decide (i < 8)) i h
  · rw [b_big h, decide_eq_false (by omega)]
theorem b_65535 (i : Nat) : bt 65535 i = decide (i < 16) := by
  rcases Nat.lt_or_ge i 32 with h | h
  · exact (by decide +kernel : ∀ i, i < 32 → bt 65535 i = decide (i < 16)) i h
  · rw [b_big h, decide_eq_false (by omega)]
theorem b_m1 : ∀ i, i < 32 → bt (-1) i = true := by decide +kernel
theorem b_0 (i : Nat) : bt 0 i = false := BitVec.getLsbD_zero
theorem s_l : ∀ n, n < 32 → ((nI n &&& 31).toBitVec.smod 32).toNat = n := by decide +kernel
theorem s_u : ∀ n, n < 32 → (((nI n).toUInt32 &&& Int32.toUInt32 31).toBitVec % 32).toNat = n := by decide +kernel
theorem b_shl (n : Nat) (hn : n < 32) (x : Int32) {i : Nat} (hi : i < 32) : bt (x <<< (nI n &&& 31)) i = (decide (n ≤ i) && bt x (i - n)) := by
  unfold bt
  rw [Int32.toBitVec_shiftLeft]
  show (x.toBitVec <<< ((nI n &&& 31).toBitVec.smod 32).toNat).getLsbD i = _
  rw [s_l n hn, BitVec.getLsbD_shiftLeft]
  rcases Nat.lt_or_ge i n with h | h
  · simp [h, Nat.not_le.mpr h]
  · simp [hi, h, Nat.not_lt.mpr h]
theorem b_ushr (n : Nat) (hn : n < 32) (x : Int32) (i : Nat) : bt ((x.toUInt32 >>> ((nI n).toUInt32 &&& Int32.toUInt32 31)).toInt32) i = bt x (n + i) := by
  show (x.toUInt32 >>> ((nI n).toUInt32 &&& Int32.toUInt32 31)).toBitVec.getLsbD i = x.toUInt32.toBitVec.getLsbD (n + i)
  rw [UInt32.toBitVec_shiftRight]
  show (x.toUInt32.toBitVec >>> (((nI n).toUInt32 &&& Int32.toUInt32 31).toBitVec % 32).toNat).getLsbD i = _
  rw [s_u n hn, BitVec.getLsbD_ushiftRight]
theorem b_sshr (n : Nat) (hn : n < 32) (x : Int32) {i : Nat} (hi : i < 32) : bt (x >>> (nI n &&& 31)) i = if n + i < 32 then bt x (n + i) else bt x 31 := by
  unfold bt
  rw [Int32.toBitVec_shiftRight]
  show (x.toBitVec.sshiftRight ((nI n &&& 31).toBitVec.smod 32).toNat).getLsbD i = _
  rw [s_l n hn, BitVec.getLsbD_sshiftRight, BitVec.msb_eq_getLsbD_last]
  simp [hi]
theorem b_shl8 (x : Int32) {i : Nat} (hi : i < 32) : bt (x <<< ((8 : Int32) &&& 31)) i = (decide (8 ≤ i) && bt x (i - 8)) := b_shl 8 (by omega) x hi
theorem b_shl16 (x : Int32) {i : Nat} (hi : i < 32) : bt (x <<< ((16 : Int32) &&& 31)) i = (decide (16 ≤ i) && bt x (i - 16)) := b_shl 16 (by omega) x hi
theorem b_shl24 (x : Int32) {i : Nat} (hi : i < 32) : bt (x <<< ((24 : Int32) &&& 31)) i = (decide (24 ≤ i) && bt x (i - 24)) := b_shl 24 (by omega) x hi
theorem b_sshr8 (x : Int32) {i : Nat} (hi : i < 32) : bt (x >>> ((8 : Int32) &&& 31)) i = if 8 + i < 32 then bt x (8 + i) else bt x 31 := b_sshr 8 (by omega) x hi
/-! SETS OF BLOCKS AS BITS -/
def zb (s : Int) (k : Nat) : Bool := bt (zI s) k
theorem zI_nat (n : Nat) : zI (n : Int) = nI n := Int32.ofInt_eq_ofNat
theorem zb_and (a b : Int) (k : Nat) : zb (zAnd a b) k = (zb a k && zb b k) := by
  unfold zb zAnd
  rw [zI_of, b_and]
theorem zb_or (a b : Int) (k : Nat) : zb (zOr a b) k = (zb a k || zb b k) := by
  unfold zb zOr
  rw [zI_of, b_or]
theorem zb_not (a : Int) {k : Nat} (h : k < 32) : zb (zXor a (-1)) k = !zb a k := by
  unfold zb zXor
  rw [zI_of, b_xor, show zI (-1) = -1 from rfl, b_m1 k h]
  cases bt (zI a) k <;> rfl
theorem zb_1 : ∀ m, m < 32 → zb 1 m = decide (m = 0) := by decide +kernel
theorem zb_0 (k : Nat) : zb 0 k = false := b_0 k
theorem zb_one {j k : Nat} (hj : j < 32) (hk : k < 32) : zb (zShl 1 j) k = decide (k = j) := by
  unfold zb zShl
  rw [zI_of, zI_nat, b_shl j hj _ hk]
  have h1 := zb_1 (k - j) (by omega)
  unfold zb at h1
  rw [h1]
  by_cases h : j ≤ k
  · rw [decide_eq_true h, Bool.true_and]
    congr 1
    exact propext ⟨fun _ => by omega, fun _ => by omega⟩
  · rw [decide_eq_false h, Bool.false_and]
    exact (decide_eq_false (by omega)).symm
theorem zb_ext {a b : Int} (ha : rI a) (hb : rI b) (h : ∀ k, k < 32 → zb a k = zb b k) : a = b := (zI_eq ha hb).mp (b_ext h)
theorem zb_shr (s : Int) {j k : Nat} (hj : j < 32) (h : j + k < 32) : zb (zShr s j) k = zb s (j + k) := by
  unfold zb zShr
  rw [zI_of, zI_nat, b_sshr j hj _ (by omega), if_pos h]
theorem mHas_zb (s : Int) {k : Nat} (hk : k < 32) : mHas s k = zb s k := by
  have e : zAnd (zShr s k) 1 = if zb s k then 1 else 0 := by
    refine zb_ext (zI_rg _) (by split <;> decide) (fun m hm => ?_)
    rw [zb_and, zb_1 m hm]
    by_cases h0 : m = 0
    · subst h0
      rw [zb_shr s hk (by omega)]
      cases zb s (k + 0) <;> simp [zb_1, zb_0] <;> rfl
    · rw [decide_eq_false h0, Bool.and_false]
      split
      · rw [zb_1 m hm, decide_eq_false h0]
      · rw [zb_0]
  unfold mHas
  rw [e]
  cases zb s k <;> rfl
theorem zOr_0 {a : Int} (h : rI a) : zOr a 0 = a := zb_ext (zI_rg _) h (fun k _ => by rw [zb_or, zb_0, Bool.or_false])
/-- the set of those below n of which f says true -/
def bS (f : Nat → Bool) : Nat → Int
  | 0 => 0
  | n + 1 => if f n then zOr (bS f n) (zShl 1 n) else bS f n
theorem bS_rg (f : Nat → Bool) : ∀ n, rI (bS f n)
  | 0 => by show rI 0; decide
  | n + 1 => by
    unfold bS
    split
    · exact zI_rg _
    · exact bS_rg f n
theorem zb_bS (f : Nat → Bool) : ∀ n k, n ≤ 32 → k < 32 → zb (bS f n) k = (decide (k < n) && f k)
  | 0, k, _, _ => by
    show zb 0 k = _
    rw [zb_0, decide_eq_false (by omega), Bool.false_and]
  | n + 1, k, hn, hk => by
    have ih := zb_bS f n k (by omega) hk
    unfold bS
    by_cases h : f n
    · rw [if_pos h, zb_or, ih, zb_one (by omega) hk]
      by_cases e : k = n
      · subst e
        simp [h]
      · rw [decide_eq_false e, Bool.or_false]
        congr 1
        rw [decide_eq_decide]
        omega
    · rw [if_neg h, ih]
      by_cases e : k = n
      · subst e
        simp [h]
      · congr 1
        rw [decide_eq_decide]
        omega
theorem bS_has (f : Nat → Bool) {n k : Nat} (hn : n ≤ 32) (hk : k < n) : mHas (bS f n) k = f k := by
  rw [mHas_zb _ (by omega), zb_bS f n k hn (by omega), decide_eq_true hk, Bool.true_and]
theorem bS_cong {f g : Nat → Bool} : ∀ {n : Nat}, (∀ k, k < n → f k = g k) → bS f n = bS g n
  | 0, _ => rfl
  | n + 1, h => by
    unfold bS
    rw [bS_cong (fun k hk => h k (by omega)), h n (by omega)]
/-! LEDGERS -/
def upI (L : Int → Int) (a v : Int) : Int → Int := fun b => if b = a then v else L b
/-- pays, one behind the other; none if one can't be done -/
def sPay (acc : Int) (pf pt pm : Nat → Int) (L : Int → Int) : Nat → Option (Int → Int)
  | 0 => some L
  | n + 1 => match sPay acc pf pt pm L n with
    | none => none
    | some M => if mIn (pf n) 0 (acc - 1) && mIn (pt n) 0 (acc - 1) && decide (pm n ≤ M (pf n)) then some (upI (upI M (pf n) (M (pf n) - pm n)) (pt n) (upI M (pf n) (M (pf n) - pm n) (pt n) + pm n)) else none
theorem sPay_no {acc : Int} {pf pt pm : Nat → Int} {L : Int → Int} {n : Nat} (h : sPay acc pf pt pm L n = none) : ∀ d, sPay acc pf pt pm L (n + d) = none
  | 0 => h
  | d + 1 => by
    show (match sPay acc pf pt pm L (n + d) with | none => none | some M => _) = (none : Option (Int → Int))
    rw [sPay_no h d]
