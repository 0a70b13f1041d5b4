/-- true and false as ints -/
def bz (b : Bool) : Int := if b then 1 else 0
theorem bz_eq0 {b : Bool} : bz b = 0 ↔ b = false := by cases b <;> decide
theorem bz_rg {b : Bool} : rI (bz b) := by cases b <;> decide
theorem bz_01 {b : Bool} : bz b = 0 ∨ bz b = 1 := by cases b <;> decide
def zAnd (a b : Int) : Int := (zI a &&& zI b).toInt
def zOr (a b : Int) : Int := (zI a ||| zI b).toInt
def zXor (a b : Int) : Int := (zI a ^^^ zI b).toInt
def zShl (a b : Int) : Int := (zI a <<< (zI b &&& 31)).toInt
def zShr (a b : Int) : Int := (zI a >>> (zI b &&& 31)).toInt
def zUsh (a b : Int) : Int := ((zI a).toUInt32 >>> ((zI b).toUInt32 &&& Int32.toUInt32 31)).toInt32.toInt
def zByt (a : Int) : Int := (zI a).toInt8.toInt
def zLor (a b : Int) : Int := (zL a ||| zL b).toInt
def zLsh (a b : Int) : Int := (zL a <<< ((zI b).toInt64 &&& 63)).toInt
def zCmp (a b : Int) : Int := if b < a then 1 else if a = b then 0 else -1
theorem zCmp_rg {a b : Int} : rI (zCmp a b) := by
  unfold zCmp
  split
  · decide
  · split <;> decide
theorem zCmp_lt {a b : Int} : zCmp a b < 0 ↔ a < b := by
  unfold zCmp
  split
  · constructor <;> intro h <;> omega
  · split <;> constructor <;> intro h <;> omega
theorem zCmp_gt {a b : Int} : 0 < zCmp a b ↔ b < a := by
  unfold zCmp
  split
  · constructor <;> intro h <;> omega
  · split <;> constructor <;> intro h <;> omega
theorem zCmp_le {a b : Int} : zCmp a b ≤ 0 ↔ a ≤ b := by
  unfold zCmp
  split
  · constructor <;> intro h <;> omega
  · split <;> constructor <;> intro h <;> omega
theorem zCmp_ge {a b : Int} : 0 ≤ zCmp a b ↔ b ≤ a := by
  unfold zCmp
  split
  · constructor <;> intro h <;> omega
  · split <;> constructor <;> intro h <;> omega
theorem zCmp_eq {a b : Int} : zCmp a b = 0 ↔ a = b := by
  unfold zCmp
  split
  · constructor <;> intro h <;> omega
  · split <;> constructor <;> intro h <;> omega
theorem zI_div {a b : Int} (ha : rI a) (hb : rI b) (h : b ≠ -1) : zI a / zI b = zI (a.tdiv b) := (Int32.ofInt_tdiv (show -2147483648 ≤ a from ha.1) (show a ≤ 2147483647 from ha.2) (show -2147483648 ≤ b from hb.1) (show b ≤ 2147483647 from hb.2)).symm
theorem zI_mod {a b : Int} (ha : rI a) (hb : rI b) (h : b ≠ -1) : zI a - zI a / zI b * zI b = zI (a.tmod b) := by
  rw [zI_div ha hb h]
  have e : a.tmod b = a - a.tdiv b * b := by
    rw [Int.tmod_def, Int.mul_comm]
  rw [e]
  unfold zI
  rw [Int32.ofInt_sub, Int32.ofInt_mul]
theorem zL_div {a b : Int} (ha : rL a) (hb : rL b) (h : b ≠ -1) : zL a / zL b = zL (a.tdiv b) := (Int64.ofInt_tdiv (show -9223372036854775808 ≤ a from ha.1) (show a ≤ 9223372036854775807 from ha.2) (show -9223372036854775808 ≤ b from hb.1) (show b ≤ 9223372036854775807 from hb.2)).symm
theorem zL_mod {a b : Int} (ha : rL a) (hb : rL b) (h : b ≠ -1) : zL a - zL a / zL b * zL b = zL (a.tmod b) := by
  rw [zL_div ha hb h]
  have e : a.tmod b = a - a.tdiv b * b := by
    rw [Int.tmod_def, Int.mul_comm]
  rw [e]
  unfold zL
  rw [Int64.ofInt_sub, Int64.ofInt_mul]
section ZI
variable {p : Program} {l : Launch} {e : Env} {R0 : Room} {s : State} {m : MethodId} {args : Array Value} {below : List Frame} {meth : Method} {c : Code} {H : Heap} {locs : List Loc} {cells slots : Nat} {Q : State → Prop}
variable {cc : ByteArray} {pc nL : Nat} {ls : Array Slot} {rest : List Value} {D : va_G} {cy : Nat → ClassId} {own : String} {bs N : Nat} {kd len : Nat → Nat} {X Y : Nat → Int → Int} {R : Nat → Int → Option Nat} {H0 : Heap}
theorem zd_iadd (C : zC p m c cc nL s args own D cy) {a b : Int} (hdg : decode cc pc = .ok (.iadd, 1))
    (kk : W p l e R0 s m args below meth c H locs cells slots Q (F0 m (pc + 1) ls (.int (zI (a + b)) :: rest))) : W p l e R0 s m args below meth c H locs cells slots Q (F0 m pc ls (.int (zI b) :: .int (zI a) :: rest)) := by
  refine lv_iadd C.1 C.2.1 hdg ?_
  unfold zI
  rw [← Int32.ofInt_add]
  exact kk
theorem zd_isub (C : zC p m c cc nL s args own D cy) {a b : Int} (hdg : decode cc pc = .ok (.isub, 1))
    (kk : W p l e R0 s m args below meth c H locs cells slots Q (F0 m (pc + 1) ls (.int (zI (a - b)) :: rest))) : W p l e R0 s m args below meth c H locs cells slots Q (F0 m pc ls (.int (zI b) :: .int (zI a) :: rest)) := by
  refine lv_isub C.1 C.2.1 hdg ?_
  unfold zI
  rw [← Int32.ofInt_sub]
  exact kk
theorem zd_imul (C : zC p m c cc nL s args own D cy) {a b : Int} (hdg : decode cc pc = .ok (.imul, 1))
    (kk : W p l e R0 s m args below meth c H locs cells slots Q (F0 m (pc + 1) ls (.int (zI (a * b)) :: rest))) : W p l e R0 s m args below meth c H locs cells slots Q (F0 m pc ls (.int (zI b) :: .int (zI a) :: rest)) := by
  refine lv_imul C.1 C.2.1 hdg ?_
  unfold zI
  rw [← Int32.ofInt_mul]
  exact kk
theorem zd_ladd (C : zC p m c cc nL s args own D cy) {a b : Int} (hdg : decode cc pc = .ok (.ladd, 1))
    (kk : W p l e R0 s m args below meth c H locs cells slots Q (F0 m (pc + 1) ls (.long (zL (a + b)) :: rest))) : W p l e R0 s m args below meth c H locs cells slots Q (F0 m pc ls (.long (zL b) :: .long (zL a) :: rest)) := by
  refine lv_ladd C.1 C.2.1 hdg ?_
  unfold zL
  rw [← Int64.ofInt_add]
  exact kk
theorem zd_lsub (C : zC p m c cc nL s args own D cy) {a b : Int} (hdg : decode cc pc = .ok (.lsub, 1))
    (kk : W p l e R0 s m args below meth c H locs cells slots Q (F0 m (pc + 1) ls (.long (zL (a - b)) :: rest))) : W p l e R0 s m args below meth c H locs cells slots Q (F0 m pc ls (.long (zL b) :: .long (zL a) :: rest)) := by
  refine lv_lsub C.1 C.2.1 hdg ?_
  unfold zL
  rw [← Int64.ofInt_sub]
  exact kk
theorem zd_lmul (C : zC p m c cc nL s args own D cy) {a b : Int} (hdg : decode cc pc = .ok (.lmul, 1))
    (kk : W p l e R0 s m args below meth c H locs cells slots Q (F0 m (pc + 1) ls (.long (zL (a * b)) :: rest))) : W p l e R0 s m args below meth c H locs cells slots Q (F0 m pc ls (.long (zL b) :: .long (zL a) :: rest)) := by
  refine lv_lmul C.1 C.2.1 hdg ?_
  unfold zL
  rw [← Int64.ofInt_mul]
  exact kk
theorem zd_idiv (C : zC p m c cc nL s args own D cy) {a b : Int} (ha : rI a) (hb : rI b) (h0 : b ≠ 0) (h1 : b ≠ -1) (hdg : decode cc pc = .ok (.idiv, 1))
    (kk : W p l e R0 s m args below meth c H locs cells slots Q (F0 m (pc + 1) ls (.int (zI (a.tdiv b)) :: rest))) : W p l e R0 s m args below meth c H locs cells slots Q (F0 m pc ls (.int (zI b) :: .int (zI a) :: rest)) := by
  refine lv_idiv C.1 C.2.1 hdg (fun q => h0 ((zI_eq hb (by decide)).mp (q.trans zI_0))) ?_
  rw [zI_div ha hb h1]
  exact kk
theorem zd_irem (C : zC p m c cc nL s args own D cy) {a b : Int} (ha : rI a) (hb : rI b) (h0 : b ≠ 0) (h1 : b ≠ -1) (hdg : decode cc pc = .ok (.irem, 1))
    (kk : W p l e R0 s m args below meth c H locs cells slots Q (F0 m (pc + 1) ls (.int (zI (a.tmod b)) :: rest))) : W p l e R0 s m args below meth c H locs cells slots Q (F0 m pc ls (.int (zI b) :: .int (zI a) :: rest)) := by
  refine lv_irem C.1 C.2.1 hdg (fun q => h0 ((zI_eq hb (by decide)).mp (q.trans zI_0))) ?_
  rw [zI_mod ha hb h1]
  exact kk
theorem zd_ldiv (C : zC p m c cc nL s args own D cy) {a b : Int} (ha : rL a) (hb : rL b) (h0 : b ≠ 0) (h1 : b ≠ -1) (hdg : decode cc pc = .ok (.ldiv, 1))
    (kk : W p l e R0 s m args below meth c H locs cells slots Q (F0 m (pc + 1) ls (.long (zL (a.tdiv b)) :: rest))) : W p l e R0 s m args below meth c H locs cells slots Q (F0 m pc ls (.long (zL b) :: .long (zL a) :: rest)) := by
  refine lv_ldiv C.1 C.2.1 hdg (fun q => h0 ((zL_eq hb (by decide)).mp (q.trans rfl))) ?_
  rw [zL_div ha hb h1]
  exact kk
theorem zd_lrem (C : zC p m c cc nL s args own D cy) {a b : Int} (ha : rL a) (hb : rL b) (h0 : b ≠ 0) (h1 : b ≠ -1) (hdg : decode cc pc = .ok (.lrem, 1))
    (kk : W p l e R0 s m args below meth c H locs cells slots Q (F0 m (pc + 1) ls (.long (zL (a.tmod b)) :: rest))) : W p l e R0 s m args below meth c H locs cells slots Q (F0 m pc ls (.long (zL b) :: .long (zL a) :: rest)) := by
  refine lv_lrem C.1 C.2.1 hdg (fun q => h0 ((zL_eq hb (by decide)).mp (q.trans rfl))) ?_
  rw [zL_mod ha hb h1]
  exact kk
theorem zd_iand (C : zC p m c cc nL s args own D cy) {a b : Int} (hdg : decode cc pc = .ok (.iand, 1))
    (kk : W p l e R0 s m args below meth c H locs cells slots Q (F0 m (pc + 1) ls (.int (zI (zAnd a b)) :: rest))) : W p l e R0 s m args below meth c H locs cells slots Q (F0 m pc ls (.int (zI b) :: .int (zI a) :: rest)) := by
  refine lv_iand C.1 C.2.1 hdg ?_
  unfold zAnd at kk
  rw [zI_of] at kk
  exact kk
theorem zd_ior (C : zC p m c cc nL s args own D cy) {a b : Int} (hdg : decode cc pc = .ok (.ior, 1))
    (kk : W p l e R0 s m args below meth c H locs cells slots Q (F0 m (pc + 1) ls (.int (zI (zOr a b)) :: rest))) : W p l e R0 s m args below meth c H locs cells slots Q (F0 m pc ls (.int (zI b) :: .int (zI a) :: rest)) := by
  refine lv_ior C.1 C.2.1 hdg ?_
  unfold zOr at kk
  rw [zI_of] at kk
  exact kk
theorem zd_ixor (C : zC p m c cc nL s args own D cy) {a b : Int} (hdg : decode cc pc = .ok (.ixor, 1))
    (kk : W p l e R0 s m args below meth c H locs cells slots Q (F0 m (pc + 1) ls (.int (zI (zXor a b)) :: rest))) : W p l e R0 s m args below meth c H locs cells slots Q (F0 m pc ls (.int (zI b) :: .int (zI a) :: rest)) := by
  refine lv_ixor C.1 C.2.1 hdg ?_
  unfold zXor at kk
  rw [zI_of] at kk
  exact kk
theorem zd_ishl (C : zC p m c cc nL s args own D cy) {a b : Int} (hdg : decode cc pc = .ok (.ishl, 1))
    (kk : W p l e R0 s m args below meth c H locs cells slots Q (F0 m (pc + 1) ls (.int (zI (zShl a b)) :: rest))) : W p l e R0 s m args below meth c H locs cells slots Q (F0 m pc ls (.int (zI b) :: .int (zI a) :: rest)) := by
  refine lv_ishl C.1 C.2.1 hdg ?_
  unfold zShl at kk
  rw [zI_of] at kk
  exact kk
theorem zd_ishr (C : zC p m c cc nL s args own D cy) {a b : Int} (hdg : decode cc pc = .ok (.ishr, 1))
    (kk : W p l e R0 s m args below meth c H locs cells slots Q (F0 m (pc + 1) ls (.int (zI (zShr a b)) :: rest))) : W p l e R0 s m args below meth c H locs cells slots Q (F0 m pc ls (.int (zI b) :: .int (zI a) :: rest)) := by
  refine lv_ishr C.1 C.2.1 hdg ?_
  unfold zShr at kk
  rw [zI_of] at kk
  exact kk
theorem zd_iushr (C : zC p m c cc nL s args own D cy) {a b : Int} (hdg : decode cc pc = .ok (.iushr, 1))
    (kk : W p l e R0 s m args below meth c H locs cells slots Q (F0 m (pc + 1) ls (.int (zI (zUsh a b)) :: rest))) : W p l e R0 s m args below meth c H locs cells slots Q (F0 m pc ls (.int (zI b) :: .int (zI a) :: rest)) := by
  refine lv_iushr C.1 C.2.1 hdg rfl ?_
  unfold zUsh at kk
  rw [zI_of] at kk
  exact kk
theorem zd_lor (C : zC p m c cc nL s args own D cy) {a b : Int} (hdg : decode cc pc = .ok (.lor, 1))
    (kk : W p l e R0 s m args below meth c H locs cells slots Q (F0 m (pc + 1) ls (.long (zL (zLor a b)) :: rest))) : W p l e R0 s m args below meth c H locs cells slots Q (F0 m pc ls (.long (zL b) :: .long (zL a) :: rest)) := by
  refine lv_lor C.1 C.2.1 hdg ?_
  unfold zLor at kk
  rw [zL_of] at kk
  exact kk
theorem zd_lshl (C : zC p m c cc nL s args own D cy) {a b : Int} (hdg : decode cc pc = .ok (.lshl, 1))
    (kk : W p l e R0 s m args below meth c H locs cells slots Q (F0 m (pc + 1) ls (.long (zL (zLsh a b)) :: rest))) : W p l e R0 s m args below meth c H locs cells slots Q (F0 m pc ls (.int (zI b) :: .long (zL a) :: rest)) := by
  refine lv_lshl C.1 C.2.1 hdg rfl ?_
  unfold zLsh at kk
  rw [zL_of] at kk
  exact kk
theorem zd_i2l (C : zC p m c cc nL s args own D cy) {a : Int} (ha : rI a) (hdg : decode cc pc = .ok (.i2l, 1))
    (kk : W p l e R0 s m args below meth c H locs cells slots Q (F0 m (pc + 1) ls (.long (zL a) :: rest))) : W p l e R0 s m args below meth c H locs cells slots Q (F0 m pc ls (.int (zI a) :: rest)) := by
  exact lv_i2l C.1 C.2.1 hdg (zI_l ha) kk
theorem zd_l2i (C : zC p m c cc nL s args own D cy) {a : Int} (hdg : decode cc pc = .ok (.l2i, 1))
    (kk : W p l e R0 s m args below meth c H locs cells slots Q (F0 m (pc + 1) ls (.int (zI a) :: rest))) : W p l e R0 s m args below meth c H locs cells slots Q (F0 m pc ls (.long (zL a) :: rest)) := by
  exact lv_l2i C.1 C.2.1 hdg (zL_i a) kk
theorem zd_i2b (C : zC p m c cc nL s args own D cy) {a : Int} (hdg : decode cc pc = .ok (.i2b, 1))
    (kk : W p l e R0 s m args below meth c H locs cells slots Q (F0 m (pc + 1) ls (.int (zI (zByt a)) :: rest))) : W p l e R0 s m args below meth c H locs cells slots Q (F0 m pc ls (.int (zI a) :: rest)) := by
  refine lv_i2b C.1 C.2.1 hdg rfl ?_
  unfold zByt at kk
  exact kk
theorem zd_lcmp (C : zC p m c cc nL s args own D cy) {a b : Int} (ha : rL a) (hb : rL b) (hdg : decode cc pc = .ok (.lcmp, 1))
    (kk : W p l e R0 s m args below meth c H locs cells slots Q (F0 m (pc + 1) ls (.int (zI (zCmp a b)) :: rest))) : W p l e R0 s m args below meth c H locs cells slots Q (F0 m pc ls (.long (zL b) :: .long (zL a) :: rest)) := by
  refine W.lcmp C.1 C.2.1 hdg ?_
  have e : lg_cmp (zL a) (zL b) = zI (zCmp a b) := by
    unfold lg_cmp zCmp
    simp only [gt_iff_lt, zL_lt hb ha, zL_eq ha hb]
    split
    · rfl
    · split <;> rfl
  rw [e]
  exact kk
theorem zd_iconst (C : zC p m c cc nL s args own D cy) {n : Int} (hdg : decode cc pc = .ok (.iconst n, 1))
    (kk : W p l e R0 s m args below meth c H locs cells slots Q (F0 m (pc + 1) ls (.int (zI n) :: rest))) : W p l e R0 s m args below meth c H locs cells slots Q (F0 m pc ls rest) := by
  exact lv_iconst C.1 C.2.1 hdg rfl kk
theorem zd_bipush (C : zC p m c cc nL s args own D cy) {n : Int} (hn : (Int8.ofInt n).toInt32 = zI n) (hdg : decode cc pc = .ok (.bipush n, 2))
    (kk : W p l e R0 s m args below meth c H locs cells slots Q (F0 m (pc + 2) ls (.int (zI n) :: rest))) : W p l e R0 s m args below meth c H locs cells slots Q (F0 m pc ls rest) := by
  exact lv_bipush C.1 C.2.1 hdg hn kk
theorem zd_sipush (C : zC p m c cc nL s args own D cy) {n : Int} (hn : (Int16.ofInt n).toInt32 = zI n) (hdg : decode cc pc = .ok (.sipush n, 3))
    (kk : W p l e R0 s m args below meth c H locs cells slots Q (F0 m (pc + 3) ls (.int (zI n) :: rest))) : W p l e R0 s m args below meth c H locs cells slots Q (F0 m pc ls rest) := by
  exact lv_sipush C.1 C.2.1 hdg hn kk
theorem zd_if_eq (C : zC p m c cc nL s args own D cy) {a : Int} (ha : rI a) {off : Int} (tgt : Nat) (hdg : decode cc pc = .ok (.ifCond .eq off, 3)) (ht : (pc : Int) + off = (tgt : Int))
    (kt : a = 0 → W p l e R0 s m args below meth c H locs cells slots Q (F0 m tgt ls rest)) (kf : ¬ (a = 0) → W p l e R0 s m args below meth c H locs cells slots Q (F0 m (pc + 3) ls rest)) : W p l e R0 s m args below meth c H locs cells slots Q (F0 m pc ls (.int (zI a) :: rest)) := by
  exact lv_if_eq C.1 C.2.1 hdg ht (fun h => kt ((zI_eq ha (by decide)).mp h)) (fun h => kf (fun q => h ((zI_eq ha (by decide)).mpr q)))
theorem zd_icmp_eq (C : zC p m c cc nL s args own D cy) {a b : Int} (ha : rI a) (hb : rI b) {off : Int} (tgt : Nat) (hdg : decode cc pc = .ok (.if_icmp .eq off, 3)) (ht : (pc : Int) + off = (tgt : Int))
    (kt : a = b → W p l e R0 s m args below meth c H locs cells slots Q (F0 m tgt ls rest)) (kf : ¬ (a = b) → W p l e R0 s m args below meth c H locs cells slots Q (F0 m (pc + 3) ls rest)) : W p l e R0 s m args below meth c H locs cells slots Q (F0 m pc ls (.int (zI b) :: .int (zI a) :: rest)) := by
  exact lv_icmp_eq C.1 C.2.1 hdg ht (fun h => kt ((zI_eq ha hb).mp h)) (fun h => kf (fun q => h ((zI_eq ha hb).mpr q)))
theorem zd_if_ne (C : zC p m c cc nL s args own D cy) {a : Int} (ha : rI a) {off : Int} (tgt : Nat) (hdg : decode cc pc = .ok (.ifCond .ne off, 3)) (ht : (pc : Int) + off = (tgt : Int))
    (kt : ¬ a = 0 → W p l e R0 s m args below meth c H locs cells slots Q (F0 m tgt ls rest)) (kf : ¬ (¬ a = 0) → W p l e R0 s m args below meth c H locs cells slots Q (F0 m (pc + 3) ls rest)) : W p l e R0 s m args below meth c H locs cells slots Q (F0 m pc ls (.int (zI a) :: rest)) := by
  exact lv_if_ne C.1 C.2.1 hdg ht (fun h => kt (fun q => h ((zI_eq ha (by decide)).mpr q))) (fun h => kf (fun q => q ((zI_eq ha (by decide)).mp h)))
theorem zd_icmp_ne (C : zC p m c cc nL s args own D cy) {a b : Int} (ha : rI a) (hb : rI b) {off : Int} (tgt : Nat) (hdg : decode cc pc = .ok (.if_icmp .ne off, 3)) (ht : (pc : Int) + off = (tgt : Int))
    (kt : ¬ a = b → W p l e R0 s m args below meth c H locs cells slots Q (F0 m tgt ls rest)) (kf : ¬ (¬ a = b) → W p l e R0 s m args below meth c H locs cells slots Q (F0 m (pc + 3) ls rest)) : W p l e R0 s m args below meth c H locs cells slots Q (F0 m pc ls (.int (zI b) :: .int (zI a) :: rest)) := by
  exact lv_icmp_ne C.1 C.2.1 hdg ht (fun h => kt (fun q => h ((zI_eq ha hb).mpr q))) (fun h => kf (fun q => q ((zI_eq ha hb).mp h)))
theorem zd_if_lt (C : zC p m c cc nL s args own D cy) {a : Int} (ha : rI a) {off : Int} (tgt : Nat) (hdg : decode cc pc = .ok (.ifCond .lt off, 3)) (ht : (pc : Int) + off = (tgt : Int))
    (kt : a < 0 → W p l e R0 s m args below meth c H locs cells slots Q (F0 m tgt ls rest)) (kf : ¬ (a < 0) → W p l e R0 s m args below meth c H locs cells slots Q (F0 m (pc + 3) ls rest)) : W p l e R0 s m args below meth c H locs cells slots Q (F0 m pc ls (.int (zI a) :: rest)) := by
  exact lv_if_lt C.1 C.2.1 hdg ht (fun h => kt ((zI_lt ha (by decide)).mp h)) (fun h => kf (fun q => h ((zI_lt ha (by decide)).mpr q)))
theorem zd_icmp_lt (C : zC p m c cc nL s args own D cy) {a b : Int} (ha : rI a) (hb : rI b) {off : Int} (tgt : Nat) (hdg : decode cc pc = .ok (.if_icmp .lt off, 3)) (ht : (pc : Int) + off = (tgt : Int))
    (kt : a < b → W p l e R0 s m args below meth c H locs cells slots Q (F0 m tgt ls rest)) (kf : ¬ (a < b) → W p l e R0 s m args below meth c H locs cells slots Q (F0 m (pc + 3) ls rest)) : W p l e R0 s m args below meth c H locs cells slots Q (F0 m pc ls (.int (zI b) :: .int (zI a) :: rest)) := by
  exact lv_icmp_lt C.1 C.2.1 hdg ht (fun h => kt ((zI_lt ha hb).mp h)) (fun h => kf (fun q => h ((zI_lt ha hb).mpr q)))
theorem zd_if_ge (C : zC p m c cc nL s args own D cy) {a : Int} (ha : rI a) {off : Int} (tgt : Nat) (hdg : decode cc pc = .ok (.ifCond .ge off, 3)) (ht : (pc : Int) + off = (tgt : Int))
    (kt : 0 ≤ a → W p l e R0 s m args below meth c H locs cells slots Q (F0 m tgt ls rest)) (kf : ¬ (0 ≤ a) → W p l e R0 s m args below meth c H locs cells slots Q (F0 m (pc + 3) ls rest)) : W p l e R0 s m args below meth c H locs cells slots Q (F0 m pc ls (.int (zI a) :: rest)) := by
  exact lv_if_ge C.1 C.2.1 hdg ht (fun h => kt ((zI_le (by decide) ha).mp h)) (fun h => kf (fun q => h ((zI_le (by decide) ha).mpr q)))
theorem zd_icmp_ge (C : zC p m c cc nL s args own D cy) {a b : Int} (ha : rI a) (hb : rI b) {off : Int} (tgt : Nat) (hdg : decode cc pc = .ok (.if_icmp .ge off, 3)) (ht : (pc : Int) + off = (tgt : Int))
    (kt : b ≤ a → W p l e R0 s m args below meth c H locs cells slots Q (F0 m tgt ls rest)) (kf : ¬ (b ≤ a) → W p l e R0 s m args below meth c H locs cells slots Q (F0 m (pc + 3) ls rest)) : W p l e R0 s m args below meth c H locs cells slots Q (F0 m pc ls (.int (zI b) :: .int (zI a) :: rest)) := by
  exact lv_icmp_ge C.1 C.2.1 hdg ht (fun h => kt ((zI_le hb ha).mp h)) (fun h => kf (fun q => h ((zI_le hb ha).mpr q)))
theorem zd_if_gt (C : zC p m c cc nL s args own D cy) {a : Int} (ha : rI a) {off : Int} (tgt : Nat) (hdg : decode cc pc = .ok (.ifCond .gt off, 3)) (ht : (pc : Int) + off = (tgt : Int))
    (kt : 0 < a → W p l e R0 s m args below meth c H locs cells slots Q (F0 m tgt ls rest)) (kf : ¬ (0 < a) → W p l e R0 s m args below meth c H locs cells slots Q (F0 m (pc + 3) ls rest)) : W p l e R0 s m args below meth c H locs cells slots Q (F0 m pc ls (.int (zI a) :: rest)) := by
  exact lv_if_gt C.1 C.2.1 hdg ht (fun h => kt ((zI_lt (by decide) ha).mp h)) (fun h => kf (fun q => h ((zI_lt (by decide) ha).mpr q)))
theorem zd_icmp_gt (C : zC p m c cc nL s args own D cy) {a b : Int} (ha : rI a) (hb : rI b) {off : Int} (tgt : Nat) (hdg : decode cc pc = .ok (.if_icmp .gt off, 3)) (ht : (pc : Int) + off = (tgt : Int))
    (kt : b < a → W p l e R0 s m args below meth c H locs cells slots Q (F0 m tgt ls rest)) (kf : ¬ (b < a) → W p l e R0 s m args below meth c H locs cells slots Q (F0 m (pc + 3) ls rest)) : W p l e R0 s m args below meth c H locs cells slots Q (F0 m pc ls (.int (zI b) :: .int (zI a) :: rest)) := by
  exact lv_icmp_gt C.1 C.2.1 hdg ht (fun h => kt ((zI_lt hb ha).mp h)) (fun h => kf (fun q => h ((zI_lt hb ha).mpr q)))
theorem zd_if_le (C : zC p m c cc nL s args own D cy) {a : Int} (ha : rI a) {off : Int} (tgt : Nat) (hdg : decode cc pc = .ok (.ifCond .le off, 3)) (ht : (pc : Int) + off = (tgt : Int))
    (kt : a ≤ 0 → W p l e R0 s m args below meth c H locs cells slots Q (F0 m tgt ls rest)) (kf : ¬ (a ≤ 0) → W p l e R0 s m args below meth c H locs cells slots Q (F0 m (pc + 3) ls rest)) : W p l e R0 s m args below meth c H locs cells slots Q (F0 m pc ls (.int (zI a) :: rest)) := by
  exact lv_if_le C.1 C.2.1 hdg ht (fun h => kt ((zI_le ha (by decide)).mp h)) (fun h => kf (fun q => h ((zI_le ha (by decide)).mpr q)))
theorem zd_icmp_le (C : zC p m c cc nL s args own D cy) {a b : Int} (ha : rI a) (hb : rI b) {off : Int} (tgt : Nat) (hdg : decode cc pc = .ok (.if_icmp .le off, 3)) (ht : (pc : Int) + off = (tgt : Int))
    (kt : a ≤ b → W p l e R0 s m args below meth c H locs cells slots Q (F0 m tgt ls rest)) (kf : ¬ (a ≤ b) → W p l e R0 s m args below meth c H locs cells slots Q (F0 m (pc + 3) ls rest)) : W p l e R0 s m args below meth c H locs cells slots Q (F0 m pc ls (.int (zI b) :: .int (zI a) :: rest)) := by
  exact lv_icmp_le C.1 C.2.1 hdg ht (fun h => kt ((zI_le ha hb).mp h)) (fun h => kf (fun q => h ((zI_le ha hb).mpr q)))
theorem zd_ifB_eq (C : zC p m c cc nL s args own D cy) {b : Bool} {off : Int} (tgt : Nat) (hdg : decode cc pc = .ok (.ifCond .eq off, 3)) (ht : (pc : Int) + off = (tgt : Int))
    (kt : b = false → W p l e R0 s m args below meth c H locs cells slots Q (F0 m tgt ls rest)) (kf : b = true → W p l e R0 s m args below meth c H locs cells slots Q (F0 m (pc + 3) ls rest)) : W p l e R0 s m args below meth c H locs cells slots Q (F0 m pc ls (.int (zI (bz b)) :: rest)) := by
  exact zd_if_eq C bz_rg tgt hdg ht (fun h => kt (bz_eq0.mp h)) (fun h => kf (by cases b with | false => exact absurd rfl h | true => rfl))
theorem zd_ifB_ne (C : zC p m c cc nL s args own D cy) {b : Bool} {off : Int} (tgt : Nat) (hdg : decode cc pc = .ok (.ifCond .ne off, 3)) (ht : (pc : Int) + off = (tgt : Int))
    (kt : b = true → W p l e R0 s m args below meth c H locs cells slots Q (F0 m tgt ls rest)) (kf : b = false → W p l e R0 s m args below meth c H locs cells slots Q (F0 m (pc + 3) ls rest)) : W p l e R0 s m args below meth c H locs cells slots Q (F0 m pc ls (.int (zI (bz b)) :: rest)) := by
  exact zd_if_ne C bz_rg tgt hdg ht (fun h => kt (by cases b with | false => exact absurd rfl h | true => rfl)) (fun h => kf (bz_eq0.mp (Decidable.not_not.mp h)))
theorem zd_ifL_eq (C : zC p m c cc nL s args own D cy) {a b : Int} {off : Int} (tgt : Nat) (hdg : decode cc pc = .ok (.ifCond .eq off, 3)) (ht : (pc : Int) + off = (tgt : Int))
    (kt : a = b → W p l e R0 s m args below meth c H locs cells slots Q (F0 m tgt ls rest)) (kf : ¬ (a = b) → W p l e R0 s m args below meth c H locs cells slots Q (F0 m (pc + 3) ls rest)) : W p l e R0 s m args below meth c H locs cells slots Q (F0 m pc ls (.int (zI (zCmp a b)) :: rest)) := by
  exact zd_if_eq C zCmp_rg tgt hdg ht (fun h => kt (zCmp_eq.mp h)) (fun h => kf (fun q => h (zCmp_eq.mpr q)))
theorem zd_ifL_ne (C : zC p m c cc nL s args own D cy) {a b : Int} {off : Int} (tgt : Nat) (hdg : decode cc pc = .ok (.ifCond .ne off, 3)) (ht : (pc : Int) + off = (tgt : Int))
    (kt : ¬ a = b → W p l e R0 s m args below meth c H locs cells slots Q (F0 m tgt ls rest)) (kf : ¬ (¬ a = b) → W p l e R0 s m args below meth c H locs cells slots Q (F0 m (pc + 3) ls rest)) : W p l e R0 s m args below meth c H locs cells slots Q (F0 m pc ls (.int (zI (zCmp a b)) :: rest)) := by
  exact zd_if_ne C zCmp_rg tgt hdg ht (fun h => kt (fun q => h (zCmp_eq.mpr q))) (fun h => kf (fun q => h (fun z => q (zCmp_eq.mp z))))
theorem zd_ifL_lt (C : zC p m c cc nL s args own D cy) {a b : Int} {off : Int} (tgt : Nat) (hdg : decode cc pc = .ok (.ifCond .lt off, 3)) (ht : (pc : Int) + off = (tgt : Int))
    (kt : a < b → W p l e R0 s m args below meth c H locs cells slots Q (F0 m tgt ls rest)) (kf : ¬ (a < b) → W p l e R0 s m args below meth c H locs cells slots Q (F0 m (pc + 3) ls rest)) : W p l e R0 s m args below meth c H locs cells slots Q (F0 m pc ls (.int (zI (zCmp a b)) :: rest)) := by
  exact zd_if_lt C zCmp_rg tgt hdg ht (fun h => kt (zCmp_lt.mp h)) (fun h => kf (fun q => h (zCmp_lt.mpr q)))
theorem zd_ifL_ge (C : zC p m c cc nL s args own D cy) {a b : Int} {off : Int} (tgt : Nat) (hdg : decode cc pc = .ok (.ifCond .ge off, 3)) (ht : (pc : Int) + off = (tgt : Int))
    (kt : b ≤ a → W p l e R0 s m args below meth c H locs cells slots Q (F0 m tgt ls rest)) (kf : ¬ (b ≤ a) → W p l e R0 s m args below meth c H locs cells slots Q (F0 m (pc + 3) ls rest)) : W p l e R0 s m args below meth c H locs cells slots Q (F0 m pc ls (.int (zI (zCmp a b)) :: rest)) := by
  exact zd_if_ge C zCmp_rg tgt hdg ht (fun h => kt (zCmp_ge.mp h)) (fun h => kf (fun q => h (zCmp_ge.mpr q)))
theorem zd_ifL_gt (C : zC p m c cc nL s args own D cy) {a b : Int} {off : Int} (tgt : Nat) (hdg : decode cc pc = .ok (.ifCond .gt off, 3)) (ht : (pc : Int) + off = (tgt : Int))
    (kt : b < a → W p l e R0 s m args below meth c H locs cells slots Q (F0 m tgt ls rest)) (kf : ¬ (b < a) → W p l e R0 s m args below meth c H locs cells slots Q (F0 m (pc + 3) ls rest)) : W p l e R0 s m args below meth c H locs cells slots Q (F0 m pc ls (.int (zI (zCmp a b)) :: rest)) := by
  exact zd_if_gt C zCmp_rg tgt hdg ht (fun h => kt (zCmp_gt.mp h)) (fun h => kf (fun q => h (zCmp_gt.mpr q)))
theorem zd_ifL_le (C : zC p m c cc nL s args own D cy) {a b : Int} {off : Int} (tgt : Nat) (hdg : decode cc pc = .ok (.ifCond .le off, 3)) (ht : (pc : Int) + off = (tgt : Int))
    (kt : a ≤ b → W p l e R0 s m args below meth c H locs cells slots Q (F0 m tgt ls rest)) (kf : ¬ (a ≤ b) → W p l e R0 s m args below meth c H locs cells slots Q (F0 m (pc + 3) ls rest)) : W p l e R0 s m args below meth c H locs cells slots Q (F0 m pc ls (.int (zI (zCmp a b)) :: rest)) := by
  exact zd_if_le C zCmp_rg tgt hdg ht (fun h => kt (zCmp_le.mp h)) (fun h => kf (fun q => h (zCmp_le.mpr q)))
theorem zN_byte {v : Int} (h : -128 ≤ v ∧ v ≤ 127) : narrow .byte (.int (zI v)) = .int (zI v) := by
  show Value.int (zI v).toInt8.toInt32 = _
  congr 1
  apply Int32.toInt_inj.mp
  rw [Int8.toInt_toInt32, Int32.toInt_toInt8, zI_toInt ⟨by omega, by omega⟩]
  exact Int.bmod_eq_of_le (by omega) (by omega)
theorem zN_bool {v : Int} (h : v = 0 ∨ v = 1) : narrow .boolean (.int (zI v)) = .int (zI v) := by
  rcases h with rfl | rfl <;> rfl
theorem zd_bast (C : zC p m c cc nL s args own D cy) (hH : zH D cy bs N kd len X Y R H) (hS : va_S (zA bs) H0 H locs) {i : Nat} (hi : i < N) (hk : kd i = 12) {z v : Int} (h0 : 0 ≤ z) (h1 : z < len i) (hn : len i < 2147483648) (hv : -128 ≤ v ∧ v ≤ 127) (hdg : decode cc pc = .ok (.bastore, 1))
    (kk : ∀ (H1 : Heap) (locs1 : List Loc), zH D cy bs N kd len (zU X i z v) Y R H1 → va_S (zA bs) H0 H1 locs1 → W p l e R0 s m args below meth c H1 locs1 cells slots Q (F0 m (pc + 1) ls rest)) : W p l e R0 s m args below meth c H locs cells slots Q (F0 m pc ls (.int (zI v) :: .int (zI z) :: .ref (bs + i) :: rest)) := by
  have hin := zI_in h0 h1 hn
  have hc : H[bs + i]? = some (vp_cell (cy 0) (len i, .inl (fun j => zI (X i j)))) := zH_one hH hi (e := .inl (cy 0, len i, .inl (fun j => zI (X i j)))) (by rw [hk]; rfl) 0 _ rfl
  refine W.bast C.1 C.2.1 hc ((C.2.2.2.2.2.2 0 _ rfl).1 (len i) _) (fun q => by cases q) (by show ¬ (_ ∨ (arrV _ _ _).slots.size ≤ _); rw [arrV_size]; exact hin) rfl rfl hdg fun H1 e1 z1 oq => ?_
  refine kk H1 _ (zH_put hH (fun j hj => ⟨zU_o hj, rfl, rfl⟩) z1 oq (zU_rI hH.2.2.1 ⟨by omega, by omega⟩) hH.2.2.2 ?_) (hS.put z1 oq (Nat.le_add_right _ _))
  rw [hk]
  show H1[bs + i]? = some (vp_cell (cy 0) (len i, .inl (fun j => zI (zU X i z v i j))))
  rw [e1, vp_cell_i, vp_cell_i, arrV_store]
  congr 2
  funext q
  have e := zI_idx h0 h1 hn
  unfold updV zU
  by_cases hq : q = (zI z).toNatClampNeg
  · rw [if_pos hq, if_pos ⟨rfl, by omega⟩]
    show (match narrow .byte (.int (zI v)) with | x => x) = .int (zI v)
    exact zN_byte hv
  · rw [if_neg hq, if_neg (fun x => hq (by omega))]
theorem zd_zast (C : zC p m c cc nL s args own D cy) (hH : zH D cy bs N kd len X Y R H) (hS : va_S (zA bs) H0 H locs) {i : Nat} (hi : i < N) (hk : kd i = 15) {z v : Int} (h0 : 0 ≤ z) (h1 : z < len i) (hn : len i < 2147483648) (hv : v = 0 ∨ v = 1) (hdg : decode cc pc = .ok (.bastore, 1))
    (kk : ∀ (H1 : Heap) (locs1 : List Loc), zH D cy bs N kd len (zU X i z v) Y R H1 → va_S (zA bs) H0 H1 locs1 → W p l e R0 s m args below meth c H1 locs1 cells slots Q (F0 m (pc + 1) ls rest)) : W p l e R0 s m args below meth c H locs cells slots Q (F0 m pc ls (.int (zI v) :: .int (zI z) :: .ref (bs + i) :: rest)) := by
  have hin := zI_in h0 h1 hn
  have hc : H[bs + i]? = some (vp_cell (cy 3) (len i, .inl (fun j => zI (X i j)))) := zH_one hH hi (e := .inl (cy 3, len i, .inl (fun j => zI (X i j)))) (by rw [hk]; rfl) 0 _ rfl
  refine W.zast C.1 C.2.1 hc ((C.2.2.2.2.2.2 3 _ rfl).1 (len i) _) (fun q => by cases q) (by show ¬ (_ ∨ (arrV _ _ _).slots.size ≤ _); rw [arrV_size]; exact hin) rfl rfl hdg fun H1 e1 z1 oq => ?_
  refine kk H1 _ (zH_put hH (fun j hj => ⟨zU_o hj, rfl, rfl⟩) z1 oq (zU_rI hH.2.2.1 ⟨by omega, by omega⟩) hH.2.2.2 ?_) (hS.put z1 oq (Nat.le_add_right _ _))
  rw [hk]
  show H1[bs + i]? = some (vp_cell (cy 3) (len i, .inl (fun j => zI (zU X i z v i j))))
  rw [e1, vp_cell_i, vp_cell_i, arrV_store]
  congr 2
  funext q
  have e := zI_idx h0 h1 hn
  unfold updV zU
  by_cases hq : q = (zI z).toNatClampNeg
  · rw [if_pos hq, if_pos ⟨rfl, by omega⟩]
    exact zN_bool hv
  · rw [if_neg hq, if_neg (fun x => hq (by omega))]
theorem zd_last (C : zC p m c cc nL s args own D cy) (hH : zH D cy bs N kd len X Y R H) (hS : va_S (zA bs) H0 H locs) {i : Nat} (hi : i < N) (hk : kd i = 14) {z v : Int} (h0 : 0 ≤ z) (h1 : z < len i) (hn : len i < 2147483648) (hvr : rL v) (hdg : decode cc pc = .ok (.lastore, 1))
    (kk : ∀ (H1 : Heap) (locs1 : List Loc), zH D cy bs N kd len X (zU Y i z v) R H1 → va_S (zA bs) H0 H1 locs1 → W p l e R0 s m args below meth c H1 locs1 cells slots Q (F0 m (pc + 1) ls rest)) : W p l e R0 s m args below meth c H locs cells slots Q (F0 m pc ls (.long (zL v) :: .int (zI z) :: .ref (bs + i) :: rest)) := by
  have hin := zI_in h0 h1 hn
  have hc : H[bs + i]? = some (vp_cell (cy 2) (len i, .inr (.inl (fun j => zL (Y i j))))) := zH_one hH hi (e := .inl (cy 2, len i, .inr (.inl (fun j => zL (Y i j))))) (by rw [hk]; rfl) 0 _ rfl
  refine W.last C.1 C.2.1 hc ((C.2.2.2.2.2.2 2 _ rfl).1 (len i) _) (fun q => by cases q) (by show ¬ (_ ∨ (arrV _ _ _).slots.size ≤ _); rw [arrV_size]; exact hin) rfl rfl hdg fun H1 e1 z1 oq => ?_
  refine kk H1 _ (zH_put hH (fun j hj => ⟨rfl, zU_o hj, rfl⟩) z1 oq hH.2.2.1 (zU_rL hH.2.2.2 hvr) ?_) (hS.put z1 oq (Nat.le_add_right _ _))
  rw [hk]
  show H1[bs + i]? = some (vp_cell (cy 2) (len i, .inr (.inl (fun j => zL (zU Y i z v i j)))))
  rw [e1, vp_cell_l, vp_cell_l, arrV_store]
  congr 2
  funext q
  have e := zI_idx h0 h1 hn
  unfold updV zU
  by_cases hq : q = (zI z).toNatClampNeg
  · rw [if_pos hq, if_pos ⟨rfl, by omega⟩]
  · rw [if_neg hq, if_neg (fun x => hq (by omega))]
theorem zd_alen (C : zC p m c cc nL s args own D cy) (hH : zH D cy bs N kd len X Y R H) {i : Nat} (hi : i < N) {t0 : Nat} {cA : ClassId} {x : vp_A} {ty : FieldType} (he : zc cy bs (kd i) (len i) (X i) (Y i) (R i) = .inl (cA, x)) (hx : x.1 = len i) (ht : (zty cy)[t0]? = some (cA, ty)) (hdg : decode cc pc = .ok (.arraylength, 1))
    (kk : W p l e R0 s m args below meth c H locs cells slots Q (F0 m (pc + 1) ls (.int (zI (len i)) :: rest))) : W p l e R0 s m args below meth c H locs cells slots Q (F0 m pc ls (.ref (bs + i) :: rest)) := by
  refine va_alen C.1 C.2.1 C.2.2.2.2.2 (zH_one hH hi he) 0 t0 rfl ht ?_ hdg kk
  rw [hx]
  exact (Int32.ofInt_eq_ofNat).symm
theorem zd_aald (C : zC p m c cc nL s args own D cy) (hH : zH D cy bs N kd len X Y R H) {i : Nat} (hi : i < N) (t0 : Nat) {ty : FieldType} (hty : ty.isReference = true) (ht : (zty cy)[t0]? = some (cy t0, ty)) (hk : zc cy bs (kd i) (len i) (X i) (Y i) (R i) = .inl (cy t0, len i, .inr (.inr (.inr (.inr (fun j => (R i j).map (bs + ·))))))) {z : Int} (h0 : 0 ≤ z) (h1 : z < len i) (hn : len i < 2147483648) (hdg : decode cc pc = .ok (.aaload, 1))
    (kk : W p l e R0 s m args below meth c H locs cells slots Q (F0 m (pc + 1) ls (va_rf ((R i z).map (bs + ·)) :: rest))) : W p l e R0 s m args below meth c H locs cells slots Q (F0 m pc ls (.int (zI z) :: .ref (bs + i) :: rest)) := by
  have hin := zI_in h0 h1 hn
  have hlt : (zI z).toNatClampNeg < len i := Nat.not_le.mp fun q => hin (Or.inr q)
  have hc := zH_one hH hi hk 0 _ rfl
  refine W.aald (v := va_rf ((R i z).map (bs + ·))) (ty := ty) C.1 C.2.1 hc ((C.2.2.2.2.2.2 t0 _ ht).1 (len i) (fun j => va_rf ((R i j).map (bs + ·)))) hty (fun q => by cases q) (by show ¬ (_ ∨ (arrV _ _ _).slots.size ≤ _); rw [arrV_size]; exact hin) ?_ rfl rfl hdg kk
  show (arrV _ _ _).slots[_]? = _
  rw [arrV_read _ _ hlt]
  show some (va_rf ((R i (((zI z).toNatClampNeg : Nat) : Int)).map _)) = _
  rw [zI_idx h0 h1 hn]
theorem zd_get (C : zC p m c cc nL s args own D cy) (hH : zH D cy bs N kd len X Y R H) {i ci idx nf : Nat} {CC : String} {T : u_T} {fs : List Value} (hi : i < N) (hk : kd i = ci) (he : zc cy bs ci (len i) (X i) (Y i) (R i) = .inr (ci, fs)) (hin : ∀ w ∈ u_ws CC T nf, w ∈ zTB) (hc : vwCl[ci]? = some (CC, T, nf)) (k : Nat) (hkn : k < nf) (hlk : Cond.fieldLink own idx (T k).1 (T k).2.1 (T k).2.2.1 ∈ zTB) {v : Value} (hv : fs[k]? = some v) (hdg : decode cc pc = .ok (.getfield idx, 3))
    (kk : W p l e R0 s m args below meth c H locs cells slots Q (F0 m (pc + 3) ls (v :: rest))) : W p l e R0 s m args below meth c H locs cells slots Q (F0 m pc ls (.ref (bs + i) :: rest)) :=
  va_get C.1 C.2.1 C.2.2.2.2.1 hin C.2.2.2.1 C.2.2.2.2.2 (zH_one hH hi (by rw [hk]; exact he)) 0 rfl hc k hkn (C.2.2.2.2.1 _ hlk) (fun _ h => h) hv hdg kk
theorem zd_put (C : zC p m c cc nL s args own D cy) (hH : zH D cy bs N kd len X Y R H) (hS : va_S (zA bs) H0 H locs) {i ci idx nf : Nat} {CC : String} {T : u_T} {fs : List Value} (hi : i < N) (hk : kd i = ci) (he : zc cy bs ci (len i) (X i) (Y i) (R i) = .inr (ci, fs)) (hin : ∀ w ∈ u_ws CC T nf, w ∈ zTB) (hc : vwCl[ci]? = some (CC, T, nf)) (ty0 : Nat → FieldType) (hty : ∀ k, k < nf → parseFieldDescriptor (T k).2.2.1 = some (ty0 k)) (hnm : ∀ a, a < nf → ∀ b, b < nf → a ≠ b → (T a).2.1 ≠ (T b).2.1) (k : Nat) (hkn : k < nf) (hlk : Cond.fieldLink own idx (T k).1 (T k).2.1 (T k).2.2.1 ∈ zTB) (hfin : (T k).2.2.2 = false) {ty : FieldType} {v : Value} (hd : parseFieldDescriptor (T k).2.2.1 = some ty) (hnr : narrow ty v = v) (hfit : fits ty v = true) (hl : k < fs.length)
    {X' Y' : Nat → Int → Int} {R' : Nat → Int → Option Nat} (hoff : ∀ j, j ≠ i → X' j = X j ∧ Y' j = Y j ∧ R' j = R j) (hX' : ∀ i j, rI (X' i j)) (hY' : ∀ i j, rL (Y' i j)) (hnew : zc cy bs ci (len i) (X' i) (Y' i) (R' i) = .inr (ci, fs.set k v)) (hdg : decode cc pc = .ok (.putfield idx, 3))
    (kk : ∀ (H1 : Heap) (locs1 : List Loc), zH D cy bs N kd len X' Y' R' H1 → va_S (zA bs) H0 H1 locs1 → W p l e R0 s m args below meth c H1 locs1 cells slots Q (F0 m (pc + 3) ls rest)) : W p l e R0 s m args below meth c H locs cells slots Q (F0 m pc ls (v :: .ref (bs + i) :: rest)) := by
  have hts := C.2.2.2.2.1
  have hK := C.2.2.2.2.2
  have hap := va_apart (own := own) hts hin ty0 hty hnm hK hc
  obtain ⟨r, h1, cell, q1, q2, q3, q4⟩ := zH_one hH hi (e := .inr (ci, fs)) (by rw [hk]; exact he) 0 _ rfl
  have hr : r = (CC, T, nf) := Option.some.inj (h1.symm.trans hc)
  subst hr
  obtain ⟨hSl, hfc, kC, hkC, hkind⟩ := hK.1 ci _ hc
  obtain ⟨cf, kf, fi, f, hif, hsl⟩ := hSl k hkn
  have hlay := hts _ (hin _ (u_in_lay hkn))
  have hst := (u_facts hfc hkC (u_lays hts hin hkn) hif).1
  unfold u_lay at hlay
  rw [if_neg (by rw [hfin]; decide)] at hlay
  have h6 := u_store hfc hkC hkind hlay hif hd hnr hfit
  refine W.putK C.1 C.2.1 (f := f) ⟨C.2.2.2.1, C.2.2.2.2.1 _ hlk, ⟨_, _, _, hif⟩, hst⟩ (by rw [q2]; exact h6) q1 q3 (by rw [hsl]; exact k2_hasslot (q4 k hkn)) rfl rfl hdg fun H1 e1 e2 e3 => ?_
  rw [hsl] at e1
  refine kk H1 _ (zH_put hH hoff e2 e3 hX' hY' ?_) (hS.put e2 e3 (Nat.le_add_right _ _))
  rw [hk, hnew]
  exact ⟨_, hc, t_OB.to (V := updV (vp_V fs) k v) ⟨_, e1, q2, q3, t_set q4 hap hkn v⟩ (fun j _ => vp_updV_set hl v j)⟩
theorem zd_putF (C : zC p m c cc nL s args own D cy) (hH : zH D cy bs N kd len X Y R H) (hS : va_S (zA bs) H0 H locs) {i ci idx nf : Nat} {CC : String} {T : u_T} {fs : List Value} (hi : i < N) (hk : kd i = ci) (he : zc cy bs ci (len i) (X i) (Y i) (R i) = .inr (ci, fs)) (hin : ∀ w ∈ u_ws CC T nf, w ∈ zTB) (hc : vwCl[ci]? = some (CC, T, nf)) (ty0 : Nat → FieldType) (hty : ∀ k, k < nf → parseFieldDescriptor (T k).2.2.1 = some (ty0 k)) (hnm : ∀ a, a < nf → ∀ b, b < nf → a ≠ b → (T a).2.1 ≠ (T b).2.1) (k : Nat) (hkn : k < nf) (hlk : Cond.fieldLink own idx (T k).1 (T k).2.1 (T k).2.2.1 ∈ zTB) (hfin : (T k).2.2.2 = true) (hinit : meth.name = "<init>") (hdecl : (T k).1 = own) {ty : FieldType} {v : Value} (hd : parseFieldDescriptor (T k).2.2.1 = some ty) (hnr : narrow ty v = v) (hfit : fits ty v = true) (hl : k < fs.length)
    {X' Y' : Nat → Int → Int} {R' : Nat → Int → Option Nat} (hoff : ∀ j, j ≠ i → X' j = X j ∧ Y' j = Y j ∧ R' j = R j) (hX' : ∀ i j, rI (X' i j)) (hY' : ∀ i j, rL (Y' i j)) (hnew : zc cy bs ci (len i) (X' i) (Y' i) (R' i) = .inr (ci, fs.set k v)) (hdg : decode cc pc = .ok (.putfield idx, 3))
    (kk : ∀ (H1 : Heap) (locs1 : List Loc), zH D cy bs N kd len X' Y' R' H1 → va_S (zA bs) H0 H1 locs1 → W p l e R0 s m args below meth c H1 locs1 cells slots Q (F0 m (pc + 3) ls rest)) : W p l e R0 s m args below meth c H locs cells slots Q (F0 m pc ls (v :: .ref (bs + i) :: rest)) := by
  have hts := C.2.2.2.2.1
  have hK := C.2.2.2.2.2
  have hap := va_apart (own := own) hts hin ty0 hty hnm hK hc
  obtain ⟨r, h1, cell, q1, q2, q3, q4⟩ := zH_one hH hi (e := .inr (ci, fs)) (by rw [hk]; exact he) 0 _ rfl
  have hr : r = (CC, T, nf) := Option.some.inj (h1.symm.trans hc)
  subst hr
  obtain ⟨hSl, hfc, kC, hkC, hkind⟩ := hK.1 ci _ hc
  obtain ⟨cf, kf, fi, f, hif, hsl⟩ := hSl k hkn
  have hlay := hts _ (hin _ (u_in_lay hkn))
  have hst := (u_facts hfc hkC (u_lays hts hin hkn) hif).1
  unfold u_lay at hlay
  rw [if_pos hfin] at hlay
  have hcf : m.cls = cf := by
    obtain ⟨_, _, c', _, _, _, -, -, hf', -, -, -, hown2, -⟩ := Cond.laysFinal_spec hlay
    have e1 : c' = cf := by have := hif.symm.trans hf'; simp at this; exact this.1.symm
    rw [hdecl] at hown2
    rw [← e1]; exact Option.some.inj (C.2.2.2.1.symm.trans hown2)
  have h6 := u_fits hfc hkC hkind (Or.inr hlay) hif hd hnr hfit
  refine W.putFinK C.1 C.2.1 C.2.2.2.1 (C.2.2.2.2.1 _ hlk) hif hst hcf hinit (by rw [q2]; exact h6) q1 q3 (by rw [hsl]; exact k2_hasslot (q4 k hkn)) rfl rfl hdg fun H1 e1 e2 e3 => ?_
  rw [hsl] at e1
  refine kk H1 _ (zH_put hH hoff e2 e3 hX' hY' ?_) (hS.put e2 e3 (Nat.le_add_right _ _))
  rw [hk, hnew]
  exact ⟨_, hc, t_OB.to (V := updV (vp_V fs) k v) ⟨_, e1, q2, q3, t_set q4 hap hkn v⟩ (fun j _ => vp_updV_set hl v j)⟩
theorem zg0_0 (C : zC p m c cc nL s args own D cy) (hH : zH D cy bs N kd len X Y R H) {i idx : Nat} (hi : i < N) (hk : kd i = 0) (hlk : Cond.fieldLink own idx RX0 "last" "I" ∈ zTB) (hdg : decode cc pc = .ok (.getfield idx, 3))
    (kk : W p l e R0 s m args below meth c H locs cells slots Q (F0 m (pc + 3) ls (.int (zI (X i 0)) :: rest))) : W p l e R0 s m args below meth c H locs cells slots Q (F0 m pc ls (.ref (bs + i) :: rest)) :=
  zd_get C hH hi hk rfl zin0 rfl 0 (by decide) hlk rfl hdg kk
theorem zp0_0 (C : zC p m c cc nL s args own D cy) (hH : zH D cy bs N kd len X Y R H) (hS : va_S (zA bs) H0 H locs) {i idx : Nat} (hi : i < N) (hk : kd i = 0) (hlk : Cond.fieldLink own idx RX0 "last" "I" ∈ zTB) {v : Int} (hv : rI v) (hdg : decode cc pc = .ok (.putfield idx, 3))
    (kk : ∀ (H1 : Heap) (locs1 : List Loc), zH D cy bs N kd len (zU X i 0 v) Y R H1 → va_S (zA bs) H0 H1 locs1 → W p l e R0 s m args below meth c H1 locs1 cells slots Q (F0 m (pc + 3) ls rest)) : W p l e R0 s m args below meth c H locs cells slots Q (F0 m pc ls (.int (zI v) :: .ref (bs + i) :: rest)) :=
  zd_put C hH hS hi hk rfl zin0 rfl tyX0 tyX0_ok nmX0 0 (by decide) hlk rfl (ty := .int) (by decide +kernel) rfl rfl (Nat.le_of_ble_eq_true rfl) (fun j hj => ⟨zU_o hj, rfl, rfl⟩) (zU_rI hH.2.2.1 hv) hH.2.2.2 (by simp [zc, zU, va_rf]) hdg kk
theorem zg0_1 (C : zC p m c cc nL s args own D cy) (hH : zH D cy bs N kd len X Y R H) {i idx : Nat} (hi : i < N) (hk : kd i = 0) (hlk : Cond.fieldLink own idx RX0 "parent" "[I" ∈ zTB) {j : Nat} (hr : R i 1 = some j) (hdg : decode cc pc = .ok (.getfield idx, 3))
    (kk : W p l e R0 s m args below meth c H locs cells slots Q (F0 m (pc + 3) ls (.ref (bs + j) :: rest))) : W p l e R0 s m args below meth c H locs cells slots Q (F0 m pc ls (.ref (bs + i) :: rest)) := by
  refine zd_get C hH hi hk rfl zin0 rfl 1 (by decide) hlk rfl hdg ?_
  rw [hr]
  exact kk
theorem zp0_1 (C : zC p m c cc nL s args own D cy) (hH : zH D cy bs N kd len X Y R H) (hS : va_S (zA bs) H0 H locs) {i idx : Nat} (hi : i < N) (hk : kd i = 0) (hlk : Cond.fieldLink own idx RX0 "parent" "[I" ∈ zTB) (hinit : meth.name = "<init>") (hdecl : RX0 = own) {v : Nat} (hdg : decode cc pc = .ok (.putfield idx, 3))
    (kk : ∀ (H1 : Heap) (locs1 : List Loc), zH D cy bs N kd len X Y (zU R i 1 (some v)) H1 → va_S (zA bs) H0 H1 locs1 → W p l e R0 s m args below meth c H1 locs1 cells slots Q (F0 m (pc + 3) ls rest)) : W p l e R0 s m args below meth c H locs cells slots Q (F0 m pc ls (.ref (bs + v) :: .ref (bs + i) :: rest)) :=
  zd_putF C hH hS hi hk rfl zin0 rfl tyX0 tyX0_ok nmX0 1 (by decide) hlk rfl hinit hdecl (ty := (tyX0 1)) (by decide +kernel) rfl rfl (Nat.le_of_ble_eq_true rfl) (fun j hj => ⟨rfl, rfl, zU_o hj⟩) hH.2.2.1 hH.2.2.2 (by simp [zc, zU, va_rf]) hdg kk
theorem zg0_2 (C : zC p m c cc nL s args own D cy) (hH : zH D cy bs N kd len X Y R H) {i idx : Nat} (hi : i < N) (hk : kd i = 0) (hlk : Cond.fieldLink own idx RX0 "time" "[I" ∈ zTB) {j : Nat} (hr : R i 2 = some j) (hdg : decode cc pc = .ok (.getfield idx, 3))
    (kk : W p l e R0 s m args below meth c H locs cells slots Q (F0 m (pc + 3) ls (.ref (bs + j) :: rest))) : W p l e R0 s m args below meth c H locs cells slots Q (F0 m pc ls (.ref (bs + i) :: rest)) := by
  refine zd_get C hH hi hk rfl zin0 rfl 2 (by decide) hlk rfl hdg ?_
  rw [hr]
  exact kk
theorem zp0_2 (C : zC p m c cc nL s args own D cy) (hH : zH D cy bs N kd len X Y R H) (hS : va_S (zA bs) H0 H locs) {i idx : Nat} (hi : i < N) (hk : kd i = 0) (hlk : Cond.fieldLink own idx RX0 "time" "[I" ∈ zTB) (hinit : meth.name = "<init>") (hdecl : RX0 = own) {v : Nat} (hdg : decode cc pc = .ok (.putfield idx, 3))
    (kk : ∀ (H1 : Heap) (locs1 : List Loc), zH D cy bs N kd len X Y (zU R i 2 (some v)) H1 → va_S (zA bs) H0 H1 locs1 → W p l e R0 s m args below meth c H1 locs1 cells slots Q (F0 m (pc + 3) ls rest)) : W p l e R0 s m args below meth c H locs cells slots Q (F0 m pc ls (.ref (bs + v) :: .ref (bs + i) :: rest)) :=
  zd_putF C hH hS hi hk rfl zin0 rfl tyX0 tyX0_ok nmX0 2 (by decide) hlk rfl hinit hdecl (ty := (tyX0 2)) (by decide +kernel) rfl rfl (Nat.le_of_ble_eq_true rfl) (fun j hj => ⟨rfl, rfl, zU_o hj⟩) hH.2.2.1 hH.2.2.2 (by simp [zc, zU, va_rf]) hdg kk
theorem zg0_3 (C : zC p m c cc nL s args own D cy) (hH : zH D cy bs N kd len X Y R H) {i idx : Nat} (hi : i < N) (hk : kd i = 0) (hlk : Cond.fieldLink own idx RX0 "maker" "[I" ∈ zTB) {j : Nat} (hr : R i 3 = some j) (hdg : decode cc pc = .ok (.getfield idx, 3))
    (kk : W p l e R0 s m args below meth c H locs cells slots Q (F0 m (pc + 3) ls (.ref (bs + j) :: rest))) : W p l e R0 s m args below meth c H locs cells slots Q (F0 m pc ls (.ref (bs + i) :: rest)) := by
  refine zd_get C hH hi hk rfl zin0 rfl 3 (by decide) hlk rfl hdg ?_
  rw [hr]
  exact kk
theorem zp0_3 (C : zC p m c cc nL s args own D cy) (hH : zH D cy bs N kd len X Y R H) (hS : va_S (zA bs) H0 H locs) {i idx : Nat} (hi : i < N) (hk : kd i = 0) (hlk : Cond.fieldLink own idx RX0 "maker" "[I" ∈ zTB) (hinit : meth.name = "<init>") (hdecl : RX0 = own) {v : Nat} (hdg : decode cc pc = .ok (.putfield idx, 3))
    (kk : ∀ (H1 : Heap) (locs1 : List Loc), zH D cy bs N kd len X Y (zU R i 3 (some v)) H1 → va_S (zA bs) H0 H1 locs1 → W p l e R0 s m args below meth c H1 locs1 cells slots Q (F0 m (pc + 3) ls rest)) : W p l e R0 s m args below meth c H locs cells slots Q (F0 m pc ls (.ref (bs + v) :: .ref (bs + i) :: rest)) :=
  zd_putF C hH hS hi hk rfl zin0 rfl tyX0 tyX0_ok nmX0 3 (by decide) hlk rfl hinit hdecl (ty := (tyX0 3)) (by decide +kernel) rfl rfl (Nat.le_of_ble_eq_true rfl) (fun j hj => ⟨rfl, rfl, zU_o hj⟩) hH.2.2.1 hH.2.2.2 (by simp [zc, zU, va_rf]) hdg kk
theorem zg0_4 (C : zC p m c cc nL s args own D cy) (hH : zH D cy bs N kd len X Y R H) {i idx : Nat} (hi : i < N) (hk : kd i = 0) (hlk : Cond.fieldLink own idx RX0 "pays" "[I" ∈ zTB) {j : Nat} (hr : R i 4 = some j) (hdg : decode cc pc = .ok (.getfield idx, 3))
    (kk : W p l e R0 s m args below meth c H locs cells slots Q (F0 m (pc + 3) ls (.ref (bs + j) :: rest))) : W p l e R0 s m args below meth c H locs cells slots Q (F0 m pc ls (.ref (bs + i) :: rest)) := by
  refine zd_get C hH hi hk rfl zin0 rfl 4 (by decide) hlk rfl hdg ?_
  rw [hr]
  exact kk
theorem zp0_4 (C : zC p m c cc nL s args own D cy) (hH : zH D cy bs N kd len X Y R H) (hS : va_S (zA bs) H0 H locs) {i idx : Nat} (hi : i < N) (hk : kd i = 0) (hlk : Cond.fieldLink own idx RX0 "pays" "[I" ∈ zTB) (hinit : meth.name = "<init>") (hdecl : RX0 = own) {v : Nat} (hdg : decode cc pc = .ok (.putfield idx, 3))
    (kk : ∀ (H1 : Heap) (locs1 : List Loc), zH D cy bs N kd len X Y (zU R i 4 (some v)) H1 → va_S (zA bs) H0 H1 locs1 → W p l e R0 s m args below meth c H1 locs1 cells slots Q (F0 m (pc + 3) ls rest)) : W p l e R0 s m args below meth c H locs cells slots Q (F0 m pc ls (.ref (bs + v) :: .ref (bs + i) :: rest)) :=
  zd_putF C hH hS hi hk rfl zin0 rfl tyX0 tyX0_ok nmX0 4 (by decide) hlk rfl hinit hdecl (ty := (tyX0 4)) (by decide +kernel) rfl rfl (Nat.le_of_ble_eq_true rfl) (fun j hj => ⟨rfl, rfl, zU_o hj⟩) hH.2.2.1 hH.2.2.2 (by simp [zc, zU, va_rf]) hdg kk
theorem zg0_5 (C : zC p m c cc nL s args own D cy) (hH : zH D cy bs N kd len X Y R H) {i idx : Nat} (hi : i < N) (hk : kd i = 0) (hlk : Cond.fieldLink own idx RX0 "pay" "[I" ∈ zTB) {j : Nat} (hr : R i 5 = some j) (hdg : decode cc pc = .ok (.getfield idx, 3))
    (kk : W p l e R0 s m args below meth c H locs cells slots Q (F0 m (pc + 3) ls (.ref (bs + j) :: rest))) : W p l e R0 s m args below meth c H locs cells slots Q (F0 m pc ls (.ref (bs + i) :: rest)) := by
  refine zd_get C hH hi hk rfl zin0 rfl 5 (by decide) hlk rfl hdg ?_
  rw [hr]
  exact kk
theorem zp0_5 (C : zC p m c cc nL s args own D cy) (hH : zH D cy bs N kd len X Y R H) (hS : va_S (zA bs) H0 H locs) {i idx : Nat} (hi : i < N) (hk : kd i = 0) (hlk : Cond.fieldLink own idx RX0 "pay" "[I" ∈ zTB) (hinit : meth.name = "<init>") (hdecl : RX0 = own) {v : Nat} (hdg : decode cc pc = .ok (.putfield idx, 3))
    (kk : ∀ (H1 : Heap) (locs1 : List Loc), zH D cy bs N kd len X Y (zU R i 5 (some v)) H1 → va_S (zA bs) H0 H1 locs1 → W p l e R0 s m args below meth c H1 locs1 cells slots Q (F0 m (pc + 3) ls rest)) : W p l e R0 s m args below meth c H locs cells slots Q (F0 m pc ls (.ref (bs + v) :: .ref (bs + i) :: rest)) :=
  zd_putF C hH hS hi hk rfl zin0 rfl tyX0 tyX0_ok nmX0 5 (by decide) hlk rfl hinit hdecl (ty := (tyX0 5)) (by decide +kernel) rfl rfl (Nat.le_of_ble_eq_true rfl) (fun j hj => ⟨rfl, rfl, zU_o hj⟩) hH.2.2.1 hH.2.2.2 (by simp [zc, zU, va_rf]) hdg kk
theorem zg1_0 (C : zC p m c cc nL s args own D cy) (hH : zH D cy bs N kd len X Y R H) {i idx : Nat} (hi : i < N) (hk : kd i = 1) (hlk : Cond.fieldLink own idx RX1 "net" "LWorkChains$Net;" ∈ zTB) {j : Nat} (hr : R i 0 = some j) (hdg : decode cc pc = .ok (.getfield idx, 3))
    (kk : W p l e R0 s m args below meth c H locs cells slots Q (F0 m (pc + 3) ls (.ref (bs + j) :: rest))) : W p l e R0 s m args below meth c H locs cells slots Q (F0 m pc ls (.ref (bs + i) :: rest)) := by
  refine zd_get C hH hi hk rfl zin1 rfl 0 (by decide) hlk rfl hdg ?_
  rw [hr]
  exact kk
theorem zp1_0 (C : zC p m c cc nL s args own D cy) (hH : zH D cy bs N kd len X Y R H) (hS : va_S (zA bs) H0 H locs) {i idx : Nat} (hi : i < N) (hk : kd i = 1) (hlk : Cond.fieldLink own idx RX1 "net" "LWorkChains$Net;" ∈ zTB) {v : Nat} (hdg : decode cc pc = .ok (.putfield idx, 3))
    (kk : ∀ (H1 : Heap) (locs1 : List Loc), zH D cy bs N kd len X Y (zU R i 0 (some v)) H1 → va_S (zA bs) H0 H1 locs1 → W p l e R0 s m args below meth c H1 locs1 cells slots Q (F0 m (pc + 3) ls rest)) : W p l e R0 s m args below meth c H locs cells slots Q (F0 m pc ls (.ref (bs + v) :: .ref (bs + i) :: rest)) :=
  zd_put C hH hS hi hk rfl zin1 rfl tyX1 tyX1_ok nmX1 0 (by decide) hlk rfl (ty := (tyX1 0)) (by decide +kernel) rfl rfl (Nat.le_of_ble_eq_true rfl) (fun j hj => ⟨rfl, rfl, zU_o hj⟩) hH.2.2.1 hH.2.2.2 (by simp [zc, zU, va_rf]) hdg kk
theorem zg1_1 (C : zC p m c cc nL s args own D cy) (hH : zH D cy bs N kd len X Y R H) {i idx : Nat} (hi : i < N) (hk : kd i = 1) (hlk : Cond.fieldLink own idx RX1 "blocks" "LWorkChains$Blocks;" ∈ zTB) {j : Nat} (hr : R i 1 = some j) (hdg : decode cc pc = .ok (.getfield idx, 3))
    (kk : W p l e R0 s m args below meth c H locs cells slots Q (F0 m (pc + 3) ls (.ref (bs + j) :: rest))) : W p l e R0 s m args below meth c H locs cells slots Q (F0 m pc ls (.ref (bs + i) :: rest)) := by
  refine zd_get C hH hi hk rfl zin1 rfl 1 (by decide) hlk rfl hdg ?_
  rw [hr]
  exact kk
theorem zp1_1 (C : zC p m c cc nL s args own D cy) (hH : zH D cy bs N kd len X Y R H) (hS : va_S (zA bs) H0 H locs) {i idx : Nat} (hi : i < N) (hk : kd i = 1) (hlk : Cond.fieldLink own idx RX1 "blocks" "LWorkChains$Blocks;" ∈ zTB) {v : Nat} (hdg : decode cc pc = .ok (.putfield idx, 3))
    (kk : ∀ (H1 : Heap) (locs1 : List Loc), zH D cy bs N kd len X Y (zU R i 1 (some v)) H1 → va_S (zA bs) H0 H1 locs1 → W p l e R0 s m args below meth c H1 locs1 cells slots Q (F0 m (pc + 3) ls rest)) : W p l e R0 s m args below meth c H locs cells slots Q (F0 m pc ls (.ref (bs + v) :: .ref (bs + i) :: rest)) :=
  zd_put C hH hS hi hk rfl zin1 rfl tyX1 tyX1_ok nmX1 1 (by decide) hlk rfl (ty := (tyX1 1)) (by decide +kernel) rfl rfl (Nat.le_of_ble_eq_true rfl) (fun j hj => ⟨rfl, rfl, zU_o hj⟩) hH.2.2.1 hH.2.2.2 (by simp [zc, zU, va_rf]) hdg kk
theorem zg1_2 (C : zC p m c cc nL s args own D cy) (hH : zH D cy bs N kd len X Y R H) {i idx : Nat} (hi : i < N) (hk : kd i = 1) (hlk : Cond.fieldLink own idx RX1 "last" "I" ∈ zTB) (hdg : decode cc pc = .ok (.getfield idx, 3))
    (kk : W p l e R0 s m args below meth c H locs cells slots Q (F0 m (pc + 3) ls (.int (zI (X i 2)) :: rest))) : W p l e R0 s m args below meth c H locs cells slots Q (F0 m pc ls (.ref (bs + i) :: rest)) :=
  zd_get C hH hi hk rfl zin1 rfl 2 (by decide) hlk rfl hdg kk
theorem zp1_2 (C : zC p m c cc nL s args own D cy) (hH : zH D cy bs N kd len X Y R H) (hS : va_S (zA bs) H0 H locs) {i idx : Nat} (hi : i < N) (hk : kd i = 1) (hlk : Cond.fieldLink own idx RX1 "last" "I" ∈ zTB) {v : Int} (hv : rI v) (hdg : decode cc pc = .ok (.putfield idx, 3))
    (kk : ∀ (H1 : Heap) (locs1 : List Loc), zH D cy bs N kd len (zU X i 2 v) Y R H1 → va_S (zA bs) H0 H1 locs1 → W p l e R0 s m args below meth c H1 locs1 cells slots Q (F0 m (pc + 3) ls rest)) : W p l e R0 s m args below meth c H locs cells slots Q (F0 m pc ls (.int (zI v) :: .ref (bs + i) :: rest)) :=
  zd_put C hH hS hi hk rfl zin1 rfl tyX1 tyX1_ok nmX1 2 (by decide) hlk rfl (ty := .int) (by decide +kernel) rfl rfl (Nat.le_of_ble_eq_true rfl) (fun j hj => ⟨zU_o hj, rfl, rfl⟩) (zU_rI hH.2.2.1 hv) hH.2.2.2 (by simp [zc, zU, va_rf]) hdg kk
theorem zg1_3 (C : zC p m c cc nL s args own D cy) (hH : zH D cy bs N kd len X Y R H) {i idx : Nat} (hi : i < N) (hk : kd i = 1) (hlk : Cond.fieldLink own idx RX1 "sound" "I" ∈ zTB) (hdg : decode cc pc = .ok (.getfield idx, 3))
    (kk : W p l e R0 s m args below meth c H locs cells slots Q (F0 m (pc + 3) ls (.int (zI (X i 3)) :: rest))) : W p l e R0 s m args below meth c H locs cells slots Q (F0 m pc ls (.ref (bs + i) :: rest)) :=
  zd_get C hH hi hk rfl zin1 rfl 3 (by decide) hlk rfl hdg kk
theorem zp1_3 (C : zC p m c cc nL s args own D cy) (hH : zH D cy bs N kd len X Y R H) (hS : va_S (zA bs) H0 H locs) {i idx : Nat} (hi : i < N) (hk : kd i = 1) (hlk : Cond.fieldLink own idx RX1 "sound" "I" ∈ zTB) {v : Int} (hv : rI v) (hdg : decode cc pc = .ok (.putfield idx, 3))
    (kk : ∀ (H1 : Heap) (locs1 : List Loc), zH D cy bs N kd len (zU X i 3 v) Y R H1 → va_S (zA bs) H0 H1 locs1 → W p l e R0 s m args below meth c H1 locs1 cells slots Q (F0 m (pc + 3) ls rest)) : W p l e R0 s m args below meth c H locs cells slots Q (F0 m pc ls (.int (zI v) :: .ref (bs + i) :: rest)) :=
  zd_put C hH hS hi hk rfl zin1 rfl tyX1 tyX1_ok nmX1 3 (by decide) hlk rfl (ty := .int) (by decide +kernel) rfl rfl (Nat.le_of_ble_eq_true rfl) (fun j hj => ⟨zU_o hj, rfl, rfl⟩) (zU_rI hH.2.2.1 hv) hH.2.2.2 (by simp [zc, zU, va_rf]) hdg kk
theorem zg1_4 (C : zC p m c cc nL s args own D cy) (hH : zH D cy bs N kd len X Y R H) {i idx : Nat} (hi : i < N) (hk : kd i = 1) (hlk : Cond.fieldLink own idx RX1 "parent" "[I" ∈ zTB) {j : Nat} (hr : R i 4 = some j) (hdg : decode cc pc = .ok (.getfield idx, 3))
    (kk : W p l e R0 s m args below meth c H locs cells slots Q (F0 m (pc + 3) ls (.ref (bs + j) :: rest))) : W p l e R0 s m args below meth c H locs cells slots Q (F0 m pc ls (.ref (bs + i) :: rest)) := by
  refine zd_get C hH hi hk rfl zin1 rfl 4 (by decide) hlk rfl hdg ?_
  rw [hr]
  exact kk
theorem zp1_4 (C : zC p m c cc nL s args own D cy) (hH : zH D cy bs N kd len X Y R H) (hS : va_S (zA bs) H0 H locs) {i idx : Nat} (hi : i < N) (hk : kd i = 1) (hlk : Cond.fieldLink own idx RX1 "parent" "[I" ∈ zTB) (hinit : meth.name = "<init>") (hdecl : RX1 = own) {v : Nat} (hdg : decode cc pc = .ok (.putfield idx, 3))
    (kk : ∀ (H1 : Heap) (locs1 : List Loc), zH D cy bs N kd len X Y (zU R i 4 (some v)) H1 → va_S (zA bs) H0 H1 locs1 → W p l e R0 s m args below meth c H1 locs1 cells slots Q (F0 m (pc + 3) ls rest)) : W p l e R0 s m args below meth c H locs cells slots Q (F0 m pc ls (.ref (bs + v) :: .ref (bs + i) :: rest)) :=
  zd_putF C hH hS hi hk rfl zin1 rfl tyX1 tyX1_ok nmX1 4 (by decide) hlk rfl hinit hdecl (ty := (tyX1 4)) (by decide +kernel) rfl rfl (Nat.le_of_ble_eq_true rfl) (fun j hj => ⟨rfl, rfl, zU_o hj⟩) hH.2.2.1 hH.2.2.2 (by simp [zc, zU, va_rf]) hdg kk
theorem zg1_5 (C : zC p m c cc nL s args own D cy) (hH : zH D cy bs N kd len X Y R H) {i idx : Nat} (hi : i < N) (hk : kd i = 1) (hlk : Cond.fieldLink own idx RX1 "way" "[I" ∈ zTB) {j : Nat} (hr : R i 5 = some j) (hdg : decode cc pc = .ok (.getfield idx, 3))
    (kk : W p l e R0 s m args below meth c H locs cells slots Q (F0 m (pc + 3) ls (.ref (bs + j) :: rest))) : W p l e R0 s m args below meth c H locs cells slots Q (F0 m pc ls (.ref (bs + i) :: rest)) := by
  refine zd_get C hH hi hk rfl zin1 rfl 5 (by decide) hlk rfl hdg ?_
  rw [hr]
  exact kk
theorem zp1_5 (C : zC p m c cc nL s args own D cy) (hH : zH D cy bs N kd len X Y R H) (hS : va_S (zA bs) H0 H locs) {i idx : Nat} (hi : i < N) (hk : kd i = 1) (hlk : Cond.fieldLink own idx RX1 "way" "[I" ∈ zTB) (hinit : meth.name = "<init>") (hdecl : RX1 = own) {v : Nat} (hdg : decode cc pc = .ok (.putfield idx, 3))
    (kk : ∀ (H1 : Heap) (locs1 : List Loc), zH D cy bs N kd len X Y (zU R i 5 (some v)) H1 → va_S (zA bs) H0 H1 locs1 → W p l e R0 s m args below meth c H1 locs1 cells slots Q (F0 m (pc + 3) ls rest)) : W p l e R0 s m args below meth c H locs cells slots Q (F0 m pc ls (.ref (bs + v) :: .ref (bs + i) :: rest)) :=
  zd_putF C hH hS hi hk rfl zin1 rfl tyX1 tyX1_ok nmX1 5 (by decide) hlk rfl hinit hdecl (ty := (tyX1 5)) (by decide +kernel) rfl rfl (Nat.le_of_ble_eq_true rfl) (fun j hj => ⟨rfl, rfl, zU_o hj⟩) hH.2.2.1 hH.2.2.2 (by simp [zc, zU, va_rf]) hdg kk
theorem zg1_6 (C : zC p m c cc nL s args own D cy) (hH : zH D cy bs N kd len X Y R H) {i idx : Nat} (hi : i < N) (hk : kd i = 1) (hlk : Cond.fieldLink own idx RX1 "height" "[I" ∈ zTB) {j : Nat} (hr : R i 6 = some j) (hdg : decode cc pc = .ok (.getfield idx, 3))
    (kk : W p l e R0 s m args below meth c H locs cells slots Q (F0 m (pc + 3) ls (.ref (bs + j) :: rest))) : W p l e R0 s m args below meth c H locs cells slots Q (F0 m pc ls (.ref (bs + i) :: rest)) := by
  refine zd_get C hH hi hk rfl zin1 rfl 6 (by decide) hlk rfl hdg ?_
  rw [hr]
  exact kk
theorem zp1_6 (C : zC p m c cc nL s args own D cy) (hH : zH D cy bs N kd len X Y R H) (hS : va_S (zA bs) H0 H locs) {i idx : Nat} (hi : i < N) (hk : kd i = 1) (hlk : Cond.fieldLink own idx RX1 "height" "[I" ∈ zTB) (hinit : meth.name = "<init>") (hdecl : RX1 = own) {v : Nat} (hdg : decode cc pc = .ok (.putfield idx, 3))
    (kk : ∀ (H1 : Heap) (locs1 : List Loc), zH D cy bs N kd len X Y (zU R i 6 (some v)) H1 → va_S (zA bs) H0 H1 locs1 → W p l e R0 s m args below meth c H1 locs1 cells slots Q (F0 m (pc + 3) ls rest)) : W p l e R0 s m args below meth c H locs cells slots Q (F0 m pc ls (.ref (bs + v) :: .ref (bs + i) :: rest)) :=
  zd_putF C hH hS hi hk rfl zin1 rfl tyX1 tyX1_ok nmX1 6 (by decide) hlk rfl hinit hdecl (ty := (tyX1 6)) (by decide +kernel) rfl rfl (Nat.le_of_ble_eq_true rfl) (fun j hj => ⟨rfl, rfl, zU_o hj⟩) hH.2.2.1 hH.2.2.2 (by simp [zc, zU, va_rf]) hdg kk
theorem zg1_7 (C : zC p m c cc nL s args own D cy) (hH : zH D cy bs N kd len X Y R H) {i idx : Nat} (hi : i < N) (hk : kd i = 1) (hlk : Cond.fieldLink own idx RX1 "work" "[J" ∈ zTB) {j : Nat} (hr : R i 7 = some j) (hdg : decode cc pc = .ok (.getfield idx, 3))
    (kk : W p l e R0 s m args below meth c H locs cells slots Q (F0 m (pc + 3) ls (.ref (bs + j) :: rest))) : W p l e R0 s m args below meth c H locs cells slots Q (F0 m pc ls (.ref (bs + i) :: rest)) := by
  refine zd_get C hH hi hk rfl zin1 rfl 7 (by decide) hlk rfl hdg ?_
  rw [hr]
  exact kk
theorem zp1_7 (C : zC p m c cc nL s args own D cy) (hH : zH D cy bs N kd len X Y R H) (hS : va_S (zA bs) H0 H locs) {i idx : Nat} (hi : i < N) (hk : kd i = 1) (hlk : Cond.fieldLink own idx RX1 "work" "[J" ∈ zTB) (hinit : meth.name = "<init>") (hdecl : RX1 = own) {v : Nat} (hdg : decode cc pc = .ok (.putfield idx, 3))
    (kk : ∀ (H1 : Heap) (locs1 : List Loc), zH D cy bs N kd len X Y (zU R i 7 (some v)) H1 → va_S (zA bs) H0 H1 locs1 → W p l e R0 s m args below meth c H1 locs1 cells slots Q (F0 m (pc + 3) ls rest)) : W p l e R0 s m args below meth c H locs cells slots Q (F0 m pc ls (.ref (bs + v) :: .ref (bs + i) :: rest)) :=
  zd_putF C hH hS hi hk rfl zin1 rfl tyX1 tyX1_ok nmX1 7 (by decide) hlk rfl hinit hdecl (ty := (tyX1 7)) (by decide +kernel) rfl rfl (Nat.le_of_ble_eq_true rfl) (fun j hj => ⟨rfl, rfl, zU_o hj⟩) hH.2.2.1 hH.2.2.2 (by simp [zc, zU, va_rf]) hdg kk
theorem zg1_8 (C : zC p m c cc nL s args own D cy) (hH : zH D cy bs N kd len X Y R H) {i idx : Nat} (hi : i < N) (hk : kd i = 1) (hlk : Cond.fieldLink own idx RX1 "weight" "[J" ∈ zTB) {j : Nat} (hr : R i 8 = some j) (hdg : decode cc pc = .ok (.getfield idx, 3))
    (kk : W p l e R0 s m args below meth c H locs cells slots Q (F0 m (pc + 3) ls (.ref (bs + j) :: rest))) : W p l e R0 s m args below meth c H locs cells slots Q (F0 m pc ls (.ref (bs + i) :: rest)) := by
  refine zd_get C hH hi hk rfl zin1 rfl 8 (by decide) hlk rfl hdg ?_
  rw [hr]
  exact kk
theorem zp1_8 (C : zC p m c cc nL s args own D cy) (hH : zH D cy bs N kd len X Y R H) (hS : va_S (zA bs) H0 H locs) {i idx : Nat} (hi : i < N) (hk : kd i = 1) (hlk : Cond.fieldLink own idx RX1 "weight" "[J" ∈ zTB) (hinit : meth.name = "<init>") (hdecl : RX1 = own) {v : Nat} (hdg : decode cc pc = .ok (.putfield idx, 3))
    (kk : ∀ (H1 : Heap) (locs1 : List Loc), zH D cy bs N kd len X Y (zU R i 8 (some v)) H1 → va_S (zA bs) H0 H1 locs1 → W p l e R0 s m args below meth c H1 locs1 cells slots Q (F0 m (pc + 3) ls rest)) : W p l e R0 s m args below meth c H locs cells slots Q (F0 m pc ls (.ref (bs + v) :: .ref (bs + i) :: rest)) :=
  zd_putF C hH hS hi hk rfl zin1 rfl tyX1 tyX1_ok nmX1 8 (by decide) hlk rfl hinit hdecl (ty := (tyX1 8)) (by decide +kernel) rfl rfl (Nat.le_of_ble_eq_true rfl) (fun j hj => ⟨rfl, rfl, zU_o hj⟩) hH.2.2.1 hH.2.2.2 (by simp [zc, zU, va_rf]) hdg kk
theorem zg1_9 (C : zC p m c cc nL s args own D cy) (hH : zH D cy bs N kd len X Y R H) {i idx : Nat} (hi : i < N) (hk : kd i = 1) (hlk : Cond.fieldLink own idx RX1 "ledgers" "[LWorkChains$Ledger;" ∈ zTB) {j : Nat} (hr : R i 9 = some j) (hdg : decode cc pc = .ok (.getfield idx, 3))
    (kk : W p l e R0 s m args below meth c H locs cells slots Q (F0 m (pc + 3) ls (.ref (bs + j) :: rest))) : W p l e R0 s m args below meth c H locs cells slots Q (F0 m pc ls (.ref (bs + i) :: rest)) := by
  refine zd_get C hH hi hk rfl zin1 rfl 9 (by decide) hlk rfl hdg ?_
  rw [hr]
  exact kk
theorem zp1_9 (C : zC p m c cc nL s args own D cy) (hH : zH D cy bs N kd len X Y R H) (hS : va_S (zA bs) H0 H locs) {i idx : Nat} (hi : i < N) (hk : kd i = 1) (hlk : Cond.fieldLink own idx RX1 "ledgers" "[LWorkChains$Ledger;" ∈ zTB) (hinit : meth.name = "<init>") (hdecl : RX1 = own) {v : Nat} (hdg : decode cc pc = .ok (.putfield idx, 3))
    (kk : ∀ (H1 : Heap) (locs1 : List Loc), zH D cy bs N kd len X Y (zU R i 9 (some v)) H1 → va_S (zA bs) H0 H1 locs1 → W p l e R0 s m args below meth c H1 locs1 cells slots Q (F0 m (pc + 3) ls rest)) : W p l e R0 s m args below meth c H locs cells slots Q (F0 m pc ls (.ref (bs + v) :: .ref (bs + i) :: rest)) :=
  zd_putF C hH hS hi hk rfl zin1 rfl tyX1 tyX1_ok nmX1 9 (by decide) hlk rfl hinit hdecl (ty := (tyX1 9)) (by decide +kernel) rfl rfl (Nat.le_of_ble_eq_true rfl) (fun j hj => ⟨rfl, rfl, zU_o hj⟩) hH.2.2.1 hH.2.2.2 (by simp [zc, zU, va_rf]) hdg kk
theorem zg1_10 (C : zC p m c cc nL s args own D cy) (hH : zH D cy bs N kd len X Y R H) {i idx : Nat} (hi : i < N) (hk : kd i = 1) (hlk : Cond.fieldLink own idx RX1 "sum" "[J" ∈ zTB) {j : Nat} (hr : R i 10 = some j) (hdg : decode cc pc = .ok (.getfield idx, 3))
    (kk : W p l e R0 s m args below meth c H locs cells slots Q (F0 m (pc + 3) ls (.ref (bs + j) :: rest))) : W p l e R0 s m args below meth c H locs cells slots Q (F0 m pc ls (.ref (bs + i) :: rest)) := by
  refine zd_get C hH hi hk rfl zin1 rfl 10 (by decide) hlk rfl hdg ?_
  rw [hr]
  exact kk
theorem zp1_10 (C : zC p m c cc nL s args own D cy) (hH : zH D cy bs N kd len X Y R H) (hS : va_S (zA bs) H0 H locs) {i idx : Nat} (hi : i < N) (hk : kd i = 1) (hlk : Cond.fieldLink own idx RX1 "sum" "[J" ∈ zTB) (hinit : meth.name = "<init>") (hdecl : RX1 = own) {v : Nat} (hdg : decode cc pc = .ok (.putfield idx, 3))
    (kk : ∀ (H1 : Heap) (locs1 : List Loc), zH D cy bs N kd len X Y (zU R i 10 (some v)) H1 → va_S (zA bs) H0 H1 locs1 → W p l e R0 s m args below meth c H1 locs1 cells slots Q (F0 m (pc + 3) ls rest)) : W p l e R0 s m args below meth c H locs cells slots Q (F0 m pc ls (.ref (bs + v) :: .ref (bs + i) :: rest)) :=
  zd_putF C hH hS hi hk rfl zin1 rfl tyX1 tyX1_ok nmX1 10 (by decide) hlk rfl hinit hdecl (ty := (tyX1 10)) (by decide +kernel) rfl rfl (Nat.le_of_ble_eq_true rfl) (fun j hj => ⟨rfl, rfl, zU_o hj⟩) hH.2.2.1 hH.2.2.2 (by simp [zc, zU, va_rf]) hdg kk
theorem zg1_11 (C : zC p m c cc nL s args own D cy) (hH : zH D cy bs N kd len X Y R H) {i idx : Nat} (hi : i < N) (hk : kd i = 1) (hlk : Cond.fieldLink own idx RX1 "favourite" "[I" ∈ zTB) {j : Nat} (hr : R i 11 = some j) (hdg : decode cc pc = .ok (.getfield idx, 3))
    (kk : W p l e R0 s m args below meth c H locs cells slots Q (F0 m (pc + 3) ls (.ref (bs + j) :: rest))) : W p l e R0 s m args below meth c H locs cells slots Q (F0 m pc ls (.ref (bs + i) :: rest)) := by
  refine zd_get C hH hi hk rfl zin1 rfl 11 (by decide) hlk rfl hdg ?_
  rw [hr]
  exact kk
theorem zp1_11 (C : zC p m c cc nL s args own D cy) (hH : zH D cy bs N kd len X Y R H) (hS : va_S (zA bs) H0 H locs) {i idx : Nat} (hi : i < N) (hk : kd i = 1) (hlk : Cond.fieldLink own idx RX1 "favourite" "[I" ∈ zTB) (hinit : meth.name = "<init>") (hdecl : RX1 = own) {v : Nat} (hdg : decode cc pc = .ok (.putfield idx, 3))
    (kk : ∀ (H1 : Heap) (locs1 : List Loc), zH D cy bs N kd len X Y (zU R i 11 (some v)) H1 → va_S (zA bs) H0 H1 locs1 → W p l e R0 s m args below meth c H1 locs1 cells slots Q (F0 m (pc + 3) ls rest)) : W p l e R0 s m args below meth c H locs cells slots Q (F0 m pc ls (.ref (bs + v) :: .ref (bs + i) :: rest)) :=
  zd_putF C hH hS hi hk rfl zin1 rfl tyX1 tyX1_ok nmX1 11 (by decide) hlk rfl hinit hdecl (ty := (tyX1 11)) (by decide +kernel) rfl rfl (Nat.le_of_ble_eq_true rfl) (fun j hj => ⟨rfl, rfl, zU_o hj⟩) hH.2.2.1 hH.2.2.2 (by simp [zc, zU, va_rf]) hdg kk
theorem zg2_0 (C : zC p m c cc nL s args own D cy) (hH : zH D cy bs N kd len X Y R H) {i idx : Nat} (hi : i < N) (hk : kd i = 2) (hlk : Cond.fieldLink own idx RX2 "chart" "LWorkChains$Chart;" ∈ zTB) {j : Nat} (hr : R i 0 = some j) (hdg : decode cc pc = .ok (.getfield idx, 3))
    (kk : W p l e R0 s m args below meth c H locs cells slots Q (F0 m (pc + 3) ls (.ref (bs + j) :: rest))) : W p l e R0 s m args below meth c H locs cells slots Q (F0 m pc ls (.ref (bs + i) :: rest)) := by
  refine zd_get C hH hi hk rfl zin2 rfl 0 (by decide) hlk rfl hdg ?_
  rw [hr]
  exact kk
theorem zp2_0 (C : zC p m c cc nL s args own D cy) (hH : zH D cy bs N kd len X Y R H) (hS : va_S (zA bs) H0 H locs) {i idx : Nat} (hi : i < N) (hk : kd i = 2) (hlk : Cond.fieldLink own idx RX2 "chart" "LWorkChains$Chart;" ∈ zTB) (hinit : meth.name = "<init>") (hdecl : RX2 = own) {v : Nat} (hdg : decode cc pc = .ok (.putfield idx, 3))
    (kk : ∀ (H1 : Heap) (locs1 : List Loc), zH D cy bs N kd len X Y (zU R i 0 (some v)) H1 → va_S (zA bs) H0 H1 locs1 → W p l e R0 s m args below meth c H1 locs1 cells slots Q (F0 m (pc + 3) ls rest)) : W p l e R0 s m args below meth c H locs cells slots Q (F0 m pc ls (.ref (bs + v) :: .ref (bs + i) :: rest)) :=
  zd_putF C hH hS hi hk rfl zin2 rfl tyX2 tyX2_ok nmX2 0 (by decide) hlk rfl hinit hdecl (ty := (tyX2 0)) (by decide +kernel) rfl rfl (Nat.le_of_ble_eq_true rfl) (fun j hj => ⟨rfl, rfl, zU_o hj⟩) hH.2.2.1 hH.2.2.2 (by simp [zc, zU, va_rf]) hdg kk
theorem zg2_1 (C : zC p m c cc nL s args own D cy) (hH : zH D cy bs N kd len X Y R H) {i idx : Nat} (hi : i < N) (hk : kd i = 2) (hlk : Cond.fieldLink own idx RX2 "tie" "I" ∈ zTB) (hdg : decode cc pc = .ok (.getfield idx, 3))
    (kk : W p l e R0 s m args below meth c H locs cells slots Q (F0 m (pc + 3) ls (.int (zI (X i 1)) :: rest))) : W p l e R0 s m args below meth c H locs cells slots Q (F0 m pc ls (.ref (bs + i) :: rest)) :=
  zd_get C hH hi hk rfl zin2 rfl 1 (by decide) hlk rfl hdg kk
theorem zp2_1 (C : zC p m c cc nL s args own D cy) (hH : zH D cy bs N kd len X Y R H) (hS : va_S (zA bs) H0 H locs) {i idx : Nat} (hi : i < N) (hk : kd i = 2) (hlk : Cond.fieldLink own idx RX2 "tie" "I" ∈ zTB) {v : Int} (hv : rI v) (hdg : decode cc pc = .ok (.putfield idx, 3))
    (kk : ∀ (H1 : Heap) (locs1 : List Loc), zH D cy bs N kd len (zU X i 1 v) Y R H1 → va_S (zA bs) H0 H1 locs1 → W p l e R0 s m args below meth c H1 locs1 cells slots Q (F0 m (pc + 3) ls rest)) : W p l e R0 s m args below meth c H locs cells slots Q (F0 m pc ls (.int (zI v) :: .ref (bs + i) :: rest)) :=
  zd_put C hH hS hi hk rfl zin2 rfl tyX2 tyX2_ok nmX2 1 (by decide) hlk rfl (ty := .int) (by decide +kernel) rfl rfl (Nat.le_of_ble_eq_true rfl) (fun j hj => ⟨zU_o hj, rfl, rfl⟩) (zU_rI hH.2.2.1 hv) hH.2.2.2 (by simp [zc, zU, va_rf]) hdg kk
theorem zg2_2 (C : zC p m c cc nL s args own D cy) (hH : zH D cy bs N kd len X Y R H) {i idx : Nat} (hi : i < N) (hk : kd i = 2) (hlk : Cond.fieldLink own idx RX2 "wholes" "I" ∈ zTB) (hdg : decode cc pc = .ok (.getfield idx, 3))
    (kk : W p l e R0 s m args below meth c H locs cells slots Q (F0 m (pc + 3) ls (.int (zI (X i 2)) :: rest))) : W p l e R0 s m args below meth c H locs cells slots Q (F0 m pc ls (.ref (bs + i) :: rest)) :=
  zd_get C hH hi hk rfl zin2 rfl 2 (by decide) hlk rfl hdg kk
theorem zp2_2 (C : zC p m c cc nL s args own D cy) (hH : zH D cy bs N kd len X Y R H) (hS : va_S (zA bs) H0 H locs) {i idx : Nat} (hi : i < N) (hk : kd i = 2) (hlk : Cond.fieldLink own idx RX2 "wholes" "I" ∈ zTB) {v : Int} (hv : rI v) (hdg : decode cc pc = .ok (.putfield idx, 3))
    (kk : ∀ (H1 : Heap) (locs1 : List Loc), zH D cy bs N kd len (zU X i 2 v) Y R H1 → va_S (zA bs) H0 H1 locs1 → W p l e R0 s m args below meth c H1 locs1 cells slots Q (F0 m (pc + 3) ls rest)) : W p l e R0 s m args below meth c H locs cells slots Q (F0 m pc ls (.int (zI v) :: .ref (bs + i) :: rest)) :=
  zd_put C hH hS hi hk rfl zin2 rfl tyX2 tyX2_ok nmX2 2 (by decide) hlk rfl (ty := .int) (by decide +kernel) rfl rfl (Nat.le_of_ble_eq_true rfl) (fun j hj => ⟨zU_o hj, rfl, rfl⟩) (zU_rI hH.2.2.1 hv) hH.2.2.2 (by simp [zc, zU, va_rf]) hdg kk
theorem zg2_3 (C : zC p m c cc nL s args own D cy) (hH : zH D cy bs N kd len X Y R H) {i idx : Nat} (hi : i < N) (hk : kd i = 2) (hlk : Cond.fieldLink own idx RX2 "rank" "[I" ∈ zTB) {j : Nat} (hr : R i 3 = some j) (hdg : decode cc pc = .ok (.getfield idx, 3))
    (kk : W p l e R0 s m args below meth c H locs cells slots Q (F0 m (pc + 3) ls (.ref (bs + j) :: rest))) : W p l e R0 s m args below meth c H locs cells slots Q (F0 m pc ls (.ref (bs + i) :: rest)) := by
  refine zd_get C hH hi hk rfl zin2 rfl 3 (by decide) hlk rfl hdg ?_
  rw [hr]
  exact kk
theorem zp2_3 (C : zC p m c cc nL s args own D cy) (hH : zH D cy bs N kd len X Y R H) (hS : va_S (zA bs) H0 H locs) {i idx : Nat} (hi : i < N) (hk : kd i = 2) (hlk : Cond.fieldLink own idx RX2 "rank" "[I" ∈ zTB) (hinit : meth.name = "<init>") (hdecl : RX2 = own) {v : Nat} (hdg : decode cc pc = .ok (.putfield idx, 3))
    (kk : ∀ (H1 : Heap) (locs1 : List Loc), zH D cy bs N kd len X Y (zU R i 3 (some v)) H1 → va_S (zA bs) H0 H1 locs1 → W p l e R0 s m args below meth c H1 locs1 cells slots Q (F0 m (pc + 3) ls rest)) : W p l e R0 s m args below meth c H locs cells slots Q (F0 m pc ls (.ref (bs + v) :: .ref (bs + i) :: rest)) :=
  zd_putF C hH hS hi hk rfl zin2 rfl tyX2 tyX2_ok nmX2 3 (by decide) hlk rfl hinit hdecl (ty := (tyX2 3)) (by decide +kernel) rfl rfl (Nat.le_of_ble_eq_true rfl) (fun j hj => ⟨rfl, rfl, zU_o hj⟩) hH.2.2.1 hH.2.2.2 (by simp [zc, zU, va_rf]) hdg kk
theorem zg2_4 (C : zC p m c cc nL s args own D cy) (hH : zH D cy bs N kd len X Y R H) {i idx : Nat} (hi : i < N) (hk : kd i = 2) (hlk : Cond.fieldLink own idx RX2 "rule" "I" ∈ zTB) (hdg : decode cc pc = .ok (.getfield idx, 3))
    (kk : W p l e R0 s m args below meth c H locs cells slots Q (F0 m (pc + 3) ls (.int (zI (X i 4)) :: rest))) : W p l e R0 s m args below meth c H locs cells slots Q (F0 m pc ls (.ref (bs + i) :: rest)) :=
  zd_get C hH hi hk rfl zin2 rfl 4 (by decide) hlk rfl hdg kk
theorem zp2_4 (C : zC p m c cc nL s args own D cy) (hH : zH D cy bs N kd len X Y R H) (hS : va_S (zA bs) H0 H locs) {i idx : Nat} (hi : i < N) (hk : kd i = 2) (hlk : Cond.fieldLink own idx RX2 "rule" "I" ∈ zTB) {v : Int} (hv : rI v) (hdg : decode cc pc = .ok (.putfield idx, 3))
    (kk : ∀ (H1 : Heap) (locs1 : List Loc), zH D cy bs N kd len (zU X i 4 v) Y R H1 → va_S (zA bs) H0 H1 locs1 → W p l e R0 s m args below meth c H1 locs1 cells slots Q (F0 m (pc + 3) ls rest)) : W p l e R0 s m args below meth c H locs cells slots Q (F0 m pc ls (.int (zI v) :: .ref (bs + i) :: rest)) :=
  zd_put C hH hS hi hk rfl zin2 rfl tyX2 tyX2_ok nmX2 4 (by decide) hlk rfl (ty := .int) (by decide +kernel) rfl rfl (Nat.le_of_ble_eq_true rfl) (fun j hj => ⟨zU_o hj, rfl, rfl⟩) (zU_rI hH.2.2.1 hv) hH.2.2.2 (by simp [zc, zU, va_rf]) hdg kk
theorem zg2_5 (C : zC p m c cc nL s args own D cy) (hH : zH D cy bs N kd len X Y R H) {i idx : Nat} (hi : i < N) (hk : kd i = 2) (hlk : Cond.fieldLink own idx RX2 "heads" "I" ∈ zTB) (hdg : decode cc pc = .ok (.getfield idx, 3))
    (kk : W p l e R0 s m args below meth c H locs cells slots Q (F0 m (pc + 3) ls (.int (zI (X i 5)) :: rest))) : W p l e R0 s m args below meth c H locs cells slots Q (F0 m pc ls (.ref (bs + i) :: rest)) :=
  zd_get C hH hi hk rfl zin2 rfl 5 (by decide) hlk rfl hdg kk
theorem zp2_5 (C : zC p m c cc nL s args own D cy) (hH : zH D cy bs N kd len X Y R H) (hS : va_S (zA bs) H0 H locs) {i idx : Nat} (hi : i < N) (hk : kd i = 2) (hlk : Cond.fieldLink own idx RX2 "heads" "I" ∈ zTB) {v : Int} (hv : rI v) (hdg : decode cc pc = .ok (.putfield idx, 3))
    (kk : ∀ (H1 : Heap) (locs1 : List Loc), zH D cy bs N kd len (zU X i 5 v) Y R H1 → va_S (zA bs) H0 H1 locs1 → W p l e R0 s m args below meth c H1 locs1 cells slots Q (F0 m (pc + 3) ls rest)) : W p l e R0 s m args below meth c H locs cells slots Q (F0 m pc ls (.int (zI v) :: .ref (bs + i) :: rest)) :=
  zd_put C hH hS hi hk rfl zin2 rfl tyX2 tyX2_ok nmX2 5 (by decide) hlk rfl (ty := .int) (by decide +kernel) rfl rfl (Nat.le_of_ble_eq_true rfl) (fun j hj => ⟨zU_o hj, rfl, rfl⟩) (zU_rI hH.2.2.1 hv) hH.2.2.2 (by simp [zc, zU, va_rf]) hdg kk
theorem zg2_6 (C : zC p m c cc nL s args own D cy) (hH : zH D cy bs N kd len X Y R H) {i idx : Nat} (hi : i < N) (hk : kd i = 2) (hlk : Cond.fieldLink own idx RX2 "bodies" "I" ∈ zTB) (hdg : decode cc pc = .ok (.getfield idx, 3))
    (kk : W p l e R0 s m args below meth c H locs cells slots Q (F0 m (pc + 3) ls (.int (zI (X i 6)) :: rest))) : W p l e R0 s m args below meth c H locs cells slots Q (F0 m pc ls (.ref (bs + i) :: rest)) :=
  zd_get C hH hi hk rfl zin2 rfl 6 (by decide) hlk rfl hdg kk
theorem zp2_6 (C : zC p m c cc nL s args own D cy) (hH : zH D cy bs N kd len X Y R H) (hS : va_S (zA bs) H0 H locs) {i idx : Nat} (hi : i < N) (hk : kd i = 2) (hlk : Cond.fieldLink own idx RX2 "bodies" "I" ∈ zTB) {v : Int} (hv : rI v) (hdg : decode cc pc = .ok (.putfield idx, 3))
    (kk : ∀ (H1 : Heap) (locs1 : List Loc), zH D cy bs N kd len (zU X i 6 v) Y R H1 → va_S (zA bs) H0 H1 locs1 → W p l e R0 s m args below meth c H1 locs1 cells slots Q (F0 m (pc + 3) ls rest)) : W p l e R0 s m args below meth c H locs cells slots Q (F0 m pc ls (.int (zI v) :: .ref (bs + i) :: rest)) :=
  zd_put C hH hS hi hk rfl zin2 rfl tyX2 tyX2_ok nmX2 6 (by decide) hlk rfl (ty := .int) (by decide +kernel) rfl rfl (Nat.le_of_ble_eq_true rfl) (fun j hj => ⟨zU_o hj, rfl, rfl⟩) (zU_rI hH.2.2.1 hv) hH.2.2.2 (by simp [zc, zU, va_rf]) hdg kk
theorem zg2_7 (C : zC p m c cc nL s args own D cy) (hH : zH D cy bs N kd len X Y R H) {i idx : Nat} (hi : i < N) (hk : kd i = 2) (hlk : Cond.fieldLink own idx RX2 "whole" "I" ∈ zTB) (hdg : decode cc pc = .ok (.getfield idx, 3))
    (kk : W p l e R0 s m args below meth c H locs cells slots Q (F0 m (pc + 3) ls (.int (zI (X i 7)) :: rest))) : W p l e R0 s m args below meth c H locs cells slots Q (F0 m pc ls (.ref (bs + i) :: rest)) :=
  zd_get C hH hi hk rfl zin2 rfl 7 (by decide) hlk rfl hdg kk
theorem zp2_7 (C : zC p m c cc nL s args own D cy) (hH : zH D cy bs N kd len X Y R H) (hS : va_S (zA bs) H0 H locs) {i idx : Nat} (hi : i < N) (hk : kd i = 2) (hlk : Cond.fieldLink own idx RX2 "whole" "I" ∈ zTB) {v : Int} (hv : rI v) (hdg : decode cc pc = .ok (.putfield idx, 3))
    (kk : ∀ (H1 : Heap) (locs1 : List Loc), zH D cy bs N kd len (zU X i 7 v) Y R H1 → va_S (zA bs) H0 H1 locs1 → W p l e R0 s m args below meth c H1 locs1 cells slots Q (F0 m (pc + 3) ls rest)) : W p l e R0 s m args below meth c H locs cells slots Q (F0 m pc ls (.int (zI v) :: .ref (bs + i) :: rest)) :=
  zd_put C hH hS hi hk rfl zin2 rfl tyX2 tyX2_ok nmX2 7 (by decide) hlk rfl (ty := .int) (by decide +kernel) rfl rfl (Nat.le_of_ble_eq_true rfl) (fun j hj => ⟨zU_o hj, rfl, rfl⟩) (zU_rI hH.2.2.1 hv) hH.2.2.2 (by simp [zc, zU, va_rf]) hdg kk
theorem zg2_8 (C : zC p m c cc nL s args own D cy) (hH : zH D cy bs N kd len X Y R H) {i idx : Nat} (hi : i < N) (hk : kd i = 2) (hlk : Cond.fieldLink own idx RX2 "tip" "I" ∈ zTB) (hdg : decode cc pc = .ok (.getfield idx, 3))
    (kk : W p l e R0 s m args below meth c H locs cells slots Q (F0 m (pc + 3) ls (.int (zI (X i 8)) :: rest))) : W p l e R0 s m args below meth c H locs cells slots Q (F0 m pc ls (.ref (bs + i) :: rest)) :=
  zd_get C hH hi hk rfl zin2 rfl 8 (by decide) hlk rfl hdg kk
theorem zp2_8 (C : zC p m c cc nL s args own D cy) (hH : zH D cy bs N kd len X Y R H) (hS : va_S (zA bs) H0 H locs) {i idx : Nat} (hi : i < N) (hk : kd i = 2) (hlk : Cond.fieldLink own idx RX2 "tip" "I" ∈ zTB) {v : Int} (hv : rI v) (hdg : decode cc pc = .ok (.putfield idx, 3))
    (kk : ∀ (H1 : Heap) (locs1 : List Loc), zH D cy bs N kd len (zU X i 8 v) Y R H1 → va_S (zA bs) H0 H1 locs1 → W p l e R0 s m args below meth c H1 locs1 cells slots Q (F0 m (pc + 3) ls rest)) : W p l e R0 s m args below meth c H locs cells slots Q (F0 m pc ls (.int (zI v) :: .ref (bs + i) :: rest)) :=
  zd_put C hH hS hi hk rfl zin2 rfl tyX2 tyX2_ok nmX2 8 (by decide) hlk rfl (ty := .int) (by decide +kernel) rfl rfl (Nat.le_of_ble_eq_true rfl) (fun j hj => ⟨zU_o hj, rfl, rfl⟩) (zU_rI hH.2.2.1 hv) hH.2.2.2 (by simp [zc, zU, va_rf]) hdg kk
theorem zg2_9 (C : zC p m c cc nL s args own D cy) (hH : zH D cy bs N kd len X Y R H) {i idx : Nat} (hi : i < N) (hk : kd i = 2) (hlk : Cond.fieldLink own idx RX2 "deeds" "I" ∈ zTB) (hdg : decode cc pc = .ok (.getfield idx, 3))
    (kk : W p l e R0 s m args below meth c H locs cells slots Q (F0 m (pc + 3) ls (.int (zI (X i 9)) :: rest))) : W p l e R0 s m args below meth c H locs cells slots Q (F0 m pc ls (.ref (bs + i) :: rest)) :=
  zd_get C hH hi hk rfl zin2 rfl 9 (by decide) hlk rfl hdg kk
theorem zp2_9 (C : zC p m c cc nL s args own D cy) (hH : zH D cy bs N kd len X Y R H) (hS : va_S (zA bs) H0 H locs) {i idx : Nat} (hi : i < N) (hk : kd i = 2) (hlk : Cond.fieldLink own idx RX2 "deeds" "I" ∈ zTB) {v : Int} (hv : rI v) (hdg : decode cc pc = .ok (.putfield idx, 3))
    (kk : ∀ (H1 : Heap) (locs1 : List Loc), zH D cy bs N kd len (zU X i 9 v) Y R H1 → va_S (zA bs) H0 H1 locs1 → W p l e R0 s m args below meth c H1 locs1 cells slots Q (F0 m (pc + 3) ls rest)) : W p l e R0 s m args below meth c H locs cells slots Q (F0 m pc ls (.int (zI v) :: .ref (bs + i) :: rest)) :=
  zd_put C hH hS hi hk rfl zin2 rfl tyX2 tyX2_ok nmX2 9 (by decide) hlk rfl (ty := .int) (by decide +kernel) rfl rfl (Nat.le_of_ble_eq_true rfl) (fun j hj => ⟨zU_o hj, rfl, rfl⟩) (zU_rI hH.2.2.1 hv) hH.2.2.2 (by simp [zc, zU, va_rf]) hdg kk
theorem zg2_10 (C : zC p m c cc nL s args own D cy) (hH : zH D cy bs N kd len X Y R H) {i idx : Nat} (hi : i < N) (hk : kd i = 2) (hlk : Cond.fieldLink own idx RX2 "undone" "I" ∈ zTB) (hdg : decode cc pc = .ok (.getfield idx, 3))
    (kk : W p l e R0 s m args below meth c H locs cells slots Q (F0 m (pc + 3) ls (.int (zI (X i 10)) :: rest))) : W p l e R0 s m args below meth c H locs cells slots Q (F0 m pc ls (.ref (bs + i) :: rest)) :=
  zd_get C hH hi hk rfl zin2 rfl 10 (by decide) hlk rfl hdg kk
theorem zp2_10 (C : zC p m c cc nL s args own D cy) (hH : zH D cy bs N kd len X Y R H) (hS : va_S (zA bs) H0 H locs) {i idx : Nat} (hi : i < N) (hk : kd i = 2) (hlk : Cond.fieldLink own idx RX2 "undone" "I" ∈ zTB) {v : Int} (hv : rI v) (hdg : decode cc pc = .ok (.putfield idx, 3))
    (kk : ∀ (H1 : Heap) (locs1 : List Loc), zH D cy bs N kd len (zU X i 10 v) Y R H1 → va_S (zA bs) H0 H1 locs1 → W p l e R0 s m args below meth c H1 locs1 cells slots Q (F0 m (pc + 3) ls rest)) : W p l e R0 s m args below meth c H locs cells slots Q (F0 m pc ls (.int (zI v) :: .ref (bs + i) :: rest)) :=
  zd_put C hH hS hi hk rfl zin2 rfl tyX2 tyX2_ok nmX2 10 (by decide) hlk rfl (ty := .int) (by decide +kernel) rfl rfl (Nat.le_of_ble_eq_true rfl) (fun j hj => ⟨zU_o hj, rfl, rfl⟩) (zU_rI hH.2.2.1 hv) hH.2.2.2 (by simp [zc, zU, va_rf]) hdg kk
theorem zg2_11 (C : zC p m c cc nL s args own D cy) (hH : zH D cy bs N kd len X Y R H) {i idx : Nat} (hi : i < N) (hk : kd i = 2) (hlk : Cond.fieldLink own idx RX2 "done" "I" ∈ zTB) (hdg : decode cc pc = .ok (.getfield idx, 3))
    (kk : W p l e R0 s m args below meth c H locs cells slots Q (F0 m (pc + 3) ls (.int (zI (X i 11)) :: rest))) : W p l e R0 s m args below meth c H locs cells slots Q (F0 m pc ls (.ref (bs + i) :: rest)) :=
  zd_get C hH hi hk rfl zin2 rfl 11 (by decide) hlk rfl hdg kk
theorem zp2_11 (C : zC p m c cc nL s args own D cy) (hH : zH D cy bs N kd len X Y R H) (hS : va_S (zA bs) H0 H locs) {i idx : Nat} (hi : i < N) (hk : kd i = 2) (hlk : Cond.fieldLink own idx RX2 "done" "I" ∈ zTB) {v : Int} (hv : rI v) (hdg : decode cc pc = .ok (.putfield idx, 3))
    (kk : ∀ (H1 : Heap) (locs1 : List Loc), zH D cy bs N kd len (zU X i 11 v) Y R H1 → va_S (zA bs) H0 H1 locs1 → W p l e R0 s m args below meth c H1 locs1 cells slots Q (F0 m (pc + 3) ls rest)) : W p l e R0 s m args below meth c H locs cells slots Q (F0 m pc ls (.int (zI v) :: .ref (bs + i) :: rest)) :=
  zd_put C hH hS hi hk rfl zin2 rfl tyX2 tyX2_ok nmX2 11 (by decide) hlk rfl (ty := .int) (by decide +kernel) rfl rfl (Nat.le_of_ble_eq_true rfl) (fun j hj => ⟨zU_o hj, rfl, rfl⟩) (zU_rI hH.2.2.1 hv) hH.2.2.2 (by simp [zc, zU, va_rf]) hdg kk
theorem zg2_12 (C : zC p m c cc nL s args own D cy) (hH : zH D cy bs N kd len X Y R H) {i idx : Nat} (hi : i < N) (hk : kd i = 2) (hlk : Cond.fieldLink own idx RX2 "switches" "I" ∈ zTB) (hdg : decode cc pc = .ok (.getfield idx, 3))
    (kk : W p l e R0 s m args below meth c H locs cells slots Q (F0 m (pc + 3) ls (.int (zI (X i 12)) :: rest))) : W p l e R0 s m args below meth c H locs cells slots Q (F0 m pc ls (.ref (bs + i) :: rest)) :=
  zd_get C hH hi hk rfl zin2 rfl 12 (by decide) hlk rfl hdg kk
theorem zp2_12 (C : zC p m c cc nL s args own D cy) (hH : zH D cy bs N kd len X Y R H) (hS : va_S (zA bs) H0 H locs) {i idx : Nat} (hi : i < N) (hk : kd i = 2) (hlk : Cond.fieldLink own idx RX2 "switches" "I" ∈ zTB) {v : Int} (hv : rI v) (hdg : decode cc pc = .ok (.putfield idx, 3))
    (kk : ∀ (H1 : Heap) (locs1 : List Loc), zH D cy bs N kd len (zU X i 12 v) Y R H1 → va_S (zA bs) H0 H1 locs1 → W p l e R0 s m args below meth c H1 locs1 cells slots Q (F0 m (pc + 3) ls rest)) : W p l e R0 s m args below meth c H locs cells slots Q (F0 m pc ls (.int (zI v) :: .ref (bs + i) :: rest)) :=
  zd_put C hH hS hi hk rfl zin2 rfl tyX2 tyX2_ok nmX2 12 (by decide) hlk rfl (ty := .int) (by decide +kernel) rfl rfl (Nat.le_of_ble_eq_true rfl) (fun j hj => ⟨zU_o hj, rfl, rfl⟩) (zU_rI hH.2.2.1 hv) hH.2.2.2 (by simp [zc, zU, va_rf]) hdg kk
theorem zg2_13 (C : zC p m c cc nL s args own D cy) (hH : zH D cy bs N kd len X Y R H) {i idx : Nat} (hi : i < N) (hk : kd i = 2) (hlk : Cond.fieldLink own idx RX2 "longest" "I" ∈ zTB) (hdg : decode cc pc = .ok (.getfield idx, 3))
    (kk : W p l e R0 s m args below meth c H locs cells slots Q (F0 m (pc + 3) ls (.int (zI (X i 13)) :: rest))) : W p l e R0 s m args below meth c H locs cells slots Q (F0 m pc ls (.ref (bs + i) :: rest)) :=
  zd_get C hH hi hk rfl zin2 rfl 13 (by decide) hlk rfl hdg kk
theorem zp2_13 (C : zC p m c cc nL s args own D cy) (hH : zH D cy bs N kd len X Y R H) (hS : va_S (zA bs) H0 H locs) {i idx : Nat} (hi : i < N) (hk : kd i = 2) (hlk : Cond.fieldLink own idx RX2 "longest" "I" ∈ zTB) {v : Int} (hv : rI v) (hdg : decode cc pc = .ok (.putfield idx, 3))
    (kk : ∀ (H1 : Heap) (locs1 : List Loc), zH D cy bs N kd len (zU X i 13 v) Y R H1 → va_S (zA bs) H0 H1 locs1 → W p l e R0 s m args below meth c H1 locs1 cells slots Q (F0 m (pc + 3) ls rest)) : W p l e R0 s m args below meth c H locs cells slots Q (F0 m pc ls (.int (zI v) :: .ref (bs + i) :: rest)) :=
  zd_put C hH hS hi hk rfl zin2 rfl tyX2 tyX2_ok nmX2 13 (by decide) hlk rfl (ty := .int) (by decide +kernel) rfl rfl (Nat.le_of_ble_eq_true rfl) (fun j hj => ⟨zU_o hj, rfl, rfl⟩) (zU_rI hH.2.2.1 hv) hH.2.2.2 (by simp [zc, zU, va_rf]) hdg kk
theorem zg2_14 (C : zC p m c cc nL s args own D cy) (hH : zH D cy bs N kd len X Y R H) {i idx : Nat} (hi : i < N) (hk : kd i = 2) (hlk : Cond.fieldLink own idx RX2 "first" "I" ∈ zTB) (hdg : decode cc pc = .ok (.getfield idx, 3))
    (kk : W p l e R0 s m args below meth c H locs cells slots Q (F0 m (pc + 3) ls (.int (zI (X i 14)) :: rest))) : W p l e R0 s m args below meth c H locs cells slots Q (F0 m pc ls (.ref (bs + i) :: rest)) :=
  zd_get C hH hi hk rfl zin2 rfl 14 (by decide) hlk rfl hdg kk
theorem zp2_14 (C : zC p m c cc nL s args own D cy) (hH : zH D cy bs N kd len X Y R H) (hS : va_S (zA bs) H0 H locs) {i idx : Nat} (hi : i < N) (hk : kd i = 2) (hlk : Cond.fieldLink own idx RX2 "first" "I" ∈ zTB) {v : Int} (hv : rI v) (hdg : decode cc pc = .ok (.putfield idx, 3))
    (kk : ∀ (H1 : Heap) (locs1 : List Loc), zH D cy bs N kd len (zU X i 14 v) Y R H1 → va_S (zA bs) H0 H1 locs1 → W p l e R0 s m args below meth c H1 locs1 cells slots Q (F0 m (pc + 3) ls rest)) : W p l e R0 s m args below meth c H locs cells slots Q (F0 m pc ls (.int (zI v) :: .ref (bs + i) :: rest)) :=
  zd_put C hH hS hi hk rfl zin2 rfl tyX2 tyX2_ok nmX2 14 (by decide) hlk rfl (ty := .int) (by decide +kernel) rfl rfl (Nat.le_of_ble_eq_true rfl) (fun j hj => ⟨zU_o hj, rfl, rfl⟩) (zU_rI hH.2.2.1 hv) hH.2.2.2 (by simp [zc, zU, va_rf]) hdg kk
theorem zg3_0 (C : zC p m c cc nL s args own D cy) (hH : zH D cy bs N kd len X Y R H) {i idx : Nat} (hi : i < N) (hk : kd i = 3) (hlk : Cond.fieldLink own idx RX3 "pool" "LWorkChains$Rows;" ∈ zTB) {j : Nat} (hr : R i 0 = some j) (hdg : decode cc pc = .ok (.getfield idx, 3))
    (kk : W p l e R0 s m args below meth c H locs cells slots Q (F0 m (pc + 3) ls (.ref (bs + j) :: rest))) : W p l e R0 s m args below meth c H locs cells slots Q (F0 m pc ls (.ref (bs + i) :: rest)) := by
  refine zd_get C hH hi hk rfl zin3 rfl 0 (by decide) hlk rfl hdg ?_
  rw [hr]
  exact kk
theorem zp3_0 (C : zC p m c cc nL s args own D cy) (hH : zH D cy bs N kd len X Y R H) (hS : va_S (zA bs) H0 H locs) {i idx : Nat} (hi : i < N) (hk : kd i = 3) (hlk : Cond.fieldLink own idx RX3 "pool" "LWorkChains$Rows;" ∈ zTB) {v : Nat} (hdg : decode cc pc = .ok (.putfield idx, 3))
    (kk : ∀ (H1 : Heap) (locs1 : List Loc), zH D cy bs N kd len X Y (zU R i 0 (some v)) H1 → va_S (zA bs) H0 H1 locs1 → W p l e R0 s m args below meth c H1 locs1 cells slots Q (F0 m (pc + 3) ls rest)) : W p l e R0 s m args below meth c H locs cells slots Q (F0 m pc ls (.ref (bs + v) :: .ref (bs + i) :: rest)) :=
  zd_put C hH hS hi hk rfl zin3 rfl tyX3 tyX3_ok nmX3 0 (by decide) hlk rfl (ty := (tyX3 0)) (by decide +kernel) rfl rfl (Nat.le_of_ble_eq_true rfl) (fun j hj => ⟨rfl, rfl, zU_o hj⟩) hH.2.2.1 hH.2.2.2 (by simp [zc, zU, va_rf]) hdg kk
theorem zg3_1 (C : zC p m c cc nL s args own D cy) (hH : zH D cy bs N kd len X Y R H) {i idx : Nat} (hi : i < N) (hk : kd i = 3) (hlk : Cond.fieldLink own idx RX3 "ledgers" "[LWorkChains$Ledger;" ∈ zTB) {j : Nat} (hr : R i 1 = some j) (hdg : decode cc pc = .ok (.getfield idx, 3))
    (kk : W p l e R0 s m args below meth c H locs cells slots Q (F0 m (pc + 3) ls (.ref (bs + j) :: rest))) : W p l e R0 s m args below meth c H locs cells slots Q (F0 m pc ls (.ref (bs + i) :: rest)) := by
  refine zd_get C hH hi hk rfl zin3 rfl 1 (by decide) hlk rfl hdg ?_
  rw [hr]
  exact kk
theorem zp3_1 (C : zC p m c cc nL s args own D cy) (hH : zH D cy bs N kd len X Y R H) (hS : va_S (zA bs) H0 H locs) {i idx : Nat} (hi : i < N) (hk : kd i = 3) (hlk : Cond.fieldLink own idx RX3 "ledgers" "[LWorkChains$Ledger;" ∈ zTB) (hinit : meth.name = "<init>") (hdecl : RX3 = own) {v : Nat} (hdg : decode cc pc = .ok (.putfield idx, 3))
    (kk : ∀ (H1 : Heap) (locs1 : List Loc), zH D cy bs N kd len X Y (zU R i 1 (some v)) H1 → va_S (zA bs) H0 H1 locs1 → W p l e R0 s m args below meth c H1 locs1 cells slots Q (F0 m (pc + 3) ls rest)) : W p l e R0 s m args below meth c H locs cells slots Q (F0 m pc ls (.ref (bs + v) :: .ref (bs + i) :: rest)) :=
  zd_putF C hH hS hi hk rfl zin3 rfl tyX3 tyX3_ok nmX3 1 (by decide) hlk rfl hinit hdecl (ty := (tyX3 1)) (by decide +kernel) rfl rfl (Nat.le_of_ble_eq_true rfl) (fun j hj => ⟨rfl, rfl, zU_o hj⟩) hH.2.2.1 hH.2.2.2 (by simp [zc, zU, va_rf]) hdg kk
theorem zg3_2 (C : zC p m c cc nL s args own D cy) (hH : zH D cy bs N kd len X Y R H) {i idx : Nat} (hi : i < N) (hk : kd i = 3) (hlk : Cond.fieldLink own idx RX3 "row" "[I" ∈ zTB) {j : Nat} (hr : R i 2 = some j) (hdg : decode cc pc = .ok (.getfield idx, 3))
    (kk : W p l e R0 s m args below meth c H locs cells slots Q (F0 m (pc + 3) ls (.ref (bs + j) :: rest))) : W p l e R0 s m args below meth c H locs cells slots Q (F0 m pc ls (.ref (bs + i) :: rest)) := by
  refine zd_get C hH hi hk rfl zin3 rfl 2 (by decide) hlk rfl hdg ?_
  rw [hr]
  exact kk
theorem zp3_2 (C : zC p m c cc nL s args own D cy) (hH : zH D cy bs N kd len X Y R H) (hS : va_S (zA bs) H0 H locs) {i idx : Nat} (hi : i < N) (hk : kd i = 3) (hlk : Cond.fieldLink own idx RX3 "row" "[I" ∈ zTB) (hinit : meth.name = "<init>") (hdecl : RX3 = own) {v : Nat} (hdg : decode cc pc = .ok (.putfield idx, 3))
    (kk : ∀ (H1 : Heap) (locs1 : List Loc), zH D cy bs N kd len X Y (zU R i 2 (some v)) H1 → va_S (zA bs) H0 H1 locs1 → W p l e R0 s m args below meth c H1 locs1 cells slots Q (F0 m (pc + 3) ls rest)) : W p l e R0 s m args below meth c H locs cells slots Q (F0 m pc ls (.ref (bs + v) :: .ref (bs + i) :: rest)) :=
  zd_putF C hH hS hi hk rfl zin3 rfl tyX3 tyX3_ok nmX3 2 (by decide) hlk rfl hinit hdecl (ty := (tyX3 2)) (by decide +kernel) rfl rfl (Nat.le_of_ble_eq_true rfl) (fun j hj => ⟨rfl, rfl, zU_o hj⟩) hH.2.2.1 hH.2.2.2 (by simp [zc, zU, va_rf]) hdg kk
theorem zg3_3 (C : zC p m c cc nL s args own D cy) (hH : zH D cy bs N kd len X Y R H) {i idx : Nat} (hi : i < N) (hk : kd i = 3) (hlk : Cond.fieldLink own idx RX3 "best" "[I" ∈ zTB) {j : Nat} (hr : R i 3 = some j) (hdg : decode cc pc = .ok (.getfield idx, 3))
    (kk : W p l e R0 s m args below meth c H locs cells slots Q (F0 m (pc + 3) ls (.ref (bs + j) :: rest))) : W p l e R0 s m args below meth c H locs cells slots Q (F0 m pc ls (.ref (bs + i) :: rest)) := by
  refine zd_get C hH hi hk rfl zin3 rfl 3 (by decide) hlk rfl hdg ?_
  rw [hr]
  exact kk
theorem zp3_3 (C : zC p m c cc nL s args own D cy) (hH : zH D cy bs N kd len X Y R H) (hS : va_S (zA bs) H0 H locs) {i idx : Nat} (hi : i < N) (hk : kd i = 3) (hlk : Cond.fieldLink own idx RX3 "best" "[I" ∈ zTB) (hinit : meth.name = "<init>") (hdecl : RX3 = own) {v : Nat} (hdg : decode cc pc = .ok (.putfield idx, 3))
    (kk : ∀ (H1 : Heap) (locs1 : List Loc), zH D cy bs N kd len X Y (zU R i 3 (some v)) H1 → va_S (zA bs) H0 H1 locs1 → W p l e R0 s m args below meth c H1 locs1 cells slots Q (F0 m (pc + 3) ls rest)) : W p l e R0 s m args below meth c H locs cells slots Q (F0 m pc ls (.ref (bs + v) :: .ref (bs + i) :: rest)) :=
  zd_putF C hH hS hi hk rfl zin3 rfl tyX3 tyX3_ok nmX3 3 (by decide) hlk rfl hinit hdecl (ty := (tyX3 3)) (by decide +kernel) rfl rfl (Nat.le_of_ble_eq_true rfl) (fun j hj => ⟨rfl, rfl, zU_o hj⟩) hH.2.2.1 hH.2.2.2 (by simp [zc, zU, va_rf]) hdg kk
theorem zg3_4 (C : zC p m c cc nL s args own D cy) (hH : zH D cy bs N kd len X Y R H) {i idx : Nat} (hi : i < N) (hk : kd i = 3) (hlk : Cond.fieldLink own idx RX3 "bestSize" "I" ∈ zTB) (hdg : decode cc pc = .ok (.getfield idx, 3))
    (kk : W p l e R0 s m args below meth c H locs cells slots Q (F0 m (pc + 3) ls (.int (zI (X i 4)) :: rest))) : W p l e R0 s m args below meth c H locs cells slots Q (F0 m pc ls (.ref (bs + i) :: rest)) :=
  zd_get C hH hi hk rfl zin3 rfl 4 (by decide) hlk rfl hdg kk
theorem zp3_4 (C : zC p m c cc nL s args own D cy) (hH : zH D cy bs N kd len X Y R H) (hS : va_S (zA bs) H0 H locs) {i idx : Nat} (hi : i < N) (hk : kd i = 3) (hlk : Cond.fieldLink own idx RX3 "bestSize" "I" ∈ zTB) {v : Int} (hv : rI v) (hdg : decode cc pc = .ok (.putfield idx, 3))
    (kk : ∀ (H1 : Heap) (locs1 : List Loc), zH D cy bs N kd len (zU X i 4 v) Y R H1 → va_S (zA bs) H0 H1 locs1 → W p l e R0 s m args below meth c H1 locs1 cells slots Q (F0 m (pc + 3) ls rest)) : W p l e R0 s m args below meth c H locs cells slots Q (F0 m pc ls (.int (zI v) :: .ref (bs + i) :: rest)) :=
  zd_put C hH hS hi hk rfl zin3 rfl tyX3 tyX3_ok nmX3 4 (by decide) hlk rfl (ty := .int) (by decide +kernel) rfl rfl (Nat.le_of_ble_eq_true rfl) (fun j hj => ⟨zU_o hj, rfl, rfl⟩) (zU_rI hH.2.2.1 hv) hH.2.2.2 (by simp [zc, zU, va_rf]) hdg kk
theorem zg3_5 (C : zC p m c cc nL s args own D cy) (hH : zH D cy bs N kd len X Y R H) {i idx : Nat} (hi : i < N) (hk : kd i = 3) (hlk : Cond.fieldLink own idx RX3 "bestFees" "I" ∈ zTB) (hdg : decode cc pc = .ok (.getfield idx, 3))
    (kk : W p l e R0 s m args below meth c H locs cells slots Q (F0 m (pc + 3) ls (.int (zI (X i 5)) :: rest))) : W p l e R0 s m args below meth c H locs cells slots Q (F0 m pc ls (.ref (bs + i) :: rest)) :=
  zd_get C hH hi hk rfl zin3 rfl 5 (by decide) hlk rfl hdg kk
theorem zp3_5 (C : zC p m c cc nL s args own D cy) (hH : zH D cy bs N kd len X Y R H) (hS : va_S (zA bs) H0 H locs) {i idx : Nat} (hi : i < N) (hk : kd i = 3) (hlk : Cond.fieldLink own idx RX3 "bestFees" "I" ∈ zTB) {v : Int} (hv : rI v) (hdg : decode cc pc = .ok (.putfield idx, 3))
    (kk : ∀ (H1 : Heap) (locs1 : List Loc), zH D cy bs N kd len (zU X i 5 v) Y R H1 → va_S (zA bs) H0 H1 locs1 → W p l e R0 s m args below meth c H1 locs1 cells slots Q (F0 m (pc + 3) ls rest)) : W p l e R0 s m args below meth c H locs cells slots Q (F0 m pc ls (.int (zI v) :: .ref (bs + i) :: rest)) :=
  zd_put C hH hS hi hk rfl zin3 rfl tyX3 tyX3_ok nmX3 5 (by decide) hlk rfl (ty := .int) (by decide +kernel) rfl rfl (Nat.le_of_ble_eq_true rfl) (fun j hj => ⟨zU_o hj, rfl, rfl⟩) (zU_rI hH.2.2.1 hv) hH.2.2.2 (by simp [zc, zU, va_rf]) hdg kk
theorem zg4_0 (C : zC p m c cc nL s args own D cy) (hH : zH D cy bs N kd len X Y R H) {i idx : Nat} (hi : i < N) (hk : kd i = 4) (hlk : Cond.fieldLink own idx RX4 "chart" "LWorkChains$Chart;" ∈ zTB) {j : Nat} (hr : R i 0 = some j) (hdg : decode cc pc = .ok (.getfield idx, 3))
    (kk : W p l e R0 s m args below meth c H locs cells slots Q (F0 m (pc + 3) ls (.ref (bs + j) :: rest))) : W p l e R0 s m args below meth c H locs cells slots Q (F0 m pc ls (.ref (bs + i) :: rest)) := by
  refine zd_get C hH hi hk rfl zin4 rfl 0 (by decide) hlk rfl hdg ?_
  rw [hr]
  exact kk
theorem zp4_0 (C : zC p m c cc nL s args own D cy) (hH : zH D cy bs N kd len X Y R H) (hS : va_S (zA bs) H0 H locs) {i idx : Nat} (hi : i < N) (hk : kd i = 4) (hlk : Cond.fieldLink own idx RX4 "chart" "LWorkChains$Chart;" ∈ zTB) (hinit : meth.name = "<init>") (hdecl : RX4 = own) {v : Nat} (hdg : decode cc pc = .ok (.putfield idx, 3))
    (kk : ∀ (H1 : Heap) (locs1 : List Loc), zH D cy bs N kd len X Y (zU R i 0 (some v)) H1 → va_S (zA bs) H0 H1 locs1 → W p l e R0 s m args below meth c H1 locs1 cells slots Q (F0 m (pc + 3) ls rest)) : W p l e R0 s m args below meth c H locs cells slots Q (F0 m pc ls (.ref (bs + v) :: .ref (bs + i) :: rest)) :=
  zd_putF C hH hS hi hk rfl zin4 rfl tyX4 tyX4_ok nmX4 0 (by decide) hlk rfl hinit hdecl (ty := (tyX4 0)) (by decide +kernel) rfl rfl (Nat.le_of_ble_eq_true rfl) (fun j hj => ⟨rfl, rfl, zU_o hj⟩) hH.2.2.1 hH.2.2.2 (by simp [zc, zU, va_rf]) hdg kk
theorem zg4_1 (C : zC p m c cc nL s args own D cy) (hH : zH D cy bs N kd len X Y R H) {i idx : Nat} (hi : i < N) (hk : kd i = 4) (hlk : Cond.fieldLink own idx RX4 "course" "LWorkChains$Course;" ∈ zTB) {j : Nat} (hr : R i 1 = some j) (hdg : decode cc pc = .ok (.getfield idx, 3))
    (kk : W p l e R0 s m args below meth c H locs cells slots Q (F0 m (pc + 3) ls (.ref (bs + j) :: rest))) : W p l e R0 s m args below meth c H locs cells slots Q (F0 m pc ls (.ref (bs + i) :: rest)) := by
  refine zd_get C hH hi hk rfl zin4 rfl 1 (by decide) hlk rfl hdg ?_
  rw [hr]
  exact kk
theorem zp4_1 (C : zC p m c cc nL s args own D cy) (hH : zH D cy bs N kd len X Y R H) (hS : va_S (zA bs) H0 H locs) {i idx : Nat} (hi : i < N) (hk : kd i = 4) (hlk : Cond.fieldLink own idx RX4 "course" "LWorkChains$Course;" ∈ zTB) (hinit : meth.name = "<init>") (hdecl : RX4 = own) {v : Nat} (hdg : decode cc pc = .ok (.putfield idx, 3))
    (kk : ∀ (H1 : Heap) (locs1 : List Loc), zH D cy bs N kd len X Y (zU R i 1 (some v)) H1 → va_S (zA bs) H0 H1 locs1 → W p l e R0 s m args below meth c H1 locs1 cells slots Q (F0 m (pc + 3) ls rest)) : W p l e R0 s m args below meth c H locs cells slots Q (F0 m pc ls (.ref (bs + v) :: .ref (bs + i) :: rest)) :=
  zd_putF C hH hS hi hk rfl zin4 rfl tyX4 tyX4_ok nmX4 1 (by decide) hlk rfl hinit hdecl (ty := (tyX4 1)) (by decide +kernel) rfl rfl (Nat.le_of_ble_eq_true rfl) (fun j hj => ⟨rfl, rfl, zU_o hj⟩) hH.2.2.1 hH.2.2.2 (by simp [zc, zU, va_rf]) hdg kk
theorem zg4_2 (C : zC p m c cc nL s args own D cy) (hH : zH D cy bs N kd len X Y R H) {i idx : Nat} (hi : i < N) (hk : kd i = 4) (hlk : Cond.fieldLink own idx RX4 "tips" "[[I" ∈ zTB) {j : Nat} (hr : R i 2 = some j) (hdg : decode cc pc = .ok (.getfield idx, 3))
    (kk : W p l e R0 s m args below meth c H locs cells slots Q (F0 m (pc + 3) ls (.ref (bs + j) :: rest))) : W p l e R0 s m args below meth c H locs cells slots Q (F0 m pc ls (.ref (bs + i) :: rest)) := by
  refine zd_get C hH hi hk rfl zin4 rfl 2 (by decide) hlk rfl hdg ?_
  rw [hr]
  exact kk
theorem zp4_2 (C : zC p m c cc nL s args own D cy) (hH : zH D cy bs N kd len X Y R H) (hS : va_S (zA bs) H0 H locs) {i idx : Nat} (hi : i < N) (hk : kd i = 4) (hlk : Cond.fieldLink own idx RX4 "tips" "[[I" ∈ zTB) (hinit : meth.name = "<init>") (hdecl : RX4 = own) {v : Nat} (hdg : decode cc pc = .ok (.putfield idx, 3))
    (kk : ∀ (H1 : Heap) (locs1 : List Loc), zH D cy bs N kd len X Y (zU R i 2 (some v)) H1 → va_S (zA bs) H0 H1 locs1 → W p l e R0 s m args below meth c H1 locs1 cells slots Q (F0 m (pc + 3) ls rest)) : W p l e R0 s m args below meth c H locs cells slots Q (F0 m pc ls (.ref (bs + v) :: .ref (bs + i) :: rest)) :=
  zd_putF C hH hS hi hk rfl zin4 rfl tyX4 tyX4_ok nmX4 2 (by decide) hlk rfl hinit hdecl (ty := (tyX4 2)) (by decide +kernel) rfl rfl (Nat.le_of_ble_eq_true rfl) (fun j hj => ⟨rfl, rfl, zU_o hj⟩) hH.2.2.1 hH.2.2.2 (by simp [zc, zU, va_rf]) hdg kk
theorem zg4_3 (C : zC p m c cc nL s args own D cy) (hH : zH D cy bs N kd len X Y R H) {i idx : Nat} (hi : i < N) (hk : kd i = 4) (hlk : Cond.fieldLink own idx RX4 "groups" "[I" ∈ zTB) {j : Nat} (hr : R i 3 = some j) (hdg : decode cc pc = .ok (.getfield idx, 3))
    (kk : W p l e R0 s m args below meth c H locs cells slots Q (F0 m (pc + 3) ls (.ref (bs + j) :: rest))) : W p l e R0 s m args below meth c H locs cells slots Q (F0 m pc ls (.ref (bs + i) :: rest)) := by
  refine zd_get C hH hi hk rfl zin4 rfl 3 (by decide) hlk rfl hdg ?_
  rw [hr]
  exact kk
theorem zp4_3 (C : zC p m c cc nL s args own D cy) (hH : zH D cy bs N kd len X Y R H) (hS : va_S (zA bs) H0 H locs) {i idx : Nat} (hi : i < N) (hk : kd i = 4) (hlk : Cond.fieldLink own idx RX4 "groups" "[I" ∈ zTB) (hinit : meth.name = "<init>") (hdecl : RX4 = own) {v : Nat} (hdg : decode cc pc = .ok (.putfield idx, 3))
    (kk : ∀ (H1 : Heap) (locs1 : List Loc), zH D cy bs N kd len X Y (zU R i 3 (some v)) H1 → va_S (zA bs) H0 H1 locs1 → W p l e R0 s m args below meth c H1 locs1 cells slots Q (F0 m (pc + 3) ls rest)) : W p l e R0 s m args below meth c H locs cells slots Q (F0 m pc ls (.ref (bs + v) :: .ref (bs + i) :: rest)) :=
  zd_putF C hH hS hi hk rfl zin4 rfl tyX4 tyX4_ok nmX4 3 (by decide) hlk rfl hinit hdecl (ty := (tyX4 3)) (by decide +kernel) rfl rfl (Nat.le_of_ble_eq_true rfl) (fun j hj => ⟨rfl, rfl, zU_o hj⟩) hH.2.2.1 hH.2.2.2 (by simp [zc, zU, va_rf]) hdg kk
theorem zg4_4 (C : zC p m c cc nL s args own D cy) (hH : zH D cy bs N kd len X Y R H) {i idx : Nat} (hi : i < N) (hk : kd i = 4) (hlk : Cond.fieldLink own idx RX4 "number" "[I" ∈ zTB) {j : Nat} (hr : R i 4 = some j) (hdg : decode cc pc = .ok (.getfield idx, 3))
    (kk : W p l e R0 s m args below meth c H locs cells slots Q (F0 m (pc + 3) ls (.ref (bs + j) :: rest))) : W p l e R0 s m args below meth c H locs cells slots Q (F0 m pc ls (.ref (bs + i) :: rest)) := by
  refine zd_get C hH hi hk rfl zin4 rfl 4 (by decide) hlk rfl hdg ?_
  rw [hr]
  exact kk
theorem zp4_4 (C : zC p m c cc nL s args own D cy) (hH : zH D cy bs N kd len X Y R H) (hS : va_S (zA bs) H0 H locs) {i idx : Nat} (hi : i < N) (hk : kd i = 4) (hlk : Cond.fieldLink own idx RX4 "number" "[I" ∈ zTB) (hinit : meth.name = "<init>") (hdecl : RX4 = own) {v : Nat} (hdg : decode cc pc = .ok (.putfield idx, 3))
    (kk : ∀ (H1 : Heap) (locs1 : List Loc), zH D cy bs N kd len X Y (zU R i 4 (some v)) H1 → va_S (zA bs) H0 H1 locs1 → W p l e R0 s m args below meth c H1 locs1 cells slots Q (F0 m (pc + 3) ls rest)) : W p l e R0 s m args below meth c H locs cells slots Q (F0 m pc ls (.ref (bs + v) :: .ref (bs + i) :: rest)) :=
  zd_putF C hH hS hi hk rfl zin4 rfl tyX4 tyX4_ok nmX4 4 (by decide) hlk rfl hinit hdecl (ty := (tyX4 4)) (by decide +kernel) rfl rfl (Nat.le_of_ble_eq_true rfl) (fun j hj => ⟨rfl, rfl, zU_o hj⟩) hH.2.2.1 hH.2.2.2 (by simp [zc, zU, va_rf]) hdg kk
theorem zg4_5 (C : zC p m c cc nL s args own D cy) (hH : zH D cy bs N kd len X Y R H) {i idx : Nat} (hi : i < N) (hk : kd i = 4) (hlk : Cond.fieldLink own idx RX4 "size" "I" ∈ zTB) (hdg : decode cc pc = .ok (.getfield idx, 3))
    (kk : W p l e R0 s m args below meth c H locs cells slots Q (F0 m (pc + 3) ls (.int (zI (X i 5)) :: rest))) : W p l e R0 s m args below meth c H locs cells slots Q (F0 m pc ls (.ref (bs + i) :: rest)) :=
  zd_get C hH hi hk rfl zin4 rfl 5 (by decide) hlk rfl hdg kk
theorem zp4_5 (C : zC p m c cc nL s args own D cy) (hH : zH D cy bs N kd len X Y R H) (hS : va_S (zA bs) H0 H locs) {i idx : Nat} (hi : i < N) (hk : kd i = 4) (hlk : Cond.fieldLink own idx RX4 "size" "I" ∈ zTB) {v : Int} (hv : rI v) (hdg : decode cc pc = .ok (.putfield idx, 3))
    (kk : ∀ (H1 : Heap) (locs1 : List Loc), zH D cy bs N kd len (zU X i 5 v) Y R H1 → va_S (zA bs) H0 H1 locs1 → W p l e R0 s m args below meth c H1 locs1 cells slots Q (F0 m (pc + 3) ls rest)) : W p l e R0 s m args below meth c H locs cells slots Q (F0 m pc ls (.int (zI v) :: .ref (bs + i) :: rest)) :=
  zd_put C hH hS hi hk rfl zin4 rfl tyX4 tyX4_ok nmX4 5 (by decide) hlk rfl (ty := .int) (by decide +kernel) rfl rfl (Nat.le_of_ble_eq_true rfl) (fun j hj => ⟨zU_o hj, rfl, rfl⟩) (zU_rI hH.2.2.1 hv) hH.2.2.2 (by simp [zc, zU, va_rf]) hdg kk
theorem zg5_0 (C : zC p m c cc nL s args own D cy) (hH : zH D cy bs N kd len X Y R H) {i idx : Nat} (hi : i < N) (hk : kd i = 5) (hlk : Cond.fieldLink own idx RX5 "accounts" "I" ∈ zTB) (hdg : decode cc pc = .ok (.getfield idx, 3))
    (kk : W p l e R0 s m args below meth c H locs cells slots Q (F0 m (pc + 3) ls (.int (zI (X i 0)) :: rest))) : W p l e R0 s m args below meth c H locs cells slots Q (F0 m pc ls (.ref (bs + i) :: rest)) :=
  zd_get C hH hi hk rfl zin5 rfl 0 (by decide) hlk rfl hdg kk
theorem zp5_0 (C : zC p m c cc nL s args own D cy) (hH : zH D cy bs N kd len X Y R H) (hS : va_S (zA bs) H0 H locs) {i idx : Nat} (hi : i < N) (hk : kd i = 5) (hlk : Cond.fieldLink own idx RX5 "accounts" "I" ∈ zTB) {v : Int} (hv : rI v) (hdg : decode cc pc = .ok (.putfield idx, 3))
    (kk : ∀ (H1 : Heap) (locs1 : List Loc), zH D cy bs N kd len (zU X i 0 v) Y R H1 → va_S (zA bs) H0 H1 locs1 → W p l e R0 s m args below meth c H1 locs1 cells slots Q (F0 m (pc + 3) ls rest)) : W p l e R0 s m args below meth c H locs cells slots Q (F0 m pc ls (.int (zI v) :: .ref (bs + i) :: rest)) :=
  zd_put C hH hS hi hk rfl zin5 rfl tyX5 tyX5_ok nmX5 0 (by decide) hlk rfl (ty := .int) (by decide +kernel) rfl rfl (Nat.le_of_ble_eq_true rfl) (fun j hj => ⟨zU_o hj, rfl, rfl⟩) (zU_rI hH.2.2.1 hv) hH.2.2.2 (by simp [zc, zU, va_rf]) hdg kk
theorem zg5_1 (C : zC p m c cc nL s args own D cy) (hH : zH D cy bs N kd len X Y R H) {i idx : Nat} (hi : i < N) (hk : kd i = 5) (hlk : Cond.fieldLink own idx RX5 "in" "[I" ∈ zTB) {j : Nat} (hr : R i 1 = some j) (hdg : decode cc pc = .ok (.getfield idx, 3))
    (kk : W p l e R0 s m args below meth c H locs cells slots Q (F0 m (pc + 3) ls (.ref (bs + j) :: rest))) : W p l e R0 s m args below meth c H locs cells slots Q (F0 m pc ls (.ref (bs + i) :: rest)) := by
  refine zd_get C hH hi hk rfl zin5 rfl 1 (by decide) hlk rfl hdg ?_
  rw [hr]
  exact kk
theorem zp5_1 (C : zC p m c cc nL s args own D cy) (hH : zH D cy bs N kd len X Y R H) (hS : va_S (zA bs) H0 H locs) {i idx : Nat} (hi : i < N) (hk : kd i = 5) (hlk : Cond.fieldLink own idx RX5 "in" "[I" ∈ zTB) (hinit : meth.name = "<init>") (hdecl : RX5 = own) {v : Nat} (hdg : decode cc pc = .ok (.putfield idx, 3))
    (kk : ∀ (H1 : Heap) (locs1 : List Loc), zH D cy bs N kd len X Y (zU R i 1 (some v)) H1 → va_S (zA bs) H0 H1 locs1 → W p l e R0 s m args below meth c H1 locs1 cells slots Q (F0 m (pc + 3) ls rest)) : W p l e R0 s m args below meth c H locs cells slots Q (F0 m pc ls (.ref (bs + v) :: .ref (bs + i) :: rest)) :=
  zd_putF C hH hS hi hk rfl zin5 rfl tyX5 tyX5_ok nmX5 1 (by decide) hlk rfl hinit hdecl (ty := (tyX5 1)) (by decide +kernel) rfl rfl (Nat.le_of_ble_eq_true rfl) (fun j hj => ⟨rfl, rfl, zU_o hj⟩) hH.2.2.1 hH.2.2.2 (by simp [zc, zU, va_rf]) hdg kk
theorem zg6_0 (C : zC p m c cc nL s args own D cy) (hH : zH D cy bs N kd len X Y R H) {i idx : Nat} (hi : i < N) (hk : kd i = 6) (hlk : Cond.fieldLink own idx RX6 "step" "I" ∈ zTB) (hdg : decode cc pc = .ok (.getfield idx, 3))
    (kk : W p l e R0 s m args below meth c H locs cells slots Q (F0 m (pc + 3) ls (.int (zI (X i 0)) :: rest))) : W p l e R0 s m args below meth c H locs cells slots Q (F0 m pc ls (.ref (bs + i) :: rest)) :=
  zd_get C hH hi hk rfl zin6 rfl 0 (by decide) hlk rfl hdg kk
theorem zp6_0 (C : zC p m c cc nL s args own D cy) (hH : zH D cy bs N kd len X Y R H) (hS : va_S (zA bs) H0 H locs) {i idx : Nat} (hi : i < N) (hk : kd i = 6) (hlk : Cond.fieldLink own idx RX6 "step" "I" ∈ zTB) {v : Int} (hv : rI v) (hdg : decode cc pc = .ok (.putfield idx, 3))
    (kk : ∀ (H1 : Heap) (locs1 : List Loc), zH D cy bs N kd len (zU X i 0 v) Y R H1 → va_S (zA bs) H0 H1 locs1 → W p l e R0 s m args below meth c H1 locs1 cells slots Q (F0 m (pc + 3) ls rest)) : W p l e R0 s m args below meth c H locs cells slots Q (F0 m pc ls (.int (zI v) :: .ref (bs + i) :: rest)) :=
  zd_put C hH hS hi hk rfl zin6 rfl tyX6 tyX6_ok nmX6 0 (by decide) hlk rfl (ty := .int) (by decide +kernel) rfl rfl (Nat.le_of_ble_eq_true rfl) (fun j hj => ⟨zU_o hj, rfl, rfl⟩) (zU_rI hH.2.2.1 hv) hH.2.2.2 (by simp [zc, zU, va_rf]) hdg kk
theorem zg6_1 (C : zC p m c cc nL s args own D cy) (hH : zH D cy bs N kd len X Y R H) {i idx : Nat} (hi : i < N) (hk : kd i = 6) (hlk : Cond.fieldLink own idx RX6 "target" "I" ∈ zTB) (hdg : decode cc pc = .ok (.getfield idx, 3))
    (kk : W p l e R0 s m args below meth c H locs cells slots Q (F0 m (pc + 3) ls (.int (zI (X i 1)) :: rest))) : W p l e R0 s m args below meth c H locs cells slots Q (F0 m pc ls (.ref (bs + i) :: rest)) :=
  zd_get C hH hi hk rfl zin6 rfl 1 (by decide) hlk rfl hdg kk
theorem zp6_1 (C : zC p m c cc nL s args own D cy) (hH : zH D cy bs N kd len X Y R H) (hS : va_S (zA bs) H0 H locs) {i idx : Nat} (hi : i < N) (hk : kd i = 6) (hlk : Cond.fieldLink own idx RX6 "target" "I" ∈ zTB) {v : Int} (hv : rI v) (hdg : decode cc pc = .ok (.putfield idx, 3))
    (kk : ∀ (H1 : Heap) (locs1 : List Loc), zH D cy bs N kd len (zU X i 1 v) Y R H1 → va_S (zA bs) H0 H1 locs1 → W p l e R0 s m args below meth c H1 locs1 cells slots Q (F0 m (pc + 3) ls rest)) : W p l e R0 s m args below meth c H locs cells slots Q (F0 m pc ls (.int (zI v) :: .ref (bs + i) :: rest)) :=
  zd_put C hH hS hi hk rfl zin6 rfl tyX6 tyX6_ok nmX6 1 (by decide) hlk rfl (ty := .int) (by decide +kernel) rfl rfl (Nat.le_of_ble_eq_true rfl) (fun j hj => ⟨zU_o hj, rfl, rfl⟩) (zU_rI hH.2.2.1 hv) hH.2.2.2 (by simp [zc, zU, va_rf]) hdg kk
theorem zg6_2 (C : zC p m c cc nL s args own D cy) (hH : zH D cy bs N kd len X Y R H) {i idx : Nat} (hi : i < N) (hk : kd i = 6) (hlk : Cond.fieldLink own idx RX6 "start" "I" ∈ zTB) (hdg : decode cc pc = .ok (.getfield idx, 3))
    (kk : W p l e R0 s m args below meth c H locs cells slots Q (F0 m (pc + 3) ls (.int (zI (X i 2)) :: rest))) : W p l e R0 s m args below meth c H locs cells slots Q (F0 m pc ls (.ref (bs + i) :: rest)) :=
  zd_get C hH hi hk rfl zin6 rfl 2 (by decide) hlk rfl hdg kk
theorem zp6_2 (C : zC p m c cc nL s args own D cy) (hH : zH D cy bs N kd len X Y R H) (hS : va_S (zA bs) H0 H locs) {i idx : Nat} (hi : i < N) (hk : kd i = 6) (hlk : Cond.fieldLink own idx RX6 "start" "I" ∈ zTB) {v : Int} (hv : rI v) (hdg : decode cc pc = .ok (.putfield idx, 3))
    (kk : ∀ (H1 : Heap) (locs1 : List Loc), zH D cy bs N kd len (zU X i 2 v) Y R H1 → va_S (zA bs) H0 H1 locs1 → W p l e R0 s m args below meth c H1 locs1 cells slots Q (F0 m (pc + 3) ls rest)) : W p l e R0 s m args below meth c H locs cells slots Q (F0 m pc ls (.int (zI v) :: .ref (bs + i) :: rest)) :=
  zd_put C hH hS hi hk rfl zin6 rfl tyX6 tyX6_ok nmX6 2 (by decide) hlk rfl (ty := .int) (by decide +kernel) rfl rfl (Nat.le_of_ble_eq_true rfl) (fun j hj => ⟨zU_o hj, rfl, rfl⟩) (zU_rI hH.2.2.1 hv) hH.2.2.2 (by simp [zc, zU, va_rf]) hdg kk
theorem zg6_3 (C : zC p m c cc nL s args own D cy) (hH : zH D cy bs N kd len X Y R H) {i idx : Nat} (hi : i < N) (hk : kd i = 6) (hlk : Cond.fieldLink own idx RX6 "rule" "I" ∈ zTB) (hdg : decode cc pc = .ok (.getfield idx, 3))
    (kk : W p l e R0 s m args below meth c H locs cells slots Q (F0 m (pc + 3) ls (.int (zI (X i 3)) :: rest))) : W p l e R0 s m args below meth c H locs cells slots Q (F0 m pc ls (.ref (bs + i) :: rest)) :=
  zd_get C hH hi hk rfl zin6 rfl 3 (by decide) hlk rfl hdg kk
theorem zp6_3 (C : zC p m c cc nL s args own D cy) (hH : zH D cy bs N kd len X Y R H) (hS : va_S (zA bs) H0 H locs) {i idx : Nat} (hi : i < N) (hk : kd i = 6) (hlk : Cond.fieldLink own idx RX6 "rule" "I" ∈ zTB) {v : Int} (hv : rI v) (hdg : decode cc pc = .ok (.putfield idx, 3))
    (kk : ∀ (H1 : Heap) (locs1 : List Loc), zH D cy bs N kd len (zU X i 3 v) Y R H1 → va_S (zA bs) H0 H1 locs1 → W p l e R0 s m args below meth c H1 locs1 cells slots Q (F0 m (pc + 3) ls rest)) : W p l e R0 s m args below meth c H locs cells slots Q (F0 m pc ls (.int (zI v) :: .ref (bs + i) :: rest)) :=
  zd_put C hH hS hi hk rfl zin6 rfl tyX6 tyX6_ok nmX6 3 (by decide) hlk rfl (ty := .int) (by decide +kernel) rfl rfl (Nat.le_of_ble_eq_true rfl) (fun j hj => ⟨zU_o hj, rfl, rfl⟩) (zU_rI hH.2.2.1 hv) hH.2.2.2 (by simp [zc, zU, va_rf]) hdg kk
theorem zg6_4 (C : zC p m c cc nL s args own D cy) (hH : zH D cy bs N kd len X Y R H) {i idx : Nat} (hi : i < N) (hk : kd i = 6) (hlk : Cond.fieldLink own idx RX6 "tie" "I" ∈ zTB) (hdg : decode cc pc = .ok (.getfield idx, 3))
    (kk : W p l e R0 s m args below meth c H locs cells slots Q (F0 m (pc + 3) ls (.int (zI (X i 4)) :: rest))) : W p l e R0 s m args below meth c H locs cells slots Q (F0 m pc ls (.ref (bs + i) :: rest)) :=
  zd_get C hH hi hk rfl zin6 rfl 4 (by decide) hlk rfl hdg kk
theorem zp6_4 (C : zC p m c cc nL s args own D cy) (hH : zH D cy bs N kd len X Y R H) (hS : va_S (zA bs) H0 H locs) {i idx : Nat} (hi : i < N) (hk : kd i = 6) (hlk : Cond.fieldLink own idx RX6 "tie" "I" ∈ zTB) {v : Int} (hv : rI v) (hdg : decode cc pc = .ok (.putfield idx, 3))
    (kk : ∀ (H1 : Heap) (locs1 : List Loc), zH D cy bs N kd len (zU X i 4 v) Y R H1 → va_S (zA bs) H0 H1 locs1 → W p l e R0 s m args below meth c H1 locs1 cells slots Q (F0 m (pc + 3) ls rest)) : W p l e R0 s m args below meth c H locs cells slots Q (F0 m pc ls (.int (zI v) :: .ref (bs + i) :: rest)) :=
  zd_put C hH hS hi hk rfl zin6 rfl tyX6 tyX6_ok nmX6 4 (by decide) hlk rfl (ty := .int) (by decide +kernel) rfl rfl (Nat.le_of_ble_eq_true rfl) (fun j hj => ⟨zU_o hj, rfl, rfl⟩) (zU_rI hH.2.2.1 hv) hH.2.2.2 (by simp [zc, zU, va_rf]) hdg kk
theorem zg6_5 (C : zC p m c cc nL s args own D cy) (hH : zH D cy bs N kd len X Y R H) {i idx : Nat} (hi : i < N) (hk : kd i = 6) (hlk : Cond.fieldLink own idx RX6 "reward" "I" ∈ zTB) (hdg : decode cc pc = .ok (.getfield idx, 3))
    (kk : W p l e R0 s m args below meth c H locs cells slots Q (F0 m (pc + 3) ls (.int (zI (X i 5)) :: rest))) : W p l e R0 s m args below meth c H locs cells slots Q (F0 m pc ls (.ref (bs + i) :: rest)) :=
  zd_get C hH hi hk rfl zin6 rfl 5 (by decide) hlk rfl hdg kk
theorem zp6_5 (C : zC p m c cc nL s args own D cy) (hH : zH D cy bs N kd len X Y R H) (hS : va_S (zA bs) H0 H locs) {i idx : Nat} (hi : i < N) (hk : kd i = 6) (hlk : Cond.fieldLink own idx RX6 "reward" "I" ∈ zTB) {v : Int} (hv : rI v) (hdg : decode cc pc = .ok (.putfield idx, 3))
    (kk : ∀ (H1 : Heap) (locs1 : List Loc), zH D cy bs N kd len (zU X i 5 v) Y R H1 → va_S (zA bs) H0 H1 locs1 → W p l e R0 s m args below meth c H1 locs1 cells slots Q (F0 m (pc + 3) ls rest)) : W p l e R0 s m args below meth c H locs cells slots Q (F0 m pc ls (.int (zI v) :: .ref (bs + i) :: rest)) :=
  zd_put C hH hS hi hk rfl zin6 rfl tyX6 tyX6_ok nmX6 5 (by decide) hlk rfl (ty := .int) (by decide +kernel) rfl rfl (Nat.le_of_ble_eq_true rfl) (fun j hj => ⟨zU_o hj, rfl, rfl⟩) (zU_rI hH.2.2.1 hv) hH.2.2.2 (by simp [zc, zU, va_rf]) hdg kk
theorem zg6_6 (C : zC p m c cc nL s args own D cy) (hH : zH D cy bs N kd len X Y R H) {i idx : Nat} (hi : i < N) (hk : kd i = 6) (hlk : Cond.fieldLink own idx RX6 "accounts" "I" ∈ zTB) (hdg : decode cc pc = .ok (.getfield idx, 3))
    (kk : W p l e R0 s m args below meth c H locs cells slots Q (F0 m (pc + 3) ls (.int (zI (X i 6)) :: rest))) : W p l e R0 s m args below meth c H locs cells slots Q (F0 m pc ls (.ref (bs + i) :: rest)) :=
  zd_get C hH hi hk rfl zin6 rfl 6 (by decide) hlk rfl hdg kk
theorem zp6_6 (C : zC p m c cc nL s args own D cy) (hH : zH D cy bs N kd len X Y R H) (hS : va_S (zA bs) H0 H locs) {i idx : Nat} (hi : i < N) (hk : kd i = 6) (hlk : Cond.fieldLink own idx RX6 "accounts" "I" ∈ zTB) {v : Int} (hv : rI v) (hdg : decode cc pc = .ok (.putfield idx, 3))
    (kk : ∀ (H1 : Heap) (locs1 : List Loc), zH D cy bs N kd len (zU X i 6 v) Y R H1 → va_S (zA bs) H0 H1 locs1 → W p l e R0 s m args below meth c H1 locs1 cells slots Q (F0 m (pc + 3) ls rest)) : W p l e R0 s m args below meth c H locs cells slots Q (F0 m pc ls (.int (zI v) :: .ref (bs + i) :: rest)) :=
  zd_put C hH hS hi hk rfl zin6 rfl tyX6 tyX6_ok nmX6 6 (by decide) hlk rfl (ty := .int) (by decide +kernel) rfl rfl (Nat.le_of_ble_eq_true rfl) (fun j hj => ⟨zU_o hj, rfl, rfl⟩) (zU_rI hH.2.2.1 hv) hH.2.2.2 (by simp [zc, zU, va_rf]) hdg kk
theorem zg6_7 (C : zC p m c cc nL s args own D cy) (hH : zH D cy bs N kd len X Y R H) {i idx : Nat} (hi : i < N) (hk : kd i = 6) (hlk : Cond.fieldLink own idx RX6 "first" "[I" ∈ zTB) {j : Nat} (hr : R i 7 = some j) (hdg : decode cc pc = .ok (.getfield idx, 3))
    (kk : W p l e R0 s m args below meth c H locs cells slots Q (F0 m (pc + 3) ls (.ref (bs + j) :: rest))) : W p l e R0 s m args below meth c H locs cells slots Q (F0 m pc ls (.ref (bs + i) :: rest)) := by
  refine zd_get C hH hi hk rfl zin6 rfl 7 (by decide) hlk rfl hdg ?_
  rw [hr]
  exact kk
theorem zp6_7 (C : zC p m c cc nL s args own D cy) (hH : zH D cy bs N kd len X Y R H) (hS : va_S (zA bs) H0 H locs) {i idx : Nat} (hi : i < N) (hk : kd i = 6) (hlk : Cond.fieldLink own idx RX6 "first" "[I" ∈ zTB) (hinit : meth.name = "<init>") (hdecl : RX6 = own) {v : Nat} (hdg : decode cc pc = .ok (.putfield idx, 3))
    (kk : ∀ (H1 : Heap) (locs1 : List Loc), zH D cy bs N kd len X Y (zU R i 7 (some v)) H1 → va_S (zA bs) H0 H1 locs1 → W p l e R0 s m args below meth c H1 locs1 cells slots Q (F0 m (pc + 3) ls rest)) : W p l e R0 s m args below meth c H locs cells slots Q (F0 m pc ls (.ref (bs + v) :: .ref (bs + i) :: rest)) :=
  zd_putF C hH hS hi hk rfl zin6 rfl tyX6 tyX6_ok nmX6 7 (by decide) hlk rfl hinit hdecl (ty := (tyX6 7)) (by decide +kernel) rfl rfl (Nat.le_of_ble_eq_true rfl) (fun j hj => ⟨rfl, rfl, zU_o hj⟩) hH.2.2.1 hH.2.2.2 (by simp [zc, zU, va_rf]) hdg kk
theorem zg7_0 (C : zC p m c cc nL s args own D cy) (hH : zH D cy bs N kd len X Y R H) {i idx : Nat} (hi : i < N) (hk : kd i = 7) (hlk : Cond.fieldLink own idx RX7 "net" "LWorkChains$Net;" ∈ zTB) {j : Nat} (hr : R i 0 = some j) (hdg : decode cc pc = .ok (.getfield idx, 3))
    (kk : W p l e R0 s m args below meth c H locs cells slots Q (F0 m (pc + 3) ls (.ref (bs + j) :: rest))) : W p l e R0 s m args below meth c H locs cells slots Q (F0 m pc ls (.ref (bs + i) :: rest)) := by
  refine zd_get C hH hi hk rfl zin7 rfl 0 (by decide) hlk rfl hdg ?_
  rw [hr]
  exact kk
theorem zp7_0 (C : zC p m c cc nL s args own D cy) (hH : zH D cy bs N kd len X Y R H) (hS : va_S (zA bs) H0 H locs) {i idx : Nat} (hi : i < N) (hk : kd i = 7) (hlk : Cond.fieldLink own idx RX7 "net" "LWorkChains$Net;" ∈ zTB) (hinit : meth.name = "<init>") (hdecl : RX7 = own) {v : Nat} (hdg : decode cc pc = .ok (.putfield idx, 3))
    (kk : ∀ (H1 : Heap) (locs1 : List Loc), zH D cy bs N kd len X Y (zU R i 0 (some v)) H1 → va_S (zA bs) H0 H1 locs1 → W p l e R0 s m args below meth c H1 locs1 cells slots Q (F0 m (pc + 3) ls rest)) : W p l e R0 s m args below meth c H locs cells slots Q (F0 m pc ls (.ref (bs + v) :: .ref (bs + i) :: rest)) :=
  zd_putF C hH hS hi hk rfl zin7 rfl tyX7 tyX7_ok nmX7 0 (by decide) hlk rfl hinit hdecl (ty := (tyX7 0)) (by decide +kernel) rfl rfl (Nat.le_of_ble_eq_true rfl) (fun j hj => ⟨rfl, rfl, zU_o hj⟩) hH.2.2.1 hH.2.2.2 (by simp [zc, zU, va_rf]) hdg kk
theorem zg7_1 (C : zC p m c cc nL s args own D cy) (hH : zH D cy bs N kd len X Y R H) {i idx : Nat} (hi : i < N) (hk : kd i = 7) (hlk : Cond.fieldLink own idx RX7 "blocks" "LWorkChains$Blocks;" ∈ zTB) {j : Nat} (hr : R i 1 = some j) (hdg : decode cc pc = .ok (.getfield idx, 3))
    (kk : W p l e R0 s m args below meth c H locs cells slots Q (F0 m (pc + 3) ls (.ref (bs + j) :: rest))) : W p l e R0 s m args below meth c H locs cells slots Q (F0 m pc ls (.ref (bs + i) :: rest)) := by
  refine zd_get C hH hi hk rfl zin7 rfl 1 (by decide) hlk rfl hdg ?_
  rw [hr]
  exact kk
theorem zp7_1 (C : zC p m c cc nL s args own D cy) (hH : zH D cy bs N kd len X Y R H) (hS : va_S (zA bs) H0 H locs) {i idx : Nat} (hi : i < N) (hk : kd i = 7) (hlk : Cond.fieldLink own idx RX7 "blocks" "LWorkChains$Blocks;" ∈ zTB) (hinit : meth.name = "<init>") (hdecl : RX7 = own) {v : Nat} (hdg : decode cc pc = .ok (.putfield idx, 3))
    (kk : ∀ (H1 : Heap) (locs1 : List Loc), zH D cy bs N kd len X Y (zU R i 1 (some v)) H1 → va_S (zA bs) H0 H1 locs1 → W p l e R0 s m args below meth c H1 locs1 cells slots Q (F0 m (pc + 3) ls rest)) : W p l e R0 s m args below meth c H locs cells slots Q (F0 m pc ls (.ref (bs + v) :: .ref (bs + i) :: rest)) :=
  zd_putF C hH hS hi hk rfl zin7 rfl tyX7 tyX7_ok nmX7 1 (by decide) hlk rfl hinit hdecl (ty := (tyX7 1)) (by decide +kernel) rfl rfl (Nat.le_of_ble_eq_true rfl) (fun j hj => ⟨rfl, rfl, zU_o hj⟩) hH.2.2.1 hH.2.2.2 (by simp [zc, zU, va_rf]) hdg kk
theorem zg7_2 (C : zC p m c cc nL s args own D cy) (hH : zH D cy bs N kd len X Y R H) {i idx : Nat} (hi : i < N) (hk : kd i = 7) (hlk : Cond.fieldLink own idx RX7 "rows" "[LWorkChains$Rows;" ∈ zTB) {j : Nat} (hr : R i 2 = some j) (hdg : decode cc pc = .ok (.getfield idx, 3))
    (kk : W p l e R0 s m args below meth c H locs cells slots Q (F0 m (pc + 3) ls (.ref (bs + j) :: rest))) : W p l e R0 s m args below meth c H locs cells slots Q (F0 m pc ls (.ref (bs + i) :: rest)) := by
  refine zd_get C hH hi hk rfl zin7 rfl 2 (by decide) hlk rfl hdg ?_
  rw [hr]
  exact kk
theorem zp7_2 (C : zC p m c cc nL s args own D cy) (hH : zH D cy bs N kd len X Y R H) (hS : va_S (zA bs) H0 H locs) {i idx : Nat} (hi : i < N) (hk : kd i = 7) (hlk : Cond.fieldLink own idx RX7 "rows" "[LWorkChains$Rows;" ∈ zTB) (hinit : meth.name = "<init>") (hdecl : RX7 = own) {v : Nat} (hdg : decode cc pc = .ok (.putfield idx, 3))
    (kk : ∀ (H1 : Heap) (locs1 : List Loc), zH D cy bs N kd len X Y (zU R i 2 (some v)) H1 → va_S (zA bs) H0 H1 locs1 → W p l e R0 s m args below meth c H1 locs1 cells slots Q (F0 m (pc + 3) ls rest)) : W p l e R0 s m args below meth c H locs cells slots Q (F0 m pc ls (.ref (bs + v) :: .ref (bs + i) :: rest)) :=
  zd_putF C hH hS hi hk rfl zin7 rfl tyX7 tyX7_ok nmX7 2 (by decide) hlk rfl hinit hdecl (ty := (tyX7 2)) (by decide +kernel) rfl rfl (Nat.le_of_ble_eq_true rfl) (fun j hj => ⟨rfl, rfl, zU_o hj⟩) hH.2.2.1 hH.2.2.2 (by simp [zc, zU, va_rf]) hdg kk
theorem zg7_3 (C : zC p m c cc nL s args own D cy) (hH : zH D cy bs N kd len X Y R H) {i idx : Nat} (hi : i < N) (hk : kd i = 7) (hlk : Cond.fieldLink own idx RX7 "fault" "I" ∈ zTB) (hdg : decode cc pc = .ok (.getfield idx, 3))
    (kk : W p l e R0 s m args below meth c H locs cells slots Q (F0 m (pc + 3) ls (.int (zI (X i 3)) :: rest))) : W p l e R0 s m args below meth c H locs cells slots Q (F0 m pc ls (.ref (bs + i) :: rest)) :=
  zd_get C hH hi hk rfl zin7 rfl 3 (by decide) hlk rfl hdg kk
theorem zp7_3 (C : zC p m c cc nL s args own D cy) (hH : zH D cy bs N kd len X Y R H) (hS : va_S (zA bs) H0 H locs) {i idx : Nat} (hi : i < N) (hk : kd i = 7) (hlk : Cond.fieldLink own idx RX7 "fault" "I" ∈ zTB) {v : Int} (hv : rI v) (hdg : decode cc pc = .ok (.putfield idx, 3))
    (kk : ∀ (H1 : Heap) (locs1 : List Loc), zH D cy bs N kd len (zU X i 3 v) Y R H1 → va_S (zA bs) H0 H1 locs1 → W p l e R0 s m args below meth c H1 locs1 cells slots Q (F0 m (pc + 3) ls rest)) : W p l e R0 s m args below meth c H locs cells slots Q (F0 m pc ls (.int (zI v) :: .ref (bs + i) :: rest)) :=
  zd_put C hH hS hi hk rfl zin7 rfl tyX7 tyX7_ok nmX7 3 (by decide) hlk rfl (ty := .int) (by decide +kernel) rfl rfl (Nat.le_of_ble_eq_true rfl) (fun j hj => ⟨zU_o hj, rfl, rfl⟩) (zU_rI hH.2.2.1 hv) hH.2.2.2 (by simp [zc, zU, va_rf]) hdg kk
theorem zg7_4 (C : zC p m c cc nL s args own D cy) (hH : zH D cy bs N kd len X Y R H) {i idx : Nat} (hi : i < N) (hk : kd i = 7) (hlk : Cond.fieldLink own idx RX7 "faultPlace" "I" ∈ zTB) (hdg : decode cc pc = .ok (.getfield idx, 3))
    (kk : W p l e R0 s m args below meth c H locs cells slots Q (F0 m (pc + 3) ls (.int (zI (X i 4)) :: rest))) : W p l e R0 s m args below meth c H locs cells slots Q (F0 m pc ls (.ref (bs + i) :: rest)) :=
  zd_get C hH hi hk rfl zin7 rfl 4 (by decide) hlk rfl hdg kk
theorem zp7_4 (C : zC p m c cc nL s args own D cy) (hH : zH D cy bs N kd len X Y R H) (hS : va_S (zA bs) H0 H locs) {i idx : Nat} (hi : i < N) (hk : kd i = 7) (hlk : Cond.fieldLink own idx RX7 "faultPlace" "I" ∈ zTB) {v : Int} (hv : rI v) (hdg : decode cc pc = .ok (.putfield idx, 3))
    (kk : ∀ (H1 : Heap) (locs1 : List Loc), zH D cy bs N kd len (zU X i 4 v) Y R H1 → va_S (zA bs) H0 H1 locs1 → W p l e R0 s m args below meth c H1 locs1 cells slots Q (F0 m (pc + 3) ls rest)) : W p l e R0 s m args below meth c H locs cells slots Q (F0 m pc ls (.int (zI v) :: .ref (bs + i) :: rest)) :=
  zd_put C hH hS hi hk rfl zin7 rfl tyX7 tyX7_ok nmX7 4 (by decide) hlk rfl (ty := .int) (by decide +kernel) rfl rfl (Nat.le_of_ble_eq_true rfl) (fun j hj => ⟨zU_o hj, rfl, rfl⟩) (zU_rI hH.2.2.1 hv) hH.2.2.2 (by simp [zc, zU, va_rf]) hdg kk
theorem zg7_5 (C : zC p m c cc nL s args own D cy) (hH : zH D cy bs N kd len X Y R H) {i idx : Nat} (hi : i < N) (hk : kd i = 7) (hlk : Cond.fieldLink own idx RX7 "tape" "[B" ∈ zTB) {j : Nat} (hr : R i 5 = some j) (hdg : decode cc pc = .ok (.getfield idx, 3))
    (kk : W p l e R0 s m args below meth c H locs cells slots Q (F0 m (pc + 3) ls (.ref (bs + j) :: rest))) : W p l e R0 s m args below meth c H locs cells slots Q (F0 m pc ls (.ref (bs + i) :: rest)) := by
  refine zd_get C hH hi hk rfl zin7 rfl 5 (by decide) hlk rfl hdg ?_
  rw [hr]
  exact kk
theorem zp7_5 (C : zC p m c cc nL s args own D cy) (hH : zH D cy bs N kd len X Y R H) (hS : va_S (zA bs) H0 H locs) {i idx : Nat} (hi : i < N) (hk : kd i = 7) (hlk : Cond.fieldLink own idx RX7 "tape" "[B" ∈ zTB) {v : Nat} (hdg : decode cc pc = .ok (.putfield idx, 3))
    (kk : ∀ (H1 : Heap) (locs1 : List Loc), zH D cy bs N kd len X Y (zU R i 5 (some v)) H1 → va_S (zA bs) H0 H1 locs1 → W p l e R0 s m args below meth c H1 locs1 cells slots Q (F0 m (pc + 3) ls rest)) : W p l e R0 s m args below meth c H locs cells slots Q (F0 m pc ls (.ref (bs + v) :: .ref (bs + i) :: rest)) :=
  zd_put C hH hS hi hk rfl zin7 rfl tyX7 tyX7_ok nmX7 5 (by decide) hlk rfl (ty := (tyX7 5)) (by decide +kernel) rfl rfl (Nat.le_of_ble_eq_true rfl) (fun j hj => ⟨rfl, rfl, zU_o hj⟩) hH.2.2.1 hH.2.2.2 (by simp [zc, zU, va_rf]) hdg kk
theorem zg7_6 (C : zC p m c cc nL s args own D cy) (hH : zH D cy bs N kd len X Y R H) {i idx : Nat} (hi : i < N) (hk : kd i = 7) (hlk : Cond.fieldLink own idx RX7 "length" "I" ∈ zTB) (hdg : decode cc pc = .ok (.getfield idx, 3))
    (kk : W p l e R0 s m args below meth c H locs cells slots Q (F0 m (pc + 3) ls (.int (zI (X i 6)) :: rest))) : W p l e R0 s m args below meth c H locs cells slots Q (F0 m pc ls (.ref (bs + i) :: rest)) :=
  zd_get C hH hi hk rfl zin7 rfl 6 (by decide) hlk rfl hdg kk
theorem zp7_6 (C : zC p m c cc nL s args own D cy) (hH : zH D cy bs N kd len X Y R H) (hS : va_S (zA bs) H0 H locs) {i idx : Nat} (hi : i < N) (hk : kd i = 7) (hlk : Cond.fieldLink own idx RX7 "length" "I" ∈ zTB) {v : Int} (hv : rI v) (hdg : decode cc pc = .ok (.putfield idx, 3))
    (kk : ∀ (H1 : Heap) (locs1 : List Loc), zH D cy bs N kd len (zU X i 6 v) Y R H1 → va_S (zA bs) H0 H1 locs1 → W p l e R0 s m args below meth c H1 locs1 cells slots Q (F0 m (pc + 3) ls rest)) : W p l e R0 s m args below meth c H locs cells slots Q (F0 m pc ls (.int (zI v) :: .ref (bs + i) :: rest)) :=
  zd_put C hH hS hi hk rfl zin7 rfl tyX7 tyX7_ok nmX7 6 (by decide) hlk rfl (ty := .int) (by decide +kernel) rfl rfl (Nat.le_of_ble_eq_true rfl) (fun j hj => ⟨zU_o hj, rfl, rfl⟩) (zU_rI hH.2.2.1 hv) hH.2.2.2 (by simp [zc, zU, va_rf]) hdg kk
theorem zg7_7 (C : zC p m c cc nL s args own D cy) (hH : zH D cy bs N kd len X Y R H) {i idx : Nat} (hi : i < N) (hk : kd i = 7) (hlk : Cond.fieldLink own idx RX7 "next" "I" ∈ zTB) (hdg : decode cc pc = .ok (.getfield idx, 3))
    (kk : W p l e R0 s m args below meth c H locs cells slots Q (F0 m (pc + 3) ls (.int (zI (X i 7)) :: rest))) : W p l e R0 s m args below meth c H locs cells slots Q (F0 m pc ls (.ref (bs + i) :: rest)) :=
  zd_get C hH hi hk rfl zin7 rfl 7 (by decide) hlk rfl hdg kk
theorem zp7_7 (C : zC p m c cc nL s args own D cy) (hH : zH D cy bs N kd len X Y R H) (hS : va_S (zA bs) H0 H locs) {i idx : Nat} (hi : i < N) (hk : kd i = 7) (hlk : Cond.fieldLink own idx RX7 "next" "I" ∈ zTB) {v : Int} (hv : rI v) (hdg : decode cc pc = .ok (.putfield idx, 3))
    (kk : ∀ (H1 : Heap) (locs1 : List Loc), zH D cy bs N kd len (zU X i 7 v) Y R H1 → va_S (zA bs) H0 H1 locs1 → W p l e R0 s m args below meth c H1 locs1 cells slots Q (F0 m (pc + 3) ls rest)) : W p l e R0 s m args below meth c H locs cells slots Q (F0 m pc ls (.int (zI v) :: .ref (bs + i) :: rest)) :=
  zd_put C hH hS hi hk rfl zin7 rfl tyX7 tyX7_ok nmX7 7 (by decide) hlk rfl (ty := .int) (by decide +kernel) rfl rfl (Nat.le_of_ble_eq_true rfl) (fun j hj => ⟨zU_o hj, rfl, rfl⟩) (zU_rI hH.2.2.1 hv) hH.2.2.2 (by simp [zc, zU, va_rf]) hdg kk
theorem zg7_8 (C : zC p m c cc nL s args own D cy) (hH : zH D cy bs N kd len X Y R H) {i idx : Nat} (hi : i < N) (hk : kd i = 7) (hlk : Cond.fieldLink own idx RX7 "from" "I" ∈ zTB) (hdg : decode cc pc = .ok (.getfield idx, 3))
    (kk : W p l e R0 s m args below meth c H locs cells slots Q (F0 m (pc + 3) ls (.int (zI (X i 8)) :: rest))) : W p l e R0 s m args below meth c H locs cells slots Q (F0 m pc ls (.ref (bs + i) :: rest)) :=
  zd_get C hH hi hk rfl zin7 rfl 8 (by decide) hlk rfl hdg kk
theorem zp7_8 (C : zC p m c cc nL s args own D cy) (hH : zH D cy bs N kd len X Y R H) (hS : va_S (zA bs) H0 H locs) {i idx : Nat} (hi : i < N) (hk : kd i = 7) (hlk : Cond.fieldLink own idx RX7 "from" "I" ∈ zTB) {v : Int} (hv : rI v) (hdg : decode cc pc = .ok (.putfield idx, 3))
    (kk : ∀ (H1 : Heap) (locs1 : List Loc), zH D cy bs N kd len (zU X i 8 v) Y R H1 → va_S (zA bs) H0 H1 locs1 → W p l e R0 s m args below meth c H1 locs1 cells slots Q (F0 m (pc + 3) ls rest)) : W p l e R0 s m args below meth c H locs cells slots Q (F0 m pc ls (.int (zI v) :: .ref (bs + i) :: rest)) :=
  zd_put C hH hS hi hk rfl zin7 rfl tyX7 tyX7_ok nmX7 8 (by decide) hlk rfl (ty := .int) (by decide +kernel) rfl rfl (Nat.le_of_ble_eq_true rfl) (fun j hj => ⟨zU_o hj, rfl, rfl⟩) (zU_rI hH.2.2.1 hv) hH.2.2.2 (by simp [zc, zU, va_rf]) hdg kk
theorem zg7_9 (C : zC p m c cc nL s args own D cy) (hH : zH D cy bs N kd len X Y R H) {i idx : Nat} (hi : i < N) (hk : kd i = 7) (hlk : Cond.fieldLink own idx RX7 "token" "I" ∈ zTB) (hdg : decode cc pc = .ok (.getfield idx, 3))
    (kk : W p l e R0 s m args below meth c H locs cells slots Q (F0 m (pc + 3) ls (.int (zI (X i 9)) :: rest))) : W p l e R0 s m args below meth c H locs cells slots Q (F0 m pc ls (.ref (bs + i) :: rest)) :=
  zd_get C hH hi hk rfl zin7 rfl 9 (by decide) hlk rfl hdg kk
theorem zp7_9 (C : zC p m c cc nL s args own D cy) (hH : zH D cy bs N kd len X Y R H) (hS : va_S (zA bs) H0 H locs) {i idx : Nat} (hi : i < N) (hk : kd i = 7) (hlk : Cond.fieldLink own idx RX7 "token" "I" ∈ zTB) {v : Int} (hv : rI v) (hdg : decode cc pc = .ok (.putfield idx, 3))
    (kk : ∀ (H1 : Heap) (locs1 : List Loc), zH D cy bs N kd len (zU X i 9 v) Y R H1 → va_S (zA bs) H0 H1 locs1 → W p l e R0 s m args below meth c H1 locs1 cells slots Q (F0 m (pc + 3) ls rest)) : W p l e R0 s m args below meth c H locs cells slots Q (F0 m pc ls (.int (zI v) :: .ref (bs + i) :: rest)) :=
  zd_put C hH hS hi hk rfl zin7 rfl tyX7 tyX7_ok nmX7 9 (by decide) hlk rfl (ty := .int) (by decide +kernel) rfl rfl (Nat.le_of_ble_eq_true rfl) (fun j hj => ⟨zU_o hj, rfl, rfl⟩) (zU_rI hH.2.2.1 hv) hH.2.2.2 (by simp [zc, zU, va_rf]) hdg kk
theorem zg7_10 (C : zC p m c cc nL s args own D cy) (hH : zH D cy bs N kd len X Y R H) {i idx : Nat} (hi : i < N) (hk : kd i = 7) (hlk : Cond.fieldLink own idx RX7 "value" "I" ∈ zTB) (hdg : decode cc pc = .ok (.getfield idx, 3))
    (kk : W p l e R0 s m args below meth c H locs cells slots Q (F0 m (pc + 3) ls (.int (zI (X i 10)) :: rest))) : W p l e R0 s m args below meth c H locs cells slots Q (F0 m pc ls (.ref (bs + i) :: rest)) :=
  zd_get C hH hi hk rfl zin7 rfl 10 (by decide) hlk rfl hdg kk
theorem zp7_10 (C : zC p m c cc nL s args own D cy) (hH : zH D cy bs N kd len X Y R H) (hS : va_S (zA bs) H0 H locs) {i idx : Nat} (hi : i < N) (hk : kd i = 7) (hlk : Cond.fieldLink own idx RX7 "value" "I" ∈ zTB) {v : Int} (hv : rI v) (hdg : decode cc pc = .ok (.putfield idx, 3))
    (kk : ∀ (H1 : Heap) (locs1 : List Loc), zH D cy bs N kd len (zU X i 10 v) Y R H1 → va_S (zA bs) H0 H1 locs1 → W p l e R0 s m args below meth c H1 locs1 cells slots Q (F0 m (pc + 3) ls rest)) : W p l e R0 s m args below meth c H locs cells slots Q (F0 m pc ls (.int (zI v) :: .ref (bs + i) :: rest)) :=
  zd_put C hH hS hi hk rfl zin7 rfl tyX7 tyX7_ok nmX7 10 (by decide) hlk rfl (ty := .int) (by decide +kernel) rfl rfl (Nat.le_of_ble_eq_true rfl) (fun j hj => ⟨zU_o hj, rfl, rfl⟩) (zU_rI hH.2.2.1 hv) hH.2.2.2 (by simp [zc, zU, va_rf]) hdg kk
theorem zg7_11 (C : zC p m c cc nL s args own D cy) (hH : zH D cy bs N kd len X Y R H) {i idx : Nat} (hi : i < N) (hk : kd i = 7) (hlk : Cond.fieldLink own idx RX7 "line" "[I" ∈ zTB) {j : Nat} (hr : R i 11 = some j) (hdg : decode cc pc = .ok (.getfield idx, 3))
    (kk : W p l e R0 s m args below meth c H locs cells slots Q (F0 m (pc + 3) ls (.ref (bs + j) :: rest))) : W p l e R0 s m args below meth c H locs cells slots Q (F0 m pc ls (.ref (bs + i) :: rest)) := by
  refine zd_get C hH hi hk rfl zin7 rfl 11 (by decide) hlk rfl hdg ?_
  rw [hr]
  exact kk
theorem zp7_11 (C : zC p m c cc nL s args own D cy) (hH : zH D cy bs N kd len X Y R H) (hS : va_S (zA bs) H0 H locs) {i idx : Nat} (hi : i < N) (hk : kd i = 7) (hlk : Cond.fieldLink own idx RX7 "line" "[I" ∈ zTB) (hinit : meth.name = "<init>") (hdecl : RX7 = own) {v : Nat} (hdg : decode cc pc = .ok (.putfield idx, 3))
    (kk : ∀ (H1 : Heap) (locs1 : List Loc), zH D cy bs N kd len X Y (zU R i 11 (some v)) H1 → va_S (zA bs) H0 H1 locs1 → W p l e R0 s m args below meth c H1 locs1 cells slots Q (F0 m (pc + 3) ls rest)) : W p l e R0 s m args below meth c H locs cells slots Q (F0 m pc ls (.ref (bs + v) :: .ref (bs + i) :: rest)) :=
  zd_putF C hH hS hi hk rfl zin7 rfl tyX7 tyX7_ok nmX7 11 (by decide) hlk rfl hinit hdecl (ty := (tyX7 11)) (by decide +kernel) rfl rfl (Nat.le_of_ble_eq_true rfl) (fun j hj => ⟨rfl, rfl, zU_o hj⟩) hH.2.2.1 hH.2.2.2 (by simp [zc, zU, va_rf]) hdg kk
theorem zg8_0 (C : zC p m c cc nL s args own D cy) (hH : zH D cy bs N kd len X Y R H) {i idx : Nat} (hi : i < N) (hk : kd i = 8) (hlk : Cond.fieldLink own idx RX8 "width" "I" ∈ zTB) (hdg : decode cc pc = .ok (.getfield idx, 3))
    (kk : W p l e R0 s m args below meth c H locs cells slots Q (F0 m (pc + 3) ls (.int (zI (X i 0)) :: rest))) : W p l e R0 s m args below meth c H locs cells slots Q (F0 m pc ls (.ref (bs + i) :: rest)) :=
  zd_get C hH hi hk rfl zin8 rfl 0 (by decide) hlk rfl hdg kk
theorem zp8_0 (C : zC p m c cc nL s args own D cy) (hH : zH D cy bs N kd len X Y R H) (hS : va_S (zA bs) H0 H locs) {i idx : Nat} (hi : i < N) (hk : kd i = 8) (hlk : Cond.fieldLink own idx RX8 "width" "I" ∈ zTB) (hinit : meth.name = "<init>") (hdecl : RX8 = own) {v : Int} (hv : rI v) (hdg : decode cc pc = .ok (.putfield idx, 3))
    (kk : ∀ (H1 : Heap) (locs1 : List Loc), zH D cy bs N kd len (zU X i 0 v) Y R H1 → va_S (zA bs) H0 H1 locs1 → W p l e R0 s m args below meth c H1 locs1 cells slots Q (F0 m (pc + 3) ls rest)) : W p l e R0 s m args below meth c H locs cells slots Q (F0 m pc ls (.int (zI v) :: .ref (bs + i) :: rest)) :=
  zd_putF C hH hS hi hk rfl zin8 rfl tyX8 tyX8_ok nmX8 0 (by decide) hlk rfl hinit hdecl (ty := .int) (by decide +kernel) rfl rfl (Nat.le_of_ble_eq_true rfl) (fun j hj => ⟨zU_o hj, rfl, rfl⟩) (zU_rI hH.2.2.1 hv) hH.2.2.2 (by simp [zc, zU, va_rf]) hdg kk
theorem zg8_1 (C : zC p m c cc nL s args own D cy) (hH : zH D cy bs N kd len X Y R H) {i idx : Nat} (hi : i < N) (hk : kd i = 8) (hlk : Cond.fieldLink own idx RX8 "most" "I" ∈ zTB) (hdg : decode cc pc = .ok (.getfield idx, 3))
    (kk : W p l e R0 s m args below meth c H locs cells slots Q (F0 m (pc + 3) ls (.int (zI (X i 1)) :: rest))) : W p l e R0 s m args below meth c H locs cells slots Q (F0 m pc ls (.ref (bs + i) :: rest)) :=
  zd_get C hH hi hk rfl zin8 rfl 1 (by decide) hlk rfl hdg kk
theorem zp8_1 (C : zC p m c cc nL s args own D cy) (hH : zH D cy bs N kd len X Y R H) (hS : va_S (zA bs) H0 H locs) {i idx : Nat} (hi : i < N) (hk : kd i = 8) (hlk : Cond.fieldLink own idx RX8 "most" "I" ∈ zTB) (hinit : meth.name = "<init>") (hdecl : RX8 = own) {v : Int} (hv : rI v) (hdg : decode cc pc = .ok (.putfield idx, 3))
    (kk : ∀ (H1 : Heap) (locs1 : List Loc), zH D cy bs N kd len (zU X i 1 v) Y R H1 → va_S (zA bs) H0 H1 locs1 → W p l e R0 s m args below meth c H1 locs1 cells slots Q (F0 m (pc + 3) ls rest)) : W p l e R0 s m args below meth c H locs cells slots Q (F0 m pc ls (.int (zI v) :: .ref (bs + i) :: rest)) :=
  zd_putF C hH hS hi hk rfl zin8 rfl tyX8 tyX8_ok nmX8 1 (by decide) hlk rfl hinit hdecl (ty := .int) (by decide +kernel) rfl rfl (Nat.le_of_ble_eq_true rfl) (fun j hj => ⟨zU_o hj, rfl, rfl⟩) (zU_rI hH.2.2.1 hv) hH.2.2.2 (by simp [zc, zU, va_rf]) hdg kk
theorem zg8_2 (C : zC p m c cc nL s args own D cy) (hH : zH D cy bs N kd len X Y R H) {i idx : Nat} (hi : i < N) (hk : kd i = 8) (hlk : Cond.fieldLink own idx RX8 "size" "I" ∈ zTB) (hdg : decode cc pc = .ok (.getfield idx, 3))
    (kk : W p l e R0 s m args below meth c H locs cells slots Q (F0 m (pc + 3) ls (.int (zI (X i 2)) :: rest))) : W p l e R0 s m args below meth c H locs cells slots Q (F0 m pc ls (.ref (bs + i) :: rest)) :=
  zd_get C hH hi hk rfl zin8 rfl 2 (by decide) hlk rfl hdg kk
theorem zp8_2 (C : zC p m c cc nL s args own D cy) (hH : zH D cy bs N kd len X Y R H) (hS : va_S (zA bs) H0 H locs) {i idx : Nat} (hi : i < N) (hk : kd i = 8) (hlk : Cond.fieldLink own idx RX8 "size" "I" ∈ zTB) {v : Int} (hv : rI v) (hdg : decode cc pc = .ok (.putfield idx, 3))
    (kk : ∀ (H1 : Heap) (locs1 : List Loc), zH D cy bs N kd len (zU X i 2 v) Y R H1 → va_S (zA bs) H0 H1 locs1 → W p l e R0 s m args below meth c H1 locs1 cells slots Q (F0 m (pc + 3) ls rest)) : W p l e R0 s m args below meth c H locs cells slots Q (F0 m pc ls (.int (zI v) :: .ref (bs + i) :: rest)) :=
  zd_put C hH hS hi hk rfl zin8 rfl tyX8 tyX8_ok nmX8 2 (by decide) hlk rfl (ty := .int) (by decide +kernel) rfl rfl (Nat.le_of_ble_eq_true rfl) (fun j hj => ⟨zU_o hj, rfl, rfl⟩) (zU_rI hH.2.2.1 hv) hH.2.2.2 (by simp [zc, zU, va_rf]) hdg kk
theorem zg8_3 (C : zC p m c cc nL s args own D cy) (hH : zH D cy bs N kd len X Y R H) {i idx : Nat} (hi : i < N) (hk : kd i = 8) (hlk : Cond.fieldLink own idx RX8 "value" "[I" ∈ zTB) {j : Nat} (hr : R i 3 = some j) (hdg : decode cc pc = .ok (.getfield idx, 3))
    (kk : W p l e R0 s m args below meth c H locs cells slots Q (F0 m (pc + 3) ls (.ref (bs + j) :: rest))) : W p l e R0 s m args below meth c H locs cells slots Q (F0 m pc ls (.ref (bs + i) :: rest)) := by
  refine zd_get C hH hi hk rfl zin8 rfl 3 (by decide) hlk rfl hdg ?_
  rw [hr]
  exact kk
theorem zp8_3 (C : zC p m c cc nL s args own D cy) (hH : zH D cy bs N kd len X Y R H) (hS : va_S (zA bs) H0 H locs) {i idx : Nat} (hi : i < N) (hk : kd i = 8) (hlk : Cond.fieldLink own idx RX8 "value" "[I" ∈ zTB) (hinit : meth.name = "<init>") (hdecl : RX8 = own) {v : Nat} (hdg : decode cc pc = .ok (.putfield idx, 3))
    (kk : ∀ (H1 : Heap) (locs1 : List Loc), zH D cy bs N kd len X Y (zU R i 3 (some v)) H1 → va_S (zA bs) H0 H1 locs1 → W p l e R0 s m args below meth c H1 locs1 cells slots Q (F0 m (pc + 3) ls rest)) : W p l e R0 s m args below meth c H locs cells slots Q (F0 m pc ls (.ref (bs + v) :: .ref (bs + i) :: rest)) :=
  zd_putF C hH hS hi hk rfl zin8 rfl tyX8 tyX8_ok nmX8 3 (by decide) hlk rfl hinit hdecl (ty := (tyX8 3)) (by decide +kernel) rfl rfl (Nat.le_of_ble_eq_true rfl) (fun j hj => ⟨rfl, rfl, zU_o hj⟩) hH.2.2.1 hH.2.2.2 (by simp [zc, zU, va_rf]) hdg kk
theorem zg9_0 (C : zC p m c cc nL s args own D cy) (hH : zH D cy bs N kd len X Y R H) {i idx : Nat} (hi : i < N) (hk : kd i = 9) (hlk : Cond.fieldLink own idx RX9 "tape" "[B" ∈ zTB) {j : Nat} (hr : R i 0 = some j) (hdg : decode cc pc = .ok (.getfield idx, 3))
    (kk : W p l e R0 s m args below meth c H locs cells slots Q (F0 m (pc + 3) ls (.ref (bs + j) :: rest))) : W p l e R0 s m args below meth c H locs cells slots Q (F0 m pc ls (.ref (bs + i) :: rest)) := by
  refine zd_get C hH hi hk rfl zin9 rfl 0 (by decide) hlk rfl hdg ?_
  rw [hr]
  exact kk
theorem zp9_0 (C : zC p m c cc nL s args own D cy) (hH : zH D cy bs N kd len X Y R H) (hS : va_S (zA bs) H0 H locs) {i idx : Nat} (hi : i < N) (hk : kd i = 9) (hlk : Cond.fieldLink own idx RX9 "tape" "[B" ∈ zTB) (hinit : meth.name = "<init>") (hdecl : RX9 = own) {v : Nat} (hdg : decode cc pc = .ok (.putfield idx, 3))
    (kk : ∀ (H1 : Heap) (locs1 : List Loc), zH D cy bs N kd len X Y (zU R i 0 (some v)) H1 → va_S (zA bs) H0 H1 locs1 → W p l e R0 s m args below meth c H1 locs1 cells slots Q (F0 m (pc + 3) ls rest)) : W p l e R0 s m args below meth c H locs cells slots Q (F0 m pc ls (.ref (bs + v) :: .ref (bs + i) :: rest)) :=
  zd_putF C hH hS hi hk rfl zin9 rfl tyX9 tyX9_ok nmX9 0 (by decide) hlk rfl hinit hdecl (ty := (tyX9 0)) (by decide +kernel) rfl rfl (Nat.le_of_ble_eq_true rfl) (fun j hj => ⟨rfl, rfl, zU_o hj⟩) hH.2.2.1 hH.2.2.2 (by simp [zc, zU, va_rf]) hdg kk
theorem zg9_1 (C : zC p m c cc nL s args own D cy) (hH : zH D cy bs N kd len X Y R H) {i idx : Nat} (hi : i < N) (hk : kd i = 9) (hlk : Cond.fieldLink own idx RX9 "length" "I" ∈ zTB) (hdg : decode cc pc = .ok (.getfield idx, 3))
    (kk : W p l e R0 s m args below meth c H locs cells slots Q (F0 m (pc + 3) ls (.int (zI (X i 1)) :: rest))) : W p l e R0 s m args below meth c H locs cells slots Q (F0 m pc ls (.ref (bs + i) :: rest)) :=
  zd_get C hH hi hk rfl zin9 rfl 1 (by decide) hlk rfl hdg kk
theorem zp9_1 (C : zC p m c cc nL s args own D cy) (hH : zH D cy bs N kd len X Y R H) (hS : va_S (zA bs) H0 H locs) {i idx : Nat} (hi : i < N) (hk : kd i = 9) (hlk : Cond.fieldLink own idx RX9 "length" "I" ∈ zTB) {v : Int} (hv : rI v) (hdg : decode cc pc = .ok (.putfield idx, 3))
    (kk : ∀ (H1 : Heap) (locs1 : List Loc), zH D cy bs N kd len (zU X i 1 v) Y R H1 → va_S (zA bs) H0 H1 locs1 → W p l e R0 s m args below meth c H1 locs1 cells slots Q (F0 m (pc + 3) ls rest)) : W p l e R0 s m args below meth c H locs cells slots Q (F0 m pc ls (.int (zI v) :: .ref (bs + i) :: rest)) :=
  zd_put C hH hS hi hk rfl zin9 rfl tyX9 tyX9_ok nmX9 1 (by decide) hlk rfl (ty := .int) (by decide +kernel) rfl rfl (Nat.le_of_ble_eq_true rfl) (fun j hj => ⟨zU_o hj, rfl, rfl⟩) (zU_rI hH.2.2.1 hv) hH.2.2.2 (by simp [zc, zU, va_rf]) hdg kk
theorem zg9_2 (C : zC p m c cc nL s args own D cy) (hH : zH D cy bs N kd len X Y R H) {i idx : Nat} (hi : i < N) (hk : kd i = 9) (hlk : Cond.fieldLink own idx RX9 "fault" "I" ∈ zTB) (hdg : decode cc pc = .ok (.getfield idx, 3))
    (kk : W p l e R0 s m args below meth c H locs cells slots Q (F0 m (pc + 3) ls (.int (zI (X i 2)) :: rest))) : W p l e R0 s m args below meth c H locs cells slots Q (F0 m pc ls (.ref (bs + i) :: rest)) :=
  zd_get C hH hi hk rfl zin9 rfl 2 (by decide) hlk rfl hdg kk
theorem zp9_2 (C : zC p m c cc nL s args own D cy) (hH : zH D cy bs N kd len X Y R H) (hS : va_S (zA bs) H0 H locs) {i idx : Nat} (hi : i < N) (hk : kd i = 9) (hlk : Cond.fieldLink own idx RX9 "fault" "I" ∈ zTB) {v : Int} (hv : rI v) (hdg : decode cc pc = .ok (.putfield idx, 3))
    (kk : ∀ (H1 : Heap) (locs1 : List Loc), zH D cy bs N kd len (zU X i 2 v) Y R H1 → va_S (zA bs) H0 H1 locs1 → W p l e R0 s m args below meth c H1 locs1 cells slots Q (F0 m (pc + 3) ls rest)) : W p l e R0 s m args below meth c H locs cells slots Q (F0 m pc ls (.int (zI v) :: .ref (bs + i) :: rest)) :=
  zd_put C hH hS hi hk rfl zin9 rfl tyX9 tyX9_ok nmX9 2 (by decide) hlk rfl (ty := .int) (by decide +kernel) rfl rfl (Nat.le_of_ble_eq_true rfl) (fun j hj => ⟨zU_o hj, rfl, rfl⟩) (zU_rI hH.2.2.1 hv) hH.2.2.2 (by simp [zc, zU, va_rf]) hdg kk
theorem zg9_3 (C : zC p m c cc nL s args own D cy) (hH : zH D cy bs N kd len X Y R H) {i idx : Nat} (hi : i < N) (hk : kd i = 9) (hlk : Cond.fieldLink own idx RX9 "faultPlace" "I" ∈ zTB) (hdg : decode cc pc = .ok (.getfield idx, 3))
    (kk : W p l e R0 s m args below meth c H locs cells slots Q (F0 m (pc + 3) ls (.int (zI (X i 3)) :: rest))) : W p l e R0 s m args below meth c H locs cells slots Q (F0 m pc ls (.ref (bs + i) :: rest)) :=
  zd_get C hH hi hk rfl zin9 rfl 3 (by decide) hlk rfl hdg kk
theorem zp9_3 (C : zC p m c cc nL s args own D cy) (hH : zH D cy bs N kd len X Y R H) (hS : va_S (zA bs) H0 H locs) {i idx : Nat} (hi : i < N) (hk : kd i = 9) (hlk : Cond.fieldLink own idx RX9 "faultPlace" "I" ∈ zTB) {v : Int} (hv : rI v) (hdg : decode cc pc = .ok (.putfield idx, 3))
    (kk : ∀ (H1 : Heap) (locs1 : List Loc), zH D cy bs N kd len (zU X i 3 v) Y R H1 → va_S (zA bs) H0 H1 locs1 → W p l e R0 s m args below meth c H1 locs1 cells slots Q (F0 m (pc + 3) ls rest)) : W p l e R0 s m args below meth c H locs cells slots Q (F0 m pc ls (.int (zI v) :: .ref (bs + i) :: rest)) :=
  zd_put C hH hS hi hk rfl zin9 rfl tyX9 tyX9_ok nmX9 3 (by decide) hlk rfl (ty := .int) (by decide +kernel) rfl rfl (Nat.le_of_ble_eq_true rfl) (fun j hj => ⟨zU_o hj, rfl, rfl⟩) (zU_rI hH.2.2.1 hv) hH.2.2.2 (by simp [zc, zU, va_rf]) hdg kk
theorem zg9_4 (C : zC p m c cc nL s args own D cy) (hH : zH D cy bs N kd len X Y R H) {i idx : Nat} (hi : i < N) (hk : kd i = 9) (hlk : Cond.fieldLink own idx RX9 "counts" "[I" ∈ zTB) {j : Nat} (hr : R i 4 = some j) (hdg : decode cc pc = .ok (.getfield idx, 3))
    (kk : W p l e R0 s m args below meth c H locs cells slots Q (F0 m (pc + 3) ls (.ref (bs + j) :: rest))) : W p l e R0 s m args below meth c H locs cells slots Q (F0 m pc ls (.ref (bs + i) :: rest)) := by
  refine zd_get C hH hi hk rfl zin9 rfl 4 (by decide) hlk rfl hdg ?_
  rw [hr]
  exact kk
theorem zp9_4 (C : zC p m c cc nL s args own D cy) (hH : zH D cy bs N kd len X Y R H) (hS : va_S (zA bs) H0 H locs) {i idx : Nat} (hi : i < N) (hk : kd i = 9) (hlk : Cond.fieldLink own idx RX9 "counts" "[I" ∈ zTB) (hinit : meth.name = "<init>") (hdecl : RX9 = own) {v : Nat} (hdg : decode cc pc = .ok (.putfield idx, 3))
    (kk : ∀ (H1 : Heap) (locs1 : List Loc), zH D cy bs N kd len X Y (zU R i 4 (some v)) H1 → va_S (zA bs) H0 H1 locs1 → W p l e R0 s m args below meth c H1 locs1 cells slots Q (F0 m (pc + 3) ls rest)) : W p l e R0 s m args below meth c H locs cells slots Q (F0 m pc ls (.ref (bs + v) :: .ref (bs + i) :: rest)) :=
  zd_putF C hH hS hi hk rfl zin9 rfl tyX9 tyX9_ok nmX9 4 (by decide) hlk rfl hinit hdecl (ty := (tyX9 4)) (by decide +kernel) rfl rfl (Nat.le_of_ble_eq_true rfl) (fun j hj => ⟨rfl, rfl, zU_o hj⟩) hH.2.2.1 hH.2.2.2 (by simp [zc, zU, va_rf]) hdg kk
theorem zg9_5 (C : zC p m c cc nL s args own D cy) (hH : zH D cy bs N kd len X Y R H) {i idx : Nat} (hi : i < N) (hk : kd i = 9) (hlk : Cond.fieldLink own idx RX9 "nets" "[LWorkChains$Net;" ∈ zTB) {j : Nat} (hr : R i 5 = some j) (hdg : decode cc pc = .ok (.getfield idx, 3))
    (kk : W p l e R0 s m args below meth c H locs cells slots Q (F0 m (pc + 3) ls (.ref (bs + j) :: rest))) : W p l e R0 s m args below meth c H locs cells slots Q (F0 m pc ls (.ref (bs + i) :: rest)) := by
  refine zd_get C hH hi hk rfl zin9 rfl 5 (by decide) hlk rfl hdg ?_
  rw [hr]
  exact kk
theorem zp9_5 (C : zC p m c cc nL s args own D cy) (hH : zH D cy bs N kd len X Y R H) (hS : va_S (zA bs) H0 H locs) {i idx : Nat} (hi : i < N) (hk : kd i = 9) (hlk : Cond.fieldLink own idx RX9 "nets" "[LWorkChains$Net;" ∈ zTB) (hinit : meth.name = "<init>") (hdecl : RX9 = own) {v : Nat} (hdg : decode cc pc = .ok (.putfield idx, 3))
    (kk : ∀ (H1 : Heap) (locs1 : List Loc), zH D cy bs N kd len X Y (zU R i 5 (some v)) H1 → va_S (zA bs) H0 H1 locs1 → W p l e R0 s m args below meth c H1 locs1 cells slots Q (F0 m (pc + 3) ls rest)) : W p l e R0 s m args below meth c H locs cells slots Q (F0 m pc ls (.ref (bs + v) :: .ref (bs + i) :: rest)) :=
  zd_putF C hH hS hi hk rfl zin9 rfl tyX9 tyX9_ok nmX9 5 (by decide) hlk rfl hinit hdecl (ty := (tyX9 5)) (by decide +kernel) rfl rfl (Nat.le_of_ble_eq_true rfl) (fun j hj => ⟨rfl, rfl, zU_o hj⟩) hH.2.2.1 hH.2.2.2 (by simp [zc, zU, va_rf]) hdg kk
theorem zg9_6 (C : zC p m c cc nL s args own D cy) (hH : zH D cy bs N kd len X Y R H) {i idx : Nat} (hi : i < N) (hk : kd i = 9) (hlk : Cond.fieldLink own idx RX9 "blocks" "[LWorkChains$Blocks;" ∈ zTB) {j : Nat} (hr : R i 6 = some j) (hdg : decode cc pc = .ok (.getfield idx, 3))
    (kk : W p l e R0 s m args below meth c H locs cells slots Q (F0 m (pc + 3) ls (.ref (bs + j) :: rest))) : W p l e R0 s m args below meth c H locs cells slots Q (F0 m pc ls (.ref (bs + i) :: rest)) := by
  refine zd_get C hH hi hk rfl zin9 rfl 6 (by decide) hlk rfl hdg ?_
  rw [hr]
  exact kk
theorem zp9_6 (C : zC p m c cc nL s args own D cy) (hH : zH D cy bs N kd len X Y R H) (hS : va_S (zA bs) H0 H locs) {i idx : Nat} (hi : i < N) (hk : kd i = 9) (hlk : Cond.fieldLink own idx RX9 "blocks" "[LWorkChains$Blocks;" ∈ zTB) (hinit : meth.name = "<init>") (hdecl : RX9 = own) {v : Nat} (hdg : decode cc pc = .ok (.putfield idx, 3))
    (kk : ∀ (H1 : Heap) (locs1 : List Loc), zH D cy bs N kd len X Y (zU R i 6 (some v)) H1 → va_S (zA bs) H0 H1 locs1 → W p l e R0 s m args below meth c H1 locs1 cells slots Q (F0 m (pc + 3) ls rest)) : W p l e R0 s m args below meth c H locs cells slots Q (F0 m pc ls (.ref (bs + v) :: .ref (bs + i) :: rest)) :=
  zd_putF C hH hS hi hk rfl zin9 rfl tyX9 tyX9_ok nmX9 6 (by decide) hlk rfl hinit hdecl (ty := (tyX9 6)) (by decide +kernel) rfl rfl (Nat.le_of_ble_eq_true rfl) (fun j hj => ⟨rfl, rfl, zU_o hj⟩) hH.2.2.1 hH.2.2.2 (by simp [zc, zU, va_rf]) hdg kk
theorem zg9_7 (C : zC p m c cc nL s args own D cy) (hH : zH D cy bs N kd len X Y R H) {i idx : Nat} (hi : i < N) (hk : kd i = 9) (hlk : Cond.fieldLink own idx RX9 "rows" "[LWorkChains$Rows;" ∈ zTB) {j : Nat} (hr : R i 7 = some j) (hdg : decode cc pc = .ok (.getfield idx, 3))
    (kk : W p l e R0 s m args below meth c H locs cells slots Q (F0 m (pc + 3) ls (.ref (bs + j) :: rest))) : W p l e R0 s m args below meth c H locs cells slots Q (F0 m pc ls (.ref (bs + i) :: rest)) := by
  refine zd_get C hH hi hk rfl zin9 rfl 7 (by decide) hlk rfl hdg ?_
  rw [hr]
  exact kk
theorem zp9_7 (C : zC p m c cc nL s args own D cy) (hH : zH D cy bs N kd len X Y R H) (hS : va_S (zA bs) H0 H locs) {i idx : Nat} (hi : i < N) (hk : kd i = 9) (hlk : Cond.fieldLink own idx RX9 "rows" "[LWorkChains$Rows;" ∈ zTB) (hinit : meth.name = "<init>") (hdecl : RX9 = own) {v : Nat} (hdg : decode cc pc = .ok (.putfield idx, 3))
    (kk : ∀ (H1 : Heap) (locs1 : List Loc), zH D cy bs N kd len X Y (zU R i 7 (some v)) H1 → va_S (zA bs) H0 H1 locs1 → W p l e R0 s m args below meth c H1 locs1 cells slots Q (F0 m (pc + 3) ls rest)) : W p l e R0 s m args below meth c H locs cells slots Q (F0 m pc ls (.ref (bs + v) :: .ref (bs + i) :: rest)) :=
  zd_putF C hH hS hi hk rfl zin9 rfl tyX9 tyX9_ok nmX9 7 (by decide) hlk rfl hinit hdecl (ty := (tyX9 7)) (by decide +kernel) rfl rfl (Nat.le_of_ble_eq_true rfl) (fun j hj => ⟨rfl, rfl, zU_o hj⟩) hH.2.2.1 hH.2.2.2 (by simp [zc, zU, va_rf]) hdg kk
theorem zg10_0 (C : zC p m c cc nL s args own D cy) (hH : zH D cy bs N kd len X Y R H) {i idx : Nat} (hi : i < N) (hk : kd i = 10) (hlk : Cond.fieldLink own idx RX10 "told" "LWorkChains$Told;" ∈ zTB) {j : Nat} (hr : R i 0 = some j) (hdg : decode cc pc = .ok (.getfield idx, 3))
    (kk : W p l e R0 s m args below meth c H locs cells slots Q (F0 m (pc + 3) ls (.ref (bs + j) :: rest))) : W p l e R0 s m args below meth c H locs cells slots Q (F0 m pc ls (.ref (bs + i) :: rest)) := by
  refine zd_get C hH hi hk rfl zin10 rfl 0 (by decide) hlk rfl hdg ?_
  rw [hr]
  exact kk
theorem zp10_0 (C : zC p m c cc nL s args own D cy) (hH : zH D cy bs N kd len X Y R H) (hS : va_S (zA bs) H0 H locs) {i idx : Nat} (hi : i < N) (hk : kd i = 10) (hlk : Cond.fieldLink own idx RX10 "told" "LWorkChains$Told;" ∈ zTB) (hinit : meth.name = "<init>") (hdecl : RX10 = own) {v : Nat} (hdg : decode cc pc = .ok (.putfield idx, 3))
    (kk : ∀ (H1 : Heap) (locs1 : List Loc), zH D cy bs N kd len X Y (zU R i 0 (some v)) H1 → va_S (zA bs) H0 H1 locs1 → W p l e R0 s m args below meth c H1 locs1 cells slots Q (F0 m (pc + 3) ls rest)) : W p l e R0 s m args below meth c H locs cells slots Q (F0 m pc ls (.ref (bs + v) :: .ref (bs + i) :: rest)) :=
  zd_putF C hH hS hi hk rfl zin10 rfl tyX10 tyX10_ok nmX10 0 (by decide) hlk rfl hinit hdecl (ty := (tyX10 0)) (by decide +kernel) rfl rfl (Nat.le_of_ble_eq_true rfl) (fun j hj => ⟨rfl, rfl, zU_o hj⟩) hH.2.2.1 hH.2.2.2 (by simp [zc, zU, va_rf]) hdg kk
theorem zg10_1 (C : zC p m c cc nL s args own D cy) (hH : zH D cy bs N kd len X Y R H) {i idx : Nat} (hi : i < N) (hk : kd i = 10) (hlk : Cond.fieldLink own idx RX10 "images" "[LWorkChains$Told;" ∈ zTB) {j : Nat} (hr : R i 1 = some j) (hdg : decode cc pc = .ok (.getfield idx, 3))
    (kk : W p l e R0 s m args below meth c H locs cells slots Q (F0 m (pc + 3) ls (.ref (bs + j) :: rest))) : W p l e R0 s m args below meth c H locs cells slots Q (F0 m pc ls (.ref (bs + i) :: rest)) := by
  refine zd_get C hH hi hk rfl zin10 rfl 1 (by decide) hlk rfl hdg ?_
  rw [hr]
  exact kk
theorem zp10_1 (C : zC p m c cc nL s args own D cy) (hH : zH D cy bs N kd len X Y R H) (hS : va_S (zA bs) H0 H locs) {i idx : Nat} (hi : i < N) (hk : kd i = 10) (hlk : Cond.fieldLink own idx RX10 "images" "[LWorkChains$Told;" ∈ zTB) (hinit : meth.name = "<init>") (hdecl : RX10 = own) {v : Nat} (hdg : decode cc pc = .ok (.putfield idx, 3))
    (kk : ∀ (H1 : Heap) (locs1 : List Loc), zH D cy bs N kd len X Y (zU R i 1 (some v)) H1 → va_S (zA bs) H0 H1 locs1 → W p l e R0 s m args below meth c H1 locs1 cells slots Q (F0 m (pc + 3) ls rest)) : W p l e R0 s m args below meth c H locs cells slots Q (F0 m pc ls (.ref (bs + v) :: .ref (bs + i) :: rest)) :=
  zd_putF C hH hS hi hk rfl zin10 rfl tyX10 tyX10_ok nmX10 1 (by decide) hlk rfl hinit hdecl (ty := (tyX10 1)) (by decide +kernel) rfl rfl (Nat.le_of_ble_eq_true rfl) (fun j hj => ⟨rfl, rfl, zU_o hj⟩) hH.2.2.1 hH.2.2.2 (by simp [zc, zU, va_rf]) hdg kk
theorem zg10_2 (C : zC p m c cc nL s args own D cy) (hH : zH D cy bs N kd len X Y R H) {i idx : Nat} (hi : i < N) (hk : kd i = 10) (hlk : Cond.fieldLink own idx RX10 "imaged" "[Z" ∈ zTB) {j : Nat} (hr : R i 2 = some j) (hdg : decode cc pc = .ok (.getfield idx, 3))
    (kk : W p l e R0 s m args below meth c H locs cells slots Q (F0 m (pc + 3) ls (.ref (bs + j) :: rest))) : W p l e R0 s m args below meth c H locs cells slots Q (F0 m pc ls (.ref (bs + i) :: rest)) := by
  refine zd_get C hH hi hk rfl zin10 rfl 2 (by decide) hlk rfl hdg ?_
  rw [hr]
  exact kk
theorem zp10_2 (C : zC p m c cc nL s args own D cy) (hH : zH D cy bs N kd len X Y R H) (hS : va_S (zA bs) H0 H locs) {i idx : Nat} (hi : i < N) (hk : kd i = 10) (hlk : Cond.fieldLink own idx RX10 "imaged" "[Z" ∈ zTB) (hinit : meth.name = "<init>") (hdecl : RX10 = own) {v : Nat} (hdg : decode cc pc = .ok (.putfield idx, 3))
    (kk : ∀ (H1 : Heap) (locs1 : List Loc), zH D cy bs N kd len X Y (zU R i 2 (some v)) H1 → va_S (zA bs) H0 H1 locs1 → W p l e R0 s m args below meth c H1 locs1 cells slots Q (F0 m (pc + 3) ls rest)) : W p l e R0 s m args below meth c H locs cells slots Q (F0 m pc ls (.ref (bs + v) :: .ref (bs + i) :: rest)) :=
  zd_putF C hH hS hi hk rfl zin10 rfl tyX10 tyX10_ok nmX10 2 (by decide) hlk rfl hinit hdecl (ty := (tyX10 2)) (by decide +kernel) rfl rfl (Nat.le_of_ble_eq_true rfl) (fun j hj => ⟨rfl, rfl, zU_o hj⟩) hH.2.2.1 hH.2.2.2 (by simp [zc, zU, va_rf]) hdg kk
theorem zg10_3 (C : zC p m c cc nL s args own D cy) (hH : zH D cy bs N kd len X Y R H) {i idx : Nat} (hi : i < N) (hk : kd i = 10) (hlk : Cond.fieldLink own idx RX10 "reader" "LWorkChains$Reader;" ∈ zTB) {j : Nat} (hr : R i 3 = some j) (hdg : decode cc pc = .ok (.getfield idx, 3))
    (kk : W p l e R0 s m args below meth c H locs cells slots Q (F0 m (pc + 3) ls (.ref (bs + j) :: rest))) : W p l e R0 s m args below meth c H locs cells slots Q (F0 m pc ls (.ref (bs + i) :: rest)) := by
  refine zd_get C hH hi hk rfl zin10 rfl 3 (by decide) hlk rfl hdg ?_
  rw [hr]
  exact kk
theorem zp10_3 (C : zC p m c cc nL s args own D cy) (hH : zH D cy bs N kd len X Y R H) (hS : va_S (zA bs) H0 H locs) {i idx : Nat} (hi : i < N) (hk : kd i = 10) (hlk : Cond.fieldLink own idx RX10 "reader" "LWorkChains$Reader;" ∈ zTB) (hinit : meth.name = "<init>") (hdecl : RX10 = own) {v : Nat} (hdg : decode cc pc = .ok (.putfield idx, 3))
    (kk : ∀ (H1 : Heap) (locs1 : List Loc), zH D cy bs N kd len X Y (zU R i 3 (some v)) H1 → va_S (zA bs) H0 H1 locs1 → W p l e R0 s m args below meth c H1 locs1 cells slots Q (F0 m (pc + 3) ls rest)) : W p l e R0 s m args below meth c H locs cells slots Q (F0 m pc ls (.ref (bs + v) :: .ref (bs + i) :: rest)) :=
  zd_putF C hH hS hi hk rfl zin10 rfl tyX10 tyX10_ok nmX10 3 (by decide) hlk rfl hinit hdecl (ty := (tyX10 3)) (by decide +kernel) rfl rfl (Nat.le_of_ble_eq_true rfl) (fun j hj => ⟨rfl, rfl, zU_o hj⟩) hH.2.2.1 hH.2.2.2 (by simp [zc, zU, va_rf]) hdg kk
theorem zg10_4 (C : zC p m c cc nL s args own D cy) (hH : zH D cy bs N kd len X Y R H) {i idx : Nat} (hi : i < N) (hk : kd i = 10) (hlk : Cond.fieldLink own idx RX10 "chart" "LWorkChains$Chart;" ∈ zTB) {j : Nat} (hr : R i 4 = some j) (hdg : decode cc pc = .ok (.getfield idx, 3))
    (kk : W p l e R0 s m args below meth c H locs cells slots Q (F0 m (pc + 3) ls (.ref (bs + j) :: rest))) : W p l e R0 s m args below meth c H locs cells slots Q (F0 m pc ls (.ref (bs + i) :: rest)) := by
  refine zd_get C hH hi hk rfl zin10 rfl 4 (by decide) hlk rfl hdg ?_
  rw [hr]
  exact kk
theorem zp10_4 (C : zC p m c cc nL s args own D cy) (hH : zH D cy bs N kd len X Y R H) (hS : va_S (zA bs) H0 H locs) {i idx : Nat} (hi : i < N) (hk : kd i = 10) (hlk : Cond.fieldLink own idx RX10 "chart" "LWorkChains$Chart;" ∈ zTB) (hinit : meth.name = "<init>") (hdecl : RX10 = own) {v : Nat} (hdg : decode cc pc = .ok (.putfield idx, 3))
    (kk : ∀ (H1 : Heap) (locs1 : List Loc), zH D cy bs N kd len X Y (zU R i 4 (some v)) H1 → va_S (zA bs) H0 H1 locs1 → W p l e R0 s m args below meth c H1 locs1 cells slots Q (F0 m (pc + 3) ls rest)) : W p l e R0 s m args below meth c H locs cells slots Q (F0 m pc ls (.ref (bs + v) :: .ref (bs + i) :: rest)) :=
  zd_putF C hH hS hi hk rfl zin10 rfl tyX10 tyX10_ok nmX10 4 (by decide) hlk rfl hinit hdecl (ty := (tyX10 4)) (by decide +kernel) rfl rfl (Nat.le_of_ble_eq_true rfl) (fun j hj => ⟨rfl, rfl, zU_o hj⟩) hH.2.2.1 hH.2.2.2 (by simp [zc, zU, va_rf]) hdg kk
theorem zg10_5 (C : zC p m c cc nL s args own D cy) (hH : zH D cy bs N kd len X Y R H) {i idx : Nat} (hi : i < N) (hk : kd i = 10) (hlk : Cond.fieldLink own idx RX10 "course" "LWorkChains$Course;" ∈ zTB) {j : Nat} (hr : R i 5 = some j) (hdg : decode cc pc = .ok (.getfield idx, 3))
    (kk : W p l e R0 s m args below meth c H locs cells slots Q (F0 m (pc + 3) ls (.ref (bs + j) :: rest))) : W p l e R0 s m args below meth c H locs cells slots Q (F0 m pc ls (.ref (bs + i) :: rest)) := by
  refine zd_get C hH hi hk rfl zin10 rfl 5 (by decide) hlk rfl hdg ?_
  rw [hr]
  exact kk
theorem zp10_5 (C : zC p m c cc nL s args own D cy) (hH : zH D cy bs N kd len X Y R H) (hS : va_S (zA bs) H0 H locs) {i idx : Nat} (hi : i < N) (hk : kd i = 10) (hlk : Cond.fieldLink own idx RX10 "course" "LWorkChains$Course;" ∈ zTB) (hinit : meth.name = "<init>") (hdecl : RX10 = own) {v : Nat} (hdg : decode cc pc = .ok (.putfield idx, 3))
    (kk : ∀ (H1 : Heap) (locs1 : List Loc), zH D cy bs N kd len X Y (zU R i 5 (some v)) H1 → va_S (zA bs) H0 H1 locs1 → W p l e R0 s m args below meth c H1 locs1 cells slots Q (F0 m (pc + 3) ls rest)) : W p l e R0 s m args below meth c H locs cells slots Q (F0 m pc ls (.ref (bs + v) :: .ref (bs + i) :: rest)) :=
  zd_putF C hH hS hi hk rfl zin10 rfl tyX10 tyX10_ok nmX10 5 (by decide) hlk rfl hinit hdecl (ty := (tyX10 5)) (by decide +kernel) rfl rfl (Nat.le_of_ble_eq_true rfl) (fun j hj => ⟨rfl, rfl, zU_o hj⟩) hH.2.2.1 hH.2.2.2 (by simp [zc, zU, va_rf]) hdg kk
theorem zg10_6 (C : zC p m c cc nL s args own D cy) (hH : zH D cy bs N kd len X Y R H) {i idx : Nat} (hi : i < N) (hk : kd i = 10) (hlk : Cond.fieldLink own idx RX10 "laws" "LWorkChains$Laws;" ∈ zTB) {j : Nat} (hr : R i 6 = some j) (hdg : decode cc pc = .ok (.getfield idx, 3))
    (kk : W p l e R0 s m args below meth c H locs cells slots Q (F0 m (pc + 3) ls (.ref (bs + j) :: rest))) : W p l e R0 s m args below meth c H locs cells slots Q (F0 m pc ls (.ref (bs + i) :: rest)) := by
  refine zd_get C hH hi hk rfl zin10 rfl 6 (by decide) hlk rfl hdg ?_
  rw [hr]
  exact kk
theorem zp10_6 (C : zC p m c cc nL s args own D cy) (hH : zH D cy bs N kd len X Y R H) (hS : va_S (zA bs) H0 H locs) {i idx : Nat} (hi : i < N) (hk : kd i = 10) (hlk : Cond.fieldLink own idx RX10 "laws" "LWorkChains$Laws;" ∈ zTB) (hinit : meth.name = "<init>") (hdecl : RX10 = own) {v : Nat} (hdg : decode cc pc = .ok (.putfield idx, 3))
    (kk : ∀ (H1 : Heap) (locs1 : List Loc), zH D cy bs N kd len X Y (zU R i 6 (some v)) H1 → va_S (zA bs) H0 H1 locs1 → W p l e R0 s m args below meth c H1 locs1 cells slots Q (F0 m (pc + 3) ls rest)) : W p l e R0 s m args below meth c H locs cells slots Q (F0 m pc ls (.ref (bs + v) :: .ref (bs + i) :: rest)) :=
  zd_putF C hH hS hi hk rfl zin10 rfl tyX10 tyX10_ok nmX10 6 (by decide) hlk rfl hinit hdecl (ty := (tyX10 6)) (by decide +kernel) rfl rfl (Nat.le_of_ble_eq_true rfl) (fun j hj => ⟨rfl, rfl, zU_o hj⟩) hH.2.2.1 hH.2.2.2 (by simp [zc, zU, va_rf]) hdg kk
theorem zg10_7 (C : zC p m c cc nL s args own D cy) (hH : zH D cy bs N kd len X Y R H) {i idx : Nat} (hi : i < N) (hk : kd i = 10) (hlk : Cond.fieldLink own idx RX10 "filling" "LWorkChains$Filling;" ∈ zTB) {j : Nat} (hr : R i 7 = some j) (hdg : decode cc pc = .ok (.getfield idx, 3))
    (kk : W p l e R0 s m args below meth c H locs cells slots Q (F0 m (pc + 3) ls (.ref (bs + j) :: rest))) : W p l e R0 s m args below meth c H locs cells slots Q (F0 m pc ls (.ref (bs + i) :: rest)) := by
  refine zd_get C hH hi hk rfl zin10 rfl 7 (by decide) hlk rfl hdg ?_
  rw [hr]
  exact kk
theorem zp10_7 (C : zC p m c cc nL s args own D cy) (hH : zH D cy bs N kd len X Y R H) (hS : va_S (zA bs) H0 H locs) {i idx : Nat} (hi : i < N) (hk : kd i = 10) (hlk : Cond.fieldLink own idx RX10 "filling" "LWorkChains$Filling;" ∈ zTB) (hinit : meth.name = "<init>") (hdecl : RX10 = own) {v : Nat} (hdg : decode cc pc = .ok (.putfield idx, 3))
    (kk : ∀ (H1 : Heap) (locs1 : List Loc), zH D cy bs N kd len X Y (zU R i 7 (some v)) H1 → va_S (zA bs) H0 H1 locs1 → W p l e R0 s m args below meth c H1 locs1 cells slots Q (F0 m (pc + 3) ls rest)) : W p l e R0 s m args below meth c H locs cells slots Q (F0 m pc ls (.ref (bs + v) :: .ref (bs + i) :: rest)) :=
  zd_putF C hH hS hi hk rfl zin10 rfl tyX10 tyX10_ok nmX10 7 (by decide) hlk rfl hinit hdecl (ty := (tyX10 7)) (by decide +kernel) rfl rfl (Nat.le_of_ble_eq_true rfl) (fun j hj => ⟨rfl, rfl, zU_o hj⟩) hH.2.2.1 hH.2.2.2 (by simp [zc, zU, va_rf]) hdg kk
theorem zg10_8 (C : zC p m c cc nL s args own D cy) (hH : zH D cy bs N kd len X Y R H) {i idx : Nat} (hi : i < N) (hk : kd i = 10) (hlk : Cond.fieldLink own idx RX10 "spare" "LWorkChains$Ledger;" ∈ zTB) {j : Nat} (hr : R i 8 = some j) (hdg : decode cc pc = .ok (.getfield idx, 3))
    (kk : W p l e R0 s m args below meth c H locs cells slots Q (F0 m (pc + 3) ls (.ref (bs + j) :: rest))) : W p l e R0 s m args below meth c H locs cells slots Q (F0 m pc ls (.ref (bs + i) :: rest)) := by
  refine zd_get C hH hi hk rfl zin10 rfl 8 (by decide) hlk rfl hdg ?_
  rw [hr]
  exact kk
theorem zp10_8 (C : zC p m c cc nL s args own D cy) (hH : zH D cy bs N kd len X Y R H) (hS : va_S (zA bs) H0 H locs) {i idx : Nat} (hi : i < N) (hk : kd i = 10) (hlk : Cond.fieldLink own idx RX10 "spare" "LWorkChains$Ledger;" ∈ zTB) (hinit : meth.name = "<init>") (hdecl : RX10 = own) {v : Nat} (hdg : decode cc pc = .ok (.putfield idx, 3))
    (kk : ∀ (H1 : Heap) (locs1 : List Loc), zH D cy bs N kd len X Y (zU R i 8 (some v)) H1 → va_S (zA bs) H0 H1 locs1 → W p l e R0 s m args below meth c H1 locs1 cells slots Q (F0 m (pc + 3) ls rest)) : W p l e R0 s m args below meth c H locs cells slots Q (F0 m pc ls (.ref (bs + v) :: .ref (bs + i) :: rest)) :=
  zd_putF C hH hS hi hk rfl zin10 rfl tyX10 tyX10_ok nmX10 8 (by decide) hlk rfl hinit hdecl (ty := (tyX10 8)) (by decide +kernel) rfl rfl (Nat.le_of_ble_eq_true rfl) (fun j hj => ⟨rfl, rfl, zU_o hj⟩) hH.2.2.1 hH.2.2.2 (by simp [zc, zU, va_rf]) hdg kk
theorem zg11_0 (C : zC p m c cc nL s args own D cy) (hH : zH D cy bs N kd len X Y R H) {i idx : Nat} (hi : i < N) (hk : kd i = 11) (hlk : Cond.fieldLink own idx RX11 "code" "I" ∈ zTB) (hdg : decode cc pc = .ok (.getfield idx, 3))
    (kk : W p l e R0 s m args below meth c H locs cells slots Q (F0 m (pc + 3) ls (.int (zI (X i 0)) :: rest))) : W p l e R0 s m args below meth c H locs cells slots Q (F0 m pc ls (.ref (bs + i) :: rest)) :=
  zd_get C hH hi hk rfl zin11 rfl 0 (by decide) hlk rfl hdg kk
theorem zp11_0 (C : zC p m c cc nL s args own D cy) (hH : zH D cy bs N kd len X Y R H) (hS : va_S (zA bs) H0 H locs) {i idx : Nat} (hi : i < N) (hk : kd i = 11) (hlk : Cond.fieldLink own idx RX11 "code" "I" ∈ zTB) {v : Int} (hv : rI v) (hdg : decode cc pc = .ok (.putfield idx, 3))
    (kk : ∀ (H1 : Heap) (locs1 : List Loc), zH D cy bs N kd len (zU X i 0 v) Y R H1 → va_S (zA bs) H0 H1 locs1 → W p l e R0 s m args below meth c H1 locs1 cells slots Q (F0 m (pc + 3) ls rest)) : W p l e R0 s m args below meth c H locs cells slots Q (F0 m pc ls (.int (zI v) :: .ref (bs + i) :: rest)) :=
  zd_put C hH hS hi hk rfl zin11 rfl tyX11 tyX11_ok nmX11 0 (by decide) hlk rfl (ty := .int) (by decide +kernel) rfl rfl (Nat.le_of_ble_eq_true rfl) (fun j hj => ⟨zU_o hj, rfl, rfl⟩) (zU_rI hH.2.2.1 hv) hH.2.2.2 (by simp [zc, zU, va_rf]) hdg kk
theorem zg11_1 (C : zC p m c cc nL s args own D cy) (hH : zH D cy bs N kd len X Y R H) {i idx : Nat} (hi : i < N) (hk : kd i = 11) (hlk : Cond.fieldLink own idx RX11 "tape" "[B" ∈ zTB) {j : Nat} (hr : R i 1 = some j) (hdg : decode cc pc = .ok (.getfield idx, 3))
    (kk : W p l e R0 s m args below meth c H locs cells slots Q (F0 m (pc + 3) ls (.ref (bs + j) :: rest))) : W p l e R0 s m args below meth c H locs cells slots Q (F0 m pc ls (.ref (bs + i) :: rest)) := by
  refine zd_get C hH hi hk rfl zin11 rfl 1 (by decide) hlk rfl hdg ?_
  rw [hr]
  exact kk
theorem zp11_1 (C : zC p m c cc nL s args own D cy) (hH : zH D cy bs N kd len X Y R H) (hS : va_S (zA bs) H0 H locs) {i idx : Nat} (hi : i < N) (hk : kd i = 11) (hlk : Cond.fieldLink own idx RX11 "tape" "[B" ∈ zTB) (hinit : meth.name = "<init>") (hdecl : RX11 = own) {v : Nat} (hdg : decode cc pc = .ok (.putfield idx, 3))
    (kk : ∀ (H1 : Heap) (locs1 : List Loc), zH D cy bs N kd len X Y (zU R i 1 (some v)) H1 → va_S (zA bs) H0 H1 locs1 → W p l e R0 s m args below meth c H1 locs1 cells slots Q (F0 m (pc + 3) ls rest)) : W p l e R0 s m args below meth c H locs cells slots Q (F0 m pc ls (.ref (bs + v) :: .ref (bs + i) :: rest)) :=
  zd_putF C hH hS hi hk rfl zin11 rfl tyX11 tyX11_ok nmX11 1 (by decide) hlk rfl hinit hdecl (ty := (tyX11 1)) (by decide +kernel) rfl rfl (Nat.le_of_ble_eq_true rfl) (fun j hj => ⟨rfl, rfl, zU_o hj⟩) hH.2.2.1 hH.2.2.2 (by simp [zc, zU, va_rf]) hdg kk
theorem zg11_2 (C : zC p m c cc nL s args own D cy) (hH : zH D cy bs N kd len X Y R H) {i idx : Nat} (hi : i < N) (hk : kd i = 11) (hlk : Cond.fieldLink own idx RX11 "size" "[I" ∈ zTB) {j : Nat} (hr : R i 2 = some j) (hdg : decode cc pc = .ok (.getfield idx, 3))
    (kk : W p l e R0 s m args below meth c H locs cells slots Q (F0 m (pc + 3) ls (.ref (bs + j) :: rest))) : W p l e R0 s m args below meth c H locs cells slots Q (F0 m pc ls (.ref (bs + i) :: rest)) := by
  refine zd_get C hH hi hk rfl zin11 rfl 2 (by decide) hlk rfl hdg ?_
  rw [hr]
  exact kk
theorem zp11_2 (C : zC p m c cc nL s args own D cy) (hH : zH D cy bs N kd len X Y R H) (hS : va_S (zA bs) H0 H locs) {i idx : Nat} (hi : i < N) (hk : kd i = 11) (hlk : Cond.fieldLink own idx RX11 "size" "[I" ∈ zTB) (hinit : meth.name = "<init>") (hdecl : RX11 = own) {v : Nat} (hdg : decode cc pc = .ok (.putfield idx, 3))
    (kk : ∀ (H1 : Heap) (locs1 : List Loc), zH D cy bs N kd len X Y (zU R i 2 (some v)) H1 → va_S (zA bs) H0 H1 locs1 → W p l e R0 s m args below meth c H1 locs1 cells slots Q (F0 m (pc + 3) ls rest)) : W p l e R0 s m args below meth c H locs cells slots Q (F0 m pc ls (.ref (bs + v) :: .ref (bs + i) :: rest)) :=
  zd_putF C hH hS hi hk rfl zin11 rfl tyX11 tyX11_ok nmX11 2 (by decide) hlk rfl hinit hdecl (ty := (tyX11 2)) (by decide +kernel) rfl rfl (Nat.le_of_ble_eq_true rfl) (fun j hj => ⟨rfl, rfl, zU_o hj⟩) hH.2.2.1 hH.2.2.2 (by simp [zc, zU, va_rf]) hdg kk
theorem zg11_3 (C : zC p m c cc nL s args own D cy) (hH : zH D cy bs N kd len X Y R H) {i idx : Nat} (hi : i < N) (hk : kd i = 11) (hlk : Cond.fieldLink own idx RX11 "fault" "[I" ∈ zTB) {j : Nat} (hr : R i 3 = some j) (hdg : decode cc pc = .ok (.getfield idx, 3))
    (kk : W p l e R0 s m args below meth c H locs cells slots Q (F0 m (pc + 3) ls (.ref (bs + j) :: rest))) : W p l e R0 s m args below meth c H locs cells slots Q (F0 m pc ls (.ref (bs + i) :: rest)) := by
  refine zd_get C hH hi hk rfl zin11 rfl 3 (by decide) hlk rfl hdg ?_
  rw [hr]
  exact kk
theorem zp11_3 (C : zC p m c cc nL s args own D cy) (hH : zH D cy bs N kd len X Y R H) (hS : va_S (zA bs) H0 H locs) {i idx : Nat} (hi : i < N) (hk : kd i = 11) (hlk : Cond.fieldLink own idx RX11 "fault" "[I" ∈ zTB) (hinit : meth.name = "<init>") (hdecl : RX11 = own) {v : Nat} (hdg : decode cc pc = .ok (.putfield idx, 3))
    (kk : ∀ (H1 : Heap) (locs1 : List Loc), zH D cy bs N kd len X Y (zU R i 3 (some v)) H1 → va_S (zA bs) H0 H1 locs1 → W p l e R0 s m args below meth c H1 locs1 cells slots Q (F0 m (pc + 3) ls rest)) : W p l e R0 s m args below meth c H locs cells slots Q (F0 m pc ls (.ref (bs + v) :: .ref (bs + i) :: rest)) :=
  zd_putF C hH hS hi hk rfl zin11 rfl tyX11 tyX11_ok nmX11 3 (by decide) hlk rfl hinit hdecl (ty := (tyX11 3)) (by decide +kernel) rfl rfl (Nat.le_of_ble_eq_true rfl) (fun j hj => ⟨rfl, rfl, zU_o hj⟩) hH.2.2.1 hH.2.2.2 (by simp [zc, zU, va_rf]) hdg kk
theorem zg11_4 (C : zC p m c cc nL s args own D cy) (hH : zH D cy bs N kd len X Y R H) {i idx : Nat} (hi : i < N) (hk : kd i = 11) (hlk : Cond.fieldLink own idx RX11 "faultPlace" "[I" ∈ zTB) {j : Nat} (hr : R i 4 = some j) (hdg : decode cc pc = .ok (.getfield idx, 3))
    (kk : W p l e R0 s m args below meth c H locs cells slots Q (F0 m (pc + 3) ls (.ref (bs + j) :: rest))) : W p l e R0 s m args below meth c H locs cells slots Q (F0 m pc ls (.ref (bs + i) :: rest)) := by
  refine zd_get C hH hi hk rfl zin11 rfl 4 (by decide) hlk rfl hdg ?_
  rw [hr]
  exact kk
theorem zp11_4 (C : zC p m c cc nL s args own D cy) (hH : zH D cy bs N kd len X Y R H) (hS : va_S (zA bs) H0 H locs) {i idx : Nat} (hi : i < N) (hk : kd i = 11) (hlk : Cond.fieldLink own idx RX11 "faultPlace" "[I" ∈ zTB) (hinit : meth.name = "<init>") (hdecl : RX11 = own) {v : Nat} (hdg : decode cc pc = .ok (.putfield idx, 3))
    (kk : ∀ (H1 : Heap) (locs1 : List Loc), zH D cy bs N kd len X Y (zU R i 4 (some v)) H1 → va_S (zA bs) H0 H1 locs1 → W p l e R0 s m args below meth c H1 locs1 cells slots Q (F0 m (pc + 3) ls rest)) : W p l e R0 s m args below meth c H locs cells slots Q (F0 m pc ls (.ref (bs + v) :: .ref (bs + i) :: rest)) :=
  zd_putF C hH hS hi hk rfl zin11 rfl tyX11 tyX11_ok nmX11 4 (by decide) hlk rfl hinit hdecl (ty := (tyX11 4)) (by decide +kernel) rfl rfl (Nat.le_of_ble_eq_true rfl) (fun j hj => ⟨rfl, rfl, zU_o hj⟩) hH.2.2.1 hH.2.2.2 (by simp [zc, zU, va_rf]) hdg kk
theorem zg11_5 (C : zC p m c cc nL s args own D cy) (hH : zH D cy bs N kd len X Y R H) {i idx : Nat} (hi : i < N) (hk : kd i = 11) (hlk : Cond.fieldLink own idx RX11 "many" "[I" ∈ zTB) {j : Nat} (hr : R i 5 = some j) (hdg : decode cc pc = .ok (.getfield idx, 3))
    (kk : W p l e R0 s m args below meth c H locs cells slots Q (F0 m (pc + 3) ls (.ref (bs + j) :: rest))) : W p l e R0 s m args below meth c H locs cells slots Q (F0 m pc ls (.ref (bs + i) :: rest)) := by
  refine zd_get C hH hi hk rfl zin11 rfl 5 (by decide) hlk rfl hdg ?_
  rw [hr]
  exact kk
theorem zp11_5 (C : zC p m c cc nL s args own D cy) (hH : zH D cy bs N kd len X Y R H) (hS : va_S (zA bs) H0 H locs) {i idx : Nat} (hi : i < N) (hk : kd i = 11) (hlk : Cond.fieldLink own idx RX11 "many" "[I" ∈ zTB) (hinit : meth.name = "<init>") (hdecl : RX11 = own) {v : Nat} (hdg : decode cc pc = .ok (.putfield idx, 3))
    (kk : ∀ (H1 : Heap) (locs1 : List Loc), zH D cy bs N kd len X Y (zU R i 5 (some v)) H1 → va_S (zA bs) H0 H1 locs1 → W p l e R0 s m args below meth c H1 locs1 cells slots Q (F0 m (pc + 3) ls rest)) : W p l e R0 s m args below meth c H locs cells slots Q (F0 m pc ls (.ref (bs + v) :: .ref (bs + i) :: rest)) :=
  zd_putF C hH hS hi hk rfl zin11 rfl tyX11 tyX11_ok nmX11 5 (by decide) hlk rfl hinit hdecl (ty := (tyX11 5)) (by decide +kernel) rfl rfl (Nat.le_of_ble_eq_true rfl) (fun j hj => ⟨rfl, rfl, zU_o hj⟩) hH.2.2.1 hH.2.2.2 (by simp [zc, zU, va_rf]) hdg kk
theorem zg11_6 (C : zC p m c cc nL s args own D cy) (hH : zH D cy bs N kd len X Y R H) {i idx : Nat} (hi : i < N) (hk : kd i = 11) (hlk : Cond.fieldLink own idx RX11 "nets" "[I" ∈ zTB) {j : Nat} (hr : R i 6 = some j) (hdg : decode cc pc = .ok (.getfield idx, 3))
    (kk : W p l e R0 s m args below meth c H locs cells slots Q (F0 m (pc + 3) ls (.ref (bs + j) :: rest))) : W p l e R0 s m args below meth c H locs cells slots Q (F0 m pc ls (.ref (bs + i) :: rest)) := by
  refine zd_get C hH hi hk rfl zin11 rfl 6 (by decide) hlk rfl hdg ?_
  rw [hr]
  exact kk
theorem zp11_6 (C : zC p m c cc nL s args own D cy) (hH : zH D cy bs N kd len X Y R H) (hS : va_S (zA bs) H0 H locs) {i idx : Nat} (hi : i < N) (hk : kd i = 11) (hlk : Cond.fieldLink own idx RX11 "nets" "[I" ∈ zTB) (hinit : meth.name = "<init>") (hdecl : RX11 = own) {v : Nat} (hdg : decode cc pc = .ok (.putfield idx, 3))
    (kk : ∀ (H1 : Heap) (locs1 : List Loc), zH D cy bs N kd len X Y (zU R i 6 (some v)) H1 → va_S (zA bs) H0 H1 locs1 → W p l e R0 s m args below meth c H1 locs1 cells slots Q (F0 m (pc + 3) ls rest)) : W p l e R0 s m args below meth c H locs cells slots Q (F0 m pc ls (.ref (bs + v) :: .ref (bs + i) :: rest)) :=
  zd_putF C hH hS hi hk rfl zin11 rfl tyX11 tyX11_ok nmX11 6 (by decide) hlk rfl hinit hdecl (ty := (tyX11 6)) (by decide +kernel) rfl rfl (Nat.le_of_ble_eq_true rfl) (fun j hj => ⟨rfl, rfl, zU_o hj⟩) hH.2.2.1 hH.2.2.2 (by simp [zc, zU, va_rf]) hdg kk
theorem zg11_7 (C : zC p m c cc nL s args own D cy) (hH : zH D cy bs N kd len X Y R H) {i idx : Nat} (hi : i < N) (hk : kd i = 11) (hlk : Cond.fieldLink own idx RX11 "chains" "[I" ∈ zTB) {j : Nat} (hr : R i 7 = some j) (hdg : decode cc pc = .ok (.getfield idx, 3))
    (kk : W p l e R0 s m args below meth c H locs cells slots Q (F0 m (pc + 3) ls (.ref (bs + j) :: rest))) : W p l e R0 s m args below meth c H locs cells slots Q (F0 m pc ls (.ref (bs + i) :: rest)) := by
  refine zd_get C hH hi hk rfl zin11 rfl 7 (by decide) hlk rfl hdg ?_
  rw [hr]
  exact kk
theorem zp11_7 (C : zC p m c cc nL s args own D cy) (hH : zH D cy bs N kd len X Y R H) (hS : va_S (zA bs) H0 H locs) {i idx : Nat} (hi : i < N) (hk : kd i = 11) (hlk : Cond.fieldLink own idx RX11 "chains" "[I" ∈ zTB) (hinit : meth.name = "<init>") (hdecl : RX11 = own) {v : Nat} (hdg : decode cc pc = .ok (.putfield idx, 3))
    (kk : ∀ (H1 : Heap) (locs1 : List Loc), zH D cy bs N kd len X Y (zU R i 7 (some v)) H1 → va_S (zA bs) H0 H1 locs1 → W p l e R0 s m args below meth c H1 locs1 cells slots Q (F0 m (pc + 3) ls rest)) : W p l e R0 s m args below meth c H locs cells slots Q (F0 m pc ls (.ref (bs + v) :: .ref (bs + i) :: rest)) :=
  zd_putF C hH hS hi hk rfl zin11 rfl tyX11 tyX11_ok nmX11 7 (by decide) hlk rfl hinit hdecl (ty := (tyX11 7)) (by decide +kernel) rfl rfl (Nat.le_of_ble_eq_true rfl) (fun j hj => ⟨rfl, rfl, zU_o hj⟩) hH.2.2.1 hH.2.2.2 (by simp [zc, zU, va_rf]) hdg kk
theorem zg11_8 (C : zC p m c cc nL s args own D cy) (hH : zH D cy bs N kd len X Y R H) {i idx : Nat} (hi : i < N) (hk : kd i = 11) (hlk : Cond.fieldLink own idx RX11 "feeds" "[I" ∈ zTB) {j : Nat} (hr : R i 8 = some j) (hdg : decode cc pc = .ok (.getfield idx, 3))
    (kk : W p l e R0 s m args below meth c H locs cells slots Q (F0 m (pc + 3) ls (.ref (bs + j) :: rest))) : W p l e R0 s m args below meth c H locs cells slots Q (F0 m pc ls (.ref (bs + i) :: rest)) := by
  refine zd_get C hH hi hk rfl zin11 rfl 8 (by decide) hlk rfl hdg ?_
  rw [hr]
  exact kk
theorem zp11_8 (C : zC p m c cc nL s args own D cy) (hH : zH D cy bs N kd len X Y R H) (hS : va_S (zA bs) H0 H locs) {i idx : Nat} (hi : i < N) (hk : kd i = 11) (hlk : Cond.fieldLink own idx RX11 "feeds" "[I" ∈ zTB) (hinit : meth.name = "<init>") (hdecl : RX11 = own) {v : Nat} (hdg : decode cc pc = .ok (.putfield idx, 3))
    (kk : ∀ (H1 : Heap) (locs1 : List Loc), zH D cy bs N kd len X Y (zU R i 8 (some v)) H1 → va_S (zA bs) H0 H1 locs1 → W p l e R0 s m args below meth c H1 locs1 cells slots Q (F0 m (pc + 3) ls rest)) : W p l e R0 s m args below meth c H locs cells slots Q (F0 m pc ls (.ref (bs + v) :: .ref (bs + i) :: rest)) :=
  zd_putF C hH hS hi hk rfl zin11 rfl tyX11 tyX11_ok nmX11 8 (by decide) hlk rfl hinit hdecl (ty := (tyX11 8)) (by decide +kernel) rfl rfl (Nat.le_of_ble_eq_true rfl) (fun j hj => ⟨rfl, rfl, zU_o hj⟩) hH.2.2.1 hH.2.2.2 (by simp [zc, zU, va_rf]) hdg kk
theorem zg11_9 (C : zC p m c cc nL s args own D cy) (hH : zH D cy bs N kd len X Y R H) {i idx : Nat} (hi : i < N) (hk : kd i = 11) (hlk : Cond.fieldLink own idx RX11 "logs" "[I" ∈ zTB) {j : Nat} (hr : R i 9 = some j) (hdg : decode cc pc = .ok (.getfield idx, 3))
    (kk : W p l e R0 s m args below meth c H locs cells slots Q (F0 m (pc + 3) ls (.ref (bs + j) :: rest))) : W p l e R0 s m args below meth c H locs cells slots Q (F0 m pc ls (.ref (bs + i) :: rest)) := by
  refine zd_get C hH hi hk rfl zin11 rfl 9 (by decide) hlk rfl hdg ?_
  rw [hr]
  exact kk
theorem zp11_9 (C : zC p m c cc nL s args own D cy) (hH : zH D cy bs N kd len X Y R H) (hS : va_S (zA bs) H0 H locs) {i idx : Nat} (hi : i < N) (hk : kd i = 11) (hlk : Cond.fieldLink own idx RX11 "logs" "[I" ∈ zTB) (hinit : meth.name = "<init>") (hdecl : RX11 = own) {v : Nat} (hdg : decode cc pc = .ok (.putfield idx, 3))
    (kk : ∀ (H1 : Heap) (locs1 : List Loc), zH D cy bs N kd len X Y (zU R i 9 (some v)) H1 → va_S (zA bs) H0 H1 locs1 → W p l e R0 s m args below meth c H1 locs1 cells slots Q (F0 m (pc + 3) ls rest)) : W p l e R0 s m args below meth c H locs cells slots Q (F0 m pc ls (.ref (bs + v) :: .ref (bs + i) :: rest)) :=
  zd_putF C hH hS hi hk rfl zin11 rfl tyX11 tyX11_ok nmX11 9 (by decide) hlk rfl hinit hdecl (ty := (tyX11 9)) (by decide +kernel) rfl rfl (Nat.le_of_ble_eq_true rfl) (fun j hj => ⟨rfl, rfl, zU_o hj⟩) hH.2.2.1 hH.2.2.2 (by simp [zc, zU, va_rf]) hdg kk
theorem zg11_10 (C : zC p m c cc nL s args own D cy) (hH : zH D cy bs N kd len X Y R H) {i idx : Nat} (hi : i < N) (hk : kd i = 11) (hlk : Cond.fieldLink own idx RX11 "pools" "[I" ∈ zTB) {j : Nat} (hr : R i 10 = some j) (hdg : decode cc pc = .ok (.getfield idx, 3))
    (kk : W p l e R0 s m args below meth c H locs cells slots Q (F0 m (pc + 3) ls (.ref (bs + j) :: rest))) : W p l e R0 s m args below meth c H locs cells slots Q (F0 m pc ls (.ref (bs + i) :: rest)) := by
  refine zd_get C hH hi hk rfl zin11 rfl 10 (by decide) hlk rfl hdg ?_
  rw [hr]
  exact kk
theorem zp11_10 (C : zC p m c cc nL s args own D cy) (hH : zH D cy bs N kd len X Y R H) (hS : va_S (zA bs) H0 H locs) {i idx : Nat} (hi : i < N) (hk : kd i = 11) (hlk : Cond.fieldLink own idx RX11 "pools" "[I" ∈ zTB) (hinit : meth.name = "<init>") (hdecl : RX11 = own) {v : Nat} (hdg : decode cc pc = .ok (.putfield idx, 3))
    (kk : ∀ (H1 : Heap) (locs1 : List Loc), zH D cy bs N kd len X Y (zU R i 10 (some v)) H1 → va_S (zA bs) H0 H1 locs1 → W p l e R0 s m args below meth c H1 locs1 cells slots Q (F0 m (pc + 3) ls rest)) : W p l e R0 s m args below meth c H locs cells slots Q (F0 m pc ls (.ref (bs + v) :: .ref (bs + i) :: rest)) :=
  zd_putF C hH hS hi hk rfl zin11 rfl tyX11 tyX11_ok nmX11 10 (by decide) hlk rfl hinit hdecl (ty := (tyX11 10)) (by decide +kernel) rfl rfl (Nat.le_of_ble_eq_true rfl) (fun j hj => ⟨rfl, rfl, zU_o hj⟩) hH.2.2.1 hH.2.2.2 (by simp [zc, zU, va_rf]) hdg kk
theorem zg11_11 (C : zC p m c cc nL s args own D cy) (hH : zH D cy bs N kd len X Y R H) {i idx : Nat} (hi : i < N) (hk : kd i = 11) (hlk : Cond.fieldLink own idx RX11 "reached" "I" ∈ zTB) (hdg : decode cc pc = .ok (.getfield idx, 3))
    (kk : W p l e R0 s m args below meth c H locs cells slots Q (F0 m (pc + 3) ls (.int (zI (X i 11)) :: rest))) : W p l e R0 s m args below meth c H locs cells slots Q (F0 m pc ls (.ref (bs + i) :: rest)) :=
  zd_get C hH hi hk rfl zin11 rfl 11 (by decide) hlk rfl hdg kk
theorem zp11_11 (C : zC p m c cc nL s args own D cy) (hH : zH D cy bs N kd len X Y R H) (hS : va_S (zA bs) H0 H locs) {i idx : Nat} (hi : i < N) (hk : kd i = 11) (hlk : Cond.fieldLink own idx RX11 "reached" "I" ∈ zTB) {v : Int} (hv : rI v) (hdg : decode cc pc = .ok (.putfield idx, 3))
    (kk : ∀ (H1 : Heap) (locs1 : List Loc), zH D cy bs N kd len (zU X i 11 v) Y R H1 → va_S (zA bs) H0 H1 locs1 → W p l e R0 s m args below meth c H1 locs1 cells slots Q (F0 m (pc + 3) ls rest)) : W p l e R0 s m args below meth c H locs cells slots Q (F0 m pc ls (.int (zI v) :: .ref (bs + i) :: rest)) :=
  zd_put C hH hS hi hk rfl zin11 rfl tyX11 tyX11_ok nmX11 11 (by decide) hlk rfl (ty := .int) (by decide +kernel) rfl rfl (Nat.le_of_ble_eq_true rfl) (fun j hj => ⟨zU_o hj, rfl, rfl⟩) (zU_rI hH.2.2.1 hv) hH.2.2.2 (by simp [zc, zU, va_rf]) hdg kk
theorem zg11_12 (C : zC p m c cc nL s args own D cy) (hH : zH D cy bs N kd len X Y R H) {i idx : Nat} (hi : i < N) (hk : kd i = 11) (hlk : Cond.fieldLink own idx RX11 "length" "I" ∈ zTB) (hdg : decode cc pc = .ok (.getfield idx, 3))
    (kk : W p l e R0 s m args below meth c H locs cells slots Q (F0 m (pc + 3) ls (.int (zI (X i 12)) :: rest))) : W p l e R0 s m args below meth c H locs cells slots Q (F0 m pc ls (.ref (bs + i) :: rest)) :=
  zd_get C hH hi hk rfl zin11 rfl 12 (by decide) hlk rfl hdg kk
theorem zp11_12 (C : zC p m c cc nL s args own D cy) (hH : zH D cy bs N kd len X Y R H) (hS : va_S (zA bs) H0 H locs) {i idx : Nat} (hi : i < N) (hk : kd i = 11) (hlk : Cond.fieldLink own idx RX11 "length" "I" ∈ zTB) {v : Int} (hv : rI v) (hdg : decode cc pc = .ok (.putfield idx, 3))
    (kk : ∀ (H1 : Heap) (locs1 : List Loc), zH D cy bs N kd len (zU X i 12 v) Y R H1 → va_S (zA bs) H0 H1 locs1 → W p l e R0 s m args below meth c H1 locs1 cells slots Q (F0 m (pc + 3) ls rest)) : W p l e R0 s m args below meth c H locs cells slots Q (F0 m pc ls (.int (zI v) :: .ref (bs + i) :: rest)) :=
  zd_put C hH hS hi hk rfl zin11 rfl tyX11 tyX11_ok nmX11 12 (by decide) hlk rfl (ty := .int) (by decide +kernel) rfl rfl (Nat.le_of_ble_eq_true rfl) (fun j hj => ⟨zU_o hj, rfl, rfl⟩) (zU_rI hH.2.2.1 hv) hH.2.2.2 (by simp [zc, zU, va_rf]) hdg kk
theorem zg11_13 (C : zC p m c cc nL s args own D cy) (hH : zH D cy bs N kd len X Y R H) {i idx : Nat} (hi : i < N) (hk : kd i = 11) (hlk : Cond.fieldLink own idx RX11 "begins" "I" ∈ zTB) (hdg : decode cc pc = .ok (.getfield idx, 3))
    (kk : W p l e R0 s m args below meth c H locs cells slots Q (F0 m (pc + 3) ls (.int (zI (X i 13)) :: rest))) : W p l e R0 s m args below meth c H locs cells slots Q (F0 m pc ls (.ref (bs + i) :: rest)) :=
  zd_get C hH hi hk rfl zin11 rfl 13 (by decide) hlk rfl hdg kk
theorem zp11_13 (C : zC p m c cc nL s args own D cy) (hH : zH D cy bs N kd len X Y R H) (hS : va_S (zA bs) H0 H locs) {i idx : Nat} (hi : i < N) (hk : kd i = 11) (hlk : Cond.fieldLink own idx RX11 "begins" "I" ∈ zTB) {v : Int} (hv : rI v) (hdg : decode cc pc = .ok (.putfield idx, 3))
    (kk : ∀ (H1 : Heap) (locs1 : List Loc), zH D cy bs N kd len (zU X i 13 v) Y R H1 → va_S (zA bs) H0 H1 locs1 → W p l e R0 s m args below meth c H1 locs1 cells slots Q (F0 m (pc + 3) ls rest)) : W p l e R0 s m args below meth c H locs cells slots Q (F0 m pc ls (.int (zI v) :: .ref (bs + i) :: rest)) :=
  zd_put C hH hS hi hk rfl zin11 rfl tyX11 tyX11_ok nmX11 13 (by decide) hlk rfl (ty := .int) (by decide +kernel) rfl rfl (Nat.le_of_ble_eq_true rfl) (fun j hj => ⟨zU_o hj, rfl, rfl⟩) (zU_rI hH.2.2.1 hv) hH.2.2.2 (by simp [zc, zU, va_rf]) hdg kk
theorem zg11_14 (C : zC p m c cc nL s args own D cy) (hH : zH D cy bs N kd len X Y R H) {i idx : Nat} (hi : i < N) (hk : kd i = 11) (hlk : Cond.fieldLink own idx RX11 "sort" "I" ∈ zTB) (hdg : decode cc pc = .ok (.getfield idx, 3))
    (kk : W p l e R0 s m args below meth c H locs cells slots Q (F0 m (pc + 3) ls (.int (zI (X i 14)) :: rest))) : W p l e R0 s m args below meth c H locs cells slots Q (F0 m pc ls (.ref (bs + i) :: rest)) :=
  zd_get C hH hi hk rfl zin11 rfl 14 (by decide) hlk rfl hdg kk
theorem zp11_14 (C : zC p m c cc nL s args own D cy) (hH : zH D cy bs N kd len X Y R H) (hS : va_S (zA bs) H0 H locs) {i idx : Nat} (hi : i < N) (hk : kd i = 11) (hlk : Cond.fieldLink own idx RX11 "sort" "I" ∈ zTB) {v : Int} (hv : rI v) (hdg : decode cc pc = .ok (.putfield idx, 3))
    (kk : ∀ (H1 : Heap) (locs1 : List Loc), zH D cy bs N kd len (zU X i 14 v) Y R H1 → va_S (zA bs) H0 H1 locs1 → W p l e R0 s m args below meth c H1 locs1 cells slots Q (F0 m (pc + 3) ls rest)) : W p l e R0 s m args below meth c H locs cells slots Q (F0 m pc ls (.int (zI v) :: .ref (bs + i) :: rest)) :=
  zd_put C hH hS hi hk rfl zin11 rfl tyX11 tyX11_ok nmX11 14 (by decide) hlk rfl (ty := .int) (by decide +kernel) rfl rfl (Nat.le_of_ble_eq_true rfl) (fun j hj => ⟨zU_o hj, rfl, rfl⟩) (zU_rI hH.2.2.1 hv) hH.2.2.2 (by simp [zc, zU, va_rf]) hdg kk
theorem zg11_15 (C : zC p m c cc nL s args own D cy) (hH : zH D cy bs N kd len X Y R H) {i idx : Nat} (hi : i < N) (hk : kd i = 11) (hlk : Cond.fieldLink own idx RX11 "value" "I" ∈ zTB) (hdg : decode cc pc = .ok (.getfield idx, 3))
    (kk : W p l e R0 s m args below meth c H locs cells slots Q (F0 m (pc + 3) ls (.int (zI (X i 15)) :: rest))) : W p l e R0 s m args below meth c H locs cells slots Q (F0 m pc ls (.ref (bs + i) :: rest)) :=
  zd_get C hH hi hk rfl zin11 rfl 15 (by decide) hlk rfl hdg kk
theorem zp11_15 (C : zC p m c cc nL s args own D cy) (hH : zH D cy bs N kd len X Y R H) (hS : va_S (zA bs) H0 H locs) {i idx : Nat} (hi : i < N) (hk : kd i = 11) (hlk : Cond.fieldLink own idx RX11 "value" "I" ∈ zTB) {v : Int} (hv : rI v) (hdg : decode cc pc = .ok (.putfield idx, 3))
    (kk : ∀ (H1 : Heap) (locs1 : List Loc), zH D cy bs N kd len (zU X i 15 v) Y R H1 → va_S (zA bs) H0 H1 locs1 → W p l e R0 s m args below meth c H1 locs1 cells slots Q (F0 m (pc + 3) ls rest)) : W p l e R0 s m args below meth c H locs cells slots Q (F0 m pc ls (.int (zI v) :: .ref (bs + i) :: rest)) :=
  zd_put C hH hS hi hk rfl zin11 rfl tyX11 tyX11_ok nmX11 15 (by decide) hlk rfl (ty := .int) (by decide +kernel) rfl rfl (Nat.le_of_ble_eq_true rfl) (fun j hj => ⟨zU_o hj, rfl, rfl⟩) (zU_rI hH.2.2.1 hv) hH.2.2.2 (by simp [zc, zU, va_rf]) hdg kk
theorem zg11_16 (C : zC p m c cc nL s args own D cy) (hH : zH D cy bs N kd len X Y R H) {i idx : Nat} (hi : i < N) (hk : kd i = 11) (hlk : Cond.fieldLink own idx RX11 "word" "J" ∈ zTB) (hdg : decode cc pc = .ok (.getfield idx, 3))
    (kk : W p l e R0 s m args below meth c H locs cells slots Q (F0 m (pc + 3) ls (.long (zL (Y i 16)) :: rest))) : W p l e R0 s m args below meth c H locs cells slots Q (F0 m pc ls (.ref (bs + i) :: rest)) :=
  zd_get C hH hi hk rfl zin11 rfl 16 (by decide) hlk rfl hdg kk
theorem zp11_16 (C : zC p m c cc nL s args own D cy) (hH : zH D cy bs N kd len X Y R H) (hS : va_S (zA bs) H0 H locs) {i idx : Nat} (hi : i < N) (hk : kd i = 11) (hlk : Cond.fieldLink own idx RX11 "word" "J" ∈ zTB) {v : Int} (hv : rL v) (hdg : decode cc pc = .ok (.putfield idx, 3))
    (kk : ∀ (H1 : Heap) (locs1 : List Loc), zH D cy bs N kd len X (zU Y i 16 v) R H1 → va_S (zA bs) H0 H1 locs1 → W p l e R0 s m args below meth c H1 locs1 cells slots Q (F0 m (pc + 3) ls rest)) : W p l e R0 s m args below meth c H locs cells slots Q (F0 m pc ls (.long (zL v) :: .ref (bs + i) :: rest)) :=
  zd_put C hH hS hi hk rfl zin11 rfl tyX11 tyX11_ok nmX11 16 (by decide) hlk rfl (ty := .long) (by decide +kernel) rfl rfl (Nat.le_of_ble_eq_true rfl) (fun j hj => ⟨rfl, zU_o hj, rfl⟩) hH.2.2.1 (zU_rL hH.2.2.2 hv) (by simp [zc, zU, va_rf]) hdg kk
theorem zg11_17 (C : zC p m c cc nL s args own D cy) (hH : zH D cy bs N kd len X Y R H) {i idx : Nat} (hi : i < N) (hk : kd i = 11) (hlk : Cond.fieldLink own idx RX11 "wrongAt" "I" ∈ zTB) (hdg : decode cc pc = .ok (.getfield idx, 3))
    (kk : W p l e R0 s m args below meth c H locs cells slots Q (F0 m (pc + 3) ls (.int (zI (X i 17)) :: rest))) : W p l e R0 s m args below meth c H locs cells slots Q (F0 m pc ls (.ref (bs + i) :: rest)) :=
  zd_get C hH hi hk rfl zin11 rfl 17 (by decide) hlk rfl hdg kk
theorem zp11_17 (C : zC p m c cc nL s args own D cy) (hH : zH D cy bs N kd len X Y R H) (hS : va_S (zA bs) H0 H locs) {i idx : Nat} (hi : i < N) (hk : kd i = 11) (hlk : Cond.fieldLink own idx RX11 "wrongAt" "I" ∈ zTB) {v : Int} (hv : rI v) (hdg : decode cc pc = .ok (.putfield idx, 3))
    (kk : ∀ (H1 : Heap) (locs1 : List Loc), zH D cy bs N kd len (zU X i 17 v) Y R H1 → va_S (zA bs) H0 H1 locs1 → W p l e R0 s m args below meth c H1 locs1 cells slots Q (F0 m (pc + 3) ls rest)) : W p l e R0 s m args below meth c H locs cells slots Q (F0 m pc ls (.int (zI v) :: .ref (bs + i) :: rest)) :=
  zd_put C hH hS hi hk rfl zin11 rfl tyX11 tyX11_ok nmX11 17 (by decide) hlk rfl (ty := .int) (by decide +kernel) rfl rfl (Nat.le_of_ble_eq_true rfl) (fun j hj => ⟨zU_o hj, rfl, rfl⟩) (zU_rI hH.2.2.1 hv) hH.2.2.2 (by simp [zc, zU, va_rf]) hdg kk
theorem zg11_18 (C : zC p m c cc nL s args own D cy) (hH : zH D cy bs N kd len X Y R H) {i idx : Nat} (hi : i < N) (hk : kd i = 11) (hlk : Cond.fieldLink own idx RX11 "laterFault" "I" ∈ zTB) (hdg : decode cc pc = .ok (.getfield idx, 3))
    (kk : W p l e R0 s m args below meth c H locs cells slots Q (F0 m (pc + 3) ls (.int (zI (X i 18)) :: rest))) : W p l e R0 s m args below meth c H locs cells slots Q (F0 m pc ls (.ref (bs + i) :: rest)) :=
  zd_get C hH hi hk rfl zin11 rfl 18 (by decide) hlk rfl hdg kk
theorem zp11_18 (C : zC p m c cc nL s args own D cy) (hH : zH D cy bs N kd len X Y R H) (hS : va_S (zA bs) H0 H locs) {i idx : Nat} (hi : i < N) (hk : kd i = 11) (hlk : Cond.fieldLink own idx RX11 "laterFault" "I" ∈ zTB) {v : Int} (hv : rI v) (hdg : decode cc pc = .ok (.putfield idx, 3))
    (kk : ∀ (H1 : Heap) (locs1 : List Loc), zH D cy bs N kd len (zU X i 18 v) Y R H1 → va_S (zA bs) H0 H1 locs1 → W p l e R0 s m args below meth c H1 locs1 cells slots Q (F0 m (pc + 3) ls rest)) : W p l e R0 s m args below meth c H locs cells slots Q (F0 m pc ls (.int (zI v) :: .ref (bs + i) :: rest)) :=
  zd_put C hH hS hi hk rfl zin11 rfl tyX11 tyX11_ok nmX11 18 (by decide) hlk rfl (ty := .int) (by decide +kernel) rfl rfl (Nat.le_of_ble_eq_true rfl) (fun j hj => ⟨zU_o hj, rfl, rfl⟩) (zU_rI hH.2.2.1 hv) hH.2.2.2 (by simp [zc, zU, va_rf]) hdg kk
theorem zg11_19 (C : zC p m c cc nL s args own D cy) (hH : zH D cy bs N kd len X Y R H) {i idx : Nat} (hi : i < N) (hk : kd i = 11) (hlk : Cond.fieldLink own idx RX11 "laterPlace" "I" ∈ zTB) (hdg : decode cc pc = .ok (.getfield idx, 3))
    (kk : W p l e R0 s m args below meth c H locs cells slots Q (F0 m (pc + 3) ls (.int (zI (X i 19)) :: rest))) : W p l e R0 s m args below meth c H locs cells slots Q (F0 m pc ls (.ref (bs + i) :: rest)) :=
  zd_get C hH hi hk rfl zin11 rfl 19 (by decide) hlk rfl hdg kk
theorem zp11_19 (C : zC p m c cc nL s args own D cy) (hH : zH D cy bs N kd len X Y R H) (hS : va_S (zA bs) H0 H locs) {i idx : Nat} (hi : i < N) (hk : kd i = 11) (hlk : Cond.fieldLink own idx RX11 "laterPlace" "I" ∈ zTB) {v : Int} (hv : rI v) (hdg : decode cc pc = .ok (.putfield idx, 3))
    (kk : ∀ (H1 : Heap) (locs1 : List Loc), zH D cy bs N kd len (zU X i 19 v) Y R H1 → va_S (zA bs) H0 H1 locs1 → W p l e R0 s m args below meth c H1 locs1 cells slots Q (F0 m (pc + 3) ls rest)) : W p l e R0 s m args below meth c H locs cells slots Q (F0 m pc ls (.int (zI v) :: .ref (bs + i) :: rest)) :=
  zd_put C hH hS hi hk rfl zin11 rfl tyX11 tyX11_ok nmX11 19 (by decide) hlk rfl (ty := .int) (by decide +kernel) rfl rfl (Nat.le_of_ble_eq_true rfl) (fun j hj => ⟨zU_o hj, rfl, rfl⟩) (zU_rI hH.2.2.1 hv) hH.2.2.2 (by simp [zc, zU, va_rf]) hdg kk
theorem zg11_20 (C : zC p m c cc nL s args own D cy) (hH : zH D cy bs N kd len X Y R H) {i idx : Nat} (hi : i < N) (hk : kd i = 11) (hlk : Cond.fieldLink own idx RX11 "told" "[I" ∈ zTB) {j : Nat} (hr : R i 20 = some j) (hdg : decode cc pc = .ok (.getfield idx, 3))
    (kk : W p l e R0 s m args below meth c H locs cells slots Q (F0 m (pc + 3) ls (.ref (bs + j) :: rest))) : W p l e R0 s m args below meth c H locs cells slots Q (F0 m pc ls (.ref (bs + i) :: rest)) := by
  refine zd_get C hH hi hk rfl zin11 rfl 20 (by decide) hlk rfl hdg ?_
  rw [hr]
  exact kk
theorem zp11_20 (C : zC p m c cc nL s args own D cy) (hH : zH D cy bs N kd len X Y R H) (hS : va_S (zA bs) H0 H locs) {i idx : Nat} (hi : i < N) (hk : kd i = 11) (hlk : Cond.fieldLink own idx RX11 "told" "[I" ∈ zTB) (hinit : meth.name = "<init>") (hdecl : RX11 = own) {v : Nat} (hdg : decode cc pc = .ok (.putfield idx, 3))
    (kk : ∀ (H1 : Heap) (locs1 : List Loc), zH D cy bs N kd len X Y (zU R i 20 (some v)) H1 → va_S (zA bs) H0 H1 locs1 → W p l e R0 s m args below meth c H1 locs1 cells slots Q (F0 m (pc + 3) ls rest)) : W p l e R0 s m args below meth c H locs cells slots Q (F0 m pc ls (.ref (bs + v) :: .ref (bs + i) :: rest)) :=
  zd_putF C hH hS hi hk rfl zin11 rfl tyX11 tyX11_ok nmX11 20 (by decide) hlk rfl hinit hdecl (ty := (tyX11 20)) (by decide +kernel) rfl rfl (Nat.le_of_ble_eq_true rfl) (fun j hj => ⟨rfl, rfl, zU_o hj⟩) hH.2.2.1 hH.2.2.2 (by simp [zc, zU, va_rf]) hdg kk
theorem zg11_21 (C : zC p m c cc nL s args own D cy) (hH : zH D cy bs N kd len X Y R H) {i idx : Nat} (hi : i < N) (hk : kd i = 11) (hlk : Cond.fieldLink own idx RX11 "read" "[I" ∈ zTB) {j : Nat} (hr : R i 21 = some j) (hdg : decode cc pc = .ok (.getfield idx, 3))
    (kk : W p l e R0 s m args below meth c H locs cells slots Q (F0 m (pc + 3) ls (.ref (bs + j) :: rest))) : W p l e R0 s m args below meth c H locs cells slots Q (F0 m pc ls (.ref (bs + i) :: rest)) := by
  refine zd_get C hH hi hk rfl zin11 rfl 21 (by decide) hlk rfl hdg ?_
  rw [hr]
  exact kk
theorem zp11_21 (C : zC p m c cc nL s args own D cy) (hH : zH D cy bs N kd len X Y R H) (hS : va_S (zA bs) H0 H locs) {i idx : Nat} (hi : i < N) (hk : kd i = 11) (hlk : Cond.fieldLink own idx RX11 "read" "[I" ∈ zTB) (hinit : meth.name = "<init>") (hdecl : RX11 = own) {v : Nat} (hdg : decode cc pc = .ok (.putfield idx, 3))
    (kk : ∀ (H1 : Heap) (locs1 : List Loc), zH D cy bs N kd len X Y (zU R i 21 (some v)) H1 → va_S (zA bs) H0 H1 locs1 → W p l e R0 s m args below meth c H1 locs1 cells slots Q (F0 m (pc + 3) ls rest)) : W p l e R0 s m args below meth c H locs cells slots Q (F0 m pc ls (.ref (bs + v) :: .ref (bs + i) :: rest)) :=
  zd_putF C hH hS hi hk rfl zin11 rfl tyX11 tyX11_ok nmX11 21 (by decide) hlk rfl hinit hdecl (ty := (tyX11 21)) (by decide +kernel) rfl rfl (Nat.le_of_ble_eq_true rfl) (fun j hj => ⟨rfl, rfl, zU_o hj⟩) hH.2.2.1 hH.2.2.2 (by simp [zc, zU, va_rf]) hdg kk
theorem zg11_22 (C : zC p m c cc nL s args own D cy) (hH : zH D cy bs N kd len X Y R H) {i idx : Nat} (hi : i < N) (hk : kd i = 11) (hlk : Cond.fieldLink own idx RX11 "good" "Z" ∈ zTB) (hdg : decode cc pc = .ok (.getfield idx, 3))
    (kk : W p l e R0 s m args below meth c H locs cells slots Q (F0 m (pc + 3) ls (.int (zI (X i 22)) :: rest))) : W p l e R0 s m args below meth c H locs cells slots Q (F0 m pc ls (.ref (bs + i) :: rest)) :=
  zd_get C hH hi hk rfl zin11 rfl 22 (by decide) hlk rfl hdg kk
theorem zp11_22 (C : zC p m c cc nL s args own D cy) (hH : zH D cy bs N kd len X Y R H) (hS : va_S (zA bs) H0 H locs) {i idx : Nat} (hi : i < N) (hk : kd i = 11) (hlk : Cond.fieldLink own idx RX11 "good" "Z" ∈ zTB) {v : Int} (hv : v = 0 ∨ v = 1) (hdg : decode cc pc = .ok (.putfield idx, 3))
    (kk : ∀ (H1 : Heap) (locs1 : List Loc), zH D cy bs N kd len (zU X i 22 v) Y R H1 → va_S (zA bs) H0 H1 locs1 → W p l e R0 s m args below meth c H1 locs1 cells slots Q (F0 m (pc + 3) ls rest)) : W p l e R0 s m args below meth c H locs cells slots Q (F0 m pc ls (.int (zI v) :: .ref (bs + i) :: rest)) :=
  zd_put C hH hS hi hk rfl zin11 rfl tyX11 tyX11_ok nmX11 22 (by decide) hlk rfl (ty := .boolean) (by decide +kernel) (zN_bool hv) (by rcases hv with rfl | rfl <;> rfl) (Nat.le_of_ble_eq_true rfl) (fun j hj => ⟨zU_o hj, rfl, rfl⟩) (zU_rI hH.2.2.1 (by rcases hv with rfl | rfl <;> decide)) hH.2.2.2 (by simp [zc, zU, va_rf]) hdg kk
theorem zg11_23 (C : zC p m c cc nL s args own D cy) (hH : zH D cy bs N kd len X Y R H) {i idx : Nat} (hi : i < N) (hk : kd i = 11) (hlk : Cond.fieldLink own idx RX11 "paysOf" "I" ∈ zTB) (hdg : decode cc pc = .ok (.getfield idx, 3))
    (kk : W p l e R0 s m args below meth c H locs cells slots Q (F0 m (pc + 3) ls (.int (zI (X i 23)) :: rest))) : W p l e R0 s m args below meth c H locs cells slots Q (F0 m pc ls (.ref (bs + i) :: rest)) :=
  zd_get C hH hi hk rfl zin11 rfl 23 (by decide) hlk rfl hdg kk
theorem zp11_23 (C : zC p m c cc nL s args own D cy) (hH : zH D cy bs N kd len X Y R H) (hS : va_S (zA bs) H0 H locs) {i idx : Nat} (hi : i < N) (hk : kd i = 11) (hlk : Cond.fieldLink own idx RX11 "paysOf" "I" ∈ zTB) {v : Int} (hv : rI v) (hdg : decode cc pc = .ok (.putfield idx, 3))
    (kk : ∀ (H1 : Heap) (locs1 : List Loc), zH D cy bs N kd len (zU X i 23 v) Y R H1 → va_S (zA bs) H0 H1 locs1 → W p l e R0 s m args below meth c H1 locs1 cells slots Q (F0 m (pc + 3) ls rest)) : W p l e R0 s m args below meth c H locs cells slots Q (F0 m pc ls (.int (zI v) :: .ref (bs + i) :: rest)) :=
  zd_put C hH hS hi hk rfl zin11 rfl tyX11 tyX11_ok nmX11 23 (by decide) hlk rfl (ty := .int) (by decide +kernel) rfl rfl (Nat.le_of_ble_eq_true rfl) (fun j hj => ⟨zU_o hj, rfl, rfl⟩) (zU_rI hH.2.2.1 hv) hH.2.2.2 (by simp [zc, zU, va_rf]) hdg kk
theorem zg11_24 (C : zC p m c cc nL s args own D cy) (hH : zH D cy bs N kd len X Y R H) {i idx : Nat} (hi : i < N) (hk : kd i = 11) (hlk : Cond.fieldLink own idx RX11 "net" "I" ∈ zTB) (hdg : decode cc pc = .ok (.getfield idx, 3))
    (kk : W p l e R0 s m args below meth c H locs cells slots Q (F0 m (pc + 3) ls (.int (zI (X i 24)) :: rest))) : W p l e R0 s m args below meth c H locs cells slots Q (F0 m pc ls (.ref (bs + i) :: rest)) :=
  zd_get C hH hi hk rfl zin11 rfl 24 (by decide) hlk rfl hdg kk
theorem zp11_24 (C : zC p m c cc nL s args own D cy) (hH : zH D cy bs N kd len X Y R H) (hS : va_S (zA bs) H0 H locs) {i idx : Nat} (hi : i < N) (hk : kd i = 11) (hlk : Cond.fieldLink own idx RX11 "net" "I" ∈ zTB) {v : Int} (hv : rI v) (hdg : decode cc pc = .ok (.putfield idx, 3))
    (kk : ∀ (H1 : Heap) (locs1 : List Loc), zH D cy bs N kd len (zU X i 24 v) Y R H1 → va_S (zA bs) H0 H1 locs1 → W p l e R0 s m args below meth c H1 locs1 cells slots Q (F0 m (pc + 3) ls rest)) : W p l e R0 s m args below meth c H locs cells slots Q (F0 m pc ls (.int (zI v) :: .ref (bs + i) :: rest)) :=
  zd_put C hH hS hi hk rfl zin11 rfl tyX11 tyX11_ok nmX11 24 (by decide) hlk rfl (ty := .int) (by decide +kernel) rfl rfl (Nat.le_of_ble_eq_true rfl) (fun j hj => ⟨zU_o hj, rfl, rfl⟩) (zU_rI hH.2.2.1 hv) hH.2.2.2 (by simp [zc, zU, va_rf]) hdg kk
theorem zg11_25 (C : zC p m c cc nL s args own D cy) (hH : zH D cy bs N kd len X Y R H) {i idx : Nat} (hi : i < N) (hk : kd i = 11) (hlk : Cond.fieldLink own idx RX11 "chain" "I" ∈ zTB) (hdg : decode cc pc = .ok (.getfield idx, 3))
    (kk : W p l e R0 s m args below meth c H locs cells slots Q (F0 m (pc + 3) ls (.int (zI (X i 25)) :: rest))) : W p l e R0 s m args below meth c H locs cells slots Q (F0 m pc ls (.ref (bs + i) :: rest)) :=
  zd_get C hH hi hk rfl zin11 rfl 25 (by decide) hlk rfl hdg kk
theorem zp11_25 (C : zC p m c cc nL s args own D cy) (hH : zH D cy bs N kd len X Y R H) (hS : va_S (zA bs) H0 H locs) {i idx : Nat} (hi : i < N) (hk : kd i = 11) (hlk : Cond.fieldLink own idx RX11 "chain" "I" ∈ zTB) {v : Int} (hv : rI v) (hdg : decode cc pc = .ok (.putfield idx, 3))
    (kk : ∀ (H1 : Heap) (locs1 : List Loc), zH D cy bs N kd len (zU X i 25 v) Y R H1 → va_S (zA bs) H0 H1 locs1 → W p l e R0 s m args below meth c H1 locs1 cells slots Q (F0 m (pc + 3) ls rest)) : W p l e R0 s m args below meth c H locs cells slots Q (F0 m pc ls (.int (zI v) :: .ref (bs + i) :: rest)) :=
  zd_put C hH hS hi hk rfl zin11 rfl tyX11 tyX11_ok nmX11 25 (by decide) hlk rfl (ty := .int) (by decide +kernel) rfl rfl (Nat.le_of_ble_eq_true rfl) (fun j hj => ⟨zU_o hj, rfl, rfl⟩) (zU_rI hH.2.2.1 hv) hH.2.2.2 (by simp [zc, zU, va_rf]) hdg kk
theorem zg11_26 (C : zC p m c cc nL s args own D cy) (hH : zH D cy bs N kd len X Y R H) {i idx : Nat} (hi : i < N) (hk : kd i = 11) (hlk : Cond.fieldLink own idx RX11 "accounts" "I" ∈ zTB) (hdg : decode cc pc = .ok (.getfield idx, 3))
    (kk : W p l e R0 s m args below meth c H locs cells slots Q (F0 m (pc + 3) ls (.int (zI (X i 26)) :: rest))) : W p l e R0 s m args below meth c H locs cells slots Q (F0 m pc ls (.ref (bs + i) :: rest)) :=
  zd_get C hH hi hk rfl zin11 rfl 26 (by decide) hlk rfl hdg kk
theorem zp11_26 (C : zC p m c cc nL s args own D cy) (hH : zH D cy bs N kd len X Y R H) (hS : va_S (zA bs) H0 H locs) {i idx : Nat} (hi : i < N) (hk : kd i = 11) (hlk : Cond.fieldLink own idx RX11 "accounts" "I" ∈ zTB) {v : Int} (hv : rI v) (hdg : decode cc pc = .ok (.putfield idx, 3))
    (kk : ∀ (H1 : Heap) (locs1 : List Loc), zH D cy bs N kd len (zU X i 26 v) Y R H1 → va_S (zA bs) H0 H1 locs1 → W p l e R0 s m args below meth c H1 locs1 cells slots Q (F0 m (pc + 3) ls rest)) : W p l e R0 s m args below meth c H locs cells slots Q (F0 m pc ls (.int (zI v) :: .ref (bs + i) :: rest)) :=
  zd_put C hH hS hi hk rfl zin11 rfl tyX11 tyX11_ok nmX11 26 (by decide) hlk rfl (ty := .int) (by decide +kernel) rfl rfl (Nat.le_of_ble_eq_true rfl) (fun j hj => ⟨zU_o hj, rfl, rfl⟩) (zU_rI hH.2.2.1 hv) hH.2.2.2 (by simp [zc, zU, va_rf]) hdg kk
theorem zg11_27 (C : zC p m c cc nL s args own D cy) (hH : zH D cy bs N kd len X Y R H) {i idx : Nat} (hi : i < N) (hk : kd i = 11) (hlk : Cond.fieldLink own idx RX11 "blocks" "I" ∈ zTB) (hdg : decode cc pc = .ok (.getfield idx, 3))
    (kk : W p l e R0 s m args below meth c H locs cells slots Q (F0 m (pc + 3) ls (.int (zI (X i 27)) :: rest))) : W p l e R0 s m args below meth c H locs cells slots Q (F0 m pc ls (.ref (bs + i) :: rest)) :=
  zd_get C hH hi hk rfl zin11 rfl 27 (by decide) hlk rfl hdg kk
theorem zp11_27 (C : zC p m c cc nL s args own D cy) (hH : zH D cy bs N kd len X Y R H) (hS : va_S (zA bs) H0 H locs) {i idx : Nat} (hi : i < N) (hk : kd i = 11) (hlk : Cond.fieldLink own idx RX11 "blocks" "I" ∈ zTB) {v : Int} (hv : rI v) (hdg : decode cc pc = .ok (.putfield idx, 3))
    (kk : ∀ (H1 : Heap) (locs1 : List Loc), zH D cy bs N kd len (zU X i 27 v) Y R H1 → va_S (zA bs) H0 H1 locs1 → W p l e R0 s m args below meth c H1 locs1 cells slots Q (F0 m (pc + 3) ls rest)) : W p l e R0 s m args below meth c H locs cells slots Q (F0 m pc ls (.int (zI v) :: .ref (bs + i) :: rest)) :=
  zd_put C hH hS hi hk rfl zin11 rfl tyX11 tyX11_ok nmX11 27 (by decide) hlk rfl (ty := .int) (by decide +kernel) rfl rfl (Nat.le_of_ble_eq_true rfl) (fun j hj => ⟨zU_o hj, rfl, rfl⟩) (zU_rI hH.2.2.1 hv) hH.2.2.2 (by simp [zc, zU, va_rf]) hdg kk
theorem zg11_28 (C : zC p m c cc nL s args own D cy) (hH : zH D cy bs N kd len X Y R H) {i idx : Nat} (hi : i < N) (hk : kd i = 11) (hlk : Cond.fieldLink own idx RX11 "rule" "I" ∈ zTB) (hdg : decode cc pc = .ok (.getfield idx, 3))
    (kk : W p l e R0 s m args below meth c H locs cells slots Q (F0 m (pc + 3) ls (.int (zI (X i 28)) :: rest))) : W p l e R0 s m args below meth c H locs cells slots Q (F0 m pc ls (.ref (bs + i) :: rest)) :=
  zd_get C hH hi hk rfl zin11 rfl 28 (by decide) hlk rfl hdg kk
theorem zp11_28 (C : zC p m c cc nL s args own D cy) (hH : zH D cy bs N kd len X Y R H) (hS : va_S (zA bs) H0 H locs) {i idx : Nat} (hi : i < N) (hk : kd i = 11) (hlk : Cond.fieldLink own idx RX11 "rule" "I" ∈ zTB) {v : Int} (hv : rI v) (hdg : decode cc pc = .ok (.putfield idx, 3))
    (kk : ∀ (H1 : Heap) (locs1 : List Loc), zH D cy bs N kd len (zU X i 28 v) Y R H1 → va_S (zA bs) H0 H1 locs1 → W p l e R0 s m args below meth c H1 locs1 cells slots Q (F0 m (pc + 3) ls rest)) : W p l e R0 s m args below meth c H locs cells slots Q (F0 m pc ls (.int (zI v) :: .ref (bs + i) :: rest)) :=
  zd_put C hH hS hi hk rfl zin11 rfl tyX11 tyX11_ok nmX11 28 (by decide) hlk rfl (ty := .int) (by decide +kernel) rfl rfl (Nat.le_of_ble_eq_true rfl) (fun j hj => ⟨zU_o hj, rfl, rfl⟩) (zU_rI hH.2.2.1 hv) hH.2.2.2 (by simp [zc, zU, va_rf]) hdg kk
theorem zg11_29 (C : zC p m c cc nL s args own D cy) (hH : zH D cy bs N kd len X Y R H) {i idx : Nat} (hi : i < N) (hk : kd i = 11) (hlk : Cond.fieldLink own idx RX11 "tie" "I" ∈ zTB) (hdg : decode cc pc = .ok (.getfield idx, 3))
    (kk : W p l e R0 s m args below meth c H locs cells slots Q (F0 m (pc + 3) ls (.int (zI (X i 29)) :: rest))) : W p l e R0 s m args below meth c H locs cells slots Q (F0 m pc ls (.ref (bs + i) :: rest)) :=
  zd_get C hH hi hk rfl zin11 rfl 29 (by decide) hlk rfl hdg kk
theorem zp11_29 (C : zC p m c cc nL s args own D cy) (hH : zH D cy bs N kd len X Y R H) (hS : va_S (zA bs) H0 H locs) {i idx : Nat} (hi : i < N) (hk : kd i = 11) (hlk : Cond.fieldLink own idx RX11 "tie" "I" ∈ zTB) {v : Int} (hv : rI v) (hdg : decode cc pc = .ok (.putfield idx, 3))
    (kk : ∀ (H1 : Heap) (locs1 : List Loc), zH D cy bs N kd len (zU X i 29 v) Y R H1 → va_S (zA bs) H0 H1 locs1 → W p l e R0 s m args below meth c H1 locs1 cells slots Q (F0 m (pc + 3) ls rest)) : W p l e R0 s m args below meth c H locs cells slots Q (F0 m pc ls (.int (zI v) :: .ref (bs + i) :: rest)) :=
  zd_put C hH hS hi hk rfl zin11 rfl tyX11 tyX11_ok nmX11 29 (by decide) hlk rfl (ty := .int) (by decide +kernel) rfl rfl (Nat.le_of_ble_eq_true rfl) (fun j hj => ⟨zU_o hj, rfl, rfl⟩) (zU_rI hH.2.2.1 hv) hH.2.2.2 (by simp [zc, zU, va_rf]) hdg kk
theorem zg11_30 (C : zC p m c cc nL s args own D cy) (hH : zH D cy bs N kd len X Y R H) {i idx : Nat} (hi : i < N) (hk : kd i = 11) (hlk : Cond.fieldLink own idx RX11 "step" "I" ∈ zTB) (hdg : decode cc pc = .ok (.getfield idx, 3))
    (kk : W p l e R0 s m args below meth c H locs cells slots Q (F0 m (pc + 3) ls (.int (zI (X i 30)) :: rest))) : W p l e R0 s m args below meth c H locs cells slots Q (F0 m pc ls (.ref (bs + i) :: rest)) :=
  zd_get C hH hi hk rfl zin11 rfl 30 (by decide) hlk rfl hdg kk
theorem zp11_30 (C : zC p m c cc nL s args own D cy) (hH : zH D cy bs N kd len X Y R H) (hS : va_S (zA bs) H0 H locs) {i idx : Nat} (hi : i < N) (hk : kd i = 11) (hlk : Cond.fieldLink own idx RX11 "step" "I" ∈ zTB) {v : Int} (hv : rI v) (hdg : decode cc pc = .ok (.putfield idx, 3))
    (kk : ∀ (H1 : Heap) (locs1 : List Loc), zH D cy bs N kd len (zU X i 30 v) Y R H1 → va_S (zA bs) H0 H1 locs1 → W p l e R0 s m args below meth c H1 locs1 cells slots Q (F0 m (pc + 3) ls rest)) : W p l e R0 s m args below meth c H locs cells slots Q (F0 m pc ls (.int (zI v) :: .ref (bs + i) :: rest)) :=
  zd_put C hH hS hi hk rfl zin11 rfl tyX11 tyX11_ok nmX11 30 (by decide) hlk rfl (ty := .int) (by decide +kernel) rfl rfl (Nat.le_of_ble_eq_true rfl) (fun j hj => ⟨zU_o hj, rfl, rfl⟩) (zU_rI hH.2.2.1 hv) hH.2.2.2 (by simp [zc, zU, va_rf]) hdg kk
theorem zg11_31 (C : zC p m c cc nL s args own D cy) (hH : zH D cy bs N kd len X Y R H) {i idx : Nat} (hi : i < N) (hk : kd i = 11) (hlk : Cond.fieldLink own idx RX11 "height" "[I" ∈ zTB) {j : Nat} (hr : R i 31 = some j) (hdg : decode cc pc = .ok (.getfield idx, 3))
    (kk : W p l e R0 s m args below meth c H locs cells slots Q (F0 m (pc + 3) ls (.ref (bs + j) :: rest))) : W p l e R0 s m args below meth c H locs cells slots Q (F0 m pc ls (.ref (bs + i) :: rest)) := by
  refine zd_get C hH hi hk rfl zin11 rfl 31 (by decide) hlk rfl hdg ?_
  rw [hr]
  exact kk
theorem zp11_31 (C : zC p m c cc nL s args own D cy) (hH : zH D cy bs N kd len X Y R H) (hS : va_S (zA bs) H0 H locs) {i idx : Nat} (hi : i < N) (hk : kd i = 11) (hlk : Cond.fieldLink own idx RX11 "height" "[I" ∈ zTB) (hinit : meth.name = "<init>") (hdecl : RX11 = own) {v : Nat} (hdg : decode cc pc = .ok (.putfield idx, 3))
    (kk : ∀ (H1 : Heap) (locs1 : List Loc), zH D cy bs N kd len X Y (zU R i 31 (some v)) H1 → va_S (zA bs) H0 H1 locs1 → W p l e R0 s m args below meth c H1 locs1 cells slots Q (F0 m (pc + 3) ls rest)) : W p l e R0 s m args below meth c H locs cells slots Q (F0 m pc ls (.ref (bs + v) :: .ref (bs + i) :: rest)) :=
  zd_putF C hH hS hi hk rfl zin11 rfl tyX11 tyX11_ok nmX11 31 (by decide) hlk rfl hinit hdecl (ty := (tyX11 31)) (by decide +kernel) rfl rfl (Nat.le_of_ble_eq_true rfl) (fun j hj => ⟨rfl, rfl, zU_o hj⟩) hH.2.2.1 hH.2.2.2 (by simp [zc, zU, va_rf]) hdg kk
theorem zg11_32 (C : zC p m c cc nL s args own D cy) (hH : zH D cy bs N kd len X Y R H) {i idx : Nat} (hi : i < N) (hk : kd i = 11) (hlk : Cond.fieldLink own idx RX11 "works" "[J" ∈ zTB) {j : Nat} (hr : R i 32 = some j) (hdg : decode cc pc = .ok (.getfield idx, 3))
    (kk : W p l e R0 s m args below meth c H locs cells slots Q (F0 m (pc + 3) ls (.ref (bs + j) :: rest))) : W p l e R0 s m args below meth c H locs cells slots Q (F0 m pc ls (.ref (bs + i) :: rest)) := by
  refine zd_get C hH hi hk rfl zin11 rfl 32 (by decide) hlk rfl hdg ?_
  rw [hr]
  exact kk
theorem zp11_32 (C : zC p m c cc nL s args own D cy) (hH : zH D cy bs N kd len X Y R H) (hS : va_S (zA bs) H0 H locs) {i idx : Nat} (hi : i < N) (hk : kd i = 11) (hlk : Cond.fieldLink own idx RX11 "works" "[J" ∈ zTB) (hinit : meth.name = "<init>") (hdecl : RX11 = own) {v : Nat} (hdg : decode cc pc = .ok (.putfield idx, 3))
    (kk : ∀ (H1 : Heap) (locs1 : List Loc), zH D cy bs N kd len X Y (zU R i 32 (some v)) H1 → va_S (zA bs) H0 H1 locs1 → W p l e R0 s m args below meth c H1 locs1 cells slots Q (F0 m (pc + 3) ls rest)) : W p l e R0 s m args below meth c H locs cells slots Q (F0 m pc ls (.ref (bs + v) :: .ref (bs + i) :: rest)) :=
  zd_putF C hH hS hi hk rfl zin11 rfl tyX11 tyX11_ok nmX11 32 (by decide) hlk rfl hinit hdecl (ty := (tyX11 32)) (by decide +kernel) rfl rfl (Nat.le_of_ble_eq_true rfl) (fun j hj => ⟨rfl, rfl, zU_o hj⟩) hH.2.2.1 hH.2.2.2 (by simp [zc, zU, va_rf]) hdg kk
theorem zg11_33 (C : zC p m c cc nL s args own D cy) (hH : zH D cy bs N kd len X Y R H) {i idx : Nat} (hi : i < N) (hk : kd i = 11) (hlk : Cond.fieldLink own idx RX11 "weight" "[J" ∈ zTB) {j : Nat} (hr : R i 33 = some j) (hdg : decode cc pc = .ok (.getfield idx, 3))
    (kk : W p l e R0 s m args below meth c H locs cells slots Q (F0 m (pc + 3) ls (.ref (bs + j) :: rest))) : W p l e R0 s m args below meth c H locs cells slots Q (F0 m pc ls (.ref (bs + i) :: rest)) := by
  refine zd_get C hH hi hk rfl zin11 rfl 33 (by decide) hlk rfl hdg ?_
  rw [hr]
  exact kk
theorem zp11_33 (C : zC p m c cc nL s args own D cy) (hH : zH D cy bs N kd len X Y R H) (hS : va_S (zA bs) H0 H locs) {i idx : Nat} (hi : i < N) (hk : kd i = 11) (hlk : Cond.fieldLink own idx RX11 "weight" "[J" ∈ zTB) (hinit : meth.name = "<init>") (hdecl : RX11 = own) {v : Nat} (hdg : decode cc pc = .ok (.putfield idx, 3))
    (kk : ∀ (H1 : Heap) (locs1 : List Loc), zH D cy bs N kd len X Y (zU R i 33 (some v)) H1 → va_S (zA bs) H0 H1 locs1 → W p l e R0 s m args below meth c H1 locs1 cells slots Q (F0 m (pc + 3) ls rest)) : W p l e R0 s m args below meth c H locs cells slots Q (F0 m pc ls (.ref (bs + v) :: .ref (bs + i) :: rest)) :=
  zd_putF C hH hS hi hk rfl zin11 rfl tyX11 tyX11_ok nmX11 33 (by decide) hlk rfl hinit hdecl (ty := (tyX11 33)) (by decide +kernel) rfl rfl (Nat.le_of_ble_eq_true rfl) (fun j hj => ⟨rfl, rfl, zU_o hj⟩) hH.2.2.1 hH.2.2.2 (by simp [zc, zU, va_rf]) hdg kk
theorem zg11_34 (C : zC p m c cc nL s args own D cy) (hH : zH D cy bs N kd len X Y R H) {i idx : Nat} (hi : i < N) (hk : kd i = 11) (hlk : Cond.fieldLink own idx RX11 "ledger" "[I" ∈ zTB) {j : Nat} (hr : R i 34 = some j) (hdg : decode cc pc = .ok (.getfield idx, 3))
    (kk : W p l e R0 s m args below meth c H locs cells slots Q (F0 m (pc + 3) ls (.ref (bs + j) :: rest))) : W p l e R0 s m args below meth c H locs cells slots Q (F0 m pc ls (.ref (bs + i) :: rest)) := by
  refine zd_get C hH hi hk rfl zin11 rfl 34 (by decide) hlk rfl hdg ?_
  rw [hr]
  exact kk
theorem zp11_34 (C : zC p m c cc nL s args own D cy) (hH : zH D cy bs N kd len X Y R H) (hS : va_S (zA bs) H0 H locs) {i idx : Nat} (hi : i < N) (hk : kd i = 11) (hlk : Cond.fieldLink own idx RX11 "ledger" "[I" ∈ zTB) (hinit : meth.name = "<init>") (hdecl : RX11 = own) {v : Nat} (hdg : decode cc pc = .ok (.putfield idx, 3))
    (kk : ∀ (H1 : Heap) (locs1 : List Loc), zH D cy bs N kd len X Y (zU R i 34 (some v)) H1 → va_S (zA bs) H0 H1 locs1 → W p l e R0 s m args below meth c H1 locs1 cells slots Q (F0 m (pc + 3) ls rest)) : W p l e R0 s m args below meth c H locs cells slots Q (F0 m pc ls (.ref (bs + v) :: .ref (bs + i) :: rest)) :=
  zd_putF C hH hS hi hk rfl zin11 rfl tyX11 tyX11_ok nmX11 34 (by decide) hlk rfl hinit hdecl (ty := (tyX11 34)) (by decide +kernel) rfl rfl (Nat.le_of_ble_eq_true rfl) (fun j hj => ⟨rfl, rfl, zU_o hj⟩) hH.2.2.1 hH.2.2.2 (by simp [zc, zU, va_rf]) hdg kk
theorem zg11_35 (C : zC p m c cc nL s args own D cy) (hH : zH D cy bs N kd len X Y R H) {i idx : Nat} (hi : i < N) (hk : kd i = 11) (hlk : Cond.fieldLink own idx RX11 "sound" "I" ∈ zTB) (hdg : decode cc pc = .ok (.getfield idx, 3))
    (kk : W p l e R0 s m args below meth c H locs cells slots Q (F0 m (pc + 3) ls (.int (zI (X i 35)) :: rest))) : W p l e R0 s m args below meth c H locs cells slots Q (F0 m pc ls (.ref (bs + i) :: rest)) :=
  zd_get C hH hi hk rfl zin11 rfl 35 (by decide) hlk rfl hdg kk
theorem zp11_35 (C : zC p m c cc nL s args own D cy) (hH : zH D cy bs N kd len X Y R H) (hS : va_S (zA bs) H0 H locs) {i idx : Nat} (hi : i < N) (hk : kd i = 11) (hlk : Cond.fieldLink own idx RX11 "sound" "I" ∈ zTB) {v : Int} (hv : rI v) (hdg : decode cc pc = .ok (.putfield idx, 3))
    (kk : ∀ (H1 : Heap) (locs1 : List Loc), zH D cy bs N kd len (zU X i 35 v) Y R H1 → va_S (zA bs) H0 H1 locs1 → W p l e R0 s m args below meth c H1 locs1 cells slots Q (F0 m (pc + 3) ls rest)) : W p l e R0 s m args below meth c H locs cells slots Q (F0 m pc ls (.int (zI v) :: .ref (bs + i) :: rest)) :=
  zd_put C hH hS hi hk rfl zin11 rfl tyX11 tyX11_ok nmX11 35 (by decide) hlk rfl (ty := .int) (by decide +kernel) rfl rfl (Nat.le_of_ble_eq_true rfl) (fun j hj => ⟨zU_o hj, rfl, rfl⟩) (zU_rI hH.2.2.1 hv) hH.2.2.2 (by simp [zc, zU, va_rf]) hdg kk
theorem zg11_36 (C : zC p m c cc nL s args own D cy) (hH : zH D cy bs N kd len X Y R H) {i idx : Nat} (hi : i < N) (hk : kd i = 11) (hlk : Cond.fieldLink own idx RX11 "whole" "I" ∈ zTB) (hdg : decode cc pc = .ok (.getfield idx, 3))
    (kk : W p l e R0 s m args below meth c H locs cells slots Q (F0 m (pc + 3) ls (.int (zI (X i 36)) :: rest))) : W p l e R0 s m args below meth c H locs cells slots Q (F0 m pc ls (.ref (bs + i) :: rest)) :=
  zd_get C hH hi hk rfl zin11 rfl 36 (by decide) hlk rfl hdg kk
theorem zp11_36 (C : zC p m c cc nL s args own D cy) (hH : zH D cy bs N kd len X Y R H) (hS : va_S (zA bs) H0 H locs) {i idx : Nat} (hi : i < N) (hk : kd i = 11) (hlk : Cond.fieldLink own idx RX11 "whole" "I" ∈ zTB) {v : Int} (hv : rI v) (hdg : decode cc pc = .ok (.putfield idx, 3))
    (kk : ∀ (H1 : Heap) (locs1 : List Loc), zH D cy bs N kd len (zU X i 36 v) Y R H1 → va_S (zA bs) H0 H1 locs1 → W p l e R0 s m args below meth c H1 locs1 cells slots Q (F0 m (pc + 3) ls rest)) : W p l e R0 s m args below meth c H locs cells slots Q (F0 m pc ls (.int (zI v) :: .ref (bs + i) :: rest)) :=
  zd_put C hH hS hi hk rfl zin11 rfl tyX11 tyX11_ok nmX11 36 (by decide) hlk rfl (ty := .int) (by decide +kernel) rfl rfl (Nat.le_of_ble_eq_true rfl) (fun j hj => ⟨zU_o hj, rfl, rfl⟩) (zU_rI hH.2.2.1 hv) hH.2.2.2 (by simp [zc, zU, va_rf]) hdg kk
theorem zg11_37 (C : zC p m c cc nL s args own D cy) (hH : zH D cy bs N kd len X Y R H) {i idx : Nat} (hi : i < N) (hk : kd i = 11) (hlk : Cond.fieldLink own idx RX11 "wholeMany" "I" ∈ zTB) (hdg : decode cc pc = .ok (.getfield idx, 3))
    (kk : W p l e R0 s m args below meth c H locs cells slots Q (F0 m (pc + 3) ls (.int (zI (X i 37)) :: rest))) : W p l e R0 s m args below meth c H locs cells slots Q (F0 m pc ls (.ref (bs + i) :: rest)) :=
  zd_get C hH hi hk rfl zin11 rfl 37 (by decide) hlk rfl hdg kk
theorem zp11_37 (C : zC p m c cc nL s args own D cy) (hH : zH D cy bs N kd len X Y R H) (hS : va_S (zA bs) H0 H locs) {i idx : Nat} (hi : i < N) (hk : kd i = 11) (hlk : Cond.fieldLink own idx RX11 "wholeMany" "I" ∈ zTB) {v : Int} (hv : rI v) (hdg : decode cc pc = .ok (.putfield idx, 3))
    (kk : ∀ (H1 : Heap) (locs1 : List Loc), zH D cy bs N kd len (zU X i 37 v) Y R H1 → va_S (zA bs) H0 H1 locs1 → W p l e R0 s m args below meth c H1 locs1 cells slots Q (F0 m (pc + 3) ls rest)) : W p l e R0 s m args below meth c H locs cells slots Q (F0 m pc ls (.int (zI v) :: .ref (bs + i) :: rest)) :=
  zd_put C hH hS hi hk rfl zin11 rfl tyX11 tyX11_ok nmX11 37 (by decide) hlk rfl (ty := .int) (by decide +kernel) rfl rfl (Nat.le_of_ble_eq_true rfl) (fun j hj => ⟨zU_o hj, rfl, rfl⟩) (zU_rI hH.2.2.1 hv) hH.2.2.2 (by simp [zc, zU, va_rf]) hdg kk
theorem zg11_38 (C : zC p m c cc nL s args own D cy) (hH : zH D cy bs N kd len X Y R H) {i idx : Nat} (hi : i < N) (hk : kd i = 11) (hlk : Cond.fieldLink own idx RX11 "since" "[I" ∈ zTB) {j : Nat} (hr : R i 38 = some j) (hdg : decode cc pc = .ok (.getfield idx, 3))
    (kk : W p l e R0 s m args below meth c H locs cells slots Q (F0 m (pc + 3) ls (.ref (bs + j) :: rest))) : W p l e R0 s m args below meth c H locs cells slots Q (F0 m pc ls (.ref (bs + i) :: rest)) := by
  refine zd_get C hH hi hk rfl zin11 rfl 38 (by decide) hlk rfl hdg ?_
  rw [hr]
  exact kk
theorem zp11_38 (C : zC p m c cc nL s args own D cy) (hH : zH D cy bs N kd len X Y R H) (hS : va_S (zA bs) H0 H locs) {i idx : Nat} (hi : i < N) (hk : kd i = 11) (hlk : Cond.fieldLink own idx RX11 "since" "[I" ∈ zTB) (hinit : meth.name = "<init>") (hdecl : RX11 = own) {v : Nat} (hdg : decode cc pc = .ok (.putfield idx, 3))
    (kk : ∀ (H1 : Heap) (locs1 : List Loc), zH D cy bs N kd len X Y (zU R i 38 (some v)) H1 → va_S (zA bs) H0 H1 locs1 → W p l e R0 s m args below meth c H1 locs1 cells slots Q (F0 m (pc + 3) ls rest)) : W p l e R0 s m args below meth c H locs cells slots Q (F0 m pc ls (.ref (bs + v) :: .ref (bs + i) :: rest)) :=
  zd_putF C hH hS hi hk rfl zin11 rfl tyX11 tyX11_ok nmX11 38 (by decide) hlk rfl hinit hdecl (ty := (tyX11 38)) (by decide +kernel) rfl rfl (Nat.le_of_ble_eq_true rfl) (fun j hj => ⟨rfl, rfl, zU_o hj⟩) hH.2.2.1 hH.2.2.2 (by simp [zc, zU, va_rf]) hdg kk
theorem zg11_39 (C : zC p m c cc nL s args own D cy) (hH : zH D cy bs N kd len X Y R H) {i idx : Nat} (hi : i < N) (hk : kd i = 11) (hlk : Cond.fieldLink own idx RX11 "subtree" "[J" ∈ zTB) {j : Nat} (hr : R i 39 = some j) (hdg : decode cc pc = .ok (.getfield idx, 3))
    (kk : W p l e R0 s m args below meth c H locs cells slots Q (F0 m (pc + 3) ls (.ref (bs + j) :: rest))) : W p l e R0 s m args below meth c H locs cells slots Q (F0 m pc ls (.ref (bs + i) :: rest)) := by
  refine zd_get C hH hi hk rfl zin11 rfl 39 (by decide) hlk rfl hdg ?_
  rw [hr]
  exact kk
theorem zp11_39 (C : zC p m c cc nL s args own D cy) (hH : zH D cy bs N kd len X Y R H) (hS : va_S (zA bs) H0 H locs) {i idx : Nat} (hi : i < N) (hk : kd i = 11) (hlk : Cond.fieldLink own idx RX11 "subtree" "[J" ∈ zTB) (hinit : meth.name = "<init>") (hdecl : RX11 = own) {v : Nat} (hdg : decode cc pc = .ok (.putfield idx, 3))
    (kk : ∀ (H1 : Heap) (locs1 : List Loc), zH D cy bs N kd len X Y (zU R i 39 (some v)) H1 → va_S (zA bs) H0 H1 locs1 → W p l e R0 s m args below meth c H1 locs1 cells slots Q (F0 m (pc + 3) ls rest)) : W p l e R0 s m args below meth c H locs cells slots Q (F0 m pc ls (.ref (bs + v) :: .ref (bs + i) :: rest)) :=
  zd_putF C hH hS hi hk rfl zin11 rfl tyX11 tyX11_ok nmX11 39 (by decide) hlk rfl hinit hdecl (ty := (tyX11 39)) (by decide +kernel) rfl rfl (Nat.le_of_ble_eq_true rfl) (fun j hj => ⟨rfl, rfl, zU_o hj⟩) hH.2.2.1 hH.2.2.2 (by simp [zc, zU, va_rf]) hdg kk
theorem zg11_40 (C : zC p m c cc nL s args own D cy) (hH : zH D cy bs N kd len X Y R H) {i idx : Nat} (hi : i < N) (hk : kd i = 11) (hlk : Cond.fieldLink own idx RX11 "feed" "I" ∈ zTB) (hdg : decode cc pc = .ok (.getfield idx, 3))
    (kk : W p l e R0 s m args below meth c H locs cells slots Q (F0 m (pc + 3) ls (.int (zI (X i 40)) :: rest))) : W p l e R0 s m args below meth c H locs cells slots Q (F0 m pc ls (.ref (bs + i) :: rest)) :=
  zd_get C hH hi hk rfl zin11 rfl 40 (by decide) hlk rfl hdg kk
theorem zp11_40 (C : zC p m c cc nL s args own D cy) (hH : zH D cy bs N kd len X Y R H) (hS : va_S (zA bs) H0 H locs) {i idx : Nat} (hi : i < N) (hk : kd i = 11) (hlk : Cond.fieldLink own idx RX11 "feed" "I" ∈ zTB) {v : Int} (hv : rI v) (hdg : decode cc pc = .ok (.putfield idx, 3))
    (kk : ∀ (H1 : Heap) (locs1 : List Loc), zH D cy bs N kd len (zU X i 40 v) Y R H1 → va_S (zA bs) H0 H1 locs1 → W p l e R0 s m args below meth c H1 locs1 cells slots Q (F0 m (pc + 3) ls rest)) : W p l e R0 s m args below meth c H locs cells slots Q (F0 m pc ls (.int (zI v) :: .ref (bs + i) :: rest)) :=
  zd_put C hH hS hi hk rfl zin11 rfl tyX11 tyX11_ok nmX11 40 (by decide) hlk rfl (ty := .int) (by decide +kernel) rfl rfl (Nat.le_of_ble_eq_true rfl) (fun j hj => ⟨zU_o hj, rfl, rfl⟩) (zU_rI hH.2.2.1 hv) hH.2.2.2 (by simp [zc, zU, va_rf]) hdg kk
theorem zg11_41 (C : zC p m c cc nL s args own D cy) (hH : zH D cy bs N kd len X Y R H) {i idx : Nat} (hi : i < N) (hk : kd i = 11) (hlk : Cond.fieldLink own idx RX11 "heads" "I" ∈ zTB) (hdg : decode cc pc = .ok (.getfield idx, 3))
    (kk : W p l e R0 s m args below meth c H locs cells slots Q (F0 m (pc + 3) ls (.int (zI (X i 41)) :: rest))) : W p l e R0 s m args below meth c H locs cells slots Q (F0 m pc ls (.ref (bs + i) :: rest)) :=
  zd_get C hH hi hk rfl zin11 rfl 41 (by decide) hlk rfl hdg kk
theorem zp11_41 (C : zC p m c cc nL s args own D cy) (hH : zH D cy bs N kd len X Y R H) (hS : va_S (zA bs) H0 H locs) {i idx : Nat} (hi : i < N) (hk : kd i = 11) (hlk : Cond.fieldLink own idx RX11 "heads" "I" ∈ zTB) {v : Int} (hv : rI v) (hdg : decode cc pc = .ok (.putfield idx, 3))
    (kk : ∀ (H1 : Heap) (locs1 : List Loc), zH D cy bs N kd len (zU X i 41 v) Y R H1 → va_S (zA bs) H0 H1 locs1 → W p l e R0 s m args below meth c H1 locs1 cells slots Q (F0 m (pc + 3) ls rest)) : W p l e R0 s m args below meth c H locs cells slots Q (F0 m pc ls (.int (zI v) :: .ref (bs + i) :: rest)) :=
  zd_put C hH hS hi hk rfl zin11 rfl tyX11 tyX11_ok nmX11 41 (by decide) hlk rfl (ty := .int) (by decide +kernel) rfl rfl (Nat.le_of_ble_eq_true rfl) (fun j hj => ⟨zU_o hj, rfl, rfl⟩) (zU_rI hH.2.2.1 hv) hH.2.2.2 (by simp [zc, zU, va_rf]) hdg kk
theorem zg11_42 (C : zC p m c cc nL s args own D cy) (hH : zH D cy bs N kd len X Y R H) {i idx : Nat} (hi : i < N) (hk : kd i = 11) (hlk : Cond.fieldLink own idx RX11 "bodies" "I" ∈ zTB) (hdg : decode cc pc = .ok (.getfield idx, 3))
    (kk : W p l e R0 s m args below meth c H locs cells slots Q (F0 m (pc + 3) ls (.int (zI (X i 42)) :: rest))) : W p l e R0 s m args below meth c H locs cells slots Q (F0 m pc ls (.ref (bs + i) :: rest)) :=
  zd_get C hH hi hk rfl zin11 rfl 42 (by decide) hlk rfl hdg kk
theorem zp11_42 (C : zC p m c cc nL s args own D cy) (hH : zH D cy bs N kd len X Y R H) (hS : va_S (zA bs) H0 H locs) {i idx : Nat} (hi : i < N) (hk : kd i = 11) (hlk : Cond.fieldLink own idx RX11 "bodies" "I" ∈ zTB) {v : Int} (hv : rI v) (hdg : decode cc pc = .ok (.putfield idx, 3))
    (kk : ∀ (H1 : Heap) (locs1 : List Loc), zH D cy bs N kd len (zU X i 42 v) Y R H1 → va_S (zA bs) H0 H1 locs1 → W p l e R0 s m args below meth c H1 locs1 cells slots Q (F0 m (pc + 3) ls rest)) : W p l e R0 s m args below meth c H locs cells slots Q (F0 m pc ls (.int (zI v) :: .ref (bs + i) :: rest)) :=
  zd_put C hH hS hi hk rfl zin11 rfl tyX11 tyX11_ok nmX11 42 (by decide) hlk rfl (ty := .int) (by decide +kernel) rfl rfl (Nat.le_of_ble_eq_true rfl) (fun j hj => ⟨zU_o hj, rfl, rfl⟩) (zU_rI hH.2.2.1 hv) hH.2.2.2 (by simp [zc, zU, va_rf]) hdg kk
theorem zg11_43 (C : zC p m c cc nL s args own D cy) (hH : zH D cy bs N kd len X Y R H) {i idx : Nat} (hi : i < N) (hk : kd i = 11) (hlk : Cond.fieldLink own idx RX11 "top" "I" ∈ zTB) (hdg : decode cc pc = .ok (.getfield idx, 3))
    (kk : W p l e R0 s m args below meth c H locs cells slots Q (F0 m (pc + 3) ls (.int (zI (X i 43)) :: rest))) : W p l e R0 s m args below meth c H locs cells slots Q (F0 m pc ls (.ref (bs + i) :: rest)) :=
  zd_get C hH hi hk rfl zin11 rfl 43 (by decide) hlk rfl hdg kk
theorem zp11_43 (C : zC p m c cc nL s args own D cy) (hH : zH D cy bs N kd len X Y R H) (hS : va_S (zA bs) H0 H locs) {i idx : Nat} (hi : i < N) (hk : kd i = 11) (hlk : Cond.fieldLink own idx RX11 "top" "I" ∈ zTB) {v : Int} (hv : rI v) (hdg : decode cc pc = .ok (.putfield idx, 3))
    (kk : ∀ (H1 : Heap) (locs1 : List Loc), zH D cy bs N kd len (zU X i 43 v) Y R H1 → va_S (zA bs) H0 H1 locs1 → W p l e R0 s m args below meth c H1 locs1 cells slots Q (F0 m (pc + 3) ls rest)) : W p l e R0 s m args below meth c H locs cells slots Q (F0 m pc ls (.int (zI v) :: .ref (bs + i) :: rest)) :=
  zd_put C hH hS hi hk rfl zin11 rfl tyX11 tyX11_ok nmX11 43 (by decide) hlk rfl (ty := .int) (by decide +kernel) rfl rfl (Nat.le_of_ble_eq_true rfl) (fun j hj => ⟨zU_o hj, rfl, rfl⟩) (zU_rI hH.2.2.1 hv) hH.2.2.2 (by simp [zc, zU, va_rf]) hdg kk
theorem zg11_44 (C : zC p m c cc nL s args own D cy) (hH : zH D cy bs N kd len X Y R H) {i idx : Nat} (hi : i < N) (hk : kd i = 11) (hlk : Cond.fieldLink own idx RX11 "undone" "I" ∈ zTB) (hdg : decode cc pc = .ok (.getfield idx, 3))
    (kk : W p l e R0 s m args below meth c H locs cells slots Q (F0 m (pc + 3) ls (.int (zI (X i 44)) :: rest))) : W p l e R0 s m args below meth c H locs cells slots Q (F0 m pc ls (.ref (bs + i) :: rest)) :=
  zd_get C hH hi hk rfl zin11 rfl 44 (by decide) hlk rfl hdg kk
theorem zp11_44 (C : zC p m c cc nL s args own D cy) (hH : zH D cy bs N kd len X Y R H) (hS : va_S (zA bs) H0 H locs) {i idx : Nat} (hi : i < N) (hk : kd i = 11) (hlk : Cond.fieldLink own idx RX11 "undone" "I" ∈ zTB) {v : Int} (hv : rI v) (hdg : decode cc pc = .ok (.putfield idx, 3))
    (kk : ∀ (H1 : Heap) (locs1 : List Loc), zH D cy bs N kd len (zU X i 44 v) Y R H1 → va_S (zA bs) H0 H1 locs1 → W p l e R0 s m args below meth c H1 locs1 cells slots Q (F0 m (pc + 3) ls rest)) : W p l e R0 s m args below meth c H locs cells slots Q (F0 m pc ls (.int (zI v) :: .ref (bs + i) :: rest)) :=
  zd_put C hH hS hi hk rfl zin11 rfl tyX11 tyX11_ok nmX11 44 (by decide) hlk rfl (ty := .int) (by decide +kernel) rfl rfl (Nat.le_of_ble_eq_true rfl) (fun j hj => ⟨zU_o hj, rfl, rfl⟩) (zU_rI hH.2.2.1 hv) hH.2.2.2 (by simp [zc, zU, va_rf]) hdg kk
theorem zg11_45 (C : zC p m c cc nL s args own D cy) (hH : zH D cy bs N kd len X Y R H) {i idx : Nat} (hi : i < N) (hk : kd i = 11) (hlk : Cond.fieldLink own idx RX11 "done" "I" ∈ zTB) (hdg : decode cc pc = .ok (.getfield idx, 3))
    (kk : W p l e R0 s m args below meth c H locs cells slots Q (F0 m (pc + 3) ls (.int (zI (X i 45)) :: rest))) : W p l e R0 s m args below meth c H locs cells slots Q (F0 m pc ls (.ref (bs + i) :: rest)) :=
  zd_get C hH hi hk rfl zin11 rfl 45 (by decide) hlk rfl hdg kk
theorem zp11_45 (C : zC p m c cc nL s args own D cy) (hH : zH D cy bs N kd len X Y R H) (hS : va_S (zA bs) H0 H locs) {i idx : Nat} (hi : i < N) (hk : kd i = 11) (hlk : Cond.fieldLink own idx RX11 "done" "I" ∈ zTB) {v : Int} (hv : rI v) (hdg : decode cc pc = .ok (.putfield idx, 3))
    (kk : ∀ (H1 : Heap) (locs1 : List Loc), zH D cy bs N kd len (zU X i 45 v) Y R H1 → va_S (zA bs) H0 H1 locs1 → W p l e R0 s m args below meth c H1 locs1 cells slots Q (F0 m (pc + 3) ls rest)) : W p l e R0 s m args below meth c H locs cells slots Q (F0 m pc ls (.int (zI v) :: .ref (bs + i) :: rest)) :=
  zd_put C hH hS hi hk rfl zin11 rfl tyX11 tyX11_ok nmX11 45 (by decide) hlk rfl (ty := .int) (by decide +kernel) rfl rfl (Nat.le_of_ble_eq_true rfl) (fun j hj => ⟨zU_o hj, rfl, rfl⟩) (zU_rI hH.2.2.1 hv) hH.2.2.2 (by simp [zc, zU, va_rf]) hdg kk
theorem zg11_46 (C : zC p m c cc nL s args own D cy) (hH : zH D cy bs N kd len X Y R H) {i idx : Nat} (hi : i < N) (hk : kd i = 11) (hlk : Cond.fieldLink own idx RX11 "switches" "I" ∈ zTB) (hdg : decode cc pc = .ok (.getfield idx, 3))
    (kk : W p l e R0 s m args below meth c H locs cells slots Q (F0 m (pc + 3) ls (.int (zI (X i 46)) :: rest))) : W p l e R0 s m args below meth c H locs cells slots Q (F0 m pc ls (.ref (bs + i) :: rest)) :=
  zd_get C hH hi hk rfl zin11 rfl 46 (by decide) hlk rfl hdg kk
theorem zp11_46 (C : zC p m c cc nL s args own D cy) (hH : zH D cy bs N kd len X Y R H) (hS : va_S (zA bs) H0 H locs) {i idx : Nat} (hi : i < N) (hk : kd i = 11) (hlk : Cond.fieldLink own idx RX11 "switches" "I" ∈ zTB) {v : Int} (hv : rI v) (hdg : decode cc pc = .ok (.putfield idx, 3))
    (kk : ∀ (H1 : Heap) (locs1 : List Loc), zH D cy bs N kd len (zU X i 46 v) Y R H1 → va_S (zA bs) H0 H1 locs1 → W p l e R0 s m args below meth c H1 locs1 cells slots Q (F0 m (pc + 3) ls rest)) : W p l e R0 s m args below meth c H locs cells slots Q (F0 m pc ls (.int (zI v) :: .ref (bs + i) :: rest)) :=
  zd_put C hH hS hi hk rfl zin11 rfl tyX11 tyX11_ok nmX11 46 (by decide) hlk rfl (ty := .int) (by decide +kernel) rfl rfl (Nat.le_of_ble_eq_true rfl) (fun j hj => ⟨zU_o hj, rfl, rfl⟩) (zU_rI hH.2.2.1 hv) hH.2.2.2 (by simp [zc, zU, va_rf]) hdg kk
theorem zg11_47 (C : zC p m c cc nL s args own D cy) (hH : zH D cy bs N kd len X Y R H) {i idx : Nat} (hi : i < N) (hk : kd i = 11) (hlk : Cond.fieldLink own idx RX11 "longest" "I" ∈ zTB) (hdg : decode cc pc = .ok (.getfield idx, 3))
    (kk : W p l e R0 s m args below meth c H locs cells slots Q (F0 m (pc + 3) ls (.int (zI (X i 47)) :: rest))) : W p l e R0 s m args below meth c H locs cells slots Q (F0 m pc ls (.ref (bs + i) :: rest)) :=
  zd_get C hH hi hk rfl zin11 rfl 47 (by decide) hlk rfl hdg kk
theorem zp11_47 (C : zC p m c cc nL s args own D cy) (hH : zH D cy bs N kd len X Y R H) (hS : va_S (zA bs) H0 H locs) {i idx : Nat} (hi : i < N) (hk : kd i = 11) (hlk : Cond.fieldLink own idx RX11 "longest" "I" ∈ zTB) {v : Int} (hv : rI v) (hdg : decode cc pc = .ok (.putfield idx, 3))
    (kk : ∀ (H1 : Heap) (locs1 : List Loc), zH D cy bs N kd len (zU X i 47 v) Y R H1 → va_S (zA bs) H0 H1 locs1 → W p l e R0 s m args below meth c H1 locs1 cells slots Q (F0 m (pc + 3) ls rest)) : W p l e R0 s m args below meth c H locs cells slots Q (F0 m pc ls (.int (zI v) :: .ref (bs + i) :: rest)) :=
  zd_put C hH hS hi hk rfl zin11 rfl tyX11 tyX11_ok nmX11 47 (by decide) hlk rfl (ty := .int) (by decide +kernel) rfl rfl (Nat.le_of_ble_eq_true rfl) (fun j hj => ⟨zU_o hj, rfl, rfl⟩) (zU_rI hH.2.2.1 hv) hH.2.2.2 (by simp [zc, zU, va_rf]) hdg kk
theorem zg11_48 (C : zC p m c cc nL s args own D cy) (hH : zH D cy bs N kd len X Y R H) {i idx : Nat} (hi : i < N) (hk : kd i = 11) (hlk : Cond.fieldLink own idx RX11 "pool" "I" ∈ zTB) (hdg : decode cc pc = .ok (.getfield idx, 3))
    (kk : W p l e R0 s m args below meth c H locs cells slots Q (F0 m (pc + 3) ls (.int (zI (X i 48)) :: rest))) : W p l e R0 s m args below meth c H locs cells slots Q (F0 m pc ls (.ref (bs + i) :: rest)) :=
  zd_get C hH hi hk rfl zin11 rfl 48 (by decide) hlk rfl hdg kk
theorem zp11_48 (C : zC p m c cc nL s args own D cy) (hH : zH D cy bs N kd len X Y R H) (hS : va_S (zA bs) H0 H locs) {i idx : Nat} (hi : i < N) (hk : kd i = 11) (hlk : Cond.fieldLink own idx RX11 "pool" "I" ∈ zTB) {v : Int} (hv : rI v) (hdg : decode cc pc = .ok (.putfield idx, 3))
    (kk : ∀ (H1 : Heap) (locs1 : List Loc), zH D cy bs N kd len (zU X i 48 v) Y R H1 → va_S (zA bs) H0 H1 locs1 → W p l e R0 s m args below meth c H1 locs1 cells slots Q (F0 m (pc + 3) ls rest)) : W p l e R0 s m args below meth c H locs cells slots Q (F0 m pc ls (.int (zI v) :: .ref (bs + i) :: rest)) :=
  zd_put C hH hS hi hk rfl zin11 rfl tyX11 tyX11_ok nmX11 48 (by decide) hlk rfl (ty := .int) (by decide +kernel) rfl rfl (Nat.le_of_ble_eq_true rfl) (fun j hj => ⟨zU_o hj, rfl, rfl⟩) (zU_rI hH.2.2.1 hv) hH.2.2.2 (by simp [zc, zU, va_rf]) hdg kk
theorem zg11_49 (C : zC p m c cc nL s args own D cy) (hH : zH D cy bs N kd len X Y R H) {i idx : Nat} (hi : i < N) (hk : kd i = 11) (hlk : Cond.fieldLink own idx RX11 "purse" "[I" ∈ zTB) {j : Nat} (hr : R i 49 = some j) (hdg : decode cc pc = .ok (.getfield idx, 3))
    (kk : W p l e R0 s m args below meth c H locs cells slots Q (F0 m (pc + 3) ls (.ref (bs + j) :: rest))) : W p l e R0 s m args below meth c H locs cells slots Q (F0 m pc ls (.ref (bs + i) :: rest)) := by
  refine zd_get C hH hi hk rfl zin11 rfl 49 (by decide) hlk rfl hdg ?_
  rw [hr]
  exact kk
theorem zp11_49 (C : zC p m c cc nL s args own D cy) (hH : zH D cy bs N kd len X Y R H) (hS : va_S (zA bs) H0 H locs) {i idx : Nat} (hi : i < N) (hk : kd i = 11) (hlk : Cond.fieldLink own idx RX11 "purse" "[I" ∈ zTB) (hinit : meth.name = "<init>") (hdecl : RX11 = own) {v : Nat} (hdg : decode cc pc = .ok (.putfield idx, 3))
    (kk : ∀ (H1 : Heap) (locs1 : List Loc), zH D cy bs N kd len X Y (zU R i 49 (some v)) H1 → va_S (zA bs) H0 H1 locs1 → W p l e R0 s m args below meth c H1 locs1 cells slots Q (F0 m (pc + 3) ls rest)) : W p l e R0 s m args below meth c H locs cells slots Q (F0 m pc ls (.ref (bs + v) :: .ref (bs + i) :: rest)) :=
  zd_putF C hH hS hi hk rfl zin11 rfl tyX11 tyX11_ok nmX11 49 (by decide) hlk rfl hinit hdecl (ty := (tyX11 49)) (by decide +kernel) rfl rfl (Nat.le_of_ble_eq_true rfl) (fun j hj => ⟨rfl, rfl, zU_o hj⟩) hH.2.2.1 hH.2.2.2 (by simp [zc, zU, va_rf]) hdg kk
theorem zg11_50 (C : zC p m c cc nL s args own D cy) (hH : zH D cy bs N kd len X Y R H) {i idx : Nat} (hi : i < N) (hk : kd i = 11) (hlk : Cond.fieldLink own idx RX11 "row" "[I" ∈ zTB) {j : Nat} (hr : R i 50 = some j) (hdg : decode cc pc = .ok (.getfield idx, 3))
    (kk : W p l e R0 s m args below meth c H locs cells slots Q (F0 m (pc + 3) ls (.ref (bs + j) :: rest))) : W p l e R0 s m args below meth c H locs cells slots Q (F0 m pc ls (.ref (bs + i) :: rest)) := by
  refine zd_get C hH hi hk rfl zin11 rfl 50 (by decide) hlk rfl hdg ?_
  rw [hr]
  exact kk
theorem zp11_50 (C : zC p m c cc nL s args own D cy) (hH : zH D cy bs N kd len X Y R H) (hS : va_S (zA bs) H0 H locs) {i idx : Nat} (hi : i < N) (hk : kd i = 11) (hlk : Cond.fieldLink own idx RX11 "row" "[I" ∈ zTB) (hinit : meth.name = "<init>") (hdecl : RX11 = own) {v : Nat} (hdg : decode cc pc = .ok (.putfield idx, 3))
    (kk : ∀ (H1 : Heap) (locs1 : List Loc), zH D cy bs N kd len X Y (zU R i 50 (some v)) H1 → va_S (zA bs) H0 H1 locs1 → W p l e R0 s m args below meth c H1 locs1 cells slots Q (F0 m (pc + 3) ls rest)) : W p l e R0 s m args below meth c H locs cells slots Q (F0 m pc ls (.ref (bs + v) :: .ref (bs + i) :: rest)) :=
  zd_putF C hH hS hi hk rfl zin11 rfl tyX11 tyX11_ok nmX11 50 (by decide) hlk rfl hinit hdecl (ty := (tyX11 50)) (by decide +kernel) rfl rfl (Nat.le_of_ble_eq_true rfl) (fun j hj => ⟨rfl, rfl, zU_o hj⟩) hH.2.2.1 hH.2.2.2 (by simp [zc, zU, va_rf]) hdg kk
theorem zg11_51 (C : zC p m c cc nL s args own D cy) (hH : zH D cy bs N kd len X Y R H) {i idx : Nat} (hi : i < N) (hk : kd i = 11) (hlk : Cond.fieldLink own idx RX11 "bestLong" "I" ∈ zTB) (hdg : decode cc pc = .ok (.getfield idx, 3))
    (kk : W p l e R0 s m args below meth c H locs cells slots Q (F0 m (pc + 3) ls (.int (zI (X i 51)) :: rest))) : W p l e R0 s m args below meth c H locs cells slots Q (F0 m pc ls (.ref (bs + i) :: rest)) :=
  zd_get C hH hi hk rfl zin11 rfl 51 (by decide) hlk rfl hdg kk
theorem zp11_51 (C : zC p m c cc nL s args own D cy) (hH : zH D cy bs N kd len X Y R H) (hS : va_S (zA bs) H0 H locs) {i idx : Nat} (hi : i < N) (hk : kd i = 11) (hlk : Cond.fieldLink own idx RX11 "bestLong" "I" ∈ zTB) {v : Int} (hv : rI v) (hdg : decode cc pc = .ok (.putfield idx, 3))
    (kk : ∀ (H1 : Heap) (locs1 : List Loc), zH D cy bs N kd len (zU X i 51 v) Y R H1 → va_S (zA bs) H0 H1 locs1 → W p l e R0 s m args below meth c H1 locs1 cells slots Q (F0 m (pc + 3) ls rest)) : W p l e R0 s m args below meth c H locs cells slots Q (F0 m pc ls (.int (zI v) :: .ref (bs + i) :: rest)) :=
  zd_put C hH hS hi hk rfl zin11 rfl tyX11 tyX11_ok nmX11 51 (by decide) hlk rfl (ty := .int) (by decide +kernel) rfl rfl (Nat.le_of_ble_eq_true rfl) (fun j hj => ⟨zU_o hj, rfl, rfl⟩) (zU_rI hH.2.2.1 hv) hH.2.2.2 (by simp [zc, zU, va_rf]) hdg kk
theorem zg11_52 (C : zC p m c cc nL s args own D cy) (hH : zH D cy bs N kd len X Y R H) {i idx : Nat} (hi : i < N) (hk : kd i = 11) (hlk : Cond.fieldLink own idx RX11 "bestNumber" "I" ∈ zTB) (hdg : decode cc pc = .ok (.getfield idx, 3))
    (kk : W p l e R0 s m args below meth c H locs cells slots Q (F0 m (pc + 3) ls (.int (zI (X i 52)) :: rest))) : W p l e R0 s m args below meth c H locs cells slots Q (F0 m pc ls (.ref (bs + i) :: rest)) :=
  zd_get C hH hi hk rfl zin11 rfl 52 (by decide) hlk rfl hdg kk
theorem zp11_52 (C : zC p m c cc nL s args own D cy) (hH : zH D cy bs N kd len X Y R H) (hS : va_S (zA bs) H0 H locs) {i idx : Nat} (hi : i < N) (hk : kd i = 11) (hlk : Cond.fieldLink own idx RX11 "bestNumber" "I" ∈ zTB) {v : Int} (hv : rI v) (hdg : decode cc pc = .ok (.putfield idx, 3))
    (kk : ∀ (H1 : Heap) (locs1 : List Loc), zH D cy bs N kd len (zU X i 52 v) Y R H1 → va_S (zA bs) H0 H1 locs1 → W p l e R0 s m args below meth c H1 locs1 cells slots Q (F0 m (pc + 3) ls rest)) : W p l e R0 s m args below meth c H locs cells slots Q (F0 m pc ls (.int (zI v) :: .ref (bs + i) :: rest)) :=
  zd_put C hH hS hi hk rfl zin11 rfl tyX11 tyX11_ok nmX11 52 (by decide) hlk rfl (ty := .int) (by decide +kernel) rfl rfl (Nat.le_of_ble_eq_true rfl) (fun j hj => ⟨zU_o hj, rfl, rfl⟩) (zU_rI hH.2.2.1 hv) hH.2.2.2 (by simp [zc, zU, va_rf]) hdg kk
theorem zg11_53 (C : zC p m c cc nL s args own D cy) (hH : zH D cy bs N kd len X Y R H) {i idx : Nat} (hi : i < N) (hk : kd i = 11) (hlk : Cond.fieldLink own idx RX11 "far" "[J" ∈ zTB) {j : Nat} (hr : R i 53 = some j) (hdg : decode cc pc = .ok (.getfield idx, 3))
    (kk : W p l e R0 s m args below meth c H locs cells slots Q (F0 m (pc + 3) ls (.ref (bs + j) :: rest))) : W p l e R0 s m args below meth c H locs cells slots Q (F0 m pc ls (.ref (bs + i) :: rest)) := by
  refine zd_get C hH hi hk rfl zin11 rfl 53 (by decide) hlk rfl hdg ?_
  rw [hr]
  exact kk
theorem zp11_53 (C : zC p m c cc nL s args own D cy) (hH : zH D cy bs N kd len X Y R H) (hS : va_S (zA bs) H0 H locs) {i idx : Nat} (hi : i < N) (hk : kd i = 11) (hlk : Cond.fieldLink own idx RX11 "far" "[J" ∈ zTB) (hinit : meth.name = "<init>") (hdecl : RX11 = own) {v : Nat} (hdg : decode cc pc = .ok (.putfield idx, 3))
    (kk : ∀ (H1 : Heap) (locs1 : List Loc), zH D cy bs N kd len X Y (zU R i 53 (some v)) H1 → va_S (zA bs) H0 H1 locs1 → W p l e R0 s m args below meth c H1 locs1 cells slots Q (F0 m (pc + 3) ls rest)) : W p l e R0 s m args below meth c H locs cells slots Q (F0 m pc ls (.ref (bs + v) :: .ref (bs + i) :: rest)) :=
  zd_putF C hH hS hi hk rfl zin11 rfl tyX11 tyX11_ok nmX11 53 (by decide) hlk rfl hinit hdecl (ty := (tyX11 53)) (by decide +kernel) rfl rfl (Nat.le_of_ble_eq_true rfl) (fun j hj => ⟨rfl, rfl, zU_o hj⟩) hH.2.2.1 hH.2.2.2 (by simp [zc, zU, va_rf]) hdg kk
theorem zg11_54 (C : zC p m c cc nL s args own D cy) (hH : zH D cy bs N kd len X Y R H) {i idx : Nat} (hi : i < N) (hk : kd i = 11) (hlk : Cond.fieldLink own idx RX11 "farNext" "[J" ∈ zTB) {j : Nat} (hr : R i 54 = some j) (hdg : decode cc pc = .ok (.getfield idx, 3))
    (kk : W p l e R0 s m args below meth c H locs cells slots Q (F0 m (pc + 3) ls (.ref (bs + j) :: rest))) : W p l e R0 s m args below meth c H locs cells slots Q (F0 m pc ls (.ref (bs + i) :: rest)) := by
  refine zd_get C hH hi hk rfl zin11 rfl 54 (by decide) hlk rfl hdg ?_
  rw [hr]
  exact kk
theorem zp11_54 (C : zC p m c cc nL s args own D cy) (hH : zH D cy bs N kd len X Y R H) (hS : va_S (zA bs) H0 H locs) {i idx : Nat} (hi : i < N) (hk : kd i = 11) (hlk : Cond.fieldLink own idx RX11 "farNext" "[J" ∈ zTB) (hinit : meth.name = "<init>") (hdecl : RX11 = own) {v : Nat} (hdg : decode cc pc = .ok (.putfield idx, 3))
    (kk : ∀ (H1 : Heap) (locs1 : List Loc), zH D cy bs N kd len X Y (zU R i 54 (some v)) H1 → va_S (zA bs) H0 H1 locs1 → W p l e R0 s m args below meth c H1 locs1 cells slots Q (F0 m (pc + 3) ls rest)) : W p l e R0 s m args below meth c H locs cells slots Q (F0 m pc ls (.ref (bs + v) :: .ref (bs + i) :: rest)) :=
  zd_putF C hH hS hi hk rfl zin11 rfl tyX11 tyX11_ok nmX11 54 (by decide) hlk rfl hinit hdecl (ty := (tyX11 54)) (by decide +kernel) rfl rfl (Nat.le_of_ble_eq_true rfl) (fun j hj => ⟨rfl, rfl, zU_o hj⟩) hH.2.2.1 hH.2.2.2 (by simp [zc, zU, va_rf]) hdg kk
theorem zg11_55 (C : zC p m c cc nL s args own D cy) (hH : zH D cy bs N kd len X Y R H) {i idx : Nat} (hi : i < N) (hk : kd i = 11) (hlk : Cond.fieldLink own idx RX11 "log" "I" ∈ zTB) (hdg : decode cc pc = .ok (.getfield idx, 3))
    (kk : W p l e R0 s m args below meth c H locs cells slots Q (F0 m (pc + 3) ls (.int (zI (X i 55)) :: rest))) : W p l e R0 s m args below meth c H locs cells slots Q (F0 m pc ls (.ref (bs + i) :: rest)) :=
  zd_get C hH hi hk rfl zin11 rfl 55 (by decide) hlk rfl hdg kk
theorem zp11_55 (C : zC p m c cc nL s args own D cy) (hH : zH D cy bs N kd len X Y R H) (hS : va_S (zA bs) H0 H locs) {i idx : Nat} (hi : i < N) (hk : kd i = 11) (hlk : Cond.fieldLink own idx RX11 "log" "I" ∈ zTB) {v : Int} (hv : rI v) (hdg : decode cc pc = .ok (.putfield idx, 3))
    (kk : ∀ (H1 : Heap) (locs1 : List Loc), zH D cy bs N kd len (zU X i 55 v) Y R H1 → va_S (zA bs) H0 H1 locs1 → W p l e R0 s m args below meth c H1 locs1 cells slots Q (F0 m (pc + 3) ls rest)) : W p l e R0 s m args below meth c H locs cells slots Q (F0 m pc ls (.int (zI v) :: .ref (bs + i) :: rest)) :=
  zd_put C hH hS hi hk rfl zin11 rfl tyX11 tyX11_ok nmX11 55 (by decide) hlk rfl (ty := .int) (by decide +kernel) rfl rfl (Nat.le_of_ble_eq_true rfl) (fun j hj => ⟨zU_o hj, rfl, rfl⟩) (zU_rI hH.2.2.1 hv) hH.2.2.2 (by simp [zc, zU, va_rf]) hdg kk
theorem zg11_56 (C : zC p m c cc nL s args own D cy) (hH : zH D cy bs N kd len X Y R H) {i idx : Nat} (hi : i < N) (hk : kd i = 11) (hlk : Cond.fieldLink own idx RX11 "found" "I" ∈ zTB) (hdg : decode cc pc = .ok (.getfield idx, 3))
    (kk : W p l e R0 s m args below meth c H locs cells slots Q (F0 m (pc + 3) ls (.int (zI (X i 56)) :: rest))) : W p l e R0 s m args below meth c H locs cells slots Q (F0 m pc ls (.ref (bs + i) :: rest)) :=
  zd_get C hH hi hk rfl zin11 rfl 56 (by decide) hlk rfl hdg kk
theorem zp11_56 (C : zC p m c cc nL s args own D cy) (hH : zH D cy bs N kd len X Y R H) (hS : va_S (zA bs) H0 H locs) {i idx : Nat} (hi : i < N) (hk : kd i = 11) (hlk : Cond.fieldLink own idx RX11 "found" "I" ∈ zTB) {v : Int} (hv : rI v) (hdg : decode cc pc = .ok (.putfield idx, 3))
    (kk : ∀ (H1 : Heap) (locs1 : List Loc), zH D cy bs N kd len (zU X i 56 v) Y R H1 → va_S (zA bs) H0 H1 locs1 → W p l e R0 s m args below meth c H1 locs1 cells slots Q (F0 m (pc + 3) ls rest)) : W p l e R0 s m args below meth c H locs cells slots Q (F0 m pc ls (.int (zI v) :: .ref (bs + i) :: rest)) :=
  zd_put C hH hS hi hk rfl zin11 rfl tyX11 tyX11_ok nmX11 56 (by decide) hlk rfl (ty := .int) (by decide +kernel) rfl rfl (Nat.le_of_ble_eq_true rfl) (fun j hj => ⟨zU_o hj, rfl, rfl⟩) (zU_rI hH.2.2.1 hv) hH.2.2.2 (by simp [zc, zU, va_rf]) hdg kk
theorem zg11_57 (C : zC p m c cc nL s args own D cy) (hH : zH D cy bs N kd len X Y R H) {i idx : Nat} (hi : i < N) (hk : kd i = 11) (hlk : Cond.fieldLink own idx RX11 "asked" "I" ∈ zTB) (hdg : decode cc pc = .ok (.getfield idx, 3))
    (kk : W p l e R0 s m args below meth c H locs cells slots Q (F0 m (pc + 3) ls (.int (zI (X i 57)) :: rest))) : W p l e R0 s m args below meth c H locs cells slots Q (F0 m pc ls (.ref (bs + i) :: rest)) :=
  zd_get C hH hi hk rfl zin11 rfl 57 (by decide) hlk rfl hdg kk
theorem zp11_57 (C : zC p m c cc nL s args own D cy) (hH : zH D cy bs N kd len X Y R H) (hS : va_S (zA bs) H0 H locs) {i idx : Nat} (hi : i < N) (hk : kd i = 11) (hlk : Cond.fieldLink own idx RX11 "asked" "I" ∈ zTB) {v : Int} (hv : rI v) (hdg : decode cc pc = .ok (.putfield idx, 3))
    (kk : ∀ (H1 : Heap) (locs1 : List Loc), zH D cy bs N kd len (zU X i 57 v) Y R H1 → va_S (zA bs) H0 H1 locs1 → W p l e R0 s m args below meth c H1 locs1 cells slots Q (F0 m (pc + 3) ls rest)) : W p l e R0 s m args below meth c H locs cells slots Q (F0 m pc ls (.int (zI v) :: .ref (bs + i) :: rest)) :=
  zd_put C hH hS hi hk rfl zin11 rfl tyX11 tyX11_ok nmX11 57 (by decide) hlk rfl (ty := .int) (by decide +kernel) rfl rfl (Nat.le_of_ble_eq_true rfl) (fun j hj => ⟨zU_o hj, rfl, rfl⟩) (zU_rI hH.2.2.1 hv) hH.2.2.2 (by simp [zc, zU, va_rf]) hdg kk
theorem zg11_58 (C : zC p m c cc nL s args own D cy) (hH : zH D cy bs N kd len X Y R H) {i idx : Nat} (hi : i < N) (hk : kd i = 11) (hlk : Cond.fieldLink own idx RX11 "rules" "I" ∈ zTB) (hdg : decode cc pc = .ok (.getfield idx, 3))
    (kk : W p l e R0 s m args below meth c H locs cells slots Q (F0 m (pc + 3) ls (.int (zI (X i 58)) :: rest))) : W p l e R0 s m args below meth c H locs cells slots Q (F0 m pc ls (.ref (bs + i) :: rest)) :=
  zd_get C hH hi hk rfl zin11 rfl 58 (by decide) hlk rfl hdg kk
theorem zp11_58 (C : zC p m c cc nL s args own D cy) (hH : zH D cy bs N kd len X Y R H) (hS : va_S (zA bs) H0 H locs) {i idx : Nat} (hi : i < N) (hk : kd i = 11) (hlk : Cond.fieldLink own idx RX11 "rules" "I" ∈ zTB) {v : Int} (hv : rI v) (hdg : decode cc pc = .ok (.putfield idx, 3))
    (kk : ∀ (H1 : Heap) (locs1 : List Loc), zH D cy bs N kd len (zU X i 58 v) Y R H1 → va_S (zA bs) H0 H1 locs1 → W p l e R0 s m args below meth c H1 locs1 cells slots Q (F0 m (pc + 3) ls rest)) : W p l e R0 s m args below meth c H locs cells slots Q (F0 m pc ls (.int (zI v) :: .ref (bs + i) :: rest)) :=
  zd_put C hH hS hi hk rfl zin11 rfl tyX11 tyX11_ok nmX11 58 (by decide) hlk rfl (ty := .int) (by decide +kernel) rfl rfl (Nat.le_of_ble_eq_true rfl) (fun j hj => ⟨zU_o hj, rfl, rfl⟩) (zU_rI hH.2.2.1 hv) hH.2.2.2 (by simp [zc, zU, va_rf]) hdg kk
theorem zg11_59 (C : zC p m c cc nL s args own D cy) (hH : zH D cy bs N kd len X Y R H) {i idx : Nat} (hi : i < N) (hk : kd i = 11) (hlk : Cond.fieldLink own idx RX11 "ties" "I" ∈ zTB) (hdg : decode cc pc = .ok (.getfield idx, 3))
    (kk : W p l e R0 s m args below meth c H locs cells slots Q (F0 m (pc + 3) ls (.int (zI (X i 59)) :: rest))) : W p l e R0 s m args below meth c H locs cells slots Q (F0 m pc ls (.ref (bs + i) :: rest)) :=
  zd_get C hH hi hk rfl zin11 rfl 59 (by decide) hlk rfl hdg kk
theorem zp11_59 (C : zC p m c cc nL s args own D cy) (hH : zH D cy bs N kd len X Y R H) (hS : va_S (zA bs) H0 H locs) {i idx : Nat} (hi : i < N) (hk : kd i = 11) (hlk : Cond.fieldLink own idx RX11 "ties" "I" ∈ zTB) {v : Int} (hv : rI v) (hdg : decode cc pc = .ok (.putfield idx, 3))
    (kk : ∀ (H1 : Heap) (locs1 : List Loc), zH D cy bs N kd len (zU X i 59 v) Y R H1 → va_S (zA bs) H0 H1 locs1 → W p l e R0 s m args below meth c H1 locs1 cells slots Q (F0 m (pc + 3) ls rest)) : W p l e R0 s m args below meth c H locs cells slots Q (F0 m pc ls (.int (zI v) :: .ref (bs + i) :: rest)) :=
  zd_put C hH hS hi hk rfl zin11 rfl tyX11 tyX11_ok nmX11 59 (by decide) hlk rfl (ty := .int) (by decide +kernel) rfl rfl (Nat.le_of_ble_eq_true rfl) (fun j hj => ⟨zU_o hj, rfl, rfl⟩) (zU_rI hH.2.2.1 hv) hH.2.2.2 (by simp [zc, zU, va_rf]) hdg kk
theorem zg11_60 (C : zC p m c cc nL s args own D cy) (hH : zH D cy bs N kd len X Y R H) {i idx : Nat} (hi : i < N) (hk : kd i = 11) (hlk : Cond.fieldLink own idx RX11 "steps" "I" ∈ zTB) (hdg : decode cc pc = .ok (.getfield idx, 3))
    (kk : W p l e R0 s m args below meth c H locs cells slots Q (F0 m (pc + 3) ls (.int (zI (X i 60)) :: rest))) : W p l e R0 s m args below meth c H locs cells slots Q (F0 m pc ls (.ref (bs + i) :: rest)) :=
  zd_get C hH hi hk rfl zin11 rfl 60 (by decide) hlk rfl hdg kk
theorem zp11_60 (C : zC p m c cc nL s args own D cy) (hH : zH D cy bs N kd len X Y R H) (hS : va_S (zA bs) H0 H locs) {i idx : Nat} (hi : i < N) (hk : kd i = 11) (hlk : Cond.fieldLink own idx RX11 "steps" "I" ∈ zTB) {v : Int} (hv : rI v) (hdg : decode cc pc = .ok (.putfield idx, 3))
    (kk : ∀ (H1 : Heap) (locs1 : List Loc), zH D cy bs N kd len (zU X i 60 v) Y R H1 → va_S (zA bs) H0 H1 locs1 → W p l e R0 s m args below meth c H1 locs1 cells slots Q (F0 m (pc + 3) ls rest)) : W p l e R0 s m args below meth c H locs cells slots Q (F0 m pc ls (.int (zI v) :: .ref (bs + i) :: rest)) :=
  zd_put C hH hS hi hk rfl zin11 rfl tyX11 tyX11_ok nmX11 60 (by decide) hlk rfl (ty := .int) (by decide +kernel) rfl rfl (Nat.le_of_ble_eq_true rfl) (fun j hj => ⟨zU_o hj, rfl, rfl⟩) (zU_rI hH.2.2.1 hv) hH.2.2.2 (by simp [zc, zU, va_rf]) hdg kk
theorem zg11_61 (C : zC p m c cc nL s args own D cy) (hH : zH D cy bs N kd len X Y R H) {i idx : Nat} (hi : i < N) (hk : kd i = 11) (hlk : Cond.fieldLink own idx RX11 "ruleOnes" "I" ∈ zTB) (hdg : decode cc pc = .ok (.getfield idx, 3))
    (kk : W p l e R0 s m args below meth c H locs cells slots Q (F0 m (pc + 3) ls (.int (zI (X i 61)) :: rest))) : W p l e R0 s m args below meth c H locs cells slots Q (F0 m pc ls (.ref (bs + i) :: rest)) :=
  zd_get C hH hi hk rfl zin11 rfl 61 (by decide) hlk rfl hdg kk
theorem zp11_61 (C : zC p m c cc nL s args own D cy) (hH : zH D cy bs N kd len X Y R H) (hS : va_S (zA bs) H0 H locs) {i idx : Nat} (hi : i < N) (hk : kd i = 11) (hlk : Cond.fieldLink own idx RX11 "ruleOnes" "I" ∈ zTB) {v : Int} (hv : rI v) (hdg : decode cc pc = .ok (.putfield idx, 3))
    (kk : ∀ (H1 : Heap) (locs1 : List Loc), zH D cy bs N kd len (zU X i 61 v) Y R H1 → va_S (zA bs) H0 H1 locs1 → W p l e R0 s m args below meth c H1 locs1 cells slots Q (F0 m (pc + 3) ls rest)) : W p l e R0 s m args below meth c H locs cells slots Q (F0 m pc ls (.int (zI v) :: .ref (bs + i) :: rest)) :=
  zd_put C hH hS hi hk rfl zin11 rfl tyX11 tyX11_ok nmX11 61 (by decide) hlk rfl (ty := .int) (by decide +kernel) rfl rfl (Nat.le_of_ble_eq_true rfl) (fun j hj => ⟨zU_o hj, rfl, rfl⟩) (zU_rI hH.2.2.1 hv) hH.2.2.2 (by simp [zc, zU, va_rf]) hdg kk
theorem zg11_62 (C : zC p m c cc nL s args own D cy) (hH : zH D cy bs N kd len X Y R H) {i idx : Nat} (hi : i < N) (hk : kd i = 11) (hlk : Cond.fieldLink own idx RX11 "tipAt" "[I" ∈ zTB) {j : Nat} (hr : R i 62 = some j) (hdg : decode cc pc = .ok (.getfield idx, 3))
    (kk : W p l e R0 s m args below meth c H locs cells slots Q (F0 m (pc + 3) ls (.ref (bs + j) :: rest))) : W p l e R0 s m args below meth c H locs cells slots Q (F0 m pc ls (.ref (bs + i) :: rest)) := by
  refine zd_get C hH hi hk rfl zin11 rfl 62 (by decide) hlk rfl hdg ?_
  rw [hr]
  exact kk
theorem zp11_62 (C : zC p m c cc nL s args own D cy) (hH : zH D cy bs N kd len X Y R H) (hS : va_S (zA bs) H0 H locs) {i idx : Nat} (hi : i < N) (hk : kd i = 11) (hlk : Cond.fieldLink own idx RX11 "tipAt" "[I" ∈ zTB) (hinit : meth.name = "<init>") (hdecl : RX11 = own) {v : Nat} (hdg : decode cc pc = .ok (.putfield idx, 3))
    (kk : ∀ (H1 : Heap) (locs1 : List Loc), zH D cy bs N kd len X Y (zU R i 62 (some v)) H1 → va_S (zA bs) H0 H1 locs1 → W p l e R0 s m args below meth c H1 locs1 cells slots Q (F0 m (pc + 3) ls rest)) : W p l e R0 s m args below meth c H locs cells slots Q (F0 m pc ls (.ref (bs + v) :: .ref (bs + i) :: rest)) :=
  zd_putF C hH hS hi hk rfl zin11 rfl tyX11 tyX11_ok nmX11 62 (by decide) hlk rfl hinit hdecl (ty := (tyX11 62)) (by decide +kernel) rfl rfl (Nat.le_of_ble_eq_true rfl) (fun j hj => ⟨rfl, rfl, zU_o hj⟩) hH.2.2.1 hH.2.2.2 (by simp [zc, zU, va_rf]) hdg kk
theorem zg11_63 (C : zC p m c cc nL s args own D cy) (hH : zH D cy bs N kd len X Y R H) {i idx : Nat} (hi : i < N) (hk : kd i = 11) (hlk : Cond.fieldLink own idx RX11 "seen" "[I" ∈ zTB) {j : Nat} (hr : R i 63 = some j) (hdg : decode cc pc = .ok (.getfield idx, 3))
    (kk : W p l e R0 s m args below meth c H locs cells slots Q (F0 m (pc + 3) ls (.ref (bs + j) :: rest))) : W p l e R0 s m args below meth c H locs cells slots Q (F0 m pc ls (.ref (bs + i) :: rest)) := by
  refine zd_get C hH hi hk rfl zin11 rfl 63 (by decide) hlk rfl hdg ?_
  rw [hr]
  exact kk
theorem zp11_63 (C : zC p m c cc nL s args own D cy) (hH : zH D cy bs N kd len X Y R H) (hS : va_S (zA bs) H0 H locs) {i idx : Nat} (hi : i < N) (hk : kd i = 11) (hlk : Cond.fieldLink own idx RX11 "seen" "[I" ∈ zTB) (hinit : meth.name = "<init>") (hdecl : RX11 = own) {v : Nat} (hdg : decode cc pc = .ok (.putfield idx, 3))
    (kk : ∀ (H1 : Heap) (locs1 : List Loc), zH D cy bs N kd len X Y (zU R i 63 (some v)) H1 → va_S (zA bs) H0 H1 locs1 → W p l e R0 s m args below meth c H1 locs1 cells slots Q (F0 m (pc + 3) ls rest)) : W p l e R0 s m args below meth c H locs cells slots Q (F0 m pc ls (.ref (bs + v) :: .ref (bs + i) :: rest)) :=
  zd_putF C hH hS hi hk rfl zin11 rfl tyX11 tyX11_ok nmX11 63 (by decide) hlk rfl hinit hdecl (ty := (tyX11 63)) (by decide +kernel) rfl rfl (Nat.le_of_ble_eq_true rfl) (fun j hj => ⟨rfl, rfl, zU_o hj⟩) hH.2.2.1 hH.2.2.2 (by simp [zc, zU, va_rf]) hdg kk
theorem zg11_64 (C : zC p m c cc nL s args own D cy) (hH : zH D cy bs N kd len X Y R H) {i idx : Nat} (hi : i < N) (hk : kd i = 11) (hlk : Cond.fieldLink own idx RX11 "seed" "I" ∈ zTB) (hdg : decode cc pc = .ok (.getfield idx, 3))
    (kk : W p l e R0 s m args below meth c H locs cells slots Q (F0 m (pc + 3) ls (.int (zI (X i 64)) :: rest))) : W p l e R0 s m args below meth c H locs cells slots Q (F0 m pc ls (.ref (bs + i) :: rest)) :=
  zd_get C hH hi hk rfl zin11 rfl 64 (by decide) hlk rfl hdg kk
theorem zp11_64 (C : zC p m c cc nL s args own D cy) (hH : zH D cy bs N kd len X Y R H) (hS : va_S (zA bs) H0 H locs) {i idx : Nat} (hi : i < N) (hk : kd i = 11) (hlk : Cond.fieldLink own idx RX11 "seed" "I" ∈ zTB) {v : Int} (hv : rI v) (hdg : decode cc pc = .ok (.putfield idx, 3))
    (kk : ∀ (H1 : Heap) (locs1 : List Loc), zH D cy bs N kd len (zU X i 64 v) Y R H1 → va_S (zA bs) H0 H1 locs1 → W p l e R0 s m args below meth c H1 locs1 cells slots Q (F0 m (pc + 3) ls rest)) : W p l e R0 s m args below meth c H locs cells slots Q (F0 m pc ls (.int (zI v) :: .ref (bs + i) :: rest)) :=
  zd_put C hH hS hi hk rfl zin11 rfl tyX11 tyX11_ok nmX11 64 (by decide) hlk rfl (ty := .int) (by decide +kernel) rfl rfl (Nat.le_of_ble_eq_true rfl) (fun j hj => ⟨zU_o hj, rfl, rfl⟩) (zU_rI hH.2.2.1 hv) hH.2.2.2 (by simp [zc, zU, va_rf]) hdg kk
theorem zg11_65 (C : zC p m c cc nL s args own D cy) (hH : zH D cy bs N kd len X Y R H) {i idx : Nat} (hi : i < N) (hk : kd i = 11) (hlk : Cond.fieldLink own idx RX11 "saved" "[Z" ∈ zTB) {j : Nat} (hr : R i 65 = some j) (hdg : decode cc pc = .ok (.getfield idx, 3))
    (kk : W p l e R0 s m args below meth c H locs cells slots Q (F0 m (pc + 3) ls (.ref (bs + j) :: rest))) : W p l e R0 s m args below meth c H locs cells slots Q (F0 m pc ls (.ref (bs + i) :: rest)) := by
  refine zd_get C hH hi hk rfl zin11 rfl 65 (by decide) hlk rfl hdg ?_
  rw [hr]
  exact kk
theorem zp11_65 (C : zC p m c cc nL s args own D cy) (hH : zH D cy bs N kd len X Y R H) (hS : va_S (zA bs) H0 H locs) {i idx : Nat} (hi : i < N) (hk : kd i = 11) (hlk : Cond.fieldLink own idx RX11 "saved" "[Z" ∈ zTB) (hinit : meth.name = "<init>") (hdecl : RX11 = own) {v : Nat} (hdg : decode cc pc = .ok (.putfield idx, 3))
    (kk : ∀ (H1 : Heap) (locs1 : List Loc), zH D cy bs N kd len X Y (zU R i 65 (some v)) H1 → va_S (zA bs) H0 H1 locs1 → W p l e R0 s m args below meth c H1 locs1 cells slots Q (F0 m (pc + 3) ls rest)) : W p l e R0 s m args below meth c H locs cells slots Q (F0 m pc ls (.ref (bs + v) :: .ref (bs + i) :: rest)) :=
  zd_putF C hH hS hi hk rfl zin11 rfl tyX11 tyX11_ok nmX11 65 (by decide) hlk rfl hinit hdecl (ty := (tyX11 65)) (by decide +kernel) rfl rfl (Nat.le_of_ble_eq_true rfl) (fun j hj => ⟨rfl, rfl, zU_o hj⟩) hH.2.2.1 hH.2.2.2 (by simp [zc, zU, va_rf]) hdg kk
theorem zd_tabI (C : zC p m c cc nL s args own D cy) {a : Int} (ha : rI a) {dflt lo hi : Int} {offs : Array Int} {ln : Nat} {off : Int} (tgt : Nat) (k : Int) (hk : a = k) (hdg : decode cc pc = .ok (.tableswitch dflt lo hi offs, ln)) (h1 : lo ≤ k) (h2 : k ≤ hi) (ho : offs[(k - lo).toNat]? = some off) (ht : (pc : Int) + off = (tgt : Int))
    (kk : W p l e R0 s m args below meth c H locs cells slots Q (F0 m tgt ls rest)) : W p l e R0 s m args below meth c H locs cells slots Q (F0 m pc ls (.int (zI a) :: rest)) := by
  subst hk
  exact lv_tableIn C.1 C.2.1 hdg (by rw [zI_toInt ha]; omega) (by rw [zI_toInt ha]; omega) (by rw [zI_toInt ha]; exact ho) ht kk
theorem zd_tabO (C : zC p m c cc nL s args own D cy) {a : Int} (ha : rI a) {dflt lo hi : Int} {offs : Array Int} {ln : Nat} (tgt : Nat) (hk : a < lo ∨ hi < a) (hdg : decode cc pc = .ok (.tableswitch dflt lo hi offs, ln)) (ht : (pc : Int) + dflt = (tgt : Int))
    (kk : W p l e R0 s m args below meth c H locs cells slots Q (F0 m tgt ls rest)) : W p l e R0 s m args below meth c H locs cells slots Q (F0 m pc ls (.int (zI a) :: rest)) :=
  lv_tableOut C.1 C.2.1 hdg (by rw [zI_toInt ha]; exact hk) ht kk
theorem zd_iinc (C : zC p m c cc nL s args own D cy) {i k : Nat} {n a : Int} {lv lv' : List (Nat × Value)} (h : lv_has ls nL lv) (hk : lv[k]? = some (i, .int (zI a))) (hdg : decode cc pc = .ok (.iinc i n, 3)) (hn : i < nL) (hl : (i, Value.int (zI (a + n))) :: lv.filter (fun q => !(q.1 == i) && !(q.1 + 1 == i && q.2.category == 2)) = lv')
    (kk : ∀ ls', lv_has ls' nL lv' → W p l e R0 s m args below meth c H locs cells slots Q (F0 m (pc + 3) ls' rest)) : W p l e R0 s m args below meth c H locs cells slots Q (F0 m pc ls rest) := by
  refine lv_iinc C.1 C.2.1 hdg h hk ?_ hn hl kk
  unfold zI
  rw [Int32.ofInt_add]
end ZI
section ZRET
variable {p : Program} {l : Launch} {e : Env} {R0 : Room} {s : State} {m : MethodId} {args : Array Value} {below : List Frame} {meth : Method} {c : Code} {H : Heap} {locs : List Loc}
variable {cc : ByteArray} {pc nL : Nat} {ls : Array Slot} {D : va_G} {cy : Nat → ClassId} {own : String} {bs N : Nat} {kd len : Nat → Nat} {X Y : Nat → Int → Int} {R : Nat → Int → Option Nat}
theorem zd_iret {post : Int → zSt → Prop} (C : zC p m c cc nL s args own D cy) (hr : meth.sig.returnType = some .int) (hlk : meth.locks = false) (hH : zH D cy bs N kd len X Y R H) (hS : va_S (zA bs) s.heap H locs) {r : Int} (hrg : rI r) (hq : post r (X, Y, R)) (hdg : decode cc pc = .ok (.ireturn, 1)) : W p l e R0 s m args below meth c H locs 0 0 (MQ below (zQi D cy bs N kd len post) args s 0 0 (zA bs)) (F0 m pc ls [.int (zI r)]) :=
  W.iret C.1 C.2.1 hr (fun t ht _ => ⟨⟨zI r, (r, X, Y, R), rfl, ⟨rfl, hrg, hq⟩, by subst ht; exact hH⟩, hS.F ht⟩) hS.2.2 hdg hlk
theorem zd_zret {post : Int → zSt → Prop} (C : zC p m c cc nL s args own D cy) (hr : meth.sig.returnType = some .boolean) (hlk : meth.locks = false) (hH : zH D cy bs N kd len X Y R H) (hS : va_S (zA bs) s.heap H locs) {r : Int} (hrg : r = 0 ∨ r = 1) (hq : post r (X, Y, R)) (hdg : decode cc pc = .ok (.ireturn, 1)) : W p l e R0 s m args below meth c H locs 0 0 (MQ below (zQi D cy bs N kd len post) args s 0 0 (zA bs)) (F0 m pc ls [.int (zI r)]) :=
  W.zret C.1 C.2.1 hr (zN_bool hrg) (fun t ht _ => ⟨⟨zI r, (r, X, Y, R), rfl, ⟨rfl, show rI r by rcases hrg with rfl | rfl <;> decide, hq⟩, by subst ht; exact hH⟩, hS.F ht⟩) hS.2.2 hdg hlk
theorem zd_lret {post : Int → zSt → Prop} (C : zC p m c cc nL s args own D cy) (hr : meth.sig.returnType = some .long) (hlk : meth.locks = false) (hH : zH D cy bs N kd len X Y R H) (hS : va_S (zA bs) s.heap H locs) {r : Int} (hrg : rL r) (hq : post r (X, Y, R)) (hdg : decode cc pc = .ok (.lreturn, 1)) : W p l e R0 s m args below meth c H locs 0 0 (MQ below (zQl D cy bs N kd len post) args s 0 0 (zA bs)) (F0 m pc ls [.long (zL r)]) :=
  W.lret C.1 C.2.1 hr (fun t ht _ => ⟨⟨zL r, (r, X, Y, R), rfl, ⟨rfl, hrg, hq⟩, by subst ht; exact hH⟩, hS.F ht⟩) hS.2.2 hdg hlk
theorem zd_vret {post : zSt → Prop} (C : zC p m c cc nL s args own D cy) (hr : meth.sig.returnType = none) (hlk : meth.locks = false) (hH : zH D cy bs N kd len X Y R H) (hS : va_S (zA bs) s.heap H locs) (hq : post (X, Y, R)) (hdg : decode cc pc = .ok (.return_, 1)) : W p l e R0 s m args below meth c H locs 0 0 (MQ below (zQv D cy bs N kd len post) args s 0 0 (zA bs)) (F0 m pc ls []) :=
  W.vret C.1 C.2.1 hr (fun t ht _ => ⟨⟨(X, Y, R), rfl, hq, by subst ht; exact hH⟩, hS.F ht⟩) hS.2.2 hdg hlk
theorem zd_aret {post : Option Nat → zSt → Prop} {C9 : String} (C : zC p m c cc nL s args own D cy) (hr : meth.sig.returnType = some (.object C9)) (hlk : meth.locks = false) (hH : zH D cy bs N kd len X Y R H) (hS : va_S (zA bs) s.heap H locs) {r : Option Nat} {v : Value} (hv : v = va_rf (r.map (bs + ·))) (hq : post r (X, Y, R)) (hdg : decode cc pc = .ok (.areturn, 1)) : W p l e R0 s m args below meth c H locs 0 0 (MQ below (zQr D cy bs N kd len post) args s 0 0 (zA bs)) (F0 m pc ls [v]) :=
  W.aret C.1 C.2.1 hr (Or.inl ⟨_, rfl⟩) (by rw [hv]; cases r with | none => exact Or.inl rfl | some a => exact Or.inr ⟨_, rfl⟩) (fun t ht _ => ⟨⟨r.map (bs + ·), (r, X, Y, R), by rw [hv], ⟨rfl, hq⟩, by subst ht; exact hH⟩, hS.F ht⟩) hS.2.2 hdg hlk
end ZRET
