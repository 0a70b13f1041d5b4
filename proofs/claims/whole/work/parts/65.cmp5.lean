/-! THE JDK'S OWN: greater, lesser, how many bits -/
abbrev RJ6 : String := "java/lang/Integer"
section ZM
variable {p : Program} {l : Launch} {e : Env} {R0 : Room} {s : State} {m : MethodId} {args : Array Value} {below : List Frame} {meth : Method} {c : Code} {H : Heap} {locs : List Loc} {cells slots : Nat} {Q : State → Prop}
variable {cc : ByteArray} {pc nL : Nat} {ls : Array Slot} {rest : List Value} {D : va_G} {cy : Nat → ClassId} {own : String} {bs N : Nat} {kd len : Nat → Nat} {X Y : Nat → Int → Int} {R : Nat → Int → Option Nat} {H0 : Heap}
theorem zd_mmax (C : zC p m c cc nL s args own D cy) (hls : ls.size = nL) {ix : Nat} (q1 : Cond.methodLink own ix Lib.Math.max.name ∈ zTB) (q2 : Cond.static Lib.Math.max.name ∈ zTB) (q3 : Cond.initialized "java/lang/Math" ∈ zTB) (q4 : Cond.code Lib.Math.max.name Lib.Math.max.code 2 (some .int) ∈ zTB) (h1 : 1 ≤ R0.frames) (h2 : (rest.map fun v => v.category).sum + 13 ≤ R0.locals) (hc : cells ≤ R0.cells) (hs : slots ≤ R0.slots) {a b : Int} (ha : rI a) (hb : rI b) (hdg : decode cc pc = .ok (.invokestatic ix, 3))
    (kk : W p l e R0 s m args below meth c H locs cells slots Q (F0 m (pc + 3) ls (.int (zI (max a b)) :: rest))) : W p l e R0 s m args below meth c H locs cells slots Q (F0 m pc ls (.int (zI b) :: .int (zI a) :: rest)) := by
  refine va_mmax C.1 C.2.1 (C.2.2.1.trans hls.symm) C.2.2.2.1 (C.2.2.2.2.1 _ q1) (C.2.2.2.2.1 _ q2) (C.2.2.2.2.1 _ q3) (C.2.2.2.2.1 _ q4) h1 h2 hc hs hdg ?_
  have e : (if zI a < zI b then zI b else zI a) = zI (max a b) := by
    split
    · rename_i h
      have h := (zI_lt ha hb).mp h
      rw [show max a b = b by omega]
    · rename_i h
      have h : ¬ a < b := fun g => h ((zI_lt ha hb).mpr g)
      rw [show max a b = a by omega]
  rw [e]
  exact kk
theorem zd_mmin (C : zC p m c cc nL s args own D cy) (hls : ls.size = nL) {ix : Nat} (q1 : Cond.methodLink own ix Lib.Math.min.name ∈ zTB) (q2 : Cond.static Lib.Math.min.name ∈ zTB) (q3 : Cond.initialized "java/lang/Math" ∈ zTB) (q4 : Cond.code Lib.Math.min.name Lib.Math.min.code 2 (some .int) ∈ zTB) (h1 : 1 ≤ R0.frames) (h2 : (rest.map fun v => v.category).sum + 13 ≤ R0.locals) (hc : cells ≤ R0.cells) (hs : slots ≤ R0.slots) {a b : Int} (ha : rI a) (hb : rI b) (hdg : decode cc pc = .ok (.invokestatic ix, 3))
    (kk : W p l e R0 s m args below meth c H locs cells slots Q (F0 m (pc + 3) ls (.int (zI (min a b)) :: rest))) : W p l e R0 s m args below meth c H locs cells slots Q (F0 m pc ls (.int (zI b) :: .int (zI a) :: rest)) := by
  refine va_mmin C.1 C.2.1 (C.2.2.1.trans hls.symm) C.2.2.2.1 (C.2.2.2.2.1 _ q1) (C.2.2.2.2.1 _ q2) (C.2.2.2.2.1 _ q3) (C.2.2.2.2.1 _ q4) h1 h2 hc hs hdg ?_
  have e : (if zI b < zI a then zI b else zI a) = zI (min a b) := by
    split
    · rename_i h
      have h := (zI_lt hb ha).mp h
      rw [show min a b = b by omega]
    · rename_i h
      have h : ¬ b < a := fun g => h ((zI_lt hb ha).mpr g)
      rw [show min a b = a by omega]
  rw [e]
  exact kk
theorem zd_mmaxL (C : zC p m c cc nL s args own D cy) (hls : ls.size = nL) {ix : Nat} (q1 : Cond.methodLink own ix Lib.MathLoose.max_long.x ∈ zTB) (q2 : Cond.static Lib.MathLoose.max_long.x ∈ zTB) (q3 : Cond.initialized "java/lang/Math" ∈ zTB) (q4 : Cond.code Lib.MathLoose.max_long.x Lib.MathLoose.max_long.code 4 (some .long) ∈ zTB) (h1 : 1 ≤ R0.frames) (h2 : (rest.map fun v => v.category).sum + 15 ≤ R0.locals) (hc : cells ≤ R0.cells) (hs : slots ≤ R0.slots) {a b : Int} (ha : rL a) (hb : rL b) (hdg : decode cc pc = .ok (.invokestatic ix, 3))
    (kk : W p l e R0 s m args below meth c H locs cells slots Q (F0 m (pc + 3) ls (.long (zL (max a b)) :: rest))) : W p l e R0 s m args below meth c H locs cells slots Q (F0 m pc ls (.long (zL b) :: .long (zL a) :: rest)) := by
  refine va_mmax_long C.1 C.2.1 (C.2.2.1.trans hls.symm) C.2.2.2.1 (C.2.2.2.2.1 _ q1) (C.2.2.2.2.1 _ q2) (C.2.2.2.2.1 _ q3) (C.2.2.2.2.1 _ q4) h1 h2 hc hs hdg ?_
  have e : (if zL b < zL a then zL a else zL b) = zL (max a b) := by
    split
    · rename_i h
      have h := (zL_lt hb ha).mp h
      rw [show max a b = a by omega]
    · rename_i h
      have h : ¬ b < a := fun g => h ((zL_lt hb ha).mpr g)
      rw [show max a b = b by omega]
  rw [e]
  exact kk
theorem zd_mminL (C : zC p m c cc nL s args own D cy) (hls : ls.size = nL) {ix : Nat} (q1 : Cond.methodLink own ix Lib.MathLoose.min_long.x ∈ zTB) (q2 : Cond.static Lib.MathLoose.min_long.x ∈ zTB) (q3 : Cond.initialized "java/lang/Math" ∈ zTB) (q4 : Cond.code Lib.MathLoose.min_long.x Lib.MathLoose.min_long.code 4 (some .long) ∈ zTB) (h1 : 1 ≤ R0.frames) (h2 : (rest.map fun v => v.category).sum + 15 ≤ R0.locals) (hc : cells ≤ R0.cells) (hs : slots ≤ R0.slots) {a b : Int} (ha : rL a) (hb : rL b) (hdg : decode cc pc = .ok (.invokestatic ix, 3))
    (kk : W p l e R0 s m args below meth c H locs cells slots Q (F0 m (pc + 3) ls (.long (zL (min a b)) :: rest))) : W p l e R0 s m args below meth c H locs cells slots Q (F0 m pc ls (.long (zL b) :: .long (zL a) :: rest)) := by
  refine va_mmin_long C.1 C.2.1 (C.2.2.1.trans hls.symm) C.2.2.2.1 (C.2.2.2.2.1 _ q1) (C.2.2.2.2.1 _ q2) (C.2.2.2.2.1 _ q3) (C.2.2.2.2.1 _ q4) h1 h2 hc hs hdg ?_
  have e : (if zL b < zL a then zL b else zL a) = zL (min a b) := by
    split
    · rename_i h
      have h := (zL_lt hb ha).mp h
      rw [show min a b = b by omega]
    · rename_i h
      have h : ¬ b < a := fun g => h ((zL_lt hb ha).mpr g)
      rw [show min a b = a by omega]
  rw [e]
  exact kk
theorem mx_rI {a b : Int} (ha : rI a) (hb : rI b) : rI (max a b) := ⟨by have := ha.1; omega, by have := ha.2; have := hb.2; omega⟩
theorem mn_rI {a b : Int} (ha : rI a) (hb : rI b) : rI (min a b) := ⟨by have := ha.1; have := hb.1; omega, by have := ha.2; omega⟩
theorem mx_rL {a b : Int} (ha : rL a) (hb : rL b) : rL (max a b) := ⟨by have := ha.1; omega, by have := ha.2; have := hb.2; omega⟩
theorem mn_rL {a b : Int} (ha : rL a) (hb : rL b) : rL (min a b) := ⟨by have := ha.1; have := hb.1; omega, by have := ha.2; omega⟩
end ZM
theorem q_804 : Cond.methodLink RX9 82 Lib.Math.max.name ∈ zTB := zmem 804 (by decide +kernel) rfl
theorem q_805 : Cond.static Lib.Math.max.name ∈ zTB := zmem 805 (by decide +kernel) rfl
theorem q_141 : Cond.initialized "java/lang/Math" ∈ zTB := zmem 141 (by decide +kernel) rfl
theorem q_806 : Cond.code Lib.Math.max.name Lib.Math.max.code 2 (some .int) ∈ zTB := zmem 806 (by decide +kernel) rfl
theorem q_625 : Cond.methodLink RX7 42 Lib.Math.min.name ∈ zTB := zmem 625 (by decide +kernel) rfl
theorem q_626 : Cond.static Lib.Math.min.name ∈ zTB := zmem 626 (by decide +kernel) rfl
theorem q_627 : Cond.code Lib.Math.min.name Lib.Math.min.code 2 (some .int) ∈ zTB := zmem 627 (by decide +kernel) rfl
theorem q_916 : Cond.methodLink RX1 91 Lib.MathLoose.min_long.x ∈ zTB := zmem 916 (by decide +kernel) rfl
theorem q_917 : Cond.static Lib.MathLoose.min_long.x ∈ zTB := zmem 917 (by decide +kernel) rfl
theorem q_918 : Cond.code Lib.MathLoose.min_long.x Lib.MathLoose.min_long.code 4 (some .long) ∈ zTB := zmem 918 (by decide +kernel) rfl
theorem q_919 : Cond.methodLink RX1 94 Lib.MathLoose.max_long.x ∈ zTB := zmem 919 (by decide +kernel) rfl
theorem q_920 : Cond.static Lib.MathLoose.max_long.x ∈ zTB := zmem 920 (by decide +kernel) rfl
theorem q_921 : Cond.code Lib.MathLoose.max_long.x Lib.MathLoose.max_long.code 4 (some .long) ∈ zTB := zmem 921 (by decide +kernel) rfl
def bc1 (a : Int) : Int := a - zAnd (zUsh a 1) 1431655765
def bc2 (b : Int) : Int := zAnd b 858993459 + zAnd (zUsh b 2) 858993459
def bc3 (b : Int) : Int := zAnd (b + zUsh b 4) 252645135
def bc4 (b : Int) : Int := b + zUsh b 8
def bc5 (b : Int) : Int := b + zUsh b 16
/-- how many bits: the JDK's own way -/
def mBc (a : Int) : Int := zAnd (bc5 (bc4 (bc3 (bc2 (bc1 a))))) 63
abbrev cJ6_bitCount_0f7a4 : ByteArray := prog_14_method_49_code
def yJ6_bitCount_0f7a4 : MethodName := ⟨"java/lang/Integer", "bitCount", "(I)I"⟩
theorem dJ6_bitCount_0f7a4_0 : decode cJ6_bitCount_0f7a4 0 = .ok (.iload_n 0, 1) := by decide +kernel
theorem dJ6_bitCount_0f7a4_1 : decode cJ6_bitCount_0f7a4 1 = .ok (.iload_n 0, 1) := by decide +kernel
theorem dJ6_bitCount_0f7a4_2 : decode cJ6_bitCount_0f7a4 2 = .ok (.iconst 1, 1) := by decide +kernel
theorem dJ6_bitCount_0f7a4_3 : decode cJ6_bitCount_0f7a4 3 = .ok (.iushr, 1) := by decide +kernel
theorem dJ6_bitCount_0f7a4_4 : decode cJ6_bitCount_0f7a4 4 = .ok (.ldc_w 265, 3) := by decide +kernel
theorem dJ6_bitCount_0f7a4_7 : decode cJ6_bitCount_0f7a4 7 = .ok (.iand, 1) := by decide +kernel
theorem dJ6_bitCount_0f7a4_8 : decode cJ6_bitCount_0f7a4 8 = .ok (.isub, 1) := by decide +kernel
theorem dJ6_bitCount_0f7a4_9 : decode cJ6_bitCount_0f7a4 9 = .ok (.istore_n 0, 1) := by decide +kernel
theorem dJ6_bitCount_0f7a4_10 : decode cJ6_bitCount_0f7a4 10 = .ok (.iload_n 0, 1) := by decide +kernel
theorem dJ6_bitCount_0f7a4_11 : decode cJ6_bitCount_0f7a4 11 = .ok (.ldc_w 266, 3) := by decide +kernel
theorem dJ6_bitCount_0f7a4_14 : decode cJ6_bitCount_0f7a4 14 = .ok (.iand, 1) := by decide +kernel
theorem dJ6_bitCount_0f7a4_15 : decode cJ6_bitCount_0f7a4 15 = .ok (.iload_n 0, 1) := by decide +kernel
theorem dJ6_bitCount_0f7a4_16 : decode cJ6_bitCount_0f7a4 16 = .ok (.iconst 2, 1) := by decide +kernel
theorem dJ6_bitCount_0f7a4_17 : decode cJ6_bitCount_0f7a4 17 = .ok (.iushr, 1) := by decide +kernel
theorem dJ6_bitCount_0f7a4_18 : decode cJ6_bitCount_0f7a4 18 = .ok (.ldc_w 266, 3) := by decide +kernel
theorem dJ6_bitCount_0f7a4_21 : decode cJ6_bitCount_0f7a4 21 = .ok (.iand, 1) := by decide +kernel
theorem dJ6_bitCount_0f7a4_22 : decode cJ6_bitCount_0f7a4 22 = .ok (.iadd, 1) := by decide +kernel
theorem dJ6_bitCount_0f7a4_23 : decode cJ6_bitCount_0f7a4 23 = .ok (.istore_n 0, 1) := by decide +kernel
theorem dJ6_bitCount_0f7a4_24 : decode cJ6_bitCount_0f7a4 24 = .ok (.iload_n 0, 1) := by decide +kernel
theorem dJ6_bitCount_0f7a4_25 : decode cJ6_bitCount_0f7a4 25 = .ok (.iload_n 0, 1) := by decide +kernel
theorem dJ6_bitCount_0f7a4_26 : decode cJ6_bitCount_0f7a4 26 = .ok (.iconst 4, 1) := by decide +kernel
theorem dJ6_bitCount_0f7a4_27 : decode cJ6_bitCount_0f7a4 27 = .ok (.iushr, 1) := by decide +kernel
theorem dJ6_bitCount_0f7a4_28 : decode cJ6_bitCount_0f7a4 28 = .ok (.iadd, 1) := by decide +kernel
theorem dJ6_bitCount_0f7a4_29 : decode cJ6_bitCount_0f7a4 29 = .ok (.ldc_w 267, 3) := by decide +kernel
theorem dJ6_bitCount_0f7a4_32 : decode cJ6_bitCount_0f7a4 32 = .ok (.iand, 1) := by decide +kernel
theorem dJ6_bitCount_0f7a4_33 : decode cJ6_bitCount_0f7a4 33 = .ok (.istore_n 0, 1) := by decide +kernel
theorem dJ6_bitCount_0f7a4_34 : decode cJ6_bitCount_0f7a4 34 = .ok (.iload_n 0, 1) := by decide +kernel
theorem dJ6_bitCount_0f7a4_35 : decode cJ6_bitCount_0f7a4 35 = .ok (.iload_n 0, 1) := by decide +kernel
theorem dJ6_bitCount_0f7a4_36 : decode cJ6_bitCount_0f7a4 36 = .ok (.bipush 8, 2) := by decide +kernel
theorem dJ6_bitCount_0f7a4_38 : decode cJ6_bitCount_0f7a4 38 = .ok (.iushr, 1) := by decide +kernel
theorem dJ6_bitCount_0f7a4_39 : decode cJ6_bitCount_0f7a4 39 = .ok (.iadd, 1) := by decide +kernel
theorem dJ6_bitCount_0f7a4_40 : decode cJ6_bitCount_0f7a4 40 = .ok (.istore_n 0, 1) := by decide +kernel
theorem dJ6_bitCount_0f7a4_41 : decode cJ6_bitCount_0f7a4 41 = .ok (.iload_n 0, 1) := by decide +kernel
theorem dJ6_bitCount_0f7a4_42 : decode cJ6_bitCount_0f7a4 42 = .ok (.iload_n 0, 1) := by decide +kernel
theorem dJ6_bitCount_0f7a4_43 : decode cJ6_bitCount_0f7a4 43 = .ok (.bipush 16, 2) := by decide +kernel
theorem dJ6_bitCount_0f7a4_45 : decode cJ6_bitCount_0f7a4 45 = .ok (.iushr, 1) := by decide +kernel
theorem dJ6_bitCount_0f7a4_46 : decode cJ6_bitCount_0f7a4 46 = .ok (.iadd, 1) := by decide +kernel
theorem dJ6_bitCount_0f7a4_47 : decode cJ6_bitCount_0f7a4 47 = .ok (.istore_n 0, 1) := by decide +kernel
theorem dJ6_bitCount_0f7a4_48 : decode cJ6_bitCount_0f7a4 48 = .ok (.iload_n 0, 1) := by decide +kernel
theorem dJ6_bitCount_0f7a4_49 : decode cJ6_bitCount_0f7a4 49 = .ok (.bipush 63, 2) := by decide +kernel
theorem dJ6_bitCount_0f7a4_51 : decode cJ6_bitCount_0f7a4 51 = .ok (.iand, 1) := by decide +kernel
theorem dJ6_bitCount_0f7a4_52 : decode cJ6_bitCount_0f7a4 52 = .ok (.ireturn, 1) := by decide +kernel
theorem q_1003 : Cond.constant RJ6 265 (zI (1431655765)) ∈ zTB := zmem 1003 (by decide +kernel) rfl
theorem q_1004 : Cond.constant RJ6 266 (zI (858993459)) ∈ zTB := zmem 1004 (by decide +kernel) rfl
theorem q_1005 : Cond.constant RJ6 267 (zI (252645135)) ∈ zTB := zmem 1005 (by decide +kernel) rfl
def F_J6_bitCount_0f7a4 (X Y : Nat → Int → Int) (R : Nat → Int → Option Nat) (a : Int) : Prop := (∀ i j, rI (X i j)) → (∀ i j, rL (Y i j)) → zAnd (((zAnd (((zAnd (a - (zAnd (zUsh (a) (1)) ((1431655765)))) ((858993459))) + (zAnd (zUsh (a - (zAnd (zUsh (a) (1)) ((1431655765)))) (2)) ((858993459)))) + (zUsh ((zAnd (a - (zAnd (zUsh (a) (1)) ((1431655765)))) ((858993459))) + (zAnd (zUsh (a - (zAnd (zUsh (a) (1)) ((1431655765)))) (2)) ((858993459)))) (4))) ((252645135))) + (zUsh (zAnd (((zAnd (a - (zAnd (zUsh (a) (1)) ((1431655765)))) ((858993459))) + (zAnd (zUsh (a - (zAnd (zUsh (a) (1)) ((1431655765)))) (2)) ((858993459)))) + (zUsh ((zAnd (a - (zAnd (zUsh (a) (1)) ((1431655765)))) ((858993459))) + (zAnd (zUsh (a - (zAnd (zUsh (a) (1)) ((1431655765)))) (2)) ((858993459)))) (4))) ((252645135))) (8))) + (zUsh ((zAnd (((zAnd (a - (zAnd (zUsh (a) (1)) ((1431655765)))) ((858993459))) + (zAnd (zUsh (a - (zAnd (zUsh (a) (1)) ((1431655765)))) (2)) ((858993459)))) + (zUsh ((zAnd (a - (zAnd (zUsh (a) (1)) ((1431655765)))) ((858993459))) + (zAnd (zUsh (a - (zAnd (zUsh (a) (1)) ((1431655765)))) (2)) ((858993459)))) (4))) ((252645135))) + (zUsh (zAnd (((zAnd (a - (zAnd (zUsh (a) (1)) ((1431655765)))) ((858993459))) + (zAnd (zUsh (a - (zAnd (zUsh (a) (1)) ((1431655765)))) (2)) ((858993459)))) + (zUsh ((zAnd (a - (zAnd (zUsh (a) (1)) ((1431655765)))) ((858993459))) + (zAnd (zUsh (a - (zAnd (zUsh (a) (1)) ((1431655765)))) (2)) ((858993459)))) (4))) ((252645135))) (8))) (16))) (63) = mBc (a)
set_option maxHeartbeats 4000000 in
set_option maxRecDepth 100000 in
theorem w_J6_bitCount_0f7a4 {l : Launch} {D : va_G} {cy : Nat → ClassId} {bs N : Nat} {sa : Nat → Nat} {kd len : Nat → Nat} {X Y : Nat → Int → Int} {R : Nat → Int → Option Nat}  (a : Int) (ha : rI a) (hF : F_J6_bitCount_0f7a4  X Y R a) : Met l yJ6_bitCount_0f7a4 (.code yJ6_bitCount_0f7a4 cJ6_bitCount_0f7a4 1 (some .int) :: zTB) (zRm 0 0) (zPc D cy bs sa N kd len X Y R [.int (zI (a))]) (zQi D cy bs N kd len (fun r st => r = mBc (a) ∧ st = (X, Y, R))) 0 0 (zA bs) := by
  refine zstart (by decide) (Nat.le_of_ble_eq_true rfl) ?_
  intro p e s m args below meth c ls C hE hH hr hlk hnm hl hargs
  have hF := hF hH.2.2.1 hH.2.2.2
  have hS : va_S (zA bs) s.heap s.heap [] := va_S.rf
  have hl : lv_has ls 1 [(0, .int (zI (a)))] := hl
  refine lv_iload_n C.1 C.2.1 dJ6_bitCount_0f7a4_0 rfl (lv_at hl 0 rfl) ?_
  refine lv_iload_n C.1 C.2.1 dJ6_bitCount_0f7a4_1 rfl (lv_at hl 0 rfl) ?_
  refine zd_iconst C dJ6_bitCount_0f7a4_2 ?_
  refine zd_iushr C dJ6_bitCount_0f7a4_3 ?_
  refine lv_ldcw (v := zI (1431655765)) C.1 C.2.1 C.2.2.2.1 (C.2.2.2.2.1 _ q_1003) dJ6_bitCount_0f7a4_4 ?_
  refine zd_iand C dJ6_bitCount_0f7a4_7 ?_
  refine zd_isub C dJ6_bitCount_0f7a4_8 ?_
  refine lv_istore_n (lv' := [(0, .int (zI (a - (zAnd (zUsh (a) (1)) ((1431655765))))))]) C.1 C.2.1 dJ6_bitCount_0f7a4_9 rfl hl (by decide) rfl (fun ls hl => ?_)
  refine lv_iload_n C.1 C.2.1 dJ6_bitCount_0f7a4_10 rfl (lv_at hl 0 rfl) ?_
  refine lv_ldcw (v := zI (858993459)) C.1 C.2.1 C.2.2.2.1 (C.2.2.2.2.1 _ q_1004) dJ6_bitCount_0f7a4_11 ?_
  refine zd_iand C dJ6_bitCount_0f7a4_14 ?_
  refine lv_iload_n C.1 C.2.1 dJ6_bitCount_0f7a4_15 rfl (lv_at hl 0 rfl) ?_
  refine zd_iconst C dJ6_bitCount_0f7a4_16 ?_
  refine zd_iushr C dJ6_bitCount_0f7a4_17 ?_
  refine lv_ldcw (v := zI (858993459)) C.1 C.2.1 C.2.2.2.1 (C.2.2.2.2.1 _ q_1004) dJ6_bitCount_0f7a4_18 ?_
  refine zd_iand C dJ6_bitCount_0f7a4_21 ?_
  refine zd_iadd C dJ6_bitCount_0f7a4_22 ?_
  refine lv_istore_n (lv' := [(0, .int (zI ((zAnd (a - (zAnd (zUsh (a) (1)) ((1431655765)))) ((858993459))) + (zAnd (zUsh (a - (zAnd (zUsh (a) (1)) ((1431655765)))) (2)) ((858993459))))))]) C.1 C.2.1 dJ6_bitCount_0f7a4_23 rfl hl (by decide) rfl (fun ls hl => ?_)
  refine lv_iload_n C.1 C.2.1 dJ6_bitCount_0f7a4_24 rfl (lv_at hl 0 rfl) ?_
  refine lv_iload_n C.1 C.2.1 dJ6_bitCount_0f7a4_25 rfl (lv_at hl 0 rfl) ?_
  refine zd_iconst C dJ6_bitCount_0f7a4_26 ?_
  refine zd_iushr C dJ6_bitCount_0f7a4_27 ?_
  refine zd_iadd C dJ6_bitCount_0f7a4_28 ?_
  refine lv_ldcw (v := zI (252645135)) C.1 C.2.1 C.2.2.2.1 (C.2.2.2.2.1 _ q_1005) dJ6_bitCount_0f7a4_29 ?_
  refine zd_iand C dJ6_bitCount_0f7a4_32 ?_
  refine lv_istore_n (lv' := [(0, .int (zI (zAnd (((zAnd (a - (zAnd (zUsh (a) (1)) ((1431655765)))) ((858993459))) + (zAnd (zUsh (a - (zAnd (zUsh (a) (1)) ((1431655765)))) (2)) ((858993459)))) + (zUsh ((zAnd (a - (zAnd (zUsh (a) (1)) ((1431655765)))) ((858993459))) + (zAnd (zUsh (a - (zAnd (zUsh (a) (1)) ((1431655765)))) (2)) ((858993459)))) (4))) ((252645135)))))]) C.1 C.2.1 dJ6_bitCount_0f7a4_33 rfl hl (by decide) rfl (fun ls hl => ?_)
  refine lv_iload_n C.1 C.2.1 dJ6_bitCount_0f7a4_34 rfl (lv_at hl 0 rfl) ?_
  refine lv_iload_n C.1 C.2.1 dJ6_bitCount_0f7a4_35 rfl (lv_at hl 0 rfl) ?_
  refine zd_bipush C (by decide) dJ6_bitCount_0f7a4_36 ?_
  refine zd_iushr C dJ6_bitCount_0f7a4_38 ?_
  refine zd_iadd C dJ6_bitCount_0f7a4_39 ?_
  refine lv_istore_n (lv' := [(0, .int (zI ((zAnd (((zAnd (a - (zAnd (zUsh (a) (1)) ((1431655765)))) ((858993459))) + (zAnd (zUsh (a - (zAnd (zUsh (a) (1)) ((1431655765)))) (2)) ((858993459)))) + (zUsh ((zAnd (a - (zAnd (zUsh (a) (1)) ((1431655765)))) ((858993459))) + (zAnd (zUsh (a - (zAnd (zUsh (a) (1)) ((1431655765)))) (2)) ((858993459)))) (4))) ((252645135))) + (zUsh (zAnd (((zAnd (a - (zAnd (zUsh (a) (1)) ((1431655765)))) ((858993459))) + (zAnd (zUsh (a - (zAnd (zUsh (a) (1)) ((1431655765)))) (2)) ((858993459)))) + (zUsh ((zAnd (a - (zAnd (zUsh (a) (1)) ((1431655765)))) ((858993459))) + (zAnd (zUsh (a - (zAnd (zUsh (a) (1)) ((1431655765)))) (2)) ((858993459)))) (4))) ((252645135))) (8)))))]) C.1 C.2.1 dJ6_bitCount_0f7a4_40 rfl hl (by decide) rfl (fun ls hl => ?_)
  refine lv_iload_n C.1 C.2.1 dJ6_bitCount_0f7a4_41 rfl (lv_at hl 0 rfl) ?_
  refine lv_iload_n C.1 C.2.1 dJ6_bitCount_0f7a4_42 rfl (lv_at hl 0 rfl) ?_
  refine zd_bipush C (by decide) dJ6_bitCount_0f7a4_43 ?_
  refine zd_iushr C dJ6_bitCount_0f7a4_45 ?_
  refine zd_iadd C dJ6_bitCount_0f7a4_46 ?_
  refine lv_istore_n (lv' := [(0, .int (zI (((zAnd (((zAnd (a - (zAnd (zUsh (a) (1)) ((1431655765)))) ((858993459))) + (zAnd (zUsh (a - (zAnd (zUsh (a) (1)) ((1431655765)))) (2)) ((858993459)))) + (zUsh ((zAnd (a - (zAnd (zUsh (a) (1)) ((1431655765)))) ((858993459))) + (zAnd (zUsh (a - (zAnd (zUsh (a) (1)) ((1431655765)))) (2)) ((858993459)))) (4))) ((252645135))) + (zUsh (zAnd (((zAnd (a - (zAnd (zUsh (a) (1)) ((1431655765)))) ((858993459))) + (zAnd (zUsh (a - (zAnd (zUsh (a) (1)) ((1431655765)))) (2)) ((858993459)))) + (zUsh ((zAnd (a - (zAnd (zUsh (a) (1)) ((1431655765)))) ((858993459))) + (zAnd (zUsh (a - (zAnd (zUsh (a) (1)) ((1431655765)))) (2)) ((858993459)))) (4))) ((252645135))) (8))) + (zUsh ((zAnd (((zAnd (a - (zAnd (zUsh (a) (1)) ((1431655765)))) ((858993459))) + (zAnd (zUsh (a - (zAnd (zUsh (a) (1)) ((1431655765)))) (2)) ((858993459)))) + (zUsh ((zAnd (a - (zAnd (zUsh (a) (1)) ((1431655765)))) ((858993459))) + (zAnd (zUsh (a - (zAnd (zUsh (a) (1)) ((1431655765)))) (2)) ((858993459)))) (4))) ((252645135))) + (zUsh (zAnd (((zAnd (a - (zAnd (zUsh (a) (1)) ((1431655765)))) ((858993459))) + (zAnd (zUsh (a - (zAnd (zUsh (a) (1)) ((1431655765)))) (2)) ((858993459)))) + (zUsh ((zAnd (a - (zAnd (zUsh (a) (1)) ((1431655765)))) ((858993459))) + (zAnd (zUsh (a - (zAnd (zUsh (a) (1)) ((1431655765)))) (2)) ((858993459)))) (4))) ((252645135))) (8))) (16)))))]) C.1 C.2.1 dJ6_bitCount_0f7a4_47 rfl hl (by decide) rfl (fun ls hl => ?_)
  refine lv_iload_n C.1 C.2.1 dJ6_bitCount_0f7a4_48 rfl (lv_at hl 0 rfl) ?_
  refine zd_bipush C (by decide) dJ6_bitCount_0f7a4_49 ?_
  refine zd_iand C dJ6_bitCount_0f7a4_51 ?_
  exact zd_iret C hr hlk hH hS (zI_rg _) (⟨hF, rfl⟩) dJ6_bitCount_0f7a4_52
theorem v_J6_bitCount_0f7a4 {X Y : Nat → Int → Int} {R : Nat → Int → Option Nat}  (a : Int) (ha : rI a) : F_J6_bitCount_0f7a4  X Y R a := by
  unfold F_J6_bitCount_0f7a4
  intro hX hY
  unfold mBc bc5 bc4 bc3 bc2 bc1
  rfl
theorem c_J6_bitCount_0f7a4 {l : Launch} {D : va_G} {cy : Nat → ClassId} {bs N : Nat} {sa : Nat → Nat} {kd len : Nat → Nat} {X Y : Nat → Int → Int} {R : Nat → Int → Option Nat}  (a : Int) (ha : rI a) : Met l yJ6_bitCount_0f7a4 (.code yJ6_bitCount_0f7a4 cJ6_bitCount_0f7a4 1 (some .int) :: zTB) (zRm 0 0) (zPc D cy bs sa N kd len X Y R [.int (zI (a))]) (zQi D cy bs N kd len (fun r st => r = mBc (a) ∧ st = (X, Y, R))) 0 0 (zA bs) := w_J6_bitCount_0f7a4  a ha (v_J6_bitCount_0f7a4 a ha)
