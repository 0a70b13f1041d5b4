/-! WORDS -/
abbrev RJ0 : String := "java/lang/String"
abbrev RJ1 : String := "java/lang/StringLatin1"
abbrev RJ3 : String := "jdk/internal/util/Preconditions"
/-- a byte of a word -/
def kyB (k : Nat) (z : Int) : Int := ((zKb.getD k []).getD z.toNat 0).toInt
theorem kyB_rg (k : Nat) (z : Int) : rI (kyB k z) := zI_rg _
theorem kyL_b : ∀ k, k < 14 → zKl.getD k 0 ≤ 7 ∧ (zKb.getD k []).length = zKl.getD k 0 := by decide
theorem kyL_all (k : Nat) : zKl.getD k 0 ≤ 7 := by
  by_cases h : k < 14
  · exact (kyL_b k h).1
  · have e : zKl.getD k 0 = 0 := by
      rw [List.getD_eq_getElem?_getD, List.getElem?_eq_none (by show 14 ≤ k; omega)]
      rfl
    omega
theorem kyL_rg (k : Nat) : rI ((zKl.getD k 0 : Nat) : Int) := by
  by_cases h : k < 14
  · have := (kyL_b k h).1
    exact ⟨by omega, by omega⟩
  · have e : zKl.getD k 0 = 0 := by
      rw [List.getD_eq_getElem?_getD, List.getElem?_eq_none (by show 14 ≤ k; omega)]
      rfl
    rw [e]
    decide
theorem zShr_z {a : Int} (h : 0 ≤ a ∧ a < 2147483648) : zShr a 0 = a := by
  unfold zShr
  have e : zI a >>> (zI 0 &&& 31) = zI a := by
    apply Int32.toBitVec_inj.mp
    rw [Int32.toBitVec_shiftRight]
    show (zI a).toBitVec.sshiftRight 0 = _
    exact BitVec.sshiftRight_zero
  rw [e]
  exact zI_toInt ⟨by omega, by omega⟩
def zQt (D : va_G) (cy : Nat → ClassId) (bs : Nat) (sa : Nat → Nat) (N : Nat) (kd len : Nat → Nat) (post : Nat → zSt → Prop) : Array Value → State → Outcome → State → Prop :=
  va_Qq (fun r (u : Nat × zSt) => r = some (sa (3 + u.1)) ∧ u.1 < 14 ∧ post u.1 u.2) (fun u t => zH D cy bs N kd len u.2.1 u.2.2.1 u.2.2.2 t.heap) (zA bs)
section ZT
variable {p : Program} {l : Launch} {e : Env} {R0 : Room} {s : State} {m : MethodId} {args : Array Value} {below : List Frame} {meth : Method} {c : Code} {H : Heap} {locs : List Loc} {cells slots : Nat} {Q : State → Prop}
variable {cc : ByteArray} {pc nL : Nat} {ls : Array Slot} {rest : List Value} {D : va_G} {cy : Nat → ClassId} {own : String} {bs N : Nat} {sa : Nat → Nat} {kd len : Nat → Nat} {X Y : Nat → Int → Int} {R : Nat → Int → Option Nat} {H0 : Heap}
variable {y : MethodName} {bytes : ByteArray} {maxL idx n fr lo : Nat} {ret : Option FieldType} {CC : String} {As : List Value}
theorem zd_ldcS (C : zC p m c cc nL s args "WorkChains$Reader" D cy) (hE : zE D cy bs sa s) {k : Nat} (hk : k < 14) (hdg : decode cc pc = .ok (.ldc (zKp.getD k 0), 2))
    (kk : W p l e R0 s m args below meth c H locs cells slots Q (F0 m (pc + 2) ls (.ref (sa (3 + k)) :: rest))) : W p l e R0 s m args below meth c H locs cells slots Q (F0 m pc ls rest) :=
  va_ldcS C.1 C.2.1 C.2.2.2.1 (hE.2.2.2 k hk) hdg kk
theorem zd_stat1 (C : zC p m c cc nL s args own D cy) (hE : zE D cy bs sa s) (hS : va_S (zA bs) s.heap H locs) {ix : Nat} (hlk : Cond.fieldLink own ix "java/lang/String" "COMPACT_STRINGS" "Z" ∈ zTB) (hdg : decode cc pc = .ok (.getstatic ix, 3))
    (kk : W p l e R0 s m args below meth c H locs cells slots Q (F0 m (pc + 3) ls (.int (zI 1) :: rest))) : W p l e R0 s m args below meth c H locs cells slots Q (F0 m pc ls rest) :=
  va_gets C.1 C.2.1 hE.2.2.1.2.2.2.2.1 hS C.2.2.2.1 (C.2.2.2.2.1 _ hlk) (fun _ h => h) hdg kk
theorem zd_strv (C : zC p m c cc nL s args own D cy) (hE : zE D cy bs sa s) (hS : va_S (zA bs) s.heap H locs) {k : Nat} (hk : k < 14) {ix : Nat} (hlk : Cond.fieldLink own ix "java/lang/String" "value" "[B" ∈ zTB) (hdg : decode cc pc = .ok (.getfield ix, 3))
    (kk : W p l e R0 s m args below meth c H locs cells slots Q (F0 m (pc + 3) ls (.ref (sa (3 + 14 + k)) :: rest))) : W p l e R0 s m args below meth c H locs cells slots Q (F0 m pc ls (.ref (sa (3 + k)) :: rest)) :=
  vk_getf C.1 C.2.1 (hE.2.2.1.2.2.2.1.1 k hk).2.2.1 hS C.2.2.2.1 (C.2.2.2.2.1 _ hlk) (fun _ h => h) hdg kk
theorem zd_strc (C : zC p m c cc nL s args own D cy) (hE : zE D cy bs sa s) (hS : va_S (zA bs) s.heap H locs) {k : Nat} (hk : k < 14) {ix : Nat} (hlk : Cond.fieldLink own ix "java/lang/String" "coder" "B" ∈ zTB) (hdg : decode cc pc = .ok (.getfield ix, 3))
    (kk : W p l e R0 s m args below meth c H locs cells slots Q (F0 m (pc + 3) ls (.int (zI 0) :: rest))) : W p l e R0 s m args below meth c H locs cells slots Q (F0 m pc ls (.ref (sa (3 + k)) :: rest)) :=
  vk_getf C.1 C.2.1 (hE.2.2.1.2.2.2.1.1 k hk).2.1 hS C.2.2.2.1 (C.2.2.2.2.1 _ hlk) (fun _ h => h) hdg kk
theorem zd_strl (C : zC p m c cc nL s args own D cy) (hE : zE D cy bs sa s) (hS : va_S (zA bs) s.heap H locs) {k : Nat} (hk : k < 14) (hdg : decode cc pc = .ok (.arraylength, 1))
    (kk : W p l e R0 s m args below meth c H locs cells slots Q (F0 m (pc + 1) ls (.int (zI ((zKl.getD k 0 : Nat) : Int)) :: rest))) : W p l e R0 s m args below meth c H locs cells slots Q (F0 m pc ls (.ref (sa (3 + 14 + k)) :: rest)) :=
  va_tlen C.1 C.2.1 (hE.2.2.1.2.2.2.1.1 k hk).2.2.2 hS (Int32.ofInt_eq_ofNat).symm hdg kk
theorem zd_strb (C : zC p m c cc nL s args own D cy) (hE : zE D cy bs sa s) (hS : va_S (zA bs) s.heap H locs) {k : Nat} (hk : k < 14) {z : Int} (h0 : 0 ≤ z) (h1 : z < ((zKl.getD k 0 : Nat) : Int)) (hdg : decode cc pc = .ok (.baload, 1))
    (kk : W p l e R0 s m args below meth c H locs cells slots Q (F0 m (pc + 1) ls (.int (zI (kyB k z)) :: rest))) : W p l e R0 s m args below meth c H locs cells slots Q (F0 m pc ls (.int (zI z) :: .ref (sa (3 + 14 + k)) :: rest)) := by
  have hb := (kyL_b k hk).1
  refine va_tb C.1 C.2.1 (hE.2.2.1.2.2.2.1.1 k hk).2.2.2 hS (zI_in h0 h1 (by omega)) (v := .int (zI (kyB k z))) ?_ hdg kk
  show Value.int ((zKb.getD k []).getD (zI z).toNatClampNeg 0) = _
  rw [zI_clamp ⟨by omega, by omega⟩]
  unfold kyB
  rw [zI_of]
theorem zd_i2c (C : zC p m c cc nL s args own D cy) {z : Int} (h : 0 ≤ z ∧ z < 65536) (hdg : decode cc pc = .ok (.i2c, 1))
    (kk : W p l e R0 s m args below meth c H locs cells slots Q (F0 m (pc + 1) ls (.int (zI z) :: rest))) : W p l e R0 s m args below meth c H locs cells slots Q (F0 m pc ls (.int (zI z) :: rest)) :=
  lv_i2c C.1 C.2.1 hdg (lg_i2c_word (by rw [zI_toInt ⟨by omega, by omega⟩]; exact h.1) (by rw [zI_toInt ⟨by omega, by omega⟩]; exact h.2)) kk
theorem zd_cret {post : Int → zSt → Prop} (C : zC p m c cc nL s args own D cy) (hr : meth.sig.returnType = some .char) (hlk : meth.locks = false) (hH : zH D cy bs N kd len X Y R H) (hS : va_S (zA bs) s.heap H locs) {r : Int} (hrg : 0 ≤ r ∧ r < 65536) (hq : post r (X, Y, R)) (hdg : decode cc pc = .ok (.ireturn, 1)) : W p l e R0 s m args below meth c H locs 0 0 (MQ below (zQi D cy bs N kd len post) args s 0 0 (zA bs)) (F0 m pc ls [.int (zI r)]) :=
  W.zret C.1 C.2.1 hr (by
    show Value.int ((zI r).toUInt32.toUInt16.toUInt32.toInt32) = _
    rw [← lg_i2c_nf, lg_i2c_word (by rw [zI_toInt ⟨by omega, by omega⟩]; exact hrg.1) (by rw [zI_toInt ⟨by omega, by omega⟩]; exact hrg.2)]) (fun t ht _ => ⟨⟨zI r, (r, X, Y, R), rfl, ⟨rfl, ⟨by omega, by omega⟩, hq⟩, by subst ht; exact hH⟩, hS.F ht⟩) hS.2.2 hdg hlk
theorem zd_bret {post : Int → zSt → Prop} (C : zC p m c cc nL s args own D cy) (hr : meth.sig.returnType = some .byte) (hlk : meth.locks = false) (hH : zH D cy bs N kd len X Y R H) (hS : va_S (zA bs) s.heap H locs) {r : Int} (hrg : -128 ≤ r ∧ r ≤ 127) (hq : post r (X, Y, R)) (hdg : decode cc pc = .ok (.ireturn, 1)) : W p l e R0 s m args below meth c H locs 0 0 (MQ below (zQi D cy bs N kd len post) args s 0 0 (zA bs)) (F0 m pc ls [.int (zI r)]) :=
  W.zret C.1 C.2.1 hr (by
    show Value.int ((zI r).toInt8.toInt32) = _
    congr 1
    apply Int32.toInt_inj.mp
    rw [Int8.toInt_toInt32, Int32.toInt_toInt8, zI_toInt ⟨by omega, by omega⟩]
    exact Int.bmod_eq_of_le (by omega) (by omega)) (fun t ht _ => ⟨⟨zI r, (r, X, Y, R), rfl, ⟨rfl, ⟨by omega, by omega⟩, hq⟩, by subst ht; exact hH⟩, hS.F ht⟩) hS.2.2 hdg hlk
theorem zd_tret {post : Nat → zSt → Prop} {C9 : String} (C : zC p m c cc nL s args own D cy) (hr : meth.sig.returnType = some (.object C9)) (hlk : meth.locks = false) (hH : zH D cy bs N kd len X Y R H) (hS : va_S (zA bs) s.heap H locs) {r : Nat} (hk : r < 14) (hq : post r (X, Y, R)) (hdg : decode cc pc = .ok (.areturn, 1)) : W p l e R0 s m args below meth c H locs 0 0 (MQ below (zQt D cy bs sa N kd len post) args s 0 0 (zA bs)) (F0 m pc ls [.ref (sa (3 + r))]) :=
  W.aret C.1 C.2.1 hr (Or.inl ⟨_, rfl⟩) (Or.inr ⟨_, rfl⟩) (fun t ht _ => ⟨⟨some (sa (3 + r)), (r, X, Y, R), rfl, ⟨rfl, hk, hq⟩, by subst ht; exact hH⟩, hS.F ht⟩) hS.2.2 hdg hlk
theorem zgot {post : Nat → zSt → Prop} {a : Array Value} {st0 : List Value} (hr : va_Run p l e R0 s m args below meth c H locs cells slots 0 0 (F0 m pc ls st0) rest (zQt D cy bs sa N kd len post a) (zA bs)) (hS : va_S (zA bs) s.heap H locs)
    (kk : ∀ (r : Nat) (X' Y' : Nat → Int → Int) (R' : Nat → Int → Option Nat) (H1 : Heap) (locs1 : List Loc), r < 14 → post r (X', Y', R') → zH D cy bs N kd len X' Y' R' H1 → va_S (zA bs) s.heap H1 locs1 → W p l e R0 s m args below meth c H1 locs1 cells slots Q (F0 m (pc + 3) ls (.ref (sa (3 + r)) :: rest))) : W p l e R0 s m args below meth c H locs cells slots Q (F0 m pc ls st0) := by
  refine va_callq hr hS (fun q _ h => h) (fun q h => h) (fun r u t H1 locs1 ht _ hw hB _ _ hS1 => ?_)
  obtain ⟨r0, X', Y', R'⟩ := u
  obtain ⟨hw1, hw3, hw2⟩ := hw
  rw [hw1]
  exact kk r0 X' Y' R' H1 locs1 hw3 hw2 (by rw [← ht]; exact hB) hS1
theorem zrunT {Qc : Array Value → State → Outcome → State → Prop} {k : Nat} (C : zC p m c cc nL s args own D cy) (hE : zE D cy bs sa s) (hH : zH D cy bs N kd len X Y R H) (hS : va_S (zA bs) s.heap H locs) (hl : ls.size = nL) (hM : Met l y (.code y bytes maxL ret :: zTB) (zRm fr lo) (zPc D cy bs sa N kd len X Y R (.ref (sa (3 + k)) :: As)) Qc 0 0 (zA bs)) (hw : zLv own idx CC y bytes maxL ret n) (hR : fr + 1 ≤ R0.frames ∧ 8 + (maxL + 11) + lo ≤ R0.locals)
    (hk : k < 14) (hc : CC = "java/lang/String") (hn : As.length = n) (hr : (rest.map fun v => v.category).sum ≤ 8) (hdg : decode cc pc = .ok (.invokevirtual idx, 3)) (hcl : cells ≤ R0.cells ∧ slots ≤ R0.slots) : va_Run p l e R0 s m args below meth c H locs cells slots 0 0 (F0 m pc ls (As.reverse ++ .ref (sa (3 + k)) :: rest)) rest (Qc (Value.ref (sa (3 + k)) :: As).toArray) (zA bs) := by
  subst hc
  exact va_runV (As := As) (rest := rest) (Ts := zTB) ⟨C.1, C.2.1, C.2.2.1, C.2.2.2.1, C.2.2.2.2.1⟩ hM (zcwV C hw hR) ⟨zPc_blind, vk_recv (i := k) hE.2.2.1.2.2.2.1 hk hS, (zpre hE hH hS _).2⟩ rfl hn hl rfl (lv_room hr) hdg hcl
end ZT
theorem ky_l : ∀ k, k < 14 → ∀ y, y < zKl.getD k 0 → zAnd (kyB k (y : Nat)) 255 = kyB k y ∧ 97 ≤ kyB k y ∧ kyB k y ≤ 122 := by decide +kernel
theorem ky_z {k : Nat} {z : Int} (h : 0 ≤ z ∧ z < ((zKl.getD k 0 : Nat) : Int)) : 0 ≤ zAnd (kyB k z) 255 ∧ zAnd (kyB k z) 255 < 65536 := by
  have hk : k < 14 := by
    by_cases q : k < 14
    · exact q
    · have e : zKl.getD k 0 = 0 := by
        rw [List.getD_eq_getElem?_getD, List.getElem?_eq_none (by show 14 ≤ k; omega)]
        rfl
      omega
  have g := ky_l k hk z.toNat (by omega)
  rw [show ((z.toNat : Nat) : Int) = z by omega] at g
  omega
abbrev cJ0_coder_7d493 : ByteArray := prog_16_method_152_code
def yJ0_coder_7d493 : MethodName := ⟨"java/lang/String", "coder", "()B"⟩
theorem dJ0_coder_7d493_0 : decode cJ0_coder_7d493 0 = .ok (.getstatic 38, 3) := by decide +kernel
theorem dJ0_coder_7d493_3 : decode cJ0_coder_7d493 3 = .ok (.ifCond .eq 10, 3) := by decide +kernel
theorem dJ0_coder_7d493_6 : decode cJ0_coder_7d493 6 = .ok (.aload_n 0, 1) := by decide +kernel
theorem dJ0_coder_7d493_7 : decode cJ0_coder_7d493 7 = .ok (.getfield 15, 3) := by decide +kernel
theorem dJ0_coder_7d493_10 : decode cJ0_coder_7d493 10 = .ok (.goto 4, 3) := by decide +kernel
theorem dJ0_coder_7d493_13 : decode cJ0_coder_7d493 13 = .ok (.iconst 1, 1) := by decide +kernel
theorem dJ0_coder_7d493_14 : decode cJ0_coder_7d493 14 = .ok (.ireturn, 1) := by decide +kernel
theorem q_679 : Cond.fieldLink RJ0 38 RJ0 "COMPACT_STRINGS" "Z" ∈ zTB := zmem 679 (by decide +kernel) rfl
theorem q_2044 : Cond.fieldLink RJ0 15 RJ0 "coder" "B" ∈ zTB := zmem 2044 (by decide +kernel) rfl
def F_J0_coder_7d493 (k9 : Nat) (X Y : Nat → Int → Int) (R : Nat → Int → Option Nat)  : Prop := (∀ i j, rI (X i j)) → (∀ i j, rL (Y i j)) → (-128 ≤ (0 : Int) ∧ (0 : Int) ≤ 127) ∧ (0 = (0 : Int))
set_option maxHeartbeats 4000000 in
set_option maxRecDepth 100000 in
theorem w_J0_coder_7d493 {l : Launch} {D : va_G} {cy : Nat → ClassId} {bs N : Nat} {sa : Nat → Nat} {kd len : Nat → Nat} {X Y : Nat → Int → Int} {R : Nat → Int → Option Nat} {k9 : Nat} (hk9 : k9 < 14)  (hF : F_J0_coder_7d493 k9 X Y R ) : Met l yJ0_coder_7d493 (.code yJ0_coder_7d493 cJ0_coder_7d493 1 (some .byte) :: zTB) (zRm 0 0) (zPc D cy bs sa N kd len X Y R [.ref (sa (3 + k9))]) (zQi D cy bs N kd len (fun r st => r = (0 : Int) ∧ st = (X, Y, R))) 0 0 (zA bs) := by
  refine zstart (by decide) (Nat.le_of_ble_eq_true rfl) ?_
  intro p e s m args below meth c ls C hE hH hr hlk hnm hl hargs
  have hF := hF hH.2.2.1 hH.2.2.2
  have hS : va_S (zA bs) s.heap s.heap [] := va_S.rf
  have hl : lv_has ls 1 [(0, .ref (sa (3 + k9)))] := hl
  refine zd_stat1 C hE hS q_679 dJ0_coder_7d493_0 ?_
  refine zd_if_eq C (by decide) 13 dJ0_coder_7d493_3 (by decide) (fun c1 => ?_) (fun c1 => ?_)
  · exact absurd c1 (by decide)
  · refine lv_aload_n C.1 C.2.1 dJ0_coder_7d493_6 rfl (lv_at hl 0 rfl) ?_
    refine zd_strc C hE hS hk9 q_2044 dJ0_coder_7d493_7 ?_
    refine lv_goto (tgt := 14) C.1 C.2.1 dJ0_coder_7d493_10 (by decide) ?_
    obtain ⟨o2, hF⟩ := hF
    exact zd_bret C hr hlk hH hS o2 (⟨hF, rfl⟩) dJ0_coder_7d493_14
theorem v_J0_coder_7d493 {X Y : Nat → Int → Int} {R : Nat → Int → Option Nat} {k9 : Nat}  : F_J0_coder_7d493 k9 X Y R  := by
  unfold F_J0_coder_7d493
  intro hX hY
  refine ⟨?_, ?_⟩
  · first | omega | exact ⟨by omega, by omega⟩ | decide | assumption | exact ⟨by omega, by omega, by omega⟩ | exact ⟨by decide, by decide⟩
  first | rfl | trivial
theorem c_J0_coder_7d493 {l : Launch} {D : va_G} {cy : Nat → ClassId} {bs N : Nat} {sa : Nat → Nat} {kd len : Nat → Nat} {X Y : Nat → Int → Int} {R : Nat → Int → Option Nat} {k9 : Nat} (hk9 : k9 < 14)  : Met l yJ0_coder_7d493 (.code yJ0_coder_7d493 cJ0_coder_7d493 1 (some .byte) :: zTB) (zRm 0 0) (zPc D cy bs sa N kd len X Y R [.ref (sa (3 + k9))]) (zQi D cy bs N kd len (fun r st => r = (0 : Int) ∧ st = (X, Y, R))) 0 0 (zA bs) := w_J0_coder_7d493 hk9  (v_J0_coder_7d493 )
abbrev cJ0_isLatin1_aae02 : ByteArray := prog_16_method_154_code
def yJ0_isLatin1_aae02 : MethodName := ⟨"java/lang/String", "isLatin1", "()Z"⟩
theorem dJ0_isLatin1_aae02_0 : decode cJ0_isLatin1_aae02 0 = .ok (.getstatic 38, 3) := by decide +kernel
theorem dJ0_isLatin1_aae02_3 : decode cJ0_isLatin1_aae02 3 = .ok (.ifCond .eq 14, 3) := by decide +kernel
theorem dJ0_isLatin1_aae02_6 : decode cJ0_isLatin1_aae02 6 = .ok (.aload_n 0, 1) := by decide +kernel
theorem dJ0_isLatin1_aae02_7 : decode cJ0_isLatin1_aae02 7 = .ok (.getfield 15, 3) := by decide +kernel
theorem dJ0_isLatin1_aae02_10 : decode cJ0_isLatin1_aae02 10 = .ok (.ifCond .ne 7, 3) := by decide +kernel
theorem dJ0_isLatin1_aae02_13 : decode cJ0_isLatin1_aae02 13 = .ok (.iconst 1, 1) := by decide +kernel
theorem dJ0_isLatin1_aae02_14 : decode cJ0_isLatin1_aae02 14 = .ok (.goto 4, 3) := by decide +kernel
theorem dJ0_isLatin1_aae02_17 : decode cJ0_isLatin1_aae02 17 = .ok (.iconst 0, 1) := by decide +kernel
theorem dJ0_isLatin1_aae02_18 : decode cJ0_isLatin1_aae02 18 = .ok (.ireturn, 1) := by decide +kernel
def F_J0_isLatin1_aae02 (k9 : Nat) (X Y : Nat → Int → Int) (R : Nat → Int → Option Nat)  : Prop := (∀ i j, rI (X i j)) → (∀ i j, rL (Y i j)) → 1 = bz (true)
set_option maxHeartbeats 4000000 in
set_option maxRecDepth 100000 in
theorem w_J0_isLatin1_aae02 {l : Launch} {D : va_G} {cy : Nat → ClassId} {bs N : Nat} {sa : Nat → Nat} {kd len : Nat → Nat} {X Y : Nat → Int → Int} {R : Nat → Int → Option Nat} {k9 : Nat} (hk9 : k9 < 14)  (hF : F_J0_isLatin1_aae02 k9 X Y R ) : Met l yJ0_isLatin1_aae02 (.code yJ0_isLatin1_aae02 cJ0_isLatin1_aae02 1 (some .boolean) :: zTB) (zRm 0 0) (zPc D cy bs sa N kd len X Y R [.ref (sa (3 + k9))]) (zQi D cy bs N kd len (fun r st => r = bz (true) ∧ st = (X, Y, R))) 0 0 (zA bs) := by
  refine zstart (by decide) (Nat.le_of_ble_eq_true rfl) ?_
  intro p e s m args below meth c ls C hE hH hr hlk hnm hl hargs
  have hF := hF hH.2.2.1 hH.2.2.2
  have hS : va_S (zA bs) s.heap s.heap [] := va_S.rf
  have hl : lv_has ls 1 [(0, .ref (sa (3 + k9)))] := hl
  refine zd_stat1 C hE hS q_679 dJ0_isLatin1_aae02_0 ?_
  refine zd_if_eq C (by decide) 17 dJ0_isLatin1_aae02_3 (by decide) (fun c1 => ?_) (fun c1 => ?_)
  · exact absurd c1 (by decide)
  · refine lv_aload_n C.1 C.2.1 dJ0_isLatin1_aae02_6 rfl (lv_at hl 0 rfl) ?_
    refine zd_strc C hE hS hk9 q_2044 dJ0_isLatin1_aae02_7 ?_
    refine zd_if_ne C (by decide) 17 dJ0_isLatin1_aae02_10 (by decide) (fun c2 => ?_) (fun c2 => ?_)
    · exact absurd c2 (by decide)
    · refine zd_iconst C dJ0_isLatin1_aae02_13 ?_
      refine lv_goto (tgt := 18) C.1 C.2.1 dJ0_isLatin1_aae02_14 (by decide) ?_
      exact zd_zret C hr hlk hH hS (by decide) (⟨hF, rfl⟩) dJ0_isLatin1_aae02_18
theorem v_J0_isLatin1_aae02 {X Y : Nat → Int → Int} {R : Nat → Int → Option Nat} {k9 : Nat}  : F_J0_isLatin1_aae02 k9 X Y R  := by
  unfold F_J0_isLatin1_aae02
  intro hX hY
  first | rfl | trivial
theorem c_J0_isLatin1_aae02 {l : Launch} {D : va_G} {cy : Nat → ClassId} {bs N : Nat} {sa : Nat → Nat} {kd len : Nat → Nat} {X Y : Nat → Int → Int} {R : Nat → Int → Option Nat} {k9 : Nat} (hk9 : k9 < 14)  : Met l yJ0_isLatin1_aae02 (.code yJ0_isLatin1_aae02 cJ0_isLatin1_aae02 1 (some .boolean) :: zTB) (zRm 0 0) (zPc D cy bs sa N kd len X Y R [.ref (sa (3 + k9))]) (zQi D cy bs N kd len (fun r st => r = bz (true) ∧ st = (X, Y, R))) 0 0 (zA bs) := w_J0_isLatin1_aae02 hk9  (v_J0_isLatin1_aae02 )
abbrev cJ0_length_8abf5 : ByteArray := prog_16_method_54_code
def yJ0_length_8abf5 : MethodName := ⟨"java/lang/String", "length", "()I"⟩
theorem dJ0_length_8abf5_0 : decode cJ0_length_8abf5 0 = .ok (.aload_n 0, 1) := by decide +kernel
theorem dJ0_length_8abf5_1 : decode cJ0_length_8abf5 1 = .ok (.getfield 9, 3) := by decide +kernel
theorem dJ0_length_8abf5_4 : decode cJ0_length_8abf5 4 = .ok (.arraylength, 1) := by decide +kernel
theorem dJ0_length_8abf5_5 : decode cJ0_length_8abf5 5 = .ok (.aload_n 0, 1) := by decide +kernel
theorem dJ0_length_8abf5_6 : decode cJ0_length_8abf5 6 = .ok (.invokevirtual 335, 3) := by decide +kernel
theorem dJ0_length_8abf5_9 : decode cJ0_length_8abf5 9 = .ok (.ishr, 1) := by decide +kernel
theorem dJ0_length_8abf5_10 : decode cJ0_length_8abf5 10 = .ok (.ireturn, 1) := by decide +kernel
theorem q_2043 : Cond.fieldLink RJ0 9 RJ0 "value" "[B" ∈ zTB := zmem 2043 (by decide +kernel) rfl
theorem q_675 : Cond.methodLink RJ0 335 yJ0_coder_7d493 ∈ zTB := zmem 675 (by decide +kernel) rfl
theorem q_676 : Cond.instanceMethod yJ0_coder_7d493 ∈ zTB := zmem 676 (by decide +kernel) rfl
theorem q_677 : Cond.selects RJ0 yJ0_coder_7d493 yJ0_coder_7d493 ∈ zTB := zmem 677 (by decide +kernel) rfl
theorem q_142 : Cond.initialized RJ0 ∈ zTB := zmem 142 (by decide +kernel) rfl
theorem q_678 : Cond.code yJ0_coder_7d493 cJ0_coder_7d493 1 (some .byte) ∈ zTB := zmem 678 (by decide +kernel) rfl
theorem k_RJ0_335 : zLv RJ0 335 RJ0 yJ0_coder_7d493 cJ0_coder_7d493 1 (some .byte) 0 := ⟨⟨q_675, q_676, q_677, q_142, q_678⟩, rfl, ⟨by decide, by decide⟩, by decide +kernel⟩
def F_J0_length_8abf5 (k9 : Nat) (X Y : Nat → Int → Int) (R : Nat → Int → Option Nat)  : Prop := (∀ i j, rI (X i j)) → (∀ i j, rL (Y i j)) → rI ((0 : Int)) → (zShr (((zKl.getD k9 0 : Nat) : Int)) ((0 : Int)) = ((zKl.getD k9 0 : Nat) : Int))
set_option maxHeartbeats 4000000 in
set_option maxRecDepth 100000 in
theorem w_J0_length_8abf5 {l : Launch} {D : va_G} {cy : Nat → ClassId} {bs N : Nat} {sa : Nat → Nat} {kd len : Nat → Nat} {X Y : Nat → Int → Int} {R : Nat → Int → Option Nat} {k9 : Nat} (hk9 : k9 < 14)  (hF : F_J0_length_8abf5 k9 X Y R ) : Met l yJ0_length_8abf5 (.code yJ0_length_8abf5 cJ0_length_8abf5 1 (some .int) :: zTB) (zRm 1 20) (zPc D cy bs sa N kd len X Y R [.ref (sa (3 + k9))]) (zQi D cy bs N kd len (fun r st => r = ((zKl.getD k9 0 : Nat) : Int) ∧ st = (X, Y, R))) 0 0 (zA bs) := by
  refine zstart (by decide) (Nat.le_of_ble_eq_true rfl) ?_
  intro p e s m args below meth c ls C hE hH hr hlk hnm hl hargs
  have hF := hF hH.2.2.1 hH.2.2.2
  have hS : va_S (zA bs) s.heap s.heap [] := va_S.rf
  have hl : lv_has ls 1 [(0, .ref (sa (3 + k9)))] := hl
  refine lv_aload_n C.1 C.2.1 dJ0_length_8abf5_0 rfl (lv_at hl 0 rfl) ?_
  refine zd_strv C hE hS hk9 q_2043 dJ0_length_8abf5_1 ?_
  refine zd_strl C hE hS hk9 dJ0_length_8abf5_4 ?_
  refine lv_aload_n C.1 C.2.1 dJ0_length_8abf5_5 rfl (lv_at hl 0 rfl) ?_
  refine zgoi (zrunT (As := []) (rest := [.int (zI (((zKl.getD k9 0 : Nat) : Int)))]) C hE hH hS hl.1 (c_J0_coder_7d493 (l := l) hk9 ) k_RJ0_335 ⟨Nat.le_of_ble_eq_true rfl, Nat.le_of_ble_eq_true rfl⟩ hk9 rfl rfl (Nat.le_of_ble_eq_true rfl) dJ0_length_8abf5_6 ⟨Nat.zero_le _, Nat.zero_le _⟩) hS (fun rq Xq Yq Rq H locs hrq hq hH hS => ?_)
  obtain ⟨h91, h92⟩ := hq
  have h93 : Xq = X := congrArg (fun z => z.1) h92
  have h94 : Yq = Y := congrArg (fun z => z.2.1) h92
  have h95 : Rq = R := congrArg (fun z => z.2.2) h92
  rw [h93, h94, h95] at hH
  subst h91
  have hr1 := hrq
  have hF := hF hr1
  refine zd_ishr C dJ0_length_8abf5_9 ?_
  exact zd_iret C hr hlk hH hS (zI_rg _) (⟨hF, rfl⟩) dJ0_length_8abf5_10
theorem v_J0_length_8abf5 {X Y : Nat → Int → Int} {R : Nat → Int → Option Nat} {k9 : Nat}  : F_J0_length_8abf5 k9 X Y R  := by
  unfold F_J0_length_8abf5
  intro hX hY
  intro _
  have := kyL_all k9
  exact zShr_z ⟨by omega, by omega⟩
theorem c_J0_length_8abf5 {l : Launch} {D : va_G} {cy : Nat → ClassId} {bs N : Nat} {sa : Nat → Nat} {kd len : Nat → Nat} {X Y : Nat → Int → Int} {R : Nat → Int → Option Nat} {k9 : Nat} (hk9 : k9 < 14)  : Met l yJ0_length_8abf5 (.code yJ0_length_8abf5 cJ0_length_8abf5 1 (some .int) :: zTB) (zRm 1 20) (zPc D cy bs sa N kd len X Y R [.ref (sa (3 + k9))]) (zQi D cy bs N kd len (fun r st => r = ((zKl.getD k9 0 : Nat) : Int) ∧ st = (X, Y, R))) 0 0 (zA bs) := w_J0_length_8abf5 hk9  (v_J0_length_8abf5 )
abbrev cJ3_checkIndex_8e157 : ByteArray := prog_20_method_11_code
def yJ3_checkIndex_8e157 : MethodName := ⟨"jdk/internal/util/Preconditions", "checkIndex", "(IILjava/util/function/BiFunction;)I"⟩
theorem dJ3_checkIndex_8e157_0 : decode cJ3_checkIndex_8e157 0 = .ok (.iload_n 0, 1) := by decide +kernel
theorem dJ3_checkIndex_8e157_1 : decode cJ3_checkIndex_8e157 1 = .ok (.ifCond .lt 8, 3) := by decide +kernel
theorem dJ3_checkIndex_8e157_4 : decode cJ3_checkIndex_8e157 4 = .ok (.iload_n 0, 1) := by decide +kernel
theorem dJ3_checkIndex_8e157_5 : decode cJ3_checkIndex_8e157 5 = .ok (.iload_n 1, 1) := by decide +kernel
theorem dJ3_checkIndex_8e157_6 : decode cJ3_checkIndex_8e157 6 = .ok (.if_icmp .lt 10, 3) := by decide +kernel
theorem dJ3_checkIndex_8e157_9 : decode cJ3_checkIndex_8e157 9 = .ok (.aload_n 2, 1) := by decide +kernel
theorem dJ3_checkIndex_8e157_10 : decode cJ3_checkIndex_8e157 10 = .ok (.iload_n 0, 1) := by decide +kernel
theorem dJ3_checkIndex_8e157_11 : decode cJ3_checkIndex_8e157 11 = .ok (.iload_n 1, 1) := by decide +kernel
theorem dJ3_checkIndex_8e157_12 : decode cJ3_checkIndex_8e157 12 = .ok (.invokestatic 95, 3) := by decide +kernel
theorem dJ3_checkIndex_8e157_15 : decode cJ3_checkIndex_8e157 15 = .ok (.athrow, 1) := by decide +kernel
theorem dJ3_checkIndex_8e157_16 : decode cJ3_checkIndex_8e157 16 = .ok (.iload_n 0, 1) := by decide +kernel
theorem dJ3_checkIndex_8e157_17 : decode cJ3_checkIndex_8e157 17 = .ok (.ireturn, 1) := by decide +kernel
def F_J3_checkIndex_8e157 (X Y : Nat → Int → Int) (R : Nat → Int → Option Nat) (a : Int) (b : Int) : Prop := (∀ i j, rI (X i j)) → (∀ i j, rL (Y i j)) → ((a < 0) → ((False) ∧ (True))) ∧ ((¬ (a < 0)) → (((a < b) → (a = a)) ∧ ((¬ (a < b)) → ((False) ∧ (True)))))
set_option maxHeartbeats 4000000 in
set_option maxRecDepth 100000 in
theorem w_J3_checkIndex_8e157 {l : Launch} {D : va_G} {cy : Nat → ClassId} {bs N : Nat} {sa : Nat → Nat} {kd len : Nat → Nat} {X Y : Nat → Int → Int} {R : Nat → Int → Option Nat} {t99 : Nat} (a : Int) (ha : rI a) (b : Int) (hb : rI b) (hF : F_J3_checkIndex_8e157  X Y R a b) : Met l yJ3_checkIndex_8e157 (.code yJ3_checkIndex_8e157 cJ3_checkIndex_8e157 3 (some .int) :: zTB) (zRm 0 0) (zPc D cy bs sa N kd len X Y R [.int (zI (a)), .int (zI (b)), .ref t99]) (zQi D cy bs N kd len (fun r st => r = a ∧ st = (X, Y, R))) 0 0 (zA bs) := by
  refine zstart (by decide) (Nat.le_of_ble_eq_true rfl) ?_
  intro p e s m args below meth c ls C hE hH hr hlk hnm hl hargs
  have hF := hF hH.2.2.1 hH.2.2.2
  have hS : va_S (zA bs) s.heap s.heap [] := va_S.rf
  have hl : lv_has ls 3 [(0, .int (zI (a))), (1, .int (zI (b))), (2, .ref t99)] := hl
  refine lv_iload_n C.1 C.2.1 dJ3_checkIndex_8e157_0 rfl (lv_at hl 0 rfl) ?_
  refine zd_if_lt C ha 9 dJ3_checkIndex_8e157_1 (by decide) (fun c1 => ?_) (fun c1 => ?_)
  · have hF := hF.1 c1
    obtain ⟨o2, hF⟩ := hF
    exact o2.elim
  · have hF := hF.2 c1
    refine lv_iload_n C.1 C.2.1 dJ3_checkIndex_8e157_4 rfl (lv_at hl 0 rfl) ?_
    refine lv_iload_n C.1 C.2.1 dJ3_checkIndex_8e157_5 rfl (lv_at hl 1 rfl) ?_
    refine zd_icmp_lt C ha hb 16 dJ3_checkIndex_8e157_6 (by decide) (fun c3 => ?_) (fun c3 => ?_)
    · have hF := hF.1 c3
      refine lv_iload_n C.1 C.2.1 dJ3_checkIndex_8e157_16 rfl (lv_at hl 0 rfl) ?_
      exact zd_iret C hr hlk hH hS ha (⟨hF, rfl⟩) dJ3_checkIndex_8e157_17
    · have hF := hF.2 c3
      obtain ⟨o4, hF⟩ := hF
      exact o4.elim
theorem v_J3_checkIndex_8e157 {X Y : Nat → Int → Int} {R : Nat → Int → Option Nat}  (a : Int) (ha : rI a) (b : Int) (hb : rI b) (hp : 0 ≤ a ∧ a < b) : F_J3_checkIndex_8e157  X Y R a b := by
  unfold F_J3_checkIndex_8e157
  intro hX hY
  refine ⟨?_, ?_⟩
  · intro c1
    refine ⟨?_, ?_⟩
    · first | omega | exact ⟨by omega, by omega⟩ | decide | assumption | exact ⟨by omega, by omega, by omega⟩ | exact ⟨by decide, by decide⟩
    first | rfl | trivial
  intro c2
  refine ⟨?_, ?_⟩
  · intro c3
    first | rfl | trivial
  intro c4
  refine ⟨?_, ?_⟩
  · first | omega | exact ⟨by omega, by omega⟩ | decide | assumption | exact ⟨by omega, by omega, by omega⟩ | exact ⟨by decide, by decide⟩
  first | rfl | trivial
theorem c_J3_checkIndex_8e157 {l : Launch} {D : va_G} {cy : Nat → ClassId} {bs N : Nat} {sa : Nat → Nat} {kd len : Nat → Nat} {X Y : Nat → Int → Int} {R : Nat → Int → Option Nat} {t99 : Nat} (a : Int) (ha : rI a) (b : Int) (hb : rI b) (hp : 0 ≤ a ∧ a < b) : Met l yJ3_checkIndex_8e157 (.code yJ3_checkIndex_8e157 cJ3_checkIndex_8e157 3 (some .int) :: zTB) (zRm 0 0) (zPc D cy bs sa N kd len X Y R [.int (zI (a)), .int (zI (b)), .ref t99]) (zQi D cy bs N kd len (fun r st => r = a ∧ st = (X, Y, R))) 0 0 (zA bs) := w_J3_checkIndex_8e157  a ha b hb (v_J3_checkIndex_8e157 a ha b hb hp)
def F_J3_checkIndex_8e157N (X Y : Nat → Int → Int) (R : Nat → Int → Option Nat) (a : Int) (b : Int) : Prop := (∀ i j, rI (X i j)) → (∀ i j, rL (Y i j)) → ((a < 0) → ((False) ∧ (True))) ∧ ((¬ (a < 0)) → (((a < b) → (a = a)) ∧ ((¬ (a < b)) → ((False) ∧ (True)))))
set_option maxHeartbeats 4000000 in
set_option maxRecDepth 100000 in
theorem w_J3_checkIndex_8e157N {l : Launch} {D : va_G} {cy : Nat → ClassId} {bs N : Nat} {sa : Nat → Nat} {kd len : Nat → Nat} {X Y : Nat → Int → Int} {R : Nat → Int → Option Nat}  (a : Int) (ha : rI a) (b : Int) (hb : rI b) (hF : F_J3_checkIndex_8e157N  X Y R a b) : Met l yJ3_checkIndex_8e157 (.code yJ3_checkIndex_8e157 cJ3_checkIndex_8e157 3 (some .int) :: zTB) (zRm 0 0) (zPc D cy bs sa N kd len X Y R [.int (zI (a)), .int (zI (b)), .null]) (zQi D cy bs N kd len (fun r st => r = a ∧ st = (X, Y, R))) 0 0 (zA bs) := by
  refine zstart (by decide) (Nat.le_of_ble_eq_true rfl) ?_
  intro p e s m args below meth c ls C hE hH hr hlk hnm hl hargs
  have hF := hF hH.2.2.1 hH.2.2.2
  have hS : va_S (zA bs) s.heap s.heap [] := va_S.rf
  have hl : lv_has ls 3 [(0, .int (zI (a))), (1, .int (zI (b))), (2, .null)] := hl
  refine lv_iload_n C.1 C.2.1 dJ3_checkIndex_8e157_0 rfl (lv_at hl 0 rfl) ?_
  refine zd_if_lt C ha 9 dJ3_checkIndex_8e157_1 (by decide) (fun c1 => ?_) (fun c1 => ?_)
  · have hF := hF.1 c1
    obtain ⟨o2, hF⟩ := hF
    exact o2.elim
  · have hF := hF.2 c1
    refine lv_iload_n C.1 C.2.1 dJ3_checkIndex_8e157_4 rfl (lv_at hl 0 rfl) ?_
    refine lv_iload_n C.1 C.2.1 dJ3_checkIndex_8e157_5 rfl (lv_at hl 1 rfl) ?_
    refine zd_icmp_lt C ha hb 16 dJ3_checkIndex_8e157_6 (by decide) (fun c3 => ?_) (fun c3 => ?_)
    · have hF := hF.1 c3
      refine lv_iload_n C.1 C.2.1 dJ3_checkIndex_8e157_16 rfl (lv_at hl 0 rfl) ?_
      exact zd_iret C hr hlk hH hS ha (⟨hF, rfl⟩) dJ3_checkIndex_8e157_17
    · have hF := hF.2 c3
      obtain ⟨o4, hF⟩ := hF
      exact o4.elim
theorem v_J3_checkIndex_8e157N {X Y : Nat → Int → Int} {R : Nat → Int → Option Nat}  (a : Int) (ha : rI a) (b : Int) (hb : rI b) (hp : 0 ≤ a ∧ a < b) : F_J3_checkIndex_8e157N  X Y R a b := by
  unfold F_J3_checkIndex_8e157N
  intro hX hY
  refine ⟨?_, ?_⟩
  · intro c1
    refine ⟨?_, ?_⟩
    · first | omega | exact ⟨by omega, by omega⟩ | decide | assumption | exact ⟨by omega, by omega, by omega⟩ | exact ⟨by decide, by decide⟩
    first | rfl | trivial
  intro c2
  refine ⟨?_, ?_⟩
  · intro c3
    first | rfl | trivial
  intro c4
  refine ⟨?_, ?_⟩
  · first | omega | exact ⟨by omega, by omega⟩ | decide | assumption | exact ⟨by omega, by omega, by omega⟩ | exact ⟨by decide, by decide⟩
  first | rfl | trivial
theorem c_J3_checkIndex_8e157N {l : Launch} {D : va_G} {cy : Nat → ClassId} {bs N : Nat} {sa : Nat → Nat} {kd len : Nat → Nat} {X Y : Nat → Int → Int} {R : Nat → Int → Option Nat}  (a : Int) (ha : rI a) (b : Int) (hb : rI b) (hp : 0 ≤ a ∧ a < b) : Met l yJ3_checkIndex_8e157 (.code yJ3_checkIndex_8e157 cJ3_checkIndex_8e157 3 (some .int) :: zTB) (zRm 0 0) (zPc D cy bs sa N kd len X Y R [.int (zI (a)), .int (zI (b)), .null]) (zQi D cy bs N kd len (fun r st => r = a ∧ st = (X, Y, R))) 0 0 (zA bs) := w_J3_checkIndex_8e157N  a ha b hb (v_J3_checkIndex_8e157N a ha b hb hp)
abbrev cJ0_checkIndex_df160 : ByteArray := prog_16_method_155_code
def yJ0_checkIndex_df160 : MethodName := ⟨"java/lang/String", "checkIndex", "(II)V"⟩
theorem dJ0_checkIndex_df160_0 : decode cJ0_checkIndex_df160 0 = .ok (.iload_n 0, 1) := by decide +kernel
theorem dJ0_checkIndex_df160_1 : decode cJ0_checkIndex_df160 1 = .ok (.iload_n 1, 1) := by decide +kernel
theorem dJ0_checkIndex_df160_2 : decode cJ0_checkIndex_df160 2 = .ok (.getstatic 1053, 3) := by decide +kernel
theorem dJ0_checkIndex_df160_5 : decode cJ0_checkIndex_df160 5 = .ok (.invokestatic 1059, 3) := by decide +kernel
theorem dJ0_checkIndex_df160_8 : decode cJ0_checkIndex_df160 8 = .ok (.pop, 1) := by decide +kernel
theorem dJ0_checkIndex_df160_9 : decode cJ0_checkIndex_df160 9 = .ok (.return_, 1) := by decide +kernel
theorem q_695 : Cond.fieldLink RJ0 1053 RJ3 "SIOOBE_FORMATTER" "Ljava/util/function/BiFunction;" ∈ zTB := zmem 695 (by decide +kernel) rfl
theorem q_698 : Cond.static yJ3_checkIndex_8e157 ∈ zTB := zmem 698 (by decide +kernel) rfl
theorem q_144 : Cond.initialized yJ3_checkIndex_8e157.cls ∈ zTB := zmem 144 (by decide +kernel) rfl
theorem q_699 : Cond.code yJ3_checkIndex_8e157 cJ3_checkIndex_8e157 3 (some .int) ∈ zTB := zmem 699 (by decide +kernel) rfl
theorem q_697 : Cond.methodLink RJ0 1059 yJ3_checkIndex_8e157 ∈ zTB := zmem 697 (by decide +kernel) rfl
theorem k_RJ0_1059 : zLs RJ0 1059 yJ3_checkIndex_8e157 cJ3_checkIndex_8e157 3 (some .int) 3 := ⟨⟨q_697, q_698, q_144, q_699⟩, ⟨by decide, by decide⟩, by decide +kernel⟩
def F_J0_checkIndex_df160 (X Y : Nat → Int → Int) (R : Nat → Int → Option Nat) (a : Int) (b : Int) : Prop := (∀ i j, rI (X i j)) → (∀ i j, rL (Y i j)) → ((0 ≤ a ∧ a < b) ∧ (rI (a) → (True))) ∧ ((0 ≤ a ∧ a < b) ∧ (rI (a) → (True)))
set_option maxHeartbeats 4000000 in
set_option maxRecDepth 100000 in
theorem w_J0_checkIndex_df160 {l : Launch} {D : va_G} {cy : Nat → ClassId} {bs N : Nat} {sa : Nat → Nat} {kd len : Nat → Nat} {X Y : Nat → Int → Int} {R : Nat → Int → Option Nat}  (a : Int) (ha : rI a) (b : Int) (hb : rI b) (hF : F_J0_checkIndex_df160  X Y R a b) : Met l yJ0_checkIndex_df160 (.code yJ0_checkIndex_df160 cJ0_checkIndex_df160 2 none :: zTB) (zRm 1 22) (zPc D cy bs sa N kd len X Y R [.int (zI (a)), .int (zI (b))]) (zQv D cy bs N kd len (fun st => st.1 = X ∧ st.2.1 = Y ∧ st.2.2 = R ∧ (True))) 0 0 (zA bs) := by
  refine zstart (by decide) (Nat.le_of_ble_eq_true rfl) ?_
  intro p e s m args below meth c ls C hE hH hr hlk hnm hl hargs
  have hF := hF hH.2.2.1 hH.2.2.2
  have hS : va_S (zA bs) s.heap s.heap [] := va_S.rf
  have hl : lv_has ls 2 [(0, .int (zI (a))), (1, .int (zI (b)))] := hl
  refine lv_iload_n C.1 C.2.1 dJ0_checkIndex_df160_0 rfl (lv_at hl 0 rfl) ?_
  refine lv_iload_n C.1 C.2.1 dJ0_checkIndex_df160_1 rfl (lv_at hl 1 rfl) ?_
  rcases hE.2.2.1.2.2.2.2.2 with h98 | ⟨t99, h98⟩
  · have hF := hF.1
    refine va_gets C.1 C.2.1 h98 hS C.2.2.2.1 (C.2.2.2.2.1 _ q_695) (fun _ h => h) dJ0_checkIndex_df160_2 ?_
    obtain ⟨o1, hF⟩ := hF
    refine zgoi (zrunS (As := [.int (zI (a)), .int (zI (b)), .null]) (rest := []) C hE hH hS hl.1 (c_J3_checkIndex_8e157N (l := l)  (a) ha (b) hb o1) k_RJ0_1059 ⟨Nat.le_of_ble_eq_true rfl, Nat.le_of_ble_eq_true rfl⟩ rfl (Nat.le_of_ble_eq_true rfl) dJ0_checkIndex_df160_5 ⟨Nat.zero_le _, Nat.zero_le _⟩) hS (fun rq Xq Yq Rq H locs hrq hq hH hS => ?_)
    obtain ⟨h91, h92⟩ := hq
    have h93 : Xq = X := congrArg (fun z => z.1) h92
    have h94 : Yq = Y := congrArg (fun z => z.2.1) h92
    have h95 : Rq = R := congrArg (fun z => z.2.2) h92
    rw [h93, h94, h95] at hH
    subst h91
    have hr2 := hrq
    have hF := hF hr2
    refine lv_pop C.1 C.2.1 dJ0_checkIndex_df160_8 rfl ?_
    exact zd_vret C hr hlk hH hS (⟨rfl, rfl, rfl, hF⟩) dJ0_checkIndex_df160_9
  · have hF := hF.2
    refine va_gets C.1 C.2.1 h98 hS C.2.2.2.1 (C.2.2.2.2.1 _ q_695) (fun _ h => h) dJ0_checkIndex_df160_2 ?_
    obtain ⟨o3, hF⟩ := hF
    refine zgoi (zrunS (As := [.int (zI (a)), .int (zI (b)), .ref t99]) (rest := []) C hE hH hS hl.1 (c_J3_checkIndex_8e157 (l := l)  (a) ha (b) hb o3) k_RJ0_1059 ⟨Nat.le_of_ble_eq_true rfl, Nat.le_of_ble_eq_true rfl⟩ rfl (Nat.le_of_ble_eq_true rfl) dJ0_checkIndex_df160_5 ⟨Nat.zero_le _, Nat.zero_le _⟩) hS (fun rq Xq Yq Rq H locs hrq hq hH hS => ?_)
    obtain ⟨h91, h92⟩ := hq
    have h93 : Xq = X := congrArg (fun z => z.1) h92
    have h94 : Yq = Y := congrArg (fun z => z.2.1) h92
    have h95 : Rq = R := congrArg (fun z => z.2.2) h92
    rw [h93, h94, h95] at hH
    subst h91
    have hr4 := hrq
    have hF := hF hr4
    refine lv_pop C.1 C.2.1 dJ0_checkIndex_df160_8 rfl ?_
    exact zd_vret C hr hlk hH hS (⟨rfl, rfl, rfl, hF⟩) dJ0_checkIndex_df160_9
theorem v_J0_checkIndex_df160 {X Y : Nat → Int → Int} {R : Nat → Int → Option Nat}  (a : Int) (ha : rI a) (b : Int) (hb : rI b) (hp : 0 ≤ a ∧ a < b) : F_J0_checkIndex_df160  X Y R a b := by
  unfold F_J0_checkIndex_df160
  intro hX hY
  refine ⟨?_, ?_⟩
  · refine ⟨?_, ?_⟩
    · first | omega | exact ⟨by omega, by omega⟩ | decide | assumption | exact ⟨by omega, by omega, by omega⟩ | exact ⟨by decide, by decide⟩
    intro _
    first | rfl | trivial
  refine ⟨?_, ?_⟩
  · first | omega | exact ⟨by omega, by omega⟩ | decide | assumption | exact ⟨by omega, by omega, by omega⟩ | exact ⟨by decide, by decide⟩
  intro _
  first | rfl | trivial
theorem c_J0_checkIndex_df160 {l : Launch} {D : va_G} {cy : Nat → ClassId} {bs N : Nat} {sa : Nat → Nat} {kd len : Nat → Nat} {X Y : Nat → Int → Int} {R : Nat → Int → Option Nat}  (a : Int) (ha : rI a) (b : Int) (hb : rI b) (hp : 0 ≤ a ∧ a < b) : Met l yJ0_checkIndex_df160 (.code yJ0_checkIndex_df160 cJ0_checkIndex_df160 2 none :: zTB) (zRm 1 22) (zPc D cy bs sa N kd len X Y R [.int (zI (a)), .int (zI (b))]) (zQv D cy bs N kd len (fun st => st.1 = X ∧ st.2.1 = Y ∧ st.2.2 = R ∧ (True))) 0 0 (zA bs) := w_J0_checkIndex_df160  a ha b hb (v_J0_checkIndex_df160 a ha b hb hp)
abbrev cJ1_charAt_3b067 : ByteArray := prog_17_method_2_code
def yJ1_charAt_3b067 : MethodName := ⟨"java/lang/StringLatin1", "charAt", "([BI)C"⟩
theorem dJ1_charAt_3b067_0 : decode cJ1_charAt_3b067 0 = .ok (.iload_n 1, 1) := by decide +kernel
theorem dJ1_charAt_3b067_1 : decode cJ1_charAt_3b067 1 = .ok (.aload_n 0, 1) := by decide +kernel
theorem dJ1_charAt_3b067_2 : decode cJ1_charAt_3b067 2 = .ok (.arraylength, 1) := by decide +kernel
theorem dJ1_charAt_3b067_3 : decode cJ1_charAt_3b067 3 = .ok (.invokestatic 9, 3) := by decide +kernel
theorem dJ1_charAt_3b067_6 : decode cJ1_charAt_3b067 6 = .ok (.aload_n 0, 1) := by decide +kernel
theorem dJ1_charAt_3b067_7 : decode cJ1_charAt_3b067 7 = .ok (.iload_n 1, 1) := by decide +kernel
theorem dJ1_charAt_3b067_8 : decode cJ1_charAt_3b067 8 = .ok (.baload, 1) := by decide +kernel
theorem dJ1_charAt_3b067_9 : decode cJ1_charAt_3b067 9 = .ok (.sipush 255, 3) := by decide +kernel
theorem dJ1_charAt_3b067_12 : decode cJ1_charAt_3b067 12 = .ok (.iand, 1) := by decide +kernel
theorem dJ1_charAt_3b067_13 : decode cJ1_charAt_3b067 13 = .ok (.i2c, 1) := by decide +kernel
theorem dJ1_charAt_3b067_14 : decode cJ1_charAt_3b067 14 = .ok (.ireturn, 1) := by decide +kernel
theorem q_693 : Cond.static yJ0_checkIndex_df160 ∈ zTB := zmem 693 (by decide +kernel) rfl
theorem q_694 : Cond.code yJ0_checkIndex_df160 cJ0_checkIndex_df160 2 none ∈ zTB := zmem 694 (by decide +kernel) rfl
theorem q_692 : Cond.methodLink RJ1 9 yJ0_checkIndex_df160 ∈ zTB := zmem 692 (by decide +kernel) rfl
theorem k_RJ1_9 : zLs RJ1 9 yJ0_checkIndex_df160 cJ0_checkIndex_df160 2 none 2 := ⟨⟨q_692, q_693, q_142, q_694⟩, ⟨by decide, by decide⟩, by decide +kernel⟩
def F_J1_charAt_3b067 (k9 : Nat) (X Y : Nat → Int → Int) (R : Nat → Int → Option Nat) (b : Int) : Prop := (∀ i j, rI (X i j)) → (∀ i j, rL (Y i j)) → (0 ≤ b ∧ b < ((zKl.getD k9 0 : Nat) : Int)) ∧ ((True) → ((0 ≤ b ∧ b < ((zKl.getD k9 0 : Nat) : Int)) ∧ ((0 ≤ (zAnd (kyB k9 (b)) (255)) ∧ (zAnd (kyB k9 (b)) (255)) < 65536) ∧ ((0 ≤ (zAnd (kyB k9 (b)) (255)) ∧ (zAnd (kyB k9 (b)) (255)) < 65536) ∧ (zAnd (kyB k9 (b)) (255) = zAnd (kyB k9 (b)) 255)))))
set_option maxHeartbeats 4000000 in
set_option maxRecDepth 100000 in
theorem w_J1_charAt_3b067 {l : Launch} {D : va_G} {cy : Nat → ClassId} {bs N : Nat} {sa : Nat → Nat} {kd len : Nat → Nat} {X Y : Nat → Int → Int} {R : Nat → Int → Option Nat} {k9 : Nat} (hk9 : k9 < 14) (b : Int) (hb : rI b) (hF : F_J1_charAt_3b067 k9 X Y R b) : Met l yJ1_charAt_3b067 (.code yJ1_charAt_3b067 cJ1_charAt_3b067 2 (some .char) :: zTB) (zRm 2 43) (zPc D cy bs sa N kd len X Y R [.ref (sa (3 + 14 + k9)), .int (zI (b))]) (zQi D cy bs N kd len (fun r st => r = zAnd (kyB k9 (b)) 255 ∧ st = (X, Y, R))) 0 0 (zA bs) := by
  refine zstart (by decide) (Nat.le_of_ble_eq_true rfl) ?_
  intro p e s m args below meth c ls C hE hH hr hlk hnm hl hargs
  have hF := hF hH.2.2.1 hH.2.2.2
  have hS : va_S (zA bs) s.heap s.heap [] := va_S.rf
  have hl : lv_has ls 2 [(0, .ref (sa (3 + 14 + k9))), (1, .int (zI (b)))] := hl
  refine lv_iload_n C.1 C.2.1 dJ1_charAt_3b067_0 rfl (lv_at hl 1 rfl) ?_
  refine lv_aload_n C.1 C.2.1 dJ1_charAt_3b067_1 rfl (lv_at hl 0 rfl) ?_
  refine zd_strl C hE hS hk9 dJ1_charAt_3b067_2 ?_
  obtain ⟨o1, hF⟩ := hF
  refine zgov (zrunS (As := [.int (zI (b)), .int (zI (((zKl.getD k9 0 : Nat) : Int)))]) (rest := []) C hE hH hS hl.1 (c_J0_checkIndex_df160 (l := l)  (b) hb (((zKl.getD k9 0 : Nat) : Int)) (kyL_rg _) o1) k_RJ1_9 ⟨Nat.le_of_ble_eq_true rfl, Nat.le_of_ble_eq_true rfl⟩ rfl (Nat.le_of_ble_eq_true rfl) dJ1_charAt_3b067_3 ⟨Nat.zero_le _, Nat.zero_le _⟩) hS (fun Xq Yq Rq H locs hq hH hS => ?_)
  obtain ⟨h9X, h9Y, h9R, hq⟩ := hq
  dsimp only at h9X h9Y h9R
  rw [h9X, h9Y, h9R] at hH
  have hF := hF hq
  refine lv_aload_n C.1 C.2.1 dJ1_charAt_3b067_6 rfl (lv_at hl 0 rfl) ?_
  refine lv_iload_n C.1 C.2.1 dJ1_charAt_3b067_7 rfl (lv_at hl 1 rfl) ?_
  obtain ⟨o2, hF⟩ := hF
  refine zd_strb C hE hS hk9 o2.1 o2.2 dJ1_charAt_3b067_8 ?_
  refine zd_sipush C (by decide) dJ1_charAt_3b067_9 ?_
  refine zd_iand C dJ1_charAt_3b067_12 ?_
  obtain ⟨o3, hF⟩ := hF
  refine zd_i2c C o3 dJ1_charAt_3b067_13 ?_
  obtain ⟨o4, hF⟩ := hF
  exact zd_cret C hr hlk hH hS o4 (⟨hF, rfl⟩) dJ1_charAt_3b067_14
theorem v_J1_charAt_3b067 {X Y : Nat → Int → Int} {R : Nat → Int → Option Nat} {k9 : Nat} (b : Int) (hb : rI b) (hp : 0 ≤ b ∧ b < ((zKl.getD k9 0 : Nat) : Int)) : F_J1_charAt_3b067 k9 X Y R b := by
  unfold F_J1_charAt_3b067
  intro hX hY
  refine ⟨?_, ?_⟩
  · first | omega | exact ⟨by omega, by omega⟩ | decide | assumption | exact ⟨by omega, by omega, by omega⟩ | exact ⟨by decide, by decide⟩
  intro h1
  refine ⟨?_, ?_⟩
  · first | omega | exact ⟨by omega, by omega⟩ | decide | assumption | exact ⟨by omega, by omega, by omega⟩ | exact ⟨by decide, by decide⟩
  refine ⟨?_, ?_⟩
  · exact ky_z hp
  refine ⟨?_, ?_⟩
  · exact ky_z hp
  first | rfl | trivial
theorem c_J1_charAt_3b067 {l : Launch} {D : va_G} {cy : Nat → ClassId} {bs N : Nat} {sa : Nat → Nat} {kd len : Nat → Nat} {X Y : Nat → Int → Int} {R : Nat → Int → Option Nat} {k9 : Nat} (hk9 : k9 < 14) (b : Int) (hb : rI b) (hp : 0 ≤ b ∧ b < ((zKl.getD k9 0 : Nat) : Int)) : Met l yJ1_charAt_3b067 (.code yJ1_charAt_3b067 cJ1_charAt_3b067 2 (some .char) :: zTB) (zRm 2 43) (zPc D cy bs sa N kd len X Y R [.ref (sa (3 + 14 + k9)), .int (zI (b))]) (zQi D cy bs N kd len (fun r st => r = zAnd (kyB k9 (b)) 255 ∧ st = (X, Y, R))) 0 0 (zA bs) := w_J1_charAt_3b067 hk9 b hb (v_J1_charAt_3b067 b hb hp)
abbrev cJ0_charAt_5068e : ByteArray := prog_16_method_56_code
def yJ0_charAt_5068e : MethodName := ⟨"java/lang/String", "charAt", "(I)C"⟩
theorem dJ0_charAt_5068e_0 : decode cJ0_charAt_5068e 0 = .ok (.aload_n 0, 1) := by decide +kernel
theorem dJ0_charAt_5068e_1 : decode cJ0_charAt_5068e 1 = .ok (.invokevirtual 492, 3) := by decide +kernel
theorem dJ0_charAt_5068e_4 : decode cJ0_charAt_5068e 4 = .ok (.ifCond .eq 12, 3) := by decide +kernel
theorem dJ0_charAt_5068e_7 : decode cJ0_charAt_5068e 7 = .ok (.aload_n 0, 1) := by decide +kernel
theorem dJ0_charAt_5068e_8 : decode cJ0_charAt_5068e 8 = .ok (.getfield 9, 3) := by decide +kernel
theorem dJ0_charAt_5068e_11 : decode cJ0_charAt_5068e 11 = .ok (.iload_n 1, 1) := by decide +kernel
theorem dJ0_charAt_5068e_12 : decode cJ0_charAt_5068e 12 = .ok (.invokestatic 495, 3) := by decide +kernel
theorem dJ0_charAt_5068e_15 : decode cJ0_charAt_5068e 15 = .ok (.ireturn, 1) := by decide +kernel
theorem dJ0_charAt_5068e_16 : decode cJ0_charAt_5068e 16 = .ok (.aload_n 0, 1) := by decide +kernel
theorem dJ0_charAt_5068e_17 : decode cJ0_charAt_5068e 17 = .ok (.getfield 9, 3) := by decide +kernel
theorem dJ0_charAt_5068e_20 : decode cJ0_charAt_5068e 20 = .ok (.iload_n 1, 1) := by decide +kernel
theorem dJ0_charAt_5068e_21 : decode cJ0_charAt_5068e 21 = .ok (.invokestatic 498, 3) := by decide +kernel
theorem dJ0_charAt_5068e_24 : decode cJ0_charAt_5068e 24 = .ok (.ireturn, 1) := by decide +kernel
theorem q_685 : Cond.methodLink RJ0 492 yJ0_isLatin1_aae02 ∈ zTB := zmem 685 (by decide +kernel) rfl
theorem q_686 : Cond.instanceMethod yJ0_isLatin1_aae02 ∈ zTB := zmem 686 (by decide +kernel) rfl
theorem q_687 : Cond.selects RJ0 yJ0_isLatin1_aae02 yJ0_isLatin1_aae02 ∈ zTB := zmem 687 (by decide +kernel) rfl
theorem q_688 : Cond.code yJ0_isLatin1_aae02 cJ0_isLatin1_aae02 1 (some .boolean) ∈ zTB := zmem 688 (by decide +kernel) rfl
theorem k_RJ0_492 : zLv RJ0 492 RJ0 yJ0_isLatin1_aae02 cJ0_isLatin1_aae02 1 (some .boolean) 0 := ⟨⟨q_685, q_686, q_687, q_142, q_688⟩, rfl, ⟨by decide, by decide⟩, by decide +kernel⟩
theorem q_690 : Cond.static yJ1_charAt_3b067 ∈ zTB := zmem 690 (by decide +kernel) rfl
theorem q_143 : Cond.initialized yJ1_charAt_3b067.cls ∈ zTB := zmem 143 (by decide +kernel) rfl
theorem q_691 : Cond.code yJ1_charAt_3b067 cJ1_charAt_3b067 2 (some .char) ∈ zTB := zmem 691 (by decide +kernel) rfl
theorem q_689 : Cond.methodLink RJ0 495 yJ1_charAt_3b067 ∈ zTB := zmem 689 (by decide +kernel) rfl
theorem k_RJ0_495 : zLs RJ0 495 yJ1_charAt_3b067 cJ1_charAt_3b067 2 (some .char) 2 := ⟨⟨q_689, q_690, q_143, q_691⟩, ⟨by decide, by decide⟩, by decide +kernel⟩
def F_J0_charAt_5068e (k9 : Nat) (X Y : Nat → Int → Int) (R : Nat → Int → Option Nat) (a : Int) : Prop := (∀ i j, rI (X i j)) → (∀ i j, rL (Y i j)) → ((true = false) → ((False) ∧ (True))) ∧ ((true = true) → ((0 ≤ (a) ∧ (a) < ((zKl.getD k9 0 : Nat) : Int)) ∧ (rI (zAnd (kyB k9 (a)) 255) → ((0 ≤ (zAnd (kyB k9 (a)) 255) ∧ (zAnd (kyB k9 (a)) 255) < 65536) ∧ (zAnd (kyB k9 (a)) 255 = zAnd (kyB k9 (a)) 255)))))
set_option maxHeartbeats 4000000 in
set_option maxRecDepth 100000 in
theorem w_J0_charAt_5068e {l : Launch} {D : va_G} {cy : Nat → ClassId} {bs N : Nat} {sa : Nat → Nat} {kd len : Nat → Nat} {X Y : Nat → Int → Int} {R : Nat → Int → Option Nat} {k9 : Nat} (hk9 : k9 < 14) (a : Int) (ha : rI a) (hF : F_J0_charAt_5068e k9 X Y R a) : Met l yJ0_charAt_5068e (.code yJ0_charAt_5068e cJ0_charAt_5068e 2 (some .char) :: zTB) (zRm 3 64) (zPc D cy bs sa N kd len X Y R [.ref (sa (3 + k9)), .int (zI (a))]) (zQi D cy bs N kd len (fun r st => r = zAnd (kyB k9 (a)) 255 ∧ st = (X, Y, R))) 0 0 (zA bs) := by
  refine zstart (by decide) (Nat.le_of_ble_eq_true rfl) ?_
  intro p e s m args below meth c ls C hE hH hr hlk hnm hl hargs
  have hF := hF hH.2.2.1 hH.2.2.2
  have hS : va_S (zA bs) s.heap s.heap [] := va_S.rf
  have hl : lv_has ls 2 [(0, .ref (sa (3 + k9))), (1, .int (zI (a)))] := hl
  refine lv_aload_n C.1 C.2.1 dJ0_charAt_5068e_0 rfl (lv_at hl 0 rfl) ?_
  refine zgoi (zrunT (As := []) (rest := []) C hE hH hS hl.1 (c_J0_isLatin1_aae02 (l := l) hk9 ) k_RJ0_492 ⟨Nat.le_of_ble_eq_true rfl, Nat.le_of_ble_eq_true rfl⟩ hk9 rfl rfl (Nat.le_of_ble_eq_true rfl) dJ0_charAt_5068e_1 ⟨Nat.zero_le _, Nat.zero_le _⟩) hS (fun rq Xq Yq Rq H locs hrq hq hH hS => ?_)
  obtain ⟨h91, h92⟩ := hq
  have h93 : Xq = X := congrArg (fun z => z.1) h92
  have h94 : Yq = Y := congrArg (fun z => z.2.1) h92
  have h95 : Rq = R := congrArg (fun z => z.2.2) h92
  rw [h93, h94, h95] at hH
  subst h91
  refine zd_ifB_eq C 16 dJ0_charAt_5068e_4 (by decide) (fun c1 => ?_) (fun c1 => ?_)
  · have hF := hF.1 c1
    refine lv_aload_n C.1 C.2.1 dJ0_charAt_5068e_16 rfl (lv_at hl 0 rfl) ?_
    refine zd_strv C hE hS hk9 q_2043 dJ0_charAt_5068e_17 ?_
    refine lv_iload_n C.1 C.2.1 dJ0_charAt_5068e_20 rfl (lv_at hl 1 rfl) ?_
    obtain ⟨o2, hF⟩ := hF
    exact o2.elim
  · have hF := hF.2 c1
    refine lv_aload_n C.1 C.2.1 dJ0_charAt_5068e_7 rfl (lv_at hl 0 rfl) ?_
    refine zd_strv C hE hS hk9 q_2043 dJ0_charAt_5068e_8 ?_
    refine lv_iload_n C.1 C.2.1 dJ0_charAt_5068e_11 rfl (lv_at hl 1 rfl) ?_
    obtain ⟨o3, hF⟩ := hF
    refine zgoi (zrunS (As := [.ref (sa (3 + 14 + k9)), .int (zI (a))]) (rest := []) C hE hH hS hl.1 (c_J1_charAt_3b067 (l := l) hk9 (a) ha o3) k_RJ0_495 ⟨Nat.le_of_ble_eq_true rfl, Nat.le_of_ble_eq_true rfl⟩ rfl (Nat.le_of_ble_eq_true rfl) dJ0_charAt_5068e_12 ⟨Nat.zero_le _, Nat.zero_le _⟩) hS (fun rq Xq Yq Rq H locs hrq hq hH hS => ?_)
    obtain ⟨h91, h92⟩ := hq
    have h93 : Xq = X := congrArg (fun z => z.1) h92
    have h94 : Yq = Y := congrArg (fun z => z.2.1) h92
    have h95 : Rq = R := congrArg (fun z => z.2.2) h92
    rw [h93, h94, h95] at hH
    subst h91
    have hr4 := hrq
    have hF := hF hr4
    obtain ⟨o5, hF⟩ := hF
    exact zd_cret C hr hlk hH hS o5 (⟨hF, rfl⟩) dJ0_charAt_5068e_15
theorem v_J0_charAt_5068e {X Y : Nat → Int → Int} {R : Nat → Int → Option Nat} {k9 : Nat} (a : Int) (ha : rI a) (hp : 0 ≤ a ∧ a < ((zKl.getD k9 0 : Nat) : Int)) : F_J0_charAt_5068e k9 X Y R a := by
  unfold F_J0_charAt_5068e
  intro hX hY
  refine ⟨?_, ?_⟩
  · intro c1
    exact absurd c1 (by decide)
  intro c2
  refine ⟨?_, ?_⟩
  · first | omega | exact ⟨by omega, by omega⟩ | decide | assumption | exact ⟨by omega, by omega, by omega⟩ | exact ⟨by decide, by decide⟩
  intro _
  refine ⟨?_, ?_⟩
  · exact ky_z hp
  first | rfl | trivial
theorem c_J0_charAt_5068e {l : Launch} {D : va_G} {cy : Nat → ClassId} {bs N : Nat} {sa : Nat → Nat} {kd len : Nat → Nat} {X Y : Nat → Int → Int} {R : Nat → Int → Option Nat} {k9 : Nat} (hk9 : k9 < 14) (a : Int) (ha : rI a) (hp : 0 ≤ a ∧ a < ((zKl.getD k9 0 : Nat) : Int)) : Met l yJ0_charAt_5068e (.code yJ0_charAt_5068e cJ0_charAt_5068e 2 (some .char) :: zTB) (zRm 3 64) (zPc D cy bs sa N kd len X Y R [.ref (sa (3 + k9)), .int (zI (a))]) (zQi D cy bs N kd len (fun r st => r = zAnd (kyB k9 (a)) 255 ∧ st = (X, Y, R))) 0 0 (zA bs) := w_J0_charAt_5068e hk9 a ha (v_J0_charAt_5068e a ha hp)
