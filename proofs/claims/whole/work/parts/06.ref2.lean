/-- of the net, of a block: what the reference's rows hold -/
def mG (X : Nat → Int → Int) (i : Nat) (t : Int) : Int := X (i + 6) (13 * X i 24 + t)
def mC (X : Nat → Int → Int) (i : Nat) (k w : Int) : Int := X (i + 7) (183 * X i 25 + 1 + 13 * (k - 1) + w)
def mPar (X : Nat → Int → Int) (i : Nat) (k : Int) : Int := if k = 0 then -1 else mC X i k 0
def mTim (X : Nat → Int → Int) (i : Nat) (k : Int) : Int := if k = 0 then 0 else mC X i k 1
abbrev oN (X : Nat → Int → Int) (i : Nat) : Prop := 0 ≤ X i 24 ∧ X i 24 ≤ 1
abbrev oC (X : Nat → Int → Int) (i : Nat) : Prop := 0 ≤ X i 25 ∧ X i 25 ≤ 1
abbrev cX11_ofNet : ByteArray := prog_13_method_37_code
def yX11_ofNet : MethodName := ⟨RX11, "ofNet", "(I)I"⟩
theorem dX11_ofNet_0 : decode cX11_ofNet 0 = .ok (.aload_n 0, 1) := by decide +kernel
theorem dX11_ofNet_1 : decode cX11_ofNet 1 = .ok (.getfield 26, 3) := by decide +kernel
theorem dX11_ofNet_4 : decode cX11_ofNet 4 = .ok (.bipush 13, 2) := by decide +kernel
theorem dX11_ofNet_6 : decode cX11_ofNet 6 = .ok (.aload_n 0, 1) := by decide +kernel
theorem dX11_ofNet_7 : decode cX11_ofNet 7 = .ok (.getfield 249, 3) := by decide +kernel
theorem dX11_ofNet_10 : decode cX11_ofNet 10 = .ok (.imul, 1) := by decide +kernel
theorem dX11_ofNet_11 : decode cX11_ofNet 11 = .ok (.iload_n 1, 1) := by decide +kernel
theorem dX11_ofNet_12 : decode cX11_ofNet 12 = .ok (.iadd, 1) := by decide +kernel
theorem dX11_ofNet_13 : decode cX11_ofNet 13 = .ok (.iaload, 1) := by decide +kernel
theorem dX11_ofNet_14 : decode cX11_ofNet 14 = .ok (.ireturn, 1) := by decide +kernel
theorem q_1293 : Cond.fieldLink RX11 26 RX11 "nets" "[I" ∈ zTB := zmem 1293 (by decide +kernel) rfl
theorem q_1311 : Cond.fieldLink RX11 249 RX11 "net" "I" ∈ zTB := zmem 1311 (by decide +kernel) rfl
def F_X11_ofNet (i : Nat) (X Y : Nat → Int → Int) (R : Nat → Int → Option Nat) (a : Int) : Prop := (∀ i j, rI (X i j)) → (∀ i j, rL (Y i j)) → (0 ≤ ((13 * (X (i) 24)) + a) ∧ ((13 * (X (i) 24)) + a) < 104) ∧ (X (i + 6) ((13 * (X (i) 24)) + a) = mG X i (a))
set_option maxHeartbeats 4000000 in
set_option maxRecDepth 100000 in
theorem w_X11_ofNet {l : Launch} {D : va_G} {cy : Nat → ClassId} {bs N : Nat} {sa : Nat → Nat} {kd len : Nat → Nat} {X Y : Nat → Int → Int} {R : Nat → Int → Option Nat} {i : Nat} (hM : zM N kd len R i) (a : Int) (ha : rI a) (hF : F_X11_ofNet i X Y R a) : Met l yX11_ofNet (.code yX11_ofNet cX11_ofNet 2 (some .int) :: zTB) (zRm 0 0) (zPc D cy bs sa N kd len X Y R [.ref (bs + (i)), .int (zI (a))]) (zQi D cy bs N kd len (fun r st => r = mG X i (a) ∧ st = (X, Y, R))) 0 0 (zA bs) := by
  refine zstart (by decide) (Nat.le_of_ble_eq_true rfl) ?_
  intro p e s m args below meth c ls C hE hH hr hlk hnm hl hargs
  have hF := hF hH.2.2.1 hH.2.2.2
  have hS : va_S (zA bs) s.heap s.heap [] := va_S.rf
  have hl : lv_has ls 2 [(0, .ref (bs + (i))), (1, .int (zI (a)))] := hl
  refine lv_aload_n C.1 C.2.1 dX11_ofNet_0 rfl (lv_at hl 0 rfl) ?_
  refine zg11_6 C hH (zM_n0 hM) (zM_k0 hM) q_1293 (zM_r6 hM) dX11_ofNet_1 ?_
  refine zd_bipush C (by decide) dX11_ofNet_4 ?_
  refine lv_aload_n C.1 C.2.1 dX11_ofNet_6 rfl (lv_at hl 0 rfl) ?_
  refine zg11_24 C hH (zM_n0 hM) (zM_k0 hM) q_1311 dX11_ofNet_7 ?_
  refine zd_imul C dX11_ofNet_10 ?_
  refine lv_iload_n C.1 C.2.1 dX11_ofNet_11 rfl (lv_at hl 1 rfl) ?_
  refine zd_iadd C dX11_ofNet_12 ?_
  obtain ⟨o1, hF⟩ := hF
  refine zd_iald C hH (zM_n6 hM) (zM_k6 hM) o1.1 (by rw [zM_l6 hM]; exact o1.2) (by rw [zM_l6 hM]; decide) dX11_ofNet_13 ?_
  exact zd_iret C hr hlk hH hS (hH.2.2.1 _ _) (⟨hF, rfl⟩) dX11_ofNet_14
theorem v_X11_ofNet {X Y : Nat → Int → Int} {R : Nat → Int → Option Nat} {i : Nat} (a : Int) (ha : rI a) (hp : oN X i ∧ 0 ≤ a ∧ a ≤ 12) : F_X11_ofNet i X Y R a := by
  unfold F_X11_ofNet
  intro hX hY
  obtain ⟨⟨h1, h2⟩, h3, h4⟩ := hp
  exact ⟨⟨by omega, by omega⟩, rfl⟩
theorem c_X11_ofNet {l : Launch} {D : va_G} {cy : Nat → ClassId} {bs N : Nat} {sa : Nat → Nat} {kd len : Nat → Nat} {X Y : Nat → Int → Int} {R : Nat → Int → Option Nat} {i : Nat} (hM : zM N kd len R i) (a : Int) (ha : rI a) (hp : oN X i ∧ 0 ≤ a ∧ a ≤ 12) : Met l yX11_ofNet (.code yX11_ofNet cX11_ofNet 2 (some .int) :: zTB) (zRm 0 0) (zPc D cy bs sa N kd len X Y R [.ref (bs + (i)), .int (zI (a))]) (zQi D cy bs N kd len (fun r st => r = mG X i (a) ∧ st = (X, Y, R))) 0 0 (zA bs) := w_X11_ofNet hM a ha (v_X11_ofNet a ha hp)
abbrev cX11_ofBlock : ByteArray := prog_13_method_40_code
def yX11_ofBlock : MethodName := ⟨RX11, "ofBlock", "(II)I"⟩
theorem dX11_ofBlock_0 : decode cX11_ofBlock 0 = .ok (.aload_n 0, 1) := by decide +kernel
theorem dX11_ofBlock_1 : decode cX11_ofBlock 1 = .ok (.getfield 29, 3) := by decide +kernel
theorem dX11_ofBlock_4 : decode cX11_ofBlock 4 = .ok (.sipush 183, 3) := by decide +kernel
theorem dX11_ofBlock_7 : decode cX11_ofBlock 7 = .ok (.aload_n 0, 1) := by decide +kernel
theorem dX11_ofBlock_8 : decode cX11_ofBlock 8 = .ok (.getfield 252, 3) := by decide +kernel
theorem dX11_ofBlock_11 : decode cX11_ofBlock 11 = .ok (.imul, 1) := by decide +kernel
theorem dX11_ofBlock_12 : decode cX11_ofBlock 12 = .ok (.iconst 1, 1) := by decide +kernel
theorem dX11_ofBlock_13 : decode cX11_ofBlock 13 = .ok (.iadd, 1) := by decide +kernel
theorem dX11_ofBlock_14 : decode cX11_ofBlock 14 = .ok (.bipush 13, 2) := by decide +kernel
theorem dX11_ofBlock_16 : decode cX11_ofBlock 16 = .ok (.iload_n 1, 1) := by decide +kernel
theorem dX11_ofBlock_17 : decode cX11_ofBlock 17 = .ok (.iconst 1, 1) := by decide +kernel
theorem dX11_ofBlock_18 : decode cX11_ofBlock 18 = .ok (.isub, 1) := by decide +kernel
theorem dX11_ofBlock_19 : decode cX11_ofBlock 19 = .ok (.imul, 1) := by decide +kernel
theorem dX11_ofBlock_20 : decode cX11_ofBlock 20 = .ok (.iadd, 1) := by decide +kernel
theorem dX11_ofBlock_21 : decode cX11_ofBlock 21 = .ok (.iload_n 2, 1) := by decide +kernel
theorem dX11_ofBlock_22 : decode cX11_ofBlock 22 = .ok (.iadd, 1) := by decide +kernel
theorem dX11_ofBlock_23 : decode cX11_ofBlock 23 = .ok (.iaload, 1) := by decide +kernel
theorem dX11_ofBlock_24 : decode cX11_ofBlock 24 = .ok (.ireturn, 1) := by decide +kernel
theorem q_1294 : Cond.fieldLink RX11 29 RX11 "chains" "[I" ∈ zTB := zmem 1294 (by decide +kernel) rfl
theorem q_1312 : Cond.fieldLink RX11 252 RX11 "chain" "I" ∈ zTB := zmem 1312 (by decide +kernel) rfl
def F_X11_ofBlock (i : Nat) (X Y : Nat → Int → Int) (R : Nat → Int → Option Nat) (a : Int) (b : Int) : Prop := (∀ i j, rI (X i j)) → (∀ i j, rL (Y i j)) → (0 ≤ ((((183 * (X (i) 25)) + 1) + (13 * (a - 1))) + b) ∧ ((((183 * (X (i) 25)) + 1) + (13 * (a - 1))) + b) < 1464) ∧ (X (i + 7) ((((183 * (X (i) 25)) + 1) + (13 * (a - 1))) + b) = mC X i (a) (b))
set_option maxHeartbeats 4000000 in
set_option maxRecDepth 100000 in
theorem w_X11_ofBlock {l : Launch} {D : va_G} {cy : Nat → ClassId} {bs N : Nat} {sa : Nat → Nat} {kd len : Nat → Nat} {X Y : Nat → Int → Int} {R : Nat → Int → Option Nat} {i : Nat} (hM : zM N kd len R i) (a : Int) (ha : rI a) (b : Int) (hb : rI b) (hF : F_X11_ofBlock i X Y R a b) : Met l yX11_ofBlock (.code yX11_ofBlock cX11_ofBlock 3 (some .int) :: zTB) (zRm 0 0) (zPc D cy bs sa N kd len X Y R [.ref (bs + (i)), .int (zI (a)), .int (zI (b))]) (zQi D cy bs N kd len (fun r st => r = mC X i (a) (b) ∧ st = (X, Y, R))) 0 0 (zA bs) := by
  refine zstart (by decide) (Nat.le_of_ble_eq_true rfl) ?_
  intro p e s m args below meth c ls C hE hH hr hlk hnm hl hargs
  have hF := hF hH.2.2.1 hH.2.2.2
  have hS : va_S (zA bs) s.heap s.heap [] := va_S.rf
  have hl : lv_has ls 3 [(0, .ref (bs + (i))), (1, .int (zI (a))), (2, .int (zI (b)))] := hl
  refine lv_aload_n C.1 C.2.1 dX11_ofBlock_0 rfl (lv_at hl 0 rfl) ?_
  refine zg11_7 C hH (zM_n0 hM) (zM_k0 hM) q_1294 (zM_r7 hM) dX11_ofBlock_1 ?_
  refine zd_sipush C (by decide) dX11_ofBlock_4 ?_
  refine lv_aload_n C.1 C.2.1 dX11_ofBlock_7 rfl (lv_at hl 0 rfl) ?_
  refine zg11_25 C hH (zM_n0 hM) (zM_k0 hM) q_1312 dX11_ofBlock_8 ?_
  refine zd_imul C dX11_ofBlock_11 ?_
  refine zd_iconst C dX11_ofBlock_12 ?_
  refine zd_iadd C dX11_ofBlock_13 ?_
  refine zd_bipush C (by decide) dX11_ofBlock_14 ?_
  refine lv_iload_n C.1 C.2.1 dX11_ofBlock_16 rfl (lv_at hl 1 rfl) ?_
  refine zd_iconst C dX11_ofBlock_17 ?_
  refine zd_isub C dX11_ofBlock_18 ?_
  refine zd_imul C dX11_ofBlock_19 ?_
  refine zd_iadd C dX11_ofBlock_20 ?_
  refine lv_iload_n C.1 C.2.1 dX11_ofBlock_21 rfl (lv_at hl 2 rfl) ?_
  refine zd_iadd C dX11_ofBlock_22 ?_
  obtain ⟨o1, hF⟩ := hF
  refine zd_iald C hH (zM_n7 hM) (zM_k7 hM) o1.1 (by rw [zM_l7 hM]; exact o1.2) (by rw [zM_l7 hM]; decide) dX11_ofBlock_23 ?_
  exact zd_iret C hr hlk hH hS (hH.2.2.1 _ _) (⟨hF, rfl⟩) dX11_ofBlock_24
theorem v_X11_ofBlock {X Y : Nat → Int → Int} {R : Nat → Int → Option Nat} {i : Nat} (a : Int) (ha : rI a) (b : Int) (hb : rI b) (hp : oC X i ∧ 1 ≤ a ∧ a ≤ 14 ∧ 0 ≤ b ∧ b ≤ 12) : F_X11_ofBlock i X Y R a b := by
  unfold F_X11_ofBlock
  intro hX hY
  obtain ⟨⟨h1, h2⟩, h3, h4, h5, h6⟩ := hp
  exact ⟨⟨by omega, by omega⟩, rfl⟩
theorem c_X11_ofBlock {l : Launch} {D : va_G} {cy : Nat → ClassId} {bs N : Nat} {sa : Nat → Nat} {kd len : Nat → Nat} {X Y : Nat → Int → Int} {R : Nat → Int → Option Nat} {i : Nat} (hM : zM N kd len R i) (a : Int) (ha : rI a) (b : Int) (hb : rI b) (hp : oC X i ∧ 1 ≤ a ∧ a ≤ 14 ∧ 0 ≤ b ∧ b ≤ 12) : Met l yX11_ofBlock (.code yX11_ofBlock cX11_ofBlock 3 (some .int) :: zTB) (zRm 0 0) (zPc D cy bs sa N kd len X Y R [.ref (bs + (i)), .int (zI (a)), .int (zI (b))]) (zQi D cy bs N kd len (fun r st => r = mC X i (a) (b) ∧ st = (X, Y, R))) 0 0 (zA bs) := w_X11_ofBlock hM a ha b hb (v_X11_ofBlock a ha b hb hp)
abbrev cX11_parentOf : ByteArray := prog_13_method_41_code
def yX11_parentOf : MethodName := ⟨RX11, "parentOf", "(I)I"⟩
theorem dX11_parentOf_0 : decode cX11_parentOf 0 = .ok (.iload_n 1, 1) := by decide +kernel
theorem dX11_parentOf_1 : decode cX11_parentOf 1 = .ok (.ifCond .ne 7, 3) := by decide +kernel
theorem dX11_parentOf_4 : decode cX11_parentOf 4 = .ok (.iconst (-1), 1) := by decide +kernel
theorem dX11_parentOf_5 : decode cX11_parentOf 5 = .ok (.goto 9, 3) := by decide +kernel
theorem dX11_parentOf_8 : decode cX11_parentOf 8 = .ok (.aload_n 0, 1) := by decide +kernel
theorem dX11_parentOf_9 : decode cX11_parentOf 9 = .ok (.iload_n 1, 1) := by decide +kernel
theorem dX11_parentOf_10 : decode cX11_parentOf 10 = .ok (.iconst 0, 1) := by decide +kernel
theorem dX11_parentOf_11 : decode cX11_parentOf 11 = .ok (.invokevirtual 258, 3) := by decide +kernel
theorem dX11_parentOf_14 : decode cX11_parentOf 14 = .ok (.ireturn, 1) := by decide +kernel
theorem q_1641 : Cond.methodLink RX11 258 yX11_ofBlock ∈ zTB := zmem 1641 (by decide +kernel) rfl
theorem q_1643 : Cond.instanceMethod yX11_ofBlock ∈ zTB := zmem 1643 (by decide +kernel) rfl
theorem q_61 : Cond.selects RX11 yX11_ofBlock yX11_ofBlock ∈ zTB := zmem 61 (by decide +kernel) rfl
theorem q_1644 : Cond.code yX11_ofBlock cX11_ofBlock 3 (some .int) ∈ zTB := zmem 1644 (by decide +kernel) rfl
theorem k_RX11_258 : zLv RX11 258 RX11 yX11_ofBlock cX11_ofBlock 3 (some .int) 2 := ⟨⟨q_1641, q_1643, q_61, q_140, q_1644⟩, rfl, ⟨by decide, by decide⟩, by decide +kernel⟩
def F_X11_parentOf (i : Nat) (X Y : Nat → Int → Int) (R : Nat → Int → Option Nat) (a : Int) : Prop := (∀ i j, rI (X i j)) → (∀ i j, rL (Y i j)) → ((¬ a = 0) → ((oC X i ∧ 1 ≤ a ∧ a ≤ 14 ∧ 0 ≤ (0 : Int) ∧ (0 : Int) ≤ 12) ∧ (rI (mC X i (a) ((0 : Int))) → (mC X i (a) ((0 : Int)) = mPar X i (a))))) ∧ ((¬ (¬ a = 0)) → ((-1) = mPar X i (a)))
set_option maxHeartbeats 4000000 in
set_option maxRecDepth 100000 in
theorem w_X11_parentOf {l : Launch} {D : va_G} {cy : Nat → ClassId} {bs N : Nat} {sa : Nat → Nat} {kd len : Nat → Nat} {X Y : Nat → Int → Int} {R : Nat → Int → Option Nat} {i : Nat} (hM : zM N kd len R i) (a : Int) (ha : rI a) (hF : F_X11_parentOf i X Y R a) : Met l yX11_parentOf (.code yX11_parentOf cX11_parentOf 2 (some .int) :: zTB) (zRm 1 22) (zPc D cy bs sa N kd len X Y R [.ref (bs + (i)), .int (zI (a))]) (zQi D cy bs N kd len (fun r st => r = mPar X i (a) ∧ st = (X, Y, R))) 0 0 (zA bs) := by
  refine zstart (by decide) (Nat.le_of_ble_eq_true rfl) ?_
  intro p e s m args below meth c ls C hE hH hr hlk hnm hl hargs
  have hF := hF hH.2.2.1 hH.2.2.2
  have hS : va_S (zA bs) s.heap s.heap [] := va_S.rf
  have hl : lv_has ls 2 [(0, .ref (bs + (i))), (1, .int (zI (a)))] := hl
  refine lv_iload_n C.1 C.2.1 dX11_parentOf_0 rfl (lv_at hl 1 rfl) ?_
  refine zd_if_ne C ha 8 dX11_parentOf_1 (by decide) (fun c1 => ?_) (fun c1 => ?_)
  · have hF := hF.1 c1
    refine lv_aload_n C.1 C.2.1 dX11_parentOf_8 rfl (lv_at hl 0 rfl) ?_
    refine lv_iload_n C.1 C.2.1 dX11_parentOf_9 rfl (lv_at hl 1 rfl) ?_
    refine zd_iconst C dX11_parentOf_10 ?_
    obtain ⟨o2, hF⟩ := hF
    refine zgoi (zrunV (As := [.int (zI (a)), .int (zI (0))]) (rest := []) C hE hH hS hl.1 (c_X11_ofBlock (l := l) hM (a) ha (0) (by decide) o2) k_RX11_258 ⟨Nat.le_of_ble_eq_true rfl, Nat.le_of_ble_eq_true rfl⟩ (zM_n0 hM) (zM_k0 hM) rfl rfl rfl (Nat.le_of_ble_eq_true rfl) dX11_parentOf_11 ⟨Nat.zero_le _, Nat.zero_le _⟩) hS (fun rq Xq Yq Rq H locs hrq hq hH hS => ?_)
    obtain ⟨h91, h92⟩ := hq
    have h93 : Xq = X := congrArg (fun z => z.1) h92
    have h94 : Yq = Y := congrArg (fun z => z.2.1) h92
    have h95 : Rq = R := congrArg (fun z => z.2.2) h92
    rw [h93, h94, h95] at hH
    subst h91
    have hr3 := hrq
    have hF := hF hr3
    exact zd_iret C hr hlk hH hS hr3 (⟨hF, rfl⟩) dX11_parentOf_14
  · have hF := hF.2 c1
    refine zd_iconst C dX11_parentOf_4 ?_
    refine lv_goto (tgt := 14) C.1 C.2.1 dX11_parentOf_5 (by decide) ?_
    exact zd_iret C hr hlk hH hS (by decide) (⟨hF, rfl⟩) dX11_parentOf_14
theorem v_X11_parentOf {X Y : Nat → Int → Int} {R : Nat → Int → Option Nat} {i : Nat} (a : Int) (ha : rI a) (hp : oC X i ∧ 0 ≤ a ∧ a ≤ 14) : F_X11_parentOf i X Y R a := by
  unfold F_X11_parentOf
  intro hX hY
  obtain ⟨h1, h3, h4⟩ := hp
  refine ⟨fun h => ?_, fun h => ?_⟩
  · exact ⟨⟨h1, by omega, by omega, by decide, by decide⟩, fun _ => by simp [mPar, h]⟩
  · simp only [Decidable.not_not] at h
    simp [mPar, h]
theorem c_X11_parentOf {l : Launch} {D : va_G} {cy : Nat → ClassId} {bs N : Nat} {sa : Nat → Nat} {kd len : Nat → Nat} {X Y : Nat → Int → Int} {R : Nat → Int → Option Nat} {i : Nat} (hM : zM N kd len R i) (a : Int) (ha : rI a) (hp : oC X i ∧ 0 ≤ a ∧ a ≤ 14) : Met l yX11_parentOf (.code yX11_parentOf cX11_parentOf 2 (some .int) :: zTB) (zRm 1 22) (zPc D cy bs sa N kd len X Y R [.ref (bs + (i)), .int (zI (a))]) (zQi D cy bs N kd len (fun r st => r = mPar X i (a) ∧ st = (X, Y, R))) 0 0 (zA bs) := w_X11_parentOf hM a ha (v_X11_parentOf a ha hp)
abbrev cX11_timeOf : ByteArray := prog_13_method_42_code
def yX11_timeOf : MethodName := ⟨RX11, "timeOf", "(I)I"⟩
theorem dX11_timeOf_0 : decode cX11_timeOf 0 = .ok (.iload_n 1, 1) := by decide +kernel
theorem dX11_timeOf_1 : decode cX11_timeOf 1 = .ok (.ifCond .ne 7, 3) := by decide +kernel
theorem dX11_timeOf_4 : decode cX11_timeOf 4 = .ok (.iconst 0, 1) := by decide +kernel
theorem dX11_timeOf_5 : decode cX11_timeOf 5 = .ok (.goto 9, 3) := by decide +kernel
theorem dX11_timeOf_8 : decode cX11_timeOf 8 = .ok (.aload_n 0, 1) := by decide +kernel
theorem dX11_timeOf_9 : decode cX11_timeOf 9 = .ok (.iload_n 1, 1) := by decide +kernel
theorem dX11_timeOf_10 : decode cX11_timeOf 10 = .ok (.iconst 1, 1) := by decide +kernel
theorem dX11_timeOf_11 : decode cX11_timeOf 11 = .ok (.invokevirtual 258, 3) := by decide +kernel
theorem dX11_timeOf_14 : decode cX11_timeOf 14 = .ok (.ireturn, 1) := by decide +kernel
def F_X11_timeOf (i : Nat) (X Y : Nat → Int → Int) (R : Nat → Int → Option Nat) (a : Int) : Prop := (∀ i j, rI (X i j)) → (∀ i j, rL (Y i j)) → ((¬ a = 0) → ((oC X i ∧ 1 ≤ a ∧ a ≤ 14 ∧ 0 ≤ (1 : Int) ∧ (1 : Int) ≤ 12) ∧ (rI (mC X i (a) ((1 : Int))) → (mC X i (a) ((1 : Int)) = mTim X i (a))))) ∧ ((¬ (¬ a = 0)) → (0 = mTim X i (a)))
set_option maxHeartbeats 4000000 in
set_option maxRecDepth 100000 in
theorem w_X11_timeOf {l : Launch} {D : va_G} {cy : Nat → ClassId} {bs N : Nat} {sa : Nat → Nat} {kd len : Nat → Nat} {X Y : Nat → Int → Int} {R : Nat → Int → Option Nat} {i : Nat} (hM : zM N kd len R i) (a : Int) (ha : rI a) (hF : F_X11_timeOf i X Y R a) : Met l yX11_timeOf (.code yX11_timeOf cX11_timeOf 2 (some .int) :: zTB) (zRm 1 22) (zPc D cy bs sa N kd len X Y R [.ref (bs + (i)), .int (zI (a))]) (zQi D cy bs N kd len (fun r st => r = mTim X i (a) ∧ st = (X, Y, R))) 0 0 (zA bs) := by
  refine zstart (by decide) (Nat.le_of_ble_eq_true rfl) ?_
  intro p e s m args below meth c ls C hE hH hr hlk hnm hl hargs
  have hF := hF hH.2.2.1 hH.2.2.2
  have hS : va_S (zA bs) s.heap s.heap [] := va_S.rf
  have hl : lv_has ls 2 [(0, .ref (bs + (i))), (1, .int (zI (a)))] := hl
  refine lv_iload_n C.1 C.2.1 dX11_timeOf_0 rfl (lv_at hl 1 rfl) ?_
  refine zd_if_ne C ha 8 dX11_timeOf_1 (by decide) (fun c1 => ?_) (fun c1 => ?_)
  · have hF := hF.1 c1
    refine lv_aload_n C.1 C.2.1 dX11_timeOf_8 rfl (lv_at hl 0 rfl) ?_
    refine lv_iload_n C.1 C.2.1 dX11_timeOf_9 rfl (lv_at hl 1 rfl) ?_
    refine zd_iconst C dX11_timeOf_10 ?_
    obtain ⟨o2, hF⟩ := hF
    refine zgoi (zrunV (As := [.int (zI (a)), .int (zI (1))]) (rest := []) C hE hH hS hl.1 (c_X11_ofBlock (l := l) hM (a) ha (1) (by decide) o2) k_RX11_258 ⟨Nat.le_of_ble_eq_true rfl, Nat.le_of_ble_eq_true rfl⟩ (zM_n0 hM) (zM_k0 hM) rfl rfl rfl (Nat.le_of_ble_eq_true rfl) dX11_timeOf_11 ⟨Nat.zero_le _, Nat.zero_le _⟩) hS (fun rq Xq Yq Rq H locs hrq hq hH hS => ?_)
    obtain ⟨h91, h92⟩ := hq
    have h93 : Xq = X := congrArg (fun z => z.1) h92
    have h94 : Yq = Y := congrArg (fun z => z.2.1) h92
    have h95 : Rq = R := congrArg (fun z => z.2.2) h92
    rw [h93, h94, h95] at hH
    subst h91
    have hr3 := hrq
    have hF := hF hr3
    exact zd_iret C hr hlk hH hS hr3 (⟨hF, rfl⟩) dX11_timeOf_14
  · have hF := hF.2 c1
    refine zd_iconst C dX11_timeOf_4 ?_
    refine lv_goto (tgt := 14) C.1 C.2.1 dX11_timeOf_5 (by decide) ?_
    exact zd_iret C hr hlk hH hS (by decide) (⟨hF, rfl⟩) dX11_timeOf_14
theorem v_X11_timeOf {X Y : Nat → Int → Int} {R : Nat → Int → Option Nat} {i : Nat} (a : Int) (ha : rI a) (hp : oC X i ∧ 0 ≤ a ∧ a ≤ 14) : F_X11_timeOf i X Y R a := by
  unfold F_X11_timeOf
  intro hX hY
  obtain ⟨h1, h3, h4⟩ := hp
  refine ⟨fun h => ?_, fun h => ?_⟩
  · exact ⟨⟨h1, by omega, by omega, by decide, by decide⟩, fun _ => by simp [mTim, h]⟩
  · simp only [Decidable.not_not] at h
    simp [mTim, h]
theorem c_X11_timeOf {l : Launch} {D : va_G} {cy : Nat → ClassId} {bs N : Nat} {sa : Nat → Nat} {kd len : Nat → Nat} {X Y : Nat → Int → Int} {R : Nat → Int → Option Nat} {i : Nat} (hM : zM N kd len R i) (a : Int) (ha : rI a) (hp : oC X i ∧ 0 ≤ a ∧ a ≤ 14) : Met l yX11_timeOf (.code yX11_timeOf cX11_timeOf 2 (some .int) :: zTB) (zRm 1 22) (zPc D cy bs sa N kd len X Y R [.ref (bs + (i)), .int (zI (a))]) (zQi D cy bs N kd len (fun r st => r = mTim X i (a) ∧ st = (X, Y, R))) 0 0 (zA bs) := w_X11_timeOf hM a ha (v_X11_timeOf a ha hp)
abbrev cX11_isBlock : ByteArray := prog_13_method_43_code
def yX11_isBlock : MethodName := ⟨RX11, "isBlock", "(I)Z"⟩
theorem dX11_isBlock_0 : decode cX11_isBlock 0 = .ok (.iload_n 1, 1) := by decide +kernel
theorem dX11_isBlock_1 : decode cX11_isBlock 1 = .ok (.iconst 0, 1) := by decide +kernel
theorem dX11_isBlock_2 : decode cX11_isBlock 2 = .ok (.aload_n 0, 1) := by decide +kernel
theorem dX11_isBlock_3 : decode cX11_isBlock 3 = .ok (.getfield 255, 3) := by decide +kernel
theorem dX11_isBlock_6 : decode cX11_isBlock 6 = .ok (.iconst 1, 1) := by decide +kernel
theorem dX11_isBlock_7 : decode cX11_isBlock 7 = .ok (.isub, 1) := by decide +kernel
theorem dX11_isBlock_8 : decode cX11_isBlock 8 = .ok (.invokestatic 100, 3) := by decide +kernel
theorem dX11_isBlock_11 : decode cX11_isBlock 11 = .ok (.ireturn, 1) := by decide +kernel
theorem q_1314 : Cond.fieldLink RX11 255 RX11 "blocks" "I" ∈ zTB := zmem 1314 (by decide +kernel) rfl
def F_X11_isBlock (i : Nat) (X Y : Nat → Int → Int) (R : Nat → Int → Option Nat) (a : Int) : Prop := (∀ i j, rI (X i j)) → (∀ i j, rL (Y i j)) → (rI ((X (i) 27) - 1)) ∧ (bz (mIn (a) ((0 : Int)) ((X (i) 27) - 1)) = bz (mIn (a) 0 (X i 27 - 1)))
set_option maxHeartbeats 4000000 in
set_option maxRecDepth 100000 in
theorem w_X11_isBlock {l : Launch} {D : va_G} {cy : Nat → ClassId} {bs N : Nat} {sa : Nat → Nat} {kd len : Nat → Nat} {X Y : Nat → Int → Int} {R : Nat → Int → Option Nat} {i : Nat} (hM : zM N kd len R i) (a : Int) (ha : rI a) (hF : F_X11_isBlock i X Y R a) : Met l yX11_isBlock (.code yX11_isBlock cX11_isBlock 2 (some .boolean) :: zTB) (zRm 1 22) (zPc D cy bs sa N kd len X Y R [.ref (bs + (i)), .int (zI (a))]) (zQi D cy bs N kd len (fun r st => r = bz (mIn (a) 0 (X i 27 - 1)) ∧ st = (X, Y, R))) 0 0 (zA bs) := by
  refine zstart (by decide) (Nat.le_of_ble_eq_true rfl) ?_
  intro p e s m args below meth c ls C hE hH hr hlk hnm hl hargs
  have hF := hF hH.2.2.1 hH.2.2.2
  have hS : va_S (zA bs) s.heap s.heap [] := va_S.rf
  have hl : lv_has ls 2 [(0, .ref (bs + (i))), (1, .int (zI (a)))] := hl
  refine lv_iload_n C.1 C.2.1 dX11_isBlock_0 rfl (lv_at hl 1 rfl) ?_
  refine zd_iconst C dX11_isBlock_1 ?_
  refine lv_aload_n C.1 C.2.1 dX11_isBlock_2 rfl (lv_at hl 0 rfl) ?_
  refine zg11_27 C hH (zM_n0 hM) (zM_k0 hM) q_1314 dX11_isBlock_3 ?_
  refine zd_iconst C dX11_isBlock_6 ?_
  refine zd_isub C dX11_isBlock_7 ?_
  obtain ⟨o1, hF⟩ := hF
  refine zgoi (zrunS (As := [.int (zI (a)), .int (zI (0)), .int (zI ((X (i) 27) - 1))]) (rest := []) C hE hH hS hl.1 (c_X11_in (l := l)  (a) ha (0) (by decide) ((X (i) 27) - 1) o1) k_RX11_100 ⟨Nat.le_of_ble_eq_true rfl, Nat.le_of_ble_eq_true rfl⟩ rfl (Nat.le_of_ble_eq_true rfl) dX11_isBlock_8 ⟨Nat.zero_le _, Nat.zero_le _⟩) hS (fun rq Xq Yq Rq H locs hrq hq hH hS => ?_)
  obtain ⟨h91, h92⟩ := hq
  have h93 : Xq = X := congrArg (fun z => z.1) h92
  have h94 : Yq = Y := congrArg (fun z => z.2.1) h92
  have h95 : Rq = R := congrArg (fun z => z.2.2) h92
  rw [h93, h94, h95] at hH
  subst h91
  exact zd_zret C hr hlk hH hS bz_01 (⟨hF, rfl⟩) dX11_isBlock_11
theorem v_X11_isBlock {X Y : Nat → Int → Int} {R : Nat → Int → Option Nat} {i : Nat} (a : Int) (ha : rI a) (hp : 0 ≤ X i 27) : F_X11_isBlock i X Y R a := by
  unfold F_X11_isBlock
  intro hX hY
  have := hX i 27
  exact ⟨⟨by omega, by omega⟩, rfl⟩
theorem c_X11_isBlock {l : Launch} {D : va_G} {cy : Nat → ClassId} {bs N : Nat} {sa : Nat → Nat} {kd len : Nat → Nat} {X Y : Nat → Int → Int} {R : Nat → Int → Option Nat} {i : Nat} (hM : zM N kd len R i) (a : Int) (ha : rI a) (hp : 0 ≤ X i 27) : Met l yX11_isBlock (.code yX11_isBlock cX11_isBlock 2 (some .boolean) :: zTB) (zRm 1 22) (zPc D cy bs sa N kd len X Y R [.ref (bs + (i)), .int (zI (a))]) (zQi D cy bs N kd len (fun r st => r = bz (mIn (a) 0 (X i 27 - 1)) ∧ st = (X, Y, R))) 0 0 (zA bs) := w_X11_isBlock hM a ha (v_X11_isBlock a ha hp)
abbrev cX11_isAccount : ByteArray := prog_13_method_44_code
def yX11_isAccount : MethodName := ⟨RX11, "isAccount", "(I)Z"⟩
theorem dX11_isAccount_0 : decode cX11_isAccount 0 = .ok (.iload_n 1, 1) := by decide +kernel
theorem dX11_isAccount_1 : decode cX11_isAccount 1 = .ok (.iconst 0, 1) := by decide +kernel
theorem dX11_isAccount_2 : decode cX11_isAccount 2 = .ok (.aload_n 0, 1) := by decide +kernel
theorem dX11_isAccount_3 : decode cX11_isAccount 3 = .ok (.getfield 261, 3) := by decide +kernel
theorem dX11_isAccount_6 : decode cX11_isAccount 6 = .ok (.iconst 1, 1) := by decide +kernel
theorem dX11_isAccount_7 : decode cX11_isAccount 7 = .ok (.isub, 1) := by decide +kernel
theorem dX11_isAccount_8 : decode cX11_isAccount 8 = .ok (.invokestatic 100, 3) := by decide +kernel
theorem dX11_isAccount_11 : decode cX11_isAccount 11 = .ok (.ireturn, 1) := by decide +kernel
theorem q_1313 : Cond.fieldLink RX11 261 RX11 "accounts" "I" ∈ zTB := zmem 1313 (by decide +kernel) rfl
def F_X11_isAccount (i : Nat) (X Y : Nat → Int → Int) (R : Nat → Int → Option Nat) (a : Int) : Prop := (∀ i j, rI (X i j)) → (∀ i j, rL (Y i j)) → (rI ((X (i) 26) - 1)) ∧ (bz (mIn (a) ((0 : Int)) ((X (i) 26) - 1)) = bz (mIn (a) 0 (X i 26 - 1)))
set_option maxHeartbeats 4000000 in
set_option maxRecDepth 100000 in
theorem w_X11_isAccount {l : Launch} {D : va_G} {cy : Nat → ClassId} {bs N : Nat} {sa : Nat → Nat} {kd len : Nat → Nat} {X Y : Nat → Int → Int} {R : Nat → Int → Option Nat} {i : Nat} (hM : zM N kd len R i) (a : Int) (ha : rI a) (hF : F_X11_isAccount i X Y R a) : Met l yX11_isAccount (.code yX11_isAccount cX11_isAccount 2 (some .boolean) :: zTB) (zRm 1 22) (zPc D cy bs sa N kd len X Y R [.ref (bs + (i)), .int (zI (a))]) (zQi D cy bs N kd len (fun r st => r = bz (mIn (a) 0 (X i 26 - 1)) ∧ st = (X, Y, R))) 0 0 (zA bs) := by
  refine zstart (by decide) (Nat.le_of_ble_eq_true rfl) ?_
  intro p e s m args below meth c ls C hE hH hr hlk hnm hl hargs
  have hF := hF hH.2.2.1 hH.2.2.2
  have hS : va_S (zA bs) s.heap s.heap [] := va_S.rf
  have hl : lv_has ls 2 [(0, .ref (bs + (i))), (1, .int (zI (a)))] := hl
  refine lv_iload_n C.1 C.2.1 dX11_isAccount_0 rfl (lv_at hl 1 rfl) ?_
  refine zd_iconst C dX11_isAccount_1 ?_
  refine lv_aload_n C.1 C.2.1 dX11_isAccount_2 rfl (lv_at hl 0 rfl) ?_
  refine zg11_26 C hH (zM_n0 hM) (zM_k0 hM) q_1313 dX11_isAccount_3 ?_
  refine zd_iconst C dX11_isAccount_6 ?_
  refine zd_isub C dX11_isAccount_7 ?_
  obtain ⟨o1, hF⟩ := hF
  refine zgoi (zrunS (As := [.int (zI (a)), .int (zI (0)), .int (zI ((X (i) 26) - 1))]) (rest := []) C hE hH hS hl.1 (c_X11_in (l := l)  (a) ha (0) (by decide) ((X (i) 26) - 1) o1) k_RX11_100 ⟨Nat.le_of_ble_eq_true rfl, Nat.le_of_ble_eq_true rfl⟩ rfl (Nat.le_of_ble_eq_true rfl) dX11_isAccount_8 ⟨Nat.zero_le _, Nat.zero_le _⟩) hS (fun rq Xq Yq Rq H locs hrq hq hH hS => ?_)
  obtain ⟨h91, h92⟩ := hq
  have h93 : Xq = X := congrArg (fun z => z.1) h92
  have h94 : Yq = Y := congrArg (fun z => z.2.1) h92
  have h95 : Rq = R := congrArg (fun z => z.2.2) h92
  rw [h93, h94, h95] at hH
  subst h91
  exact zd_zret C hr hlk hH hS bz_01 (⟨hF, rfl⟩) dX11_isAccount_11
theorem v_X11_isAccount {X Y : Nat → Int → Int} {R : Nat → Int → Option Nat} {i : Nat} (a : Int) (ha : rI a) (hp : 0 ≤ X i 26) : F_X11_isAccount i X Y R a := by
  unfold F_X11_isAccount
  intro hX hY
  have := hX i 26
  exact ⟨⟨by omega, by omega⟩, rfl⟩
theorem c_X11_isAccount {l : Launch} {D : va_G} {cy : Nat → ClassId} {bs N : Nat} {sa : Nat → Nat} {kd len : Nat → Nat} {X Y : Nat → Int → Int} {R : Nat → Int → Option Nat} {i : Nat} (hM : zM N kd len R i) (a : Int) (ha : rI a) (hp : 0 ≤ X i 26) : Met l yX11_isAccount (.code yX11_isAccount cX11_isAccount 2 (some .boolean) :: zTB) (zRm 1 22) (zPc D cy bs sa N kd len X Y R [.ref (bs + (i)), .int (zI (a))]) (zQi D cy bs N kd len (fun r st => r = bz (mIn (a) 0 (X i 26 - 1)) ∧ st = (X, Y, R))) 0 0 (zA bs) := w_X11_isAccount hM a ha (v_X11_isAccount a ha hp)
/-- what the told blocks keep: a parent is less -/
def oB (X : Nat → Int → Int) (i : Nat) (n : Int) : Prop := oC X i ∧ n ≤ 14 ∧ ∀ k, 1 ≤ k → k ≤ n → 0 ≤ mC X i k 0 ∧ mC X i k 0 < k
/-- so many ahead; -1 -/
def mAh (X : Nat → Int → Int) (i : Nat) (k : Int) : Nat → Int
  | 0 => k
  | n + 1 => if mAh X i k n = -1 then -1 else mPar X i (mAh X i k n)
theorem mAh_b {X : Nat → Int → Int} {i : Nat} {m k : Int} (h : oB X i m) (h0 : 0 ≤ k) (h1 : k ≤ m) : ∀ n, -1 ≤ mAh X i k n ∧ mAh X i k n ≤ k
  | 0 => ⟨by unfold mAh; omega, by unfold mAh; omega⟩
  | n + 1 => by
    have ih := mAh_b h h0 h1 n
    unfold mAh
    split
    · exact ⟨by omega, by omega⟩
    · unfold mPar
      split
      · exact ⟨by omega, by omega⟩
      · have := h.2.2 (mAh X i k n) (by omega) (by omega)
        exact ⟨by omega, by omega⟩
theorem mAh_no {X : Nat → Int → Int} {i : Nat} {k : Int} {m : Nat} (h : mAh X i k m = -1) : ∀ n, mAh X i k (m + n) = -1
  | 0 => h
  | n + 1 => by
    show (if mAh X i k (m + n) = -1 then -1 else _) = (-1 : Int)
    rw [if_pos (mAh_no h n)]
abbrev cX11_aheadOf : ByteArray := prog_13_method_45_code
def yX11_aheadOf : MethodName := ⟨RX11, "aheadOf", "(II)I"⟩
theorem dX11_aheadOf_0 : decode cX11_aheadOf 0 = .ok (.iload_n 1, 1) := by decide +kernel
theorem dX11_aheadOf_1 : decode cX11_aheadOf 1 = .ok (.istore_n 3, 1) := by decide +kernel
theorem dX11_aheadOf_2 : decode cX11_aheadOf 2 = .ok (.iconst 0, 1) := by decide +kernel
theorem dX11_aheadOf_3 : decode cX11_aheadOf 3 = .ok (.istore 4, 2) := by decide +kernel
theorem dX11_aheadOf_5 : decode cX11_aheadOf 5 = .ok (.iload 4, 2) := by decide +kernel
theorem dX11_aheadOf_7 : decode cX11_aheadOf 7 = .ok (.iload_n 2, 1) := by decide +kernel
theorem dX11_aheadOf_8 : decode cX11_aheadOf 8 = .ok (.if_icmp .ge 20, 3) := by decide +kernel
theorem dX11_aheadOf_11 : decode cX11_aheadOf 11 = .ok (.iload_n 3, 1) := by decide +kernel
theorem dX11_aheadOf_12 : decode cX11_aheadOf 12 = .ok (.iconst (-1), 1) := by decide +kernel
theorem dX11_aheadOf_13 : decode cX11_aheadOf 13 = .ok (.if_icmp .eq 15, 3) := by decide +kernel
theorem dX11_aheadOf_16 : decode cX11_aheadOf 16 = .ok (.aload_n 0, 1) := by decide +kernel
theorem dX11_aheadOf_17 : decode cX11_aheadOf 17 = .ok (.iload_n 3, 1) := by decide +kernel
theorem dX11_aheadOf_18 : decode cX11_aheadOf 18 = .ok (.invokevirtual 264, 3) := by decide +kernel
theorem dX11_aheadOf_21 : decode cX11_aheadOf 21 = .ok (.istore_n 3, 1) := by decide +kernel
theorem dX11_aheadOf_22 : decode cX11_aheadOf 22 = .ok (.iinc 4 1, 3) := by decide +kernel
theorem dX11_aheadOf_25 : decode cX11_aheadOf 25 = .ok (.goto (-20), 3) := by decide +kernel
theorem dX11_aheadOf_28 : decode cX11_aheadOf 28 = .ok (.iload_n 3, 1) := by decide +kernel
theorem dX11_aheadOf_29 : decode cX11_aheadOf 29 = .ok (.ireturn, 1) := by decide +kernel
theorem q_1677 : Cond.methodLink RX11 264 yX11_parentOf ∈ zTB := zmem 1677 (by decide +kernel) rfl
theorem q_1679 : Cond.instanceMethod yX11_parentOf ∈ zTB := zmem 1679 (by decide +kernel) rfl
theorem q_68 : Cond.selects RX11 yX11_parentOf yX11_parentOf ∈ zTB := zmem 68 (by decide +kernel) rfl
theorem q_1680 : Cond.code yX11_parentOf cX11_parentOf 2 (some .int) ∈ zTB := zmem 1680 (by decide +kernel) rfl
theorem k_RX11_264 : zLv RX11 264 RX11 yX11_parentOf cX11_parentOf 2 (some .int) 1 := ⟨⟨q_1677, q_1679, q_68, q_140, q_1680⟩, rfl, ⟨by decide, by decide⟩, by decide +kernel⟩
def F_X11_aheadOf (i : Nat) (X Y : Nat → Int → Int) (R : Nat → Int → Option Nat) (a : Int) (b : Int) : Prop := (∀ i j, rI (X i j)) → (∀ i j, rL (Y i j)) → (∃ q : Nat, (0 : Int) = q ∧ ((0 : Int) ≤ b ∨ q = 0) ∧ a = mAh X i a q) ∧ (∀ (at_ : Int) (j : Int), rI at_ → rI j → (∃ q : Nat, j = q ∧ (j ≤ b ∨ q = 0) ∧ at_ = mAh X i a q) → (((b ≤ j) → (at_ = mAh X i (a) (b).toNat)) ∧ ((¬ (b ≤ j)) → (((at_ = (-1)) → (at_ = mAh X i (a) (b).toNat)) ∧ ((¬ (at_ = (-1))) → ((oC X i ∧ 0 ≤ at_ ∧ at_ ≤ 14) ∧ (rI (mPar X i (at_)) → ((rI (j + 1)) ∧ (∃ q : Nat, j + 1 = q ∧ (j + 1 ≤ b ∨ q = 0) ∧ mPar X i (at_) = mAh X i a q) ∧ (((b - (j + 1)).toNat) < ((b - (j)).toNat))))))))))
set_option maxHeartbeats 4000000 in
set_option maxRecDepth 100000 in
theorem w_X11_aheadOf {l : Launch} {D : va_G} {cy : Nat → ClassId} {bs N : Nat} {sa : Nat → Nat} {kd len : Nat → Nat} {X Y : Nat → Int → Int} {R : Nat → Int → Option Nat} {i : Nat} (hM : zM N kd len R i) (a : Int) (ha : rI a) (b : Int) (hb : rI b) (hF : F_X11_aheadOf i X Y R a b) : Met l yX11_aheadOf (.code yX11_aheadOf cX11_aheadOf 5 (some .int) :: zTB) (zRm 2 43) (zPc D cy bs sa N kd len X Y R [.ref (bs + (i)), .int (zI (a)), .int (zI (b))]) (zQi D cy bs N kd len (fun r st => r = mAh X i (a) (b).toNat ∧ st = (X, Y, R))) 0 0 (zA bs) := by
  refine zstart (by decide) (Nat.le_of_ble_eq_true rfl) ?_
  intro p e s m args below meth c ls C hE hH hr hlk hnm hl hargs
  have hF := hF hH.2.2.1 hH.2.2.2
  have hS : va_S (zA bs) s.heap s.heap [] := va_S.rf
  have hl : lv_has ls 5 [(0, .ref (bs + (i))), (1, .int (zI (a))), (2, .int (zI (b)))] := hl
  refine lv_iload_n C.1 C.2.1 dX11_aheadOf_0 rfl (lv_at hl 1 rfl) ?_
  refine lv_istore_n (lv' := [(3, .int (zI (a))), (0, .ref (bs + (i))), (1, .int (zI (a))), (2, .int (zI (b)))]) C.1 C.2.1 dX11_aheadOf_1 rfl hl (by decide) rfl (fun ls hl => ?_)
  refine zd_iconst C dX11_aheadOf_2 ?_
  refine lv_istore (lv' := [(4, .int (zI (0))), (3, .int (zI (a))), (0, .ref (bs + (i))), (1, .int (zI (a))), (2, .int (zI (b)))]) C.1 C.2.1 dX11_aheadOf_3 hl (by decide) rfl (fun ls hl => ?_)
  obtain ⟨hI1, hF⟩ := hF
  have L1 : ∀ (fu : Nat) (at_ : Int) (j : Int), rI at_ → rI j → (∃ q : Nat, j = q ∧ (j ≤ b ∨ q = 0) ∧ at_ = mAh X i a q) → ((b - (j)).toNat) < fu → ∀ (H : Heap) (locs : List Loc) (ls : Array Slot), zH D cy bs N kd len X Y R H → va_S (zA bs) s.heap H locs → lv_has ls 5 [(3, .int (zI (at_))), (4, .int (zI (j))), (0, .ref (bs + (i))), (1, .int (zI (a))), (2, .int (zI (b)))] → W p l e (zRm 2 43) s m args below meth c H locs 0 0 (MQ below (zQi D cy bs N kd len (fun r st => r = mAh X i (a) (b).toNat ∧ st = (X, Y, R))) args s 0 0 (zA bs)) (F0 m 5 ls []) := by
    intro fu
    induction fu with
    | zero => intro at_ j _ _ _ hmu; exact absurd hmu (Nat.not_lt_zero _)
    | succ fu ih1 =>
      intro at_ j hat_ hj hI hmu1 H locs ls hH hS hl
      have hF := hF at_ j hat_ hj  hI
      refine lv_iload C.1 C.2.1 dX11_aheadOf_5 (lv_at hl 1 rfl) ?_
      refine lv_iload_n C.1 C.2.1 dX11_aheadOf_7 rfl (lv_at hl 4 rfl) ?_
      refine zd_icmp_ge C hj hb 28 dX11_aheadOf_8 (by decide) (fun c2 => ?_) (fun c2 => ?_)
      · have hF := hF.1 c2
        refine lv_iload_n C.1 C.2.1 dX11_aheadOf_28 rfl (lv_at hl 0 rfl) ?_
        exact zd_iret C hr hlk hH hS hat_ (⟨hF, rfl⟩) dX11_aheadOf_29
      · have hF := hF.2 c2
        refine lv_iload_n C.1 C.2.1 dX11_aheadOf_11 rfl (lv_at hl 0 rfl) ?_
        refine zd_iconst C dX11_aheadOf_12 ?_
        refine zd_icmp_eq C hat_ (by decide) 28 dX11_aheadOf_13 (by decide) (fun c3 => ?_) (fun c3 => ?_)
        · have hF := hF.1 c3
          refine lv_iload_n C.1 C.2.1 dX11_aheadOf_28 rfl (lv_at hl 0 rfl) ?_
          exact zd_iret C hr hlk hH hS hat_ (⟨hF, rfl⟩) dX11_aheadOf_29
        · have hF := hF.2 c3
          refine lv_aload_n C.1 C.2.1 dX11_aheadOf_16 rfl (lv_at hl 2 rfl) ?_
          refine lv_iload_n C.1 C.2.1 dX11_aheadOf_17 rfl (lv_at hl 0 rfl) ?_
          obtain ⟨o4, hF⟩ := hF
          refine zgoi (zrunV (As := [.int (zI (at_))]) (rest := []) C hE hH hS hl.1 (c_X11_parentOf (l := l) hM (at_) hat_ o4) k_RX11_264 ⟨Nat.le_of_ble_eq_true rfl, Nat.le_of_ble_eq_true rfl⟩ (zM_n0 hM) (zM_k0 hM) rfl rfl rfl (Nat.le_of_ble_eq_true rfl) dX11_aheadOf_18 ⟨Nat.zero_le _, Nat.zero_le _⟩) hS (fun rq Xq Yq Rq H locs hrq hq hH hS => ?_)
          obtain ⟨h91, h92⟩ := hq
          have h93 : Xq = X := congrArg (fun z => z.1) h92
          have h94 : Yq = Y := congrArg (fun z => z.2.1) h92
          have h95 : Rq = R := congrArg (fun z => z.2.2) h92
          rw [h93, h94, h95] at hH
          subst h91
          have hr5 := hrq
          have hF := hF hr5
          refine lv_istore_n (lv' := [(3, .int (zI (mPar X i (at_)))), (4, .int (zI (j))), (0, .ref (bs + (i))), (1, .int (zI (a))), (2, .int (zI (b)))]) C.1 C.2.1 dX11_aheadOf_21 rfl hl (by decide) rfl (fun ls hl => ?_)
          refine zd_iinc (k := 1) (lv' := [(4, .int (zI (j + 1))), (3, .int (zI (mPar X i (at_)))), (0, .ref (bs + (i))), (1, .int (zI (a))), (2, .int (zI (b)))]) C hl rfl dX11_aheadOf_22 (by decide) rfl (fun ls hl => ?_)
          refine lv_goto (tgt := 5) C.1 C.2.1 dX11_aheadOf_25 (by decide) ?_
          obtain ⟨o6, hF⟩ := hF
          exact ih1 (mPar X i (at_)) (j + 1) hr5 o6 hF.1 (Nat.lt_of_lt_of_le hF.2 (Nat.le_of_lt_succ hmu1)) _ _ _ hH hS (lv_sub hl [1, 0, 2, 3, 4] rfl)
  exact L1 (((b - ((0 : Int))).toNat) + 1) (a) ((0 : Int)) ha (by decide) hI1 (Nat.lt_succ_self _) _ _ _ hH hS (lv_sub hl [1, 0, 2, 3, 4] rfl)
theorem v_X11_aheadOf {X Y : Nat → Int → Int} {R : Nat → Int → Option Nat} {i : Nat} (a : Int) (ha : rI a) (b : Int) (hb : rI b) (hp : (∃ m, oB X i m ∧ a ≤ m) ∧ 0 ≤ a) : F_X11_aheadOf i X Y R a b := by
  unfold F_X11_aheadOf
  intro hX hY
  obtain ⟨⟨m, hB, hm⟩, h0⟩ := hp
  refine ⟨⟨0, rfl, Or.inr rfl, rfl⟩, ?_⟩
  rintro at_ j hat hj ⟨q, rfl, hq, rfl⟩
  have hb2 := mAh_b hB h0 hm
  have h14 := hB.2.1
  refine ⟨fun h => ?_, fun h => ⟨fun h2 => ?_, fun h2 => ?_⟩⟩
  · rcases hq with hq | hq
    · rw [show b.toNat = q by omega]
    · subst hq
      rw [show b.toNat = 0 by omega]
  · rw [h2]
    have := mAh_no h2 (b.toNat - q)
    rw [show q + (b.toNat - q) = b.toNat by omega] at this
    exact this.symm
  · have hbq := hb2 q
    refine ⟨⟨hB.1, by omega, by omega⟩, fun hr => ⟨⟨by omega, by omega⟩, ⟨q + 1, by omega, Or.inl (by omega), ?_⟩, by omega⟩⟩
    show _ = (if mAh X i a q = -1 then -1 else mPar X i (mAh X i a q))
    rw [if_neg h2]
theorem c_X11_aheadOf {l : Launch} {D : va_G} {cy : Nat → ClassId} {bs N : Nat} {sa : Nat → Nat} {kd len : Nat → Nat} {X Y : Nat → Int → Int} {R : Nat → Int → Option Nat} {i : Nat} (hM : zM N kd len R i) (a : Int) (ha : rI a) (b : Int) (hb : rI b) (hp : (∃ m, oB X i m ∧ a ≤ m) ∧ 0 ≤ a) : Met l yX11_aheadOf (.code yX11_aheadOf cX11_aheadOf 5 (some .int) :: zTB) (zRm 2 43) (zPc D cy bs sa N kd len X Y R [.ref (bs + (i)), .int (zI (a)), .int (zI (b))]) (zQi D cy bs N kd len (fun r st => r = mAh X i (a) (b).toNat ∧ st = (X, Y, R))) 0 0 (zA bs) := w_X11_aheadOf hM a ha b hb (v_X11_aheadOf a ha b hb hp)
