/-- the way to a block -/
def onW (P : Nat → Nat) : Nat → Nat → Bool := pr P (fun j => decide (j = 0)) (fun k x j => decide (j = k) || x j)
theorem onW_s {P : Nat → Nat} {k : Nat} (h : P k < k) (j : Nat) : onW P k j = (decide (j = k) || onW P (P k) j) := by
  unfold onW
  rw [pr_s h]
theorem onW_0 {P : Nat → Nat} (j : Nat) : onW P 0 j = decide (j = 0) := by
  unfold onW
  rw [pr_0]
theorem onW_le {P : Nat → Nat} {n : Nat} (hP : sPar P n) : ∀ k, k ≤ n → ∀ j, onW P k j = true → j ≤ k :=
  pr_ind hP (fun (k : Nat) (x : Nat → Bool) => ∀ j, x j = true → j ≤ k) (fun j h => by have := of_decide_eq_true h; omega) (fun k x k1 k2 hx j h => by
    have := hP k k1 k2
    rcases (Bool.or_eq_true _ _).mp h with h | h
    · have := of_decide_eq_true h
      omega
    · have := hx j h
      omega)
/-- as bits -/
abbrev rWy (X : Nat → Int → Int) (i k : Nat) : Int := bS (onW (rP X i) k) 15
theorem zb_wy {X : Nat → Int → Int} {i n k j : Nat} (hP : sPar (rP X i) n) (hn : n ≤ 14) (hk : k ≤ n) (hj : j < 32) : zb (rWy X i k) j = onW (rP X i) k j := by
  unfold rWy
  rw [zb_bS _ _ _ (by decide) hj]
  cases e : onW (rP X i) k j with
  | false => rw [Bool.and_false]
  | true =>
    have := onW_le hP k hk j e
    rw [decide_eq_true (by omega), Bool.and_true]
/-- the last of a set -/
def mLst (s : Int) : Nat → Int
  | 0 => -1
  | n + 1 => if mHas s n then n else mLst s n
theorem mLst_b (s : Int) : ∀ n, -1 ≤ mLst s n ∧ mLst s n < n
  | 0 => ⟨by unfold mLst; omega, by unfold mLst; omega⟩
  | n + 1 => by
    have := mLst_b s n
    unfold mLst
    split
    · exact ⟨by omega, by omega⟩
    · exact ⟨by omega, by omega⟩
abbrev cX11_wayTo : ByteArray := prog_13_method_62_code
def yX11_wayTo : MethodName := ⟨RX11, "wayTo", "(I)I"⟩
theorem dX11_wayTo_0 : decode cX11_wayTo 0 = .ok (.iconst 0, 1) := by decide +kernel
theorem dX11_wayTo_1 : decode cX11_wayTo 1 = .ok (.istore_n 2, 1) := by decide +kernel
theorem dX11_wayTo_2 : decode cX11_wayTo 2 = .ok (.iload_n 1, 1) := by decide +kernel
theorem dX11_wayTo_3 : decode cX11_wayTo 3 = .ok (.istore_n 3, 1) := by decide +kernel
theorem dX11_wayTo_4 : decode cX11_wayTo 4 = .ok (.iload_n 3, 1) := by decide +kernel
theorem dX11_wayTo_5 : decode cX11_wayTo 5 = .ok (.iconst (-1), 1) := by decide +kernel
theorem dX11_wayTo_6 : decode cX11_wayTo 6 = .ok (.if_icmp .eq 18, 3) := by decide +kernel
theorem dX11_wayTo_9 : decode cX11_wayTo 9 = .ok (.iload_n 2, 1) := by decide +kernel
theorem dX11_wayTo_10 : decode cX11_wayTo 10 = .ok (.iconst 1, 1) := by decide +kernel
theorem dX11_wayTo_11 : decode cX11_wayTo 11 = .ok (.iload_n 3, 1) := by decide +kernel
theorem dX11_wayTo_12 : decode cX11_wayTo 12 = .ok (.ishl, 1) := by decide +kernel
theorem dX11_wayTo_13 : decode cX11_wayTo 13 = .ok (.ior, 1) := by decide +kernel
theorem dX11_wayTo_14 : decode cX11_wayTo 14 = .ok (.istore_n 2, 1) := by decide +kernel
theorem dX11_wayTo_15 : decode cX11_wayTo 15 = .ok (.aload_n 0, 1) := by decide +kernel
theorem dX11_wayTo_16 : decode cX11_wayTo 16 = .ok (.iload_n 3, 1) := by decide +kernel
theorem dX11_wayTo_17 : decode cX11_wayTo 17 = .ok (.invokevirtual 264, 3) := by decide +kernel
theorem dX11_wayTo_20 : decode cX11_wayTo 20 = .ok (.istore_n 3, 1) := by decide +kernel
theorem dX11_wayTo_21 : decode cX11_wayTo 21 = .ok (.goto (-17), 3) := by decide +kernel
theorem dX11_wayTo_24 : decode cX11_wayTo 24 = .ok (.iload_n 2, 1) := by decide +kernel
theorem dX11_wayTo_25 : decode cX11_wayTo 25 = .ok (.ireturn, 1) := by decide +kernel
def F_X11_wayTo (i : Nat) (X Y : Nat → Int → Int) (R : Nat → Int → Option Nat) (a : Int) : Prop := (∀ i j, rI (X i j)) → (∀ i j, rL (Y i j)) → ((-1 ≤ a ∧ a ≤ a) ∧ ∀ j, j < 32 → onW (rP X i) a.toNat j = (zb ((0 : Int)) j || (decide (0 ≤ a) && onW (rP X i) (a).toNat j))) ∧ (∀ (set_ : Int) (at_ : Int), rI set_ → rI at_ → ((-1 ≤ at_ ∧ at_ ≤ a) ∧ ∀ j, j < 32 → onW (rP X i) a.toNat j = (zb (set_) j || (decide (0 ≤ at_) && onW (rP X i) (at_).toNat j))) → (((at_ = (-1)) → (set_ = rWy X i (a).toNat)) ∧ ((¬ (at_ = (-1))) → ((oC X i ∧ 0 ≤ at_ ∧ at_ ≤ 14) ∧ (rI (mPar X i (at_)) → (((-1 ≤ mPar X i (at_) ∧ mPar X i (at_) ≤ a) ∧ ∀ j, j < 32 → onW (rP X i) a.toNat j = (zb (zOr (set_) (zShl (1) (at_))) j || (decide (0 ≤ mPar X i (at_)) && onW (rP X i) (mPar X i (at_)).toNat j))) ∧ (((mPar X i (at_) + 1).toNat) < ((at_ + 1).toNat))))))))
set_option maxHeartbeats 4000000 in
set_option maxRecDepth 100000 in
theorem w_X11_wayTo {l : Launch} {D : va_G} {cy : Nat → ClassId} {bs N : Nat} {sa : Nat → Nat} {kd len : Nat → Nat} {X Y : Nat → Int → Int} {R : Nat → Int → Option Nat} {i : Nat} (hM : zM N kd len R i) (a : Int) (ha : rI a) (hF : F_X11_wayTo i X Y R a) : Met l yX11_wayTo (.code yX11_wayTo cX11_wayTo 4 (some .int) :: zTB) (zRm 2 43) (zPc D cy bs sa N kd len X Y R [.ref (bs + (i)), .int (zI (a))]) (zQi D cy bs N kd len (fun r st => r = rWy X i (a).toNat ∧ st = (X, Y, R))) 0 0 (zA bs) := by
  refine zstart (by decide) (Nat.le_of_ble_eq_true rfl) ?_
  intro p e s m args below meth c ls C hE hH hr hlk hnm hl hargs
  have hF := hF hH.2.2.1 hH.2.2.2
  have hS : va_S (zA bs) s.heap s.heap [] := va_S.rf
  have hl : lv_has ls 4 [(0, .ref (bs + (i))), (1, .int (zI (a)))] := hl
  refine zd_iconst C dX11_wayTo_0 ?_
  refine lv_istore_n (lv' := [(2, .int (zI (0))), (0, .ref (bs + (i))), (1, .int (zI (a)))]) C.1 C.2.1 dX11_wayTo_1 rfl hl (by decide) rfl (fun ls hl => ?_)
  refine lv_iload_n C.1 C.2.1 dX11_wayTo_2 rfl (lv_at hl 2 rfl) ?_
  refine lv_istore_n (lv' := [(3, .int (zI (a))), (2, .int (zI (0))), (0, .ref (bs + (i))), (1, .int (zI (a)))]) C.1 C.2.1 dX11_wayTo_3 rfl hl (by decide) rfl (fun ls hl => ?_)
  obtain ⟨hI1, hF⟩ := hF
  have L1 : ∀ (fu : Nat) (set_ : Int) (at_ : Int), rI set_ → rI at_ → ((-1 ≤ at_ ∧ at_ ≤ a) ∧ ∀ j, j < 32 → onW (rP X i) a.toNat j = (zb (set_) j || (decide (0 ≤ at_) && onW (rP X i) (at_).toNat j))) → ((at_ + 1).toNat) < fu → ∀ (H : Heap) (locs : List Loc) (ls : Array Slot), zH D cy bs N kd len X Y R H → va_S (zA bs) s.heap H locs → lv_has ls 4 [(2, .int (zI (set_))), (3, .int (zI (at_))), (0, .ref (bs + (i))), (1, .int (zI (a)))] → W p l e (zRm 2 43) s m args below meth c H locs 0 0 (MQ below (zQi D cy bs N kd len (fun r st => r = rWy X i (a).toNat ∧ st = (X, Y, R))) args s 0 0 (zA bs)) (F0 m 4 ls []) := by
    intro fu
    induction fu with
    | zero => intro set_ at_ _ _ _ hmu; exact absurd hmu (Nat.not_lt_zero _)
    | succ fu ih1 =>
      intro set_ at_ hset_ hat_ hI hmu1 H locs ls hH hS hl
      have hF := hF set_ at_ hset_ hat_  hI
      refine lv_iload_n C.1 C.2.1 dX11_wayTo_4 rfl (lv_at hl 1 rfl) ?_
      refine zd_iconst C dX11_wayTo_5 ?_
      refine zd_icmp_eq C hat_ (by decide) 24 dX11_wayTo_6 (by decide) (fun c2 => ?_) (fun c2 => ?_)
      · have hF := hF.1 c2
        refine lv_iload_n C.1 C.2.1 dX11_wayTo_24 rfl (lv_at hl 0 rfl) ?_
        exact zd_iret C hr hlk hH hS hset_ (⟨hF, rfl⟩) dX11_wayTo_25
      · have hF := hF.2 c2
        refine lv_iload_n C.1 C.2.1 dX11_wayTo_9 rfl (lv_at hl 0 rfl) ?_
        refine zd_iconst C dX11_wayTo_10 ?_
        refine lv_iload_n C.1 C.2.1 dX11_wayTo_11 rfl (lv_at hl 1 rfl) ?_
        refine zd_ishl C dX11_wayTo_12 ?_
        refine zd_ior C dX11_wayTo_13 ?_
        refine lv_istore_n (lv' := [(2, .int (zI (zOr (set_) (zShl (1) (at_))))), (3, .int (zI (at_))), (0, .ref (bs + (i))), (1, .int (zI (a)))]) C.1 C.2.1 dX11_wayTo_14 rfl hl (by decide) rfl (fun ls hl => ?_)
        refine lv_aload_n C.1 C.2.1 dX11_wayTo_15 rfl (lv_at hl 2 rfl) ?_
        refine lv_iload_n C.1 C.2.1 dX11_wayTo_16 rfl (lv_at hl 1 rfl) ?_
        obtain ⟨o3, hF⟩ := hF
        refine zgoi (zrunV (As := [.int (zI (at_))]) (rest := []) C hE hH hS hl.1 (c_X11_parentOf (l := l) hM (at_) hat_ o3) k_RX11_264 ⟨Nat.le_of_ble_eq_true rfl, Nat.le_of_ble_eq_true rfl⟩ (zM_n0 hM) (zM_k0 hM) rfl rfl rfl (Nat.le_of_ble_eq_true rfl) dX11_wayTo_17 ⟨Nat.zero_le _, Nat.zero_le _⟩) hS (fun rq Xq Yq Rq H locs hrq hq hH hS => ?_)
        obtain ⟨h91, h92⟩ := hq
        have h93 : Xq = X := congrArg (fun z => z.1) h92
        have h94 : Yq = Y := congrArg (fun z => z.2.1) h92
        have h95 : Rq = R := congrArg (fun z => z.2.2) h92
        rw [h93, h94, h95] at hH
        subst h91
        have hr4 := hrq
        have hF := hF hr4
        refine lv_istore_n (lv' := [(3, .int (zI (mPar X i (at_)))), (2, .int (zI (zOr (set_) (zShl (1) (at_))))), (0, .ref (bs + (i))), (1, .int (zI (a)))]) C.1 C.2.1 dX11_wayTo_20 rfl hl (by decide) rfl (fun ls hl => ?_)
        refine lv_goto (tgt := 4) C.1 C.2.1 dX11_wayTo_21 (by decide) ?_
        exact ih1 (zOr (set_) (zShl (1) (at_))) (mPar X i (at_)) (zI_rg _) hr4 hF.1 (Nat.lt_of_lt_of_le hF.2 (Nat.le_of_lt_succ hmu1)) _ _ _ hH hS (lv_sub hl [1, 0, 2, 3] rfl)
  exact L1 (((a + 1).toNat) + 1) ((0 : Int)) (a) (by decide) ha hI1 (Nat.lt_succ_self _) _ _ _ hH hS (lv_sub hl [1, 0, 2, 3] rfl)
theorem v_X11_wayTo {X Y : Nat → Int → Int} {R : Nat → Int → Option Nat} {i : Nat} (a : Int) (ha : rI a) (hp : ∃ n : Nat, oB X i n ∧ 0 ≤ a ∧ a ≤ n) : F_X11_wayTo i X Y R a := by
  unfold F_X11_wayTo
  intro hX hY
  obtain ⟨n, hB, h0, hn⟩ := hp
  have h14 := hB.2.1
  have hP := rP_par hB
  refine ⟨⟨⟨by omega, by omega⟩, fun j hj => by rw [zb_0, decide_eq_true h0, Bool.false_or, Bool.true_and]⟩, ?_⟩
  rintro set_ at_ rs ra ⟨⟨a1, a2⟩, hj⟩
  refine ⟨fun h => ?_, fun h => ?_⟩
  · refine zb_ext rs (bS_rg _ _) (fun j h32 => ?_)
    rw [zb_wy hP (by omega) (by omega) h32, hj j h32, h, show decide ((0 : Int) ≤ -1) = false from rfl, Bool.false_and, Bool.or_false]
  · have hB2 := aN_b hP (k := at_.toNat) (by omega) 0
    by_cases e0 : at_ = 0
    · subst e0
      have ep : mPar X i 0 = -1 := rfl
      rw [ep]
      refine ⟨⟨hB.1, by decide, by decide⟩, fun _ => ⟨⟨⟨by omega, by omega⟩, fun j h32 => ?_⟩, by decide⟩⟩
      have o1 := zb_one (j := 0) (k := j) (by decide) h32
      rw [hj j h32, zb_or]
      show (zb set_ j || (true && onW (rP X i) 0 j)) = ((zb set_ j || zb (zShl 1 ((0 : Nat) : Int)) j) || (false && _))
      rw [o1, onW_0, Bool.true_and, Bool.false_and, Bool.or_false]
    · obtain ⟨q, hq⟩ : ∃ q : Nat, at_ = q := ⟨at_.toNat, by omega⟩
      subst hq
      have hp := hP q (by omega) (by omega)
      have ep : mPar X i q = rP X i q := rP_c hB (by omega) (by omega)
      rw [ep]
      refine ⟨⟨hB.1, by omega, by omega⟩, fun _ => ⟨⟨⟨by omega, by omega⟩, fun j h32 => ?_⟩, by omega⟩⟩
      rw [hj j h32, zb_or, zb_one (by omega) h32, Int.toNat_natCast, Int.toNat_natCast, onW_s hp, decide_eq_true (show (0 : Int) ≤ (q : Int) by omega), decide_eq_true (show (0 : Int) ≤ ((rP X i q : Nat) : Int) by omega), Bool.true_and, Bool.true_and, Bool.or_assoc]
theorem c_X11_wayTo {l : Launch} {D : va_G} {cy : Nat → ClassId} {bs N : Nat} {sa : Nat → Nat} {kd len : Nat → Nat} {X Y : Nat → Int → Int} {R : Nat → Int → Option Nat} {i : Nat} (hM : zM N kd len R i) (a : Int) (ha : rI a) (hp : ∃ n : Nat, oB X i n ∧ 0 ≤ a ∧ a ≤ n) : Met l yX11_wayTo (.code yX11_wayTo cX11_wayTo 4 (some .int) :: zTB) (zRm 2 43) (zPc D cy bs sa N kd len X Y R [.ref (bs + (i)), .int (zI (a))]) (zQi D cy bs N kd len (fun r st => r = rWy X i (a).toNat ∧ st = (X, Y, R))) 0 0 (zA bs) := w_X11_wayTo hM a ha (v_X11_wayTo a ha hp)
abbrev cX11_lastIn : ByteArray := prog_13_method_63_code
def yX11_lastIn : MethodName := ⟨RX11, "lastIn", "(I)I"⟩
theorem dX11_lastIn_0 : decode cX11_lastIn 0 = .ok (.iconst (-1), 1) := by decide +kernel
theorem dX11_lastIn_1 : decode cX11_lastIn 1 = .ok (.istore_n 1, 1) := by decide +kernel
theorem dX11_lastIn_2 : decode cX11_lastIn 2 = .ok (.iconst 0, 1) := by decide +kernel
theorem dX11_lastIn_3 : decode cX11_lastIn 3 = .ok (.istore_n 2, 1) := by decide +kernel
theorem dX11_lastIn_4 : decode cX11_lastIn 4 = .ok (.iload_n 2, 1) := by decide +kernel
theorem dX11_lastIn_5 : decode cX11_lastIn 5 = .ok (.bipush 15, 2) := by decide +kernel
theorem dX11_lastIn_7 : decode cX11_lastIn 7 = .ok (.if_icmp .ge 23, 3) := by decide +kernel
theorem dX11_lastIn_10 : decode cX11_lastIn 10 = .ok (.iload_n 0, 1) := by decide +kernel
theorem dX11_lastIn_11 : decode cX11_lastIn 11 = .ok (.iload_n 2, 1) := by decide +kernel
theorem dX11_lastIn_12 : decode cX11_lastIn 12 = .ok (.invokestatic 92, 3) := by decide +kernel
theorem dX11_lastIn_15 : decode cX11_lastIn 15 = .ok (.ifCond .eq 7, 3) := by decide +kernel
theorem dX11_lastIn_18 : decode cX11_lastIn 18 = .ok (.iload_n 2, 1) := by decide +kernel
theorem dX11_lastIn_19 : decode cX11_lastIn 19 = .ok (.goto 4, 3) := by decide +kernel
theorem dX11_lastIn_22 : decode cX11_lastIn 22 = .ok (.iload_n 1, 1) := by decide +kernel
theorem dX11_lastIn_23 : decode cX11_lastIn 23 = .ok (.istore_n 1, 1) := by decide +kernel
theorem dX11_lastIn_24 : decode cX11_lastIn 24 = .ok (.iinc 2 1, 3) := by decide +kernel
theorem dX11_lastIn_27 : decode cX11_lastIn 27 = .ok (.goto (-23), 3) := by decide +kernel
theorem dX11_lastIn_30 : decode cX11_lastIn 30 = .ok (.iload_n 1, 1) := by decide +kernel
theorem dX11_lastIn_31 : decode cX11_lastIn 31 = .ok (.ireturn, 1) := by decide +kernel
def F_X11_lastIn (X Y : Nat → Int → Int) (R : Nat → Int → Option Nat) (a : Int) : Prop := (∀ i j, rI (X i j)) → (∀ i j, rL (Y i j)) → (∃ q : Nat, (0 : Int) = q ∧ q ≤ 15 ∧ (-1 : Int) = mLst a q) ∧ (∀ (last : Int) (k : Int), rI last → rI k → (∃ q : Nat, k = q ∧ q ≤ 15 ∧ last = mLst a q) → (((15 ≤ k) → (last = mLst (a) 15)) ∧ ((¬ (15 ≤ k)) → ((((mHas (a) (k)) = false) → ((rI (k + 1)) ∧ (∃ q : Nat, k + 1 = q ∧ q ≤ 15 ∧ last = mLst a q) ∧ (((15 - (k + 1)).toNat) < ((15 - (k)).toNat)))) ∧ (((mHas (a) (k)) = true) → ((rI (k + 1)) ∧ (∃ q : Nat, k + 1 = q ∧ q ≤ 15 ∧ k = mLst a q) ∧ (((15 - (k + 1)).toNat) < ((15 - (k)).toNat))))))))
set_option maxHeartbeats 4000000 in
set_option maxRecDepth 100000 in
theorem w_X11_lastIn {l : Launch} {D : va_G} {cy : Nat → ClassId} {bs N : Nat} {sa : Nat → Nat} {kd len : Nat → Nat} {X Y : Nat → Int → Int} {R : Nat → Int → Option Nat}  (a : Int) (ha : rI a) (hF : F_X11_lastIn  X Y R a) : Met l yX11_lastIn (.code yX11_lastIn cX11_lastIn 3 (some .int) :: zTB) (zRm 1 21) (zPc D cy bs sa N kd len X Y R [.int (zI (a))]) (zQi D cy bs N kd len (fun r st => r = mLst (a) 15 ∧ st = (X, Y, R))) 0 0 (zA bs) := by
  refine zstart (by decide) (Nat.le_of_ble_eq_true rfl) ?_
  intro p e s m args below meth c ls C hE hH hr hlk hnm hl hargs
  have hF := hF hH.2.2.1 hH.2.2.2
  have hS : va_S (zA bs) s.heap s.heap [] := va_S.rf
  have hl : lv_has ls 3 [(0, .int (zI (a)))] := hl
  refine zd_iconst C dX11_lastIn_0 ?_
  refine lv_istore_n (lv' := [(1, .int (zI ((-1)))), (0, .int (zI (a)))]) C.1 C.2.1 dX11_lastIn_1 rfl hl (by decide) rfl (fun ls hl => ?_)
  refine zd_iconst C dX11_lastIn_2 ?_
  refine lv_istore_n (lv' := [(2, .int (zI (0))), (1, .int (zI ((-1)))), (0, .int (zI (a)))]) C.1 C.2.1 dX11_lastIn_3 rfl hl (by decide) rfl (fun ls hl => ?_)
  obtain ⟨hI1, hF⟩ := hF
  have L1 : ∀ (fu : Nat) (last : Int) (k : Int), rI last → rI k → (∃ q : Nat, k = q ∧ q ≤ 15 ∧ last = mLst a q) → ((15 - (k)).toNat) < fu → ∀ (H : Heap) (locs : List Loc) (ls : Array Slot), zH D cy bs N kd len X Y R H → va_S (zA bs) s.heap H locs → lv_has ls 3 [(1, .int (zI (last))), (2, .int (zI (k))), (0, .int (zI (a)))] → W p l e (zRm 1 21) s m args below meth c H locs 0 0 (MQ below (zQi D cy bs N kd len (fun r st => r = mLst (a) 15 ∧ st = (X, Y, R))) args s 0 0 (zA bs)) (F0 m 4 ls []) := by
    intro fu
    induction fu with
    | zero => intro last k _ _ _ hmu; exact absurd hmu (Nat.not_lt_zero _)
    | succ fu ih1 =>
      intro last k hlast hk hI hmu1 H locs ls hH hS hl
      have hF := hF last k hlast hk  hI
      refine lv_iload_n C.1 C.2.1 dX11_lastIn_4 rfl (lv_at hl 1 rfl) ?_
      refine zd_bipush C (by decide) dX11_lastIn_5 ?_
      refine zd_icmp_ge C hk (by decide) 30 dX11_lastIn_7 (by decide) (fun c2 => ?_) (fun c2 => ?_)
      · have hF := hF.1 c2
        refine lv_iload_n C.1 C.2.1 dX11_lastIn_30 rfl (lv_at hl 0 rfl) ?_
        exact zd_iret C hr hlk hH hS hlast (⟨hF, rfl⟩) dX11_lastIn_31
      · have hF := hF.2 c2
        refine lv_iload_n C.1 C.2.1 dX11_lastIn_10 rfl (lv_at hl 2 rfl) ?_
        refine lv_iload_n C.1 C.2.1 dX11_lastIn_11 rfl (lv_at hl 1 rfl) ?_
        refine zgoi (zrunS (As := [.int (zI (a)), .int (zI (k))]) (rest := []) C hE hH hS hl.1 (c_X11_has (l := l)  (a) ha (k) hk) k_RX11_92 ⟨Nat.le_of_ble_eq_true rfl, Nat.le_of_ble_eq_true rfl⟩ rfl (Nat.le_of_ble_eq_true rfl) dX11_lastIn_12 ⟨Nat.zero_le _, Nat.zero_le _⟩) hS (fun rq Xq Yq Rq H locs hrq hq hH hS => ?_)
        obtain ⟨h91, h92⟩ := hq
        have h93 : Xq = X := congrArg (fun z => z.1) h92
        have h94 : Yq = Y := congrArg (fun z => z.2.1) h92
        have h95 : Rq = R := congrArg (fun z => z.2.2) h92
        rw [h93, h94, h95] at hH
        subst h91
        refine zd_ifB_eq C 22 dX11_lastIn_15 (by decide) (fun c3 => ?_) (fun c3 => ?_)
        · have hF := hF.1 c3
          refine lv_iload_n C.1 C.2.1 dX11_lastIn_22 rfl (lv_at hl 0 rfl) ?_
          refine lv_istore_n (lv' := [(1, .int (zI (last))), (2, .int (zI (k))), (0, .int (zI (a)))]) C.1 C.2.1 dX11_lastIn_23 rfl hl (by decide) rfl (fun ls hl => ?_)
          refine zd_iinc (k := 1) (lv' := [(2, .int (zI (k + 1))), (1, .int (zI (last))), (0, .int (zI (a)))]) C hl rfl dX11_lastIn_24 (by decide) rfl (fun ls hl => ?_)
          refine lv_goto (tgt := 4) C.1 C.2.1 dX11_lastIn_27 (by decide) ?_
          obtain ⟨o4, hF⟩ := hF
          exact ih1 (last) (k + 1) hlast o4 hF.1 (Nat.lt_of_lt_of_le hF.2 (Nat.le_of_lt_succ hmu1)) _ _ _ hH hS (lv_sub hl [1, 0, 2] rfl)
        · have hF := hF.2 c3
          refine lv_iload_n C.1 C.2.1 dX11_lastIn_18 rfl (lv_at hl 1 rfl) ?_
          refine lv_goto (tgt := 23) C.1 C.2.1 dX11_lastIn_19 (by decide) ?_
          refine lv_istore_n (lv' := [(1, .int (zI (k))), (2, .int (zI (k))), (0, .int (zI (a)))]) C.1 C.2.1 dX11_lastIn_23 rfl hl (by decide) rfl (fun ls hl => ?_)
          refine zd_iinc (k := 1) (lv' := [(2, .int (zI (k + 1))), (1, .int (zI (k))), (0, .int (zI (a)))]) C hl rfl dX11_lastIn_24 (by decide) rfl (fun ls hl => ?_)
          refine lv_goto (tgt := 4) C.1 C.2.1 dX11_lastIn_27 (by decide) ?_
          obtain ⟨o5, hF⟩ := hF
          exact ih1 (k) (k + 1) hk o5 hF.1 (Nat.lt_of_lt_of_le hF.2 (Nat.le_of_lt_succ hmu1)) _ _ _ hH hS (lv_sub hl [1, 0, 2] rfl)
  exact L1 (((15 - ((0 : Int))).toNat) + 1) ((-1 : Int)) ((0 : Int)) (by decide) (by decide) hI1 (Nat.lt_succ_self _) _ _ _ hH hS (lv_sub hl [1, 0, 2] rfl)
theorem v_X11_lastIn {X Y : Nat → Int → Int} {R : Nat → Int → Option Nat}  (a : Int) (ha : rI a) : F_X11_lastIn  X Y R a := by
  unfold F_X11_lastIn
  intro hX hY
  refine ⟨⟨0, rfl, by decide, rfl⟩, ?_⟩
  rintro last k rl rk ⟨q, rfl, hq, rfl⟩
  have es : mLst a (q + 1) = if mHas a q then (q : Int) else mLst a q := rfl
  refine ⟨fun h => by rw [show q = 15 by omega], fun h => ⟨fun g => ⟨⟨by omega, by omega⟩, ⟨q + 1, by omega, by omega, by rw [es, g]; rfl⟩, by omega⟩, fun g => ⟨⟨by omega, by omega⟩, ⟨q + 1, by omega, by omega, by rw [es, g]; rfl⟩, by omega⟩⟩⟩
theorem c_X11_lastIn {l : Launch} {D : va_G} {cy : Nat → ClassId} {bs N : Nat} {sa : Nat → Nat} {kd len : Nat → Nat} {X Y : Nat → Int → Int} {R : Nat → Int → Option Nat}  (a : Int) (ha : rI a) : Met l yX11_lastIn (.code yX11_lastIn cX11_lastIn 3 (some .int) :: zTB) (zRm 1 21) (zPc D cy bs sa N kd len X Y R [.int (zI (a))]) (zQi D cy bs N kd len (fun r st => r = mLst (a) 15 ∧ st = (X, Y, R))) 0 0 (zA bs) := w_X11_lastIn  a ha (v_X11_lastIn a ha)
/-! SUBTREES -/
def sumN (g : Nat → Int) : Nat → Int
  | 0 => 0
  | n + 1 => sumN g n + g n
theorem sumN_cong {g h : Nat → Int} : ∀ {n : Nat}, (∀ k, k < n → g k = h k) → sumN g n = sumN h n
  | 0, _ => rfl
  | n + 1, q => by
    unfold sumN
    rw [sumN_cong (fun k hk => q k (by omega)), q n (by omega)]
theorem sumN_0 {g : Nat → Int} : ∀ {n : Nat}, (∀ k, k < n → g k = 0) → sumN g n = 0
  | 0, _ => rfl
  | n + 1, q => by
    unfold sumN
    rw [sumN_0 (fun k hk => q k (by omega)), q n (by omega)]
    rfl
/-- all work of a block and of those of f behind it, so many deep -/
def sBd (P : Nat → Nat) (w : Nat → Int) (f : Nat → Bool) (n : Nat) : Nat → Nat → Int
  | 0, _ => 0
  | d + 1, k => w k + sumN (fun e => if k < e ∧ f e = true ∧ P e = k then sBd P w f n d e else 0) n
theorem sBd_c {P : Nat → Nat} {w : Nat → Int} {f : Nat → Bool} {n : Nat} : ∀ d1 d2 k, n - k ≤ d1 → n - k ≤ d2 → k < n → sBd P w f n d1 k = sBd P w f n d2 k
  | 0, _, k, h1, _, h => by omega
  | _, 0, k, _, h2, h => by omega
  | d1 + 1, d2 + 1, k, h1, h2, h => by
    unfold sBd
    congr 1
    apply sumN_cong
    intro e he
    by_cases c : k < e ∧ f e = true ∧ P e = k
    · rw [if_pos c, if_pos c]
      exact sBd_c d1 d2 e (by omega) (by omega) he
    · rw [if_neg c, if_neg c]
def sSb (P : Nat → Nat) (w : Nat → Int) (f : Nat → Bool) (n k : Nat) : Int := sBd P w f n n k
theorem sSb_e {P : Nat → Nat} {w : Nat → Int} {f : Nat → Bool} {n k : Nat} (hk : k < n) : sSb P w f n k = w k + sumN (fun e => if k < e ∧ f e = true ∧ P e = k then sSb P w f n e else 0) n := by
  obtain ⟨m, hm⟩ : ∃ m, n = m + 1 := ⟨n - 1, by omega⟩
  unfold sSb
  conv => lhs; rw [show sBd P w f n n k = sBd P w f n (m + 1) k by rw [hm]]
  show w k + sumN (fun e => if k < e ∧ f e = true ∧ P e = k then sBd P w f n m e else 0) n = _
  congr 1
  apply sumN_cong
  intro e he
  by_cases c : k < e ∧ f e = true ∧ P e = k
  · rw [if_pos c, if_pos c]
    exact sBd_c m n e (by omega) (by omega) he
  · rw [if_neg c, if_neg c]
theorem sumN_b {g : Nat → Int} {B : Int} {n k : Nat} (hg : ∀ e, e < n → 0 ≤ g e ∧ g e ≤ if k < e then B * 2 ^ (n - 1 - e) else 0) : ∀ m, m ≤ n → k < m → 0 ≤ sumN g m ∧ sumN g m + B * 2 ^ (n - m) ≤ B * 2 ^ (n - 1 - k)
  | 0, _, h => by omega
  | m + 1, hm, h => by
    unfold sumN
    have gm := hg m (by omega)
    by_cases e : m = k
    · subst e
      rw [if_neg (by omega)] at gm
      have hz : sumN g m = 0 := sumN_0 (fun j hj => by have := hg j (by omega); rw [if_neg (by omega)] at this; omega)
      rw [hz, show n - (m + 1) = n - 1 - m by omega]
      exact ⟨by omega, by omega⟩
    · have ih := sumN_b hg m (by omega) (by omega)
      rw [if_pos (by omega)] at gm
      have e2 : (2 : Int) ^ (n - m) = 2 ^ (n - 1 - m) * 2 := by
        rw [show n - m = (n - 1 - m) + 1 by omega, Int.pow_succ]
      rw [e2] at ih
      rw [show n - (m + 1) = n - 1 - m by omega]
      generalize (2 : Int) ^ (n - 1 - m) = z at ih gm ⊢
      have e3 : B * (z * 2) = B * z + B * z := by rw [← Int.mul_assoc]; omega
      exact ⟨by omega, by omega⟩
theorem sSb_b {P : Nat → Nat} {w : Nat → Int} {f : Nat → Bool} {n : Nat} {B : Int} (hw : ∀ k, k < n → 1 ≤ w k ∧ w k ≤ B) : ∀ d k, k < n → n - k ≤ d → 1 ≤ sSb P w f n k ∧ sSb P w f n k ≤ B * 2 ^ (n - 1 - k)
  | 0, k, h, h2 => by omega
  | d + 1, k, h, h2 => by
    rw [sSb_e h]
    have hwk := hw k h
    have := sumN_b (g := fun e => if k < e ∧ f e = true ∧ P e = k then sSb P w f n e else 0) (B := B) (n := n) (k := k) (fun e he => by
      by_cases c : k < e ∧ f e = true ∧ P e = k
      · rw [if_pos c, if_pos c.1]
        have := sSb_b (P := P) (f := f) hw d e he (by omega)
        exact ⟨by omega, this.2⟩
      · rw [if_neg c]
        split
        · exact ⟨by omega, Int.mul_nonneg (by omega) (Int.le_of_lt (Int.pow_pos (by decide)))⟩
        · exact ⟨by omega, by omega⟩) n (Nat.le_refl n) h
    rw [Nat.sub_self, Int.pow_zero] at this
    exact ⟨by omega, by omega⟩
