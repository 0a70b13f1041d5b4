/-! PARTS -/
def mGc (a b : Int) : Int := ((Nat.gcd a.toNat b.toNat : Nat) : Int)
theorem mGc_s {a b : Int} (ha : 0 ≤ a) (hb : 0 < b) : mGc a b = mGc b (a.tmod b) ∧ 0 ≤ a.tmod b ∧ a.tmod b < b := by
  obtain ⟨x, hx⟩ : ∃ x : Nat, a = x := ⟨a.toNat, by omega⟩
  obtain ⟨y, hy⟩ : ∃ y : Nat, b = y := ⟨b.toNat, by omega⟩
  subst hx
  subst hy
  have e : (x : Int).tmod y = ((x % y : Nat) : Int) := by
    rw [Int.tmod_eq_emod_of_nonneg (by omega)]
    rfl
  have hl := Nat.mod_lt x (show 0 < y by omega)
  refine ⟨?_, by rw [e]; omega, by rw [e]; omega⟩
  rw [e]
  unfold mGc
  rw [Int.toNat_natCast, Int.toNat_natCast, Int.toNat_natCast, Nat.gcd_comm x y, Nat.gcd_rec y x, Nat.gcd_comm]
theorem mGc_0 {a : Int} (ha : 0 ≤ a) : mGc a 0 = a := by
  unfold mGc
  rw [show (0 : Int).toNat = 0 from rfl, Nat.gcd_zero_right]
  omega
theorem mGc_1 {a b : Int} (ha : 1 ≤ a) : 1 ≤ mGc a b := by
  unfold mGc
  have := Nat.gcd_pos_of_pos_left b.toNat (show 0 < a.toNat by omega)
  omega
def mPt (up down : Int) (u : Bool) : Int := (if u then down else up).tdiv (mGc down up)
abbrev cX11_commonL : ByteArray := prog_13_method_94_code
def yX11_commonL : MethodName := ⟨RX11, "commonL", "(JJ)J"⟩
theorem dX11_commonL_0 : decode cX11_commonL 0 = .ok (.lload_n 0, 1) := by decide +kernel
theorem dX11_commonL_1 : decode cX11_commonL 1 = .ok (.lstore 4, 2) := by decide +kernel
theorem dX11_commonL_3 : decode cX11_commonL 3 = .ok (.lload_n 2, 1) := by decide +kernel
theorem dX11_commonL_4 : decode cX11_commonL 4 = .ok (.lstore 6, 2) := by decide +kernel
theorem dX11_commonL_6 : decode cX11_commonL 6 = .ok (.lload 6, 2) := by decide +kernel
theorem dX11_commonL_8 : decode cX11_commonL 8 = .ok (.lconst 0, 1) := by decide +kernel
theorem dX11_commonL_9 : decode cX11_commonL 9 = .ok (.lcmp, 1) := by decide +kernel
theorem dX11_commonL_10 : decode cX11_commonL 10 = .ok (.ifCond .eq 21, 3) := by decide +kernel
theorem dX11_commonL_13 : decode cX11_commonL 13 = .ok (.lload 4, 2) := by decide +kernel
theorem dX11_commonL_15 : decode cX11_commonL 15 = .ok (.lload 6, 2) := by decide +kernel
theorem dX11_commonL_17 : decode cX11_commonL 17 = .ok (.lrem, 1) := by decide +kernel
theorem dX11_commonL_18 : decode cX11_commonL 18 = .ok (.lstore 8, 2) := by decide +kernel
theorem dX11_commonL_20 : decode cX11_commonL 20 = .ok (.lload 6, 2) := by decide +kernel
theorem dX11_commonL_22 : decode cX11_commonL 22 = .ok (.lstore 4, 2) := by decide +kernel
theorem dX11_commonL_24 : decode cX11_commonL 24 = .ok (.lload 8, 2) := by decide +kernel
theorem dX11_commonL_26 : decode cX11_commonL 26 = .ok (.lstore 6, 2) := by decide +kernel
theorem dX11_commonL_28 : decode cX11_commonL 28 = .ok (.goto (-22), 3) := by decide +kernel
theorem dX11_commonL_31 : decode cX11_commonL 31 = .ok (.lload 4, 2) := by decide +kernel
theorem dX11_commonL_33 : decode cX11_commonL 33 = .ok (.lreturn, 1) := by decide +kernel
def F_X11_commonL (X Y : Nat → Int → Int) (R : Nat → Int → Option Nat) (a : Int) (b : Int) : Prop := (∀ i j, rI (X i j)) → (∀ i j, rL (Y i j)) → (0 ≤ a ∧ 0 ≤ b ∧ mGc (a) (b) = mGc a b) ∧ (∀ (x : Int) (y : Int), rL x → rL y → (0 ≤ x ∧ 0 ≤ y ∧ mGc (x) (y) = mGc a b) → (((y = 0) → (x = mGc (a) (b))) ∧ ((¬ (y = 0)) → ((y ≠ 0 ∧ y ≠ -1) ∧ ((rL ((x).tmod (y))) ∧ (0 ≤ y ∧ 0 ≤ (x).tmod (y) ∧ mGc (y) ((x).tmod (y)) = mGc a b) ∧ ((((x).tmod (y)).toNat) < ((y).toNat)))))))
set_option maxHeartbeats 4000000 in
set_option maxRecDepth 100000 in
theorem w_X11_commonL {l : Launch} {D : va_G} {cy : Nat → ClassId} {bs N : Nat} {sa : Nat → Nat} {kd len : Nat → Nat} {X Y : Nat → Int → Int} {R : Nat → Int → Option Nat}  (a : Int) (ha : rL a) (b : Int) (hb : rL b) (hF : F_X11_commonL  X Y R a b) : Met l yX11_commonL (.code yX11_commonL cX11_commonL 10 (some .long) :: zTB) (zRm 0 0) (zPc D cy bs sa N kd len X Y R [.long (zL (a)), .long (zL (b))]) (zQl D cy bs N kd len (fun r st => r = mGc (a) (b) ∧ st = (X, Y, R))) 0 0 (zA bs) := by
  refine zstart (by decide) (Nat.le_of_ble_eq_true rfl) ?_
  intro p e s m args below meth c ls C hE hH hr hlk hnm hl hargs
  have hF := hF hH.2.2.1 hH.2.2.2
  have hS : va_S (zA bs) s.heap s.heap [] := va_S.rf
  have hl : lv_has ls 10 [(0, .long (zL (a))), (2, .long (zL (b)))] := hl
  refine lv_lload_n C.1 C.2.1 dX11_commonL_0 rfl (lv_at hl 0 rfl) ?_
  refine lv_lstore (lv' := [(4, .long (zL (a))), (0, .long (zL (a))), (2, .long (zL (b)))]) C.1 C.2.1 dX11_commonL_1 hl (by decide) rfl (fun ls hl => ?_)
  refine lv_lload_n C.1 C.2.1 dX11_commonL_3 rfl (lv_at hl 2 rfl) ?_
  refine lv_lstore (lv' := [(6, .long (zL (b))), (4, .long (zL (a))), (0, .long (zL (a))), (2, .long (zL (b)))]) C.1 C.2.1 dX11_commonL_4 hl (by decide) rfl (fun ls hl => ?_)
  obtain ⟨hI1, hF⟩ := hF
  have L1 : ∀ (fu : Nat) (x : Int) (y : Int), rL x → rL y → (0 ≤ x ∧ 0 ≤ y ∧ mGc (x) (y) = mGc a b) → ((y).toNat) < fu → ∀ (H : Heap) (locs : List Loc) (ls : Array Slot), zH D cy bs N kd len X Y R H → va_S (zA bs) s.heap H locs → lv_has ls 10 [(4, .long (zL (x))), (6, .long (zL (y)))] → W p l e (zRm 0 0) s m args below meth c H locs 0 0 (MQ below (zQl D cy bs N kd len (fun r st => r = mGc (a) (b) ∧ st = (X, Y, R))) args s 0 0 (zA bs)) (F0 m 6 ls []) := by
    intro fu
    induction fu with
    | zero => intro x y _ _ _ hmu; exact absurd hmu (Nat.not_lt_zero _)
    | succ fu ih1 =>
      intro x y hx hy hI hmu1 H locs ls hH hS hl
      have hF := hF x y hx hy  hI
      refine lv_lload C.1 C.2.1 dX11_commonL_6 (lv_at hl 1 rfl) ?_
      refine lv_lconst (v := zL 0) C.1 C.2.1 dX11_commonL_8 rfl ?_
      refine zd_lcmp C hy (by decide) dX11_commonL_9 ?_
      refine zd_ifL_eq C 31 dX11_commonL_10 (by decide) (fun c2 => ?_) (fun c2 => ?_)
      · have hF := hF.1 c2
        refine lv_lload C.1 C.2.1 dX11_commonL_31 (lv_at hl 0 rfl) ?_
        exact zd_lret C hr hlk hH hS hx (⟨hF, rfl⟩) dX11_commonL_33
      · have hF := hF.2 c2
        refine lv_lload C.1 C.2.1 dX11_commonL_13 (lv_at hl 0 rfl) ?_
        refine lv_lload C.1 C.2.1 dX11_commonL_15 (lv_at hl 1 rfl) ?_
        obtain ⟨o3, hF⟩ := hF
        refine zd_lrem C hx hy o3.1 o3.2 dX11_commonL_17 ?_
        refine lv_lstore (lv' := [(8, .long (zL ((x).tmod (y)))), (4, .long (zL (x))), (6, .long (zL (y)))]) C.1 C.2.1 dX11_commonL_18 hl (by decide) rfl (fun ls hl => ?_)
        refine lv_lload C.1 C.2.1 dX11_commonL_20 (lv_at hl 2 rfl) ?_
        refine lv_lstore (lv' := [(4, .long (zL (y))), (8, .long (zL ((x).tmod (y)))), (6, .long (zL (y)))]) C.1 C.2.1 dX11_commonL_22 hl (by decide) rfl (fun ls hl => ?_)
        refine lv_lload C.1 C.2.1 dX11_commonL_24 (lv_at hl 1 rfl) ?_
        refine lv_lstore (lv' := [(6, .long (zL ((x).tmod (y)))), (4, .long (zL (y))), (8, .long (zL ((x).tmod (y))))]) C.1 C.2.1 dX11_commonL_26 hl (by decide) rfl (fun ls hl => ?_)
        refine lv_goto (tgt := 6) C.1 C.2.1 dX11_commonL_28 (by decide) ?_
        obtain ⟨o4, hF⟩ := hF
        exact ih1 (y) ((x).tmod (y)) hy o4 hF.1 (Nat.lt_of_lt_of_le hF.2 (Nat.le_of_lt_succ hmu1)) _ _ _ hH hS (lv_sub hl [1, 0] rfl)
  exact L1 (((b).toNat) + 1) (a) (b) ha hb hI1 (Nat.lt_succ_self _) _ _ _ hH hS (lv_sub hl [1, 0] rfl)
theorem v_X11_commonL {X Y : Nat → Int → Int} {R : Nat → Int → Option Nat}  (a : Int) (ha : rL a) (b : Int) (hb : rL b) (hp : 0 ≤ a ∧ 0 ≤ b) : F_X11_commonL  X Y R a b := by
  unfold F_X11_commonL
  intro hX hY
  refine ⟨⟨hp.1, hp.2, rfl⟩, fun x y xr yr hI => ?_⟩
  obtain ⟨h1, h2, h3⟩ := hI
  refine ⟨fun c => ?_, fun c => ⟨⟨c, by omega⟩, ?_⟩⟩
  · rw [← h3, c, mGc_0 h1]
  · have g := mGc_s h1 (show 0 < y by omega)
    have := yr.2
    exact ⟨⟨by omega, by omega⟩, ⟨h2, g.2.1, by rw [← g.1]; exact h3⟩, by omega⟩
theorem c_X11_commonL {l : Launch} {D : va_G} {cy : Nat → ClassId} {bs N : Nat} {sa : Nat → Nat} {kd len : Nat → Nat} {X Y : Nat → Int → Int} {R : Nat → Int → Option Nat}  (a : Int) (ha : rL a) (b : Int) (hb : rL b) (hp : 0 ≤ a ∧ 0 ≤ b) : Met l yX11_commonL (.code yX11_commonL cX11_commonL 10 (some .long) :: zTB) (zRm 0 0) (zPc D cy bs sa N kd len X Y R [.long (zL (a)), .long (zL (b))]) (zQl D cy bs N kd len (fun r st => r = mGc (a) (b) ∧ st = (X, Y, R))) 0 0 (zA bs) := w_X11_commonL  a ha b hb (v_X11_commonL a ha b hb hp)
abbrev cX11_partL : ByteArray := prog_13_method_95_code
def yX11_partL : MethodName := ⟨RX11, "partL", "(JJZ)J"⟩
theorem dX11_partL_0 : decode cX11_partL 0 = .ok (.iload 4, 2) := by decide +kernel
theorem dX11_partL_2 : decode cX11_partL 2 = .ok (.ifCond .eq 7, 3) := by decide +kernel
theorem dX11_partL_5 : decode cX11_partL 5 = .ok (.lload_n 2, 1) := by decide +kernel
theorem dX11_partL_6 : decode cX11_partL 6 = .ok (.goto 4, 3) := by decide +kernel
theorem dX11_partL_9 : decode cX11_partL 9 = .ok (.lload_n 0, 1) := by decide +kernel
theorem dX11_partL_10 : decode cX11_partL 10 = .ok (.lload_n 2, 1) := by decide +kernel
theorem dX11_partL_11 : decode cX11_partL 11 = .ok (.lload_n 0, 1) := by decide +kernel
theorem dX11_partL_12 : decode cX11_partL 12 = .ok (.invokestatic 460, 3) := by decide +kernel
theorem dX11_partL_15 : decode cX11_partL 15 = .ok (.ldiv, 1) := by decide +kernel
theorem dX11_partL_16 : decode cX11_partL 16 = .ok (.lreturn, 1) := by decide +kernel
theorem q_1865 : Cond.static yX11_commonL ∈ zTB := zmem 1865 (by decide +kernel) rfl
theorem q_1866 : Cond.code yX11_commonL cX11_commonL 10 (some .long) ∈ zTB := zmem 1866 (by decide +kernel) rfl
theorem q_1864 : Cond.methodLink RX11 460 yX11_commonL ∈ zTB := zmem 1864 (by decide +kernel) rfl
theorem k_RX11_460 : zLs RX11 460 yX11_commonL cX11_commonL 10 (some .long) 2 := ⟨⟨q_1864, q_1865, q_140, q_1866⟩, ⟨by decide, by decide⟩, by decide +kernel⟩
def F_X11_partL (X Y : Nat → Int → Int) (R : Nat → Int → Option Nat) (a : Int) (b : Int) (g : Bool) : Prop := (∀ i j, rI (X i j)) → (∀ i j, rL (Y i j)) → ((g = false) → ((0 ≤ b ∧ 0 ≤ a) ∧ (rL (mGc (b) (a)) → ((mGc (b) (a) ≠ 0 ∧ mGc (b) (a) ≠ -1) ∧ ((rL ((a).tdiv (mGc (b) (a)))) ∧ ((a).tdiv (mGc (b) (a)) = mPt (a) (b) (g))))))) ∧ ((g = true) → ((0 ≤ b ∧ 0 ≤ a) ∧ (rL (mGc (b) (a)) → ((mGc (b) (a) ≠ 0 ∧ mGc (b) (a) ≠ -1) ∧ ((rL ((b).tdiv (mGc (b) (a)))) ∧ ((b).tdiv (mGc (b) (a)) = mPt (a) (b) (g)))))))
set_option maxHeartbeats 4000000 in
set_option maxRecDepth 100000 in
theorem w_X11_partL {l : Launch} {D : va_G} {cy : Nat → ClassId} {bs N : Nat} {sa : Nat → Nat} {kd len : Nat → Nat} {X Y : Nat → Int → Int} {R : Nat → Int → Option Nat}  (a : Int) (ha : rL a) (b : Int) (hb : rL b) (g : Bool) (hF : F_X11_partL  X Y R a b g) : Met l yX11_partL (.code yX11_partL cX11_partL 5 (some .long) :: zTB) (zRm 1 29) (zPc D cy bs sa N kd len X Y R [.long (zL (a)), .long (zL (b)), .int (zI (bz (g)))]) (zQl D cy bs N kd len (fun r st => r = mPt (a) (b) (g) ∧ st = (X, Y, R))) 0 0 (zA bs) := by
  refine zstart (by decide) (Nat.le_of_ble_eq_true rfl) ?_
  intro p e s m args below meth c ls C hE hH hr hlk hnm hl hargs
  have hF := hF hH.2.2.1 hH.2.2.2
  have hS : va_S (zA bs) s.heap s.heap [] := va_S.rf
  have hl : lv_has ls 5 [(0, .long (zL (a))), (2, .long (zL (b))), (4, .int (zI (bz (g))))] := hl
  refine lv_iload C.1 C.2.1 dX11_partL_0 (lv_at hl 2 rfl) ?_
  refine zd_ifB_eq C 9 dX11_partL_2 (by decide) (fun c1 => ?_) (fun c1 => ?_)
  · have hF := hF.1 c1
    refine lv_lload_n C.1 C.2.1 dX11_partL_9 rfl (lv_at hl 0 rfl) ?_
    refine lv_lload_n C.1 C.2.1 dX11_partL_10 rfl (lv_at hl 1 rfl) ?_
    refine lv_lload_n C.1 C.2.1 dX11_partL_11 rfl (lv_at hl 0 rfl) ?_
    obtain ⟨o2, hF⟩ := hF
    refine zgol (zrunS (As := [.long (zL (b)), .long (zL (a))]) (rest := [.long (zL (a))]) C hE hH hS hl.1 (c_X11_commonL (l := l)  (b) hb (a) ha o2) k_RX11_460 ⟨Nat.le_of_ble_eq_true rfl, Nat.le_of_ble_eq_true rfl⟩ rfl (Nat.le_of_ble_eq_true rfl) dX11_partL_12 ⟨Nat.zero_le _, Nat.zero_le _⟩) hS (fun rq Xq Yq Rq H locs hrq hq hH hS => ?_)
    obtain ⟨h91, h92⟩ := hq
    have h93 : Xq = X := congrArg (fun z => z.1) h92
    have h94 : Yq = Y := congrArg (fun z => z.2.1) h92
    have h95 : Rq = R := congrArg (fun z => z.2.2) h92
    rw [h93, h94, h95] at hH
    subst h91
    have hr3 := hrq
    have hF := hF hr3
    obtain ⟨o4, hF⟩ := hF
    refine zd_ldiv C ha hr3 o4.1 o4.2 dX11_partL_15 ?_
    obtain ⟨o5, hF⟩ := hF
    exact zd_lret C hr hlk hH hS o5 (⟨hF, rfl⟩) dX11_partL_16
  · have hF := hF.2 c1
    refine lv_lload_n C.1 C.2.1 dX11_partL_5 rfl (lv_at hl 1 rfl) ?_
    refine lv_goto (tgt := 10) C.1 C.2.1 dX11_partL_6 (by decide) ?_
    refine lv_lload_n C.1 C.2.1 dX11_partL_10 rfl (lv_at hl 1 rfl) ?_
    refine lv_lload_n C.1 C.2.1 dX11_partL_11 rfl (lv_at hl 0 rfl) ?_
    obtain ⟨o6, hF⟩ := hF
    refine zgol (zrunS (As := [.long (zL (b)), .long (zL (a))]) (rest := [.long (zL (b))]) C hE hH hS hl.1 (c_X11_commonL (l := l)  (b) hb (a) ha o6) k_RX11_460 ⟨Nat.le_of_ble_eq_true rfl, Nat.le_of_ble_eq_true rfl⟩ rfl (Nat.le_of_ble_eq_true rfl) dX11_partL_12 ⟨Nat.zero_le _, Nat.zero_le _⟩) hS (fun rq Xq Yq Rq H locs hrq hq hH hS => ?_)
    obtain ⟨h91, h92⟩ := hq
    have h93 : Xq = X := congrArg (fun z => z.1) h92
    have h94 : Yq = Y := congrArg (fun z => z.2.1) h92
    have h95 : Rq = R := congrArg (fun z => z.2.2) h92
    rw [h93, h94, h95] at hH
    subst h91
    have hr7 := hrq
    have hF := hF hr7
    obtain ⟨o8, hF⟩ := hF
    refine zd_ldiv C hb hr7 o8.1 o8.2 dX11_partL_15 ?_
    obtain ⟨o9, hF⟩ := hF
    exact zd_lret C hr hlk hH hS o9 (⟨hF, rfl⟩) dX11_partL_16
theorem v_X11_partL {X Y : Nat → Int → Int} {R : Nat → Int → Option Nat}  (a : Int) (ha : rL a) (b : Int) (hb : rL b) (g : Bool) (hp : 0 ≤ a ∧ 1 ≤ b) : F_X11_partL  X Y R a b g := by
  unfold F_X11_partL
  intro hX hY
  have g1 := mGc_1 (a := b) (b := a) hp.2
  have hd : ∀ z : Int, 0 ≤ z → rL z → rL (z.tdiv (mGc b a)) := fun z z0 zr => by
    rw [Int.tdiv_eq_ediv_of_nonneg z0]
    have d0 := Int.ediv_nonneg z0 (show 0 ≤ mGc b a by omega)
    have d1 := Int.ediv_le_self (mGc b a) z0
    have := zr.2
    exact ⟨by omega, by omega⟩
  refine ⟨fun c => ⟨⟨by omega, hp.1⟩, fun _ => ⟨⟨by omega, by omega⟩, hd a hp.1 (by assumption), ?_⟩⟩, fun c => ⟨⟨by omega, hp.1⟩, fun _ => ⟨⟨by omega, by omega⟩, hd b (by omega) (by assumption), ?_⟩⟩⟩
  · rw [c]
    rfl
  · rw [c]
    rfl
theorem c_X11_partL {l : Launch} {D : va_G} {cy : Nat → ClassId} {bs N : Nat} {sa : Nat → Nat} {kd len : Nat → Nat} {X Y : Nat → Int → Int} {R : Nat → Int → Option Nat}  (a : Int) (ha : rL a) (b : Int) (hb : rL b) (g : Bool) (hp : 0 ≤ a ∧ 1 ≤ b) : Met l yX11_partL (.code yX11_partL cX11_partL 5 (some .long) :: zTB) (zRm 1 29) (zPc D cy bs sa N kd len X Y R [.long (zL (a)), .long (zL (b)), .int (zI (bz (g)))]) (zQl D cy bs N kd len (fun r st => r = mPt (a) (b) (g) ∧ st = (X, Y, R))) 0 0 (zA bs) := w_X11_partL  a ha b hb g (v_X11_partL a ha b hb g hp)
def owOf (Z : Nat → Int → Int) (i : Nat) (h w : Int) : Int :=
  if w = 0 then ((rTip Z i (mWo Z i (bS (fMd Z i h) (Z i 27).toNat)) : Nat) : Int) else if w = 1 then mOnes (zAnd (wyP (rP Z i) (rTip Z i (mWo Z i 0))) (bS (fMd Z i h) (Z i 27).toNat))
  else if w = 2 ∨ w = 3 then (if wyP (rP Z i) (rTip Z i (mWo Z i 0)) = 1 then -1 else mPt (sWi (rW Z i) (zAnd (wyP (rP Z i) (rTip Z i (mWo Z i 0))) (bS (fMd Z i h) (Z i 27).toNat)) (Z i 27).toNat) (sWi (rW Z i) (wyP (rP Z i) (rTip Z i (mWo Z i 0))) (Z i 27).toNat) (decide (w = 3))) else -2
def rOwn (X : Nat → Int → Int) (i : Nat) (n c h w : Int) : Int := if rOk X i n c && mIn h 0 (X (i + 6) (13 * n + 6) - 1) then owOf (hZ X i n c 0) i h w else -2
theorem fMd_t {X X1 : Nat → Int → Int} {i : Nat} (t : tS X X1 i) (a : Int) : fMd X1 i a = fMd X i a := by
  funext k
  unfold fMd
  rw [mC_t t]
theorem rTip_t {X X1 : Nat → Int → Int} {i : Nat} (t : tS X X1 i) (h : X1 i 28 = X i 28) (a : Int) : rTip X1 i (mWo X1 i a) = rTip X i (mWo X i a) := by
  unfold rTip mWo
  rw [rP_t t, rW_t t, rG_t t, sdf_t t, t.2.2.2.2.2.1, h]
theorem owOf_s {Z X : Nat → Int → Int} {i : Nat} (h : sZ Z X i) (a w : Int) : owOf X i a w = owOf Z i a w := by
  have t := h.1
  unfold owOf
  rw [fMd_t t, rTip_t t h.2.1, rTip_t t h.2.1, rP_t t, rW_t t, t.2.2.2.2.2.1]
theorem sWi_1 {W : Nat → Int} {s : Int} {k : Nat} (h1 : 1 ≤ k) (hs : mHas s k = true) : ∀ n, (∀ j, j < n → 1 ≤ W j) → k < n → 1 ≤ sWi W s n
  | 0, _, h => absurd h (Nat.not_lt_zero _)
  | q + 1, hW, h => by
    have nn : ∀ m, (∀ j, j < m → 1 ≤ W j) → 0 ≤ sWi W s m := fun m => by
      induction m with
      | zero => exact fun _ => Int.le_refl _
      | succ m ih =>
        intro hm
        have a := ih (fun j hj => hm j (by omega))
        have b := hm m (by omega)
        unfold sWi
        split <;> omega
    have a := nn q (fun j hj => hW j (by omega))
    have b := hW q (by omega)
    unfold sWi
    by_cases e : k = q
    · subst e
      rw [hs, decide_eq_true h1]
      show 1 ≤ _ + W k
      omega
    · have c := sWi_1 h1 hs q (fun j hj => hW j (by omega)) (by omega)
      split <;> omega
theorem wyP_0 {P : Nat → Nat} : wyP P 0 = 1 := by
  unfold wyP
  rw [bS_cong (g := fun j => decide (j = 0)) (fun k _ => onW_0 k)]
  decide +kernel
theorem wyP_me {P : Nat → Nat} {k : Nat} (h : P k < k) (hk : k < 15) : mHas (wyP P k) k = true := by
  unfold wyP
  rw [bS_has _ (by decide) hk, onW_s h, decide_eq_true rfl]
  rfl
abbrev cX11_own : ByteArray := prog_13_method_98_code
def yX11_own : MethodName := ⟨RX11, "own", "(IIII)J"⟩
theorem dX11_own_0 : decode cX11_own 0 = .ok (.aload_n 0, 1) := by decide +kernel
theorem dX11_own_1 : decode cX11_own 1 = .ok (.iconst 0, 1) := by decide +kernel
theorem dX11_own_2 : decode cX11_own 2 = .ok (.putfield 88, 3) := by decide +kernel
theorem dX11_own_5 : decode cX11_own 5 = .ok (.aload_n 0, 1) := by decide +kernel
theorem dX11_own_6 : decode cX11_own 6 = .ok (.iload_n 1, 1) := by decide +kernel
theorem dX11_own_7 : decode cX11_own 7 = .ok (.iload_n 2, 1) := by decide +kernel
theorem dX11_own_8 : decode cX11_own 8 = .ok (.invokevirtual 397, 3) := by decide +kernel
theorem dX11_own_11 : decode cX11_own 11 = .ok (.ifCond .eq 11, 3) := by decide +kernel
theorem dX11_own_14 : decode cX11_own 14 = .ok (.aload_n 0, 1) := by decide +kernel
theorem dX11_own_15 : decode cX11_own 15 = .ok (.iload_n 3, 1) := by decide +kernel
theorem dX11_own_16 : decode cX11_own 16 = .ok (.invokevirtual 289, 3) := by decide +kernel
theorem dX11_own_19 : decode cX11_own 19 = .ok (.ifCond .ne 7, 3) := by decide +kernel
theorem dX11_own_22 : decode cX11_own 22 = .ok (.ldc2_w 464, 3) := by decide +kernel
theorem dX11_own_25 : decode cX11_own 25 = .ok (.lreturn, 1) := by decide +kernel
theorem dX11_own_26 : decode cX11_own 26 = .ok (.aload_n 0, 1) := by decide +kernel
theorem dX11_own_27 : decode cX11_own 27 = .ok (.iload_n 3, 1) := by decide +kernel
theorem dX11_own_28 : decode cX11_own 28 = .ok (.invokevirtual 466, 3) := by decide +kernel
theorem dX11_own_31 : decode cX11_own 31 = .ok (.istore 5, 2) := by decide +kernel
theorem dX11_own_33 : decode cX11_own 33 = .ok (.aload_n 0, 1) := by decide +kernel
theorem dX11_own_34 : decode cX11_own 34 = .ok (.aload_n 0, 1) := by decide +kernel
theorem dX11_own_35 : decode cX11_own 35 = .ok (.iconst 0, 1) := by decide +kernel
theorem dX11_own_36 : decode cX11_own 36 = .ok (.invokevirtual 420, 3) := by decide +kernel
theorem dX11_own_39 : decode cX11_own 39 = .ok (.invokevirtual 382, 3) := by decide +kernel
theorem dX11_own_42 : decode cX11_own 42 = .ok (.istore 6, 2) := by decide +kernel
theorem dX11_own_44 : decode cX11_own 44 = .ok (.iload 4, 2) := by decide +kernel
theorem dX11_own_46 : decode cX11_own 46 = .ok (.tableswitch 90 0 3 #[30, 38, 48, 48], 30) := by decide +kernel
theorem dX11_own_76 : decode cX11_own 76 = .ok (.aload_n 0, 1) := by decide +kernel
theorem dX11_own_77 : decode cX11_own 77 = .ok (.iload 5, 2) := by decide +kernel
theorem dX11_own_79 : decode cX11_own 79 = .ok (.invokevirtual 420, 3) := by decide +kernel
theorem dX11_own_82 : decode cX11_own 82 = .ok (.i2l, 1) := by decide +kernel
theorem dX11_own_83 : decode cX11_own 83 = .ok (.lreturn, 1) := by decide +kernel
theorem dX11_own_84 : decode cX11_own 84 = .ok (.iload 6, 2) := by decide +kernel
theorem dX11_own_86 : decode cX11_own 86 = .ok (.iload 5, 2) := by decide +kernel
theorem dX11_own_88 : decode cX11_own 88 = .ok (.iand, 1) := by decide +kernel
theorem dX11_own_89 : decode cX11_own 89 = .ok (.invokestatic 385, 3) := by decide +kernel
theorem dX11_own_92 : decode cX11_own 92 = .ok (.i2l, 1) := by decide +kernel
theorem dX11_own_93 : decode cX11_own 93 = .ok (.lreturn, 1) := by decide +kernel
theorem dX11_own_94 : decode cX11_own 94 = .ok (.iload 6, 2) := by decide +kernel
theorem dX11_own_96 : decode cX11_own 96 = .ok (.iconst 1, 1) := by decide +kernel
theorem dX11_own_97 : decode cX11_own 97 = .ok (.if_icmp .ne 9, 3) := by decide +kernel
theorem dX11_own_100 : decode cX11_own 100 = .ok (.ldc2_w 418, 3) := by decide +kernel
theorem dX11_own_103 : decode cX11_own 103 = .ok (.goto 32, 3) := by decide +kernel
theorem dX11_own_106 : decode cX11_own 106 = .ok (.aload_n 0, 1) := by decide +kernel
theorem dX11_own_107 : decode cX11_own 107 = .ok (.iload 6, 2) := by decide +kernel
theorem dX11_own_109 : decode cX11_own 109 = .ok (.iload 5, 2) := by decide +kernel
theorem dX11_own_111 : decode cX11_own 111 = .ok (.iand, 1) := by decide +kernel
theorem dX11_own_112 : decode cX11_own 112 = .ok (.invokevirtual 469, 3) := by decide +kernel
theorem dX11_own_115 : decode cX11_own 115 = .ok (.aload_n 0, 1) := by decide +kernel
theorem dX11_own_116 : decode cX11_own 116 = .ok (.iload 6, 2) := by decide +kernel
theorem dX11_own_118 : decode cX11_own 118 = .ok (.invokevirtual 469, 3) := by decide +kernel
theorem dX11_own_121 : decode cX11_own 121 = .ok (.iload 4, 2) := by decide +kernel
theorem dX11_own_123 : decode cX11_own 123 = .ok (.iconst 3, 1) := by decide +kernel
theorem dX11_own_124 : decode cX11_own 124 = .ok (.if_icmp .ne 7, 3) := by decide +kernel
theorem dX11_own_127 : decode cX11_own 127 = .ok (.iconst 1, 1) := by decide +kernel
theorem dX11_own_128 : decode cX11_own 128 = .ok (.goto 4, 3) := by decide +kernel
theorem dX11_own_131 : decode cX11_own 131 = .ok (.iconst 0, 1) := by decide +kernel
theorem dX11_own_132 : decode cX11_own 132 = .ok (.invokestatic 472, 3) := by decide +kernel
theorem dX11_own_135 : decode cX11_own 135 = .ok (.lreturn, 1) := by decide +kernel
theorem dX11_own_136 : decode cX11_own 136 = .ok (.ldc2_w 464, 3) := by decide +kernel
theorem dX11_own_139 : decode cX11_own 139 = .ok (.lreturn, 1) := by decide +kernel
theorem q_1852 : Cond.constantLong RX11 464 (zL (-2)) ∈ zTB := zmem 1852 (by decide +kernel) rfl
theorem q_1857 : Cond.methodLink RX11 469 yX11_workIn ∈ zTB := zmem 1857 (by decide +kernel) rfl
theorem q_1859 : Cond.instanceMethod yX11_workIn ∈ zTB := zmem 1859 (by decide +kernel) rfl
theorem q_102 : Cond.selects RX11 yX11_workIn yX11_workIn ∈ zTB := zmem 102 (by decide +kernel) rfl
theorem q_1860 : Cond.code yX11_workIn cX11_workIn 5 (some .long) ∈ zTB := zmem 1860 (by decide +kernel) rfl
theorem k_RX11_469 : zLv RX11 469 RX11 yX11_workIn cX11_workIn 5 (some .long) 1 := ⟨⟨q_1857, q_1859, q_102, q_140, q_1860⟩, rfl, ⟨by decide, by decide⟩, by decide +kernel⟩
theorem q_1862 : Cond.static yX11_partL ∈ zTB := zmem 1862 (by decide +kernel) rfl
theorem q_1863 : Cond.code yX11_partL cX11_partL 5 (some .long) ∈ zTB := zmem 1863 (by decide +kernel) rfl
theorem q_1861 : Cond.methodLink RX11 472 yX11_partL ∈ zTB := zmem 1861 (by decide +kernel) rfl
theorem k_RX11_472 : zLs RX11 472 yX11_partL cX11_partL 5 (some .long) 3 := ⟨⟨q_1861, q_1862, q_140, q_1863⟩, ⟨by decide, by decide⟩, by decide +kernel⟩
theorem tsw_0_3 (z : Int) (h0 : ¬ z = 0) (h1 : ¬ z = 1) (h2 : ¬ z = 2) (h3 : ¬ z = 3) : z < 0 ∨ 3 < z := by omega
def F_X11_own (i : Nat) (X Y : Nat → Int → Int) (R : Nat → Int → Option Nat) (a : Int) (b : Int) (g : Int) (d : Int) : Prop := (∀ i j, rI (X i j)) → (∀ i j, rL (Y i j)) → ∀ X1 : Nat → Int → Int, X1 = zU X (i) 0 (0) → (∀ i j, rI (X1 i j)) → ((oTN X1 i) ∧ (∀ r5 : Bool, ∀ X3 : Nat → Int → Int, (∀ i j, rI (X3 i j)) → ∀ Y4 : Nat → Int → Int, (∀ i j, rL (Y4 i j)) → (r5 = (mIs i X1 1 (b) && mIs i X1 0 (a)) ∧ hK X1 (X3) Y (Y4) i ∧ (r5 = true → hS9 X1 (X3) i (a) (b) ∧ oH (X3) (Y4) i)) → (((r5 = false) → ((-2) = rOwn X i (a) (b) (g) (d) ∧ pK X (X3) i)) ∧ ((r5 = true) → ((0 ≤ X3 i 26) ∧ ((((mIn (g) 0 (X3 i 26 - 1)) = true) → ((oH X3 Y4 i) ∧ (rI (bS (fMd X3 i (g)) (X3 i 27).toNat) → ((oH X3 Y4 i) ∧ (∀ r14 : Int, rI r14 → ∀ X12 : Nat → Int → Int, (∀ i j, rI (X12 i j)) → ∀ Y13 : Nat → Int → Int, (∀ i j, rL (Y13 i j)) → (r14 = ((rTip X3 i (mWo X3 i ((0 : Int))) : Nat) : Int) ∧ tW X3 (X12) i ∧ wK (X12) i (mWo X3 i ((0 : Int))) (X3 i 27).toNat ∧ ∀ a, a ≠ i + 18 → (Y13) a = Y4 a) → ((∃ n : Nat, oB X12 i n ∧ 0 ≤ r14 ∧ r14 ≤ n) ∧ (rI (rWy X12 i (r14).toNat) → ((d = 0 → ((oH X12 Y13 i) ∧ (∀ r21 : Int, rI r21 → ∀ X19 : Nat → Int → Int, (∀ i j, rI (X19 i j)) → ∀ Y20 : Nat → Int → Int, (∀ i j, rL (Y20 i j)) → (r21 = ((rTip X12 i (mWo X12 i (bS (fMd X3 i (g)) (X3 i 27).toNat)) : Nat) : Int) ∧ tW X12 (X19) i ∧ wK (X19) i (mWo X12 i (bS (fMd X3 i (g)) (X3 i 27).toNat)) (X12 i 27).toNat ∧ ∀ a, a ≠ i + 18 → (Y20) a = Y13 a) → (r21 = rOwn X i (a) (b) (g) (d) ∧ pK X (X19) i)))) ∧ (d = 1 → (rI (mOnes (zAnd (rWy X12 i (r14).toNat) (bS (fMd X3 i (g)) (X3 i 27).toNat))) → (mOnes (zAnd (rWy X12 i (r14).toNat) (bS (fMd X3 i (g)) (X3 i 27).toNat)) = rOwn X i (a) (b) (g) (d) ∧ pK X (X12) i))) ∧ (d = 2 → (((¬ (rWy X12 i (r14).toNat) = 1) → ((oH X12 Y13 i) ∧ (rL (sWi (rW X12 i) (zAnd (rWy X12 i (r14).toNat) (bS (fMd X3 i (g)) (X3 i 27).toNat)) (X12 i 27).toNat) → ((oH X12 Y13 i) ∧ (rL (sWi (rW X12 i) (rWy X12 i (r14).toNat) (X12 i 27).toNat) → (((¬ d = 3) → ((0 ≤ sWi (rW X12 i) (zAnd (rWy X12 i (r14).toNat) (bS (fMd X3 i (g)) (X3 i 27).toNat)) (X12 i 27).toNat ∧ 1 ≤ sWi (rW X12 i) (rWy X12 i (r14).toNat) (X12 i 27).toNat) ∧ (rL (mPt (sWi (rW X12 i) (zAnd (rWy X12 i (r14).toNat) (bS (fMd X3 i (g)) (X3 i 27).toNat)) (X12 i 27).toNat) (sWi (rW X12 i) (rWy X12 i (r14).toNat) (X12 i 27).toNat) (false)) → (mPt (sWi (rW X12 i) (zAnd (rWy X12 i (r14).toNat) (bS (fMd X3 i (g)) (X3 i 27).toNat)) (X12 i 27).toNat) (sWi (rW X12 i) (rWy X12 i (r14).toNat) (X12 i 27).toNat) (false) = rOwn X i (a) (b) (g) (d) ∧ pK X (X12) i)))) ∧ ((¬ (¬ d = 3)) → ((0 ≤ sWi (rW X12 i) (zAnd (rWy X12 i (r14).toNat) (bS (fMd X3 i (g)) (X3 i 27).toNat)) (X12 i 27).toNat ∧ 1 ≤ sWi (rW X12 i) (rWy X12 i (r14).toNat) (X12 i 27).toNat) ∧ (rL (mPt (sWi (rW X12 i) (zAnd (rWy X12 i (r14).toNat) (bS (fMd X3 i (g)) (X3 i 27).toNat)) (X12 i 27).toNat) (sWi (rW X12 i) (rWy X12 i (r14).toNat) (X12 i 27).toNat) (true)) → (mPt (sWi (rW X12 i) (zAnd (rWy X12 i (r14).toNat) (bS (fMd X3 i (g)) (X3 i 27).toNat)) (X12 i 27).toNat) (sWi (rW X12 i) (rWy X12 i (r14).toNat) (X12 i 27).toNat) (true) = rOwn X i (a) (b) (g) (d) ∧ pK X (X12) i)))))))))) ∧ ((¬ (¬ (rWy X12 i (r14).toNat) = 1)) → ((-1) = rOwn X i (a) (b) (g) (d) ∧ pK X (X12) i)))) ∧ (d = 3 → (((¬ (rWy X12 i (r14).toNat) = 1) → ((oH X12 Y13 i) ∧ (rL (sWi (rW X12 i) (zAnd (rWy X12 i (r14).toNat) (bS (fMd X3 i (g)) (X3 i 27).toNat)) (X12 i 27).toNat) → ((oH X12 Y13 i) ∧ (rL (sWi (rW X12 i) (rWy X12 i (r14).toNat) (X12 i 27).toNat) → (((¬ d = 3) → ((0 ≤ sWi (rW X12 i) (zAnd (rWy X12 i (r14).toNat) (bS (fMd X3 i (g)) (X3 i 27).toNat)) (X12 i 27).toNat ∧ 1 ≤ sWi (rW X12 i) (rWy X12 i (r14).toNat) (X12 i 27).toNat) ∧ (rL (mPt (sWi (rW X12 i) (zAnd (rWy X12 i (r14).toNat) (bS (fMd X3 i (g)) (X3 i 27).toNat)) (X12 i 27).toNat) (sWi (rW X12 i) (rWy X12 i (r14).toNat) (X12 i 27).toNat) (false)) → (mPt (sWi (rW X12 i) (zAnd (rWy X12 i (r14).toNat) (bS (fMd X3 i (g)) (X3 i 27).toNat)) (X12 i 27).toNat) (sWi (rW X12 i) (rWy X12 i (r14).toNat) (X12 i 27).toNat) (false) = rOwn X i (a) (b) (g) (d) ∧ pK X (X12) i)))) ∧ ((¬ (¬ d = 3)) → ((0 ≤ sWi (rW X12 i) (zAnd (rWy X12 i (r14).toNat) (bS (fMd X3 i (g)) (X3 i 27).toNat)) (X12 i 27).toNat ∧ 1 ≤ sWi (rW X12 i) (rWy X12 i (r14).toNat) (X12 i 27).toNat) ∧ (rL (mPt (sWi (rW X12 i) (zAnd (rWy X12 i (r14).toNat) (bS (fMd X3 i (g)) (X3 i 27).toNat)) (X12 i 27).toNat) (sWi (rW X12 i) (rWy X12 i (r14).toNat) (X12 i 27).toNat) (true)) → (mPt (sWi (rW X12 i) (zAnd (rWy X12 i (r14).toNat) (bS (fMd X3 i (g)) (X3 i 27).toNat)) (X12 i 27).toNat) (sWi (rW X12 i) (rWy X12 i (r14).toNat) (X12 i 27).toNat) (true) = rOwn X i (a) (b) (g) (d) ∧ pK X (X12) i)))))))))) ∧ ((¬ (¬ (rWy X12 i (r14).toNat) = 1)) → ((-1) = rOwn X i (a) (b) (g) (d) ∧ pK X (X12) i)))) ∧ ((d < 0 ∨ 3 < d) → ((-2) = rOwn X i (a) (b) (g) (d) ∧ pK X (X12) i)))))))))) ∧ (((mIn (g) 0 (X3 i 26 - 1)) = false) → ((-2) = rOwn X i (a) (b) (g) (d) ∧ pK X (X3) i))))))))
set_option maxHeartbeats 4000000 in
set_option maxRecDepth 100000 in
theorem w_X11_own {l : Launch} {D : va_G} {cy : Nat → ClassId} {bs N : Nat} {sa : Nat → Nat} {kd len : Nat → Nat} {X Y : Nat → Int → Int} {R : Nat → Int → Option Nat} {i : Nat} (hM : zM N kd len R i) (a : Int) (ha : rI a) (b : Int) (hb : rI b) (g : Int) (hg : rI g) (d : Int) (hd : rI d) (hF : F_X11_own i X Y R a b g d) : Met l yX11_own (.code yX11_own cX11_own 7 (some .long) :: zTB) (zRm 6 140) (zPc D cy bs sa N kd len X Y R [.ref (bs + (i)), .int (zI (a)), .int (zI (b)), .int (zI (g)), .int (zI (d))]) (zQl D cy bs N kd len (fun r st => st.2.2 = R ∧ (r = rOwn X i (a) (b) (g) (d) ∧ pK X (st.1) i))) 0 0 (zA bs) := by
  refine zstart (by decide) (Nat.le_of_ble_eq_true rfl) ?_
  intro p e s m args below meth c ls C hE hH hr hlk hnm hl hargs
  have hF := hF hH.2.2.1 hH.2.2.2
  have hS : va_S (zA bs) s.heap s.heap [] := va_S.rf
  have hl : lv_has ls 7 [(0, .ref (bs + (i))), (1, .int (zI (a))), (2, .int (zI (b))), (3, .int (zI (g))), (4, .int (zI (d)))] := hl
  refine lv_aload_n C.1 C.2.1 dX11_own_0 rfl (lv_at hl 0 rfl) ?_
  refine zd_iconst C dX11_own_1 ?_
  refine zp11_0 C hH hS (zM_n0 hM) (zM_k0 hM) q_1287 (by decide) dX11_own_2 (fun H locs hH hS => ?_)
  obtain ⟨X1, eX1⟩ : ∃ z, z = zU X (i) 0 (0) := ⟨_, rfl⟩
  rw [← eX1] at hH
  have hF := hF X1 eX1 hH.2.2.1
  refine lv_aload_n C.1 C.2.1 dX11_own_5 rfl (lv_at hl 0 rfl) ?_
  refine lv_iload_n C.1 C.2.1 dX11_own_6 rfl (lv_at hl 1 rfl) ?_
  refine lv_iload_n C.1 C.2.1 dX11_own_7 rfl (lv_at hl 2 rfl) ?_
  obtain ⟨o2, hF⟩ := hF
  refine zgoi (zrunV (As := [.int (zI (a)), .int (zI (b))]) (rest := []) C hE hH hS hl.1 (c_X11_hand (l := l) hM (a) ha (b) hb o2) k_RX11_397 ⟨Nat.le_of_ble_eq_true rfl, Nat.le_of_ble_eq_true rfl⟩ (zM_n0 hM) (zM_k0 hM) rfl rfl rfl (Nat.le_of_ble_eq_true rfl) dX11_own_8 ⟨Nat.zero_le _, Nat.zero_le _⟩) hS (fun rq X3 Y4 Rq H locs hrq hq hH hS => ?_)
  obtain ⟨h9R, hq⟩ := hq
  dsimp only at h9R
  rw [h9R] at hH
  obtain ⟨r5, h91, hq⟩ := hq
  subst h91
  have hF := hF r5 X3 hH.2.2.1 Y4 hH.2.2.2 hq
  refine zd_ifB_eq C 22 dX11_own_11 (by decide) (fun c6 => ?_) (fun c6 => ?_)
  · have hF := hF.1 c6
    refine lv_ldc2 (v := zL (-2)) C.1 C.2.1 C.2.2.2.1 (C.2.2.2.2.1 _ q_1852) dX11_own_22 ?_
    exact zd_lret C hr hlk hH hS (by decide) (⟨rfl, hF⟩) dX11_own_25
  · have hF := hF.2 c6
    refine lv_aload_n C.1 C.2.1 dX11_own_14 rfl (lv_at hl 0 rfl) ?_
    refine lv_iload_n C.1 C.2.1 dX11_own_15 rfl (lv_at hl 3 rfl) ?_
    obtain ⟨o7, hF⟩ := hF
    refine zgoi (zrunV (As := [.int (zI (g))]) (rest := []) C hE hH hS hl.1 (c_X11_isAccount (l := l) hM (g) hg o7) k_RX11_289 ⟨Nat.le_of_ble_eq_true rfl, Nat.le_of_ble_eq_true rfl⟩ (zM_n0 hM) (zM_k0 hM) rfl rfl rfl (Nat.le_of_ble_eq_true rfl) dX11_own_16 ⟨Nat.zero_le _, Nat.zero_le _⟩) hS (fun rq Xq Yq Rq H locs hrq hq hH hS => ?_)
    obtain ⟨h91, h92⟩ := hq
    have h93 : Xq = X3 := congrArg (fun z => z.1) h92
    have h94 : Yq = Y4 := congrArg (fun z => z.2.1) h92
    have h95 : Rq = R := congrArg (fun z => z.2.2) h92
    rw [h93, h94, h95] at hH
    subst h91
    refine zd_ifB_ne C 26 dX11_own_19 (by decide) (fun c8 => ?_) (fun c8 => ?_)
    · have hF := hF.1 c8
      refine lv_aload_n C.1 C.2.1 dX11_own_26 rfl (lv_at hl 0 rfl) ?_
      refine lv_iload_n C.1 C.2.1 dX11_own_27 rfl (lv_at hl 3 rfl) ?_
      obtain ⟨o9, hF⟩ := hF
      refine zgoi (zrunV (As := [.int (zI (g))]) (rest := []) C hE hH hS hl.1 (c_X11_madeBy (l := l) hM (g) hg o9) k_RX11_466 ⟨Nat.le_of_ble_eq_true rfl, Nat.le_of_ble_eq_true rfl⟩ (zM_n0 hM) (zM_k0 hM) rfl rfl rfl (Nat.le_of_ble_eq_true rfl) dX11_own_28 ⟨Nat.zero_le _, Nat.zero_le _⟩) hS (fun rq Xq Yq Rq H locs hrq hq hH hS => ?_)
      obtain ⟨h91, h92⟩ := hq
      have h93 : Xq = X3 := congrArg (fun z => z.1) h92
      have h94 : Yq = Y4 := congrArg (fun z => z.2.1) h92
      have h95 : Rq = R := congrArg (fun z => z.2.2) h92
      rw [h93, h94, h95] at hH
      subst h91
      have hr10 := hrq
      have hF := hF hr10
      refine lv_istore (lv' := [(5, .int (zI (bS (fMd X3 i (g)) (X3 i 27).toNat))), (0, .ref (bs + (i))), (1, .int (zI (a))), (2, .int (zI (b))), (3, .int (zI (g))), (4, .int (zI (d)))]) C.1 C.2.1 dX11_own_31 hl (by decide) rfl (fun ls hl => ?_)
      refine lv_aload_n C.1 C.2.1 dX11_own_33 rfl (lv_at hl 1 rfl) ?_
      refine lv_aload_n C.1 C.2.1 dX11_own_34 rfl (lv_at hl 1 rfl) ?_
      refine zd_iconst C dX11_own_35 ?_
      obtain ⟨o11, hF⟩ := hF
      refine zgoi (zrunV (As := [.int (zI (0))]) (rest := [.ref (bs + (i))]) C hE hH hS hl.1 (c_X11_tipWithout (l := l) hM (0) (by decide) o11) k_RX11_420 ⟨Nat.le_of_ble_eq_true rfl, Nat.le_of_ble_eq_true rfl⟩ (zM_n0 hM) (zM_k0 hM) rfl rfl rfl (Nat.le_of_ble_eq_true rfl) dX11_own_36 ⟨Nat.zero_le _, Nat.zero_le _⟩) hS (fun r14 X12 Y13 Rq H locs hrq hq hH hS => ?_)
      obtain ⟨h9R, hq⟩ := hq
      dsimp only at h9R
      rw [h9R] at hH
      have hr14 := hrq
      have hF := hF r14 hrq X12 hH.2.2.1 Y13 hH.2.2.2 hq
      obtain ⟨o15, hF⟩ := hF
      refine zgoi (zrunV (As := [.int (zI (r14))]) (rest := []) C hE hH hS hl.1 (c_X11_wayTo (l := l) hM (r14) hr14 o15) k_RX11_382 ⟨Nat.le_of_ble_eq_true rfl, Nat.le_of_ble_eq_true rfl⟩ (zM_n0 hM) (zM_k0 hM) rfl rfl rfl (Nat.le_of_ble_eq_true rfl) dX11_own_39 ⟨Nat.zero_le _, Nat.zero_le _⟩) hS (fun rq Xq Yq Rq H locs hrq hq hH hS => ?_)
      obtain ⟨h91, h92⟩ := hq
      have h93 : Xq = X12 := congrArg (fun z => z.1) h92
      have h94 : Yq = Y13 := congrArg (fun z => z.2.1) h92
      have h95 : Rq = R := congrArg (fun z => z.2.2) h92
      rw [h93, h94, h95] at hH
      subst h91
      have hr16 := hrq
      have hF := hF hr16
      refine lv_istore (lv' := [(6, .int (zI (rWy X12 i (r14).toNat))), (5, .int (zI (bS (fMd X3 i (g)) (X3 i 27).toNat))), (0, .ref (bs + (i))), (1, .int (zI (a))), (2, .int (zI (b))), (3, .int (zI (g))), (4, .int (zI (d)))]) C.1 C.2.1 dX11_own_42 hl (by decide) rfl (fun ls hl => ?_)
      refine lv_iload C.1 C.2.1 dX11_own_44 (lv_at hl 6 rfl) ?_
      by_cases c17_0 : d = 0
      · have hF := hF.1 c17_0
        refine zd_tabI C hd 76 (0) c17_0 dX11_own_46 (by decide) (by decide) rfl (by decide) ?_
        refine lv_aload_n C.1 C.2.1 dX11_own_76 rfl (lv_at hl 2 rfl) ?_
        refine lv_iload C.1 C.2.1 dX11_own_77 (lv_at hl 1 rfl) ?_
        obtain ⟨o18, hF⟩ := hF
        refine zgoi (zrunV (As := [.int (zI (bS (fMd X3 i (g)) (X3 i 27).toNat))]) (rest := []) C hE hH hS hl.1 (c_X11_tipWithout (l := l) hM (bS (fMd X3 i (g)) (X3 i 27).toNat) hr10 o18) k_RX11_420 ⟨Nat.le_of_ble_eq_true rfl, Nat.le_of_ble_eq_true rfl⟩ (zM_n0 hM) (zM_k0 hM) rfl rfl rfl (Nat.le_of_ble_eq_true rfl) dX11_own_79 ⟨Nat.zero_le _, Nat.zero_le _⟩) hS (fun r21 X19 Y20 Rq H locs hrq hq hH hS => ?_)
        obtain ⟨h9R, hq⟩ := hq
        dsimp only at h9R
        rw [h9R] at hH
        have hr21 := hrq
        have hF := hF r21 hrq X19 hH.2.2.1 Y20 hH.2.2.2 hq
        refine zd_i2l C hr21 dX11_own_82 ?_
        exact zd_lret C hr hlk hH hS (rI_rL hr21) (⟨rfl, hF⟩) dX11_own_83
      · have hF := hF.2
        by_cases c17_1 : d = 1
        · have hF := hF.1 c17_1
          refine zd_tabI C hd 84 (1) c17_1 dX11_own_46 (by decide) (by decide) rfl (by decide) ?_
          refine lv_iload C.1 C.2.1 dX11_own_84 (lv_at hl 0 rfl) ?_
          refine lv_iload C.1 C.2.1 dX11_own_86 (lv_at hl 1 rfl) ?_
          refine zd_iand C dX11_own_88 ?_
          refine zgoi (zrunS (As := [.int (zI (zAnd (rWy X12 i (r14).toNat) (bS (fMd X3 i (g)) (X3 i 27).toNat)))]) (rest := []) C hE hH hS hl.1 (c_X11_ones (l := l)  (zAnd (rWy X12 i (r14).toNat) (bS (fMd X3 i (g)) (X3 i 27).toNat)) (zI_rg _)) k_RX11_385 ⟨Nat.le_of_ble_eq_true rfl, Nat.le_of_ble_eq_true rfl⟩ rfl (Nat.le_of_ble_eq_true rfl) dX11_own_89 ⟨Nat.zero_le _, Nat.zero_le _⟩) hS (fun rq Xq Yq Rq H locs hrq hq hH hS => ?_)
          obtain ⟨h91, h92⟩ := hq
          have h93 : Xq = X12 := congrArg (fun z => z.1) h92
          have h94 : Yq = Y13 := congrArg (fun z => z.2.1) h92
          have h95 : Rq = R := congrArg (fun z => z.2.2) h92
          rw [h93, h94, h95] at hH
          subst h91
          have hr22 := hrq
          have hF := hF hr22
          refine zd_i2l C hr22 dX11_own_92 ?_
          exact zd_lret C hr hlk hH hS (rI_rL hr22) (⟨rfl, hF⟩) dX11_own_93
        · have hF := hF.2
          by_cases c17_2 : d = 2
          · have hF := hF.1 c17_2
            refine zd_tabI C hd 94 (2) c17_2 dX11_own_46 (by decide) (by decide) rfl (by decide) ?_
            refine lv_iload C.1 C.2.1 dX11_own_94 (lv_at hl 0 rfl) ?_
            refine zd_iconst C dX11_own_96 ?_
            refine zd_icmp_ne C hr16 (by decide) 106 dX11_own_97 (by decide) (fun c23 => ?_) (fun c23 => ?_)
            · have hF := hF.1 c23
              refine lv_aload_n C.1 C.2.1 dX11_own_106 rfl (lv_at hl 2 rfl) ?_
              refine lv_iload C.1 C.2.1 dX11_own_107 (lv_at hl 0 rfl) ?_
              refine lv_iload C.1 C.2.1 dX11_own_109 (lv_at hl 1 rfl) ?_
              refine zd_iand C dX11_own_111 ?_
              obtain ⟨o24, hF⟩ := hF
              refine zgol (zrunV (As := [.int (zI (zAnd (rWy X12 i (r14).toNat) (bS (fMd X3 i (g)) (X3 i 27).toNat)))]) (rest := []) C hE hH hS hl.1 (c_X11_workIn (l := l) hM (zAnd (rWy X12 i (r14).toNat) (bS (fMd X3 i (g)) (X3 i 27).toNat)) (zI_rg _) o24) k_RX11_469 ⟨Nat.le_of_ble_eq_true rfl, Nat.le_of_ble_eq_true rfl⟩ (zM_n0 hM) (zM_k0 hM) rfl rfl rfl (Nat.le_of_ble_eq_true rfl) dX11_own_112 ⟨Nat.zero_le _, Nat.zero_le _⟩) hS (fun rq Xq Yq Rq H locs hrq hq hH hS => ?_)
              obtain ⟨h91, h92⟩ := hq
              have h93 : Xq = X12 := congrArg (fun z => z.1) h92
              have h94 : Yq = Y13 := congrArg (fun z => z.2.1) h92
              have h95 : Rq = R := congrArg (fun z => z.2.2) h92
              rw [h93, h94, h95] at hH
              subst h91
              have hr25 := hrq
              have hF := hF hr25
              refine lv_aload_n C.1 C.2.1 dX11_own_115 rfl (lv_at hl 2 rfl) ?_
              refine lv_iload C.1 C.2.1 dX11_own_116 (lv_at hl 0 rfl) ?_
              obtain ⟨o26, hF⟩ := hF
              refine zgol (zrunV (As := [.int (zI (rWy X12 i (r14).toNat))]) (rest := [.long (zL (sWi (rW X12 i) (zAnd (rWy X12 i (r14).toNat) (bS (fMd X3 i (g)) (X3 i 27).toNat)) (X12 i 27).toNat))]) C hE hH hS hl.1 (c_X11_workIn (l := l) hM (rWy X12 i (r14).toNat) hr16 o26) k_RX11_469 ⟨Nat.le_of_ble_eq_true rfl, Nat.le_of_ble_eq_true rfl⟩ (zM_n0 hM) (zM_k0 hM) rfl rfl rfl (Nat.le_of_ble_eq_true rfl) dX11_own_118 ⟨Nat.zero_le _, Nat.zero_le _⟩) hS (fun rq Xq Yq Rq H locs hrq hq hH hS => ?_)
              obtain ⟨h91, h92⟩ := hq
              have h93 : Xq = X12 := congrArg (fun z => z.1) h92
              have h94 : Yq = Y13 := congrArg (fun z => z.2.1) h92
              have h95 : Rq = R := congrArg (fun z => z.2.2) h92
              rw [h93, h94, h95] at hH
              subst h91
              have hr27 := hrq
              have hF := hF hr27
              refine lv_iload C.1 C.2.1 dX11_own_121 (lv_at hl 6 rfl) ?_
              refine zd_iconst C dX11_own_123 ?_
              refine zd_icmp_ne C hd (by decide) 131 dX11_own_124 (by decide) (fun c28 => ?_) (fun c28 => ?_)
              · have hF := hF.1 c28
                refine zd_iconst C dX11_own_131 ?_
                obtain ⟨o29, hF⟩ := hF
                refine zgol (zrunS (As := [.long (zL (sWi (rW X12 i) (zAnd (rWy X12 i (r14).toNat) (bS (fMd X3 i (g)) (X3 i 27).toNat)) (X12 i 27).toNat)), .long (zL (sWi (rW X12 i) (rWy X12 i (r14).toNat) (X12 i 27).toNat)), .int (zI (bz (false)))]) (rest := []) C hE hH hS hl.1 (c_X11_partL (l := l)  (sWi (rW X12 i) (zAnd (rWy X12 i (r14).toNat) (bS (fMd X3 i (g)) (X3 i 27).toNat)) (X12 i 27).toNat) hr25 (sWi (rW X12 i) (rWy X12 i (r14).toNat) (X12 i 27).toNat) hr27 false o29) k_RX11_472 ⟨Nat.le_of_ble_eq_true rfl, Nat.le_of_ble_eq_true rfl⟩ rfl (Nat.le_of_ble_eq_true rfl) dX11_own_132 ⟨Nat.zero_le _, Nat.zero_le _⟩) hS (fun rq Xq Yq Rq H locs hrq hq hH hS => ?_)
                obtain ⟨h91, h92⟩ := hq
                have h93 : Xq = X12 := congrArg (fun z => z.1) h92
                have h94 : Yq = Y13 := congrArg (fun z => z.2.1) h92
                have h95 : Rq = R := congrArg (fun z => z.2.2) h92
                rw [h93, h94, h95] at hH
                subst h91
                have hr30 := hrq
                have hF := hF hr30
                exact zd_lret C hr hlk hH hS hr30 (⟨rfl, hF⟩) dX11_own_135
              · have hF := hF.2 c28
                refine zd_iconst C dX11_own_127 ?_
                refine lv_goto (tgt := 132) C.1 C.2.1 dX11_own_128 (by decide) ?_
                obtain ⟨o31, hF⟩ := hF
                refine zgol (zrunS (As := [.long (zL (sWi (rW X12 i) (zAnd (rWy X12 i (r14).toNat) (bS (fMd X3 i (g)) (X3 i 27).toNat)) (X12 i 27).toNat)), .long (zL (sWi (rW X12 i) (rWy X12 i (r14).toNat) (X12 i 27).toNat)), .int (zI (bz (true)))]) (rest := []) C hE hH hS hl.1 (c_X11_partL (l := l)  (sWi (rW X12 i) (zAnd (rWy X12 i (r14).toNat) (bS (fMd X3 i (g)) (X3 i 27).toNat)) (X12 i 27).toNat) hr25 (sWi (rW X12 i) (rWy X12 i (r14).toNat) (X12 i 27).toNat) hr27 true o31) k_RX11_472 ⟨Nat.le_of_ble_eq_true rfl, Nat.le_of_ble_eq_true rfl⟩ rfl (Nat.le_of_ble_eq_true rfl) dX11_own_132 ⟨Nat.zero_le _, Nat.zero_le _⟩) hS (fun rq Xq Yq Rq H locs hrq hq hH hS => ?_)
                obtain ⟨h91, h92⟩ := hq
                have h93 : Xq = X12 := congrArg (fun z => z.1) h92
                have h94 : Yq = Y13 := congrArg (fun z => z.2.1) h92
                have h95 : Rq = R := congrArg (fun z => z.2.2) h92
                rw [h93, h94, h95] at hH
                subst h91
                have hr32 := hrq
                have hF := hF hr32
                exact zd_lret C hr hlk hH hS hr32 (⟨rfl, hF⟩) dX11_own_135
            · have hF := hF.2 c23
              refine lv_ldc2 (v := zL (-1)) C.1 C.2.1 C.2.2.2.1 (C.2.2.2.2.1 _ q_1787) dX11_own_100 ?_
              refine lv_goto (tgt := 135) C.1 C.2.1 dX11_own_103 (by decide) ?_
              exact zd_lret C hr hlk hH hS (by decide) (⟨rfl, hF⟩) dX11_own_135
          · have hF := hF.2
            by_cases c17_3 : d = 3
            · have hF := hF.1 c17_3
              refine zd_tabI C hd 94 (3) c17_3 dX11_own_46 (by decide) (by decide) rfl (by decide) ?_
              refine lv_iload C.1 C.2.1 dX11_own_94 (lv_at hl 0 rfl) ?_
              refine zd_iconst C dX11_own_96 ?_
              refine zd_icmp_ne C hr16 (by decide) 106 dX11_own_97 (by decide) (fun c33 => ?_) (fun c33 => ?_)
              · have hF := hF.1 c33
                refine lv_aload_n C.1 C.2.1 dX11_own_106 rfl (lv_at hl 2 rfl) ?_
                refine lv_iload C.1 C.2.1 dX11_own_107 (lv_at hl 0 rfl) ?_
                refine lv_iload C.1 C.2.1 dX11_own_109 (lv_at hl 1 rfl) ?_
                refine zd_iand C dX11_own_111 ?_
                obtain ⟨o34, hF⟩ := hF
                refine zgol (zrunV (As := [.int (zI (zAnd (rWy X12 i (r14).toNat) (bS (fMd X3 i (g)) (X3 i 27).toNat)))]) (rest := []) C hE hH hS hl.1 (c_X11_workIn (l := l) hM (zAnd (rWy X12 i (r14).toNat) (bS (fMd X3 i (g)) (X3 i 27).toNat)) (zI_rg _) o34) k_RX11_469 ⟨Nat.le_of_ble_eq_true rfl, Nat.le_of_ble_eq_true rfl⟩ (zM_n0 hM) (zM_k0 hM) rfl rfl rfl (Nat.le_of_ble_eq_true rfl) dX11_own_112 ⟨Nat.zero_le _, Nat.zero_le _⟩) hS (fun rq Xq Yq Rq H locs hrq hq hH hS => ?_)
                obtain ⟨h91, h92⟩ := hq
                have h93 : Xq = X12 := congrArg (fun z => z.1) h92
                have h94 : Yq = Y13 := congrArg (fun z => z.2.1) h92
                have h95 : Rq = R := congrArg (fun z => z.2.2) h92
                rw [h93, h94, h95] at hH
                subst h91
                have hr35 := hrq
                have hF := hF hr35
                refine lv_aload_n C.1 C.2.1 dX11_own_115 rfl (lv_at hl 2 rfl) ?_
                refine lv_iload C.1 C.2.1 dX11_own_116 (lv_at hl 0 rfl) ?_
                obtain ⟨o36, hF⟩ := hF
                refine zgol (zrunV (As := [.int (zI (rWy X12 i (r14).toNat))]) (rest := [.long (zL (sWi (rW X12 i) (zAnd (rWy X12 i (r14).toNat) (bS (fMd X3 i (g)) (X3 i 27).toNat)) (X12 i 27).toNat))]) C hE hH hS hl.1 (c_X11_workIn (l := l) hM (rWy X12 i (r14).toNat) hr16 o36) k_RX11_469 ⟨Nat.le_of_ble_eq_true rfl, Nat.le_of_ble_eq_true rfl⟩ (zM_n0 hM) (zM_k0 hM) rfl rfl rfl (Nat.le_of_ble_eq_true rfl) dX11_own_118 ⟨Nat.zero_le _, Nat.zero_le _⟩) hS (fun rq Xq Yq Rq H locs hrq hq hH hS => ?_)
                obtain ⟨h91, h92⟩ := hq
                have h93 : Xq = X12 := congrArg (fun z => z.1) h92
                have h94 : Yq = Y13 := congrArg (fun z => z.2.1) h92
                have h95 : Rq = R := congrArg (fun z => z.2.2) h92
                rw [h93, h94, h95] at hH
                subst h91
                have hr37 := hrq
                have hF := hF hr37
                refine lv_iload C.1 C.2.1 dX11_own_121 (lv_at hl 6 rfl) ?_
                refine zd_iconst C dX11_own_123 ?_
                refine zd_icmp_ne C hd (by decide) 131 dX11_own_124 (by decide) (fun c38 => ?_) (fun c38 => ?_)
                · have hF := hF.1 c38
                  refine zd_iconst C dX11_own_131 ?_
                  obtain ⟨o39, hF⟩ := hF
                  refine zgol (zrunS (As := [.long (zL (sWi (rW X12 i) (zAnd (rWy X12 i (r14).toNat) (bS (fMd X3 i (g)) (X3 i 27).toNat)) (X12 i 27).toNat)), .long (zL (sWi (rW X12 i) (rWy X12 i (r14).toNat) (X12 i 27).toNat)), .int (zI (bz (false)))]) (rest := []) C hE hH hS hl.1 (c_X11_partL (l := l)  (sWi (rW X12 i) (zAnd (rWy X12 i (r14).toNat) (bS (fMd X3 i (g)) (X3 i 27).toNat)) (X12 i 27).toNat) hr35 (sWi (rW X12 i) (rWy X12 i (r14).toNat) (X12 i 27).toNat) hr37 false o39) k_RX11_472 ⟨Nat.le_of_ble_eq_true rfl, Nat.le_of_ble_eq_true rfl⟩ rfl (Nat.le_of_ble_eq_true rfl) dX11_own_132 ⟨Nat.zero_le _, Nat.zero_le _⟩) hS (fun rq Xq Yq Rq H locs hrq hq hH hS => ?_)
                  obtain ⟨h91, h92⟩ := hq
                  have h93 : Xq = X12 := congrArg (fun z => z.1) h92
                  have h94 : Yq = Y13 := congrArg (fun z => z.2.1) h92
                  have h95 : Rq = R := congrArg (fun z => z.2.2) h92
                  rw [h93, h94, h95] at hH
                  subst h91
                  have hr40 := hrq
                  have hF := hF hr40
                  exact zd_lret C hr hlk hH hS hr40 (⟨rfl, hF⟩) dX11_own_135
                · have hF := hF.2 c38
                  refine zd_iconst C dX11_own_127 ?_
                  refine lv_goto (tgt := 132) C.1 C.2.1 dX11_own_128 (by decide) ?_
                  obtain ⟨o41, hF⟩ := hF
                  refine zgol (zrunS (As := [.long (zL (sWi (rW X12 i) (zAnd (rWy X12 i (r14).toNat) (bS (fMd X3 i (g)) (X3 i 27).toNat)) (X12 i 27).toNat)), .long (zL (sWi (rW X12 i) (rWy X12 i (r14).toNat) (X12 i 27).toNat)), .int (zI (bz (true)))]) (rest := []) C hE hH hS hl.1 (c_X11_partL (l := l)  (sWi (rW X12 i) (zAnd (rWy X12 i (r14).toNat) (bS (fMd X3 i (g)) (X3 i 27).toNat)) (X12 i 27).toNat) hr35 (sWi (rW X12 i) (rWy X12 i (r14).toNat) (X12 i 27).toNat) hr37 true o41) k_RX11_472 ⟨Nat.le_of_ble_eq_true rfl, Nat.le_of_ble_eq_true rfl⟩ rfl (Nat.le_of_ble_eq_true rfl) dX11_own_132 ⟨Nat.zero_le _, Nat.zero_le _⟩) hS (fun rq Xq Yq Rq H locs hrq hq hH hS => ?_)
                  obtain ⟨h91, h92⟩ := hq
                  have h93 : Xq = X12 := congrArg (fun z => z.1) h92
                  have h94 : Yq = Y13 := congrArg (fun z => z.2.1) h92
                  have h95 : Rq = R := congrArg (fun z => z.2.2) h92
                  rw [h93, h94, h95] at hH
                  subst h91
                  have hr42 := hrq
                  have hF := hF hr42
                  exact zd_lret C hr hlk hH hS hr42 (⟨rfl, hF⟩) dX11_own_135
              · have hF := hF.2 c33
                refine lv_ldc2 (v := zL (-1)) C.1 C.2.1 C.2.2.2.1 (C.2.2.2.2.1 _ q_1787) dX11_own_100 ?_
                refine lv_goto (tgt := 135) C.1 C.2.1 dX11_own_103 (by decide) ?_
                exact zd_lret C hr hlk hH hS (by decide) (⟨rfl, hF⟩) dX11_own_135
            · have hF := hF.2
              have c17 := tsw_0_3 (d) c17_0 c17_1 c17_2 c17_3
              have hF := hF c17
              refine zd_tabO C hd 136 c17 dX11_own_46 (by decide) ?_
              refine lv_ldc2 (v := zL (-2)) C.1 C.2.1 C.2.2.2.1 (C.2.2.2.2.1 _ q_1852) dX11_own_136 ?_
              exact zd_lret C hr hlk hH hS (by decide) (⟨rfl, hF⟩) dX11_own_139
    · have hF := hF.2 c8
      refine lv_ldc2 (v := zL (-2)) C.1 C.2.1 C.2.2.2.1 (C.2.2.2.2.1 _ q_1852) dX11_own_22 ?_
      exact zd_lret C hr hlk hH hS (by decide) (⟨rfl, hF⟩) dX11_own_25
theorem v_X11_own {X Y : Nat → Int → Int} {R : Nat → Int → Option Nat} {i : Nat} (a : Int) (ha : rI a) (b : Int) (hb : rI b) (g : Int) (hg : rI g) (d : Int) (hd : rI d) (hp : oTN X i) : F_X11_own i X Y R a b g d := by
  unfold F_X11_own
  intro hX hY X1 e1 xr1
  have hT := hp
  have o1 : ∀ z, z ≠ i → X1 z = X z := fun z h => by rw [e1, zU_o h]
  have em : ∀ s k, mIs i X1 s k = mIs i X s k := fun s k => by
    unfold mIs
    rw [o1 _ (by omega)]
  refine ⟨oTN_k (o1 _ (by omega)) (o1 _ (by omega)) (o1 _ (by omega)) hT, fun r5 X3 xr3 Y4 yr4 h5 => ?_⟩
  obtain ⟨e5, hk, h5⟩ := h5
  rw [em, em] at e5
  obtain ⟨p3, hz⟩ := hd_ok (n := a) (c := b) e1 hk
  refine ⟨fun c => ⟨by unfold rOwn rOk; rw [← e5, c]; rfl, p3⟩, fun c => ?_⟩
  rw [c] at e5
  obtain ⟨h9, h⟩ := h5 c
  obtain ⟨z, h27⟩ := hz h9
  have hb := h.1.2.2.1
  have hA := h.1.2.1
  have hBs := h.1.2.2.2
  have en : X3 i 27 - 1 = qN X i b := by
    rw [h27]
    show 1 + X (i + 7) (183 * b) - 1 = X (i + 7) (183 * b)
    omega
  have h0 : 0 ≤ X3 i 27 := by omega
  have h35 := h.2.2.2.1
  have h26 : X3 i 26 = X (i + 6) (13 * a + 6) := z.1.2.2.2.2.1.trans hZ_26
  have hx : ∀ k, mIn k 0 (qN X i b) = true → (0 ≤ k ∧ k < X3 i 27) ∧ mHas (X3 i 35) k = sdf (hZ X i a b 0) i k.toNat := fun k hk => by
    have hm := mIn_t.mp hk
    have h2 : k ≤ X (i + 7) (183 * b) := hm.2
    have h3 : k < X3 i 27 := by rw [h27]; show k < 1 + X (i + 7) (183 * b); omega
    refine ⟨⟨hm.1, h3⟩, ?_⟩
    rw [← sdf_s z, h35]
    have q := bS_has (sdf X3 i) (n := (X3 i 27).toNat) (k := k.toNat) (by omega) (by omega)
    rw [show ((k.toNat : Nat) : Int) = k by omega] at q
    exact q
  have ld : ∀ k w, mIn k 0 (qN X i b) = true → mHas (X3 i 35) k = true → 0 ≤ w → w < 6 → X3 (i + 16) (6 * k + w) = rLd (hZ X i a b 0) i k.toNat w ∧ 0 ≤ X3 (i + 16) (6 * k + w) ∧ X3 (i + 16) (6 * k + w) ≤ 100000 := fun k w hk hs w0 w1 => by
    obtain ⟨⟨k0, k1⟩, k2⟩ := hx k hk
    rw [k2, ← sdf_s z] at hs
    have q := led_k h (k := k.toNat) (a := w) (by omega) hs w0 w1
    rw [show ((k.toNat : Nat) : Int) = k by omega] at q
    unfold sdf at hs
    obtain ⟨M, hM⟩ := Option.isSome_iff_exists.mp hs
    have b := rS_b hA hBs k.toNat (by omega) M hM w w0 w1
    have e : rLd X3 i k.toNat w = M w := by
      unfold rLd
      rw [hM]
      rfl
    rw [q, ← rLd_s z, e]
    exact ⟨rfl, b.1, by omega⟩
  rw [h26]
  have hA1 := hA.1
  rw [h26] at hA1
  have pbs : sPar (rP X3 i) (X3 i 27 - 1).toNat := rP_par hBs.1
  refine ⟨hA1.1, fun cm => ⟨h, fun _ => ⟨h, fun r14 _ X12 x12r Y13 y13r hq => ?_⟩⟩, fun cm => ⟨by unfold rOwn rOk; rw [← e5, cm]; rfl, p3⟩⟩
  obtain ⟨e14, tw, -, hy⟩ := hq
  have tt := tW_t tw
  have s27 : X12 i 27 = X3 i 27 := tt.2.2.2.2.2.1
  have s28 : X12 i 28 = X3 i 28 := tw.2 28 (by decide) (by decide)
  have ff : fK X3 X12 Y4 Y13 i := ⟨tw.1, fun s hs => tw.2 s (by omega) (by omega), hy⟩
  have oh := oH_f ff (by rw [s28]; exact h.2.1.1) h
  have p9 : ∀ {X9 Y9 : Nat → Int → Int}, fK X3 X9 Y4 Y9 i → pK X X9 i := fun f => ⟨fun a h1 h2 => (f.1 a h1 (by omega)).trans (p3.1 a h1 h2), (f.2.1 0 (by omega)).trans p3.2⟩
  have u : ∀ y X9, pK X X9 i → y = owOf X3 i g d → y = rOwn X i a b g d ∧ pK X X9 i := fun y X9 hp9 hy => by
    refine ⟨?_, hp9⟩
    unfold rOwn rOk
    rw [← e5, cm, ← owOf_s z]
    exact hy
  have tl : rTip X3 i (mWo X3 i 0) < (X3 i 27).toNat := sTip_b (by omega)
  have ew : ∀ k, rWy X12 i k = wyP (rP X3 i) k := fun k => by
    show bS (onW (rP X12 i) k) 15 = bS (onW (rP X3 i) k) 15
    rw [rP_t tt]
  rw [ew, e14, Int.toNat_natCast, rW_t tt, s27]
  have hl := h.2.2.1
  have wb : ∀ k : Nat, k < (X3 i 27).toNat → 1 ≤ rW X3 i k ∧ rW X3 i k ≤ 26575110144 := fun k hk => by
    rw [← (hl k (by omega)).2.1]
    exact (oH_W h).2.2 k (by omega)
  have b0 : ∀ s, 0 ≤ sWi (rW X3 i) s (X3 i 27).toNat := fun s => (sWi_b (s := s) wb).1
  have b1 : wyP (rP X3 i) (rTip X3 i (mWo X3 i 0)) ≠ 1 → 1 ≤ sWi (rW X3 i) (wyP (rP X3 i) (rTip X3 i (mWo X3 i 0))) (X3 i 27).toNat := fun hne => by
    have t1 : 1 ≤ rTip X3 i (mWo X3 i 0) := by
      rcases Nat.eq_zero_or_pos (rTip X3 i (mWo X3 i 0)) with e | e
      · exact absurd (by rw [e]; exact wyP_0) hne
      · exact e
    exact sWi_1 t1 (wyP_me (pbs _ t1 (by omega)) (by omega)) _ (fun j hj => (wb j hj).1) tl
  refine ⟨⟨(X3 i 27 - 1).toNat, oB_t tt hBs.1, by omega, by omega⟩, fun _ => ⟨fun e => ⟨oh, fun r21 _ X19 x19r Y20 y20r hq => ?_⟩, fun e _ => u _ _ (p9 ff) ?_, fun e => ⟨fun cw => ⟨oh, fun _ => ⟨oh, fun _ => ⟨fun _ => ⟨⟨b0 _, b1 cw⟩, fun _ => u _ _ (p9 ff) ?_⟩, fun q => by omega⟩⟩⟩, fun cw => u _ _ (p9 ff) ?_⟩, fun e => ⟨fun cw => ⟨oh, fun _ => ⟨oh, fun _ => ⟨fun q => absurd e q, fun _ => ⟨⟨b0 _, b1 cw⟩, fun _ => u _ _ (p9 ff) ?_⟩⟩⟩⟩, fun cw => u _ _ (p9 ff) ?_⟩, fun e => u _ _ (p9 ff) ?_⟩⟩
  · obtain ⟨e21, tw2, -, hy2⟩ := hq
    refine u _ _ (p9 (ff.tr ⟨tw2.1, fun s hs => tw2.2 s (by omega) (by omega), hy2⟩)) ?_
    rw [e21, rTip_t tt s28, e]
    rfl
  · rw [e]
    rfl
  · rw [e]
    unfold owOf
    rw [if_neg (by decide), if_neg (by decide), if_pos (Or.inl rfl), if_neg cw]
    rfl
  · rw [e]
    unfold owOf
    rw [if_neg (by decide), if_neg (by decide), if_pos (Or.inl rfl), if_pos (Classical.not_not.mp cw)]
  · rw [e]
    unfold owOf
    rw [if_neg (by decide), if_neg (by decide), if_pos (Or.inr rfl), if_neg cw]
    rfl
  · rw [e]
    unfold owOf
    rw [if_neg (by decide), if_neg (by decide), if_pos (Or.inr rfl), if_pos (Classical.not_not.mp cw)]
  · unfold owOf
    rw [if_neg (by omega), if_neg (by omega), if_neg (by omega)]
theorem c_X11_own {l : Launch} {D : va_G} {cy : Nat → ClassId} {bs N : Nat} {sa : Nat → Nat} {kd len : Nat → Nat} {X Y : Nat → Int → Int} {R : Nat → Int → Option Nat} {i : Nat} (hM : zM N kd len R i) (a : Int) (ha : rI a) (b : Int) (hb : rI b) (g : Int) (hg : rI g) (d : Int) (hd : rI d) (hp : oTN X i) : Met l yX11_own (.code yX11_own cX11_own 7 (some .long) :: zTB) (zRm 6 140) (zPc D cy bs sa N kd len X Y R [.ref (bs + (i)), .int (zI (a)), .int (zI (b)), .int (zI (g)), .int (zI (d))]) (zQl D cy bs N kd len (fun r st => st.2.2 = R ∧ (r = rOwn X i (a) (b) (g) (d) ∧ pK X (st.1) i))) 0 0 (zA bs) := w_X11_own hM a ha b hb g hg d hd (v_X11_own a ha b hb g hg d hd hp)
