/-! FEEDS -/
def mDn (X : Nat → Int → Int) (i : Nat) : Int := X (i + 8) (81 * X i 40)
def mDd (X : Nat → Int → Int) (i : Nat) (k w : Int) : Int := X (i + 8) (81 * X i 40 + 1 + 2 * k + w)
def oFdr (X : Nat → Int → Int) (i : Nat) (f : Int) : Prop := (0 ≤ X (i + 8) (81 * f) ∧ X (i + 8) (81 * f) ≤ 40) ∧ ∀ j, 0 ≤ j → j < X (i + 8) (81 * f) → (0 ≤ X (i + 8) (81 * f + 1 + 2 * j + 0) ∧ X (i + 8) (81 * f + 1 + 2 * j + 0) ≤ 3) ∧ (X (i + 8) (81 * f + 1 + 2 * j + 0) = 3 → 0 ≤ X (i + 8) (81 * f + 1 + 2 * j + 1) ∧ X (i + 8) (81 * f + 1 + 2 * j + 1) ≤ 1) ∧ (X (i + 8) (81 * f + 1 + 2 * j + 0) ≠ 3 → 1 ≤ X (i + 8) (81 * f + 1 + 2 * j + 1) ∧ X (i + 8) (81 * f + 1 + 2 * j + 1) ≤ 14)
abbrev oFd (X : Nat → Int → Int) (i : Nat) : Prop := 0 ≤ X i 40 ∧ X i 40 ≤ 1
abbrev cX11_deeds : ByteArray := prog_13_method_64_code
def yX11_deeds : MethodName := ⟨RX11, "deeds", "()I"⟩
theorem dX11_deeds_0 : decode cX11_deeds 0 = .ok (.aload_n 0, 1) := by decide +kernel
theorem dX11_deeds_1 : decode cX11_deeds 1 = .ok (.getfield 32, 3) := by decide +kernel
theorem dX11_deeds_4 : decode cX11_deeds 4 = .ok (.bipush 81, 2) := by decide +kernel
theorem dX11_deeds_6 : decode cX11_deeds 6 = .ok (.aload_n 0, 1) := by decide +kernel
theorem dX11_deeds_7 : decode cX11_deeds 7 = .ok (.getfield 349, 3) := by decide +kernel
theorem dX11_deeds_10 : decode cX11_deeds 10 = .ok (.imul, 1) := by decide +kernel
theorem dX11_deeds_11 : decode cX11_deeds 11 = .ok (.iaload, 1) := by decide +kernel
theorem dX11_deeds_12 : decode cX11_deeds 12 = .ok (.ireturn, 1) := by decide +kernel
theorem q_1295 : Cond.fieldLink RX11 32 RX11 "feeds" "[I" ∈ zTB := zmem 1295 (by decide +kernel) rfl
theorem q_1327 : Cond.fieldLink RX11 349 RX11 "feed" "I" ∈ zTB := zmem 1327 (by decide +kernel) rfl
def F_X11_deeds (i : Nat) (X Y : Nat → Int → Int) (R : Nat → Int → Option Nat)  : Prop := (∀ i j, rI (X i j)) → (∀ i j, rL (Y i j)) → (0 ≤ (81 * (X (i) 40)) ∧ (81 * (X (i) 40)) < 648) ∧ (X (i + 8) (81 * (X (i) 40)) = mDn X i)
set_option maxHeartbeats 4000000 in
set_option maxRecDepth 100000 in
theorem w_X11_deeds {l : Launch} {D : va_G} {cy : Nat → ClassId} {bs N : Nat} {sa : Nat → Nat} {kd len : Nat → Nat} {X Y : Nat → Int → Int} {R : Nat → Int → Option Nat} {i : Nat} (hM : zM N kd len R i)  (hF : F_X11_deeds i X Y R ) : Met l yX11_deeds (.code yX11_deeds cX11_deeds 1 (some .int) :: zTB) (zRm 0 0) (zPc D cy bs sa N kd len X Y R [.ref (bs + (i))]) (zQi D cy bs N kd len (fun r st => r = mDn X i ∧ st = (X, Y, R))) 0 0 (zA bs) := by
  refine zstart (by decide) (Nat.le_of_ble_eq_true rfl) ?_
  intro p e s m args below meth c ls C hE hH hr hlk hnm hl hargs
  have hF := hF hH.2.2.1 hH.2.2.2
  have hS : va_S (zA bs) s.heap s.heap [] := va_S.rf
  have hl : lv_has ls 1 [(0, .ref (bs + (i)))] := hl
  refine lv_aload_n C.1 C.2.1 dX11_deeds_0 rfl (lv_at hl 0 rfl) ?_
  refine zg11_8 C hH (zM_n0 hM) (zM_k0 hM) q_1295 (zM_r8 hM) dX11_deeds_1 ?_
  refine zd_bipush C (by decide) dX11_deeds_4 ?_
  refine lv_aload_n C.1 C.2.1 dX11_deeds_6 rfl (lv_at hl 0 rfl) ?_
  refine zg11_40 C hH (zM_n0 hM) (zM_k0 hM) q_1327 dX11_deeds_7 ?_
  refine zd_imul C dX11_deeds_10 ?_
  obtain ⟨o1, hF⟩ := hF
  refine zd_iald C hH (zM_n8 hM) (zM_k8 hM) o1.1 (by rw [zM_l8 hM]; exact o1.2) (by rw [zM_l8 hM]; decide) dX11_deeds_11 ?_
  exact zd_iret C hr hlk hH hS (hH.2.2.1 _ _) (⟨hF, rfl⟩) dX11_deeds_12
theorem v_X11_deeds {X Y : Nat → Int → Int} {R : Nat → Int → Option Nat} {i : Nat}  (hp : oFd X i) : F_X11_deeds i X Y R  := by
  unfold F_X11_deeds
  intro hX hY
  obtain ⟨h1, h2⟩ := hp
  exact ⟨⟨by omega, by omega⟩, rfl⟩
theorem c_X11_deeds {l : Launch} {D : va_G} {cy : Nat → ClassId} {bs N : Nat} {sa : Nat → Nat} {kd len : Nat → Nat} {X Y : Nat → Int → Int} {R : Nat → Int → Option Nat} {i : Nat} (hM : zM N kd len R i)  (hp : oFd X i) : Met l yX11_deeds (.code yX11_deeds cX11_deeds 1 (some .int) :: zTB) (zRm 0 0) (zPc D cy bs sa N kd len X Y R [.ref (bs + (i))]) (zQi D cy bs N kd len (fun r st => r = mDn X i ∧ st = (X, Y, R))) 0 0 (zA bs) := w_X11_deeds hM  (v_X11_deeds  hp)
abbrev cX11_deedOf : ByteArray := prog_13_method_65_code
def yX11_deedOf : MethodName := ⟨RX11, "deedOf", "(II)I"⟩
theorem dX11_deedOf_0 : decode cX11_deedOf 0 = .ok (.aload_n 0, 1) := by decide +kernel
theorem dX11_deedOf_1 : decode cX11_deedOf 1 = .ok (.getfield 32, 3) := by decide +kernel
theorem dX11_deedOf_4 : decode cX11_deedOf 4 = .ok (.bipush 81, 2) := by decide +kernel
theorem dX11_deedOf_6 : decode cX11_deedOf 6 = .ok (.aload_n 0, 1) := by decide +kernel
theorem dX11_deedOf_7 : decode cX11_deedOf 7 = .ok (.getfield 349, 3) := by decide +kernel
theorem dX11_deedOf_10 : decode cX11_deedOf 10 = .ok (.imul, 1) := by decide +kernel
theorem dX11_deedOf_11 : decode cX11_deedOf 11 = .ok (.iconst 1, 1) := by decide +kernel
theorem dX11_deedOf_12 : decode cX11_deedOf 12 = .ok (.iadd, 1) := by decide +kernel
theorem dX11_deedOf_13 : decode cX11_deedOf 13 = .ok (.iconst 2, 1) := by decide +kernel
theorem dX11_deedOf_14 : decode cX11_deedOf 14 = .ok (.iload_n 1, 1) := by decide +kernel
theorem dX11_deedOf_15 : decode cX11_deedOf 15 = .ok (.imul, 1) := by decide +kernel
theorem dX11_deedOf_16 : decode cX11_deedOf 16 = .ok (.iadd, 1) := by decide +kernel
theorem dX11_deedOf_17 : decode cX11_deedOf 17 = .ok (.iload_n 2, 1) := by decide +kernel
theorem dX11_deedOf_18 : decode cX11_deedOf 18 = .ok (.iadd, 1) := by decide +kernel
theorem dX11_deedOf_19 : decode cX11_deedOf 19 = .ok (.iaload, 1) := by decide +kernel
theorem dX11_deedOf_20 : decode cX11_deedOf 20 = .ok (.ireturn, 1) := by decide +kernel
def F_X11_deedOf (i : Nat) (X Y : Nat → Int → Int) (R : Nat → Int → Option Nat) (a : Int) (b : Int) : Prop := (∀ i j, rI (X i j)) → (∀ i j, rL (Y i j)) → (0 ≤ ((((81 * (X (i) 40)) + 1) + (2 * a)) + b) ∧ ((((81 * (X (i) 40)) + 1) + (2 * a)) + b) < 648) ∧ (X (i + 8) ((((81 * (X (i) 40)) + 1) + (2 * a)) + b) = mDd X i (a) (b))
set_option maxHeartbeats 4000000 in
set_option maxRecDepth 100000 in
theorem w_X11_deedOf {l : Launch} {D : va_G} {cy : Nat → ClassId} {bs N : Nat} {sa : Nat → Nat} {kd len : Nat → Nat} {X Y : Nat → Int → Int} {R : Nat → Int → Option Nat} {i : Nat} (hM : zM N kd len R i) (a : Int) (ha : rI a) (b : Int) (hb : rI b) (hF : F_X11_deedOf i X Y R a b) : Met l yX11_deedOf (.code yX11_deedOf cX11_deedOf 3 (some .int) :: zTB) (zRm 0 0) (zPc D cy bs sa N kd len X Y R [.ref (bs + (i)), .int (zI (a)), .int (zI (b))]) (zQi D cy bs N kd len (fun r st => r = mDd X i (a) (b) ∧ st = (X, Y, R))) 0 0 (zA bs) := by
  refine zstart (by decide) (Nat.le_of_ble_eq_true rfl) ?_
  intro p e s m args below meth c ls C hE hH hr hlk hnm hl hargs
  have hF := hF hH.2.2.1 hH.2.2.2
  have hS : va_S (zA bs) s.heap s.heap [] := va_S.rf
  have hl : lv_has ls 3 [(0, .ref (bs + (i))), (1, .int (zI (a))), (2, .int (zI (b)))] := hl
  refine lv_aload_n C.1 C.2.1 dX11_deedOf_0 rfl (lv_at hl 0 rfl) ?_
  refine zg11_8 C hH (zM_n0 hM) (zM_k0 hM) q_1295 (zM_r8 hM) dX11_deedOf_1 ?_
  refine zd_bipush C (by decide) dX11_deedOf_4 ?_
  refine lv_aload_n C.1 C.2.1 dX11_deedOf_6 rfl (lv_at hl 0 rfl) ?_
  refine zg11_40 C hH (zM_n0 hM) (zM_k0 hM) q_1327 dX11_deedOf_7 ?_
  refine zd_imul C dX11_deedOf_10 ?_
  refine zd_iconst C dX11_deedOf_11 ?_
  refine zd_iadd C dX11_deedOf_12 ?_
  refine zd_iconst C dX11_deedOf_13 ?_
  refine lv_iload_n C.1 C.2.1 dX11_deedOf_14 rfl (lv_at hl 1 rfl) ?_
  refine zd_imul C dX11_deedOf_15 ?_
  refine zd_iadd C dX11_deedOf_16 ?_
  refine lv_iload_n C.1 C.2.1 dX11_deedOf_17 rfl (lv_at hl 2 rfl) ?_
  refine zd_iadd C dX11_deedOf_18 ?_
  obtain ⟨o1, hF⟩ := hF
  refine zd_iald C hH (zM_n8 hM) (zM_k8 hM) o1.1 (by rw [zM_l8 hM]; exact o1.2) (by rw [zM_l8 hM]; decide) dX11_deedOf_19 ?_
  exact zd_iret C hr hlk hH hS (hH.2.2.1 _ _) (⟨hF, rfl⟩) dX11_deedOf_20
theorem v_X11_deedOf {X Y : Nat → Int → Int} {R : Nat → Int → Option Nat} {i : Nat} (a : Int) (ha : rI a) (b : Int) (hb : rI b) (hp : oFd X i ∧ (0 ≤ a ∧ a ≤ 39) ∧ 0 ≤ b ∧ b ≤ 1) : F_X11_deedOf i X Y R a b := by
  unfold F_X11_deedOf
  intro hX hY
  obtain ⟨⟨h1, h2⟩, h3, h4⟩ := hp
  exact ⟨⟨by omega, by omega⟩, rfl⟩
theorem c_X11_deedOf {l : Launch} {D : va_G} {cy : Nat → ClassId} {bs N : Nat} {sa : Nat → Nat} {kd len : Nat → Nat} {X Y : Nat → Int → Int} {R : Nat → Int → Option Nat} {i : Nat} (hM : zM N kd len R i) (a : Int) (ha : rI a) (b : Int) (hb : rI b) (hp : oFd X i ∧ (0 ≤ a ∧ a ≤ 39) ∧ 0 ≤ b ∧ b ≤ 1) : Met l yX11_deedOf (.code yX11_deedOf cX11_deedOf 3 (some .int) :: zTB) (zRm 0 0) (zPc D cy bs sa N kd len X Y R [.ref (bs + (i)), .int (zI (a)), .int (zI (b))]) (zQi D cy bs N kd len (fun r st => r = mDd X i (a) (b) ∧ st = (X, Y, R))) 0 0 (zA bs) := w_X11_deedOf hM a ha b hb (v_X11_deedOf a ha b hb hp)
abbrev cX11_hasFeed : ByteArray := prog_13_method_66_code
def yX11_hasFeed : MethodName := ⟨RX11, "hasFeed", "(I)Z"⟩
theorem dX11_hasFeed_0 : decode cX11_hasFeed 0 = .ok (.aload_n 0, 1) := by decide +kernel
theorem dX11_hasFeed_1 : decode cX11_hasFeed 1 = .ok (.iload_n 1, 1) := by decide +kernel
theorem dX11_hasFeed_2 : decode cX11_hasFeed 2 = .ok (.putfield 349, 3) := by decide +kernel
theorem dX11_hasFeed_5 : decode cX11_hasFeed 5 = .ok (.aload_n 0, 1) := by decide +kernel
theorem dX11_hasFeed_6 : decode cX11_hasFeed 6 = .ok (.iconst 2, 1) := by decide +kernel
theorem dX11_hasFeed_7 : decode cX11_hasFeed 7 = .ok (.iload_n 1, 1) := by decide +kernel
theorem dX11_hasFeed_8 : decode cX11_hasFeed 8 = .ok (.invokevirtual 240, 3) := by decide +kernel
theorem dX11_hasFeed_11 : decode cX11_hasFeed 11 = .ok (.ireturn, 1) := by decide +kernel
def F_X11_hasFeed (i : Nat) (X Y : Nat → Int → Int) (R : Nat → Int → Option Nat) (a : Int) : Prop := (∀ i j, rI (X i j)) → (∀ i j, rL (Y i j)) → ∀ X1 : Nat → Int → Int, X1 = zU X (i) 40 (a) → (∀ i j, rI (X1 i j)) → ((0 ≤ (2 : Int) ∧ (2 : Int) < 5 ∧ 0 ≤ X1 (i + 5) (2 : Int)) ∧ ((mIs i X1 ((2 : Int)) (a)) = mIs i X 2 (a) ∧ X1 = zU X i 40 (a)))
set_option maxHeartbeats 4000000 in
set_option maxRecDepth 100000 in
theorem w_X11_hasFeed {l : Launch} {D : va_G} {cy : Nat → ClassId} {bs N : Nat} {sa : Nat → Nat} {kd len : Nat → Nat} {X Y : Nat → Int → Int} {R : Nat → Int → Option Nat} {i : Nat} (hM : zM N kd len R i) (a : Int) (ha : rI a) (hF : F_X11_hasFeed i X Y R a) : Met l yX11_hasFeed (.code yX11_hasFeed cX11_hasFeed 2 (some .boolean) :: zTB) (zRm 2 44) (zPc D cy bs sa N kd len X Y R [.ref (bs + (i)), .int (zI (a))]) (zQi D cy bs N kd len (fun r st => st.2.1 = Y ∧ st.2.2 = R ∧ ∃ rb : Bool, r = bz rb ∧ (rb = mIs i X 2 (a) ∧ st.1 = zU X i 40 (a)))) 0 0 (zA bs) := by
  refine zstart (by decide) (Nat.le_of_ble_eq_true rfl) ?_
  intro p e s m args below meth c ls C hE hH hr hlk hnm hl hargs
  have hF := hF hH.2.2.1 hH.2.2.2
  have hS : va_S (zA bs) s.heap s.heap [] := va_S.rf
  have hl : lv_has ls 2 [(0, .ref (bs + (i))), (1, .int (zI (a)))] := hl
  refine lv_aload_n C.1 C.2.1 dX11_hasFeed_0 rfl (lv_at hl 0 rfl) ?_
  refine lv_iload_n C.1 C.2.1 dX11_hasFeed_1 rfl (lv_at hl 1 rfl) ?_
  refine zp11_40 C hH hS (zM_n0 hM) (zM_k0 hM) q_1327 ha dX11_hasFeed_2 (fun H locs hH hS => ?_)
  obtain ⟨X1, eX1⟩ : ∃ z, z = zU X (i) 40 (a) := ⟨_, rfl⟩
  rw [← eX1] at hH
  have hF := hF X1 eX1 hH.2.2.1
  refine lv_aload_n C.1 C.2.1 dX11_hasFeed_5 rfl (lv_at hl 0 rfl) ?_
  refine zd_iconst C dX11_hasFeed_6 ?_
  refine lv_iload_n C.1 C.2.1 dX11_hasFeed_7 rfl (lv_at hl 1 rfl) ?_
  obtain ⟨o2, hF⟩ := hF
  refine zgoi (zrunV (As := [.int (zI (2)), .int (zI (a))]) (rest := []) C hE hH hS hl.1 (c_X11_is (l := l) hM (2) (by decide) (a) ha o2) k_RX11_240 ⟨Nat.le_of_ble_eq_true rfl, Nat.le_of_ble_eq_true rfl⟩ (zM_n0 hM) (zM_k0 hM) rfl rfl rfl (Nat.le_of_ble_eq_true rfl) dX11_hasFeed_8 ⟨Nat.zero_le _, Nat.zero_le _⟩) hS (fun rq Xq Yq Rq H locs hrq hq hH hS => ?_)
  obtain ⟨h91, h92⟩ := hq
  have h93 : Xq = X1 := congrArg (fun z => z.1) h92
  have h94 : Yq = Y := congrArg (fun z => z.2.1) h92
  have h95 : Rq = R := congrArg (fun z => z.2.2) h92
  rw [h93, h94, h95] at hH
  subst h91
  exact zd_zret C hr hlk hH hS bz_01 (⟨rfl, rfl, _, rfl, hF⟩) dX11_hasFeed_11
theorem v_X11_hasFeed {X Y : Nat → Int → Int} {R : Nat → Int → Option Nat} {i : Nat} (a : Int) (ha : rI a) (hp : 0 ≤ X (i + 5) 2) : F_X11_hasFeed i X Y R a := by
  unfold F_X11_hasFeed
  intro hX hY X1 e1 r1
  have h5 : X1 (i + 5) = X (i + 5) := by rw [e1, zU_o (by omega)]
  refine ⟨⟨by decide, by decide, by rw [h5]; exact hp⟩, ?_, e1⟩
  unfold mIs
  rw [h5]
theorem c_X11_hasFeed {l : Launch} {D : va_G} {cy : Nat → ClassId} {bs N : Nat} {sa : Nat → Nat} {kd len : Nat → Nat} {X Y : Nat → Int → Int} {R : Nat → Int → Option Nat} {i : Nat} (hM : zM N kd len R i) (a : Int) (ha : rI a) (hp : 0 ≤ X (i + 5) 2) : Met l yX11_hasFeed (.code yX11_hasFeed cX11_hasFeed 2 (some .boolean) :: zTB) (zRm 2 44) (zPc D cy bs sa N kd len X Y R [.ref (bs + (i)), .int (zI (a))]) (zQi D cy bs N kd len (fun r st => st.2.1 = Y ∧ st.2.2 = R ∧ ∃ rb : Bool, r = bz rb ∧ (rb = mIs i X 2 (a) ∧ st.1 = zU X i 40 (a)))) 0 0 (zA bs) := w_X11_hasFeed hM a ha (v_X11_hasFeed a ha hp)
/-! THE COURSE OF A FEED: rule, heads, bodies, whole, how many, tip, undone, done, switches, longest; since when -/
def wyP (P : Nat → Nat) (k : Nat) : Int := bS (onW P k) 15
def ahT (tie : Int) (k : Nat → Int) (a b : Nat) : Bool := if tie = 0 then decide (k a < k b) else decide ((a : Int) < b)
def csTip (P : Nat → Nat) (W G : Nat → Int) (n : Nat) (tie : Int) (c k : Nat → Int) : Nat := sTip (c 0) P W G (fun j => mHas (c 3) j) (ahT tie k) n
def csCh (P : Nat → Nat) (c : Nat → Int) (t : Nat) : Nat → Int := fun s =>
  if s = 5 then t else if s = 6 then c 6 + mOnes (zAnd (wyP P (c 5).toNat) (zXor (wyP P t) (-1))) else if s = 7 then c 7 + mOnes (zAnd (wyP P t) (zXor (wyP P (c 5).toNat) (-1)))
  else if s = 8 then (if 0 < mOnes (zAnd (wyP P (c 5).toNat) (zXor (wyP P t) (-1))) then c 8 + 1 else c 8) else if s = 9 then max (c 9) (mOnes (zAnd (wyP P (c 5).toNat) (zXor (wyP P t) (-1)))) else c s
def csSl : List Int := [28, 41, 42, 36, 37, 43, 44, 45, 46, 47]
def cX (X : Nat → Int → Int) (i : Nat) : Nat → Int := fun s => if s < 10 then X i (csSl.getD s 0) else 0
def kX (X : Nat → Int → Int) (i : Nat) : Nat → Int := fun j => X (i + 17) j
/-- numbers that stay small -/
def oCs (c : Nat → Int) (n : Nat) (b d : Int) : Prop := (0 ≤ c 5 ∧ c 5 < n) ∧ (0 ≤ c 6 ∧ c 6 ≤ b) ∧ (0 ≤ c 7 ∧ c 7 ≤ b) ∧ (0 ≤ c 8 ∧ c 8 ≤ b) ∧ (0 ≤ c 9 ∧ c 9 ≤ 15) ∧ (0 ≤ c 4 ∧ c 4 ≤ d)
theorem cX_ext {X : Nat → Int → Int} {i : Nat} {c : Nat → Int} (h0 : X i 28 = c 0) (h1 : X i 41 = c 1) (h2 : X i 42 = c 2) (h3 : X i 36 = c 3) (h4 : X i 37 = c 4) (h5 : X i 43 = c 5) (h6 : X i 44 = c 6) (h7 : X i 45 = c 7) (h8 : X i 46 = c 8) (h9 : X i 47 = c 9) (hr : ∀ s, c (s + 10) = 0) : cX X i = c := funext fun s => match s with
  | 0 => h0
  | 1 => h1
  | 2 => h2
  | 3 => h3
  | 4 => h4
  | 5 => h5
  | 6 => h6
  | 7 => h7
  | 8 => h8
  | 9 => h9
  | s + 10 => by
    unfold cX
    rw [if_neg (by omega)]
    exact (hr s).symm
def cU (c : Nat → Int) (s : Nat) (v : Int) : Nat → Int := fun z => if z = s then v else c z
theorem csSl_ne : ∀ s, s < 10 → ∀ z, z < 10 → z ≠ s → csSl.getD z 0 ≠ csSl.getD s 0 := by decide
theorem cX_U {X : Nat → Int → Int} {i : Nat} (s : Nat) (hs : s < 10) (v : Int) : cX (zU X i (csSl.getD s 0) v) i = cU (cX X i) s v := funext fun z => by
  unfold cX cU
  by_cases h : z < 10
  · rw [if_pos h]
    by_cases g : z = s
    · rw [if_pos g, g, zU_s]
    · rw [if_neg g, zU_n (fun e => csSl_ne s hs z h g e.2)]
      show _ = if z < 10 then _ else _
      rw [if_pos h]
  · rw [if_neg h, if_neg (by omega)]
    show _ = if z < 10 then _ else _
    rw [if_neg h]
theorem cX_k {X X1 : Nat → Int → Int} {i : Nat} (h : X1 i = X i) : cX X1 i = cX X i := by
  unfold cX
  rw [h]
theorem cX_N {X X1 : Nat → Int → Int} {i : Nat} (h : ∀ s, s ∈ csSl → X1 i s = X i s) : cX X1 i = cX X i := funext fun z => by
  unfold cX
  by_cases g : z < 10
  · rw [if_pos g, if_pos g]
    exact h _ (by revert g; revert z; decide)
  · rw [if_neg g, if_neg g]
theorem mOnes_b (s : Int) : 0 ≤ mOnes s ∧ mOnes s ≤ 15 := mOnesN_b s 15
theorem oCs_ch {P : Nat → Nat} {c : Nat → Int} {n t : Nat} {b d : Int} (h : oCs c n b d) (ht : t < n) : oCs (csCh P c t) n (b + 15) d := by
  obtain ⟨h1, h2, h3, h4, h5, h6⟩ := h
  have a1 := mOnes_b (zAnd (wyP P (c 5).toNat) (zXor (wyP P t) (-1)))
  have a2 := mOnes_b (zAnd (wyP P t) (zXor (wyP P (c 5).toNat) (-1)))
  refine ⟨?_, ?_, ?_, ?_, ?_, ?_⟩
  · show 0 ≤ ((t : Nat) : Int) ∧ ((t : Nat) : Int) < n
    exact ⟨by omega, by omega⟩
  · show 0 ≤ c 6 + mOnes _ ∧ c 6 + mOnes _ ≤ b + 15
    exact ⟨by omega, by omega⟩
  · show 0 ≤ c 7 + mOnes _ ∧ c 7 + mOnes _ ≤ b + 15
    exact ⟨by omega, by omega⟩
  · show 0 ≤ (if 0 < mOnes (zAnd (wyP P (c 5).toNat) (zXor (wyP P t) (-1))) then c 8 + 1 else c 8) ∧ (if 0 < mOnes (zAnd (wyP P (c 5).toNat) (zXor (wyP P t) (-1))) then c 8 + 1 else c 8) ≤ b + 15
    by_cases h0 : 0 < mOnes (zAnd (wyP P (c 5).toNat) (zXor (wyP P t) (-1)))
    · rw [if_pos h0]; exact ⟨by omega, by omega⟩
    · rw [if_neg h0]; exact ⟨by omega, by omega⟩
  · show 0 ≤ max (c 9) _ ∧ max (c 9) _ ≤ 15
    exact ⟨by omega, by omega⟩
  · show 0 ≤ c 4 ∧ c 4 ≤ d
    exact h6
/-- the context of a course: net and blocks in hand, but for the rule -/
abbrev mCt (X Y : Nat → Int → Int) (i : Nat) : Nat := csTip (rP X i) (rW X i) (rG X i) (X i 27).toNat (X i 29) (cX X i) (kX X i)
theorem mTip_cs {X Y : Nat → Int → Int} {i : Nat} (h : oH X Y i) (w0 : mHas (X i 36) 0 = true) : mTip X Y i = mCt X Y i := by
  obtain ⟨⟨hg, ha, hb, hbs⟩, -, hl, -⟩ := h
  unfold mTip mCt csTip
  exact sTip_cong (by omega) w0 (fun j hj => (hl j (by omega)).2.1) (fun j hj => (hl j (by omega)).2.2) (fun _ _ => rfl) (fun _ _ _ _ _ _ => rfl)
abbrev cX11_beginFeed : ByteArray := prog_13_method_68_code
def yX11_beginFeed : MethodName := ⟨RX11, "beginFeed", "()V"⟩
theorem dX11_beginFeed_0 : decode cX11_beginFeed 0 = .ok (.aload_n 0, 1) := by decide +kernel
theorem dX11_beginFeed_1 : decode cX11_beginFeed 1 = .ok (.invokevirtual 340, 3) := by decide +kernel
theorem dX11_beginFeed_4 : decode cX11_beginFeed 4 = .ok (.aload_n 0, 1) := by decide +kernel
theorem dX11_beginFeed_5 : decode cX11_beginFeed 5 = .ok (.iconst 1, 1) := by decide +kernel
theorem dX11_beginFeed_6 : decode cX11_beginFeed 6 = .ok (.putfield 361, 3) := by decide +kernel
theorem dX11_beginFeed_9 : decode cX11_beginFeed 9 = .ok (.aload_n 0, 1) := by decide +kernel
theorem dX11_beginFeed_10 : decode cX11_beginFeed 10 = .ok (.iconst 1, 1) := by decide +kernel
theorem dX11_beginFeed_11 : decode cX11_beginFeed 11 = .ok (.putfield 364, 3) := by decide +kernel
theorem dX11_beginFeed_14 : decode cX11_beginFeed 14 = .ok (.aload_n 0, 1) := by decide +kernel
theorem dX11_beginFeed_15 : decode cX11_beginFeed 15 = .ok (.iconst 0, 1) := by decide +kernel
theorem dX11_beginFeed_16 : decode cX11_beginFeed 16 = .ok (.putfield 367, 3) := by decide +kernel
theorem dX11_beginFeed_19 : decode cX11_beginFeed 19 = .ok (.aload_n 0, 1) := by decide +kernel
theorem dX11_beginFeed_20 : decode cX11_beginFeed 20 = .ok (.iconst 0, 1) := by decide +kernel
theorem dX11_beginFeed_21 : decode cX11_beginFeed 21 = .ok (.putfield 370, 3) := by decide +kernel
theorem dX11_beginFeed_24 : decode cX11_beginFeed 24 = .ok (.aload_n 0, 1) := by decide +kernel
theorem dX11_beginFeed_25 : decode cX11_beginFeed 25 = .ok (.iconst 0, 1) := by decide +kernel
theorem dX11_beginFeed_26 : decode cX11_beginFeed 26 = .ok (.putfield 373, 3) := by decide +kernel
theorem dX11_beginFeed_29 : decode cX11_beginFeed 29 = .ok (.aload_n 0, 1) := by decide +kernel
theorem dX11_beginFeed_30 : decode cX11_beginFeed 30 = .ok (.iconst 0, 1) := by decide +kernel
theorem dX11_beginFeed_31 : decode cX11_beginFeed 31 = .ok (.putfield 376, 3) := by decide +kernel
theorem dX11_beginFeed_34 : decode cX11_beginFeed 34 = .ok (.aload_n 0, 1) := by decide +kernel
theorem dX11_beginFeed_35 : decode cX11_beginFeed 35 = .ok (.iconst 0, 1) := by decide +kernel
theorem dX11_beginFeed_36 : decode cX11_beginFeed 36 = .ok (.putfield 379, 3) := by decide +kernel
theorem dX11_beginFeed_39 : decode cX11_beginFeed 39 = .ok (.return_, 1) := by decide +kernel
theorem q_1328 : Cond.fieldLink RX11 361 RX11 "heads" "I" ∈ zTB := zmem 1328 (by decide +kernel) rfl
theorem q_1329 : Cond.fieldLink RX11 364 RX11 "bodies" "I" ∈ zTB := zmem 1329 (by decide +kernel) rfl
theorem q_1330 : Cond.fieldLink RX11 367 RX11 "top" "I" ∈ zTB := zmem 1330 (by decide +kernel) rfl
theorem q_1331 : Cond.fieldLink RX11 370 RX11 "undone" "I" ∈ zTB := zmem 1331 (by decide +kernel) rfl
theorem q_1332 : Cond.fieldLink RX11 373 RX11 "done" "I" ∈ zTB := zmem 1332 (by decide +kernel) rfl
theorem q_1333 : Cond.fieldLink RX11 376 RX11 "switches" "I" ∈ zTB := zmem 1333 (by decide +kernel) rfl
theorem q_1334 : Cond.fieldLink RX11 379 RX11 "longest" "I" ∈ zTB := zmem 1334 (by decide +kernel) rfl
def F_X11_beginFeed (i : Nat) (X Y : Nat → Int → Int) (R : Nat → Int → Option Nat)  : Prop := (∀ i j, rI (X i j)) → (∀ i j, rL (Y i j)) → ∀ X1 : Nat → Int → Int, (∀ i j, rI (X1 i j)) → (X1 = bgW X i) → (∀ X2 : Nat → Int → Int, X2 = zU X1 (i) 41 (1) → (∀ i j, rI (X2 i j)) → (∀ X3 : Nat → Int → Int, X3 = zU X2 (i) 42 (1) → (∀ i j, rI (X3 i j)) → (∀ X4 : Nat → Int → Int, X4 = zU X3 (i) 43 (0) → (∀ i j, rI (X4 i j)) → (∀ X5 : Nat → Int → Int, X5 = zU X4 (i) 44 (0) → (∀ i j, rI (X5 i j)) → (∀ X6 : Nat → Int → Int, X6 = zU X5 (i) 45 (0) → (∀ i j, rI (X6 i j)) → (∀ X7 : Nat → Int → Int, X7 = zU X6 (i) 46 (0) → (∀ i j, rI (X7 i j)) → (∀ X8 : Nat → Int → Int, X8 = zU X7 (i) 47 (0) → (∀ i j, rI (X8 i j)) → (X8 = zU (zU (zU (zU (zU (zU (zU (bgW X i) i 41 1) i 42 1) i 43 0) i 44 0) i 45 0) i 46 0) i 47 0))))))))
set_option maxHeartbeats 4000000 in
set_option maxRecDepth 100000 in
theorem w_X11_beginFeed {l : Launch} {D : va_G} {cy : Nat → ClassId} {bs N : Nat} {sa : Nat → Nat} {kd len : Nat → Nat} {X Y : Nat → Int → Int} {R : Nat → Int → Option Nat} {i : Nat} (hM : zM N kd len R i)  (hF : F_X11_beginFeed i X Y R ) : Met l yX11_beginFeed (.code yX11_beginFeed cX11_beginFeed 1 none :: zTB) (zRm 1 20) (zPc D cy bs sa N kd len X Y R [.ref (bs + (i))]) (zQv D cy bs N kd len (fun st => st.2.1 = Y ∧ st.2.2 = R ∧ (st.1 = zU (zU (zU (zU (zU (zU (zU (bgW X i) i 41 1) i 42 1) i 43 0) i 44 0) i 45 0) i 46 0) i 47 0))) 0 0 (zA bs) := by
  refine zstart (by decide) (Nat.le_of_ble_eq_true rfl) ?_
  intro p e s m args below meth c ls C hE hH hr hlk hnm hl hargs
  have hF := hF hH.2.2.1 hH.2.2.2
  have hS : va_S (zA bs) s.heap s.heap [] := va_S.rf
  have hl : lv_has ls 1 [(0, .ref (bs + (i)))] := hl
  refine lv_aload_n C.1 C.2.1 dX11_beginFeed_0 rfl (lv_at hl 0 rfl) ?_
  refine zgov (zrunV (As := []) (rest := []) C hE hH hS hl.1 (c_X11_beginWhole (l := l) hM ) k_RX11_340 ⟨Nat.le_of_ble_eq_true rfl, Nat.le_of_ble_eq_true rfl⟩ (zM_n0 hM) (zM_k0 hM) rfl rfl rfl (Nat.le_of_ble_eq_true rfl) dX11_beginFeed_1 ⟨Nat.zero_le _, Nat.zero_le _⟩) hS (fun X1 Yq Rq H locs hq hH hS => ?_)
  obtain ⟨h9Y, h9R, hq⟩ := hq
  dsimp only at h9Y h9R
  rw [h9Y, h9R] at hH
  have hF := hF X1 hH.2.2.1 hq
  refine lv_aload_n C.1 C.2.1 dX11_beginFeed_4 rfl (lv_at hl 0 rfl) ?_
  refine zd_iconst C dX11_beginFeed_5 ?_
  refine zp11_41 C hH hS (zM_n0 hM) (zM_k0 hM) q_1328 (by decide) dX11_beginFeed_6 (fun H locs hH hS => ?_)
  obtain ⟨X2, eX2⟩ : ∃ z, z = zU X1 (i) 41 (1) := ⟨_, rfl⟩
  rw [← eX2] at hH
  have hF := hF X2 eX2 hH.2.2.1
  refine lv_aload_n C.1 C.2.1 dX11_beginFeed_9 rfl (lv_at hl 0 rfl) ?_
  refine zd_iconst C dX11_beginFeed_10 ?_
  refine zp11_42 C hH hS (zM_n0 hM) (zM_k0 hM) q_1329 (by decide) dX11_beginFeed_11 (fun H locs hH hS => ?_)
  obtain ⟨X3, eX3⟩ : ∃ z, z = zU X2 (i) 42 (1) := ⟨_, rfl⟩
  rw [← eX3] at hH
  have hF := hF X3 eX3 hH.2.2.1
  refine lv_aload_n C.1 C.2.1 dX11_beginFeed_14 rfl (lv_at hl 0 rfl) ?_
  refine zd_iconst C dX11_beginFeed_15 ?_
  refine zp11_43 C hH hS (zM_n0 hM) (zM_k0 hM) q_1330 (by decide) dX11_beginFeed_16 (fun H locs hH hS => ?_)
  obtain ⟨X4, eX4⟩ : ∃ z, z = zU X3 (i) 43 (0) := ⟨_, rfl⟩
  rw [← eX4] at hH
  have hF := hF X4 eX4 hH.2.2.1
  refine lv_aload_n C.1 C.2.1 dX11_beginFeed_19 rfl (lv_at hl 0 rfl) ?_
  refine zd_iconst C dX11_beginFeed_20 ?_
  refine zp11_44 C hH hS (zM_n0 hM) (zM_k0 hM) q_1331 (by decide) dX11_beginFeed_21 (fun H locs hH hS => ?_)
  obtain ⟨X5, eX5⟩ : ∃ z, z = zU X4 (i) 44 (0) := ⟨_, rfl⟩
  rw [← eX5] at hH
  have hF := hF X5 eX5 hH.2.2.1
  refine lv_aload_n C.1 C.2.1 dX11_beginFeed_24 rfl (lv_at hl 0 rfl) ?_
  refine zd_iconst C dX11_beginFeed_25 ?_
  refine zp11_45 C hH hS (zM_n0 hM) (zM_k0 hM) q_1332 (by decide) dX11_beginFeed_26 (fun H locs hH hS => ?_)
  obtain ⟨X6, eX6⟩ : ∃ z, z = zU X5 (i) 45 (0) := ⟨_, rfl⟩
  rw [← eX6] at hH
  have hF := hF X6 eX6 hH.2.2.1
  refine lv_aload_n C.1 C.2.1 dX11_beginFeed_29 rfl (lv_at hl 0 rfl) ?_
  refine zd_iconst C dX11_beginFeed_30 ?_
  refine zp11_46 C hH hS (zM_n0 hM) (zM_k0 hM) q_1333 (by decide) dX11_beginFeed_31 (fun H locs hH hS => ?_)
  obtain ⟨X7, eX7⟩ : ∃ z, z = zU X6 (i) 46 (0) := ⟨_, rfl⟩
  rw [← eX7] at hH
  have hF := hF X7 eX7 hH.2.2.1
  refine lv_aload_n C.1 C.2.1 dX11_beginFeed_34 rfl (lv_at hl 0 rfl) ?_
  refine zd_iconst C dX11_beginFeed_35 ?_
  refine zp11_47 C hH hS (zM_n0 hM) (zM_k0 hM) q_1334 (by decide) dX11_beginFeed_36 (fun H locs hH hS => ?_)
  obtain ⟨X8, eX8⟩ : ∃ z, z = zU X7 (i) 47 (0) := ⟨_, rfl⟩
  rw [← eX8] at hH
  have hF := hF X8 eX8 hH.2.2.1
  exact zd_vret C hr hlk hH hS (⟨rfl, rfl, hF⟩) dX11_beginFeed_39
theorem v_X11_beginFeed {X Y : Nat → Int → Int} {R : Nat → Int → Option Nat} {i : Nat}  : F_X11_beginFeed i X Y R  := by
  unfold F_X11_beginFeed
  intro hX hY X1 r1 e1 X2 e2 r2 X3 e3 r3 X4 e4 r4 X5 e5 r5 X6 e6 r6 X7 e7 r7 X8 e8 r8
  rw [e8, e7, e6, e5, e4, e3, e2, e1]
theorem c_X11_beginFeed {l : Launch} {D : va_G} {cy : Nat → ClassId} {bs N : Nat} {sa : Nat → Nat} {kd len : Nat → Nat} {X Y : Nat → Int → Int} {R : Nat → Int → Option Nat} {i : Nat} (hM : zM N kd len R i)  : Met l yX11_beginFeed (.code yX11_beginFeed cX11_beginFeed 1 none :: zTB) (zRm 1 20) (zPc D cy bs sa N kd len X Y R [.ref (bs + (i))]) (zQv D cy bs N kd len (fun st => st.2.1 = Y ∧ st.2.2 = R ∧ (st.1 = zU (zU (zU (zU (zU (zU (zU (bgW X i) i 41 1) i 42 1) i 43 0) i 44 0) i 45 0) i 46 0) i 47 0))) 0 0 (zA bs) := w_X11_beginFeed hM  (v_X11_beginFeed )
abbrev cX11_chooses : ByteArray := prog_13_method_69_code
def yX11_chooses : MethodName := ⟨RX11, "chooses", "()V"⟩
theorem dX11_chooses_0 : decode cX11_chooses 0 = .ok (.aload_n 0, 1) := by decide +kernel
theorem dX11_chooses_1 : decode cX11_chooses 1 = .ok (.invokevirtual 346, 3) := by decide +kernel
theorem dX11_chooses_4 : decode cX11_chooses 4 = .ok (.istore_n 1, 1) := by decide +kernel
theorem dX11_chooses_5 : decode cX11_chooses 5 = .ok (.aload_n 0, 1) := by decide +kernel
theorem dX11_chooses_6 : decode cX11_chooses 6 = .ok (.aload_n 0, 1) := by decide +kernel
theorem dX11_chooses_7 : decode cX11_chooses 7 = .ok (.getfield 367, 3) := by decide +kernel
theorem dX11_chooses_10 : decode cX11_chooses 10 = .ok (.invokevirtual 382, 3) := by decide +kernel
theorem dX11_chooses_13 : decode cX11_chooses 13 = .ok (.istore_n 2, 1) := by decide +kernel
theorem dX11_chooses_14 : decode cX11_chooses 14 = .ok (.aload_n 0, 1) := by decide +kernel
theorem dX11_chooses_15 : decode cX11_chooses 15 = .ok (.iload_n 1, 1) := by decide +kernel
theorem dX11_chooses_16 : decode cX11_chooses 16 = .ok (.invokevirtual 382, 3) := by decide +kernel
theorem dX11_chooses_19 : decode cX11_chooses 19 = .ok (.istore_n 3, 1) := by decide +kernel
theorem dX11_chooses_20 : decode cX11_chooses 20 = .ok (.iload_n 2, 1) := by decide +kernel
theorem dX11_chooses_21 : decode cX11_chooses 21 = .ok (.iload_n 3, 1) := by decide +kernel
theorem dX11_chooses_22 : decode cX11_chooses 22 = .ok (.iconst (-1), 1) := by decide +kernel
theorem dX11_chooses_23 : decode cX11_chooses 23 = .ok (.ixor, 1) := by decide +kernel
theorem dX11_chooses_24 : decode cX11_chooses 24 = .ok (.iand, 1) := by decide +kernel
theorem dX11_chooses_25 : decode cX11_chooses 25 = .ok (.invokestatic 385, 3) := by decide +kernel
theorem dX11_chooses_28 : decode cX11_chooses 28 = .ok (.istore 4, 2) := by decide +kernel
theorem dX11_chooses_30 : decode cX11_chooses 30 = .ok (.aload_n 0, 1) := by decide +kernel
theorem dX11_chooses_31 : decode cX11_chooses 31 = .ok (.dup, 1) := by decide +kernel
theorem dX11_chooses_32 : decode cX11_chooses 32 = .ok (.getfield 370, 3) := by decide +kernel
theorem dX11_chooses_35 : decode cX11_chooses 35 = .ok (.iload 4, 2) := by decide +kernel
theorem dX11_chooses_37 : decode cX11_chooses 37 = .ok (.iadd, 1) := by decide +kernel
theorem dX11_chooses_38 : decode cX11_chooses 38 = .ok (.putfield 370, 3) := by decide +kernel
theorem dX11_chooses_41 : decode cX11_chooses 41 = .ok (.aload_n 0, 1) := by decide +kernel
theorem dX11_chooses_42 : decode cX11_chooses 42 = .ok (.dup, 1) := by decide +kernel
theorem dX11_chooses_43 : decode cX11_chooses 43 = .ok (.getfield 373, 3) := by decide +kernel
theorem dX11_chooses_46 : decode cX11_chooses 46 = .ok (.iload_n 3, 1) := by decide +kernel
theorem dX11_chooses_47 : decode cX11_chooses 47 = .ok (.iload_n 2, 1) := by decide +kernel
theorem dX11_chooses_48 : decode cX11_chooses 48 = .ok (.iconst (-1), 1) := by decide +kernel
theorem dX11_chooses_49 : decode cX11_chooses 49 = .ok (.ixor, 1) := by decide +kernel
theorem dX11_chooses_50 : decode cX11_chooses 50 = .ok (.iand, 1) := by decide +kernel
theorem dX11_chooses_51 : decode cX11_chooses 51 = .ok (.invokestatic 385, 3) := by decide +kernel
theorem dX11_chooses_54 : decode cX11_chooses 54 = .ok (.iadd, 1) := by decide +kernel
theorem dX11_chooses_55 : decode cX11_chooses 55 = .ok (.putfield 373, 3) := by decide +kernel
theorem dX11_chooses_58 : decode cX11_chooses 58 = .ok (.aload_n 0, 1) := by decide +kernel
theorem dX11_chooses_59 : decode cX11_chooses 59 = .ok (.dup, 1) := by decide +kernel
theorem dX11_chooses_60 : decode cX11_chooses 60 = .ok (.getfield 376, 3) := by decide +kernel
theorem dX11_chooses_63 : decode cX11_chooses 63 = .ok (.iload 4, 2) := by decide +kernel
theorem dX11_chooses_65 : decode cX11_chooses 65 = .ok (.ifCond .le 7, 3) := by decide +kernel
theorem dX11_chooses_68 : decode cX11_chooses 68 = .ok (.iconst 1, 1) := by decide +kernel
theorem dX11_chooses_69 : decode cX11_chooses 69 = .ok (.goto 4, 3) := by decide +kernel
theorem dX11_chooses_72 : decode cX11_chooses 72 = .ok (.iconst 0, 1) := by decide +kernel
theorem dX11_chooses_73 : decode cX11_chooses 73 = .ok (.iadd, 1) := by decide +kernel
theorem dX11_chooses_74 : decode cX11_chooses 74 = .ok (.putfield 376, 3) := by decide +kernel
theorem dX11_chooses_77 : decode cX11_chooses 77 = .ok (.aload_n 0, 1) := by decide +kernel
theorem dX11_chooses_78 : decode cX11_chooses 78 = .ok (.aload_n 0, 1) := by decide +kernel
theorem dX11_chooses_79 : decode cX11_chooses 79 = .ok (.getfield 379, 3) := by decide +kernel
theorem dX11_chooses_82 : decode cX11_chooses 82 = .ok (.iload 4, 2) := by decide +kernel
theorem dX11_chooses_84 : decode cX11_chooses 84 = .ok (.invokestatic 277, 3) := by decide +kernel
theorem dX11_chooses_87 : decode cX11_chooses 87 = .ok (.putfield 379, 3) := by decide +kernel
theorem dX11_chooses_90 : decode cX11_chooses 90 = .ok (.aload_n 0, 1) := by decide +kernel
theorem dX11_chooses_91 : decode cX11_chooses 91 = .ok (.iload_n 1, 1) := by decide +kernel
theorem dX11_chooses_92 : decode cX11_chooses 92 = .ok (.putfield 367, 3) := by decide +kernel
theorem dX11_chooses_95 : decode cX11_chooses 95 = .ok (.return_, 1) := by decide +kernel
theorem q_1752 : Cond.methodLink RX11 382 yX11_wayTo ∈ zTB := zmem 1752 (by decide +kernel) rfl
theorem q_1754 : Cond.instanceMethod yX11_wayTo ∈ zTB := zmem 1754 (by decide +kernel) rfl
theorem q_85 : Cond.selects RX11 yX11_wayTo yX11_wayTo ∈ zTB := zmem 85 (by decide +kernel) rfl
theorem q_1755 : Cond.code yX11_wayTo cX11_wayTo 4 (some .int) ∈ zTB := zmem 1755 (by decide +kernel) rfl
theorem k_RX11_382 : zLv RX11 382 RX11 yX11_wayTo cX11_wayTo 4 (some .int) 1 := ⟨⟨q_1752, q_1754, q_85, q_140, q_1755⟩, rfl, ⟨by decide, by decide⟩, by decide +kernel⟩
theorem q_1757 : Cond.static yX11_ones ∈ zTB := zmem 1757 (by decide +kernel) rfl
theorem q_1758 : Cond.code yX11_ones cX11_ones 3 (some .int) ∈ zTB := zmem 1758 (by decide +kernel) rfl
theorem q_1756 : Cond.methodLink RX11 385 yX11_ones ∈ zTB := zmem 1756 (by decide +kernel) rfl
theorem k_RX11_385 : zLs RX11 385 yX11_ones cX11_ones 3 (some .int) 1 := ⟨⟨q_1756, q_1757, q_140, q_1758⟩, ⟨by decide, by decide⟩, by decide +kernel⟩
def F_X11_chooses (i : Nat) (X Y : Nat → Int → Int) (R : Nat → Int → Option Nat)  : Prop := (∀ i j, rI (X i j)) → (∀ i j, rL (Y i j)) → (oW X Y i) ∧ (∀ r3 : Int, rI r3 → ∀ Y2 : Nat → Int → Int, (∀ i j, rL (Y2 i j)) → (r3 = ((mTip X Y i : Nat) : Int) ∧ ∀ a, a ≠ i + 18 → (Y2) a = Y a) → ((∃ n : Nat, oB X i n ∧ 0 ≤ X (i) 43 ∧ X (i) 43 ≤ n) ∧ (rI (rWy X i (X (i) 43).toNat) → ((∃ n : Nat, oB X i n ∧ 0 ≤ r3 ∧ r3 ≤ n) ∧ (rI (rWy X i (r3).toNat) → (rI (mOnes (zAnd (rWy X i (X (i) 43).toNat) (zXor (rWy X i (r3).toNat) ((-1))))) → ((rI ((X (i) 44) + (mOnes (zAnd (rWy X i (X (i) 43).toNat) (zXor (rWy X i (r3).toNat) ((-1))))))) ∧ (∀ X10 : Nat → Int → Int, X10 = zU X (i) 44 ((X (i) 44) + (mOnes (zAnd (rWy X i (X (i) 43).toNat) (zXor (rWy X i (r3).toNat) ((-1)))))) → (∀ i j, rI (X10 i j)) → (rI (mOnes (zAnd (rWy X i (r3).toNat) (zXor (rWy X i (X (i) 43).toNat) ((-1))))) → ((rI ((X10 (i) 45) + (mOnes (zAnd (rWy X i (r3).toNat) (zXor (rWy X i (X (i) 43).toNat) ((-1))))))) ∧ (∀ X13 : Nat → Int → Int, X13 = zU X10 (i) 45 ((X10 (i) 45) + (mOnes (zAnd (rWy X i (r3).toNat) (zXor (rWy X i (X (i) 43).toNat) ((-1)))))) → (∀ i j, rI (X13 i j)) → ((((mOnes (zAnd (rWy X i (X (i) 43).toNat) (zXor (rWy X i (r3).toNat) ((-1))))) ≤ 0) → ((rI ((X13 (i) 46) + 0)) ∧ (∀ X16 : Nat → Int → Int, X16 = zU X13 (i) 46 ((X13 (i) 46) + 0) → (∀ i j, rI (X16 i j)) → (rI (max (X16 (i) 47) (mOnes (zAnd (rWy X i (X (i) 43).toNat) (zXor (rWy X i (r3).toNat) ((-1)))))) → (∀ X18 : Nat → Int → Int, X18 = zU X16 (i) 47 (max (X16 (i) 47) (mOnes (zAnd (rWy X i (X (i) 43).toNat) (zXor (rWy X i (r3).toNat) ((-1)))))) → (∀ i j, rI (X18 i j)) → (∀ X19 : Nat → Int → Int, X19 = zU X18 (i) 43 (r3) → (∀ i j, rI (X19 i j)) → ((∀ a, a ≠ i → (X19) a = X a) ∧ (∀ s, (s < 43 ∨ 47 < s) → (X19) i s = X i s) ∧ cX (X19) i = csCh (rP X i) (cX X i) (mCt X Y i) ∧ ∀ a, a ≠ i + 18 → (Y2) a = Y a))))))) ∧ ((¬ ((mOnes (zAnd (rWy X i (X (i) 43).toNat) (zXor (rWy X i (r3).toNat) ((-1))))) ≤ 0)) → ((rI ((X13 (i) 46) + 1)) ∧ (∀ X21 : Nat → Int → Int, X21 = zU X13 (i) 46 ((X13 (i) 46) + 1) → (∀ i j, rI (X21 i j)) → (rI (max (X21 (i) 47) (mOnes (zAnd (rWy X i (X (i) 43).toNat) (zXor (rWy X i (r3).toNat) ((-1)))))) → (∀ X23 : Nat → Int → Int, X23 = zU X21 (i) 47 (max (X21 (i) 47) (mOnes (zAnd (rWy X i (X (i) 43).toNat) (zXor (rWy X i (r3).toNat) ((-1)))))) → (∀ i j, rI (X23 i j)) → (∀ X24 : Nat → Int → Int, X24 = zU X23 (i) 43 (r3) → (∀ i j, rI (X24 i j)) → ((∀ a, a ≠ i → (X24) a = X a) ∧ (∀ s, (s < 43 ∨ 47 < s) → (X24) i s = X i s) ∧ cX (X24) i = csCh (rP X i) (cX X i) (mCt X Y i) ∧ ∀ a, a ≠ i + 18 → (Y2) a = Y a)))))))))))))))))))
set_option maxHeartbeats 4000000 in
set_option maxRecDepth 100000 in
theorem w_X11_chooses {l : Launch} {D : va_G} {cy : Nat → ClassId} {bs N : Nat} {sa : Nat → Nat} {kd len : Nat → Nat} {X Y : Nat → Int → Int} {R : Nat → Int → Option Nat} {i : Nat} (hM : zM N kd len R i)  (hF : F_X11_chooses i X Y R ) : Met l yX11_chooses (.code yX11_chooses cX11_chooses 5 none :: zTB) (zRm 4 89) (zPc D cy bs sa N kd len X Y R [.ref (bs + (i))]) (zQv D cy bs N kd len (fun st => st.2.2 = R ∧ ((∀ a, a ≠ i → (st.1) a = X a) ∧ (∀ s, (s < 43 ∨ 47 < s) → (st.1) i s = X i s) ∧ cX (st.1) i = csCh (rP X i) (cX X i) (mCt X Y i) ∧ ∀ a, a ≠ i + 18 → (st.2.1) a = Y a))) 0 0 (zA bs) := by
  refine zstart (by decide) (Nat.le_of_ble_eq_true rfl) ?_
  intro p e s m args below meth c ls C hE hH hr hlk hnm hl hargs
  have hF := hF hH.2.2.1 hH.2.2.2
  have hS : va_S (zA bs) s.heap s.heap [] := va_S.rf
  have hl : lv_has ls 5 [(0, .ref (bs + (i)))] := hl
  refine lv_aload_n C.1 C.2.1 dX11_chooses_0 rfl (lv_at hl 0 rfl) ?_
  obtain ⟨o1, hF⟩ := hF
  refine zgoi (zrunV (As := []) (rest := []) C hE hH hS hl.1 (c_X11_tipNow (l := l) hM  o1) k_RX11_346 ⟨Nat.le_of_ble_eq_true rfl, Nat.le_of_ble_eq_true rfl⟩ (zM_n0 hM) (zM_k0 hM) rfl rfl rfl (Nat.le_of_ble_eq_true rfl) dX11_chooses_1 ⟨Nat.zero_le _, Nat.zero_le _⟩) hS (fun r3 Xq Y2 Rq H locs hrq hq hH hS => ?_)
  obtain ⟨h9X, h9R, hq⟩ := hq
  dsimp only at h9X h9R
  rw [h9X, h9R] at hH
  have hr3 := hrq
  have hF := hF r3 hrq Y2 hH.2.2.2 hq
  refine lv_istore_n (lv' := [(1, .int (zI (r3))), (0, .ref (bs + (i)))]) C.1 C.2.1 dX11_chooses_4 rfl hl (by decide) rfl (fun ls hl => ?_)
  refine lv_aload_n C.1 C.2.1 dX11_chooses_5 rfl (lv_at hl 1 rfl) ?_
  refine lv_aload_n C.1 C.2.1 dX11_chooses_6 rfl (lv_at hl 1 rfl) ?_
  refine zg11_43 C hH (zM_n0 hM) (zM_k0 hM) q_1330 dX11_chooses_7 ?_
  obtain ⟨o4, hF⟩ := hF
  refine zgoi (zrunV (As := [.int (zI (X (i) 43))]) (rest := []) C hE hH hS hl.1 (c_X11_wayTo (l := l) hM (X (i) 43) (hH.2.2.1 _ _) o4) k_RX11_382 ⟨Nat.le_of_ble_eq_true rfl, Nat.le_of_ble_eq_true rfl⟩ (zM_n0 hM) (zM_k0 hM) rfl rfl rfl (Nat.le_of_ble_eq_true rfl) dX11_chooses_10 ⟨Nat.zero_le _, Nat.zero_le _⟩) hS (fun rq Xq Yq Rq H locs hrq hq hH hS => ?_)
  obtain ⟨h91, h92⟩ := hq
  have h93 : Xq = X := congrArg (fun z => z.1) h92
  have h94 : Yq = Y2 := congrArg (fun z => z.2.1) h92
  have h95 : Rq = R := congrArg (fun z => z.2.2) h92
  rw [h93, h94, h95] at hH
  subst h91
  have hr5 := hrq
  have hF := hF hr5
  refine lv_istore_n (lv' := [(2, .int (zI (rWy X i (X (i) 43).toNat))), (1, .int (zI (r3))), (0, .ref (bs + (i)))]) C.1 C.2.1 dX11_chooses_13 rfl hl (by decide) rfl (fun ls hl => ?_)
  refine lv_aload_n C.1 C.2.1 dX11_chooses_14 rfl (lv_at hl 2 rfl) ?_
  refine lv_iload_n C.1 C.2.1 dX11_chooses_15 rfl (lv_at hl 1 rfl) ?_
  obtain ⟨o6, hF⟩ := hF
  refine zgoi (zrunV (As := [.int (zI (r3))]) (rest := []) C hE hH hS hl.1 (c_X11_wayTo (l := l) hM (r3) hr3 o6) k_RX11_382 ⟨Nat.le_of_ble_eq_true rfl, Nat.le_of_ble_eq_true rfl⟩ (zM_n0 hM) (zM_k0 hM) rfl rfl rfl (Nat.le_of_ble_eq_true rfl) dX11_chooses_16 ⟨Nat.zero_le _, Nat.zero_le _⟩) hS (fun rq Xq Yq Rq H locs hrq hq hH hS => ?_)
  obtain ⟨h91, h92⟩ := hq
  have h93 : Xq = X := congrArg (fun z => z.1) h92
  have h94 : Yq = Y2 := congrArg (fun z => z.2.1) h92
  have h95 : Rq = R := congrArg (fun z => z.2.2) h92
  rw [h93, h94, h95] at hH
  subst h91
  have hr7 := hrq
  have hF := hF hr7
  refine lv_istore_n (lv' := [(3, .int (zI (rWy X i (r3).toNat))), (2, .int (zI (rWy X i (X (i) 43).toNat))), (1, .int (zI (r3))), (0, .ref (bs + (i)))]) C.1 C.2.1 dX11_chooses_19 rfl hl (by decide) rfl (fun ls hl => ?_)
  refine lv_iload_n C.1 C.2.1 dX11_chooses_20 rfl (lv_at hl 1 rfl) ?_
  refine lv_iload_n C.1 C.2.1 dX11_chooses_21 rfl (lv_at hl 0 rfl) ?_
  refine zd_iconst C dX11_chooses_22 ?_
  refine zd_ixor C dX11_chooses_23 ?_
  refine zd_iand C dX11_chooses_24 ?_
  refine zgoi (zrunS (As := [.int (zI (zAnd (rWy X i (X (i) 43).toNat) (zXor (rWy X i (r3).toNat) ((-1)))))]) (rest := []) C hE hH hS hl.1 (c_X11_ones (l := l)  (zAnd (rWy X i (X (i) 43).toNat) (zXor (rWy X i (r3).toNat) ((-1)))) (zI_rg _)) k_RX11_385 ⟨Nat.le_of_ble_eq_true rfl, Nat.le_of_ble_eq_true rfl⟩ rfl (Nat.le_of_ble_eq_true rfl) dX11_chooses_25 ⟨Nat.zero_le _, Nat.zero_le _⟩) hS (fun rq Xq Yq Rq H locs hrq hq hH hS => ?_)
  obtain ⟨h91, h92⟩ := hq
  have h93 : Xq = X := congrArg (fun z => z.1) h92
  have h94 : Yq = Y2 := congrArg (fun z => z.2.1) h92
  have h95 : Rq = R := congrArg (fun z => z.2.2) h92
  rw [h93, h94, h95] at hH
  subst h91
  have hr8 := hrq
  have hF := hF hr8
  refine lv_istore (lv' := [(4, .int (zI (mOnes (zAnd (rWy X i (X (i) 43).toNat) (zXor (rWy X i (r3).toNat) ((-1))))))), (3, .int (zI (rWy X i (r3).toNat))), (2, .int (zI (rWy X i (X (i) 43).toNat))), (1, .int (zI (r3))), (0, .ref (bs + (i)))]) C.1 C.2.1 dX11_chooses_28 hl (by decide) rfl (fun ls hl => ?_)
  refine lv_aload_n C.1 C.2.1 dX11_chooses_30 rfl (lv_at hl 4 rfl) ?_
  refine lv_dup C.1 C.2.1 dX11_chooses_31 rfl ?_
  refine zg11_44 C hH (zM_n0 hM) (zM_k0 hM) q_1331 dX11_chooses_32 ?_
  refine lv_iload C.1 C.2.1 dX11_chooses_35 (lv_at hl 0 rfl) ?_
  refine zd_iadd C dX11_chooses_37 ?_
  obtain ⟨o9, hF⟩ := hF
  refine zp11_44 C hH hS (zM_n0 hM) (zM_k0 hM) q_1331 o9 dX11_chooses_38 (fun H locs hH hS => ?_)
  obtain ⟨X10, eX10⟩ : ∃ z, z = zU X (i) 44 ((X (i) 44) + (mOnes (zAnd (rWy X i (X (i) 43).toNat) (zXor (rWy X i (r3).toNat) ((-1)))))) := ⟨_, rfl⟩
  rw [← eX10] at hH
  have hF := hF X10 eX10 hH.2.2.1
  refine lv_aload_n C.1 C.2.1 dX11_chooses_41 rfl (lv_at hl 4 rfl) ?_
  refine lv_dup C.1 C.2.1 dX11_chooses_42 rfl ?_
  refine zg11_45 C hH (zM_n0 hM) (zM_k0 hM) q_1332 dX11_chooses_43 ?_
  refine lv_iload_n C.1 C.2.1 dX11_chooses_46 rfl (lv_at hl 1 rfl) ?_
  refine lv_iload_n C.1 C.2.1 dX11_chooses_47 rfl (lv_at hl 2 rfl) ?_
  refine zd_iconst C dX11_chooses_48 ?_
  refine zd_ixor C dX11_chooses_49 ?_
  refine zd_iand C dX11_chooses_50 ?_
  refine zgoi (zrunS (As := [.int (zI (zAnd (rWy X i (r3).toNat) (zXor (rWy X i (X (i) 43).toNat) ((-1)))))]) (rest := [.int (zI (X10 (i) 45)), .ref (bs + (i))]) C hE hH hS hl.1 (c_X11_ones (l := l)  (zAnd (rWy X i (r3).toNat) (zXor (rWy X i (X (i) 43).toNat) ((-1)))) (zI_rg _)) k_RX11_385 ⟨Nat.le_of_ble_eq_true rfl, Nat.le_of_ble_eq_true rfl⟩ rfl (Nat.le_of_ble_eq_true rfl) dX11_chooses_51 ⟨Nat.zero_le _, Nat.zero_le _⟩) hS (fun rq Xq Yq Rq H locs hrq hq hH hS => ?_)
  obtain ⟨h91, h92⟩ := hq
  have h93 : Xq = X10 := congrArg (fun z => z.1) h92
  have h94 : Yq = Y2 := congrArg (fun z => z.2.1) h92
  have h95 : Rq = R := congrArg (fun z => z.2.2) h92
  rw [h93, h94, h95] at hH
  subst h91
  have hr11 := hrq
  have hF := hF hr11
  refine zd_iadd C dX11_chooses_54 ?_
  obtain ⟨o12, hF⟩ := hF
  refine zp11_45 C hH hS (zM_n0 hM) (zM_k0 hM) q_1332 o12 dX11_chooses_55 (fun H locs hH hS => ?_)
  obtain ⟨X13, eX13⟩ : ∃ z, z = zU X10 (i) 45 ((X10 (i) 45) + (mOnes (zAnd (rWy X i (r3).toNat) (zXor (rWy X i (X (i) 43).toNat) ((-1)))))) := ⟨_, rfl⟩
  rw [← eX13] at hH
  have hF := hF X13 eX13 hH.2.2.1
  refine lv_aload_n C.1 C.2.1 dX11_chooses_58 rfl (lv_at hl 4 rfl) ?_
  refine lv_dup C.1 C.2.1 dX11_chooses_59 rfl ?_
  refine zg11_46 C hH (zM_n0 hM) (zM_k0 hM) q_1333 dX11_chooses_60 ?_
  refine lv_iload C.1 C.2.1 dX11_chooses_63 (lv_at hl 0 rfl) ?_
  refine zd_if_le C hr8 72 dX11_chooses_65 (by decide) (fun c14 => ?_) (fun c14 => ?_)
  · have hF := hF.1 c14
    refine zd_iconst C dX11_chooses_72 ?_
    refine zd_iadd C dX11_chooses_73 ?_
    obtain ⟨o15, hF⟩ := hF
    refine zp11_46 C hH hS (zM_n0 hM) (zM_k0 hM) q_1333 o15 dX11_chooses_74 (fun H locs hH hS => ?_)
    obtain ⟨X16, eX16⟩ : ∃ z, z = zU X13 (i) 46 ((X13 (i) 46) + 0) := ⟨_, rfl⟩
    rw [← eX16] at hH
    have hF := hF X16 eX16 hH.2.2.1
    refine lv_aload_n C.1 C.2.1 dX11_chooses_77 rfl (lv_at hl 4 rfl) ?_
    refine lv_aload_n C.1 C.2.1 dX11_chooses_78 rfl (lv_at hl 4 rfl) ?_
    refine zg11_47 C hH (zM_n0 hM) (zM_k0 hM) q_1334 dX11_chooses_79 ?_
    refine lv_iload C.1 C.2.1 dX11_chooses_82 (lv_at hl 0 rfl) ?_
    refine zgoi (zrunS (As := [.int (zI (X16 (i) 47)), .int (zI (mOnes (zAnd (rWy X i (X (i) 43).toNat) (zXor (rWy X i (r3).toNat) ((-1))))))]) (rest := [.ref (bs + (i))]) C hE hH hS hl.1 (c_X11_greater (l := l)  (X16 (i) 47) (hH.2.2.1 _ _) (mOnes (zAnd (rWy X i (X (i) 43).toNat) (zXor (rWy X i (r3).toNat) ((-1))))) hr8) k_RX11_277 ⟨Nat.le_of_ble_eq_true rfl, Nat.le_of_ble_eq_true rfl⟩ rfl (Nat.le_of_ble_eq_true rfl) dX11_chooses_84 ⟨Nat.zero_le _, Nat.zero_le _⟩) hS (fun rq Xq Yq Rq H locs hrq hq hH hS => ?_)
    obtain ⟨h91, h92⟩ := hq
    have h93 : Xq = X16 := congrArg (fun z => z.1) h92
    have h94 : Yq = Y2 := congrArg (fun z => z.2.1) h92
    have h95 : Rq = R := congrArg (fun z => z.2.2) h92
    rw [h93, h94, h95] at hH
    subst h91
    have hr17 := hrq
    have hF := hF hr17
    refine zp11_47 C hH hS (zM_n0 hM) (zM_k0 hM) q_1334 hr17 dX11_chooses_87 (fun H locs hH hS => ?_)
    obtain ⟨X18, eX18⟩ : ∃ z, z = zU X16 (i) 47 (max (X16 (i) 47) (mOnes (zAnd (rWy X i (X (i) 43).toNat) (zXor (rWy X i (r3).toNat) ((-1)))))) := ⟨_, rfl⟩
    rw [← eX18] at hH
    have hF := hF X18 eX18 hH.2.2.1
    refine lv_aload_n C.1 C.2.1 dX11_chooses_90 rfl (lv_at hl 4 rfl) ?_
    refine lv_iload_n C.1 C.2.1 dX11_chooses_91 rfl (lv_at hl 3 rfl) ?_
    refine zp11_43 C hH hS (zM_n0 hM) (zM_k0 hM) q_1330 hr3 dX11_chooses_92 (fun H locs hH hS => ?_)
    obtain ⟨X19, eX19⟩ : ∃ z, z = zU X18 (i) 43 (r3) := ⟨_, rfl⟩
    rw [← eX19] at hH
    have hF := hF X19 eX19 hH.2.2.1
    exact zd_vret C hr hlk hH hS (⟨rfl, hF⟩) dX11_chooses_95
  · have hF := hF.2 c14
    refine zd_iconst C dX11_chooses_68 ?_
    refine lv_goto (tgt := 73) C.1 C.2.1 dX11_chooses_69 (by decide) ?_
    refine zd_iadd C dX11_chooses_73 ?_
    obtain ⟨o20, hF⟩ := hF
    refine zp11_46 C hH hS (zM_n0 hM) (zM_k0 hM) q_1333 o20 dX11_chooses_74 (fun H locs hH hS => ?_)
    obtain ⟨X21, eX21⟩ : ∃ z, z = zU X13 (i) 46 ((X13 (i) 46) + 1) := ⟨_, rfl⟩
    rw [← eX21] at hH
    have hF := hF X21 eX21 hH.2.2.1
    refine lv_aload_n C.1 C.2.1 dX11_chooses_77 rfl (lv_at hl 4 rfl) ?_
    refine lv_aload_n C.1 C.2.1 dX11_chooses_78 rfl (lv_at hl 4 rfl) ?_
    refine zg11_47 C hH (zM_n0 hM) (zM_k0 hM) q_1334 dX11_chooses_79 ?_
    refine lv_iload C.1 C.2.1 dX11_chooses_82 (lv_at hl 0 rfl) ?_
    refine zgoi (zrunS (As := [.int (zI (X21 (i) 47)), .int (zI (mOnes (zAnd (rWy X i (X (i) 43).toNat) (zXor (rWy X i (r3).toNat) ((-1))))))]) (rest := [.ref (bs + (i))]) C hE hH hS hl.1 (c_X11_greater (l := l)  (X21 (i) 47) (hH.2.2.1 _ _) (mOnes (zAnd (rWy X i (X (i) 43).toNat) (zXor (rWy X i (r3).toNat) ((-1))))) hr8) k_RX11_277 ⟨Nat.le_of_ble_eq_true rfl, Nat.le_of_ble_eq_true rfl⟩ rfl (Nat.le_of_ble_eq_true rfl) dX11_chooses_84 ⟨Nat.zero_le _, Nat.zero_le _⟩) hS (fun rq Xq Yq Rq H locs hrq hq hH hS => ?_)
    obtain ⟨h91, h92⟩ := hq
    have h93 : Xq = X21 := congrArg (fun z => z.1) h92
    have h94 : Yq = Y2 := congrArg (fun z => z.2.1) h92
    have h95 : Rq = R := congrArg (fun z => z.2.2) h92
    rw [h93, h94, h95] at hH
    subst h91
    have hr22 := hrq
    have hF := hF hr22
    refine zp11_47 C hH hS (zM_n0 hM) (zM_k0 hM) q_1334 hr22 dX11_chooses_87 (fun H locs hH hS => ?_)
    obtain ⟨X23, eX23⟩ : ∃ z, z = zU X21 (i) 47 (max (X21 (i) 47) (mOnes (zAnd (rWy X i (X (i) 43).toNat) (zXor (rWy X i (r3).toNat) ((-1)))))) := ⟨_, rfl⟩
    rw [← eX23] at hH
    have hF := hF X23 eX23 hH.2.2.1
    refine lv_aload_n C.1 C.2.1 dX11_chooses_90 rfl (lv_at hl 4 rfl) ?_
    refine lv_iload_n C.1 C.2.1 dX11_chooses_91 rfl (lv_at hl 3 rfl) ?_
    refine zp11_43 C hH hS (zM_n0 hM) (zM_k0 hM) q_1330 hr3 dX11_chooses_92 (fun H locs hH hS => ?_)
    obtain ⟨X24, eX24⟩ : ∃ z, z = zU X23 (i) 43 (r3) := ⟨_, rfl⟩
    rw [← eX24] at hH
    have hF := hF X24 eX24 hH.2.2.1
    exact zd_vret C hr hlk hH hS (⟨rfl, hF⟩) dX11_chooses_95
theorem v_X11_chooses {X Y : Nat → Int → Int} {R : Nat → Int → Option Nat} {i : Nat}  (hp : oH X Y i ∧ mHas (X i 36) 0 = true ∧ oCs (cX X i) (X i 27).toNat 100000 100000) : F_X11_chooses i X Y R  := by
  unfold F_X11_chooses
  intro hX hY
  obtain ⟨h, w0, hc⟩ := hp
  have hW := oH_W h
  have h27 := h.1.2.2.1
  have hbs := h.1.2.2.2
  have et := mTip_cs h w0
  have tb : mCt X Y i < (X i 27).toNat := by rw [← et]; exact sTip_b (by omega)
  obtain ⟨h5, h6, h7, h8, h9, h4⟩ := hc
  have h5 : 0 ≤ X i 43 ∧ X i 43 < (X i 27).toNat := h5
  have h6 : 0 ≤ X i 44 ∧ X i 44 ≤ 100000 := h6
  have h7 : 0 ≤ X i 45 ∧ X i 45 ≤ 100000 := h7
  have h8 : 0 ≤ X i 46 ∧ X i 46 ≤ 100000 := h8
  have h9 : 0 ≤ X i 47 ∧ X i 47 ≤ 15 := h9
  refine ⟨hW, fun r3 r3r Y2 yr hq => ?_⟩
  obtain ⟨e3, ey⟩ := hq
  rw [et] at e3
  subst e3
  rw [Int.toNat_natCast]
  have rw_ : ∀ k, rI (rWy X i k) := fun k => bS_rg _ _
  have a1 := mOnes_b (zAnd (rWy X i (X i 43).toNat) (zXor (rWy X i (mCt X Y i)) (-1)))
  have a2 := mOnes_b (zAnd (rWy X i (mCt X Y i)) (zXor (rWy X i (X i 43).toNat) (-1)))
  generalize hB : mOnes (zAnd (rWy X i (X i 43).toNat) (zXor (rWy X i (mCt X Y i)) (-1))) = B at a1 ⊢
  generalize hD : mOnes (zAnd (rWy X i (mCt X Y i)) (zXor (rWy X i (X i 43).toNat) (-1))) = E at a2 ⊢
  refine ⟨⟨(X i 27 - 1).toNat, hbs.1, by omega, by omega⟩, fun _ => ⟨⟨(X i 27 - 1).toNat, hbs.1, by omega, by omega⟩, fun _ _ => ⟨⟨by omega, by omega⟩, fun X10 e10 r10 _ => ?_⟩⟩⟩
  have x45 : X10 i 45 = X i 45 := by rw [e10, zU_n (by omega)]
  rw [x45]
  refine ⟨⟨by omega, by omega⟩, fun X13 e13 r13 => ?_⟩
  have x46 : X13 i 46 = X i 46 := by rw [e13, zU_n (by omega), e10, zU_n (by omega)]
  rw [x46]
  have fin : ∀ (g : Int) (X16 X18 X19 : Nat → Int → Int), (g = if 0 < B then X i 46 + 1 else X i 46) → X16 = zU X13 i 46 g → X18 = zU X16 i 47 (max (X16 i 47) B) → X19 = zU X18 i 43 ((mCt X Y i : Nat) : Int) → ((∀ a, a ≠ i → X19 a = X a) ∧ (∀ s, (s < 43 ∨ 47 < s) → X19 i s = X i s) ∧ cX X19 i = csCh (rP X i) (cX X i) (mCt X Y i) ∧ ∀ a, a ≠ i + 18 → Y2 a = Y a) := by
    intro g X16 X18 X19 hg e16 e18 e19
    have x47 : X16 i 47 = X i 47 := by rw [e16, zU_n (by omega), e13, zU_n (by omega), e10, zU_n (by omega)]
    have far : ∀ s, (s < 43 ∨ 47 < s) → X19 i s = X i s := fun s hs => by
      rw [e19, zU_n (by omega), e18, zU_n (by omega), e16, zU_n (by omega), e13, zU_n (by omega), e10, zU_n (by omega)]
    have hB' : mOnes (zAnd (wyP (rP X i) ((cX X i) 5).toNat) (zXor (wyP (rP X i) (mCt X Y i)) (-1))) = B := hB
    have hD' : mOnes (zAnd (wyP (rP X i) (mCt X Y i)) (zXor (wyP (rP X i) ((cX X i) 5).toNat) (-1))) = E := hD
    refine ⟨fun a ha => by rw [e19, zU_o ha, e18, zU_o ha, e16, zU_o ha, e13, zU_o ha, e10, zU_o ha], far, cX_ext ?_ ?_ ?_ ?_ ?_ ?_ ?_ ?_ ?_ ?_ ?_, ey⟩
    · exact far _ (by omega)
    · exact far _ (by omega)
    · exact far _ (by omega)
    · exact far _ (by omega)
    · exact far _ (by omega)
    · rw [e19, zU_s]
      rfl
    · show _ = X i 44 + mOnes _
      rw [hB', e19, zU_n (by omega), e18, zU_n (by omega), e16, zU_n (by omega), e13, zU_n (by omega), e10, zU_s]
    · show _ = X i 45 + mOnes _
      rw [hD', e19, zU_n (by omega), e18, zU_n (by omega), e16, zU_n (by omega), e13, zU_s]
    · show _ = if 0 < mOnes (zAnd (wyP (rP X i) ((cX X i) 5).toNat) (zXor (wyP (rP X i) (mCt X Y i)) (-1))) then X i 46 + 1 else X i 46
      rw [hB', e19, zU_n (by omega), e18, zU_n (by omega), e16, zU_s, hg]
    · show _ = max (X i 47) (mOnes (zAnd (wyP (rP X i) ((cX X i) 5).toNat) (zXor (wyP (rP X i) (mCt X Y i)) (-1))))
      rw [hB', e19, zU_n (by omega), e18, zU_s, x47]
    · intro s
      unfold csCh
      rw [if_neg (by omega), if_neg (by omega), if_neg (by omega), if_neg (by omega), if_neg (by omega)]
      unfold cX
      rw [if_neg (by omega)]
  refine ⟨fun c1 => ⟨⟨by omega, by omega⟩, fun X16 e16 r16 _ X18 e18 r18 X19 e19 r19 => fin _ _ _ _ (by rw [if_neg (by omega)]; omega) e16 e18 e19⟩, fun c1 => ⟨⟨by omega, by omega⟩, fun X16 e16 r16 _ X18 e18 r18 X19 e19 r19 => fin _ _ _ _ (by rw [if_pos (by omega)]) e16 e18 e19⟩⟩
theorem c_X11_chooses {l : Launch} {D : va_G} {cy : Nat → ClassId} {bs N : Nat} {sa : Nat → Nat} {kd len : Nat → Nat} {X Y : Nat → Int → Int} {R : Nat → Int → Option Nat} {i : Nat} (hM : zM N kd len R i)  (hp : oH X Y i ∧ mHas (X i 36) 0 = true ∧ oCs (cX X i) (X i 27).toNat 100000 100000) : Met l yX11_chooses (.code yX11_chooses cX11_chooses 5 none :: zTB) (zRm 4 89) (zPc D cy bs sa N kd len X Y R [.ref (bs + (i))]) (zQv D cy bs N kd len (fun st => st.2.2 = R ∧ ((∀ a, a ≠ i → (st.1) a = X a) ∧ (∀ s, (s < 43 ∨ 47 < s) → (st.1) i s = X i s) ∧ cX (st.1) i = csCh (rP X i) (cX X i) (mCt X Y i) ∧ ∀ a, a ≠ i + 18 → (st.2.1) a = Y a))) 0 0 (zA bs) := w_X11_chooses hM  (v_X11_chooses  hp)
