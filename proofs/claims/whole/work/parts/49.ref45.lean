/-! FITS, ODDS -/
def hL (X : Nat → Int → Int) (i : Nat) (n c g l : Int) : Nat → Int → Int := zU (hZ X i n c g) i 55 l
theorem lwF_k {X X1 : Nat → Int → Int} {i : Nat} (o6 : X1 (i + 6) = X (i + 6)) (o7 : X1 (i + 7) = X (i + 7)) (o8 : X1 (i + 8) = X (i + 8)) (o9 : X1 (i + 9) = X (i + 9)) (n : ∀ s, (24 ≤ s ∧ s ≤ 27) ∨ s = 40 ∨ s = 55 → X1 i s = X i s) : lwF X1 i = lwF X i ∧ ∀ y v, scF X1 i y v = scF X i y v := by
  have e := lwT_k o6 o7 o8 (fun s hs => n s (by omega))
  have eL : mLn X1 i = mLn X i := by
    unfold mLn
    rw [n 55 (by decide), o9]
  have eF : ∀ k w, mLf X1 i k w = mLf X i k w := fun k w => by
    unfold mLf
    rw [n 55 (by decide), o9]
  have h1 : lwF X1 i = lwF X i := by
    funext law
    unfold lwF
    simp only [e, eL, eF]
  refine ⟨h1, fun y v => ?_⟩
  funext law
  unfold scF
  rw [h1, e]
theorem mxN_cong {g h : Nat → Int} : ∀ {n : Nat}, (∀ k, k < n → g k = h k) → mxN g n = mxN h n
  | 0, _ => rfl
  | n + 1, q => by
    unfold mxN
    rw [mxN_cong (fun k hk => q k (by omega)), q n (by omega)]
theorem akW_cong {g h : Nat → Int} : ∀ {n : Nat}, (∀ k, k < n → g k = h k) → akW g n = akW h n
  | 0, _ => rfl
  | n + 1, q => by
    unfold akW
    rw [akW_cong (fun k hk => q k (by omega)), q n (by omega)]
theorem smN_cN {f : Nat → Bool} {g : Nat → Nat} : ∀ q, (∀ k, k < q → g k ≤ 1) → smN f g q ≤ cN f q
  | 0, _ => Int.le_refl _
  | q + 1, h => by
    have ih := smN_cN (f := f) q (fun k hk => h k (by omega))
    have := h q (by omega)
    unfold smN cN
    split
    · omega
    · omega
theorem mPt_b {a b : Int} {u : Bool} (ha : 0 ≤ a) (hb : 1 ≤ b) : 0 ≤ mPt a b u ∧ mPt a b u ≤ max a b := by
  have hg := mGc_1 (b := a) hb
  unfold mPt
  have q : ∀ x : Int, 0 ≤ x → 0 ≤ x.tdiv (mGc b a) ∧ x.tdiv (mGc b a) ≤ x := fun x hx => by
    rw [Int.tdiv_eq_ediv_of_nonneg hx]
    exact ⟨Int.ediv_nonneg hx (by omega), Int.ediv_le_self _ hx⟩
  cases u
  · have := q a ha
    show 0 ≤ a.tdiv (mGc b a) ∧ a.tdiv (mGc b a) ≤ _
    omega
  · have := q b (by omega)
    show 0 ≤ b.tdiv (mGc b a) ∧ b.tdiv (mGc b a) ≤ _
    omega
def lgOk (X : Nat → Int → Int) (i : Nat) (n c g l : Int) : Bool := mIs i X 3 l && (mIs i X 2 g && (mIs i X 1 c && mIs i X 0 n))
def suN (z : Int) : Int := fsN (fun v => decide (z = zShl 1 v)) 10 0
def fiOf (Z : Nat → Int → Int) (i : Nat) (w : Int) : Int := if 10 ≤ w then akN (lwF Z i) (w - 10) 40 else if w = 0 then cN (lwF Z i) 40 else if w = 1 then suN (orN (lwF Z i) (fun e => e / 20) 40) else if w = 2 then suN (orN (lwF Z i) (fun e => e / 10 % 2) 40) else if w = 3 then suN (orN (lwF Z i) (fun e => e % 10) 40) else if w = 4 then (if cN (lwF Z i) 40 ≤ 0 then -1 else (akW (fun y => mxN (fun v => cN (scF Z i y v) 40) 16) 41).1) else -2
def rFits (X : Nat → Int → Int) (i : Nat) (n c g l w : Int) : Int := if lgOk X i n c g l then fiOf (hL X i n c g l) i w else -2
def odOf (Z : Nat → Int → Int) (i : Nat) (r : Int) (u : Bool) : Int := if cN (lwF Z i) 40 = 0 then -1 else mPt (if r = 1 then smN (lwF Z i) (fun e => e / 20) 40 else cN (lwF Z i) 40 - smN (lwF Z i) (fun e => e / 20) 40) (cN (lwF Z i) 40) u
def rOdds (X : Nat → Int → Int) (i : Nat) (n c g l r : Int) (u : Bool) : Int := if mIn r 0 1 && lgOk X i n c g l then odOf (hL X i n c g l) i r u else -1
def lgK (X X1 : Nat → Int → Int) (i : Nat) : Prop := (∀ z, z ≠ i → z ≠ i + 13 → z ≠ i + 16 → X1 z = X z) ∧ ∀ s, (s < 24 ∨ (30 < s ∧ s ≠ 35 ∧ s ≠ 40 ∧ s ≠ 55)) → X1 i s = X i s
abbrev cX11_layLog : ByteArray := prog_13_method_113_code
def yX11_layLog : MethodName := ⟨RX11, "layLog", "(IIII)Z"⟩
theorem dX11_layLog_0 : decode cX11_layLog 0 = .ok (.aload_n 0, 1) := by decide +kernel
theorem dX11_layLog_1 : decode cX11_layLog 1 = .ok (.iload 4, 2) := by decide +kernel
theorem dX11_layLog_3 : decode cX11_layLog 3 = .ok (.invokevirtual 488, 3) := by decide +kernel
theorem dX11_layLog_6 : decode cX11_layLog 6 = .ok (.ifCond .eq 24, 3) := by decide +kernel
theorem dX11_layLog_9 : decode cX11_layLog 9 = .ok (.aload_n 0, 1) := by decide +kernel
theorem dX11_layLog_10 : decode cX11_layLog 10 = .ok (.iload_n 3, 1) := by decide +kernel
theorem dX11_layLog_11 : decode cX11_layLog 11 = .ok (.invokevirtual 352, 3) := by decide +kernel
theorem dX11_layLog_14 : decode cX11_layLog 14 = .ok (.ifCond .eq 16, 3) := by decide +kernel
theorem dX11_layLog_17 : decode cX11_layLog 17 = .ok (.aload_n 0, 1) := by decide +kernel
theorem dX11_layLog_18 : decode cX11_layLog 18 = .ok (.iload_n 1, 1) := by decide +kernel
theorem dX11_layLog_19 : decode cX11_layLog 19 = .ok (.iload_n 2, 1) := by decide +kernel
theorem dX11_layLog_20 : decode cX11_layLog 20 = .ok (.invokevirtual 397, 3) := by decide +kernel
theorem dX11_layLog_23 : decode cX11_layLog 23 = .ok (.ifCond .eq 7, 3) := by decide +kernel
theorem dX11_layLog_26 : decode cX11_layLog 26 = .ok (.iconst 1, 1) := by decide +kernel
theorem dX11_layLog_27 : decode cX11_layLog 27 = .ok (.goto 4, 3) := by decide +kernel
theorem dX11_layLog_30 : decode cX11_layLog 30 = .ok (.iconst 0, 1) := by decide +kernel
theorem dX11_layLog_31 : decode cX11_layLog 31 = .ok (.ireturn, 1) := by decide +kernel
def F_X11_layLog (i : Nat) (X Y : Nat → Int → Int) (R : Nat → Int → Option Nat) (a : Int) (b : Int) (g : Int) (d : Int) : Prop := (∀ i j, rI (X i j)) → (∀ i j, rL (Y i j)) → (0 ≤ X (i + 5) 3) ∧ (∀ r3 : Bool, ∀ X2 : Nat → Int → Int, (∀ i j, rI (X2 i j)) → (r3 = mIs i X 3 (d) ∧ X2 = zU X i 55 (d)) → (((r3 = false) → (false = lgOk X i (a) (b) (g) (d) ∧ lgK X (X2) i ∧ (false = true → hS9 X (X2) i (a) (b) ∧ oH (X2) (Y) i ∧ (X2) i 40 = g ∧ (X2) i 55 = d))) ∧ ((r3 = true) → ((0 ≤ X2 (i + 5) 2) ∧ (∀ r7 : Bool, ∀ X6 : Nat → Int → Int, (∀ i j, rI (X6 i j)) → (r7 = mIs i X2 2 (g) ∧ X6 = zU X2 i 40 (g)) → (((r7 = false) → (false = lgOk X i (a) (b) (g) (d) ∧ lgK X (X6) i ∧ (false = true → hS9 X (X6) i (a) (b) ∧ oH (X6) (Y) i ∧ (X6) i 40 = g ∧ (X6) i 55 = d))) ∧ ((r7 = true) → ((oTN X6 i) ∧ (∀ r12 : Bool, ∀ X10 : Nat → Int → Int, (∀ i j, rI (X10 i j)) → ∀ Y11 : Nat → Int → Int, (∀ i j, rL (Y11 i j)) → (r12 = (mIs i X6 1 (b) && mIs i X6 0 (a)) ∧ hK X6 (X10) Y (Y11) i ∧ (r12 = true → hS9 X6 (X10) i (a) (b) ∧ oH (X10) (Y11) i)) → (((r12 = false) → (false = lgOk X i (a) (b) (g) (d) ∧ lgK X (X10) i ∧ (false = true → hS9 X (X10) i (a) (b) ∧ oH (X10) (Y11) i ∧ (X10) i 40 = g ∧ (X10) i 55 = d))) ∧ ((r12 = true) → (true = lgOk X i (a) (b) (g) (d) ∧ lgK X (X10) i ∧ (true = true → hS9 X (X10) i (a) (b) ∧ oH (X10) (Y11) i ∧ (X10) i 40 = g ∧ (X10) i 55 = d)))))))))))))
set_option maxHeartbeats 4000000 in
set_option maxRecDepth 100000 in
theorem w_X11_layLog {l : Launch} {D : va_G} {cy : Nat → ClassId} {bs N : Nat} {sa : Nat → Nat} {kd len : Nat → Nat} {X Y : Nat → Int → Int} {R : Nat → Int → Option Nat} {i : Nat} (hM : zM N kd len R i) (a : Int) (ha : rI a) (b : Int) (hb : rI b) (g : Int) (hg : rI g) (d : Int) (hd : rI d) (hF : F_X11_layLog i X Y R a b g d) : Met l yX11_layLog (.code yX11_layLog cX11_layLog 5 (some .boolean) :: zTB) (zRm 6 140) (zPc D cy bs sa N kd len X Y R [.ref (bs + (i)), .int (zI (a)), .int (zI (b)), .int (zI (g)), .int (zI (d))]) (zQi D cy bs N kd len (fun r st => st.2.2 = R ∧ ∃ rb : Bool, r = bz rb ∧ (rb = lgOk X i (a) (b) (g) (d) ∧ lgK X (st.1) i ∧ (rb = true → hS9 X (st.1) i (a) (b) ∧ oH (st.1) (st.2.1) i ∧ (st.1) i 40 = g ∧ (st.1) i 55 = d)))) 0 0 (zA bs) := by
  refine zstart (by decide) (Nat.le_of_ble_eq_true rfl) ?_
  intro p e s m args below meth c ls C hE hH hr hlk hnm hl hargs
  have hF := hF hH.2.2.1 hH.2.2.2
  have hS : va_S (zA bs) s.heap s.heap [] := va_S.rf
  have hl : lv_has ls 5 [(0, .ref (bs + (i))), (1, .int (zI (a))), (2, .int (zI (b))), (3, .int (zI (g))), (4, .int (zI (d)))] := hl
  refine lv_aload_n C.1 C.2.1 dX11_layLog_0 rfl (lv_at hl 0 rfl) ?_
  refine lv_iload C.1 C.2.1 dX11_layLog_1 (lv_at hl 4 rfl) ?_
  obtain ⟨o1, hF⟩ := hF
  refine zgoi (zrunV (As := [.int (zI (d))]) (rest := []) C hE hH hS hl.1 (c_X11_hasLog (l := l) hM (d) hd o1) k_RX11_488 ⟨Nat.le_of_ble_eq_true rfl, Nat.le_of_ble_eq_true rfl⟩ (zM_n0 hM) (zM_k0 hM) rfl rfl rfl (Nat.le_of_ble_eq_true rfl) dX11_layLog_3 ⟨Nat.zero_le _, Nat.zero_le _⟩) hS (fun rq X2 Yq Rq H locs hrq hq hH hS => ?_)
  obtain ⟨h9Y, h9R, hq⟩ := hq
  dsimp only at h9Y h9R
  rw [h9Y, h9R] at hH
  obtain ⟨r3, h91, hq⟩ := hq
  subst h91
  have hF := hF r3 X2 hH.2.2.1 hq
  refine zd_ifB_eq C 30 dX11_layLog_6 (by decide) (fun c4 => ?_) (fun c4 => ?_)
  · have hF := hF.1 c4
    refine zd_iconst C dX11_layLog_30 ?_
    exact zd_zret C hr hlk hH hS (by decide) (⟨rfl, _, rfl, hF⟩) dX11_layLog_31
  · have hF := hF.2 c4
    refine lv_aload_n C.1 C.2.1 dX11_layLog_9 rfl (lv_at hl 0 rfl) ?_
    refine lv_iload_n C.1 C.2.1 dX11_layLog_10 rfl (lv_at hl 3 rfl) ?_
    obtain ⟨o5, hF⟩ := hF
    refine zgoi (zrunV (As := [.int (zI (g))]) (rest := []) C hE hH hS hl.1 (c_X11_hasFeed (l := l) hM (g) hg o5) k_RX11_352 ⟨Nat.le_of_ble_eq_true rfl, Nat.le_of_ble_eq_true rfl⟩ (zM_n0 hM) (zM_k0 hM) rfl rfl rfl (Nat.le_of_ble_eq_true rfl) dX11_layLog_11 ⟨Nat.zero_le _, Nat.zero_le _⟩) hS (fun rq X6 Yq Rq H locs hrq hq hH hS => ?_)
    obtain ⟨h9Y, h9R, hq⟩ := hq
    dsimp only at h9Y h9R
    rw [h9Y, h9R] at hH
    obtain ⟨r7, h91, hq⟩ := hq
    subst h91
    have hF := hF r7 X6 hH.2.2.1 hq
    refine zd_ifB_eq C 30 dX11_layLog_14 (by decide) (fun c8 => ?_) (fun c8 => ?_)
    · have hF := hF.1 c8
      refine zd_iconst C dX11_layLog_30 ?_
      exact zd_zret C hr hlk hH hS (by decide) (⟨rfl, _, rfl, hF⟩) dX11_layLog_31
    · have hF := hF.2 c8
      refine lv_aload_n C.1 C.2.1 dX11_layLog_17 rfl (lv_at hl 0 rfl) ?_
      refine lv_iload_n C.1 C.2.1 dX11_layLog_18 rfl (lv_at hl 1 rfl) ?_
      refine lv_iload_n C.1 C.2.1 dX11_layLog_19 rfl (lv_at hl 2 rfl) ?_
      obtain ⟨o9, hF⟩ := hF
      refine zgoi (zrunV (As := [.int (zI (a)), .int (zI (b))]) (rest := []) C hE hH hS hl.1 (c_X11_hand (l := l) hM (a) ha (b) hb o9) k_RX11_397 ⟨Nat.le_of_ble_eq_true rfl, Nat.le_of_ble_eq_true rfl⟩ (zM_n0 hM) (zM_k0 hM) rfl rfl rfl (Nat.le_of_ble_eq_true rfl) dX11_layLog_20 ⟨Nat.zero_le _, Nat.zero_le _⟩) hS (fun rq X10 Y11 Rq H locs hrq hq hH hS => ?_)
      obtain ⟨h9R, hq⟩ := hq
      dsimp only at h9R
      rw [h9R] at hH
      obtain ⟨r12, h91, hq⟩ := hq
      subst h91
      have hF := hF r12 X10 hH.2.2.1 Y11 hH.2.2.2 hq
      refine zd_ifB_eq C 30 dX11_layLog_23 (by decide) (fun c13 => ?_) (fun c13 => ?_)
      · have hF := hF.1 c13
        refine zd_iconst C dX11_layLog_30 ?_
        exact zd_zret C hr hlk hH hS (by decide) (⟨rfl, _, rfl, hF⟩) dX11_layLog_31
      · have hF := hF.2 c13
        refine zd_iconst C dX11_layLog_26 ?_
        refine lv_goto (tgt := 31) C.1 C.2.1 dX11_layLog_27 (by decide) ?_
        exact zd_zret C hr hlk hH hS (by decide) (⟨rfl, _, rfl, hF⟩) dX11_layLog_31
theorem v_X11_layLog {X Y : Nat → Int → Int} {R : Nat → Int → Option Nat} {i : Nat} (a : Int) (ha : rI a) (b : Int) (hb : rI b) (g : Int) (hg : rI g) (d : Int) (hd : rI d) (hp : oTN X i) : F_X11_layLog i X Y R a b g d := by
  unfold F_X11_layLog
  intro hX hY
  have hT := hp
  refine ⟨?_, ?_⟩
  · exact (hT.1 3 (by decide) (by decide)).1
  intro r3
  intro X2
  intro rX2
  intro h1
  obtain ⟨e3, e2⟩ := h1
  have o2 : ∀ z, z ≠ i → X2 z = X z := fun z h => by rw [e2, zU_o h]
  have k2 : lgK X X2 i := ⟨fun z z1 _ _ => o2 z z1, fun s hs => by rw [e2, zU_n (by omega)]⟩
  refine ⟨?_, ?_⟩
  · intro c1
    exact ⟨by unfold lgOk; rw [← e3, c1]; rfl, k2, fun h => by cases h⟩
  intro c2
  refine ⟨?_, ?_⟩
  · rw [o2 _ (by omega)]
    exact (hT.1 2 (by decide) (by decide)).1
  intro r7
  intro X6
  intro rX6
  intro h2
  obtain ⟨e7, e6⟩ := h2
  rw [em9 (o2 _ (by omega))] at e7
  have o6 : ∀ z, z ≠ i → X6 z = X z := fun z h => by rw [e6, zU_o h, o2 z h]
  have k6 : lgK X X6 i := ⟨fun z z1 _ _ => o6 z z1, fun s hs => by rw [e6, zU_n (by omega)]; exact k2.2 s hs⟩
  refine ⟨?_, ?_⟩
  · intro c3
    exact ⟨by unfold lgOk; rw [← e7, c3, Bool.false_and, Bool.and_false], k6, fun h => by cases h⟩
  intro c4
  refine ⟨?_, ?_⟩
  · exact oTN_k (o6 _ (by omega)) (o6 _ (by omega)) (o6 _ (by omega)) hT
  intro r12
  intro X10
  intro rX10
  intro Y11
  intro rY11
  intro h3
  obtain ⟨e12, hk, h9⟩ := h3
  rw [em9 (o6 _ (by omega)), em9 (o6 _ (by omega))] at e12
  have k10 : lgK X X10 i := ⟨fun z z1 z2 z3 => (hk.1 z z1 z2 z3).trans (o6 z z1), fun s hs => (hk.2.1 s (by omega) (by omega)).trans (k6.2 s hs)⟩
  refine ⟨?_, ?_⟩
  · intro c5
    exact ⟨by unfold lgOk; rw [← e12, c5, Bool.and_false, Bool.and_false], k10, fun h => by cases h⟩
  intro c6
  refine ⟨by unfold lgOk; rw [← e12, ← e3, ← e7, c2, c4, c6]; rfl, k10, fun _ => ?_⟩
  obtain ⟨g9, g8⟩ := h9 c6
  obtain ⟨h1, h2, h3, h4, h5, h6, h7⟩ := g9
  rw [o6 _ (by omega)] at h3 h5 h6 h7
  rw [o6 _ (by omega)] at h4
  exact ⟨⟨h1, h2, h3, h4, h5, h6, h7⟩, g8, by rw [hk.2.1 40 (by omega) (by decide), e6, zU_s], by rw [hk.2.1 55 (by omega) (by decide), e6, zU_n (by omega), e2, zU_s]⟩
theorem c_X11_layLog {l : Launch} {D : va_G} {cy : Nat → ClassId} {bs N : Nat} {sa : Nat → Nat} {kd len : Nat → Nat} {X Y : Nat → Int → Int} {R : Nat → Int → Option Nat} {i : Nat} (hM : zM N kd len R i) (a : Int) (ha : rI a) (b : Int) (hb : rI b) (g : Int) (hg : rI g) (d : Int) (hd : rI d) (hp : oTN X i) : Met l yX11_layLog (.code yX11_layLog cX11_layLog 5 (some .boolean) :: zTB) (zRm 6 140) (zPc D cy bs sa N kd len X Y R [.ref (bs + (i)), .int (zI (a)), .int (zI (b)), .int (zI (g)), .int (zI (d))]) (zQi D cy bs N kd len (fun r st => st.2.2 = R ∧ ∃ rb : Bool, r = bz rb ∧ (rb = lgOk X i (a) (b) (g) (d) ∧ lgK X (st.1) i ∧ (rb = true → hS9 X (st.1) i (a) (b) ∧ oH (st.1) (st.2.1) i ∧ (st.1) i 40 = g ∧ (st.1) i 55 = d)))) 0 0 (zA bs) := w_X11_layLog hM a ha b hb g hg d hd (v_X11_layLog a ha b hb g hg d hd hp)
abbrev cX11_fits : ByteArray := prog_13_method_114_code
def yX11_fits : MethodName := ⟨RX11, "fits", "(IIIII)I"⟩
theorem dX11_fits_0 : decode cX11_fits 0 = .ok (.aload_n 0, 1) := by decide +kernel
theorem dX11_fits_1 : decode cX11_fits 1 = .ok (.iconst 0, 1) := by decide +kernel
theorem dX11_fits_2 : decode cX11_fits 2 = .ok (.putfield 88, 3) := by decide +kernel
theorem dX11_fits_5 : decode cX11_fits 5 = .ok (.aload_n 0, 1) := by decide +kernel
theorem dX11_fits_6 : decode cX11_fits 6 = .ok (.iload_n 1, 1) := by decide +kernel
theorem dX11_fits_7 : decode cX11_fits 7 = .ok (.iload_n 2, 1) := by decide +kernel
theorem dX11_fits_8 : decode cX11_fits 8 = .ok (.iload_n 3, 1) := by decide +kernel
theorem dX11_fits_9 : decode cX11_fits 9 = .ok (.iload 4, 2) := by decide +kernel
theorem dX11_fits_11 : decode cX11_fits 11 = .ok (.invokevirtual 525, 3) := by decide +kernel
theorem dX11_fits_14 : decode cX11_fits 14 = .ok (.ifCond .ne 6, 3) := by decide +kernel
theorem dX11_fits_17 : decode cX11_fits 17 = .ok (.bipush (-2), 2) := by decide +kernel
theorem dX11_fits_19 : decode cX11_fits 19 = .ok (.ireturn, 1) := by decide +kernel
theorem dX11_fits_20 : decode cX11_fits 20 = .ok (.aload_n 0, 1) := by decide +kernel
theorem dX11_fits_21 : decode cX11_fits 21 = .ok (.iload 5, 2) := by decide +kernel
theorem dX11_fits_23 : decode cX11_fits 23 = .ok (.bipush 10, 2) := by decide +kernel
theorem dX11_fits_25 : decode cX11_fits 25 = .ok (.isub, 1) := by decide +kernel
theorem dX11_fits_26 : decode cX11_fits 26 = .ok (.invokevirtual 528, 3) := by decide +kernel
theorem dX11_fits_29 : decode cX11_fits 29 = .ok (.iload 5, 2) := by decide +kernel
theorem dX11_fits_31 : decode cX11_fits 31 = .ok (.bipush 10, 2) := by decide +kernel
theorem dX11_fits_33 : decode cX11_fits 33 = .ok (.if_icmp .lt 8, 3) := by decide +kernel
theorem dX11_fits_36 : decode cX11_fits 36 = .ok (.aload_n 0, 1) := by decide +kernel
theorem dX11_fits_37 : decode cX11_fits 37 = .ok (.getfield 500, 3) := by decide +kernel
theorem dX11_fits_40 : decode cX11_fits 40 = .ok (.ireturn, 1) := by decide +kernel
theorem dX11_fits_41 : decode cX11_fits 41 = .ok (.iload 5, 2) := by decide +kernel
theorem dX11_fits_43 : decode cX11_fits 43 = .ok (.tableswitch 67 0 4 #[33, 38, 46, 54, 62], 33) := by decide +kernel
theorem dX11_fits_76 : decode cX11_fits 76 = .ok (.aload_n 0, 1) := by decide +kernel
theorem dX11_fits_77 : decode cX11_fits 77 = .ok (.getfield 497, 3) := by decide +kernel
theorem dX11_fits_80 : decode cX11_fits 80 = .ok (.ireturn, 1) := by decide +kernel
theorem dX11_fits_81 : decode cX11_fits 81 = .ok (.aload_n 0, 1) := by decide +kernel
theorem dX11_fits_82 : decode cX11_fits 82 = .ok (.getfield 503, 3) := by decide +kernel
theorem dX11_fits_85 : decode cX11_fits 85 = .ok (.invokestatic 531, 3) := by decide +kernel
theorem dX11_fits_88 : decode cX11_fits 88 = .ok (.ireturn, 1) := by decide +kernel
theorem dX11_fits_89 : decode cX11_fits 89 = .ok (.aload_n 0, 1) := by decide +kernel
theorem dX11_fits_90 : decode cX11_fits 90 = .ok (.getfield 506, 3) := by decide +kernel
theorem dX11_fits_93 : decode cX11_fits 93 = .ok (.invokestatic 531, 3) := by decide +kernel
theorem dX11_fits_96 : decode cX11_fits 96 = .ok (.ireturn, 1) := by decide +kernel
theorem dX11_fits_97 : decode cX11_fits 97 = .ok (.aload_n 0, 1) := by decide +kernel
theorem dX11_fits_98 : decode cX11_fits 98 = .ok (.getfield 509, 3) := by decide +kernel
theorem dX11_fits_101 : decode cX11_fits 101 = .ok (.invokestatic 531, 3) := by decide +kernel
theorem dX11_fits_104 : decode cX11_fits 104 = .ok (.ireturn, 1) := by decide +kernel
theorem dX11_fits_105 : decode cX11_fits 105 = .ok (.aload_n 0, 1) := by decide +kernel
theorem dX11_fits_106 : decode cX11_fits 106 = .ok (.invokevirtual 534, 3) := by decide +kernel
theorem dX11_fits_109 : decode cX11_fits 109 = .ok (.ireturn, 1) := by decide +kernel
theorem dX11_fits_110 : decode cX11_fits 110 = .ok (.bipush (-2), 2) := by decide +kernel
theorem dX11_fits_112 : decode cX11_fits 112 = .ok (.ireturn, 1) := by decide +kernel
theorem q_1907 : Cond.methodLink RX11 525 yX11_layLog ∈ zTB := zmem 1907 (by decide +kernel) rfl
theorem q_1909 : Cond.instanceMethod yX11_layLog ∈ zTB := zmem 1909 (by decide +kernel) rfl
theorem q_107 : Cond.selects RX11 yX11_layLog yX11_layLog ∈ zTB := zmem 107 (by decide +kernel) rfl
theorem q_1910 : Cond.code yX11_layLog cX11_layLog 5 (some .boolean) ∈ zTB := zmem 1910 (by decide +kernel) rfl
theorem k_RX11_525 : zLv RX11 525 RX11 yX11_layLog cX11_layLog 5 (some .boolean) 4 := ⟨⟨q_1907, q_1909, q_107, q_140, q_1910⟩, rfl, ⟨by decide, by decide⟩, by decide +kernel⟩
theorem q_1911 : Cond.methodLink RX11 528 yX11_findLaws ∈ zTB := zmem 1911 (by decide +kernel) rfl
theorem q_1913 : Cond.instanceMethod yX11_findLaws ∈ zTB := zmem 1913 (by decide +kernel) rfl
theorem q_108 : Cond.selects RX11 yX11_findLaws yX11_findLaws ∈ zTB := zmem 108 (by decide +kernel) rfl
theorem q_1914 : Cond.code yX11_findLaws cX11_findLaws 3 none ∈ zTB := zmem 1914 (by decide +kernel) rfl
theorem k_RX11_528 : zLv RX11 528 RX11 yX11_findLaws cX11_findLaws 3 none 1 := ⟨⟨q_1911, q_1913, q_108, q_140, q_1914⟩, rfl, ⟨by decide, by decide⟩, by decide +kernel⟩
theorem q_1928 : Cond.static yX11_sure ∈ zTB := zmem 1928 (by decide +kernel) rfl
theorem q_1929 : Cond.code yX11_sure cX11_sure 2 (some .int) ∈ zTB := zmem 1929 (by decide +kernel) rfl
theorem q_1927 : Cond.methodLink RX11 531 yX11_sure ∈ zTB := zmem 1927 (by decide +kernel) rfl
theorem k_RX11_531 : zLs RX11 531 yX11_sure cX11_sure 2 (some .int) 1 := ⟨⟨q_1927, q_1928, q_140, q_1929⟩, ⟨by decide, by decide⟩, by decide +kernel⟩
theorem q_1930 : Cond.methodLink RX11 534 yX11_askWhen ∈ zTB := zmem 1930 (by decide +kernel) rfl
theorem q_1932 : Cond.instanceMethod yX11_askWhen ∈ zTB := zmem 1932 (by decide +kernel) rfl
theorem q_112 : Cond.selects RX11 yX11_askWhen yX11_askWhen ∈ zTB := zmem 112 (by decide +kernel) rfl
theorem q_1933 : Cond.code yX11_askWhen cX11_askWhen 6 (some .int) ∈ zTB := zmem 1933 (by decide +kernel) rfl
theorem k_RX11_534 : zLv RX11 534 RX11 yX11_askWhen cX11_askWhen 6 (some .int) 0 := ⟨⟨q_1930, q_1932, q_112, q_140, q_1933⟩, rfl, ⟨by decide, by decide⟩, by decide +kernel⟩
def F_X11_fits (i : Nat) (X Y : Nat → Int → Int) (R : Nat → Int → Option Nat) (a : Int) (b : Int) (g : Int) (d : Int) (f : Int) : Prop := (∀ i j, rI (X i j)) → (∀ i j, rL (Y i j)) → ∀ X1 : Nat → Int → Int, X1 = zU X (i) 0 (0) → (∀ i j, rI (X1 i j)) → ((oTN X1 i) ∧ (∀ r5 : Bool, ∀ X3 : Nat → Int → Int, (∀ i j, rI (X3 i j)) → ∀ Y4 : Nat → Int → Int, (∀ i j, rL (Y4 i j)) → (r5 = lgOk X1 i (a) (b) (g) (d) ∧ lgK X1 (X3) i ∧ (r5 = true → hS9 X1 (X3) i (a) (b) ∧ oH (X3) (Y4) i ∧ (X3) i 40 = g ∧ (X3) i 55 = d)) → (((r5 = true) → ((oFl X3 i) ∧ (∀ X8 : Nat → Int → Int, (∀ i j, rI (X8 i j)) → ∀ Y9 : Nat → Int → Int, (∀ i j, rL (Y9 i j)) → (flK X3 (X8) Y4 (Y9) i ∧ lwR X3 (X8) i (zW (f - 10)) 40) → (((f < 10) → ((f = 0 → (X8 (i) 56 = rFits X i (a) (b) (g) (d) (f) ∧ pK X (X8) i)) ∧ (f = 1 → (rI (fsN (fun v => decide (X8 (i) 58 = zShl 1 v)) 10 0) → (fsN (fun v => decide (X8 (i) 58 = zShl 1 v)) 10 0 = rFits X i (a) (b) (g) (d) (f) ∧ pK X (X8) i))) ∧ (f = 2 → (rI (fsN (fun v => decide (X8 (i) 59 = zShl 1 v)) 10 0) → (fsN (fun v => decide (X8 (i) 59 = zShl 1 v)) 10 0 = rFits X i (a) (b) (g) (d) (f) ∧ pK X (X8) i))) ∧ (f = 3 → (rI (fsN (fun v => decide (X8 (i) 60 = zShl 1 v)) 10 0) → (fsN (fun v => decide (X8 (i) 60 = zShl 1 v)) 10 0 = rFits X i (a) (b) (g) (d) (f) ∧ pK X (X8) i))) ∧ (f = 4 → ((True) ∧ (rI (mAsk X8 i) → (mAsk X8 i = rFits X i (a) (b) (g) (d) (f) ∧ pK X (X8) i)))) ∧ ((f < 0 ∨ 4 < f) → ((-2) = rFits X i (a) (b) (g) (d) (f) ∧ pK X (X8) i)))) ∧ ((¬ (f < 10)) → (X8 (i) 57 = rFits X i (a) (b) (g) (d) (f) ∧ pK X (X8) i)))))) ∧ ((r5 = false) → ((-2) = rFits X i (a) (b) (g) (d) (f) ∧ pK X (X3) i)))))
set_option maxHeartbeats 4000000 in
set_option maxRecDepth 100000 in
theorem w_X11_fits {l : Launch} {D : va_G} {cy : Nat → ClassId} {bs N : Nat} {sa : Nat → Nat} {kd len : Nat → Nat} {X Y : Nat → Int → Int} {R : Nat → Int → Option Nat} {i : Nat} (hM : zM N kd len R i) (a : Int) (ha : rI a) (b : Int) (hb : rI b) (g : Int) (hg : rI g) (d : Int) (hd : rI d) (f : Int) (hf : rI f) (hF : F_X11_fits i X Y R a b g d f) : Met l yX11_fits (.code yX11_fits cX11_fits 6 (some .int) :: zTB) (zRm 8 180) (zPc D cy bs sa N kd len X Y R [.ref (bs + (i)), .int (zI (a)), .int (zI (b)), .int (zI (g)), .int (zI (d)), .int (zI (f))]) (zQi D cy bs N kd len (fun r st => st.2.2 = R ∧ (r = rFits X i (a) (b) (g) (d) (f) ∧ pK X (st.1) i))) 0 0 (zA bs) := by
  refine zstart (by decide) (Nat.le_of_ble_eq_true rfl) ?_
  intro p e s m args below meth c ls C hE hH hr hlk hnm hl hargs
  have hF := hF hH.2.2.1 hH.2.2.2
  have hS : va_S (zA bs) s.heap s.heap [] := va_S.rf
  have hl : lv_has ls 6 [(0, .ref (bs + (i))), (1, .int (zI (a))), (2, .int (zI (b))), (3, .int (zI (g))), (4, .int (zI (d))), (5, .int (zI (f)))] := hl
  refine lv_aload_n C.1 C.2.1 dX11_fits_0 rfl (lv_at hl 0 rfl) ?_
  refine zd_iconst C dX11_fits_1 ?_
  refine zp11_0 C hH hS (zM_n0 hM) (zM_k0 hM) q_1287 (by decide) dX11_fits_2 (fun H locs hH hS => ?_)
  obtain ⟨X1, eX1⟩ : ∃ z, z = zU X (i) 0 (0) := ⟨_, rfl⟩
  rw [← eX1] at hH
  have hF := hF X1 eX1 hH.2.2.1
  refine lv_aload_n C.1 C.2.1 dX11_fits_5 rfl (lv_at hl 0 rfl) ?_
  refine lv_iload_n C.1 C.2.1 dX11_fits_6 rfl (lv_at hl 1 rfl) ?_
  refine lv_iload_n C.1 C.2.1 dX11_fits_7 rfl (lv_at hl 2 rfl) ?_
  refine lv_iload_n C.1 C.2.1 dX11_fits_8 rfl (lv_at hl 3 rfl) ?_
  refine lv_iload C.1 C.2.1 dX11_fits_9 (lv_at hl 4 rfl) ?_
  obtain ⟨o2, hF⟩ := hF
  refine zgoi (zrunV (As := [.int (zI (a)), .int (zI (b)), .int (zI (g)), .int (zI (d))]) (rest := []) C hE hH hS hl.1 (c_X11_layLog (l := l) hM (a) ha (b) hb (g) hg (d) hd o2) k_RX11_525 ⟨Nat.le_of_ble_eq_true rfl, Nat.le_of_ble_eq_true rfl⟩ (zM_n0 hM) (zM_k0 hM) rfl rfl rfl (Nat.le_of_ble_eq_true rfl) dX11_fits_11 ⟨Nat.zero_le _, Nat.zero_le _⟩) hS (fun rq X3 Y4 Rq H locs hrq hq hH hS => ?_)
  obtain ⟨h9R, hq⟩ := hq
  dsimp only at h9R
  rw [h9R] at hH
  obtain ⟨r5, h91, hq⟩ := hq
  subst h91
  have hF := hF r5 X3 hH.2.2.1 Y4 hH.2.2.2 hq
  refine zd_ifB_ne C 20 dX11_fits_14 (by decide) (fun c6 => ?_) (fun c6 => ?_)
  · have hF := hF.1 c6
    refine lv_aload_n C.1 C.2.1 dX11_fits_20 rfl (lv_at hl 0 rfl) ?_
    refine lv_iload C.1 C.2.1 dX11_fits_21 (lv_at hl 5 rfl) ?_
    refine zd_bipush C (by decide) dX11_fits_23 ?_
    refine zd_isub C dX11_fits_25 ?_
    rw [show zI (f - 10) = zI (zW (f - 10)) from (zI_zW _).symm]
    obtain ⟨o7, hF⟩ := hF
    refine zgov (zrunV (As := [.int (zI (zW (f - 10)))]) (rest := []) C hE hH hS hl.1 (c_X11_findLaws (l := l) hM (zW (f - 10)) (zW_rg _) o7) k_RX11_528 ⟨Nat.le_of_ble_eq_true rfl, Nat.le_of_ble_eq_true rfl⟩ (zM_n0 hM) (zM_k0 hM) rfl rfl rfl (Nat.le_of_ble_eq_true rfl) dX11_fits_26 ⟨Nat.zero_le _, Nat.zero_le _⟩) hS (fun X8 Y9 Rq H locs hq hH hS => ?_)
    obtain ⟨h9R, hq⟩ := hq
    dsimp only at h9R
    rw [h9R] at hH
    have hF := hF X8 hH.2.2.1 Y9 hH.2.2.2 hq
    refine lv_iload C.1 C.2.1 dX11_fits_29 (lv_at hl 5 rfl) ?_
    refine zd_bipush C (by decide) dX11_fits_31 ?_
    refine zd_icmp_lt C hf (by decide) 41 dX11_fits_33 (by decide) (fun c10 => ?_) (fun c10 => ?_)
    · have hF := hF.1 c10
      refine lv_iload C.1 C.2.1 dX11_fits_41 (lv_at hl 5 rfl) ?_
      by_cases c11_0 : f = 0
      · have hF := hF.1 c11_0
        refine zd_tabI C hf 76 (0) c11_0 dX11_fits_43 (by decide) (by decide) rfl (by decide) ?_
        refine lv_aload_n C.1 C.2.1 dX11_fits_76 rfl (lv_at hl 0 rfl) ?_
        refine zg11_56 C hH (zM_n0 hM) (zM_k0 hM) q_1343 dX11_fits_77 ?_
        exact zd_iret C hr hlk hH hS (hH.2.2.1 _ _) (⟨rfl, hF⟩) dX11_fits_80
      · have hF := hF.2
        by_cases c11_1 : f = 1
        · have hF := hF.1 c11_1
          refine zd_tabI C hf 81 (1) c11_1 dX11_fits_43 (by decide) (by decide) rfl (by decide) ?_
          refine lv_aload_n C.1 C.2.1 dX11_fits_81 rfl (lv_at hl 0 rfl) ?_
          refine zg11_58 C hH (zM_n0 hM) (zM_k0 hM) q_1345 dX11_fits_82 ?_
          refine zgoi (zrunS (As := [.int (zI (X8 (i) 58))]) (rest := []) C hE hH hS hl.1 (c_X11_sure (l := l)  (X8 (i) 58) (hH.2.2.1 _ _)) k_RX11_531 ⟨Nat.le_of_ble_eq_true rfl, Nat.le_of_ble_eq_true rfl⟩ rfl (Nat.le_of_ble_eq_true rfl) dX11_fits_85 ⟨Nat.zero_le _, Nat.zero_le _⟩) hS (fun rq Xq Yq Rq H locs hrq hq hH hS => ?_)
          obtain ⟨h91, h92⟩ := hq
          have h93 : Xq = X8 := congrArg (fun z => z.1) h92
          have h94 : Yq = Y9 := congrArg (fun z => z.2.1) h92
          have h95 : Rq = R := congrArg (fun z => z.2.2) h92
          rw [h93, h94, h95] at hH
          subst h91
          have hr12 := hrq
          have hF := hF hr12
          exact zd_iret C hr hlk hH hS hr12 (⟨rfl, hF⟩) dX11_fits_88
        · have hF := hF.2
          by_cases c11_2 : f = 2
          · have hF := hF.1 c11_2
            refine zd_tabI C hf 89 (2) c11_2 dX11_fits_43 (by decide) (by decide) rfl (by decide) ?_
            refine lv_aload_n C.1 C.2.1 dX11_fits_89 rfl (lv_at hl 0 rfl) ?_
            refine zg11_59 C hH (zM_n0 hM) (zM_k0 hM) q_1346 dX11_fits_90 ?_
            refine zgoi (zrunS (As := [.int (zI (X8 (i) 59))]) (rest := []) C hE hH hS hl.1 (c_X11_sure (l := l)  (X8 (i) 59) (hH.2.2.1 _ _)) k_RX11_531 ⟨Nat.le_of_ble_eq_true rfl, Nat.le_of_ble_eq_true rfl⟩ rfl (Nat.le_of_ble_eq_true rfl) dX11_fits_93 ⟨Nat.zero_le _, Nat.zero_le _⟩) hS (fun rq Xq Yq Rq H locs hrq hq hH hS => ?_)
            obtain ⟨h91, h92⟩ := hq
            have h93 : Xq = X8 := congrArg (fun z => z.1) h92
            have h94 : Yq = Y9 := congrArg (fun z => z.2.1) h92
            have h95 : Rq = R := congrArg (fun z => z.2.2) h92
            rw [h93, h94, h95] at hH
            subst h91
            have hr13 := hrq
            have hF := hF hr13
            exact zd_iret C hr hlk hH hS hr13 (⟨rfl, hF⟩) dX11_fits_96
          · have hF := hF.2
            by_cases c11_3 : f = 3
            · have hF := hF.1 c11_3
              refine zd_tabI C hf 97 (3) c11_3 dX11_fits_43 (by decide) (by decide) rfl (by decide) ?_
              refine lv_aload_n C.1 C.2.1 dX11_fits_97 rfl (lv_at hl 0 rfl) ?_
              refine zg11_60 C hH (zM_n0 hM) (zM_k0 hM) q_1347 dX11_fits_98 ?_
              refine zgoi (zrunS (As := [.int (zI (X8 (i) 60))]) (rest := []) C hE hH hS hl.1 (c_X11_sure (l := l)  (X8 (i) 60) (hH.2.2.1 _ _)) k_RX11_531 ⟨Nat.le_of_ble_eq_true rfl, Nat.le_of_ble_eq_true rfl⟩ rfl (Nat.le_of_ble_eq_true rfl) dX11_fits_101 ⟨Nat.zero_le _, Nat.zero_le _⟩) hS (fun rq Xq Yq Rq H locs hrq hq hH hS => ?_)
              obtain ⟨h91, h92⟩ := hq
              have h93 : Xq = X8 := congrArg (fun z => z.1) h92
              have h94 : Yq = Y9 := congrArg (fun z => z.2.1) h92
              have h95 : Rq = R := congrArg (fun z => z.2.2) h92
              rw [h93, h94, h95] at hH
              subst h91
              have hr14 := hrq
              have hF := hF hr14
              exact zd_iret C hr hlk hH hS hr14 (⟨rfl, hF⟩) dX11_fits_104
            · have hF := hF.2
              by_cases c11_4 : f = 4
              · have hF := hF.1 c11_4
                refine zd_tabI C hf 105 (4) c11_4 dX11_fits_43 (by decide) (by decide) rfl (by decide) ?_
                refine lv_aload_n C.1 C.2.1 dX11_fits_105 rfl (lv_at hl 0 rfl) ?_
                obtain ⟨o15, hF⟩ := hF
                refine zgoi (zrunV (As := []) (rest := []) C hE hH hS hl.1 (c_X11_askWhen (l := l) hM  o15) k_RX11_534 ⟨Nat.le_of_ble_eq_true rfl, Nat.le_of_ble_eq_true rfl⟩ (zM_n0 hM) (zM_k0 hM) rfl rfl rfl (Nat.le_of_ble_eq_true rfl) dX11_fits_106 ⟨Nat.zero_le _, Nat.zero_le _⟩) hS (fun rq Xq Yq Rq H locs hrq hq hH hS => ?_)
                obtain ⟨h91, h92⟩ := hq
                have h93 : Xq = X8 := congrArg (fun z => z.1) h92
                have h94 : Yq = Y9 := congrArg (fun z => z.2.1) h92
                have h95 : Rq = R := congrArg (fun z => z.2.2) h92
                rw [h93, h94, h95] at hH
                subst h91
                have hr16 := hrq
                have hF := hF hr16
                exact zd_iret C hr hlk hH hS hr16 (⟨rfl, hF⟩) dX11_fits_109
              · have hF := hF.2
                have c11 := tsw_0_4 (f) c11_0 c11_1 c11_2 c11_3 c11_4
                have hF := hF c11
                refine zd_tabO C hf 110 c11 dX11_fits_43 (by decide) ?_
                refine zd_bipush C (by decide) dX11_fits_110 ?_
                exact zd_iret C hr hlk hH hS (by decide) (⟨rfl, hF⟩) dX11_fits_112
    · have hF := hF.2 c10
      refine lv_aload_n C.1 C.2.1 dX11_fits_36 rfl (lv_at hl 0 rfl) ?_
      refine zg11_57 C hH (zM_n0 hM) (zM_k0 hM) q_1344 dX11_fits_37 ?_
      exact zd_iret C hr hlk hH hS (hH.2.2.1 _ _) (⟨rfl, hF⟩) dX11_fits_40
  · have hF := hF.2 c6
    refine zd_bipush C (by decide) dX11_fits_17 ?_
    exact zd_iret C hr hlk hH hS (by decide) (⟨rfl, hF⟩) dX11_fits_19
theorem v_X11_fits {X Y : Nat → Int → Int} {R : Nat → Int → Option Nat} {i : Nat} (a : Int) (ha : rI a) (b : Int) (hb : rI b) (g : Int) (hg : rI g) (d : Int) (hd : rI d) (f : Int) (hf : rI f) (hp : oTN X i ∧ oTF X i ∧ oTLg X i) : F_X11_fits i X Y R a b g d f := by
  unfold F_X11_fits
  intro hX hY
  obtain ⟨hT, hF, hG⟩ := hp
  intro X1
  intro eX1
  have o1 : ∀ z, z ≠ i → X1 z = X z := fun z h => by rw [eX1, zU_o h]
  have z1 : X1 i 0 = 0 := by rw [eX1, zU_s]
  intro rX1
  refine ⟨?_, ?_⟩
  · exact oTN_k (o1 _ (by omega)) (o1 _ (by omega)) (o1 _ (by omega)) hT
  intro r5
  intro X3
  intro rX3
  intro Y4
  intro rY4
  intro h1
  obtain ⟨e5, lk, h9⟩ := h1
  have e5 : r5 = lgOk X i a b g d := by
    rw [e5]
    unfold lgOk
    rw [em9 (o1 _ (by omega)), em9 (o1 _ (by omega)), em9 (o1 _ (by omega)), em9 (o1 _ (by omega))]
  have p3 : pK X X3 i := ⟨fun z g1 g2 => (lk.1 z g1 (by omega) (by omega)).trans (o1 z g1), (lk.2 0 (by omega)).trans z1⟩
  refine ⟨?_, ?_⟩
  · intro c1
    obtain ⟨g9, h, s40, s55⟩ := h9 c1
    have k6 : X3 (i + 6) = X (i + 6) := (lk.1 _ (by omega) (by omega) (by omega)).trans (o1 _ (by omega))
    have k7 : X3 (i + 7) = X (i + 7) := (lk.1 _ (by omega) (by omega) (by omega)).trans (o1 _ (by omega))
    have k8 : X3 (i + 8) = X (i + 8) := (lk.1 _ (by omega) (by omega) (by omega)).trans (o1 _ (by omega))
    have k9 : X3 (i + 9) = X (i + 9) := (lk.1 _ (by omega) (by omega) (by omega)).trans (o1 _ (by omega))
    have zz := hS9_Z (X0 := X) (f := g) (o1 _ (by omega)) (o1 _ (by omega)) k6 k7 g9
    have zn : ∀ s, s ≠ 55 → hL X i a b g d i s = hZ X i a b g i s := fun s hs => zU_n (by omega)
    have zo : ∀ w, w ≠ i → hL X i a b g d w = X w := fun w hw => (zU_o hw).trans (hZ_o hw)
    obtain ⟨eF, eS⟩ := lwF_k (X := hL X i a b g d) (X1 := X3) (i := i) (by rw [zo _ (by omega), k6]) (by rw [zo _ (by omega), k7]) (by rw [zo _ (by omega), k8]) (by rw [zo _ (by omega), k9]) (fun s hs => by
      by_cases q : s = 55
      · rw [q, s55]
        exact zU_s.symm
      · rw [zn s q]
        obtain ⟨t, -, -⟩ := zz
        rcases hs with hs | hs | hs
        · have e : s = 24 ∨ s = 25 ∨ s = 26 ∨ s = 27 := by omega
          rcases e with e | e | e | e
          · rw [e]; exact t.2.2.1
          · rw [e]; exact t.2.2.2.1
          · rw [e]; exact t.2.2.2.2.1
          · rw [e]; exact t.2.2.2.2.2.1
        · rw [hs, s40]
          exact hZ_s.2.2.2.2.2.2.2.symm
        · exact absurd hs q)
    have cc := e5.symm.trans c1
    unfold lgOk at cc
    simp only [Bool.and_eq_true] at cc
    have cl := mIs_t.mp cc.1
    have cf := mIs_t.mp cc.2.1
    have h52 := hT.1 2 (by decide) (by decide)
    have h53 := hT.1 3 (by decide) (by decide)
    have of : oFl X3 i := by
      refine ⟨⟨h.1.2.1, h.1.2.2.1, h.1.2.2.2, h.1.1.2.2.1, h.1.1.2.2.2⟩, ⟨?_, ?_⟩, ?_, ?_⟩
      · show 0 ≤ X3 i 40 ∧ X3 i 40 ≤ 1
        rw [s40]
        exact ⟨by omega, by omega⟩
      · rw [s40]
        exact (oTF_k (X := X) ((lk.1 _ (by omega) (by omega) (by omega)).trans (o1 _ (by omega))) k8 hF) g cf.1 (by rw [lk.1 _ (by omega) (by omega) (by omega), o1 _ (by omega)]; exact cf.2)
      · show 0 ≤ X3 i 55 ∧ X3 i 55 ≤ 1
        rw [s55]
        exact ⟨by omega, by omega⟩
      · rw [s55]
        exact (oTLg_k (X := X) ((lk.1 _ (by omega) (by omega) (by omega)).trans (o1 _ (by omega))) k9 hG) d cl.1 (by rw [lk.1 _ (by omega) (by omega) (by omega), o1 _ (by omega)]; exact cl.2)
    refine ⟨?_, ?_⟩
    · exact of
    intro X8
    intro rX8
    intro Y9
    intro rY9
    intro h2
    obtain ⟨fk, lr⟩ := h2
    have p9 : pK X X8 i := tr9 p3 (fun z g1 g2 => fk.1 z g1 (by omega) (by omega) (by omega) (by omega) (by omega)) (fk.2.1 0 (by omega))
    obtain ⟨w1, w2, w3, w4, w5, w6, w7⟩ := lr
    rw [eF] at w1 w2 w3 w4 w5 w6
    simp only [eS] at w7
    have u : ∀ y, y = fiOf (hL X i a b g d) i f → y = rFits X i a b g d f ∧ pK X X8 i := fun y hy => by
      refine ⟨?_, p9⟩
      unfold rFits
      rw [← e5, c1]
      exact hy
    refine ⟨?_, ?_⟩
    · intro c2
      refine ⟨?_, ?_⟩
      · intro c3
        refine u _ ?_
        unfold fiOf
        rw [if_neg (by omega), if_pos (by omega)]
        exact w1
      refine ⟨?_, ?_⟩
      · intro c4
        intro _
        refine u _ ?_
        unfold fiOf
        rw [if_neg (by omega), if_neg (by omega), if_pos (by omega)]
        rw [w3]
        rfl
      refine ⟨?_, ?_⟩
      · intro c5
        intro _
        refine u _ ?_
        unfold fiOf
        rw [if_neg (by omega), if_neg (by omega), if_neg (by omega), if_pos (by omega)]
        rw [w4]
        rfl
      refine ⟨?_, ?_⟩
      · intro c6
        intro _
        refine u _ ?_
        unfold fiOf
        rw [if_neg (by omega), if_neg (by omega), if_neg (by omega), if_neg (by omega), if_pos (by omega)]
        rw [w5]
        rfl
      refine ⟨?_, ?_⟩
      · intro c7
        refine ⟨?_, ?_⟩
        · trivial
        intro _
        refine u _ ?_
        unfold fiOf
        rw [if_neg (by omega), if_neg (by omega), if_neg (by omega), if_neg (by omega), if_neg (by omega), if_pos (by omega)]
        unfold mAsk
        rw [w1]
        split
        · rfl
        · rw [akW_cong (fun y hy => mxN_cong (fun v hv => w7 y v (by omega) hv))]
      intro c8
      refine u _ ?_
      unfold fiOf
      rw [if_neg (by omega), if_neg (by omega), if_neg (by omega), if_neg (by omega), if_neg (by omega), if_neg (by omega)]
    intro c9
    refine u _ ?_
    unfold fiOf
    have := ‹rI f›.2
    rw [if_pos (by omega), w2, zW_id ⟨by omega, by omega⟩]
  intro c10
  exact ⟨by unfold rFits; rw [← e5, c10]; rfl, p3⟩
theorem c_X11_fits {l : Launch} {D : va_G} {cy : Nat → ClassId} {bs N : Nat} {sa : Nat → Nat} {kd len : Nat → Nat} {X Y : Nat → Int → Int} {R : Nat → Int → Option Nat} {i : Nat} (hM : zM N kd len R i) (a : Int) (ha : rI a) (b : Int) (hb : rI b) (g : Int) (hg : rI g) (d : Int) (hd : rI d) (f : Int) (hf : rI f) (hp : oTN X i ∧ oTF X i ∧ oTLg X i) : Met l yX11_fits (.code yX11_fits cX11_fits 6 (some .int) :: zTB) (zRm 8 180) (zPc D cy bs sa N kd len X Y R [.ref (bs + (i)), .int (zI (a)), .int (zI (b)), .int (zI (g)), .int (zI (d)), .int (zI (f))]) (zQi D cy bs N kd len (fun r st => st.2.2 = R ∧ (r = rFits X i (a) (b) (g) (d) (f) ∧ pK X (st.1) i))) 0 0 (zA bs) := w_X11_fits hM a ha b hb g hg d hd f hf (v_X11_fits a ha b hb g hg d hd f hf hp)
abbrev cX11_odds : ByteArray := prog_13_method_136_code
def yX11_odds : MethodName := ⟨RX11, "odds", "(IIIIIZ)I"⟩
theorem dX11_odds_0 : decode cX11_odds 0 = .ok (.aload_n 0, 1) := by decide +kernel
theorem dX11_odds_1 : decode cX11_odds 1 = .ok (.iconst 0, 1) := by decide +kernel
theorem dX11_odds_2 : decode cX11_odds 2 = .ok (.putfield 88, 3) := by decide +kernel
theorem dX11_odds_5 : decode cX11_odds 5 = .ok (.iload 5, 2) := by decide +kernel
theorem dX11_odds_7 : decode cX11_odds 7 = .ok (.iconst 0, 1) := by decide +kernel
theorem dX11_odds_8 : decode cX11_odds 8 = .ok (.iconst 1, 1) := by decide +kernel
theorem dX11_odds_9 : decode cX11_odds 9 = .ok (.invokestatic 100, 3) := by decide +kernel
theorem dX11_odds_12 : decode cX11_odds 12 = .ok (.ifCond .eq 15, 3) := by decide +kernel
theorem dX11_odds_15 : decode cX11_odds 15 = .ok (.aload_n 0, 1) := by decide +kernel
theorem dX11_odds_16 : decode cX11_odds 16 = .ok (.iload_n 1, 1) := by decide +kernel
theorem dX11_odds_17 : decode cX11_odds 17 = .ok (.iload_n 2, 1) := by decide +kernel
theorem dX11_odds_18 : decode cX11_odds 18 = .ok (.iload_n 3, 1) := by decide +kernel
theorem dX11_odds_19 : decode cX11_odds 19 = .ok (.iload 4, 2) := by decide +kernel
theorem dX11_odds_21 : decode cX11_odds 21 = .ok (.invokevirtual 525, 3) := by decide +kernel
theorem dX11_odds_24 : decode cX11_odds 24 = .ok (.ifCond .ne 5, 3) := by decide +kernel
theorem dX11_odds_27 : decode cX11_odds 27 = .ok (.iconst (-1), 1) := by decide +kernel
theorem dX11_odds_28 : decode cX11_odds 28 = .ok (.ireturn, 1) := by decide +kernel
theorem dX11_odds_29 : decode cX11_odds 29 = .ok (.aload_n 0, 1) := by decide +kernel
theorem dX11_odds_30 : decode cX11_odds 30 = .ok (.iconst (-1), 1) := by decide +kernel
theorem dX11_odds_31 : decode cX11_odds 31 = .ok (.invokevirtual 528, 3) := by decide +kernel
theorem dX11_odds_34 : decode cX11_odds 34 = .ok (.aload_n 0, 1) := by decide +kernel
theorem dX11_odds_35 : decode cX11_odds 35 = .ok (.getfield 497, 3) := by decide +kernel
theorem dX11_odds_38 : decode cX11_odds 38 = .ok (.ifCond .ne 7, 3) := by decide +kernel
theorem dX11_odds_41 : decode cX11_odds 41 = .ok (.iconst (-1), 1) := by decide +kernel
theorem dX11_odds_42 : decode cX11_odds 42 = .ok (.goto 38, 3) := by decide +kernel
theorem dX11_odds_45 : decode cX11_odds 45 = .ok (.iload 5, 2) := by decide +kernel
theorem dX11_odds_47 : decode cX11_odds 47 = .ok (.iconst 1, 1) := by decide +kernel
theorem dX11_odds_48 : decode cX11_odds 48 = .ok (.if_icmp .ne 11, 3) := by decide +kernel
theorem dX11_odds_51 : decode cX11_odds 51 = .ok (.aload_n 0, 1) := by decide +kernel
theorem dX11_odds_52 : decode cX11_odds 52 = .ok (.getfield 512, 3) := by decide +kernel
theorem dX11_odds_55 : decode cX11_odds 55 = .ok (.i2l, 1) := by decide +kernel
theorem dX11_odds_56 : decode cX11_odds 56 = .ok (.goto 13, 3) := by decide +kernel
theorem dX11_odds_59 : decode cX11_odds 59 = .ok (.aload_n 0, 1) := by decide +kernel
theorem dX11_odds_60 : decode cX11_odds 60 = .ok (.getfield 497, 3) := by decide +kernel
theorem dX11_odds_63 : decode cX11_odds 63 = .ok (.aload_n 0, 1) := by decide +kernel
theorem dX11_odds_64 : decode cX11_odds 64 = .ok (.getfield 512, 3) := by decide +kernel
theorem dX11_odds_67 : decode cX11_odds 67 = .ok (.isub, 1) := by decide +kernel
theorem dX11_odds_68 : decode cX11_odds 68 = .ok (.i2l, 1) := by decide +kernel
theorem dX11_odds_69 : decode cX11_odds 69 = .ok (.aload_n 0, 1) := by decide +kernel
theorem dX11_odds_70 : decode cX11_odds 70 = .ok (.getfield 497, 3) := by decide +kernel
theorem dX11_odds_73 : decode cX11_odds 73 = .ok (.i2l, 1) := by decide +kernel
theorem dX11_odds_74 : decode cX11_odds 74 = .ok (.iload 6, 2) := by decide +kernel
theorem dX11_odds_76 : decode cX11_odds 76 = .ok (.invokestatic 472, 3) := by decide +kernel
theorem dX11_odds_79 : decode cX11_odds 79 = .ok (.l2i, 1) := by decide +kernel
theorem dX11_odds_80 : decode cX11_odds 80 = .ok (.ireturn, 1) := by decide +kernel
def F_X11_odds (i : Nat) (X Y : Nat → Int → Int) (R : Nat → Int → Option Nat) (a : Int) (b : Int) (g : Int) (d : Int) (f : Int) (k : Bool) : Prop := (∀ i j, rI (X i j)) → (∀ i j, rL (Y i j)) → ∀ X1 : Nat → Int → Int, X1 = zU X (i) 0 (0) → (∀ i j, rI (X1 i j)) → ((((mIn (f) ((0 : Int)) ((1 : Int))) = false) → ((-1) = rOdds X i (a) (b) (g) (d) (f) (k) ∧ pK X (X1) i)) ∧ (((mIn (f) ((0 : Int)) ((1 : Int))) = true) → ((oTN X1 i) ∧ (∀ r6 : Bool, ∀ X4 : Nat → Int → Int, (∀ i j, rI (X4 i j)) → ∀ Y5 : Nat → Int → Int, (∀ i j, rL (Y5 i j)) → (r6 = lgOk X1 i (a) (b) (g) (d) ∧ lgK X1 (X4) i ∧ (r6 = true → hS9 X1 (X4) i (a) (b) ∧ oH (X4) (Y5) i ∧ (X4) i 40 = g ∧ (X4) i 55 = d)) → (((r6 = true) → ((oFl X4 i) ∧ (∀ X9 : Nat → Int → Int, (∀ i j, rI (X9 i j)) → ∀ Y10 : Nat → Int → Int, (∀ i j, rL (Y10 i j)) → (flK X4 (X9) Y5 (Y10) i ∧ lwR X4 (X9) i ((-1 : Int)) 40) → (((¬ (X9 (i) 56) = 0) → (((¬ f = 1) → ((rI ((X9 (i) 56) - (X9 (i) 61))) ∧ ((0 ≤ (X9 (i) 56) - (X9 (i) 61) ∧ 1 ≤ X9 (i) 56) ∧ (rL (mPt ((X9 (i) 56) - (X9 (i) 61)) (X9 (i) 56) (k)) → ((rI (mPt ((X9 (i) 56) - (X9 (i) 61)) (X9 (i) 56) (k))) ∧ (mPt ((X9 (i) 56) - (X9 (i) 61)) (X9 (i) 56) (k) = rOdds X i (a) (b) (g) (d) (f) (k) ∧ pK X (X9) i)))))) ∧ ((¬ (¬ f = 1)) → ((0 ≤ X9 (i) 61 ∧ 1 ≤ X9 (i) 56) ∧ (rL (mPt (X9 (i) 61) (X9 (i) 56) (k)) → ((rI (mPt (X9 (i) 61) (X9 (i) 56) (k))) ∧ (mPt (X9 (i) 61) (X9 (i) 56) (k) = rOdds X i (a) (b) (g) (d) (f) (k) ∧ pK X (X9) i))))))) ∧ ((¬ (¬ (X9 (i) 56) = 0)) → ((-1) = rOdds X i (a) (b) (g) (d) (f) (k) ∧ pK X (X9) i)))))) ∧ ((r6 = false) → ((-1) = rOdds X i (a) (b) (g) (d) (f) (k) ∧ pK X (X4) i)))))))
set_option maxHeartbeats 4000000 in
set_option maxRecDepth 100000 in
theorem w_X11_odds {l : Launch} {D : va_G} {cy : Nat → ClassId} {bs N : Nat} {sa : Nat → Nat} {kd len : Nat → Nat} {X Y : Nat → Int → Int} {R : Nat → Int → Option Nat} {i : Nat} (hM : zM N kd len R i) (a : Int) (ha : rI a) (b : Int) (hb : rI b) (g : Int) (hg : rI g) (d : Int) (hd : rI d) (f : Int) (hf : rI f) (k : Bool) (hF : F_X11_odds i X Y R a b g d f k) : Met l yX11_odds (.code yX11_odds cX11_odds 7 (some .int) :: zTB) (zRm 8 180) (zPc D cy bs sa N kd len X Y R [.ref (bs + (i)), .int (zI (a)), .int (zI (b)), .int (zI (g)), .int (zI (d)), .int (zI (f)), .int (zI (bz (k)))]) (zQi D cy bs N kd len (fun r st => st.2.2 = R ∧ (r = rOdds X i (a) (b) (g) (d) (f) (k) ∧ pK X (st.1) i))) 0 0 (zA bs) := by
  refine zstart (by decide) (Nat.le_of_ble_eq_true rfl) ?_
  intro p e s m args below meth c ls C hE hH hr hlk hnm hl hargs
  have hF := hF hH.2.2.1 hH.2.2.2
  have hS : va_S (zA bs) s.heap s.heap [] := va_S.rf
  have hl : lv_has ls 7 [(0, .ref (bs + (i))), (1, .int (zI (a))), (2, .int (zI (b))), (3, .int (zI (g))), (4, .int (zI (d))), (5, .int (zI (f))), (6, .int (zI (bz (k))))] := hl
  refine lv_aload_n C.1 C.2.1 dX11_odds_0 rfl (lv_at hl 0 rfl) ?_
  refine zd_iconst C dX11_odds_1 ?_
  refine zp11_0 C hH hS (zM_n0 hM) (zM_k0 hM) q_1287 (by decide) dX11_odds_2 (fun H locs hH hS => ?_)
  obtain ⟨X1, eX1⟩ : ∃ z, z = zU X (i) 0 (0) := ⟨_, rfl⟩
  rw [← eX1] at hH
  have hF := hF X1 eX1 hH.2.2.1
  refine lv_iload C.1 C.2.1 dX11_odds_5 (lv_at hl 5 rfl) ?_
  refine zd_iconst C dX11_odds_7 ?_
  refine zd_iconst C dX11_odds_8 ?_
  refine zgoi (zrunS (As := [.int (zI (f)), .int (zI (0)), .int (zI (1))]) (rest := []) C hE hH hS hl.1 (c_X11_in (l := l)  (f) hf (0) (by decide) (1) (by decide)) k_RX11_100 ⟨Nat.le_of_ble_eq_true rfl, Nat.le_of_ble_eq_true rfl⟩ rfl (Nat.le_of_ble_eq_true rfl) dX11_odds_9 ⟨Nat.zero_le _, Nat.zero_le _⟩) hS (fun rq Xq Yq Rq H locs hrq hq hH hS => ?_)
  obtain ⟨h91, h92⟩ := hq
  have h93 : Xq = X1 := congrArg (fun z => z.1) h92
  have h94 : Yq = Y := congrArg (fun z => z.2.1) h92
  have h95 : Rq = R := congrArg (fun z => z.2.2) h92
  rw [h93, h94, h95] at hH
  subst h91
  refine zd_ifB_eq C 27 dX11_odds_12 (by decide) (fun c2 => ?_) (fun c2 => ?_)
  · have hF := hF.1 c2
    refine zd_iconst C dX11_odds_27 ?_
    exact zd_iret C hr hlk hH hS (by decide) (⟨rfl, hF⟩) dX11_odds_28
  · have hF := hF.2 c2
    refine lv_aload_n C.1 C.2.1 dX11_odds_15 rfl (lv_at hl 0 rfl) ?_
    refine lv_iload_n C.1 C.2.1 dX11_odds_16 rfl (lv_at hl 1 rfl) ?_
    refine lv_iload_n C.1 C.2.1 dX11_odds_17 rfl (lv_at hl 2 rfl) ?_
    refine lv_iload_n C.1 C.2.1 dX11_odds_18 rfl (lv_at hl 3 rfl) ?_
    refine lv_iload C.1 C.2.1 dX11_odds_19 (lv_at hl 4 rfl) ?_
    obtain ⟨o3, hF⟩ := hF
    refine zgoi (zrunV (As := [.int (zI (a)), .int (zI (b)), .int (zI (g)), .int (zI (d))]) (rest := []) C hE hH hS hl.1 (c_X11_layLog (l := l) hM (a) ha (b) hb (g) hg (d) hd o3) k_RX11_525 ⟨Nat.le_of_ble_eq_true rfl, Nat.le_of_ble_eq_true rfl⟩ (zM_n0 hM) (zM_k0 hM) rfl rfl rfl (Nat.le_of_ble_eq_true rfl) dX11_odds_21 ⟨Nat.zero_le _, Nat.zero_le _⟩) hS (fun rq X4 Y5 Rq H locs hrq hq hH hS => ?_)
    obtain ⟨h9R, hq⟩ := hq
    dsimp only at h9R
    rw [h9R] at hH
    obtain ⟨r6, h91, hq⟩ := hq
    subst h91
    have hF := hF r6 X4 hH.2.2.1 Y5 hH.2.2.2 hq
    refine zd_ifB_ne C 29 dX11_odds_24 (by decide) (fun c7 => ?_) (fun c7 => ?_)
    · have hF := hF.1 c7
      refine lv_aload_n C.1 C.2.1 dX11_odds_29 rfl (lv_at hl 0 rfl) ?_
      refine zd_iconst C dX11_odds_30 ?_
      obtain ⟨o8, hF⟩ := hF
      refine zgov (zrunV (As := [.int (zI ((-1)))]) (rest := []) C hE hH hS hl.1 (c_X11_findLaws (l := l) hM ((-1)) (by decide) o8) k_RX11_528 ⟨Nat.le_of_ble_eq_true rfl, Nat.le_of_ble_eq_true rfl⟩ (zM_n0 hM) (zM_k0 hM) rfl rfl rfl (Nat.le_of_ble_eq_true rfl) dX11_odds_31 ⟨Nat.zero_le _, Nat.zero_le _⟩) hS (fun X9 Y10 Rq H locs hq hH hS => ?_)
      obtain ⟨h9R, hq⟩ := hq
      dsimp only at h9R
      rw [h9R] at hH
      have hF := hF X9 hH.2.2.1 Y10 hH.2.2.2 hq
      refine lv_aload_n C.1 C.2.1 dX11_odds_34 rfl (lv_at hl 0 rfl) ?_
      refine zg11_56 C hH (zM_n0 hM) (zM_k0 hM) q_1343 dX11_odds_35 ?_
      refine zd_if_ne C (hH.2.2.1 _ _) 45 dX11_odds_38 (by decide) (fun c11 => ?_) (fun c11 => ?_)
      · have hF := hF.1 c11
        refine lv_iload C.1 C.2.1 dX11_odds_45 (lv_at hl 5 rfl) ?_
        refine zd_iconst C dX11_odds_47 ?_
        refine zd_icmp_ne C hf (by decide) 59 dX11_odds_48 (by decide) (fun c12 => ?_) (fun c12 => ?_)
        · have hF := hF.1 c12
          refine lv_aload_n C.1 C.2.1 dX11_odds_59 rfl (lv_at hl 0 rfl) ?_
          refine zg11_56 C hH (zM_n0 hM) (zM_k0 hM) q_1343 dX11_odds_60 ?_
          refine lv_aload_n C.1 C.2.1 dX11_odds_63 rfl (lv_at hl 0 rfl) ?_
          refine zg11_61 C hH (zM_n0 hM) (zM_k0 hM) q_1348 dX11_odds_64 ?_
          refine zd_isub C dX11_odds_67 ?_
          obtain ⟨o13, hF⟩ := hF
          refine zd_i2l C o13 dX11_odds_68 ?_
          refine lv_aload_n C.1 C.2.1 dX11_odds_69 rfl (lv_at hl 0 rfl) ?_
          refine zg11_56 C hH (zM_n0 hM) (zM_k0 hM) q_1343 dX11_odds_70 ?_
          refine zd_i2l C (hH.2.2.1 _ _) dX11_odds_73 ?_
          refine lv_iload C.1 C.2.1 dX11_odds_74 (lv_at hl 6 rfl) ?_
          obtain ⟨o14, hF⟩ := hF
          refine zgol (zrunS (As := [.long (zL ((X9 (i) 56) - (X9 (i) 61))), .long (zL (X9 (i) 56)), .int (zI (bz (k)))]) (rest := []) C hE hH hS hl.1 (c_X11_partL (l := l)  ((X9 (i) 56) - (X9 (i) 61)) (rI_rL o13) (X9 (i) 56) (rI_rL (hH.2.2.1 _ _)) (k) o14) k_RX11_472 ⟨Nat.le_of_ble_eq_true rfl, Nat.le_of_ble_eq_true rfl⟩ rfl (Nat.le_of_ble_eq_true rfl) dX11_odds_76 ⟨Nat.zero_le _, Nat.zero_le _⟩) hS (fun rq Xq Yq Rq H locs hrq hq hH hS => ?_)
          obtain ⟨h91, h92⟩ := hq
          have h93 : Xq = X9 := congrArg (fun z => z.1) h92
          have h94 : Yq = Y10 := congrArg (fun z => z.2.1) h92
          have h95 : Rq = R := congrArg (fun z => z.2.2) h92
          rw [h93, h94, h95] at hH
          subst h91
          have hr15 := hrq
          have hF := hF hr15
          refine zd_l2i C dX11_odds_79 ?_
          obtain ⟨o16, hF⟩ := hF
          exact zd_iret C hr hlk hH hS o16 (⟨rfl, hF⟩) dX11_odds_80
        · have hF := hF.2 c12
          refine lv_aload_n C.1 C.2.1 dX11_odds_51 rfl (lv_at hl 0 rfl) ?_
          refine zg11_61 C hH (zM_n0 hM) (zM_k0 hM) q_1348 dX11_odds_52 ?_
          refine zd_i2l C (hH.2.2.1 _ _) dX11_odds_55 ?_
          refine lv_goto (tgt := 69) C.1 C.2.1 dX11_odds_56 (by decide) ?_
          refine lv_aload_n C.1 C.2.1 dX11_odds_69 rfl (lv_at hl 0 rfl) ?_
          refine zg11_56 C hH (zM_n0 hM) (zM_k0 hM) q_1343 dX11_odds_70 ?_
          refine zd_i2l C (hH.2.2.1 _ _) dX11_odds_73 ?_
          refine lv_iload C.1 C.2.1 dX11_odds_74 (lv_at hl 6 rfl) ?_
          obtain ⟨o17, hF⟩ := hF
          refine zgol (zrunS (As := [.long (zL (X9 (i) 61)), .long (zL (X9 (i) 56)), .int (zI (bz (k)))]) (rest := []) C hE hH hS hl.1 (c_X11_partL (l := l)  (X9 (i) 61) (rI_rL (hH.2.2.1 _ _)) (X9 (i) 56) (rI_rL (hH.2.2.1 _ _)) (k) o17) k_RX11_472 ⟨Nat.le_of_ble_eq_true rfl, Nat.le_of_ble_eq_true rfl⟩ rfl (Nat.le_of_ble_eq_true rfl) dX11_odds_76 ⟨Nat.zero_le _, Nat.zero_le _⟩) hS (fun rq Xq Yq Rq H locs hrq hq hH hS => ?_)
          obtain ⟨h91, h92⟩ := hq
          have h93 : Xq = X9 := congrArg (fun z => z.1) h92
          have h94 : Yq = Y10 := congrArg (fun z => z.2.1) h92
          have h95 : Rq = R := congrArg (fun z => z.2.2) h92
          rw [h93, h94, h95] at hH
          subst h91
          have hr18 := hrq
          have hF := hF hr18
          refine zd_l2i C dX11_odds_79 ?_
          obtain ⟨o19, hF⟩ := hF
          exact zd_iret C hr hlk hH hS o19 (⟨rfl, hF⟩) dX11_odds_80
      · have hF := hF.2 c11
        refine zd_iconst C dX11_odds_41 ?_
        refine lv_goto (tgt := 80) C.1 C.2.1 dX11_odds_42 (by decide) ?_
        exact zd_iret C hr hlk hH hS (by decide) (⟨rfl, hF⟩) dX11_odds_80
    · have hF := hF.2 c7
      refine zd_iconst C dX11_odds_27 ?_
      exact zd_iret C hr hlk hH hS (by decide) (⟨rfl, hF⟩) dX11_odds_28
theorem v_X11_odds {X Y : Nat → Int → Int} {R : Nat → Int → Option Nat} {i : Nat} (a : Int) (ha : rI a) (b : Int) (hb : rI b) (g : Int) (hg : rI g) (d : Int) (hd : rI d) (f : Int) (hf : rI f) (k : Bool) (hp : oTN X i ∧ oTF X i ∧ oTLg X i) : F_X11_odds i X Y R a b g d f k := by
  unfold F_X11_odds
  intro hX hY
  obtain ⟨hT, hF, hG⟩ := hp
  intro X1
  intro eX1
  have o1 : ∀ z, z ≠ i → X1 z = X z := fun z h => by rw [eX1, zU_o h]
  have z1 : X1 i 0 = 0 := by rw [eX1, zU_s]
  intro rX1
  refine ⟨?_, ?_⟩
  · intro c1
    exact ⟨by unfold rOdds; rw [c1]; rfl, ⟨fun z h _ => o1 z h, z1⟩⟩
  intro c2
  refine ⟨?_, ?_⟩
  · exact oTN_k (o1 _ (by omega)) (o1 _ (by omega)) (o1 _ (by omega)) hT
  intro r6
  intro X4
  intro rX4
  intro Y5
  intro rY5
  intro h1
  obtain ⟨e5, lk, h9⟩ := h1
  have e5 : r6 = lgOk X i a b g d := by
    rw [e5]
    unfold lgOk
    rw [em9 (o1 _ (by omega)), em9 (o1 _ (by omega)), em9 (o1 _ (by omega)), em9 (o1 _ (by omega))]
  have p3 : pK X X4 i := ⟨fun z g1 g2 => (lk.1 z g1 (by omega) (by omega)).trans (o1 z g1), (lk.2 0 (by omega)).trans z1⟩
  refine ⟨?_, ?_⟩
  · intro c3
    obtain ⟨g9, h, s40, s55⟩ := h9 c3
    have k6 : X4 (i + 6) = X (i + 6) := (lk.1 _ (by omega) (by omega) (by omega)).trans (o1 _ (by omega))
    have k7 : X4 (i + 7) = X (i + 7) := (lk.1 _ (by omega) (by omega) (by omega)).trans (o1 _ (by omega))
    have k8 : X4 (i + 8) = X (i + 8) := (lk.1 _ (by omega) (by omega) (by omega)).trans (o1 _ (by omega))
    have k9 : X4 (i + 9) = X (i + 9) := (lk.1 _ (by omega) (by omega) (by omega)).trans (o1 _ (by omega))
    have zz := hS9_Z (X0 := X) (f := g) (o1 _ (by omega)) (o1 _ (by omega)) k6 k7 g9
    have zn : ∀ s, s ≠ 55 → hL X i a b g d i s = hZ X i a b g i s := fun s hs => zU_n (by omega)
    have zo : ∀ w, w ≠ i → hL X i a b g d w = X w := fun w hw => (zU_o hw).trans (hZ_o hw)
    obtain ⟨eF, eS⟩ := lwF_k (X := hL X i a b g d) (X1 := X4) (i := i) (by rw [zo _ (by omega), k6]) (by rw [zo _ (by omega), k7]) (by rw [zo _ (by omega), k8]) (by rw [zo _ (by omega), k9]) (fun s hs => by
      by_cases q : s = 55
      · rw [q, s55]
        exact zU_s.symm
      · rw [zn s q]
        obtain ⟨t, -, -⟩ := zz
        rcases hs with hs | hs | hs
        · have e : s = 24 ∨ s = 25 ∨ s = 26 ∨ s = 27 := by omega
          rcases e with e | e | e | e
          · rw [e]; exact t.2.2.1
          · rw [e]; exact t.2.2.2.1
          · rw [e]; exact t.2.2.2.2.1
          · rw [e]; exact t.2.2.2.2.2.1
        · rw [hs, s40]
          exact hZ_s.2.2.2.2.2.2.2.symm
        · exact absurd hs q)
    have cc := e5.symm.trans c3
    unfold lgOk at cc
    simp only [Bool.and_eq_true] at cc
    have cl := mIs_t.mp cc.1
    have cf := mIs_t.mp cc.2.1
    have h52 := hT.1 2 (by decide) (by decide)
    have h53 := hT.1 3 (by decide) (by decide)
    have of : oFl X4 i := by
      refine ⟨⟨h.1.2.1, h.1.2.2.1, h.1.2.2.2, h.1.1.2.2.1, h.1.1.2.2.2⟩, ⟨?_, ?_⟩, ?_, ?_⟩
      · show 0 ≤ X4 i 40 ∧ X4 i 40 ≤ 1
        rw [s40]
        exact ⟨by omega, by omega⟩
      · rw [s40]
        exact (oTF_k (X := X) ((lk.1 _ (by omega) (by omega) (by omega)).trans (o1 _ (by omega))) k8 hF) g cf.1 (by rw [lk.1 _ (by omega) (by omega) (by omega), o1 _ (by omega)]; exact cf.2)
      · show 0 ≤ X4 i 55 ∧ X4 i 55 ≤ 1
        rw [s55]
        exact ⟨by omega, by omega⟩
      · rw [s55]
        exact (oTLg_k (X := X) ((lk.1 _ (by omega) (by omega) (by omega)).trans (o1 _ (by omega))) k9 hG) d cl.1 (by rw [lk.1 _ (by omega) (by omega) (by omega), o1 _ (by omega)]; exact cl.2)
    refine ⟨?_, ?_⟩
    · exact of
    intro X9
    intro rX9
    intro Y10
    intro rY10
    intro h2
    obtain ⟨fk, lr⟩ := h2
    have p9 : pK X X9 i := tr9 p3 (fun z g1 g2 => fk.1 z g1 (by omega) (by omega) (by omega) (by omega) (by omega)) (fk.2.1 0 (by omega))
    obtain ⟨w1, w2, w3, w4, w5, w6, w7⟩ := lr
    rw [eF] at w1 w2 w3 w4 w5 w6
    simp only [eS] at w7
    have b1 := cN_le (lwF (hL X i a b g d) i) 40
    have b2 := smN_b (f := lwF (hL X i a b g d) i) (g := fun e => e / 20) 40 (fun k hk => by show k / 20 ≤ 1; omega)
    have b3 := smN_cN (f := lwF (hL X i a b g d) i) (g := fun e => e / 20) 40 (fun k hk => by show k / 20 ≤ 1; omega)
    rw [w1, w6]
    have u : ∀ y, y = odOf (hL X i a b g d) i f k → y = rOdds X i a b g d f k ∧ pK X X9 i := fun y hy => by
      refine ⟨?_, p9⟩
      unfold rOdds
      rw [← e5, c3, c2]
      exact hy
    refine ⟨?_, ?_⟩
    · intro c4
      have m0 := mPt_b (u := k) (a := smN (lwF (hL X i a b g d) i) (fun e => e / 20) 40) (b := cN (lwF (hL X i a b g d) i) 40) b2.1 (by omega)
      have m1 := mPt_b (u := k) (a := cN (lwF (hL X i a b g d) i) 40 - smN (lwF (hL X i a b g d) i) (fun e => e / 20) 40) (b := cN (lwF (hL X i a b g d) i) 40) (by omega) (by omega)
      refine ⟨?_, ?_⟩
      · intro c5
        refine ⟨?_, ?_⟩
        · first | omega | exact ⟨by omega, by omega⟩ | decide | assumption | exact ⟨by omega, by omega, by omega⟩ | exact ⟨by decide, by decide⟩
        refine ⟨?_, ?_⟩
        · first | omega | exact ⟨by omega, by omega⟩ | decide | assumption | exact ⟨by omega, by omega, by omega⟩ | exact ⟨by decide, by decide⟩
        intro _
        refine ⟨?_, ?_⟩
        · first | omega | exact ⟨by omega, by omega⟩ | decide | assumption | exact ⟨by omega, by omega, by omega⟩ | exact ⟨by decide, by decide⟩
        refine u _ ?_
        unfold odOf
        rw [if_neg c4, if_neg c5]
      intro c6
      refine ⟨?_, ?_⟩
      · first | omega | exact ⟨by omega, by omega⟩ | decide | assumption | exact ⟨by omega, by omega, by omega⟩ | exact ⟨by decide, by decide⟩
      intro _
      refine ⟨?_, ?_⟩
      · first | omega | exact ⟨by omega, by omega⟩ | decide | assumption | exact ⟨by omega, by omega, by omega⟩ | exact ⟨by decide, by decide⟩
      refine u _ ?_
      unfold odOf
      rw [if_neg c4, if_pos (Classical.not_not.mp c6)]
    intro c7
    refine u _ ?_
    unfold odOf
    rw [if_pos (Classical.not_not.mp c7)]
  intro c8
  exact ⟨by unfold rOdds; rw [← e5, c8, Bool.and_false]; rfl, p3⟩
theorem c_X11_odds {l : Launch} {D : va_G} {cy : Nat → ClassId} {bs N : Nat} {sa : Nat → Nat} {kd len : Nat → Nat} {X Y : Nat → Int → Int} {R : Nat → Int → Option Nat} {i : Nat} (hM : zM N kd len R i) (a : Int) (ha : rI a) (b : Int) (hb : rI b) (g : Int) (hg : rI g) (d : Int) (hd : rI d) (f : Int) (hf : rI f) (k : Bool) (hp : oTN X i ∧ oTF X i ∧ oTLg X i) : Met l yX11_odds (.code yX11_odds cX11_odds 7 (some .int) :: zTB) (zRm 8 180) (zPc D cy bs sa N kd len X Y R [.ref (bs + (i)), .int (zI (a)), .int (zI (b)), .int (zI (g)), .int (zI (d)), .int (zI (f)), .int (zI (bz (k)))]) (zQi D cy bs N kd len (fun r st => st.2.2 = R ∧ (r = rOdds X i (a) (b) (g) (d) (f) (k) ∧ pK X (st.1) i))) 0 0 (zA bs) := w_X11_odds hM a ha b hb g hg d hd f hf k (v_X11_odds a ha b hb g hg d hd f hf k hp)
