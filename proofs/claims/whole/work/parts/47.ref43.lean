/-! WHICH LAWS FIT -/
def alN (f : Nat → Bool) : Nat → Bool
  | 0 => true
  | n + 1 => alN f n && f n
theorem alN_f {f : Nat → Bool} {q : Nat} (h : f q = false) : ∀ n, q < n → alN f n = false
  | 0, h2 => absurd h2 (Nat.not_lt_zero _)
  | n + 1, h2 => by
    unfold alN
    by_cases e : q = n
    · rw [← e, h, Bool.and_false]
    · rw [alN_f h n (by omega), Bool.false_and]
theorem alN_cong {f g : Nat → Bool} : ∀ {n : Nat}, (∀ k, k < n → f k = g k) → alN f n = alN g n
  | 0, _ => rfl
  | n + 1, h => by
    unfold alN
    rw [alN_cong (fun k hk => h k (by omega)), h n (by omega)]
def mSo (X : Nat → Int → Int) (i : Nat) : Bool := alN (fun k => decide (X (i + 23) (mLf X i k 0) = mLf X i k 1)) (mLn X i).toNat
/-- a log, as looked at -/
def oLq (X : Nat → Int → Int) (i : Nat) : Prop := oLg X i ∧ oLgr X i (X i 55)
def lvl (v : Int) : Int := if v = -1 then 15 else v
def oRt (X : Nat → Int → Int) (i : Nat) : Prop := ∀ k : Nat, k ≤ 40 → -1 ≤ X (i + 23) k ∧ X (i + 23) k ≤ 14
def mxN (g : Nat → Int) : Nat → Int
  | 0 => 0
  | n + 1 => max (mxN g n) (g n)
def akW (G : Nat → Int) : Nat → Int × Int
  | 0 => (-1, 1000000)
  | n + 1 => (if G n < (akW G n).2 then (n : Int) else (akW G n).1, min (akW G n).2 (G n))
def mAsk (X : Nat → Int → Int) (i : Nat) : Int := if X i 56 ≤ 0 then -1 else (akW (fun y => mxN (fun v => X (i + 24) (16 * y + v)) 16) 41).1
/-- the laws below q that fit: the k-th; bits; sums; how often -/
def akN (f : Nat → Bool) (b : Int) : Nat → Int
  | 0 => -2
  | q + 1 => if f q && decide (cN f q = b) then (q : Int) else akN f b q
def orN (f : Nat → Bool) (g : Nat → Nat) : Nat → Int
  | 0 => 0
  | q + 1 => if f q then zOr (orN f g q) (zShl 1 (g q)) else orN f g q
def smN (f : Nat → Bool) (g : Nat → Nat) : Nat → Int
  | 0 => 0
  | q + 1 => if f q then smN f g q + g q else smN f g q
theorem smN_b {f : Nat → Bool} {g : Nat → Nat} : ∀ q, (∀ k, k < q → g k ≤ 1) → 0 ≤ smN f g q ∧ smN f g q ≤ q
  | 0, _ => ⟨Int.le_refl _, Int.le_refl _⟩
  | q + 1, h => by
    have ih := smN_b (f := f) q (fun k hk => h k (by omega))
    have := h q (by omega)
    unfold smN
    split
    · exact ⟨by omega, by omega⟩
    · exact ⟨by omega, by omega⟩
def lwF (X : Nat → Int → Int) (i : Nat) (law : Nat) : Bool := decide (0 < law % 10) && alN (fun k => decide (lwT X i law (mLf X i k 0).toNat = mLf X i k 1)) (mLn X i).toNat
def scF (X : Nat → Int → Int) (i y v : Nat) (law : Nat) : Bool := lwF X i law && decide (lvl (lwT X i law y) = v)
/-- the laws below q are gone through -/
def lwR (X X1 : Nat → Int → Int) (i : Nat) (b : Int) (q : Nat) : Prop := X1 i 56 = cN (lwF X i) q ∧ X1 i 57 = akN (lwF X i) b q ∧ X1 i 58 = orN (lwF X i) (fun e => e / 20) q ∧ X1 i 59 = orN (lwF X i) (fun e => e / 10 % 2) q ∧ X1 i 60 = orN (lwF X i) (fun e => e % 10) q ∧ X1 i 61 = smN (lwF X i) (fun e => e / 20) q ∧ ∀ y v : Nat, y ≤ 40 → v < 16 → X1 (i + 24) (16 * y + v) = cN (scF X i y v) q
def flK (X X1 Y Y1 : Nat → Int → Int) (i : Nat) : Prop := (∀ a, a ≠ i → a ≠ i + 13 → a ≠ i + 16 → a ≠ i + 17 → a ≠ i + 23 → a ≠ i + 24 → X1 a = X a) ∧ (∀ s, (s < 28 ∨ (30 < s ∧ s < 35) ∨ (37 < s ∧ s < 41) ∨ (47 < s ∧ s < 56) ∨ 61 < s) → X1 i s = X i s) ∧ ∀ a, a ≠ i + 14 → a ≠ i + 15 → a ≠ i + 18 → Y1 a = Y a
theorem lwT_k {X X1 : Nat → Int → Int} {i : Nat} (o6 : X1 (i + 6) = X (i + 6)) (o7 : X1 (i + 7) = X (i + 7)) (o8 : X1 (i + 8) = X (i + 8)) (n : ∀ s, (24 ≤ s ∧ s ≤ 27) ∨ s = 40 → X1 i s = X i s) (law : Int) : lwT X1 i law = lwT X i law := by
  have o : ∀ (W : Nat → Int → Int) z, z ≠ i → lwZ W i law z = W z := fun W z h => by
    unfold lwZ
    rw [zU_o h, zU_o h, zU_o h]
  have nn : ∀ (W : Nat → Int → Int) s, s ≠ 28 → s ≠ 29 → s ≠ 30 → lwZ W i law i s = W i s := fun W s h1 h2 h3 => by
    unfold lwZ
    rw [zU_n (by omega), zU_n (by omega), zU_n (by omega)]
  have s30 : ∀ W : Nat → Int → Int, lwZ W i law i 30 = law.tmod 10 := fun W => by
    unfold lwZ
    rw [zU_s]
  have s29 : ∀ W : Nat → Int → Int, lwZ W i law i 29 = (law.tdiv 10).tmod 2 := fun W => by
    unfold lwZ
    rw [zU_n (by omega), zU_s]
  have t : tS (lwZ X i law) (lwZ X1 i law) i := by
    refine ⟨?_, ?_, ?_, ?_, ?_, ?_, by rw [s30, s30]⟩
    · rw [o _ _ (by omega), o _ _ (by omega), o6]
    · rw [o _ _ (by omega), o _ _ (by omega), o7]
    · rw [nn _ _ (by decide) (by decide) (by decide), nn _ _ (by decide) (by decide) (by decide), n _ (by decide)]
    · rw [nn _ _ (by decide) (by decide) (by decide), nn _ _ (by decide) (by decide) (by decide), n _ (by decide)]
    · rw [nn _ _ (by decide) (by decide) (by decide), nn _ _ (by decide) (by decide) (by decide), n _ (by decide)]
    · rw [nn _ _ (by decide) (by decide) (by decide), nn _ _ (by decide) (by decide) (by decide), n _ (by decide)]
  funext k
  unfold lwT rCx fW fV mDd mDn
  rw [rP_t t, rW_t t, rG_t t, sdf_t t, t.2.2.2.2.2.1, s29, s29, o8, n 40 (by decide)]
abbrev cX11_isSo : ByteArray := prog_13_method_108_code
def yX11_isSo : MethodName := ⟨RX11, "isSo", "()Z"⟩
theorem dX11_isSo_0 : decode cX11_isSo 0 = .ok (.iconst 0, 1) := by decide +kernel
theorem dX11_isSo_1 : decode cX11_isSo 1 = .ok (.istore_n 1, 1) := by decide +kernel
theorem dX11_isSo_2 : decode cX11_isSo 2 = .ok (.iload_n 1, 1) := by decide +kernel
theorem dX11_isSo_3 : decode cX11_isSo 3 = .ok (.aload_n 0, 1) := by decide +kernel
theorem dX11_isSo_4 : decode cX11_isSo 4 = .ok (.invokevirtual 491, 3) := by decide +kernel
theorem dX11_isSo_7 : decode cX11_isSo 7 = .ok (.if_icmp .ge 31, 3) := by decide +kernel
theorem dX11_isSo_10 : decode cX11_isSo 10 = .ok (.aload_n 0, 1) := by decide +kernel
theorem dX11_isSo_11 : decode cX11_isSo 11 = .ok (.getfield 78, 3) := by decide +kernel
theorem dX11_isSo_14 : decode cX11_isSo 14 = .ok (.aload_n 0, 1) := by decide +kernel
theorem dX11_isSo_15 : decode cX11_isSo 15 = .ok (.iload_n 1, 1) := by decide +kernel
theorem dX11_isSo_16 : decode cX11_isSo 16 = .ok (.iconst 0, 1) := by decide +kernel
theorem dX11_isSo_17 : decode cX11_isSo 17 = .ok (.invokevirtual 494, 3) := by decide +kernel
theorem dX11_isSo_20 : decode cX11_isSo 20 = .ok (.iaload, 1) := by decide +kernel
theorem dX11_isSo_21 : decode cX11_isSo 21 = .ok (.aload_n 0, 1) := by decide +kernel
theorem dX11_isSo_22 : decode cX11_isSo 22 = .ok (.iload_n 1, 1) := by decide +kernel
theorem dX11_isSo_23 : decode cX11_isSo 23 = .ok (.iconst 1, 1) := by decide +kernel
theorem dX11_isSo_24 : decode cX11_isSo 24 = .ok (.invokevirtual 494, 3) := by decide +kernel
theorem dX11_isSo_27 : decode cX11_isSo 27 = .ok (.if_icmp .eq 5, 3) := by decide +kernel
theorem dX11_isSo_30 : decode cX11_isSo 30 = .ok (.iconst 0, 1) := by decide +kernel
theorem dX11_isSo_31 : decode cX11_isSo 31 = .ok (.ireturn, 1) := by decide +kernel
theorem dX11_isSo_32 : decode cX11_isSo 32 = .ok (.iinc 1 1, 3) := by decide +kernel
theorem dX11_isSo_35 : decode cX11_isSo 35 = .ok (.goto (-33), 3) := by decide +kernel
theorem dX11_isSo_38 : decode cX11_isSo 38 = .ok (.iconst 1, 1) := by decide +kernel
theorem dX11_isSo_39 : decode cX11_isSo 39 = .ok (.ireturn, 1) := by decide +kernel
def F_X11_isSo (i : Nat) (X Y : Nat → Int → Int) (R : Nat → Int → Option Nat)  : Prop := (∀ i j, rI (X i j)) → (∀ i j, rL (Y i j)) → (∃ q : Nat, (0 : Int) = q ∧ q ≤ (mLn X i).toNat ∧ alN (fun k => decide (X (i + 23) (mLf X i k 0) = mLf X i k 1)) q = true) ∧ (∀ (k : Int), rI k → (∃ q : Nat, k = q ∧ q ≤ (mLn X i).toNat ∧ alN (fun k => decide (X (i + 23) (mLf X i k 0) = mLf X i k 1)) q = true) → ((oLg X i) ∧ (rI (mLn X i) → ((((mLn X i) ≤ k) → (1 = bz (mSo X i))) ∧ ((¬ ((mLn X i) ≤ k)) → ((oLg X i ∧ (0 ≤ k ∧ k ≤ 7) ∧ 0 ≤ (0 : Int) ∧ (0 : Int) ≤ 1) ∧ (rI (mLf X i (k) ((0 : Int))) → ((0 ≤ (mLf X i (k) ((0 : Int))) ∧ (mLf X i (k) ((0 : Int))) < 41) ∧ ((oLg X i ∧ (0 ≤ k ∧ k ≤ 7) ∧ 0 ≤ (1 : Int) ∧ (1 : Int) ≤ 1) ∧ (rI (mLf X i (k) ((1 : Int))) → ((((X (i + 23) (mLf X i (k) ((0 : Int)))) = (mLf X i (k) ((1 : Int)))) → ((rI (k + 1)) ∧ (∃ q : Nat, k + 1 = q ∧ q ≤ (mLn X i).toNat ∧ alN (fun k => decide (X (i + 23) (mLf X i k 0) = mLf X i k 1)) q = true) ∧ (((mLn X i - (k + 1)).toNat) < ((mLn X i - (k)).toNat)))) ∧ ((¬ ((X (i + 23) (mLf X i (k) ((0 : Int)))) = (mLf X i (k) ((1 : Int))))) → (0 = bz (mSo X i))))))))))))))
set_option maxHeartbeats 4000000 in
set_option maxRecDepth 100000 in
theorem w_X11_isSo {l : Launch} {D : va_G} {cy : Nat → ClassId} {bs N : Nat} {sa : Nat → Nat} {kd len : Nat → Nat} {X Y : Nat → Int → Int} {R : Nat → Int → Option Nat} {i : Nat} (hM : zM N kd len R i)  (hF : F_X11_isSo i X Y R ) : Met l yX11_isSo (.code yX11_isSo cX11_isSo 2 (some .boolean) :: zTB) (zRm 1 22) (zPc D cy bs sa N kd len X Y R [.ref (bs + (i))]) (zQi D cy bs N kd len (fun r st => r = bz (mSo X i) ∧ st = (X, Y, R))) 0 0 (zA bs) := by
  refine zstart (by decide) (Nat.le_of_ble_eq_true rfl) ?_
  intro p e s m args below meth c ls C hE hH hr hlk hnm hl hargs
  have hF := hF hH.2.2.1 hH.2.2.2
  have hS : va_S (zA bs) s.heap s.heap [] := va_S.rf
  have hl : lv_has ls 2 [(0, .ref (bs + (i)))] := hl
  refine zd_iconst C dX11_isSo_0 ?_
  refine lv_istore_n (lv' := [(1, .int (zI (0))), (0, .ref (bs + (i)))]) C.1 C.2.1 dX11_isSo_1 rfl hl (by decide) rfl (fun ls hl => ?_)
  obtain ⟨hI1, hF⟩ := hF
  have L1 : ∀ (fu : Nat) (k : Int), rI k → (∃ q : Nat, k = q ∧ q ≤ (mLn X i).toNat ∧ alN (fun k => decide (X (i + 23) (mLf X i k 0) = mLf X i k 1)) q = true) → ((mLn X i - (k)).toNat) < fu → ∀ (H : Heap) (locs : List Loc) (ls : Array Slot), zH D cy bs N kd len X Y R H → va_S (zA bs) s.heap H locs → lv_has ls 2 [(1, .int (zI (k))), (0, .ref (bs + (i)))] → W p l e (zRm 1 22) s m args below meth c H locs 0 0 (MQ below (zQi D cy bs N kd len (fun r st => r = bz (mSo X i) ∧ st = (X, Y, R))) args s 0 0 (zA bs)) (F0 m 2 ls []) := by
    intro fu
    induction fu with
    | zero => intro k _ _ hmu; exact absurd hmu (Nat.not_lt_zero _)
    | succ fu ih1 =>
      intro k hk hI hmu1 H locs ls hH hS hl
      have hF := hF k hk  hI
      refine lv_iload_n C.1 C.2.1 dX11_isSo_2 rfl (lv_at hl 0 rfl) ?_
      refine lv_aload_n C.1 C.2.1 dX11_isSo_3 rfl (lv_at hl 1 rfl) ?_
      obtain ⟨o2, hF⟩ := hF
      refine zgoi (zrunV (As := []) (rest := [.int (zI (k))]) C hE hH hS hl.1 (c_X11_facts (l := l) hM  o2) k_RX11_491 ⟨Nat.le_of_ble_eq_true rfl, Nat.le_of_ble_eq_true rfl⟩ (zM_n0 hM) (zM_k0 hM) rfl rfl rfl (Nat.le_of_ble_eq_true rfl) dX11_isSo_4 ⟨Nat.zero_le _, Nat.zero_le _⟩) hS (fun rq Xq Yq Rq H locs hrq hq hH hS => ?_)
      obtain ⟨h91, h92⟩ := hq
      have h93 : Xq = X := congrArg (fun z => z.1) h92
      have h94 : Yq = Y := congrArg (fun z => z.2.1) h92
      have h95 : Rq = R := congrArg (fun z => z.2.2) h92
      rw [h93, h94, h95] at hH
      subst h91
      have hr3 := hrq
      have hF := hF hr3
      refine zd_icmp_ge C hk hr3 38 dX11_isSo_7 (by decide) (fun c4 => ?_) (fun c4 => ?_)
      · have hF := hF.1 c4
        refine zd_iconst C dX11_isSo_38 ?_
        exact zd_zret C hr hlk hH hS (by decide) (⟨hF, rfl⟩) dX11_isSo_39
      · have hF := hF.2 c4
        refine lv_aload_n C.1 C.2.1 dX11_isSo_10 rfl (lv_at hl 1 rfl) ?_
        refine zg11_62 C hH (zM_n0 hM) (zM_k0 hM) q_1349 (zM_r23 hM) dX11_isSo_11 ?_
        refine lv_aload_n C.1 C.2.1 dX11_isSo_14 rfl (lv_at hl 1 rfl) ?_
        refine lv_iload_n C.1 C.2.1 dX11_isSo_15 rfl (lv_at hl 0 rfl) ?_
        refine zd_iconst C dX11_isSo_16 ?_
        obtain ⟨o5, hF⟩ := hF
        refine zgoi (zrunV (As := [.int (zI (k)), .int (zI (0))]) (rest := [.ref (bs + (i + 23))]) C hE hH hS hl.1 (c_X11_factOf (l := l) hM (k) hk (0) (by decide) o5) k_RX11_494 ⟨Nat.le_of_ble_eq_true rfl, Nat.le_of_ble_eq_true rfl⟩ (zM_n0 hM) (zM_k0 hM) rfl rfl rfl (Nat.le_of_ble_eq_true rfl) dX11_isSo_17 ⟨Nat.zero_le _, Nat.zero_le _⟩) hS (fun rq Xq Yq Rq H locs hrq hq hH hS => ?_)
        obtain ⟨h91, h92⟩ := hq
        have h93 : Xq = X := congrArg (fun z => z.1) h92
        have h94 : Yq = Y := congrArg (fun z => z.2.1) h92
        have h95 : Rq = R := congrArg (fun z => z.2.2) h92
        rw [h93, h94, h95] at hH
        subst h91
        have hr6 := hrq
        have hF := hF hr6
        obtain ⟨o7, hF⟩ := hF
        refine zd_iald C hH (zM_n23 hM) (zM_k23 hM) o7.1 (by rw [zM_l23 hM]; exact o7.2) (by rw [zM_l23 hM]; decide) dX11_isSo_20 ?_
        refine lv_aload_n C.1 C.2.1 dX11_isSo_21 rfl (lv_at hl 1 rfl) ?_
        refine lv_iload_n C.1 C.2.1 dX11_isSo_22 rfl (lv_at hl 0 rfl) ?_
        refine zd_iconst C dX11_isSo_23 ?_
        obtain ⟨o8, hF⟩ := hF
        refine zgoi (zrunV (As := [.int (zI (k)), .int (zI (1))]) (rest := [.int (zI (X (i + 23) (mLf X i (k) ((0 : Int)))))]) C hE hH hS hl.1 (c_X11_factOf (l := l) hM (k) hk (1) (by decide) o8) k_RX11_494 ⟨Nat.le_of_ble_eq_true rfl, Nat.le_of_ble_eq_true rfl⟩ (zM_n0 hM) (zM_k0 hM) rfl rfl rfl (Nat.le_of_ble_eq_true rfl) dX11_isSo_24 ⟨Nat.zero_le _, Nat.zero_le _⟩) hS (fun rq Xq Yq Rq H locs hrq hq hH hS => ?_)
        obtain ⟨h91, h92⟩ := hq
        have h93 : Xq = X := congrArg (fun z => z.1) h92
        have h94 : Yq = Y := congrArg (fun z => z.2.1) h92
        have h95 : Rq = R := congrArg (fun z => z.2.2) h92
        rw [h93, h94, h95] at hH
        subst h91
        have hr9 := hrq
        have hF := hF hr9
        refine zd_icmp_eq C (hH.2.2.1 _ _) hr9 32 dX11_isSo_27 (by decide) (fun c10 => ?_) (fun c10 => ?_)
        · have hF := hF.1 c10
          refine zd_iinc (k := 0) (lv' := [(1, .int (zI (k + 1))), (0, .ref (bs + (i)))]) C hl rfl dX11_isSo_32 (by decide) rfl (fun ls hl => ?_)
          refine lv_goto (tgt := 2) C.1 C.2.1 dX11_isSo_35 (by decide) ?_
          obtain ⟨o11, hF⟩ := hF
          exact ih1 (k + 1) o11 hF.1 (Nat.lt_of_lt_of_le hF.2 (Nat.le_of_lt_succ hmu1)) _ _ _ hH hS (lv_sub hl [0, 1] rfl)
        · have hF := hF.2 c10
          refine zd_iconst C dX11_isSo_30 ?_
          exact zd_zret C hr hlk hH hS (by decide) (⟨hF, rfl⟩) dX11_isSo_31
  exact L1 (((mLn X i - ((0 : Int))).toNat) + 1) ((0 : Int)) (by decide) hI1 (Nat.lt_succ_self _) _ _ _ hH hS (lv_sub hl [0, 1] rfl)
theorem v_X11_isSo {X Y : Nat → Int → Int} {R : Nat → Int → Option Nat} {i : Nat}  (hp : oLq X i) : F_X11_isSo i X Y R  := by
  unfold F_X11_isSo
  intro hX hY
  obtain ⟨hl, hg⟩ := hp
  have hg1 : 0 ≤ mLn X i ∧ mLn X i ≤ 8 := hg.1
  have hg2 : ∀ j, 0 ≤ j → j < mLn X i → (0 ≤ mLf X i j 0 ∧ mLf X i j 0 ≤ 40) ∧ (0 ≤ mLf X i j 1 ∧ mLf X i j 1 ≤ 14) := hg.2
  refine ⟨?_, ?_⟩
  · exact ⟨0, rfl, Nat.zero_le _, rfl⟩
  intro k
  intro _
  intro h1
  obtain ⟨q, hq, q2, hal⟩ := h1
  subst hq
  refine ⟨?_, ?_⟩
  · exact hl
  intro _
  refine ⟨?_, ?_⟩
  · intro c1
    unfold mSo
    rw [show (mLn X i).toNat = q by omega, hal]
    rfl
  intro c2
  have b2 := hg2 q (by omega) (by omega)
  refine ⟨?_, ?_⟩
  · exact ⟨hl, ⟨by omega, by omega⟩, by decide, by decide⟩
  intro _
  refine ⟨?_, ?_⟩
  · first | omega | exact ⟨by omega, by omega⟩ | decide | assumption | exact ⟨by omega, by omega, by omega⟩ | exact ⟨by decide, by decide⟩
  refine ⟨?_, ?_⟩
  · exact ⟨hl, ⟨by omega, by omega⟩, by decide, by decide⟩
  intro _
  refine ⟨?_, ?_⟩
  · intro c3
    refine ⟨?_, ?_⟩
    · first | omega | exact ⟨by omega, by omega⟩ | decide | assumption | exact ⟨by omega, by omega, by omega⟩ | exact ⟨by decide, by decide⟩
    refine ⟨?_, ?_⟩
    · refine ⟨q + 1, by omega, by omega, ?_⟩
      show (alN _ q && _) = true
      rw [hal, Bool.true_and]
      exact decide_eq_true c3
    first | omega | exact ⟨by omega, by omega⟩ | decide | assumption | exact ⟨by omega, by omega, by omega⟩ | exact ⟨by decide, by decide⟩
  intro c4
  have e : mSo X i = false := alN_f (q := q) (decide_eq_false c4) _ (by omega)
  rw [e]
  rfl
theorem c_X11_isSo {l : Launch} {D : va_G} {cy : Nat → ClassId} {bs N : Nat} {sa : Nat → Nat} {kd len : Nat → Nat} {X Y : Nat → Int → Int} {R : Nat → Int → Option Nat} {i : Nat} (hM : zM N kd len R i)  (hp : oLq X i) : Met l yX11_isSo (.code yX11_isSo cX11_isSo 2 (some .boolean) :: zTB) (zRm 1 22) (zPc D cy bs sa N kd len X Y R [.ref (bs + (i))]) (zQi D cy bs N kd len (fun r st => r = bz (mSo X i) ∧ st = (X, Y, R))) 0 0 (zA bs) := w_X11_isSo hM  (v_X11_isSo  hp)
abbrev cX11_noteFit : ByteArray := prog_13_method_109_code
def yX11_noteFit : MethodName := ⟨RX11, "noteFit", "(II)V"⟩
theorem dX11_noteFit_0 : decode cX11_noteFit 0 = .ok (.aload_n 0, 1) := by decide +kernel
theorem dX11_noteFit_1 : decode cX11_noteFit 1 = .ok (.aload_n 0, 1) := by decide +kernel
theorem dX11_noteFit_2 : decode cX11_noteFit 2 = .ok (.getfield 497, 3) := by decide +kernel
theorem dX11_noteFit_5 : decode cX11_noteFit 5 = .ok (.iload_n 2, 1) := by decide +kernel
theorem dX11_noteFit_6 : decode cX11_noteFit 6 = .ok (.if_icmp .ne 7, 3) := by decide +kernel
theorem dX11_noteFit_9 : decode cX11_noteFit 9 = .ok (.iload_n 1, 1) := by decide +kernel
theorem dX11_noteFit_10 : decode cX11_noteFit 10 = .ok (.goto 7, 3) := by decide +kernel
theorem dX11_noteFit_13 : decode cX11_noteFit 13 = .ok (.aload_n 0, 1) := by decide +kernel
theorem dX11_noteFit_14 : decode cX11_noteFit 14 = .ok (.getfield 500, 3) := by decide +kernel
theorem dX11_noteFit_17 : decode cX11_noteFit 17 = .ok (.putfield 500, 3) := by decide +kernel
theorem dX11_noteFit_20 : decode cX11_noteFit 20 = .ok (.aload_n 0, 1) := by decide +kernel
theorem dX11_noteFit_21 : decode cX11_noteFit 21 = .ok (.dup, 1) := by decide +kernel
theorem dX11_noteFit_22 : decode cX11_noteFit 22 = .ok (.getfield 497, 3) := by decide +kernel
theorem dX11_noteFit_25 : decode cX11_noteFit 25 = .ok (.iconst 1, 1) := by decide +kernel
theorem dX11_noteFit_26 : decode cX11_noteFit 26 = .ok (.iadd, 1) := by decide +kernel
theorem dX11_noteFit_27 : decode cX11_noteFit 27 = .ok (.putfield 497, 3) := by decide +kernel
theorem dX11_noteFit_30 : decode cX11_noteFit 30 = .ok (.aload_n 0, 1) := by decide +kernel
theorem dX11_noteFit_31 : decode cX11_noteFit 31 = .ok (.dup, 1) := by decide +kernel
theorem dX11_noteFit_32 : decode cX11_noteFit 32 = .ok (.getfield 503, 3) := by decide +kernel
theorem dX11_noteFit_35 : decode cX11_noteFit 35 = .ok (.iconst 1, 1) := by decide +kernel
theorem dX11_noteFit_36 : decode cX11_noteFit 36 = .ok (.iload_n 1, 1) := by decide +kernel
theorem dX11_noteFit_37 : decode cX11_noteFit 37 = .ok (.bipush 20, 2) := by decide +kernel
theorem dX11_noteFit_39 : decode cX11_noteFit 39 = .ok (.idiv, 1) := by decide +kernel
theorem dX11_noteFit_40 : decode cX11_noteFit 40 = .ok (.ishl, 1) := by decide +kernel
theorem dX11_noteFit_41 : decode cX11_noteFit 41 = .ok (.ior, 1) := by decide +kernel
theorem dX11_noteFit_42 : decode cX11_noteFit 42 = .ok (.putfield 503, 3) := by decide +kernel
theorem dX11_noteFit_45 : decode cX11_noteFit 45 = .ok (.aload_n 0, 1) := by decide +kernel
theorem dX11_noteFit_46 : decode cX11_noteFit 46 = .ok (.dup, 1) := by decide +kernel
theorem dX11_noteFit_47 : decode cX11_noteFit 47 = .ok (.getfield 506, 3) := by decide +kernel
theorem dX11_noteFit_50 : decode cX11_noteFit 50 = .ok (.iconst 1, 1) := by decide +kernel
theorem dX11_noteFit_51 : decode cX11_noteFit 51 = .ok (.iload_n 1, 1) := by decide +kernel
theorem dX11_noteFit_52 : decode cX11_noteFit 52 = .ok (.bipush 10, 2) := by decide +kernel
theorem dX11_noteFit_54 : decode cX11_noteFit 54 = .ok (.idiv, 1) := by decide +kernel
theorem dX11_noteFit_55 : decode cX11_noteFit 55 = .ok (.iconst 2, 1) := by decide +kernel
theorem dX11_noteFit_56 : decode cX11_noteFit 56 = .ok (.irem, 1) := by decide +kernel
theorem dX11_noteFit_57 : decode cX11_noteFit 57 = .ok (.ishl, 1) := by decide +kernel
theorem dX11_noteFit_58 : decode cX11_noteFit 58 = .ok (.ior, 1) := by decide +kernel
theorem dX11_noteFit_59 : decode cX11_noteFit 59 = .ok (.putfield 506, 3) := by decide +kernel
theorem dX11_noteFit_62 : decode cX11_noteFit 62 = .ok (.aload_n 0, 1) := by decide +kernel
theorem dX11_noteFit_63 : decode cX11_noteFit 63 = .ok (.dup, 1) := by decide +kernel
theorem dX11_noteFit_64 : decode cX11_noteFit 64 = .ok (.getfield 509, 3) := by decide +kernel
theorem dX11_noteFit_67 : decode cX11_noteFit 67 = .ok (.iconst 1, 1) := by decide +kernel
theorem dX11_noteFit_68 : decode cX11_noteFit 68 = .ok (.iload_n 1, 1) := by decide +kernel
theorem dX11_noteFit_69 : decode cX11_noteFit 69 = .ok (.bipush 10, 2) := by decide +kernel
theorem dX11_noteFit_71 : decode cX11_noteFit 71 = .ok (.irem, 1) := by decide +kernel
theorem dX11_noteFit_72 : decode cX11_noteFit 72 = .ok (.ishl, 1) := by decide +kernel
theorem dX11_noteFit_73 : decode cX11_noteFit 73 = .ok (.ior, 1) := by decide +kernel
theorem dX11_noteFit_74 : decode cX11_noteFit 74 = .ok (.putfield 509, 3) := by decide +kernel
theorem dX11_noteFit_77 : decode cX11_noteFit 77 = .ok (.aload_n 0, 1) := by decide +kernel
theorem dX11_noteFit_78 : decode cX11_noteFit 78 = .ok (.dup, 1) := by decide +kernel
theorem dX11_noteFit_79 : decode cX11_noteFit 79 = .ok (.getfield 512, 3) := by decide +kernel
theorem dX11_noteFit_82 : decode cX11_noteFit 82 = .ok (.iload_n 1, 1) := by decide +kernel
theorem dX11_noteFit_83 : decode cX11_noteFit 83 = .ok (.bipush 20, 2) := by decide +kernel
theorem dX11_noteFit_85 : decode cX11_noteFit 85 = .ok (.idiv, 1) := by decide +kernel
theorem dX11_noteFit_86 : decode cX11_noteFit 86 = .ok (.iadd, 1) := by decide +kernel
theorem dX11_noteFit_87 : decode cX11_noteFit 87 = .ok (.putfield 512, 3) := by decide +kernel
theorem dX11_noteFit_90 : decode cX11_noteFit 90 = .ok (.iconst 0, 1) := by decide +kernel
theorem dX11_noteFit_91 : decode cX11_noteFit 91 = .ok (.istore_n 3, 1) := by decide +kernel
theorem dX11_noteFit_92 : decode cX11_noteFit 92 = .ok (.iload_n 3, 1) := by decide +kernel
theorem dX11_noteFit_93 : decode cX11_noteFit 93 = .ok (.bipush 40, 2) := by decide +kernel
theorem dX11_noteFit_95 : decode cX11_noteFit 95 = .ok (.if_icmp .gt 44, 3) := by decide +kernel
theorem dX11_noteFit_98 : decode cX11_noteFit 98 = .ok (.aload_n 0, 1) := by decide +kernel
theorem dX11_noteFit_99 : decode cX11_noteFit 99 = .ok (.getfield 81, 3) := by decide +kernel
theorem dX11_noteFit_102 : decode cX11_noteFit 102 = .ok (.bipush 16, 2) := by decide +kernel
theorem dX11_noteFit_104 : decode cX11_noteFit 104 = .ok (.iload_n 3, 1) := by decide +kernel
theorem dX11_noteFit_105 : decode cX11_noteFit 105 = .ok (.imul, 1) := by decide +kernel
theorem dX11_noteFit_106 : decode cX11_noteFit 106 = .ok (.aload_n 0, 1) := by decide +kernel
theorem dX11_noteFit_107 : decode cX11_noteFit 107 = .ok (.getfield 78, 3) := by decide +kernel
theorem dX11_noteFit_110 : decode cX11_noteFit 110 = .ok (.iload_n 3, 1) := by decide +kernel
theorem dX11_noteFit_111 : decode cX11_noteFit 111 = .ok (.iaload, 1) := by decide +kernel
theorem dX11_noteFit_112 : decode cX11_noteFit 112 = .ok (.iconst (-1), 1) := by decide +kernel
theorem dX11_noteFit_113 : decode cX11_noteFit 113 = .ok (.if_icmp .ne 8, 3) := by decide +kernel
theorem dX11_noteFit_116 : decode cX11_noteFit 116 = .ok (.bipush 15, 2) := by decide +kernel
theorem dX11_noteFit_118 : decode cX11_noteFit 118 = .ok (.goto 9, 3) := by decide +kernel
theorem dX11_noteFit_121 : decode cX11_noteFit 121 = .ok (.aload_n 0, 1) := by decide +kernel
theorem dX11_noteFit_122 : decode cX11_noteFit 122 = .ok (.getfield 78, 3) := by decide +kernel
theorem dX11_noteFit_125 : decode cX11_noteFit 125 = .ok (.iload_n 3, 1) := by decide +kernel
theorem dX11_noteFit_126 : decode cX11_noteFit 126 = .ok (.iaload, 1) := by decide +kernel
theorem dX11_noteFit_127 : decode cX11_noteFit 127 = .ok (.iadd, 1) := by decide +kernel
theorem dX11_noteFit_128 : decode cX11_noteFit 128 = .ok (.dup2, 1) := by decide +kernel
theorem dX11_noteFit_129 : decode cX11_noteFit 129 = .ok (.iaload, 1) := by decide +kernel
theorem dX11_noteFit_130 : decode cX11_noteFit 130 = .ok (.iconst 1, 1) := by decide +kernel
theorem dX11_noteFit_131 : decode cX11_noteFit 131 = .ok (.iadd, 1) := by decide +kernel
theorem dX11_noteFit_132 : decode cX11_noteFit 132 = .ok (.iastore, 1) := by decide +kernel
theorem dX11_noteFit_133 : decode cX11_noteFit 133 = .ok (.iinc 3 1, 3) := by decide +kernel
theorem dX11_noteFit_136 : decode cX11_noteFit 136 = .ok (.goto (-44), 3) := by decide +kernel
theorem dX11_noteFit_139 : decode cX11_noteFit 139 = .ok (.return_, 1) := by decide +kernel
theorem q_1343 : Cond.fieldLink RX11 497 RX11 "found" "I" ∈ zTB := zmem 1343 (by decide +kernel) rfl
theorem q_1345 : Cond.fieldLink RX11 503 RX11 "rules" "I" ∈ zTB := zmem 1345 (by decide +kernel) rfl
theorem q_1346 : Cond.fieldLink RX11 506 RX11 "ties" "I" ∈ zTB := zmem 1346 (by decide +kernel) rfl
theorem q_1347 : Cond.fieldLink RX11 509 RX11 "steps" "I" ∈ zTB := zmem 1347 (by decide +kernel) rfl
theorem q_1348 : Cond.fieldLink RX11 512 RX11 "ruleOnes" "I" ∈ zTB := zmem 1348 (by decide +kernel) rfl
theorem q_1350 : Cond.fieldLink RX11 81 RX11 "seen" "[I" ∈ zTB := zmem 1350 (by decide +kernel) rfl
theorem q_1344 : Cond.fieldLink RX11 500 RX11 "asked" "I" ∈ zTB := zmem 1344 (by decide +kernel) rfl
def F_X11_noteFit (i : Nat) (X Y : Nat → Int → Int) (R : Nat → Int → Option Nat) (a : Int) (b : Int) : Prop := (∀ i j, rI (X i j)) → (∀ i j, rL (Y i j)) → (∀ (X1 : Nat → Int → Int), (∀ i j, rI (X1 i j)) → (X1 = zU X i 57 (if X i 56 = b then a else X i 57)) → ((rI ((X1 (i) 56) + 1)) ∧ (∀ X3 : Nat → Int → Int, X3 = zU X1 (i) 56 ((X1 (i) 56) + 1) → (∀ i j, rI (X3 i j)) → (∀ X4 : Nat → Int → Int, X4 = zU X3 (i) 58 (zOr (X3 (i) 58) (zShl (1) ((a).tdiv (20)))) → (∀ i j, rI (X4 i j)) → (∀ X5 : Nat → Int → Int, X5 = zU X4 (i) 59 (zOr (X4 (i) 59) (zShl (1) (((a).tdiv (10)).tmod (2)))) → (∀ i j, rI (X5 i j)) → (∀ X6 : Nat → Int → Int, X6 = zU X5 (i) 60 (zOr (X5 (i) 60) (zShl (1) ((a).tmod (10)))) → (∀ i j, rI (X6 i j)) → ((rI ((X6 (i) 61) + ((a).tdiv (20)))) ∧ (∀ X8 : Nat → Int → Int, X8 = zU X6 (i) 61 ((X6 (i) 61) + ((a).tdiv (20))) → (∀ i j, rI (X8 i j)) → ((∃ q : Nat, (0 : Int) = q ∧ q ≤ 41 ∧ (∀ z, z ≠ i + 24 → X8 z = X8 z) ∧ ∀ yy vv : Nat, yy ≤ 40 → vv < 16 → X8 (i + 24) (16 * yy + vv) = X8 (i + 24) (16 * yy + vv) + if yy < q ∧ lvl (X8 (i + 23) yy) = vv then 1 else 0) ∧ (∀ (k : Int) (X10 : Nat → Int → Int), rI k → (∀ i j, rI (X10 i j)) → (∃ q : Nat, k = q ∧ q ≤ 41 ∧ (∀ z, z ≠ i + 24 → X10 z = X8 z) ∧ ∀ yy vv : Nat, yy ≤ 40 → vv < 16 → X10 (i + 24) (16 * yy + vv) = X8 (i + 24) (16 * yy + vv) + if yy < q ∧ lvl (X8 (i + 23) yy) = vv then 1 else 0) → (((40 < k) → ((∀ z, z ≠ i → z ≠ i + 24 → (X10) z = X z) ∧ (∀ z, (z < 56 ∨ 61 < z) → (X10) i z = X i z) ∧ ((X10) i 56 = X i 56 + 1 ∧ (X10) i 57 = (if X i 56 = b then a else X i 57) ∧ (X10) i 58 = zOr (X i 58) (zShl 1 ((a).tdiv 20)) ∧ (X10) i 59 = zOr (X i 59) (zShl 1 (((a).tdiv 10).tmod 2)) ∧ (X10) i 60 = zOr (X i 60) (zShl 1 ((a).tmod 10)) ∧ (X10) i 61 = X i 61 + (a).tdiv 20) ∧ ∀ yy vv : Nat, yy ≤ 40 → vv < 16 → (X10) (i + 24) (16 * yy + vv) = X (i + 24) (16 * yy + vv) + if lvl (X (i + 23) yy) = vv then 1 else 0)) ∧ ((¬ (40 < k)) → ((∀ (X12 : Nat → Int → Int), (∀ i j, rI (X12 i j)) → ((∀ z, z ≠ i + 24 → X12 z = X10 z) ∧ (∀ y : Int, y ≠ 16 * k + lvl (X10 (i + 23) k) → X12 (i + 24) y = X10 (i + 24) y) ∧ X12 (i + 24) (16 * k + lvl (X10 (i + 23) k)) = X10 (i + 24) (16 * k + lvl (X10 (i + 23) k)) + 1) → ((rI (k + 1)) ∧ (∃ q : Nat, k + 1 = q ∧ q ≤ 41 ∧ (∀ z, z ≠ i + 24 → X12 z = X8 z) ∧ ∀ yy vv : Nat, yy ≤ 40 → vv < 16 → X12 (i + 24) (16 * yy + vv) = X8 (i + 24) (16 * yy + vv) + if yy < q ∧ lvl (X8 (i + 23) yy) = vv then 1 else 0) ∧ (((41 - (k + 1)).toNat) < ((41 - (k)).toNat)))) ∧ ((0 ≤ k ∧ k < 41) ∧ (((¬ (X10 (i + 23) (k)) = (-1)) → ((0 ≤ k ∧ k < 41) ∧ ((0 ≤ ((16 * k) + (X10 (i + 23) (k))) ∧ ((16 * k) + (X10 (i + 23) (k))) < 656) ∧ ((0 ≤ ((16 * k) + (X10 (i + 23) (k))) ∧ ((16 * k) + (X10 (i + 23) (k))) < 656) ∧ ((rI ((X10 (i + 24) ((16 * k) + (X10 (i + 23) (k)))) + 1)) ∧ (∀ X20 : Nat → Int → Int, X20 = zU X10 (i + 24) ((16 * k) + (X10 (i + 23) (k))) ((X10 (i + 24) ((16 * k) + (X10 (i + 23) (k)))) + 1) → (∀ i j, rI (X20 i j)) → ((∀ z, z ≠ i + 24 → X20 z = X10 z) ∧ (∀ y : Int, y ≠ 16 * k + lvl (X10 (i + 23) k) → X20 (i + 24) y = X10 (i + 24) y) ∧ X20 (i + 24) (16 * k + lvl (X10 (i + 23) k)) = X10 (i + 24) (16 * k + lvl (X10 (i + 23) k)) + 1))))))) ∧ ((¬ (¬ (X10 (i + 23) (k)) = (-1))) → ((0 ≤ ((16 * k) + 15) ∧ ((16 * k) + 15) < 656) ∧ ((0 ≤ ((16 * k) + 15) ∧ ((16 * k) + 15) < 656) ∧ ((rI ((X10 (i + 24) ((16 * k) + 15)) + 1)) ∧ (∀ X24 : Nat → Int → Int, X24 = zU X10 (i + 24) ((16 * k) + 15) ((X10 (i + 24) ((16 * k) + 15)) + 1) → (∀ i j, rI (X24 i j)) → ((∀ z, z ≠ i + 24 → X24 z = X10 z) ∧ (∀ y : Int, y ≠ 16 * k + lvl (X10 (i + 23) k) → X24 (i + 24) y = X10 (i + 24) y) ∧ X24 (i + 24) (16 * k + lvl (X10 (i + 23) k)) = X10 (i + 24) (16 * k + lvl (X10 (i + 23) k)) + 1))))))))))))))))))))) ∧ (((¬ (X (i) 56) = b) → (∀ X26 : Nat → Int → Int, X26 = zU X (i) 57 (X (i) 57) → (∀ i j, rI (X26 i j)) → (X26 = zU X i 57 (if X i 56 = b then a else X i 57)))) ∧ ((¬ (¬ (X (i) 56) = b)) → (∀ X27 : Nat → Int → Int, X27 = zU X (i) 57 (a) → (∀ i j, rI (X27 i j)) → (X27 = zU X i 57 (if X i 56 = b then a else X i 57)))))
set_option maxHeartbeats 4000000 in
set_option maxRecDepth 100000 in
theorem w_X11_noteFit {l : Launch} {D : va_G} {cy : Nat → ClassId} {bs N : Nat} {sa : Nat → Nat} {kd len : Nat → Nat} {X Y : Nat → Int → Int} {R : Nat → Int → Option Nat} {i : Nat} (hM : zM N kd len R i) (a : Int) (ha : rI a) (b : Int) (hb : rI b) (hF : F_X11_noteFit i X Y R a b) : Met l yX11_noteFit (.code yX11_noteFit cX11_noteFit 4 none :: zTB) (zRm 0 0) (zPc D cy bs sa N kd len X Y R [.ref (bs + (i)), .int (zI (a)), .int (zI (b))]) (zQv D cy bs N kd len (fun st => st.2.1 = Y ∧ st.2.2 = R ∧ ((∀ z, z ≠ i → z ≠ i + 24 → (st.1) z = X z) ∧ (∀ z, (z < 56 ∨ 61 < z) → (st.1) i z = X i z) ∧ ((st.1) i 56 = X i 56 + 1 ∧ (st.1) i 57 = (if X i 56 = b then a else X i 57) ∧ (st.1) i 58 = zOr (X i 58) (zShl 1 ((a).tdiv 20)) ∧ (st.1) i 59 = zOr (X i 59) (zShl 1 (((a).tdiv 10).tmod 2)) ∧ (st.1) i 60 = zOr (X i 60) (zShl 1 ((a).tmod 10)) ∧ (st.1) i 61 = X i 61 + (a).tdiv 20) ∧ ∀ yy vv : Nat, yy ≤ 40 → vv < 16 → (st.1) (i + 24) (16 * yy + vv) = X (i + 24) (16 * yy + vv) + if lvl (X (i + 23) yy) = vv then 1 else 0))) 0 0 (zA bs) := by
  refine zstart (by decide) (Nat.le_of_ble_eq_true rfl) ?_
  intro p e s m args below meth c ls C hE hH hr hlk hnm hl hargs
  have hF := hF hH.2.2.1 hH.2.2.2
  have hS : va_S (zA bs) s.heap s.heap [] := va_S.rf
  have hl : lv_has ls 4 [(0, .ref (bs + (i))), (1, .int (zI (a))), (2, .int (zI (b)))] := hl
  have J1 : ∀ (X1 : Nat → Int → Int), (X1 = zU X i 57 (if X i 56 = b then a else X i 57)) → ∀ (H : Heap) (locs : List Loc) (ls : Array Slot), zH D cy bs N kd len X1 Y R H → va_S (zA bs) s.heap H locs → lv_has ls 4 [(0, .ref (bs + (i))), (1, .int (zI (a))), (2, .int (zI (b)))] → W p l e (zRm 0 0) s m args below meth c H locs 0 0 (MQ below (zQv D cy bs N kd len (fun st => st.2.1 = Y ∧ st.2.2 = R ∧ ((∀ z, z ≠ i → z ≠ i + 24 → (st.1) z = X z) ∧ (∀ z, (z < 56 ∨ 61 < z) → (st.1) i z = X i z) ∧ ((st.1) i 56 = X i 56 + 1 ∧ (st.1) i 57 = (if X i 56 = b then a else X i 57) ∧ (st.1) i 58 = zOr (X i 58) (zShl 1 ((a).tdiv 20)) ∧ (st.1) i 59 = zOr (X i 59) (zShl 1 (((a).tdiv 10).tmod 2)) ∧ (st.1) i 60 = zOr (X i 60) (zShl 1 ((a).tmod 10)) ∧ (st.1) i 61 = X i 61 + (a).tdiv 20) ∧ ∀ yy vv : Nat, yy ≤ 40 → vv < 16 → (st.1) (i + 24) (16 * yy + vv) = X (i + 24) (16 * yy + vv) + if lvl (X (i + 23) yy) = vv then 1 else 0))) args s 0 0 (zA bs)) (F0 m 20 ls []) := by
    intro X1  hI H locs ls hH hS hl
    have hF := hF.1 X1  hH.2.2.1 hI
    refine lv_aload_n C.1 C.2.1 dX11_noteFit_20 rfl (lv_at hl 0 rfl) ?_
    refine lv_dup C.1 C.2.1 dX11_noteFit_21 rfl ?_
    refine zg11_56 C hH (zM_n0 hM) (zM_k0 hM) q_1343 dX11_noteFit_22 ?_
    refine zd_iconst C dX11_noteFit_25 ?_
    refine zd_iadd C dX11_noteFit_26 ?_
    obtain ⟨o2, hF⟩ := hF
    refine zp11_56 C hH hS (zM_n0 hM) (zM_k0 hM) q_1343 o2 dX11_noteFit_27 (fun H locs hH hS => ?_)
    obtain ⟨X3, eX3⟩ : ∃ z, z = zU X1 (i) 56 ((X1 (i) 56) + 1) := ⟨_, rfl⟩
    rw [← eX3] at hH
    have hF := hF X3 eX3 hH.2.2.1
    refine lv_aload_n C.1 C.2.1 dX11_noteFit_30 rfl (lv_at hl 0 rfl) ?_
    refine lv_dup C.1 C.2.1 dX11_noteFit_31 rfl ?_
    refine zg11_58 C hH (zM_n0 hM) (zM_k0 hM) q_1345 dX11_noteFit_32 ?_
    refine zd_iconst C dX11_noteFit_35 ?_
    refine lv_iload_n C.1 C.2.1 dX11_noteFit_36 rfl (lv_at hl 1 rfl) ?_
    refine zd_bipush C (by decide) dX11_noteFit_37 ?_
    refine zd_idiv C ha (by decide) (by decide) (by decide) dX11_noteFit_39 ?_
    refine zd_ishl C dX11_noteFit_40 ?_
    refine zd_ior C dX11_noteFit_41 ?_
    refine zp11_58 C hH hS (zM_n0 hM) (zM_k0 hM) q_1345 (zI_rg _) dX11_noteFit_42 (fun H locs hH hS => ?_)
    obtain ⟨X4, eX4⟩ : ∃ z, z = zU X3 (i) 58 (zOr (X3 (i) 58) (zShl (1) ((a).tdiv (20)))) := ⟨_, rfl⟩
    rw [← eX4] at hH
    have hF := hF X4 eX4 hH.2.2.1
    refine lv_aload_n C.1 C.2.1 dX11_noteFit_45 rfl (lv_at hl 0 rfl) ?_
    refine lv_dup C.1 C.2.1 dX11_noteFit_46 rfl ?_
    refine zg11_59 C hH (zM_n0 hM) (zM_k0 hM) q_1346 dX11_noteFit_47 ?_
    refine zd_iconst C dX11_noteFit_50 ?_
    refine lv_iload_n C.1 C.2.1 dX11_noteFit_51 rfl (lv_at hl 1 rfl) ?_
    refine zd_bipush C (by decide) dX11_noteFit_52 ?_
    refine zd_idiv C ha (by decide) (by decide) (by decide) dX11_noteFit_54 ?_
    refine zd_iconst C dX11_noteFit_55 ?_
    refine zd_irem C (tdiv_rI ha (show (10 : Int) ≠ -1 from (by decide))) (by decide) (by decide) (by decide) dX11_noteFit_56 ?_
    refine zd_ishl C dX11_noteFit_57 ?_
    refine zd_ior C dX11_noteFit_58 ?_
    refine zp11_59 C hH hS (zM_n0 hM) (zM_k0 hM) q_1346 (zI_rg _) dX11_noteFit_59 (fun H locs hH hS => ?_)
    obtain ⟨X5, eX5⟩ : ∃ z, z = zU X4 (i) 59 (zOr (X4 (i) 59) (zShl (1) (((a).tdiv (10)).tmod (2)))) := ⟨_, rfl⟩
    rw [← eX5] at hH
    have hF := hF X5 eX5 hH.2.2.1
    refine lv_aload_n C.1 C.2.1 dX11_noteFit_62 rfl (lv_at hl 0 rfl) ?_
    refine lv_dup C.1 C.2.1 dX11_noteFit_63 rfl ?_
    refine zg11_60 C hH (zM_n0 hM) (zM_k0 hM) q_1347 dX11_noteFit_64 ?_
    refine zd_iconst C dX11_noteFit_67 ?_
    refine lv_iload_n C.1 C.2.1 dX11_noteFit_68 rfl (lv_at hl 1 rfl) ?_
    refine zd_bipush C (by decide) dX11_noteFit_69 ?_
    refine zd_irem C ha (by decide) (by decide) (by decide) dX11_noteFit_71 ?_
    refine zd_ishl C dX11_noteFit_72 ?_
    refine zd_ior C dX11_noteFit_73 ?_
    refine zp11_60 C hH hS (zM_n0 hM) (zM_k0 hM) q_1347 (zI_rg _) dX11_noteFit_74 (fun H locs hH hS => ?_)
    obtain ⟨X6, eX6⟩ : ∃ z, z = zU X5 (i) 60 (zOr (X5 (i) 60) (zShl (1) ((a).tmod (10)))) := ⟨_, rfl⟩
    rw [← eX6] at hH
    have hF := hF X6 eX6 hH.2.2.1
    refine lv_aload_n C.1 C.2.1 dX11_noteFit_77 rfl (lv_at hl 0 rfl) ?_
    refine lv_dup C.1 C.2.1 dX11_noteFit_78 rfl ?_
    refine zg11_61 C hH (zM_n0 hM) (zM_k0 hM) q_1348 dX11_noteFit_79 ?_
    refine lv_iload_n C.1 C.2.1 dX11_noteFit_82 rfl (lv_at hl 1 rfl) ?_
    refine zd_bipush C (by decide) dX11_noteFit_83 ?_
    refine zd_idiv C ha (by decide) (by decide) (by decide) dX11_noteFit_85 ?_
    refine zd_iadd C dX11_noteFit_86 ?_
    obtain ⟨o7, hF⟩ := hF
    refine zp11_61 C hH hS (zM_n0 hM) (zM_k0 hM) q_1348 o7 dX11_noteFit_87 (fun H locs hH hS => ?_)
    obtain ⟨X8, eX8⟩ : ∃ z, z = zU X6 (i) 61 ((X6 (i) 61) + ((a).tdiv (20))) := ⟨_, rfl⟩
    rw [← eX8] at hH
    have hF := hF X8 eX8 hH.2.2.1
    refine zd_iconst C dX11_noteFit_90 ?_
    refine lv_istore_n (lv' := [(3, .int (zI (0))), (0, .ref (bs + (i))), (1, .int (zI (a))), (2, .int (zI (b)))]) C.1 C.2.1 dX11_noteFit_91 rfl hl (by decide) rfl (fun ls hl => ?_)
    obtain ⟨hI9, hF⟩ := hF
    have L9 : ∀ (fu : Nat) (k : Int) (X10 : Nat → Int → Int), rI k → (∃ q : Nat, k = q ∧ q ≤ 41 ∧ (∀ z, z ≠ i + 24 → X10 z = X8 z) ∧ ∀ yy vv : Nat, yy ≤ 40 → vv < 16 → X10 (i + 24) (16 * yy + vv) = X8 (i + 24) (16 * yy + vv) + if yy < q ∧ lvl (X8 (i + 23) yy) = vv then 1 else 0) → ((41 - (k)).toNat) < fu → ∀ (H : Heap) (locs : List Loc) (ls : Array Slot), zH D cy bs N kd len X10 Y R H → va_S (zA bs) s.heap H locs → lv_has ls 4 [(3, .int (zI (k))), (0, .ref (bs + (i)))] → W p l e (zRm 0 0) s m args below meth c H locs 0 0 (MQ below (zQv D cy bs N kd len (fun st => st.2.1 = Y ∧ st.2.2 = R ∧ ((∀ z, z ≠ i → z ≠ i + 24 → (st.1) z = X z) ∧ (∀ z, (z < 56 ∨ 61 < z) → (st.1) i z = X i z) ∧ ((st.1) i 56 = X i 56 + 1 ∧ (st.1) i 57 = (if X i 56 = b then a else X i 57) ∧ (st.1) i 58 = zOr (X i 58) (zShl 1 ((a).tdiv 20)) ∧ (st.1) i 59 = zOr (X i 59) (zShl 1 (((a).tdiv 10).tmod 2)) ∧ (st.1) i 60 = zOr (X i 60) (zShl 1 ((a).tmod 10)) ∧ (st.1) i 61 = X i 61 + (a).tdiv 20) ∧ ∀ yy vv : Nat, yy ≤ 40 → vv < 16 → (st.1) (i + 24) (16 * yy + vv) = X (i + 24) (16 * yy + vv) + if lvl (X (i + 23) yy) = vv then 1 else 0))) args s 0 0 (zA bs)) (F0 m 92 ls []) := by
      intro fu
      induction fu with
      | zero => intro k X10 _ _ hmu; exact absurd hmu (Nat.not_lt_zero _)
      | succ fu ih9 =>
        intro k X10 hk hI hmu9 H locs ls hH hS hl
        have hF := hF k X10 hk hH.2.2.1 hI
        refine lv_iload_n C.1 C.2.1 dX11_noteFit_92 rfl (lv_at hl 0 rfl) ?_
        refine zd_bipush C (by decide) dX11_noteFit_93 ?_
        refine zd_icmp_gt C hk (by decide) 139 dX11_noteFit_95 (by decide) (fun c11 => ?_) (fun c11 => ?_)
        · have hF := hF.1 c11
          exact zd_vret C hr hlk hH hS (⟨rfl, rfl, hF⟩) dX11_noteFit_139
        · have hF := hF.2 c11
          have J2 : ∀ (X12 : Nat → Int → Int), ((∀ z, z ≠ i + 24 → X12 z = X10 z) ∧ (∀ y : Int, y ≠ 16 * k + lvl (X10 (i + 23) k) → X12 (i + 24) y = X10 (i + 24) y) ∧ X12 (i + 24) (16 * k + lvl (X10 (i + 23) k)) = X10 (i + 24) (16 * k + lvl (X10 (i + 23) k)) + 1) → ∀ (H : Heap) (locs : List Loc) (ls : Array Slot), zH D cy bs N kd len X12 Y R H → va_S (zA bs) s.heap H locs → lv_has ls 4 [(3, .int (zI (k))), (0, .ref (bs + (i)))] → W p l e (zRm 0 0) s m args below meth c H locs 0 0 (MQ below (zQv D cy bs N kd len (fun st => st.2.1 = Y ∧ st.2.2 = R ∧ ((∀ z, z ≠ i → z ≠ i + 24 → (st.1) z = X z) ∧ (∀ z, (z < 56 ∨ 61 < z) → (st.1) i z = X i z) ∧ ((st.1) i 56 = X i 56 + 1 ∧ (st.1) i 57 = (if X i 56 = b then a else X i 57) ∧ (st.1) i 58 = zOr (X i 58) (zShl 1 ((a).tdiv 20)) ∧ (st.1) i 59 = zOr (X i 59) (zShl 1 (((a).tdiv 10).tmod 2)) ∧ (st.1) i 60 = zOr (X i 60) (zShl 1 ((a).tmod 10)) ∧ (st.1) i 61 = X i 61 + (a).tdiv 20) ∧ ∀ yy vv : Nat, yy ≤ 40 → vv < 16 → (st.1) (i + 24) (16 * yy + vv) = X (i + 24) (16 * yy + vv) + if lvl (X (i + 23) yy) = vv then 1 else 0))) args s 0 0 (zA bs)) (F0 m 133 ls []) := by
            intro X12  hI H locs ls hH hS hl
            have hF := hF.1 X12  hH.2.2.1 hI
            refine zd_iinc (k := 0) (lv' := [(3, .int (zI (k + 1))), (0, .ref (bs + (i)))]) C hl rfl dX11_noteFit_133 (by decide) rfl (fun ls hl => ?_)
            refine lv_goto (tgt := 92) C.1 C.2.1 dX11_noteFit_136 (by decide) ?_
            obtain ⟨o13, hF⟩ := hF
            exact ih9 (k + 1) X12 o13 hF.1 (Nat.lt_of_lt_of_le hF.2 (Nat.le_of_lt_succ hmu9)) _ _ _ hH hS (lv_sub hl [0, 1] rfl)
          have hF := hF.2
          refine lv_aload_n C.1 C.2.1 dX11_noteFit_98 rfl (lv_at hl 1 rfl) ?_
          refine zg11_63 C hH (zM_n0 hM) (zM_k0 hM) q_1350 (zM_r24 hM) dX11_noteFit_99 ?_
          refine zd_bipush C (by decide) dX11_noteFit_102 ?_
          refine lv_iload_n C.1 C.2.1 dX11_noteFit_104 rfl (lv_at hl 0 rfl) ?_
          refine zd_imul C dX11_noteFit_105 ?_
          refine lv_aload_n C.1 C.2.1 dX11_noteFit_106 rfl (lv_at hl 1 rfl) ?_
          refine zg11_62 C hH (zM_n0 hM) (zM_k0 hM) q_1349 (zM_r23 hM) dX11_noteFit_107 ?_
          refine lv_iload_n C.1 C.2.1 dX11_noteFit_110 rfl (lv_at hl 0 rfl) ?_
          obtain ⟨o14, hF⟩ := hF
          refine zd_iald C hH (zM_n23 hM) (zM_k23 hM) o14.1 (by rw [zM_l23 hM]; exact o14.2) (by rw [zM_l23 hM]; decide) dX11_noteFit_111 ?_
          refine zd_iconst C dX11_noteFit_112 ?_
          refine zd_icmp_ne C (hH.2.2.1 _ _) (by decide) 121 dX11_noteFit_113 (by decide) (fun c15 => ?_) (fun c15 => ?_)
          · have hF := hF.1 c15
            refine lv_aload_n C.1 C.2.1 dX11_noteFit_121 rfl (lv_at hl 1 rfl) ?_
            refine zg11_62 C hH (zM_n0 hM) (zM_k0 hM) q_1349 (zM_r23 hM) dX11_noteFit_122 ?_
            refine lv_iload_n C.1 C.2.1 dX11_noteFit_125 rfl (lv_at hl 0 rfl) ?_
            obtain ⟨o16, hF⟩ := hF
            refine zd_iald C hH (zM_n23 hM) (zM_k23 hM) o16.1 (by rw [zM_l23 hM]; exact o16.2) (by rw [zM_l23 hM]; decide) dX11_noteFit_126 ?_
            refine zd_iadd C dX11_noteFit_127 ?_
            refine lv_dup2_11 C.1 C.2.1 dX11_noteFit_128 rfl rfl ?_
            obtain ⟨o17, hF⟩ := hF
            refine zd_iald C hH (zM_n24 hM) (zM_k24 hM) o17.1 (by rw [zM_l24 hM]; exact o17.2) (by rw [zM_l24 hM]; decide) dX11_noteFit_129 ?_
            refine zd_iconst C dX11_noteFit_130 ?_
            refine zd_iadd C dX11_noteFit_131 ?_
            obtain ⟨o18, hF⟩ := hF
            obtain ⟨o19, hF⟩ := hF
            refine zd_iast C hH hS (zM_n24 hM) (zM_k24 hM) o18.1 (by rw [zM_l24 hM]; exact o18.2) (by rw [zM_l24 hM]; decide) o19 dX11_noteFit_132 (fun H locs hH hS => ?_)
            obtain ⟨X20, eX20⟩ : ∃ z, z = zU X10 (i + 24) ((16 * k) + (X10 (i + 23) (k))) ((X10 (i + 24) ((16 * k) + (X10 (i + 23) (k)))) + 1) := ⟨_, rfl⟩
            rw [← eX20] at hH
            have hF := hF X20 eX20 hH.2.2.1
            exact J2 X20  hF _ _ _ hH hS (lv_sub hl [0, 1] rfl)
          · have hF := hF.2 c15
            refine zd_bipush C (by decide) dX11_noteFit_116 ?_
            refine lv_goto (tgt := 127) C.1 C.2.1 dX11_noteFit_118 (by decide) ?_
            refine zd_iadd C dX11_noteFit_127 ?_
            refine lv_dup2_11 C.1 C.2.1 dX11_noteFit_128 rfl rfl ?_
            obtain ⟨o21, hF⟩ := hF
            refine zd_iald C hH (zM_n24 hM) (zM_k24 hM) o21.1 (by rw [zM_l24 hM]; exact o21.2) (by rw [zM_l24 hM]; decide) dX11_noteFit_129 ?_
            refine zd_iconst C dX11_noteFit_130 ?_
            refine zd_iadd C dX11_noteFit_131 ?_
            obtain ⟨o22, hF⟩ := hF
            obtain ⟨o23, hF⟩ := hF
            refine zd_iast C hH hS (zM_n24 hM) (zM_k24 hM) o22.1 (by rw [zM_l24 hM]; exact o22.2) (by rw [zM_l24 hM]; decide) o23 dX11_noteFit_132 (fun H locs hH hS => ?_)
            obtain ⟨X24, eX24⟩ : ∃ z, z = zU X10 (i + 24) ((16 * k) + 15) ((X10 (i + 24) ((16 * k) + 15)) + 1) := ⟨_, rfl⟩
            rw [← eX24] at hH
            have hF := hF X24 eX24 hH.2.2.1
            exact J2 X24  hF _ _ _ hH hS (lv_sub hl [0, 1] rfl)
    exact L9 (((41 - ((0 : Int))).toNat) + 1) ((0 : Int)) X8 (by decide) hI9 (Nat.lt_succ_self _) _ _ _ hH hS (lv_sub hl [0, 1] rfl)
  have hF := hF.2
  refine lv_aload_n C.1 C.2.1 dX11_noteFit_0 rfl (lv_at hl 0 rfl) ?_
  refine lv_aload_n C.1 C.2.1 dX11_noteFit_1 rfl (lv_at hl 0 rfl) ?_
  refine zg11_56 C hH (zM_n0 hM) (zM_k0 hM) q_1343 dX11_noteFit_2 ?_
  refine lv_iload_n C.1 C.2.1 dX11_noteFit_5 rfl (lv_at hl 2 rfl) ?_
  refine zd_icmp_ne C (hH.2.2.1 _ _) hb 13 dX11_noteFit_6 (by decide) (fun c25 => ?_) (fun c25 => ?_)
  · have hF := hF.1 c25
    refine lv_aload_n C.1 C.2.1 dX11_noteFit_13 rfl (lv_at hl 0 rfl) ?_
    refine zg11_57 C hH (zM_n0 hM) (zM_k0 hM) q_1344 dX11_noteFit_14 ?_
    refine zp11_57 C hH hS (zM_n0 hM) (zM_k0 hM) q_1344 (hH.2.2.1 _ _) dX11_noteFit_17 (fun H locs hH hS => ?_)
    obtain ⟨X26, eX26⟩ : ∃ z, z = zU X (i) 57 (X (i) 57) := ⟨_, rfl⟩
    rw [← eX26] at hH
    have hF := hF X26 eX26 hH.2.2.1
    exact J1 X26  hF _ _ _ hH hS (lv_sub hl [0, 1, 2] rfl)
  · have hF := hF.2 c25
    refine lv_iload_n C.1 C.2.1 dX11_noteFit_9 rfl (lv_at hl 1 rfl) ?_
    refine lv_goto (tgt := 17) C.1 C.2.1 dX11_noteFit_10 (by decide) ?_
    refine zp11_57 C hH hS (zM_n0 hM) (zM_k0 hM) q_1344 ha dX11_noteFit_17 (fun H locs hH hS => ?_)
    obtain ⟨X27, eX27⟩ : ∃ z, z = zU X (i) 57 (a) := ⟨_, rfl⟩
    rw [← eX27] at hH
    have hF := hF X27 eX27 hH.2.2.1
    exact J1 X27  hF _ _ _ hH hS (lv_sub hl [0, 1, 2] rfl)
theorem v_X11_noteFit {X Y : Nat → Int → Int} {R : Nat → Int → Option Nat} {i : Nat} (a : Int) (ha : rI a) (b : Int) (hb : rI b) (hp : (1 ≤ a ∧ a < 40) ∧ oRt X i ∧ (0 ≤ X i 56 ∧ X i 56 ≤ 100) ∧ (0 ≤ X i 61 ∧ X i 61 ≤ 100) ∧ (∀ yy vv : Nat, yy ≤ 40 → vv < 16 → 0 ≤ X (i + 24) (16 * yy + vv) ∧ X (i + 24) (16 * yy + vv) ≤ 100)) : F_X11_noteFit i X Y R a b := by
  unfold F_X11_noteFit
  intro hX hY
  obtain ⟨ha, hrt, h56, h61, hse⟩ := hp
  have t1 : a.tdiv 20 = a / 20 := Int.tdiv_eq_ediv_of_nonneg (by omega)
  refine ⟨?_, ?_⟩
  · intro X1
    intro rX1
    intro h1
    have g56 : X1 i 56 = X i 56 := by rw [h1, zU_n (by omega)]
    have g61 : X1 i 61 = X i 61 := by rw [h1, zU_n (by omega)]
    refine ⟨?_, ?_⟩
    · first | omega | exact ⟨by omega, by omega⟩ | decide | assumption | exact ⟨by omega, by omega, by omega⟩ | exact ⟨by decide, by decide⟩
    intro X3
    intro eX3
    intro rX3
    intro X4
    intro eX4
    intro rX4
    intro X5
    intro eX5
    intro rX5
    intro X6
    intro eX6
    have g616 : X6 i 61 = X i 61 := by rw [eX6, zU_n (by omega), eX5, zU_n (by omega), eX4, zU_n (by omega), eX3, zU_n (by omega), g61]
    rw [g616]
    intro rX6
    refine ⟨?_, ?_⟩
    · first | omega | exact ⟨by omega, by omega⟩ | decide | assumption | exact ⟨by omega, by omega, by omega⟩ | exact ⟨by decide, by decide⟩
    intro X8
    intro eX8
    have o8 : ∀ z, z ≠ i → X8 z = X z := fun z h => by rw [eX8, zU_o h, eX6, zU_o h, eX5, zU_o h, eX4, zU_o h, eX3, zU_o h, h1, zU_o h]
    have s8 : ∀ z, (z < 56 ∨ 61 < z) → X8 i z = X i z := fun z hz => by rw [eX8, zU_n (by omega), eX6, zU_n (by omega), eX5, zU_n (by omega), eX4, zU_n (by omega), eX3, zU_n (by omega), h1, zU_n (by omega)]
    have v8 : X8 i 56 = X i 56 + 1 ∧ X8 i 57 = (if X i 56 = b then a else X i 57) ∧ X8 i 58 = zOr (X i 58) (zShl 1 (a.tdiv 20)) ∧ X8 i 59 = zOr (X i 59) (zShl 1 ((a.tdiv 10).tmod 2)) ∧ X8 i 60 = zOr (X i 60) (zShl 1 (a.tmod 10)) ∧ X8 i 61 = X i 61 + a.tdiv 20 := by
      rw [eX8, eX6, eX5, eX4, eX3, h1]
      refine ⟨?_, ?_, ?_, ?_, ?_, ?_⟩
      · rw [zU_n (by omega), zU_n (by omega), zU_n (by omega), zU_n (by omega), zU_s, zU_n (by omega)]
      · rw [zU_n (by omega), zU_n (by omega), zU_n (by omega), zU_n (by omega), zU_n (by omega), zU_s]
      · rw [zU_n (by omega), zU_n (by omega), zU_n (by omega), zU_s, zU_n (by omega), zU_n (by omega)]
      · rw [zU_n (by omega), zU_n (by omega), zU_s, zU_n (by omega), zU_n (by omega), zU_n (by omega)]
      · rw [zU_n (by omega), zU_s, zU_n (by omega), zU_n (by omega), zU_n (by omega), zU_n (by omega)]
      · rw [zU_s]
    intro rX8
    refine ⟨?_, ?_⟩
    · exact ⟨0, rfl, by decide, fun _ _ => rfl, fun yy vv _ _ => by rw [if_neg (by omega)]; omega⟩
    intro k X10
    intro _
    intro rX10
    intro h2
    obtain ⟨q, hq, q41, o10, hr⟩ := h2
    subst hq
    have r23 : X10 (i + 23) = X (i + 23) := by rw [o10 _ (by omega), o8 _ (by omega)]
    rw [r23]
    refine ⟨?_, ?_⟩
    · intro c1
      refine ⟨fun z z1 z2 => by rw [o10 z z2, o8 z z1], fun z hz => by rw [o10 _ (by omega), s8 z hz], by rw [o10 _ (by omega)]; exact v8, fun yy vv y1 v1 => ?_⟩
      rw [hr yy vv y1 v1, o8 _ (by omega), o8 _ (by omega)]
      congr 1
      by_cases e : lvl (X (i + 23) yy) = vv
      · rw [if_pos ⟨by omega, e⟩, if_pos e]
      · rw [if_neg (fun q => e q.2), if_neg e]
    intro c2
    have bt := hrt q (by omega)
    have lb : 0 ≤ lvl (X (i + 23) q) ∧ lvl (X (i + 23) q) < 16 := by
      unfold lvl
      split <;> omega
    obtain ⟨lv, hlv⟩ : ∃ lv : Nat, lvl (X (i + 23) q) = lv := ⟨(lvl (X (i + 23) q)).toNat, by omega⟩
    have vb := hr q lv (by omega) (by omega)
    have vb0 := hse q lv (by omega) (by omega)
    rw [if_neg (by omega), o8 _ (by omega)] at vb
    refine ⟨?_, ?_⟩
    · intro X12
      intro rX12
      intro h3
      obtain ⟨a12, b12, d12⟩ := h3
      rw [hlv] at b12 d12
      refine ⟨?_, ?_⟩
      · first | omega | exact ⟨by omega, by omega⟩ | decide | assumption | exact ⟨by omega, by omega, by omega⟩ | exact ⟨by decide, by decide⟩
      refine ⟨?_, ?_⟩
      · refine ⟨q + 1, by omega, by omega, fun z hz => by rw [a12 z hz, o10 z hz], fun yy vv y1 v1 => ?_⟩
        have hv := hr yy vv y1 v1
        rw [o8 _ (by omega)] at hv ⊢
        rw [o8 _ (by omega)] at hv ⊢
        by_cases e : yy = q ∧ vv = lv
        · obtain ⟨e1, e2⟩ := e
          subst e1
          subst e2
          rw [d12, vb, if_pos ⟨by omega, hlv⟩]
          omega
        · rw [b12 _ (by omega), hv]
          congr 1
          by_cases e3 : yy < q ∧ lvl (X (i + 23) yy) = vv
          · rw [if_pos e3, if_pos ⟨by omega, e3.2⟩]
          · rw [if_neg e3, if_neg (fun z => ?_)]
            by_cases e4 : yy = q
            · subst e4
              exact e ⟨rfl, by omega⟩
            · exact e3 ⟨by omega, z.2⟩
      first | omega | exact ⟨by omega, by omega⟩ | decide | assumption | exact ⟨by omega, by omega, by omega⟩ | exact ⟨by decide, by decide⟩
    refine ⟨?_, ?_⟩
    · first | omega | exact ⟨by omega, by omega⟩ | decide | assumption | exact ⟨by omega, by omega, by omega⟩ | exact ⟨by decide, by decide⟩
    refine ⟨?_, ?_⟩
    · intro c3
      have el : X (i + 23) q = lv := by
        unfold lvl at hlv
        rwa [if_neg c3] at hlv
      rw [el]
      refine ⟨?_, ?_⟩
      · first | omega | exact ⟨by omega, by omega⟩ | decide | assumption | exact ⟨by omega, by omega, by omega⟩ | exact ⟨by decide, by decide⟩
      refine ⟨?_, ?_⟩
      · first | omega | exact ⟨by omega, by omega⟩ | decide | assumption | exact ⟨by omega, by omega, by omega⟩ | exact ⟨by decide, by decide⟩
      refine ⟨?_, ?_⟩
      · first | omega | exact ⟨by omega, by omega⟩ | decide | assumption | exact ⟨by omega, by omega, by omega⟩ | exact ⟨by decide, by decide⟩
      refine ⟨?_, ?_⟩
      · first | omega | exact ⟨by omega, by omega⟩ | decide | assumption | exact ⟨by omega, by omega, by omega⟩ | exact ⟨by decide, by decide⟩
      intro X20
      intro eX20
      intro rX20
      rw [show lvl (lv : Int) = lv from if_neg (by omega)]
      exact ⟨fun z hz => by rw [eX20, zU_o hz], fun y hy => by rw [eX20, zU_n (by omega)], by rw [eX20, zU_s]⟩
    intro c4
    have el : lv = 15 := by
      unfold lvl at hlv
      rw [if_pos (Classical.not_not.mp c4)] at hlv
      omega
    have el2 : (16 * (q : Int) + 15) = 16 * (q : Int) + (lv : Int) := by omega
    rw [el2]
    refine ⟨?_, ?_⟩
    · first | omega | exact ⟨by omega, by omega⟩ | decide | assumption | exact ⟨by omega, by omega, by omega⟩ | exact ⟨by decide, by decide⟩
    refine ⟨?_, ?_⟩
    · first | omega | exact ⟨by omega, by omega⟩ | decide | assumption | exact ⟨by omega, by omega, by omega⟩ | exact ⟨by decide, by decide⟩
    refine ⟨?_, ?_⟩
    · first | omega | exact ⟨by omega, by omega⟩ | decide | assumption | exact ⟨by omega, by omega, by omega⟩ | exact ⟨by decide, by decide⟩
    intro X24
    intro eX24
    intro rX24
    rw [hlv]
    exact ⟨fun z hz => by rw [eX24, zU_o hz], fun y hy => by rw [eX24, zU_n (by omega)], by rw [eX24, zU_s]⟩
  refine ⟨?_, ?_⟩
  · intro c5
    intro X26
    intro eX26
    intro rX26
    rw [eX26, if_neg c5]
  intro c6
  intro X27
  intro eX27
  intro rX27
  rw [eX27, if_pos (Classical.not_not.mp c6)]
theorem c_X11_noteFit {l : Launch} {D : va_G} {cy : Nat → ClassId} {bs N : Nat} {sa : Nat → Nat} {kd len : Nat → Nat} {X Y : Nat → Int → Int} {R : Nat → Int → Option Nat} {i : Nat} (hM : zM N kd len R i) (a : Int) (ha : rI a) (b : Int) (hb : rI b) (hp : (1 ≤ a ∧ a < 40) ∧ oRt X i ∧ (0 ≤ X i 56 ∧ X i 56 ≤ 100) ∧ (0 ≤ X i 61 ∧ X i 61 ≤ 100) ∧ (∀ yy vv : Nat, yy ≤ 40 → vv < 16 → 0 ≤ X (i + 24) (16 * yy + vv) ∧ X (i + 24) (16 * yy + vv) ≤ 100)) : Met l yX11_noteFit (.code yX11_noteFit cX11_noteFit 4 none :: zTB) (zRm 0 0) (zPc D cy bs sa N kd len X Y R [.ref (bs + (i)), .int (zI (a)), .int (zI (b))]) (zQv D cy bs N kd len (fun st => st.2.1 = Y ∧ st.2.2 = R ∧ ((∀ z, z ≠ i → z ≠ i + 24 → (st.1) z = X z) ∧ (∀ z, (z < 56 ∨ 61 < z) → (st.1) i z = X i z) ∧ ((st.1) i 56 = X i 56 + 1 ∧ (st.1) i 57 = (if X i 56 = b then a else X i 57) ∧ (st.1) i 58 = zOr (X i 58) (zShl 1 ((a).tdiv 20)) ∧ (st.1) i 59 = zOr (X i 59) (zShl 1 (((a).tdiv 10).tmod 2)) ∧ (st.1) i 60 = zOr (X i 60) (zShl 1 ((a).tmod 10)) ∧ (st.1) i 61 = X i 61 + (a).tdiv 20) ∧ ∀ yy vv : Nat, yy ≤ 40 → vv < 16 → (st.1) (i + 24) (16 * yy + vv) = X (i + 24) (16 * yy + vv) + if lvl (X (i + 23) yy) = vv then 1 else 0))) 0 0 (zA bs) := w_X11_noteFit hM a ha b hb (v_X11_noteFit a ha b hb hp)
abbrev cX11_askWhen : ByteArray := prog_13_method_112_code
def yX11_askWhen : MethodName := ⟨RX11, "askWhen", "()I"⟩
theorem dX11_askWhen_0 : decode cX11_askWhen 0 = .ok (.iconst (-1), 1) := by decide +kernel
theorem dX11_askWhen_1 : decode cX11_askWhen 1 = .ok (.istore_n 1, 1) := by decide +kernel
theorem dX11_askWhen_2 : decode cX11_askWhen 2 = .ok (.ldc_w 524, 3) := by decide +kernel
theorem dX11_askWhen_5 : decode cX11_askWhen 5 = .ok (.istore_n 2, 1) := by decide +kernel
theorem dX11_askWhen_6 : decode cX11_askWhen 6 = .ok (.iconst 0, 1) := by decide +kernel
theorem dX11_askWhen_7 : decode cX11_askWhen 7 = .ok (.istore_n 3, 1) := by decide +kernel
theorem dX11_askWhen_8 : decode cX11_askWhen 8 = .ok (.iload_n 3, 1) := by decide +kernel
theorem dX11_askWhen_9 : decode cX11_askWhen 9 = .ok (.bipush 40, 2) := by decide +kernel
theorem dX11_askWhen_11 : decode cX11_askWhen 11 = .ok (.if_icmp .gt 73, 3) := by decide +kernel
theorem dX11_askWhen_14 : decode cX11_askWhen 14 = .ok (.aload_n 0, 1) := by decide +kernel
theorem dX11_askWhen_15 : decode cX11_askWhen 15 = .ok (.getfield 497, 3) := by decide +kernel
theorem dX11_askWhen_18 : decode cX11_askWhen 18 = .ok (.ifCond .le 66, 3) := by decide +kernel
theorem dX11_askWhen_21 : decode cX11_askWhen 21 = .ok (.iconst 0, 1) := by decide +kernel
theorem dX11_askWhen_22 : decode cX11_askWhen 22 = .ok (.istore 4, 2) := by decide +kernel
theorem dX11_askWhen_24 : decode cX11_askWhen 24 = .ok (.iconst 0, 1) := by decide +kernel
theorem dX11_askWhen_25 : decode cX11_askWhen 25 = .ok (.istore 5, 2) := by decide +kernel
theorem dX11_askWhen_27 : decode cX11_askWhen 27 = .ok (.iload 5, 2) := by decide +kernel
theorem dX11_askWhen_29 : decode cX11_askWhen 29 = .ok (.bipush 16, 2) := by decide +kernel
theorem dX11_askWhen_31 : decode cX11_askWhen 31 = .ok (.if_icmp .ge 28, 3) := by decide +kernel
theorem dX11_askWhen_34 : decode cX11_askWhen 34 = .ok (.iload 4, 2) := by decide +kernel
theorem dX11_askWhen_36 : decode cX11_askWhen 36 = .ok (.aload_n 0, 1) := by decide +kernel
theorem dX11_askWhen_37 : decode cX11_askWhen 37 = .ok (.getfield 81, 3) := by decide +kernel
theorem dX11_askWhen_40 : decode cX11_askWhen 40 = .ok (.bipush 16, 2) := by decide +kernel
theorem dX11_askWhen_42 : decode cX11_askWhen 42 = .ok (.iload_n 3, 1) := by decide +kernel
theorem dX11_askWhen_43 : decode cX11_askWhen 43 = .ok (.imul, 1) := by decide +kernel
theorem dX11_askWhen_44 : decode cX11_askWhen 44 = .ok (.iload 5, 2) := by decide +kernel
theorem dX11_askWhen_46 : decode cX11_askWhen 46 = .ok (.iadd, 1) := by decide +kernel
theorem dX11_askWhen_47 : decode cX11_askWhen 47 = .ok (.iaload, 1) := by decide +kernel
theorem dX11_askWhen_48 : decode cX11_askWhen 48 = .ok (.invokestatic 277, 3) := by decide +kernel
theorem dX11_askWhen_51 : decode cX11_askWhen 51 = .ok (.istore 4, 2) := by decide +kernel
theorem dX11_askWhen_53 : decode cX11_askWhen 53 = .ok (.iinc 5 1, 3) := by decide +kernel
theorem dX11_askWhen_56 : decode cX11_askWhen 56 = .ok (.goto (-29), 3) := by decide +kernel
theorem dX11_askWhen_59 : decode cX11_askWhen 59 = .ok (.iload 4, 2) := by decide +kernel
theorem dX11_askWhen_61 : decode cX11_askWhen 61 = .ok (.iload_n 2, 1) := by decide +kernel
theorem dX11_askWhen_62 : decode cX11_askWhen 62 = .ok (.if_icmp .ge 7, 3) := by decide +kernel
theorem dX11_askWhen_65 : decode cX11_askWhen 65 = .ok (.iload_n 3, 1) := by decide +kernel
theorem dX11_askWhen_66 : decode cX11_askWhen 66 = .ok (.goto 4, 3) := by decide +kernel
theorem dX11_askWhen_69 : decode cX11_askWhen 69 = .ok (.iload_n 1, 1) := by decide +kernel
theorem dX11_askWhen_70 : decode cX11_askWhen 70 = .ok (.istore_n 1, 1) := by decide +kernel
theorem dX11_askWhen_71 : decode cX11_askWhen 71 = .ok (.iload_n 2, 1) := by decide +kernel
theorem dX11_askWhen_72 : decode cX11_askWhen 72 = .ok (.iload 4, 2) := by decide +kernel
theorem dX11_askWhen_74 : decode cX11_askWhen 74 = .ok (.invokestatic 184, 3) := by decide +kernel
theorem dX11_askWhen_77 : decode cX11_askWhen 77 = .ok (.istore_n 2, 1) := by decide +kernel
theorem dX11_askWhen_78 : decode cX11_askWhen 78 = .ok (.iinc 3 1, 3) := by decide +kernel
theorem dX11_askWhen_81 : decode cX11_askWhen 81 = .ok (.goto (-73), 3) := by decide +kernel
theorem dX11_askWhen_84 : decode cX11_askWhen 84 = .ok (.iload_n 1, 1) := by decide +kernel
theorem dX11_askWhen_85 : decode cX11_askWhen 85 = .ok (.ireturn, 1) := by decide +kernel
theorem q_1934 : Cond.constant RX11 524 (zI (1000000)) ∈ zTB := zmem 1934 (by decide +kernel) rfl
theorem q_1565 : Cond.static yX11_lesser ∈ zTB := zmem 1565 (by decide +kernel) rfl
theorem q_1566 : Cond.code yX11_lesser cX11_lesser 2 (some .int) ∈ zTB := zmem 1566 (by decide +kernel) rfl
theorem q_1564 : Cond.methodLink RX11 184 yX11_lesser ∈ zTB := zmem 1564 (by decide +kernel) rfl
theorem k_RX11_184 : zLs RX11 184 yX11_lesser cX11_lesser 2 (some .int) 2 := ⟨⟨q_1564, q_1565, q_140, q_1566⟩, ⟨by decide, by decide⟩, by decide +kernel⟩
def F_X11_askWhen (i : Nat) (X Y : Nat → Int → Int) (R : Nat → Int → Option Nat)  : Prop := (∀ i j, rI (X i j)) → (∀ i j, rL (Y i j)) → (∃ q : Nat, (0 : Int) = q ∧ q ≤ 41 ∧ (0 < q → 0 < X i 56) ∧ (-1 : Int) = (akW (fun y => mxN (fun v => X (i + 24) (16 * y + v)) 16) q).1 ∧ (1000000 : Int) = (akW (fun y => mxN (fun v => X (i + 24) (16 * y + v)) 16) q).2) ∧ (∀ (best : Int) (lz : Int) (k : Int), rI best → rI lz → rI k → (∃ q : Nat, k = q ∧ q ≤ 41 ∧ (0 < q → 0 < X i 56) ∧ best = (akW (fun y => mxN (fun v => X (i + 24) (16 * y + v)) 16) q).1 ∧ lz = (akW (fun y => mxN (fun v => X (i + 24) (16 * y + v)) 16) q).2) → (((40 < k) → (best = mAsk X i)) ∧ ((¬ (40 < k)) → ((((X (i) 56) ≤ 0) → (best = mAsk X i)) ∧ ((¬ ((X (i) 56) ≤ 0)) → ((∃ q x : Nat, k = q ∧ (0 : Int) = x ∧ x ≤ 16 ∧ (0 : Int) = mxN (fun v => X (i + 24) (16 * q + v)) x) ∧ (∀ (mo : Int) (j : Int), rI mo → rI j → (∃ q x : Nat, k = q ∧ j = x ∧ x ≤ 16 ∧ mo = mxN (fun v => X (i + 24) (16 * q + v)) x) → (((16 ≤ j) → (((lz ≤ mo) → (rI (min (lz) (mo)) → ((rI (k + 1)) ∧ (∃ q : Nat, k + 1 = q ∧ q ≤ 41 ∧ (0 < q → 0 < X i 56) ∧ best = (akW (fun y => mxN (fun v => X (i + 24) (16 * y + v)) 16) q).1 ∧ min (lz) (mo) = (akW (fun y => mxN (fun v => X (i + 24) (16 * y + v)) 16) q).2) ∧ (((41 - (k + 1)).toNat) < ((41 - (k)).toNat))))) ∧ ((¬ (lz ≤ mo)) → (rI (min (lz) (mo)) → ((rI (k + 1)) ∧ (∃ q : Nat, k + 1 = q ∧ q ≤ 41 ∧ (0 < q → 0 < X i 56) ∧ k = (akW (fun y => mxN (fun v => X (i + 24) (16 * y + v)) 16) q).1 ∧ min (lz) (mo) = (akW (fun y => mxN (fun v => X (i + 24) (16 * y + v)) 16) q).2) ∧ (((41 - (k + 1)).toNat) < ((41 - (k)).toNat))))))) ∧ ((¬ (16 ≤ j)) → ((0 ≤ ((16 * k) + j) ∧ ((16 * k) + j) < 656) ∧ (rI (max (mo) (X (i + 24) ((16 * k) + j))) → ((rI (j + 1)) ∧ (∃ q x : Nat, k = q ∧ j + 1 = x ∧ x ≤ 16 ∧ max (mo) (X (i + 24) ((16 * k) + j)) = mxN (fun v => X (i + 24) (16 * q + v)) x) ∧ (((16 - (j + 1)).toNat) < ((16 - (j)).toNat))))))))))))))
set_option maxHeartbeats 4000000 in
set_option maxRecDepth 100000 in
theorem w_X11_askWhen {l : Launch} {D : va_G} {cy : Nat → ClassId} {bs N : Nat} {sa : Nat → Nat} {kd len : Nat → Nat} {X Y : Nat → Int → Int} {R : Nat → Int → Option Nat} {i : Nat} (hM : zM N kd len R i)  (hF : F_X11_askWhen i X Y R ) : Met l yX11_askWhen (.code yX11_askWhen cX11_askWhen 6 (some .int) :: zTB) (zRm 1 21) (zPc D cy bs sa N kd len X Y R [.ref (bs + (i))]) (zQi D cy bs N kd len (fun r st => r = mAsk X i ∧ st = (X, Y, R))) 0 0 (zA bs) := by
  refine zstart (by decide) (Nat.le_of_ble_eq_true rfl) ?_
  intro p e s m args below meth c ls C hE hH hr hlk hnm hl hargs
  have hF := hF hH.2.2.1 hH.2.2.2
  have hS : va_S (zA bs) s.heap s.heap [] := va_S.rf
  have hl : lv_has ls 6 [(0, .ref (bs + (i)))] := hl
  refine zd_iconst C dX11_askWhen_0 ?_
  refine lv_istore_n (lv' := [(1, .int (zI ((-1)))), (0, .ref (bs + (i)))]) C.1 C.2.1 dX11_askWhen_1 rfl hl (by decide) rfl (fun ls hl => ?_)
  refine lv_ldcw (v := zI (1000000)) C.1 C.2.1 C.2.2.2.1 (C.2.2.2.2.1 _ q_1934) dX11_askWhen_2 ?_
  refine lv_istore_n (lv' := [(2, .int (zI ((1000000)))), (1, .int (zI ((-1)))), (0, .ref (bs + (i)))]) C.1 C.2.1 dX11_askWhen_5 rfl hl (by decide) rfl (fun ls hl => ?_)
  refine zd_iconst C dX11_askWhen_6 ?_
  refine lv_istore_n (lv' := [(3, .int (zI (0))), (2, .int (zI ((1000000)))), (1, .int (zI ((-1)))), (0, .ref (bs + (i)))]) C.1 C.2.1 dX11_askWhen_7 rfl hl (by decide) rfl (fun ls hl => ?_)
  obtain ⟨hI1, hF⟩ := hF
  have L1 : ∀ (fu : Nat) (best : Int) (lz : Int) (k : Int), rI best → rI lz → rI k → (∃ q : Nat, k = q ∧ q ≤ 41 ∧ (0 < q → 0 < X i 56) ∧ best = (akW (fun y => mxN (fun v => X (i + 24) (16 * y + v)) 16) q).1 ∧ lz = (akW (fun y => mxN (fun v => X (i + 24) (16 * y + v)) 16) q).2) → ((41 - (k)).toNat) < fu → ∀ (H : Heap) (locs : List Loc) (ls : Array Slot), zH D cy bs N kd len X Y R H → va_S (zA bs) s.heap H locs → lv_has ls 6 [(1, .int (zI (best))), (2, .int (zI (lz))), (3, .int (zI (k))), (0, .ref (bs + (i)))] → W p l e (zRm 1 21) s m args below meth c H locs 0 0 (MQ below (zQi D cy bs N kd len (fun r st => r = mAsk X i ∧ st = (X, Y, R))) args s 0 0 (zA bs)) (F0 m 8 ls []) := by
    intro fu
    induction fu with
    | zero => intro best lz k _ _ _ _ hmu; exact absurd hmu (Nat.not_lt_zero _)
    | succ fu ih1 =>
      intro best lz k hbest hlz hk hI hmu1 H locs ls hH hS hl
      have hF := hF best lz k hbest hlz hk  hI
      refine lv_iload_n C.1 C.2.1 dX11_askWhen_8 rfl (lv_at hl 2 rfl) ?_
      refine zd_bipush C (by decide) dX11_askWhen_9 ?_
      refine zd_icmp_gt C hk (by decide) 84 dX11_askWhen_11 (by decide) (fun c2 => ?_) (fun c2 => ?_)
      · have hF := hF.1 c2
        refine lv_iload_n C.1 C.2.1 dX11_askWhen_84 rfl (lv_at hl 0 rfl) ?_
        exact zd_iret C hr hlk hH hS hbest (⟨hF, rfl⟩) dX11_askWhen_85
      · have hF := hF.2 c2
        refine lv_aload_n C.1 C.2.1 dX11_askWhen_14 rfl (lv_at hl 3 rfl) ?_
        refine zg11_56 C hH (zM_n0 hM) (zM_k0 hM) q_1343 dX11_askWhen_15 ?_
        refine zd_if_le C (hH.2.2.1 _ _) 84 dX11_askWhen_18 (by decide) (fun c3 => ?_) (fun c3 => ?_)
        · have hF := hF.1 c3
          refine lv_iload_n C.1 C.2.1 dX11_askWhen_84 rfl (lv_at hl 0 rfl) ?_
          exact zd_iret C hr hlk hH hS hbest (⟨hF, rfl⟩) dX11_askWhen_85
        · have hF := hF.2 c3
          refine zd_iconst C dX11_askWhen_21 ?_
          refine lv_istore (lv' := [(4, .int (zI (0))), (1, .int (zI (best))), (2, .int (zI (lz))), (3, .int (zI (k))), (0, .ref (bs + (i)))]) C.1 C.2.1 dX11_askWhen_22 hl (by decide) rfl (fun ls hl => ?_)
          refine zd_iconst C dX11_askWhen_24 ?_
          refine lv_istore (lv' := [(5, .int (zI (0))), (4, .int (zI (0))), (1, .int (zI (best))), (2, .int (zI (lz))), (3, .int (zI (k))), (0, .ref (bs + (i)))]) C.1 C.2.1 dX11_askWhen_25 hl (by decide) rfl (fun ls hl => ?_)
          obtain ⟨hI4, hF⟩ := hF
          have L4 : ∀ (fu : Nat) (mo : Int) (j : Int), rI mo → rI j → (∃ q x : Nat, k = q ∧ j = x ∧ x ≤ 16 ∧ mo = mxN (fun v => X (i + 24) (16 * q + v)) x) → ((16 - (j)).toNat) < fu → ∀ (H : Heap) (locs : List Loc) (ls : Array Slot), zH D cy bs N kd len X Y R H → va_S (zA bs) s.heap H locs → lv_has ls 6 [(4, .int (zI (mo))), (5, .int (zI (j))), (1, .int (zI (best))), (2, .int (zI (lz))), (3, .int (zI (k))), (0, .ref (bs + (i)))] → W p l e (zRm 1 21) s m args below meth c H locs 0 0 (MQ below (zQi D cy bs N kd len (fun r st => r = mAsk X i ∧ st = (X, Y, R))) args s 0 0 (zA bs)) (F0 m 27 ls []) := by
            intro fu
            induction fu with
            | zero => intro mo j _ _ _ hmu; exact absurd hmu (Nat.not_lt_zero _)
            | succ fu ih4 =>
              intro mo j hmo hj hI hmu4 H locs ls hH hS hl
              have hF := hF mo j hmo hj  hI
              refine lv_iload C.1 C.2.1 dX11_askWhen_27 (lv_at hl 1 rfl) ?_
              refine zd_bipush C (by decide) dX11_askWhen_29 ?_
              refine zd_icmp_ge C hj (by decide) 59 dX11_askWhen_31 (by decide) (fun c5 => ?_) (fun c5 => ?_)
              · have hF := hF.1 c5
                refine lv_iload C.1 C.2.1 dX11_askWhen_59 (lv_at hl 0 rfl) ?_
                refine lv_iload_n C.1 C.2.1 dX11_askWhen_61 rfl (lv_at hl 3 rfl) ?_
                refine zd_icmp_ge C hmo hlz 69 dX11_askWhen_62 (by decide) (fun c6 => ?_) (fun c6 => ?_)
                · have hF := hF.1 c6
                  refine lv_iload_n C.1 C.2.1 dX11_askWhen_69 rfl (lv_at hl 2 rfl) ?_
                  refine lv_istore_n (lv' := [(1, .int (zI (best))), (4, .int (zI (mo))), (5, .int (zI (j))), (2, .int (zI (lz))), (3, .int (zI (k))), (0, .ref (bs + (i)))]) C.1 C.2.1 dX11_askWhen_70 rfl hl (by decide) rfl (fun ls hl => ?_)
                  refine lv_iload_n C.1 C.2.1 dX11_askWhen_71 rfl (lv_at hl 3 rfl) ?_
                  refine lv_iload C.1 C.2.1 dX11_askWhen_72 (lv_at hl 1 rfl) ?_
                  refine zgoi (zrunS (As := [.int (zI (lz)), .int (zI (mo))]) (rest := []) C hE hH hS hl.1 (c_X11_lesser (l := l)  (lz) hlz (mo) hmo) k_RX11_184 ⟨Nat.le_of_ble_eq_true rfl, Nat.le_of_ble_eq_true rfl⟩ rfl (Nat.le_of_ble_eq_true rfl) dX11_askWhen_74 ⟨Nat.zero_le _, Nat.zero_le _⟩) hS (fun rq Xq Yq Rq H locs hrq hq hH hS => ?_)
                  obtain ⟨h91, h92⟩ := hq
                  have h93 : Xq = X := congrArg (fun z => z.1) h92
                  have h94 : Yq = Y := congrArg (fun z => z.2.1) h92
                  have h95 : Rq = R := congrArg (fun z => z.2.2) h92
                  rw [h93, h94, h95] at hH
                  subst h91
                  have hr7 := hrq
                  have hF := hF hr7
                  refine lv_istore_n (lv' := [(2, .int (zI (min (lz) (mo)))), (1, .int (zI (best))), (4, .int (zI (mo))), (5, .int (zI (j))), (3, .int (zI (k))), (0, .ref (bs + (i)))]) C.1 C.2.1 dX11_askWhen_77 rfl hl (by decide) rfl (fun ls hl => ?_)
                  refine zd_iinc (k := 4) (lv' := [(3, .int (zI (k + 1))), (2, .int (zI (min (lz) (mo)))), (1, .int (zI (best))), (4, .int (zI (mo))), (5, .int (zI (j))), (0, .ref (bs + (i)))]) C hl rfl dX11_askWhen_78 (by decide) rfl (fun ls hl => ?_)
                  refine lv_goto (tgt := 8) C.1 C.2.1 dX11_askWhen_81 (by decide) ?_
                  obtain ⟨o8, hF⟩ := hF
                  exact ih1 (best) (min (lz) (mo)) (k + 1) hbest hr7 o8 hF.1 (Nat.lt_of_lt_of_le hF.2 (Nat.le_of_lt_succ hmu1)) _ _ _ hH hS (lv_sub hl [2, 1, 0, 5] rfl)
                · have hF := hF.2 c6
                  refine lv_iload_n C.1 C.2.1 dX11_askWhen_65 rfl (lv_at hl 4 rfl) ?_
                  refine lv_goto (tgt := 70) C.1 C.2.1 dX11_askWhen_66 (by decide) ?_
                  refine lv_istore_n (lv' := [(1, .int (zI (k))), (4, .int (zI (mo))), (5, .int (zI (j))), (2, .int (zI (lz))), (3, .int (zI (k))), (0, .ref (bs + (i)))]) C.1 C.2.1 dX11_askWhen_70 rfl hl (by decide) rfl (fun ls hl => ?_)
                  refine lv_iload_n C.1 C.2.1 dX11_askWhen_71 rfl (lv_at hl 3 rfl) ?_
                  refine lv_iload C.1 C.2.1 dX11_askWhen_72 (lv_at hl 1 rfl) ?_
                  refine zgoi (zrunS (As := [.int (zI (lz)), .int (zI (mo))]) (rest := []) C hE hH hS hl.1 (c_X11_lesser (l := l)  (lz) hlz (mo) hmo) k_RX11_184 ⟨Nat.le_of_ble_eq_true rfl, Nat.le_of_ble_eq_true rfl⟩ rfl (Nat.le_of_ble_eq_true rfl) dX11_askWhen_74 ⟨Nat.zero_le _, Nat.zero_le _⟩) hS (fun rq Xq Yq Rq H locs hrq hq hH hS => ?_)
                  obtain ⟨h91, h92⟩ := hq
                  have h93 : Xq = X := congrArg (fun z => z.1) h92
                  have h94 : Yq = Y := congrArg (fun z => z.2.1) h92
                  have h95 : Rq = R := congrArg (fun z => z.2.2) h92
                  rw [h93, h94, h95] at hH
                  subst h91
                  have hr9 := hrq
                  have hF := hF hr9
                  refine lv_istore_n (lv' := [(2, .int (zI (min (lz) (mo)))), (1, .int (zI (k))), (4, .int (zI (mo))), (5, .int (zI (j))), (3, .int (zI (k))), (0, .ref (bs + (i)))]) C.1 C.2.1 dX11_askWhen_77 rfl hl (by decide) rfl (fun ls hl => ?_)
                  refine zd_iinc (k := 4) (lv' := [(3, .int (zI (k + 1))), (2, .int (zI (min (lz) (mo)))), (1, .int (zI (k))), (4, .int (zI (mo))), (5, .int (zI (j))), (0, .ref (bs + (i)))]) C hl rfl dX11_askWhen_78 (by decide) rfl (fun ls hl => ?_)
                  refine lv_goto (tgt := 8) C.1 C.2.1 dX11_askWhen_81 (by decide) ?_
                  obtain ⟨o10, hF⟩ := hF
                  exact ih1 (k) (min (lz) (mo)) (k + 1) hk hr9 o10 hF.1 (Nat.lt_of_lt_of_le hF.2 (Nat.le_of_lt_succ hmu1)) _ _ _ hH hS (lv_sub hl [2, 1, 0, 5] rfl)
              · have hF := hF.2 c5
                refine lv_iload C.1 C.2.1 dX11_askWhen_34 (lv_at hl 0 rfl) ?_
                refine lv_aload_n C.1 C.2.1 dX11_askWhen_36 rfl (lv_at hl 5 rfl) ?_
                refine zg11_63 C hH (zM_n0 hM) (zM_k0 hM) q_1350 (zM_r24 hM) dX11_askWhen_37 ?_
                refine zd_bipush C (by decide) dX11_askWhen_40 ?_
                refine lv_iload_n C.1 C.2.1 dX11_askWhen_42 rfl (lv_at hl 4 rfl) ?_
                refine zd_imul C dX11_askWhen_43 ?_
                refine lv_iload C.1 C.2.1 dX11_askWhen_44 (lv_at hl 1 rfl) ?_
                refine zd_iadd C dX11_askWhen_46 ?_
                obtain ⟨o11, hF⟩ := hF
                refine zd_iald C hH (zM_n24 hM) (zM_k24 hM) o11.1 (by rw [zM_l24 hM]; exact o11.2) (by rw [zM_l24 hM]; decide) dX11_askWhen_47 ?_
                refine zgoi (zrunS (As := [.int (zI (mo)), .int (zI (X (i + 24) ((16 * k) + j)))]) (rest := []) C hE hH hS hl.1 (c_X11_greater (l := l)  (mo) hmo (X (i + 24) ((16 * k) + j)) (hH.2.2.1 _ _)) k_RX11_277 ⟨Nat.le_of_ble_eq_true rfl, Nat.le_of_ble_eq_true rfl⟩ rfl (Nat.le_of_ble_eq_true rfl) dX11_askWhen_48 ⟨Nat.zero_le _, Nat.zero_le _⟩) hS (fun rq Xq Yq Rq H locs hrq hq hH hS => ?_)
                obtain ⟨h91, h92⟩ := hq
                have h93 : Xq = X := congrArg (fun z => z.1) h92
                have h94 : Yq = Y := congrArg (fun z => z.2.1) h92
                have h95 : Rq = R := congrArg (fun z => z.2.2) h92
                rw [h93, h94, h95] at hH
                subst h91
                have hr12 := hrq
                have hF := hF hr12
                refine lv_istore (lv' := [(4, .int (zI (max (mo) (X (i + 24) ((16 * k) + j))))), (5, .int (zI (j))), (1, .int (zI (best))), (2, .int (zI (lz))), (3, .int (zI (k))), (0, .ref (bs + (i)))]) C.1 C.2.1 dX11_askWhen_51 hl (by decide) rfl (fun ls hl => ?_)
                refine zd_iinc (k := 1) (lv' := [(5, .int (zI (j + 1))), (4, .int (zI (max (mo) (X (i + 24) ((16 * k) + j))))), (1, .int (zI (best))), (2, .int (zI (lz))), (3, .int (zI (k))), (0, .ref (bs + (i)))]) C hl rfl dX11_askWhen_53 (by decide) rfl (fun ls hl => ?_)
                refine lv_goto (tgt := 27) C.1 C.2.1 dX11_askWhen_56 (by decide) ?_
                obtain ⟨o13, hF⟩ := hF
                exact ih4 (max (mo) (X (i + 24) ((16 * k) + j))) (j + 1) hr12 o13 hF.1 (Nat.lt_of_lt_of_le hF.2 (Nat.le_of_lt_succ hmu4)) _ _ _ hH hS (lv_sub hl [1, 0, 2, 3, 4, 5] rfl)
          exact L4 (((16 - ((0 : Int))).toNat) + 1) ((0 : Int)) ((0 : Int)) (by decide) (by decide) hI4 (Nat.lt_succ_self _) _ _ _ hH hS (lv_sub hl [1, 0, 2, 3, 4, 5] rfl)
  exact L1 (((41 - ((0 : Int))).toNat) + 1) ((-1 : Int)) ((1000000 : Int)) ((0 : Int)) (by decide) (by decide) (by decide) hI1 (Nat.lt_succ_self _) _ _ _ hH hS (lv_sub hl [2, 1, 0, 3] rfl)
theorem v_X11_askWhen {X Y : Nat → Int → Int} {R : Nat → Int → Option Nat} {i : Nat}  (hp : True) : F_X11_askWhen i X Y R  := by
  unfold F_X11_askWhen
  intro hX hY
  refine ⟨?_, ?_⟩
  · exact ⟨0, rfl, by decide, fun h => absurd h (Nat.lt_irrefl _), rfl, rfl⟩
  intro best lz k
  intro _
  intro _
  intro _
  intro h1
  obtain ⟨q, hq, q2, q0, hb, hl⟩ := h1
  subst hq
  refine ⟨?_, ?_⟩
  · intro c1
    have e41 : q = 41 := by omega
    subst e41
    have := q0 (by decide)
    unfold mAsk
    rw [if_neg (by omega)]
    exact hb
  intro c2
  refine ⟨?_, ?_⟩
  · intro c3
    have e0 : q = 0 := by omega
    subst e0
    unfold mAsk
    rw [if_pos c3]
    exact hb
  intro c4
  refine ⟨?_, ?_⟩
  · exact ⟨q, 0, rfl, rfl, by decide, rfl⟩
  intro mo j
  intro _
  intro _
  intro h2
  obtain ⟨q', x, hq', hx, x16, hm⟩ := h2
  obtain rfl : q = q' := by omega
  subst hx
  refine ⟨?_, ?_⟩
  · intro c5
    have e16 : x = 16 := by omega
    subst e16
    have st : akW (fun y => mxN (fun v => X (i + 24) (16 * y + v)) 16) (q + 1) = (if mxN (fun v => X (i + 24) (16 * q + v)) 16 < (akW (fun y => mxN (fun v => X (i + 24) (16 * y + v)) 16) q).2 then (q : Int) else (akW (fun y => mxN (fun v => X (i + 24) (16 * y + v)) 16) q).1, min (akW (fun y => mxN (fun v => X (i + 24) (16 * y + v)) 16) q).2 (mxN (fun v => X (i + 24) (16 * q + v)) 16)) := rfl
    rw [← hm, ← hl, ← hb] at st
    refine ⟨?_, ?_⟩
    · intro c6
      intro _
      refine ⟨?_, ?_⟩
      · first | omega | exact ⟨by omega, by omega⟩ | decide | assumption | exact ⟨by omega, by omega, by omega⟩ | exact ⟨by decide, by decide⟩
      refine ⟨?_, ?_⟩
      · refine ⟨q + 1, by omega, by omega, fun _ => by omega, ?_, ?_⟩
        · rw [st]
          show best = if mo < lz then (q : Int) else best
          rw [if_neg (by omega)]
        · rw [st]
      first | omega | exact ⟨by omega, by omega⟩ | decide | assumption | exact ⟨by omega, by omega, by omega⟩ | exact ⟨by decide, by decide⟩
    intro c7
    intro _
    refine ⟨?_, ?_⟩
    · first | omega | exact ⟨by omega, by omega⟩ | decide | assumption | exact ⟨by omega, by omega, by omega⟩ | exact ⟨by decide, by decide⟩
    refine ⟨?_, ?_⟩
    · refine ⟨q + 1, by omega, by omega, fun _ => by omega, ?_, ?_⟩
      · rw [st]
        show (q : Int) = if mo < lz then (q : Int) else best
        rw [if_pos (by omega)]
      · rw [st]
    first | omega | exact ⟨by omega, by omega⟩ | decide | assumption | exact ⟨by omega, by omega, by omega⟩ | exact ⟨by decide, by decide⟩
  intro c8
  refine ⟨?_, ?_⟩
  · first | omega | exact ⟨by omega, by omega⟩ | decide | assumption | exact ⟨by omega, by omega, by omega⟩ | exact ⟨by decide, by decide⟩
  intro _
  refine ⟨?_, ?_⟩
  · first | omega | exact ⟨by omega, by omega⟩ | decide | assumption | exact ⟨by omega, by omega, by omega⟩ | exact ⟨by decide, by decide⟩
  refine ⟨?_, ?_⟩
  · refine ⟨q, x + 1, rfl, by omega, by omega, ?_⟩
    rw [hm]
    rfl
  first | omega | exact ⟨by omega, by omega⟩ | decide | assumption | exact ⟨by omega, by omega, by omega⟩ | exact ⟨by decide, by decide⟩
theorem c_X11_askWhen {l : Launch} {D : va_G} {cy : Nat → ClassId} {bs N : Nat} {sa : Nat → Nat} {kd len : Nat → Nat} {X Y : Nat → Int → Int} {R : Nat → Int → Option Nat} {i : Nat} (hM : zM N kd len R i)  (hp : True) : Met l yX11_askWhen (.code yX11_askWhen cX11_askWhen 6 (some .int) :: zTB) (zRm 1 21) (zPc D cy bs sa N kd len X Y R [.ref (bs + (i))]) (zQi D cy bs N kd len (fun r st => r = mAsk X i ∧ st = (X, Y, R))) 0 0 (zA bs) := w_X11_askWhen hM  (v_X11_askWhen  hp)
