/-! TOKENS -/
theorem wv_or {w c : Nat} (hw : w < 36028797018963968) (hc : c < 256) : zLor (zLsh w 8) c = ((256 * w + c : Nat) : Int) := by
  unfold zLor zLsh
  rw [zL_of]
  have hs : ((zI 8).toInt64 &&& 63) = 8 := by decide +kernel
  rw [hs]
  have h : (zL (w : Int) <<< (8 : Int64)) ||| zL (c : Int) = Int64.ofNat (256 * w + c) := by
    apply Int64.toBitVec_inj.mp
    apply BitVec.eq_of_toNat_eq
    show ((BitVec.ofInt 64 (w : Int) <<< ((8 : Int64).toBitVec.smod 64)) ||| BitVec.ofInt 64 (c : Int)).toNat = (BitVec.ofNat 64 (256 * w + c)).toNat
    rw [show (8 : Int64).toBitVec.smod 64 = 8#64 from by decide, BitVec.toNat_or, BitVec.shiftLeft_eq', BitVec.toNat_shiftLeft, BitVec.toNat_ofInt, BitVec.toNat_ofInt, BitVec.toNat_ofNat]
    have e1 : ((w : Int) % ((2 ^ 64 : Nat) : Int)).toNat = w := by omega
    have e2 : ((c : Int) % ((2 ^ 64 : Nat) : Int)).toNat = c := by omega
    have e3 : (w <<< (8 % 2 ^ 64)) % 2 ^ 64 = w <<< 8 := by
      show (w <<< 8) % 2 ^ 64 = w <<< 8
      rw [Nat.shiftLeft_eq]
      omega
    rw [e1, e2, e3, ← Nat.shiftLeft_add_eq_or_of_lt (i := 8) (by omega), Nat.shiftLeft_eq, BitVec.toNat_ofNat]
    omega
  rw [h]
  exact Int64.toInt_ofNat_of_lt (by omega)
def isBl (v : Int) : Bool := decide (v = 10) || decide (v = 32)
def isLe (v : Int) : Bool := mIn v 97 122
def isDi (v : Int) : Bool := mIn v 48 57
theorem uB_k : ∀ k : Nat, k < 256 → zAnd ((k : Int) - 128) 255 = if k < 128 then (k : Int) + 128 else (k : Int) - 128 := by decide +kernel
theorem uB_v {v : Int} (h0 : -128 ≤ v) (h1 : v ≤ 127) : zAnd v 255 = if v < 0 then v + 256 else v := by
  have := uB_k (v + 128).toNat (by omega)
  rw [show (((v + 128).toNat : Nat) : Int) - 128 = v by omega] at this
  rw [this]
  by_cases h : v < 0
  · rw [if_pos (by omega), if_pos h]
    omega
  · rw [if_neg (by omega), if_neg h]
/-- where a row of bytes of a kind ends -/
def enF (f : Int → Bool) (T : Int → Int) (n : Nat) : Nat → Nat → Nat
  | 0, p => p
  | k + 1, p => if p < n ∧ f (T p) = true then enF f T n k (p + 1) else p
def en (f : Int → Bool) (T : Int → Int) (n p : Nat) : Nat := enF f T n (n - p) p
theorem en_s {f : Int → Bool} {T : Int → Int} {n p : Nat} (h : p < n) (g : f (T p) = true) : en f T n p = en f T n (p + 1) := by
  unfold en
  obtain ⟨k, hk⟩ : ∃ k, n - p = k + 1 := ⟨n - p - 1, by omega⟩
  rw [hk, show n - (p + 1) = k by omega]
  show (if p < n ∧ f (T p) = true then _ else _) = _
  rw [if_pos ⟨h, g⟩]
theorem en_0 {f : Int → Bool} {T : Int → Int} {n p : Nat} (h : ¬ (p < n ∧ f (T p) = true)) : en f T n p = p := by
  unfold en
  cases hk : n - p with
  | zero => rfl
  | succ k =>
    show (if p < n ∧ f (T p) = true then _ else _) = _
    rw [if_neg h]
theorem en_b {f : Int → Bool} {T : Int → Int} {n : Nat} : ∀ k p, n - p ≤ k → p ≤ n → p ≤ en f T n p ∧ en f T n p ≤ n
  | 0, p, h, hp => by
    rw [en_0 (fun q => by omega)]
    exact ⟨Nat.le_refl _, hp⟩
  | k + 1, p, h, hp => by
    by_cases c : p < n ∧ f (T p) = true
    · rw [en_s c.1 c.2]
      have := en_b (f := f) (T := T) (n := n) k (p + 1) (by omega) (by omega)
      exact ⟨by omega, this.2⟩
    · rw [en_0 c]
      exact ⟨Nat.le_refl _, hp⟩
theorem en_c {f : Int → Bool} {T : Int → Int} {n p : Nat} (hp : p ≤ n) : p ≤ en f T n p ∧ en f T n p ≤ n := en_b _ p (Nat.le_refl _) hp
/-- the next token: where it begins, what it is, where it ends -/
def tkB (T : Int → Int) (n p : Nat) : Nat := en isBl T n p
def tkE (T : Int → Int) (n q : Nat) : Nat := if n ≤ q then q else if isLe (T q) then en isLe T n q else if isDi (T q) then en isDi T n q else q + 1
def tkK (T : Int → Int) (n q : Nat) : Int := if n ≤ q then 0 else if isLe (T q) then 2 else if isDi (T q) then (if 2 < en isDi T n q - q then 1 else 3) else if T q = 59 then 4 else 1
def tkN (T : Int → Int) (n p : Nat) : Nat := tkE T n (tkB T n p)
def tkS (T : Int → Int) (n p : Nat) : Int := tkK T n (tkB T n p)
def vaN (T : Int → Int) (q : Nat) : Nat → Int
  | 0 => 0
  | k + 1 => if k < 2 then 10 * vaN T q k + T ((q + k : Nat) : Int) - 48 else vaN T q k
def tkV (T : Int → Int) (n p : Nat) : Int := vaN T (tkB T n p) (tkN T n p - tkB T n p)
def wvA (T : Int → Int) (q : Nat) : Nat → Nat
  | 0 => 0
  | k + 1 => 256 * wvA T q k + (T ((q + k : Nat) : Int)).toNat
def tkW (T : Int → Int) (n p : Nat) : Int := if tkN T n p - tkB T n p ≤ 8 then (wvA T (tkB T n p) (tkN T n p - tkB T n p) : Nat) else 0
theorem wvA_b {T : Int → Int} {q : Nat} : ∀ k, (∀ j, j < k → isLe (T ((q + j : Nat) : Int)) = true) → 2 * wvA T q k < 256 ^ k
  | 0, _ => by show 2 * 0 < 1; decide
  | k + 1, h => by
    have ih := wvA_b k (fun j hj => h j (by omega))
    have hc := mIn_t.mp (h k (by omega))
    unfold wvA
    rw [Nat.pow_succ]
    omega
theorem vaN_b {T : Int → Int} {q : Nat} : ∀ k, (∀ j, j < k → isDi (T ((q + j : Nat) : Int)) = true) → 0 ≤ vaN T q k ∧ vaN T q k ≤ 99 ∧ (k ≤ 1 → vaN T q k ≤ 9) ∧ (k = 0 → vaN T q k = 0)
  | 0, _ => ⟨Int.le_refl _, (by show (0 : Int) ≤ 99; decide), fun _ => (by show (0 : Int) ≤ 9; decide), fun _ => rfl⟩
  | k + 1, h => by
    obtain ⟨i1, i2, i3, i4⟩ := vaN_b k (fun j hj => h j (by omega))
    have hc := mIn_t.mp (h k (by omega))
    unfold vaN
    split
    · refine ⟨by omega, ?_, fun h1 => ?_, fun h0 => absurd h0 (by omega)⟩
      · have := i3 (by omega)
        omega
      · have := i4 (by omega)
        omega
    · exact ⟨i1, i2, fun h1 => by omega, fun h0 => absurd h0 (by omega)⟩
def mSee (X : Nat → Int → Int) (i : Nat) : Int := if X i 11 < X i 12 then zAnd (X (i + 1) (X i 11)) 255 else -1
/-- reading goes on -/
def oRd (X : Nat → Int → Int) (i : Nat) : Prop := oTb X i ∧ (0 ≤ X i 11 ∧ X i 11 ≤ X i 12) ∧ X i 12 ≤ 600
theorem see_v {X : Nat → Int → Int} {i : Nat} (h : oRd X i) (hl : X i 11 < X i 12) : mSee X i = if X (i + 1) (X i 11) < 0 then X (i + 1) (X i 11) + 256 else X (i + 1) (X i 11) := by
  unfold mSee
  rw [if_pos hl]
  have := h.1 (X i 11) h.2.1.1 (by have := h.2.2; omega)
  exact uB_v this.1 this.2
theorem see_n {X : Nat → Int → Int} {i : Nat} (hl : ¬ X i 11 < X i 12) : mSee X i = -1 := if_neg hl
theorem see_in {X : Nat → Int → Int} {i : Nat} {a b : Int} (h : oRd X i) (ha : 0 ≤ a) (hb : b ≤ 127) (hab : a ≤ b) : mIn (mSee X i) a b = (decide (X i 11 < X i 12) && mIn (X (i + 1) (X i 11)) a b) := by
  by_cases hl : X i 11 < X i 12
  · rw [see_v h hl, decide_eq_true hl, Bool.true_and]
    unfold mIn
    have := h.1 (X i 11) h.2.1.1 (by have := h.2.2; omega)
    rw [decide_eq_decide]
    split
    · omega
    · exact Iff.rfl
  · rw [see_n hl, decide_eq_false hl, Bool.false_and]
    unfold mIn
    exact decide_eq_false (by omega)
theorem see_eq {X : Nat → Int → Int} {i : Nat} {a : Int} (h : oRd X i) (ha : 0 ≤ a) (hb : a ≤ 127) : mSee X i = a ↔ X i 11 < X i 12 ∧ X (i + 1) (X i 11) = a := by
  have e := see_in (a := a) (b := a) h ha hb (Int.le_refl _)
  have q : ∀ x : Int, mIn x a a = decide (x = a) := fun x => by
    unfold mIn
    rw [decide_eq_decide]
    omega
  rw [q, q] at e
  constructor
  · intro g
    rw [decide_eq_true g] at e
    have e := e.symm
    simp only [Bool.and_eq_true, decide_eq_true_eq] at e
    exact e
  · intro g
    rw [decide_eq_true g.1, decide_eq_true g.2] at e
    exact of_decide_eq_true e
/-- what a token changes -/
def tkC (X X1 Y Y1 : Nat → Int → Int) (i : Nat) : Prop := (∀ z, z ≠ i → X1 z = X z) ∧ (∀ s, s ≠ 11 → s ≠ 13 → s ≠ 14 → s ≠ 15 → X1 i s = X i s) ∧ ∀ z, z ≠ i → Y1 z = Y z
abbrev cX11_see : ByteArray := prog_13_method_14_code
def yX11_see : MethodName := ⟨RX11, "see", "()I"⟩
theorem dX11_see_0 : decode cX11_see 0 = .ok (.aload_n 0, 1) := by decide +kernel
theorem dX11_see_1 : decode cX11_see 1 = .ok (.getfield 108, 3) := by decide +kernel
theorem dX11_see_4 : decode cX11_see 4 = .ok (.aload_n 0, 1) := by decide +kernel
theorem dX11_see_5 : decode cX11_see 5 = .ok (.getfield 111, 3) := by decide +kernel
theorem dX11_see_8 : decode cX11_see 8 = .ok (.if_icmp .ge 19, 3) := by decide +kernel
theorem dX11_see_11 : decode cX11_see 11 = .ok (.aload_n 0, 1) := by decide +kernel
theorem dX11_see_12 : decode cX11_see 12 = .ok (.getfield 7, 3) := by decide +kernel
theorem dX11_see_15 : decode cX11_see 15 = .ok (.aload_n 0, 1) := by decide +kernel
theorem dX11_see_16 : decode cX11_see 16 = .ok (.getfield 108, 3) := by decide +kernel
theorem dX11_see_19 : decode cX11_see 19 = .ok (.baload, 1) := by decide +kernel
theorem dX11_see_20 : decode cX11_see 20 = .ok (.sipush 255, 3) := by decide +kernel
theorem dX11_see_23 : decode cX11_see 23 = .ok (.iand, 1) := by decide +kernel
theorem dX11_see_24 : decode cX11_see 24 = .ok (.goto 4, 3) := by decide +kernel
theorem dX11_see_27 : decode cX11_see 27 = .ok (.iconst (-1), 1) := by decide +kernel
theorem dX11_see_28 : decode cX11_see 28 = .ok (.ireturn, 1) := by decide +kernel
theorem q_1298 : Cond.fieldLink RX11 108 RX11 "reached" "I" ∈ zTB := zmem 1298 (by decide +kernel) rfl
theorem q_1299 : Cond.fieldLink RX11 111 RX11 "length" "I" ∈ zTB := zmem 1299 (by decide +kernel) rfl
def F_X11_see (i : Nat) (X Y : Nat → Int → Int) (R : Nat → Int → Option Nat)  : Prop := (∀ i j, rI (X i j)) → (∀ i j, rL (Y i j)) → (((X (i) 12) ≤ (X (i) 11)) → ((-1) = mSee X i)) ∧ ((¬ ((X (i) 12) ≤ (X (i) 11))) → ((0 ≤ (X (i) 11) ∧ (X (i) 11) < 2400) ∧ (zAnd (X (i + 1) (X (i) 11)) (255) = mSee X i)))
set_option maxHeartbeats 4000000 in
set_option maxRecDepth 100000 in
theorem w_X11_see {l : Launch} {D : va_G} {cy : Nat → ClassId} {bs N : Nat} {sa : Nat → Nat} {kd len : Nat → Nat} {X Y : Nat → Int → Int} {R : Nat → Int → Option Nat} {i : Nat} (hM : zM N kd len R i)  (hF : F_X11_see i X Y R ) : Met l yX11_see (.code yX11_see cX11_see 1 (some .int) :: zTB) (zRm 0 0) (zPc D cy bs sa N kd len X Y R [.ref (bs + (i))]) (zQi D cy bs N kd len (fun r st => r = mSee X i ∧ st = (X, Y, R))) 0 0 (zA bs) := by
  refine zstart (by decide) (Nat.le_of_ble_eq_true rfl) ?_
  intro p e s m args below meth c ls C hE hH hr hlk hnm hl hargs
  have hF := hF hH.2.2.1 hH.2.2.2
  have hS : va_S (zA bs) s.heap s.heap [] := va_S.rf
  have hl : lv_has ls 1 [(0, .ref (bs + (i)))] := hl
  refine lv_aload_n C.1 C.2.1 dX11_see_0 rfl (lv_at hl 0 rfl) ?_
  refine zg11_11 C hH (zM_n0 hM) (zM_k0 hM) q_1298 dX11_see_1 ?_
  refine lv_aload_n C.1 C.2.1 dX11_see_4 rfl (lv_at hl 0 rfl) ?_
  refine zg11_12 C hH (zM_n0 hM) (zM_k0 hM) q_1299 dX11_see_5 ?_
  refine zd_icmp_ge C (hH.2.2.1 _ _) (hH.2.2.1 _ _) 27 dX11_see_8 (by decide) (fun c1 => ?_) (fun c1 => ?_)
  · have hF := hF.1 c1
    refine zd_iconst C dX11_see_27 ?_
    exact zd_iret C hr hlk hH hS (by decide) (⟨hF, rfl⟩) dX11_see_28
  · have hF := hF.2 c1
    refine lv_aload_n C.1 C.2.1 dX11_see_11 rfl (lv_at hl 0 rfl) ?_
    refine zg11_1 C hH (zM_n0 hM) (zM_k0 hM) q_1288 (zM_r1 hM) dX11_see_12 ?_
    refine lv_aload_n C.1 C.2.1 dX11_see_15 rfl (lv_at hl 0 rfl) ?_
    refine zg11_11 C hH (zM_n0 hM) (zM_k0 hM) q_1298 dX11_see_16 ?_
    obtain ⟨o2, hF⟩ := hF
    refine zd_bald C hH (zM_n1 hM) (zM_k1 hM) o2.1 (by rw [zM_l1 hM]; exact o2.2) (by rw [zM_l1 hM]; decide) dX11_see_19 ?_
    refine zd_sipush C (by decide) dX11_see_20 ?_
    refine zd_iand C dX11_see_23 ?_
    refine lv_goto (tgt := 28) C.1 C.2.1 dX11_see_24 (by decide) ?_
    exact zd_iret C hr hlk hH hS (zI_rg _) (⟨hF, rfl⟩) dX11_see_28
theorem v_X11_see {X Y : Nat → Int → Int} {R : Nat → Int → Option Nat} {i : Nat}  (hp : oRd X i) : F_X11_see i X Y R  := by
  unfold F_X11_see
  intro hX hY
  obtain ⟨h1, h2, h3⟩ := hp
  unfold mSee
  refine ⟨?_, ?_⟩
  · intro c1
    rw [if_neg (by omega)]
  intro c2
  refine ⟨?_, ?_⟩
  · first | omega | exact ⟨by omega, by omega⟩ | decide | assumption | exact ⟨by omega, by omega, by omega⟩ | exact ⟨by decide, by decide⟩
  rw [if_pos (by omega)]
theorem c_X11_see {l : Launch} {D : va_G} {cy : Nat → ClassId} {bs N : Nat} {sa : Nat → Nat} {kd len : Nat → Nat} {X Y : Nat → Int → Int} {R : Nat → Int → Option Nat} {i : Nat} (hM : zM N kd len R i)  (hp : oRd X i) : Met l yX11_see (.code yX11_see cX11_see 1 (some .int) :: zTB) (zRm 0 0) (zPc D cy bs sa N kd len X Y R [.ref (bs + (i))]) (zQi D cy bs N kd len (fun r st => r = mSee X i ∧ st = (X, Y, R))) 0 0 (zA bs) := w_X11_see hM  (v_X11_see  hp)
abbrev cX11_token : ByteArray := prog_13_method_15_code
def yX11_token : MethodName := ⟨RX11, "token", "()V"⟩
theorem dX11_token_0 : decode cX11_token 0 = .ok (.aload_n 0, 1) := by decide +kernel
theorem dX11_token_1 : decode cX11_token 1 = .ok (.invokevirtual 114, 3) := by decide +kernel
theorem dX11_token_4 : decode cX11_token 4 = .ok (.bipush 10, 2) := by decide +kernel
theorem dX11_token_6 : decode cX11_token 6 = .ok (.if_icmp .eq 12, 3) := by decide +kernel
theorem dX11_token_9 : decode cX11_token 9 = .ok (.aload_n 0, 1) := by decide +kernel
theorem dX11_token_10 : decode cX11_token 10 = .ok (.invokevirtual 114, 3) := by decide +kernel
theorem dX11_token_13 : decode cX11_token 13 = .ok (.bipush 32, 2) := by decide +kernel
theorem dX11_token_15 : decode cX11_token 15 = .ok (.if_icmp .ne 16, 3) := by decide +kernel
theorem dX11_token_18 : decode cX11_token 18 = .ok (.aload_n 0, 1) := by decide +kernel
theorem dX11_token_19 : decode cX11_token 19 = .ok (.dup, 1) := by decide +kernel
theorem dX11_token_20 : decode cX11_token 20 = .ok (.getfield 108, 3) := by decide +kernel
theorem dX11_token_23 : decode cX11_token 23 = .ok (.iconst 1, 1) := by decide +kernel
theorem dX11_token_24 : decode cX11_token 24 = .ok (.iadd, 1) := by decide +kernel
theorem dX11_token_25 : decode cX11_token 25 = .ok (.putfield 108, 3) := by decide +kernel
theorem dX11_token_28 : decode cX11_token 28 = .ok (.goto (-28), 3) := by decide +kernel
theorem dX11_token_31 : decode cX11_token 31 = .ok (.aload_n 0, 1) := by decide +kernel
theorem dX11_token_32 : decode cX11_token 32 = .ok (.aload_n 0, 1) := by decide +kernel
theorem dX11_token_33 : decode cX11_token 33 = .ok (.getfield 108, 3) := by decide +kernel
theorem dX11_token_36 : decode cX11_token 36 = .ok (.putfield 118, 3) := by decide +kernel
theorem dX11_token_39 : decode cX11_token 39 = .ok (.aload_n 0, 1) := by decide +kernel
theorem dX11_token_40 : decode cX11_token 40 = .ok (.invokevirtual 114, 3) := by decide +kernel
theorem dX11_token_43 : decode cX11_token 43 = .ok (.istore_n 1, 1) := by decide +kernel
theorem dX11_token_44 : decode cX11_token 44 = .ok (.aload_n 0, 1) := by decide +kernel
theorem dX11_token_45 : decode cX11_token 45 = .ok (.lconst 0, 1) := by decide +kernel
theorem dX11_token_46 : decode cX11_token 46 = .ok (.putfield 121, 3) := by decide +kernel
theorem dX11_token_49 : decode cX11_token 49 = .ok (.iconst 0, 1) := by decide +kernel
theorem dX11_token_50 : decode cX11_token 50 = .ok (.istore_n 2, 1) := by decide +kernel
theorem dX11_token_51 : decode cX11_token 51 = .ok (.iload_n 1, 1) := by decide +kernel
theorem dX11_token_52 : decode cX11_token 52 = .ok (.ifCond .ge 11, 3) := by decide +kernel
theorem dX11_token_55 : decode cX11_token 55 = .ok (.aload_n 0, 1) := by decide +kernel
theorem dX11_token_56 : decode cX11_token 56 = .ok (.iconst 0, 1) := by decide +kernel
theorem dX11_token_57 : decode cX11_token 57 = .ok (.putfield 125, 3) := by decide +kernel
theorem dX11_token_60 : decode cX11_token 60 = .ok (.goto 206, 3) := by decide +kernel
theorem dX11_token_63 : decode cX11_token 63 = .ok (.iload_n 1, 1) := by decide +kernel
theorem dX11_token_64 : decode cX11_token 64 = .ok (.bipush 97, 2) := by decide +kernel
theorem dX11_token_66 : decode cX11_token 66 = .ok (.bipush 122, 2) := by decide +kernel
theorem dX11_token_68 : decode cX11_token 68 = .ok (.invokestatic 100, 3) := by decide +kernel
theorem dX11_token_71 : decode cX11_token 71 = .ok (.ifCond .eq 76, 3) := by decide +kernel
theorem dX11_token_74 : decode cX11_token 74 = .ok (.aload_n 0, 1) := by decide +kernel
theorem dX11_token_75 : decode cX11_token 75 = .ok (.invokevirtual 114, 3) := by decide +kernel
theorem dX11_token_78 : decode cX11_token 78 = .ok (.bipush 97, 2) := by decide +kernel
theorem dX11_token_80 : decode cX11_token 80 = .ok (.bipush 122, 2) := by decide +kernel
theorem dX11_token_82 : decode cX11_token 82 = .ok (.invokestatic 100, 3) := by decide +kernel
theorem dX11_token_85 : decode cX11_token 85 = .ok (.ifCond .eq 36, 3) := by decide +kernel
theorem dX11_token_88 : decode cX11_token 88 = .ok (.aload_n 0, 1) := by decide +kernel
theorem dX11_token_89 : decode cX11_token 89 = .ok (.aload_n 0, 1) := by decide +kernel
theorem dX11_token_90 : decode cX11_token 90 = .ok (.getfield 121, 3) := by decide +kernel
theorem dX11_token_93 : decode cX11_token 93 = .ok (.bipush 8, 2) := by decide +kernel
theorem dX11_token_95 : decode cX11_token 95 = .ok (.lshl, 1) := by decide +kernel
theorem dX11_token_96 : decode cX11_token 96 = .ok (.aload_n 0, 1) := by decide +kernel
theorem dX11_token_97 : decode cX11_token 97 = .ok (.invokevirtual 114, 3) := by decide +kernel
theorem dX11_token_100 : decode cX11_token 100 = .ok (.i2l, 1) := by decide +kernel
theorem dX11_token_101 : decode cX11_token 101 = .ok (.lor, 1) := by decide +kernel
theorem dX11_token_102 : decode cX11_token 102 = .ok (.putfield 121, 3) := by decide +kernel
theorem dX11_token_105 : decode cX11_token 105 = .ok (.aload_n 0, 1) := by decide +kernel
theorem dX11_token_106 : decode cX11_token 106 = .ok (.dup, 1) := by decide +kernel
theorem dX11_token_107 : decode cX11_token 107 = .ok (.getfield 108, 3) := by decide +kernel
theorem dX11_token_110 : decode cX11_token 110 = .ok (.iconst 1, 1) := by decide +kernel
theorem dX11_token_111 : decode cX11_token 111 = .ok (.iadd, 1) := by decide +kernel
theorem dX11_token_112 : decode cX11_token 112 = .ok (.putfield 108, 3) := by decide +kernel
theorem dX11_token_115 : decode cX11_token 115 = .ok (.iinc 2 1, 3) := by decide +kernel
theorem dX11_token_118 : decode cX11_token 118 = .ok (.goto (-44), 3) := by decide +kernel
theorem dX11_token_121 : decode cX11_token 121 = .ok (.aload_n 0, 1) := by decide +kernel
theorem dX11_token_122 : decode cX11_token 122 = .ok (.iload_n 2, 1) := by decide +kernel
theorem dX11_token_123 : decode cX11_token 123 = .ok (.bipush 8, 2) := by decide +kernel
theorem dX11_token_125 : decode cX11_token 125 = .ok (.if_icmp .le 7, 3) := by decide +kernel
theorem dX11_token_128 : decode cX11_token 128 = .ok (.lconst 0, 1) := by decide +kernel
theorem dX11_token_129 : decode cX11_token 129 = .ok (.goto 7, 3) := by decide +kernel
theorem dX11_token_132 : decode cX11_token 132 = .ok (.aload_n 0, 1) := by decide +kernel
theorem dX11_token_133 : decode cX11_token 133 = .ok (.getfield 121, 3) := by decide +kernel
theorem dX11_token_136 : decode cX11_token 136 = .ok (.putfield 121, 3) := by decide +kernel
theorem dX11_token_139 : decode cX11_token 139 = .ok (.aload_n 0, 1) := by decide +kernel
theorem dX11_token_140 : decode cX11_token 140 = .ok (.iconst 2, 1) := by decide +kernel
theorem dX11_token_141 : decode cX11_token 141 = .ok (.putfield 125, 3) := by decide +kernel
theorem dX11_token_144 : decode cX11_token 144 = .ok (.goto 122, 3) := by decide +kernel
theorem dX11_token_147 : decode cX11_token 147 = .ok (.iload_n 1, 1) := by decide +kernel
theorem dX11_token_148 : decode cX11_token 148 = .ok (.bipush 48, 2) := by decide +kernel
theorem dX11_token_150 : decode cX11_token 150 = .ok (.bipush 57, 2) := by decide +kernel
theorem dX11_token_152 : decode cX11_token 152 = .ok (.invokestatic 100, 3) := by decide +kernel
theorem dX11_token_155 : decode cX11_token 155 = .ok (.ifCond .eq 86, 3) := by decide +kernel
theorem dX11_token_158 : decode cX11_token 158 = .ok (.aload_n 0, 1) := by decide +kernel
theorem dX11_token_159 : decode cX11_token 159 = .ok (.iconst 0, 1) := by decide +kernel
theorem dX11_token_160 : decode cX11_token 160 = .ok (.putfield 128, 3) := by decide +kernel
theorem dX11_token_163 : decode cX11_token 163 = .ok (.aload_n 0, 1) := by decide +kernel
theorem dX11_token_164 : decode cX11_token 164 = .ok (.invokevirtual 114, 3) := by decide +kernel
theorem dX11_token_167 : decode cX11_token 167 = .ok (.bipush 48, 2) := by decide +kernel
theorem dX11_token_169 : decode cX11_token 169 = .ok (.bipush 57, 2) := by decide +kernel
theorem dX11_token_171 : decode cX11_token 171 = .ok (.invokestatic 100, 3) := by decide +kernel
theorem dX11_token_174 : decode cX11_token 174 = .ok (.ifCond .eq 50, 3) := by decide +kernel
theorem dX11_token_177 : decode cX11_token 177 = .ok (.aload_n 0, 1) := by decide +kernel
theorem dX11_token_178 : decode cX11_token 178 = .ok (.iload_n 2, 1) := by decide +kernel
theorem dX11_token_179 : decode cX11_token 179 = .ok (.iconst 2, 1) := by decide +kernel
theorem dX11_token_180 : decode cX11_token 180 = .ok (.if_icmp .ge 21, 3) := by decide +kernel
theorem dX11_token_183 : decode cX11_token 183 = .ok (.bipush 10, 2) := by decide +kernel
theorem dX11_token_185 : decode cX11_token 185 = .ok (.aload_n 0, 1) := by decide +kernel
theorem dX11_token_186 : decode cX11_token 186 = .ok (.getfield 128, 3) := by decide +kernel
theorem dX11_token_189 : decode cX11_token 189 = .ok (.imul, 1) := by decide +kernel
theorem dX11_token_190 : decode cX11_token 190 = .ok (.aload_n 0, 1) := by decide +kernel
theorem dX11_token_191 : decode cX11_token 191 = .ok (.invokevirtual 114, 3) := by decide +kernel
theorem dX11_token_194 : decode cX11_token 194 = .ok (.iadd, 1) := by decide +kernel
theorem dX11_token_195 : decode cX11_token 195 = .ok (.bipush 48, 2) := by decide +kernel
theorem dX11_token_197 : decode cX11_token 197 = .ok (.isub, 1) := by decide +kernel
theorem dX11_token_198 : decode cX11_token 198 = .ok (.goto 7, 3) := by decide +kernel
theorem dX11_token_201 : decode cX11_token 201 = .ok (.aload_n 0, 1) := by decide +kernel
theorem dX11_token_202 : decode cX11_token 202 = .ok (.getfield 128, 3) := by decide +kernel
theorem dX11_token_205 : decode cX11_token 205 = .ok (.putfield 128, 3) := by decide +kernel
theorem dX11_token_208 : decode cX11_token 208 = .ok (.aload_n 0, 1) := by decide +kernel
theorem dX11_token_209 : decode cX11_token 209 = .ok (.dup, 1) := by decide +kernel
theorem dX11_token_210 : decode cX11_token 210 = .ok (.getfield 108, 3) := by decide +kernel
theorem dX11_token_213 : decode cX11_token 213 = .ok (.iconst 1, 1) := by decide +kernel
theorem dX11_token_214 : decode cX11_token 214 = .ok (.iadd, 1) := by decide +kernel
theorem dX11_token_215 : decode cX11_token 215 = .ok (.putfield 108, 3) := by decide +kernel
theorem dX11_token_218 : decode cX11_token 218 = .ok (.iinc 2 1, 3) := by decide +kernel
theorem dX11_token_221 : decode cX11_token 221 = .ok (.goto (-58), 3) := by decide +kernel
theorem dX11_token_224 : decode cX11_token 224 = .ok (.aload_n 0, 1) := by decide +kernel
theorem dX11_token_225 : decode cX11_token 225 = .ok (.iload_n 2, 1) := by decide +kernel
theorem dX11_token_226 : decode cX11_token 226 = .ok (.iconst 2, 1) := by decide +kernel
theorem dX11_token_227 : decode cX11_token 227 = .ok (.if_icmp .le 7, 3) := by decide +kernel
theorem dX11_token_230 : decode cX11_token 230 = .ok (.iconst 1, 1) := by decide +kernel
theorem dX11_token_231 : decode cX11_token 231 = .ok (.goto 4, 3) := by decide +kernel
theorem dX11_token_234 : decode cX11_token 234 = .ok (.iconst 3, 1) := by decide +kernel
theorem dX11_token_235 : decode cX11_token 235 = .ok (.putfield 125, 3) := by decide +kernel
theorem dX11_token_238 : decode cX11_token 238 = .ok (.goto 28, 3) := by decide +kernel
theorem dX11_token_241 : decode cX11_token 241 = .ok (.aload_n 0, 1) := by decide +kernel
theorem dX11_token_242 : decode cX11_token 242 = .ok (.dup, 1) := by decide +kernel
theorem dX11_token_243 : decode cX11_token 243 = .ok (.getfield 108, 3) := by decide +kernel
theorem dX11_token_246 : decode cX11_token 246 = .ok (.iconst 1, 1) := by decide +kernel
theorem dX11_token_247 : decode cX11_token 247 = .ok (.iadd, 1) := by decide +kernel
theorem dX11_token_248 : decode cX11_token 248 = .ok (.putfield 108, 3) := by decide +kernel
theorem dX11_token_251 : decode cX11_token 251 = .ok (.aload_n 0, 1) := by decide +kernel
theorem dX11_token_252 : decode cX11_token 252 = .ok (.iload_n 1, 1) := by decide +kernel
theorem dX11_token_253 : decode cX11_token 253 = .ok (.bipush 59, 2) := by decide +kernel
theorem dX11_token_255 : decode cX11_token 255 = .ok (.if_icmp .ne 7, 3) := by decide +kernel
theorem dX11_token_258 : decode cX11_token 258 = .ok (.iconst 4, 1) := by decide +kernel
theorem dX11_token_259 : decode cX11_token 259 = .ok (.goto 4, 3) := by decide +kernel
theorem dX11_token_262 : decode cX11_token 262 = .ok (.iconst 1, 1) := by decide +kernel
theorem dX11_token_263 : decode cX11_token 263 = .ok (.putfield 125, 3) := by decide +kernel
theorem dX11_token_266 : decode cX11_token 266 = .ok (.return_, 1) := by decide +kernel
theorem q_1517 : Cond.methodLink RX11 114 yX11_see ∈ zTB := zmem 1517 (by decide +kernel) rfl
theorem q_1519 : Cond.instanceMethod yX11_see ∈ zTB := zmem 1519 (by decide +kernel) rfl
theorem q_37 : Cond.selects RX11 yX11_see yX11_see ∈ zTB := zmem 37 (by decide +kernel) rfl
theorem q_1520 : Cond.code yX11_see cX11_see 1 (some .int) ∈ zTB := zmem 1520 (by decide +kernel) rfl
theorem k_RX11_114 : zLv RX11 114 RX11 yX11_see cX11_see 1 (some .int) 0 := ⟨⟨q_1517, q_1519, q_37, q_140, q_1520⟩, rfl, ⟨by decide, by decide⟩, by decide +kernel⟩
theorem q_1300 : Cond.fieldLink RX11 118 RX11 "begins" "I" ∈ zTB := zmem 1300 (by decide +kernel) rfl
theorem q_1303 : Cond.fieldLink RX11 121 RX11 "word" "J" ∈ zTB := zmem 1303 (by decide +kernel) rfl
theorem q_1301 : Cond.fieldLink RX11 125 RX11 "sort" "I" ∈ zTB := zmem 1301 (by decide +kernel) rfl
theorem q_1302 : Cond.fieldLink RX11 128 RX11 "value" "I" ∈ zTB := zmem 1302 (by decide +kernel) rfl
def F_X11_token (i : Nat) (X Y : Nat → Int → Int) (R : Nat → Int → Option Nat)  : Prop := (∀ i j, rI (X i j)) → (∀ i j, rL (Y i j)) → ((∀ z, z ≠ i → X z = X z) ∧ (∀ s, s ≠ 11 → X i s = X i s) ∧ ∃ q : Nat, X i 11 = q ∧ q ≤ (X i 12).toNat ∧ tkB (X (i + 1)) (X i 12).toNat (X i 11).toNat = en isBl (X (i + 1)) (X i 12).toNat q) ∧ (∀ (X2 : Nat → Int → Int), (∀ i j, rI (X2 i j)) → ((∀ z, z ≠ i → X2 z = X z) ∧ (∀ s, s ≠ 11 → X2 i s = X i s) ∧ ∃ q : Nat, X2 i 11 = q ∧ q ≤ (X i 12).toNat ∧ tkB (X (i + 1)) (X i 12).toNat (X i 11).toNat = en isBl (X (i + 1)) (X i 12).toNat q) → ((oRd X2 i) ∧ (rI (mSee X2 i) → ((((mSee X2 i) = 10) → ((rI ((X2 (i) 11) + 1)) ∧ (∀ X7 : Nat → Int → Int, X7 = zU X2 (i) 11 ((X2 (i) 11) + 1) → (∀ i j, rI (X7 i j)) → (((∀ z, z ≠ i → X7 z = X z) ∧ (∀ s, s ≠ 11 → X7 i s = X i s) ∧ ∃ q : Nat, X7 i 11 = q ∧ q ≤ (X i 12).toNat ∧ tkB (X (i + 1)) (X i 12).toNat (X i 11).toNat = en isBl (X (i + 1)) (X i 12).toNat q) ∧ (((X i 12 - X7 i 11).toNat) < ((X i 12 - X2 i 11).toNat)))))) ∧ ((¬ ((mSee X2 i) = 10)) → ((oRd X2 i) ∧ (rI (mSee X2 i) → (((¬ (mSee X2 i) = 32) → (∀ X11 : Nat → Int → Int, X11 = zU X2 (i) 13 (X2 (i) 11) → (∀ i j, rI (X11 i j)) → ((oRd X11 i) ∧ (rI (mSee X11 i) → (∀ Y14 : Nat → Int → Int, Y14 = zU Y (i) 16 (0) → (∀ i j, rL (Y14 i j)) → (((0 ≤ (mSee X11 i)) → ((((mIn (mSee X11 i) ((97 : Int)) ((122 : Int))) = false) → ((((mIn (mSee X11 i) ((48 : Int)) ((57 : Int))) = false) → ((rI ((X11 (i) 11) + 1)) ∧ (∀ X19 : Nat → Int → Int, X19 = zU X11 (i) 11 ((X11 (i) 11) + 1) → (∀ i j, rI (X19 i j)) → (((¬ (mSee X11 i) = 59) → (∀ X21 : Nat → Int → Int, X21 = zU X19 (i) 14 (1) → (∀ i j, rI (X21 i j)) → (tkC X (X21) Y (Y14) i ∧ (X21) i 11 = tkN (X (i + 1)) (X i 12).toNat (X i 11).toNat ∧ (X21) i 13 = tkB (X (i + 1)) (X i 12).toNat (X i 11).toNat ∧ (X21) i 14 = tkS (X (i + 1)) (X i 12).toNat (X i 11).toNat ∧ ((X21) i 14 = 3 → (X21) i 15 = tkV (X (i + 1)) (X i 12).toNat (X i 11).toNat) ∧ ((X21) i 14 = 2 → (Y14) i 16 = tkW (X (i + 1)) (X i 12).toNat (X i 11).toNat)))) ∧ ((¬ (¬ (mSee X11 i) = 59)) → (∀ X22 : Nat → Int → Int, X22 = zU X19 (i) 14 (4) → (∀ i j, rI (X22 i j)) → (tkC X (X22) Y (Y14) i ∧ (X22) i 11 = tkN (X (i + 1)) (X i 12).toNat (X i 11).toNat ∧ (X22) i 13 = tkB (X (i + 1)) (X i 12).toNat (X i 11).toNat ∧ (X22) i 14 = tkS (X (i + 1)) (X i 12).toNat (X i 11).toNat ∧ ((X22) i 14 = 3 → (X22) i 15 = tkV (X (i + 1)) (X i 12).toNat (X i 11).toNat) ∧ ((X22) i 14 = 2 → (Y14) i 16 = tkW (X (i + 1)) (X i 12).toNat (X i 11).toNat)))))))) ∧ (((mIn (mSee X11 i) ((48 : Int)) ((57 : Int))) = true) → (∀ X23 : Nat → Int → Int, X23 = zU X11 (i) 15 (0) → (∀ i j, rI (X23 i j)) → (((∀ z, z ≠ i → X23 z = X z) ∧ (∀ s, s ≠ 11 → s ≠ 13 → s ≠ 15 → X23 i s = X i s) ∧ X23 i 13 = X23 i 13 ∧ ∃ k : Nat, (0 : Int) = k ∧ X23 i 11 = (((tkB (X (i + 1)) (X i 12).toNat (X i 11).toNat) + k : Nat) : Int) ∧ (tkB (X (i + 1)) (X i 12).toNat (X i 11).toNat) + k ≤ (X i 12).toNat ∧ en isDi (X (i + 1)) (X i 12).toNat (tkB (X (i + 1)) (X i 12).toNat (X i 11).toNat) = en isDi (X (i + 1)) (X i 12).toNat ((tkB (X (i + 1)) (X i 12).toNat (X i 11).toNat) + k) ∧ (∀ j, j < k → isDi ((X (i + 1)) (((tkB (X (i + 1)) (X i 12).toNat (X i 11).toNat) + j : Nat) : Int)) = true) ∧ X23 i 15 = vaN (X (i + 1)) (tkB (X (i + 1)) (X i 12).toNat (X i 11).toNat) k) ∧ (∀ (wn : Int) (X25 : Nat → Int → Int), rI wn → (∀ i j, rI (X25 i j)) → ((∀ z, z ≠ i → X25 z = X z) ∧ (∀ s, s ≠ 11 → s ≠ 13 → s ≠ 15 → X25 i s = X i s) ∧ X25 i 13 = X23 i 13 ∧ ∃ k : Nat, wn = k ∧ X25 i 11 = (((tkB (X (i + 1)) (X i 12).toNat (X i 11).toNat) + k : Nat) : Int) ∧ (tkB (X (i + 1)) (X i 12).toNat (X i 11).toNat) + k ≤ (X i 12).toNat ∧ en isDi (X (i + 1)) (X i 12).toNat (tkB (X (i + 1)) (X i 12).toNat (X i 11).toNat) = en isDi (X (i + 1)) (X i 12).toNat ((tkB (X (i + 1)) (X i 12).toNat (X i 11).toNat) + k) ∧ (∀ j, j < k → isDi ((X (i + 1)) (((tkB (X (i + 1)) (X i 12).toNat (X i 11).toNat) + j : Nat) : Int)) = true) ∧ X25 i 15 = vaN (X (i + 1)) (tkB (X (i + 1)) (X i 12).toNat (X i 11).toNat) k) → ((oRd X25 i) ∧ (rI (mSee X25 i) → ((((mIn (mSee X25 i) ((48 : Int)) ((57 : Int))) = false) → (((wn ≤ 2) → (∀ X30 : Nat → Int → Int, X30 = zU X25 (i) 14 (3) → (∀ i j, rI (X30 i j)) → (tkC X (X30) Y (Y14) i ∧ (X30) i 11 = tkN (X (i + 1)) (X i 12).toNat (X i 11).toNat ∧ (X30) i 13 = tkB (X (i + 1)) (X i 12).toNat (X i 11).toNat ∧ (X30) i 14 = tkS (X (i + 1)) (X i 12).toNat (X i 11).toNat ∧ ((X30) i 14 = 3 → (X30) i 15 = tkV (X (i + 1)) (X i 12).toNat (X i 11).toNat) ∧ ((X30) i 14 = 2 → (Y14) i 16 = tkW (X (i + 1)) (X i 12).toNat (X i 11).toNat)))) ∧ ((¬ (wn ≤ 2)) → (∀ X31 : Nat → Int → Int, X31 = zU X25 (i) 14 (1) → (∀ i j, rI (X31 i j)) → (tkC X (X31) Y (Y14) i ∧ (X31) i 11 = tkN (X (i + 1)) (X i 12).toNat (X i 11).toNat ∧ (X31) i 13 = tkB (X (i + 1)) (X i 12).toNat (X i 11).toNat ∧ (X31) i 14 = tkS (X (i + 1)) (X i 12).toNat (X i 11).toNat ∧ ((X31) i 14 = 3 → (X31) i 15 = tkV (X (i + 1)) (X i 12).toNat (X i 11).toNat) ∧ ((X31) i 14 = 2 → (Y14) i 16 = tkW (X (i + 1)) (X i 12).toNat (X i 11).toNat)))))) ∧ (((mIn (mSee X25 i) ((48 : Int)) ((57 : Int))) = true) → ((∀ (X32 : Nat → Int → Int), (∀ i j, rI (X32 i j)) → (X32 = zU X25 i 15 (if wn < 2 then 10 * X25 i 15 + mSee X25 i - 48 else X25 i 15)) → ((rI ((X32 (i) 11) + 1)) ∧ (∀ X34 : Nat → Int → Int, X34 = zU X32 (i) 11 ((X32 (i) 11) + 1) → (∀ i j, rI (X34 i j)) → ((rI (wn + 1)) ∧ ((∀ z, z ≠ i → X34 z = X z) ∧ (∀ s, s ≠ 11 → s ≠ 13 → s ≠ 15 → X34 i s = X i s) ∧ X34 i 13 = X23 i 13 ∧ ∃ k : Nat, wn + 1 = k ∧ X34 i 11 = (((tkB (X (i + 1)) (X i 12).toNat (X i 11).toNat) + k : Nat) : Int) ∧ (tkB (X (i + 1)) (X i 12).toNat (X i 11).toNat) + k ≤ (X i 12).toNat ∧ en isDi (X (i + 1)) (X i 12).toNat (tkB (X (i + 1)) (X i 12).toNat (X i 11).toNat) = en isDi (X (i + 1)) (X i 12).toNat ((tkB (X (i + 1)) (X i 12).toNat (X i 11).toNat) + k) ∧ (∀ j, j < k → isDi ((X (i + 1)) (((tkB (X (i + 1)) (X i 12).toNat (X i 11).toNat) + j : Nat) : Int)) = true) ∧ X34 i 15 = vaN (X (i + 1)) (tkB (X (i + 1)) (X i 12).toNat (X i 11).toNat) k) ∧ (((X i 12 - X34 i 11).toNat) < ((X i 12 - X25 i 11).toNat)))))) ∧ (((2 ≤ wn) → (∀ X37 : Nat → Int → Int, X37 = zU X25 (i) 15 (X25 (i) 15) → (∀ i j, rI (X37 i j)) → (X37 = zU X25 i 15 (if wn < 2 then 10 * X25 i 15 + mSee X25 i - 48 else X25 i 15)))) ∧ ((¬ (2 ≤ wn)) → ((oRd X25 i) ∧ (rI (mSee X25 i) → ((rI (((10 * (X25 (i) 15)) + (mSee X25 i)) - 48)) ∧ (∀ X41 : Nat → Int → Int, X41 = zU X25 (i) 15 (((10 * (X25 (i) 15)) + (mSee X25 i)) - 48) → (∀ i j, rI (X41 i j)) → (X41 = zU X25 i 15 (if wn < 2 then 10 * X25 i 15 + mSee X25 i - 48 else X25 i 15))))))))))))))))))) ∧ (((mIn (mSee X11 i) ((97 : Int)) ((122 : Int))) = true) → (((∀ z, z ≠ i → X11 z = X z) ∧ (∀ s, s ≠ 11 → s ≠ 13 → X11 i s = X i s) ∧ (∀ z, z ≠ i → Y14 z = Y z) ∧ X11 i 13 = X11 i 13 ∧ ∃ k : Nat, (0 : Int) = k ∧ X11 i 11 = (((tkB (X (i + 1)) (X i 12).toNat (X i 11).toNat) + k : Nat) : Int) ∧ (tkB (X (i + 1)) (X i 12).toNat (X i 11).toNat) + k ≤ (X i 12).toNat ∧ en isLe (X (i + 1)) (X i 12).toNat (tkB (X (i + 1)) (X i 12).toNat (X i 11).toNat) = en isLe (X (i + 1)) (X i 12).toNat ((tkB (X (i + 1)) (X i 12).toNat (X i 11).toNat) + k) ∧ (∀ j, j < k → isLe ((X (i + 1)) (((tkB (X (i + 1)) (X i 12).toNat (X i 11).toNat) + j : Nat) : Int)) = true) ∧ (k ≤ 8 → Y14 i 16 = (wvA (X (i + 1)) (tkB (X (i + 1)) (X i 12).toNat (X i 11).toNat) k : Nat))) ∧ (∀ (wn : Int) (X43 : Nat → Int → Int) (Y44 : Nat → Int → Int), rI wn → (∀ i j, rI (X43 i j)) → (∀ i j, rL (Y44 i j)) → ((∀ z, z ≠ i → X43 z = X z) ∧ (∀ s, s ≠ 11 → s ≠ 13 → X43 i s = X i s) ∧ (∀ z, z ≠ i → Y44 z = Y z) ∧ X43 i 13 = X11 i 13 ∧ ∃ k : Nat, wn = k ∧ X43 i 11 = (((tkB (X (i + 1)) (X i 12).toNat (X i 11).toNat) + k : Nat) : Int) ∧ (tkB (X (i + 1)) (X i 12).toNat (X i 11).toNat) + k ≤ (X i 12).toNat ∧ en isLe (X (i + 1)) (X i 12).toNat (tkB (X (i + 1)) (X i 12).toNat (X i 11).toNat) = en isLe (X (i + 1)) (X i 12).toNat ((tkB (X (i + 1)) (X i 12).toNat (X i 11).toNat) + k) ∧ (∀ j, j < k → isLe ((X (i + 1)) (((tkB (X (i + 1)) (X i 12).toNat (X i 11).toNat) + j : Nat) : Int)) = true) ∧ (k ≤ 8 → Y44 i 16 = (wvA (X (i + 1)) (tkB (X (i + 1)) (X i 12).toNat (X i 11).toNat) k : Nat))) → ((oRd X43 i) ∧ (rI (mSee X43 i) → ((((mIn (mSee X43 i) ((97 : Int)) ((122 : Int))) = false) → (((wn ≤ 8) → (∀ Y49 : Nat → Int → Int, Y49 = zU Y44 (i) 16 (Y44 (i) 16) → (∀ i j, rL (Y49 i j)) → (∀ X50 : Nat → Int → Int, X50 = zU X43 (i) 14 (2) → (∀ i j, rI (X50 i j)) → (tkC X (X50) Y (Y49) i ∧ (X50) i 11 = tkN (X (i + 1)) (X i 12).toNat (X i 11).toNat ∧ (X50) i 13 = tkB (X (i + 1)) (X i 12).toNat (X i 11).toNat ∧ (X50) i 14 = tkS (X (i + 1)) (X i 12).toNat (X i 11).toNat ∧ ((X50) i 14 = 3 → (X50) i 15 = tkV (X (i + 1)) (X i 12).toNat (X i 11).toNat) ∧ ((X50) i 14 = 2 → (Y49) i 16 = tkW (X (i + 1)) (X i 12).toNat (X i 11).toNat))))) ∧ ((¬ (wn ≤ 8)) → (∀ Y51 : Nat → Int → Int, Y51 = zU Y44 (i) 16 (0) → (∀ i j, rL (Y51 i j)) → (∀ X52 : Nat → Int → Int, X52 = zU X43 (i) 14 (2) → (∀ i j, rI (X52 i j)) → (tkC X (X52) Y (Y51) i ∧ (X52) i 11 = tkN (X (i + 1)) (X i 12).toNat (X i 11).toNat ∧ (X52) i 13 = tkB (X (i + 1)) (X i 12).toNat (X i 11).toNat ∧ (X52) i 14 = tkS (X (i + 1)) (X i 12).toNat (X i 11).toNat ∧ ((X52) i 14 = 3 → (X52) i 15 = tkV (X (i + 1)) (X i 12).toNat (X i 11).toNat) ∧ ((X52) i 14 = 2 → (Y51) i 16 = tkW (X (i + 1)) (X i 12).toNat (X i 11).toNat))))))) ∧ (((mIn (mSee X43 i) ((97 : Int)) ((122 : Int))) = true) → ((oRd X43 i) ∧ (rI (mSee X43 i) → (∀ Y55 : Nat → Int → Int, Y55 = zU Y44 (i) 16 (zLor (zLsh (Y44 (i) 16) (8)) (mSee X43 i)) → (∀ i j, rL (Y55 i j)) → ((rI ((X43 (i) 11) + 1)) ∧ (∀ X57 : Nat → Int → Int, X57 = zU X43 (i) 11 ((X43 (i) 11) + 1) → (∀ i j, rI (X57 i j)) → ((rI (wn + 1)) ∧ ((∀ z, z ≠ i → X57 z = X z) ∧ (∀ s, s ≠ 11 → s ≠ 13 → X57 i s = X i s) ∧ (∀ z, z ≠ i → Y55 z = Y z) ∧ X57 i 13 = X11 i 13 ∧ ∃ k : Nat, wn + 1 = k ∧ X57 i 11 = (((tkB (X (i + 1)) (X i 12).toNat (X i 11).toNat) + k : Nat) : Int) ∧ (tkB (X (i + 1)) (X i 12).toNat (X i 11).toNat) + k ≤ (X i 12).toNat ∧ en isLe (X (i + 1)) (X i 12).toNat (tkB (X (i + 1)) (X i 12).toNat (X i 11).toNat) = en isLe (X (i + 1)) (X i 12).toNat ((tkB (X (i + 1)) (X i 12).toNat (X i 11).toNat) + k) ∧ (∀ j, j < k → isLe ((X (i + 1)) (((tkB (X (i + 1)) (X i 12).toNat (X i 11).toNat) + j : Nat) : Int)) = true) ∧ (k ≤ 8 → Y55 i 16 = (wvA (X (i + 1)) (tkB (X (i + 1)) (X i 12).toNat (X i 11).toNat) k : Nat))) ∧ (((X i 12 - X57 i 11).toNat) < ((X i 12 - X43 i 11).toNat))))))))))))))))) ∧ ((¬ (0 ≤ (mSee X11 i))) → (∀ X59 : Nat → Int → Int, X59 = zU X11 (i) 14 (0) → (∀ i j, rI (X59 i j)) → (tkC X (X59) Y (Y14) i ∧ (X59) i 11 = tkN (X (i + 1)) (X i 12).toNat (X i 11).toNat ∧ (X59) i 13 = tkB (X (i + 1)) (X i 12).toNat (X i 11).toNat ∧ (X59) i 14 = tkS (X (i + 1)) (X i 12).toNat (X i 11).toNat ∧ ((X59) i 14 = 3 → (X59) i 15 = tkV (X (i + 1)) (X i 12).toNat (X i 11).toNat) ∧ ((X59) i 14 = 2 → (Y14) i 16 = tkW (X (i + 1)) (X i 12).toNat (X i 11).toNat)))))))))) ∧ ((¬ (¬ (mSee X2 i) = 32)) → ((rI ((X2 (i) 11) + 1)) ∧ (∀ X61 : Nat → Int → Int, X61 = zU X2 (i) 11 ((X2 (i) 11) + 1) → (∀ i j, rI (X61 i j)) → (((∀ z, z ≠ i → X61 z = X z) ∧ (∀ s, s ≠ 11 → X61 i s = X i s) ∧ ∃ q : Nat, X61 i 11 = q ∧ q ≤ (X i 12).toNat ∧ tkB (X (i + 1)) (X i 12).toNat (X i 11).toNat = en isBl (X (i + 1)) (X i 12).toNat q) ∧ (((X i 12 - X61 i 11).toNat) < ((X i 12 - X2 i 11).toNat))))))))))))))
set_option maxHeartbeats 4000000 in
set_option maxRecDepth 100000 in
theorem w_X11_token {l : Launch} {D : va_G} {cy : Nat → ClassId} {bs N : Nat} {sa : Nat → Nat} {kd len : Nat → Nat} {X Y : Nat → Int → Int} {R : Nat → Int → Option Nat} {i : Nat} (hM : zM N kd len R i)  (hF : F_X11_token i X Y R ) : Met l yX11_token (.code yX11_token cX11_token 3 none :: zTB) (zRm 1 22) (zPc D cy bs sa N kd len X Y R [.ref (bs + (i))]) (zQv D cy bs N kd len (fun st => st.2.2 = R ∧ (tkC X (st.1) Y (st.2.1) i ∧ (st.1) i 11 = tkN (X (i + 1)) (X i 12).toNat (X i 11).toNat ∧ (st.1) i 13 = tkB (X (i + 1)) (X i 12).toNat (X i 11).toNat ∧ (st.1) i 14 = tkS (X (i + 1)) (X i 12).toNat (X i 11).toNat ∧ ((st.1) i 14 = 3 → (st.1) i 15 = tkV (X (i + 1)) (X i 12).toNat (X i 11).toNat) ∧ ((st.1) i 14 = 2 → (st.2.1) i 16 = tkW (X (i + 1)) (X i 12).toNat (X i 11).toNat)))) 0 0 (zA bs) := by
  refine zstart (by decide) (Nat.le_of_ble_eq_true rfl) ?_
  intro p e s m args below meth c ls C hE hH hr hlk hnm hl hargs
  have hF := hF hH.2.2.1 hH.2.2.2
  have hS : va_S (zA bs) s.heap s.heap [] := va_S.rf
  have hl : lv_has ls 3 [(0, .ref (bs + (i)))] := hl
  obtain ⟨hI1, hF⟩ := hF
  have L1 : ∀ (fu : Nat) (X2 : Nat → Int → Int), ((∀ z, z ≠ i → X2 z = X z) ∧ (∀ s, s ≠ 11 → X2 i s = X i s) ∧ ∃ q : Nat, X2 i 11 = q ∧ q ≤ (X i 12).toNat ∧ tkB (X (i + 1)) (X i 12).toNat (X i 11).toNat = en isBl (X (i + 1)) (X i 12).toNat q) → ((X i 12 - X2 i 11).toNat) < fu → ∀ (H : Heap) (locs : List Loc) (ls : Array Slot), zH D cy bs N kd len X2 Y R H → va_S (zA bs) s.heap H locs → lv_has ls 3 [(0, .ref (bs + (i)))] → W p l e (zRm 1 22) s m args below meth c H locs 0 0 (MQ below (zQv D cy bs N kd len (fun st => st.2.2 = R ∧ (tkC X (st.1) Y (st.2.1) i ∧ (st.1) i 11 = tkN (X (i + 1)) (X i 12).toNat (X i 11).toNat ∧ (st.1) i 13 = tkB (X (i + 1)) (X i 12).toNat (X i 11).toNat ∧ (st.1) i 14 = tkS (X (i + 1)) (X i 12).toNat (X i 11).toNat ∧ ((st.1) i 14 = 3 → (st.1) i 15 = tkV (X (i + 1)) (X i 12).toNat (X i 11).toNat) ∧ ((st.1) i 14 = 2 → (st.2.1) i 16 = tkW (X (i + 1)) (X i 12).toNat (X i 11).toNat)))) args s 0 0 (zA bs)) (F0 m 0 ls []) := by
    intro fu
    induction fu with
    | zero => intro X2  _ hmu; exact absurd hmu (Nat.not_lt_zero _)
    | succ fu ih1 =>
      intro X2  hI hmu1 H locs ls hH hS hl
      have hF := hF X2  hH.2.2.1 hI
      refine lv_aload_n C.1 C.2.1 dX11_token_0 rfl (lv_at hl 0 rfl) ?_
      obtain ⟨o3, hF⟩ := hF
      refine zgoi (zrunV (As := []) (rest := []) C hE hH hS hl.1 (c_X11_see (l := l) hM  o3) k_RX11_114 ⟨Nat.le_of_ble_eq_true rfl, Nat.le_of_ble_eq_true rfl⟩ (zM_n0 hM) (zM_k0 hM) rfl rfl rfl (Nat.le_of_ble_eq_true rfl) dX11_token_1 ⟨Nat.zero_le _, Nat.zero_le _⟩) hS (fun rq Xq Yq Rq H locs hrq hq hH hS => ?_)
      obtain ⟨h91, h92⟩ := hq
      have h93 : Xq = X2 := congrArg (fun z => z.1) h92
      have h94 : Yq = Y := congrArg (fun z => z.2.1) h92
      have h95 : Rq = R := congrArg (fun z => z.2.2) h92
      rw [h93, h94, h95] at hH
      subst h91
      have hr4 := hrq
      have hF := hF hr4
      refine zd_bipush C (by decide) dX11_token_4 ?_
      refine zd_icmp_eq C hr4 (by decide) 18 dX11_token_6 (by decide) (fun c5 => ?_) (fun c5 => ?_)
      · have hF := hF.1 c5
        refine lv_aload_n C.1 C.2.1 dX11_token_18 rfl (lv_at hl 0 rfl) ?_
        refine lv_dup C.1 C.2.1 dX11_token_19 rfl ?_
        refine zg11_11 C hH (zM_n0 hM) (zM_k0 hM) q_1298 dX11_token_20 ?_
        refine zd_iconst C dX11_token_23 ?_
        refine zd_iadd C dX11_token_24 ?_
        obtain ⟨o6, hF⟩ := hF
        refine zp11_11 C hH hS (zM_n0 hM) (zM_k0 hM) q_1298 o6 dX11_token_25 (fun H locs hH hS => ?_)
        obtain ⟨X7, eX7⟩ : ∃ z, z = zU X2 (i) 11 ((X2 (i) 11) + 1) := ⟨_, rfl⟩
        rw [← eX7] at hH
        have hF := hF X7 eX7 hH.2.2.1
        refine lv_goto (tgt := 0) C.1 C.2.1 dX11_token_28 (by decide) ?_
        exact ih1 X7  hF.1 (Nat.lt_of_lt_of_le hF.2 (Nat.le_of_lt_succ hmu1)) _ _ _ hH hS (lv_sub hl [0] rfl)
      · have hF := hF.2 c5
        refine lv_aload_n C.1 C.2.1 dX11_token_9 rfl (lv_at hl 0 rfl) ?_
        obtain ⟨o8, hF⟩ := hF
        refine zgoi (zrunV (As := []) (rest := []) C hE hH hS hl.1 (c_X11_see (l := l) hM  o8) k_RX11_114 ⟨Nat.le_of_ble_eq_true rfl, Nat.le_of_ble_eq_true rfl⟩ (zM_n0 hM) (zM_k0 hM) rfl rfl rfl (Nat.le_of_ble_eq_true rfl) dX11_token_10 ⟨Nat.zero_le _, Nat.zero_le _⟩) hS (fun rq Xq Yq Rq H locs hrq hq hH hS => ?_)
        obtain ⟨h91, h92⟩ := hq
        have h93 : Xq = X2 := congrArg (fun z => z.1) h92
        have h94 : Yq = Y := congrArg (fun z => z.2.1) h92
        have h95 : Rq = R := congrArg (fun z => z.2.2) h92
        rw [h93, h94, h95] at hH
        subst h91
        have hr9 := hrq
        have hF := hF hr9
        refine zd_bipush C (by decide) dX11_token_13 ?_
        refine zd_icmp_ne C hr9 (by decide) 31 dX11_token_15 (by decide) (fun c10 => ?_) (fun c10 => ?_)
        · have hF := hF.1 c10
          refine lv_aload_n C.1 C.2.1 dX11_token_31 rfl (lv_at hl 0 rfl) ?_
          refine lv_aload_n C.1 C.2.1 dX11_token_32 rfl (lv_at hl 0 rfl) ?_
          refine zg11_11 C hH (zM_n0 hM) (zM_k0 hM) q_1298 dX11_token_33 ?_
          refine zp11_13 C hH hS (zM_n0 hM) (zM_k0 hM) q_1300 (hH.2.2.1 _ _) dX11_token_36 (fun H locs hH hS => ?_)
          obtain ⟨X11, eX11⟩ : ∃ z, z = zU X2 (i) 13 (X2 (i) 11) := ⟨_, rfl⟩
          rw [← eX11] at hH
          have hF := hF X11 eX11 hH.2.2.1
          refine lv_aload_n C.1 C.2.1 dX11_token_39 rfl (lv_at hl 0 rfl) ?_
          obtain ⟨o12, hF⟩ := hF
          refine zgoi (zrunV (As := []) (rest := []) C hE hH hS hl.1 (c_X11_see (l := l) hM  o12) k_RX11_114 ⟨Nat.le_of_ble_eq_true rfl, Nat.le_of_ble_eq_true rfl⟩ (zM_n0 hM) (zM_k0 hM) rfl rfl rfl (Nat.le_of_ble_eq_true rfl) dX11_token_40 ⟨Nat.zero_le _, Nat.zero_le _⟩) hS (fun rq Xq Yq Rq H locs hrq hq hH hS => ?_)
          obtain ⟨h91, h92⟩ := hq
          have h93 : Xq = X11 := congrArg (fun z => z.1) h92
          have h94 : Yq = Y := congrArg (fun z => z.2.1) h92
          have h95 : Rq = R := congrArg (fun z => z.2.2) h92
          rw [h93, h94, h95] at hH
          subst h91
          have hr13 := hrq
          have hF := hF hr13
          refine lv_istore_n (lv' := [(1, .int (zI (mSee X11 i))), (0, .ref (bs + (i)))]) C.1 C.2.1 dX11_token_43 rfl hl (by decide) rfl (fun ls hl => ?_)
          refine lv_aload_n C.1 C.2.1 dX11_token_44 rfl (lv_at hl 1 rfl) ?_
          refine lv_lconst (v := zL 0) C.1 C.2.1 dX11_token_45 rfl ?_
          refine zp11_16 C hH hS (zM_n0 hM) (zM_k0 hM) q_1303 (by decide) dX11_token_46 (fun H locs hH hS => ?_)
          obtain ⟨Y14, eY14⟩ : ∃ z, z = zU Y (i) 16 (0) := ⟨_, rfl⟩
          rw [← eY14] at hH
          have hF := hF Y14 eY14 hH.2.2.2
          refine zd_iconst C dX11_token_49 ?_
          refine lv_istore_n (lv' := [(2, .int (zI (0))), (1, .int (zI (mSee X11 i))), (0, .ref (bs + (i)))]) C.1 C.2.1 dX11_token_50 rfl hl (by decide) rfl (fun ls hl => ?_)
          refine lv_iload_n C.1 C.2.1 dX11_token_51 rfl (lv_at hl 1 rfl) ?_
          refine zd_if_ge C hr13 63 dX11_token_52 (by decide) (fun c15 => ?_) (fun c15 => ?_)
          · have hF := hF.1 c15
            refine lv_iload_n C.1 C.2.1 dX11_token_63 rfl (lv_at hl 1 rfl) ?_
            refine zd_bipush C (by decide) dX11_token_64 ?_
            refine zd_bipush C (by decide) dX11_token_66 ?_
            refine zgoi (zrunS (As := [.int (zI (mSee X11 i)), .int (zI (97)), .int (zI (122))]) (rest := []) C hE hH hS hl.1 (c_X11_in (l := l)  (mSee X11 i) hr13 (97) (by decide) (122) (by decide)) k_RX11_100 ⟨Nat.le_of_ble_eq_true rfl, Nat.le_of_ble_eq_true rfl⟩ rfl (Nat.le_of_ble_eq_true rfl) dX11_token_68 ⟨Nat.zero_le _, Nat.zero_le _⟩) hS (fun rq Xq Yq Rq H locs hrq hq hH hS => ?_)
            obtain ⟨h91, h92⟩ := hq
            have h93 : Xq = X11 := congrArg (fun z => z.1) h92
            have h94 : Yq = Y14 := congrArg (fun z => z.2.1) h92
            have h95 : Rq = R := congrArg (fun z => z.2.2) h92
            rw [h93, h94, h95] at hH
            subst h91
            refine zd_ifB_eq C 147 dX11_token_71 (by decide) (fun c16 => ?_) (fun c16 => ?_)
            · have hF := hF.1 c16
              refine lv_iload_n C.1 C.2.1 dX11_token_147 rfl (lv_at hl 1 rfl) ?_
              refine zd_bipush C (by decide) dX11_token_148 ?_
              refine zd_bipush C (by decide) dX11_token_150 ?_
              refine zgoi (zrunS (As := [.int (zI (mSee X11 i)), .int (zI (48)), .int (zI (57))]) (rest := []) C hE hH hS hl.1 (c_X11_in (l := l)  (mSee X11 i) hr13 (48) (by decide) (57) (by decide)) k_RX11_100 ⟨Nat.le_of_ble_eq_true rfl, Nat.le_of_ble_eq_true rfl⟩ rfl (Nat.le_of_ble_eq_true rfl) dX11_token_152 ⟨Nat.zero_le _, Nat.zero_le _⟩) hS (fun rq Xq Yq Rq H locs hrq hq hH hS => ?_)
              obtain ⟨h91, h92⟩ := hq
              have h93 : Xq = X11 := congrArg (fun z => z.1) h92
              have h94 : Yq = Y14 := congrArg (fun z => z.2.1) h92
              have h95 : Rq = R := congrArg (fun z => z.2.2) h92
              rw [h93, h94, h95] at hH
              subst h91
              refine zd_ifB_eq C 241 dX11_token_155 (by decide) (fun c17 => ?_) (fun c17 => ?_)
              · have hF := hF.1 c17
                refine lv_aload_n C.1 C.2.1 dX11_token_241 rfl (lv_at hl 2 rfl) ?_
                refine lv_dup C.1 C.2.1 dX11_token_242 rfl ?_
                refine zg11_11 C hH (zM_n0 hM) (zM_k0 hM) q_1298 dX11_token_243 ?_
                refine zd_iconst C dX11_token_246 ?_
                refine zd_iadd C dX11_token_247 ?_
                obtain ⟨o18, hF⟩ := hF
                refine zp11_11 C hH hS (zM_n0 hM) (zM_k0 hM) q_1298 o18 dX11_token_248 (fun H locs hH hS => ?_)
                obtain ⟨X19, eX19⟩ : ∃ z, z = zU X11 (i) 11 ((X11 (i) 11) + 1) := ⟨_, rfl⟩
                rw [← eX19] at hH
                have hF := hF X19 eX19 hH.2.2.1
                refine lv_aload_n C.1 C.2.1 dX11_token_251 rfl (lv_at hl 2 rfl) ?_
                refine lv_iload_n C.1 C.2.1 dX11_token_252 rfl (lv_at hl 1 rfl) ?_
                refine zd_bipush C (by decide) dX11_token_253 ?_
                refine zd_icmp_ne C hr13 (by decide) 262 dX11_token_255 (by decide) (fun c20 => ?_) (fun c20 => ?_)
                · have hF := hF.1 c20
                  refine zd_iconst C dX11_token_262 ?_
                  refine zp11_14 C hH hS (zM_n0 hM) (zM_k0 hM) q_1301 (by decide) dX11_token_263 (fun H locs hH hS => ?_)
                  obtain ⟨X21, eX21⟩ : ∃ z, z = zU X19 (i) 14 (1) := ⟨_, rfl⟩
                  rw [← eX21] at hH
                  have hF := hF X21 eX21 hH.2.2.1
                  exact zd_vret C hr hlk hH hS (⟨rfl, hF⟩) dX11_token_266
                · have hF := hF.2 c20
                  refine zd_iconst C dX11_token_258 ?_
                  refine lv_goto (tgt := 263) C.1 C.2.1 dX11_token_259 (by decide) ?_
                  refine zp11_14 C hH hS (zM_n0 hM) (zM_k0 hM) q_1301 (by decide) dX11_token_263 (fun H locs hH hS => ?_)
                  obtain ⟨X22, eX22⟩ : ∃ z, z = zU X19 (i) 14 (4) := ⟨_, rfl⟩
                  rw [← eX22] at hH
                  have hF := hF X22 eX22 hH.2.2.1
                  exact zd_vret C hr hlk hH hS (⟨rfl, hF⟩) dX11_token_266
              · have hF := hF.2 c17
                refine lv_aload_n C.1 C.2.1 dX11_token_158 rfl (lv_at hl 2 rfl) ?_
                refine zd_iconst C dX11_token_159 ?_
                refine zp11_15 C hH hS (zM_n0 hM) (zM_k0 hM) q_1302 (by decide) dX11_token_160 (fun H locs hH hS => ?_)
                obtain ⟨X23, eX23⟩ : ∃ z, z = zU X11 (i) 15 (0) := ⟨_, rfl⟩
                rw [← eX23] at hH
                have hF := hF X23 eX23 hH.2.2.1
                obtain ⟨hI24, hF⟩ := hF
                have L24 : ∀ (fu : Nat) (wn : Int) (X25 : Nat → Int → Int), rI wn → ((∀ z, z ≠ i → X25 z = X z) ∧ (∀ s, s ≠ 11 → s ≠ 13 → s ≠ 15 → X25 i s = X i s) ∧ X25 i 13 = X23 i 13 ∧ ∃ k : Nat, wn = k ∧ X25 i 11 = (((tkB (X (i + 1)) (X i 12).toNat (X i 11).toNat) + k : Nat) : Int) ∧ (tkB (X (i + 1)) (X i 12).toNat (X i 11).toNat) + k ≤ (X i 12).toNat ∧ en isDi (X (i + 1)) (X i 12).toNat (tkB (X (i + 1)) (X i 12).toNat (X i 11).toNat) = en isDi (X (i + 1)) (X i 12).toNat ((tkB (X (i + 1)) (X i 12).toNat (X i 11).toNat) + k) ∧ (∀ j, j < k → isDi ((X (i + 1)) (((tkB (X (i + 1)) (X i 12).toNat (X i 11).toNat) + j : Nat) : Int)) = true) ∧ X25 i 15 = vaN (X (i + 1)) (tkB (X (i + 1)) (X i 12).toNat (X i 11).toNat) k) → ((X i 12 - X25 i 11).toNat) < fu → ∀ (H : Heap) (locs : List Loc) (ls : Array Slot), zH D cy bs N kd len X25 Y14 R H → va_S (zA bs) s.heap H locs → lv_has ls 3 [(2, .int (zI (wn))), (1, .int (zI (mSee X11 i))), (0, .ref (bs + (i)))] → W p l e (zRm 1 22) s m args below meth c H locs 0 0 (MQ below (zQv D cy bs N kd len (fun st => st.2.2 = R ∧ (tkC X (st.1) Y (st.2.1) i ∧ (st.1) i 11 = tkN (X (i + 1)) (X i 12).toNat (X i 11).toNat ∧ (st.1) i 13 = tkB (X (i + 1)) (X i 12).toNat (X i 11).toNat ∧ (st.1) i 14 = tkS (X (i + 1)) (X i 12).toNat (X i 11).toNat ∧ ((st.1) i 14 = 3 → (st.1) i 15 = tkV (X (i + 1)) (X i 12).toNat (X i 11).toNat) ∧ ((st.1) i 14 = 2 → (st.2.1) i 16 = tkW (X (i + 1)) (X i 12).toNat (X i 11).toNat)))) args s 0 0 (zA bs)) (F0 m 163 ls []) := by
                  intro fu
                  induction fu with
                  | zero => intro wn X25 _ _ hmu; exact absurd hmu (Nat.not_lt_zero _)
                  | succ fu ih24 =>
                    intro wn X25 hwn hI hmu24 H locs ls hH hS hl
                    have hF := hF wn X25 hwn hH.2.2.1 hI
                    refine lv_aload_n C.1 C.2.1 dX11_token_163 rfl (lv_at hl 2 rfl) ?_
                    obtain ⟨o26, hF⟩ := hF
                    refine zgoi (zrunV (As := []) (rest := []) C hE hH hS hl.1 (c_X11_see (l := l) hM  o26) k_RX11_114 ⟨Nat.le_of_ble_eq_true rfl, Nat.le_of_ble_eq_true rfl⟩ (zM_n0 hM) (zM_k0 hM) rfl rfl rfl (Nat.le_of_ble_eq_true rfl) dX11_token_164 ⟨Nat.zero_le _, Nat.zero_le _⟩) hS (fun rq Xq Yq Rq H locs hrq hq hH hS => ?_)
                    obtain ⟨h91, h92⟩ := hq
                    have h93 : Xq = X25 := congrArg (fun z => z.1) h92
                    have h94 : Yq = Y14 := congrArg (fun z => z.2.1) h92
                    have h95 : Rq = R := congrArg (fun z => z.2.2) h92
                    rw [h93, h94, h95] at hH
                    subst h91
                    have hr27 := hrq
                    have hF := hF hr27
                    refine zd_bipush C (by decide) dX11_token_167 ?_
                    refine zd_bipush C (by decide) dX11_token_169 ?_
                    refine zgoi (zrunS (As := [.int (zI (mSee X25 i)), .int (zI (48)), .int (zI (57))]) (rest := []) C hE hH hS hl.1 (c_X11_in (l := l)  (mSee X25 i) hr27 (48) (by decide) (57) (by decide)) k_RX11_100 ⟨Nat.le_of_ble_eq_true rfl, Nat.le_of_ble_eq_true rfl⟩ rfl (Nat.le_of_ble_eq_true rfl) dX11_token_171 ⟨Nat.zero_le _, Nat.zero_le _⟩) hS (fun rq Xq Yq Rq H locs hrq hq hH hS => ?_)
                    obtain ⟨h91, h92⟩ := hq
                    have h93 : Xq = X25 := congrArg (fun z => z.1) h92
                    have h94 : Yq = Y14 := congrArg (fun z => z.2.1) h92
                    have h95 : Rq = R := congrArg (fun z => z.2.2) h92
                    rw [h93, h94, h95] at hH
                    subst h91
                    refine zd_ifB_eq C 224 dX11_token_174 (by decide) (fun c28 => ?_) (fun c28 => ?_)
                    · have hF := hF.1 c28
                      refine lv_aload_n C.1 C.2.1 dX11_token_224 rfl (lv_at hl 2 rfl) ?_
                      refine lv_iload_n C.1 C.2.1 dX11_token_225 rfl (lv_at hl 0 rfl) ?_
                      refine zd_iconst C dX11_token_226 ?_
                      refine zd_icmp_le C hwn (by decide) 234 dX11_token_227 (by decide) (fun c29 => ?_) (fun c29 => ?_)
                      · have hF := hF.1 c29
                        refine zd_iconst C dX11_token_234 ?_
                        refine zp11_14 C hH hS (zM_n0 hM) (zM_k0 hM) q_1301 (by decide) dX11_token_235 (fun H locs hH hS => ?_)
                        obtain ⟨X30, eX30⟩ : ∃ z, z = zU X25 (i) 14 (3) := ⟨_, rfl⟩
                        rw [← eX30] at hH
                        have hF := hF X30 eX30 hH.2.2.1
                        refine lv_goto (tgt := 266) C.1 C.2.1 dX11_token_238 (by decide) ?_
                        exact zd_vret C hr hlk hH hS (⟨rfl, hF⟩) dX11_token_266
                      · have hF := hF.2 c29
                        refine zd_iconst C dX11_token_230 ?_
                        refine lv_goto (tgt := 235) C.1 C.2.1 dX11_token_231 (by decide) ?_
                        refine zp11_14 C hH hS (zM_n0 hM) (zM_k0 hM) q_1301 (by decide) dX11_token_235 (fun H locs hH hS => ?_)
                        obtain ⟨X31, eX31⟩ : ∃ z, z = zU X25 (i) 14 (1) := ⟨_, rfl⟩
                        rw [← eX31] at hH
                        have hF := hF X31 eX31 hH.2.2.1
                        refine lv_goto (tgt := 266) C.1 C.2.1 dX11_token_238 (by decide) ?_
                        exact zd_vret C hr hlk hH hS (⟨rfl, hF⟩) dX11_token_266
                    · have hF := hF.2 c28
                      have J1 : ∀ (X32 : Nat → Int → Int), (X32 = zU X25 i 15 (if wn < 2 then 10 * X25 i 15 + mSee X25 i - 48 else X25 i 15)) → ∀ (H : Heap) (locs : List Loc) (ls : Array Slot), zH D cy bs N kd len X32 Y14 R H → va_S (zA bs) s.heap H locs → lv_has ls 3 [(2, .int (zI (wn))), (1, .int (zI (mSee X11 i))), (0, .ref (bs + (i)))] → W p l e (zRm 1 22) s m args below meth c H locs 0 0 (MQ below (zQv D cy bs N kd len (fun st => st.2.2 = R ∧ (tkC X (st.1) Y (st.2.1) i ∧ (st.1) i 11 = tkN (X (i + 1)) (X i 12).toNat (X i 11).toNat ∧ (st.1) i 13 = tkB (X (i + 1)) (X i 12).toNat (X i 11).toNat ∧ (st.1) i 14 = tkS (X (i + 1)) (X i 12).toNat (X i 11).toNat ∧ ((st.1) i 14 = 3 → (st.1) i 15 = tkV (X (i + 1)) (X i 12).toNat (X i 11).toNat) ∧ ((st.1) i 14 = 2 → (st.2.1) i 16 = tkW (X (i + 1)) (X i 12).toNat (X i 11).toNat)))) args s 0 0 (zA bs)) (F0 m 208 ls []) := by
                        intro X32  hI H locs ls hH hS hl
                        have hF := hF.1 X32  hH.2.2.1 hI
                        refine lv_aload_n C.1 C.2.1 dX11_token_208 rfl (lv_at hl 2 rfl) ?_
                        refine lv_dup C.1 C.2.1 dX11_token_209 rfl ?_
                        refine zg11_11 C hH (zM_n0 hM) (zM_k0 hM) q_1298 dX11_token_210 ?_
                        refine zd_iconst C dX11_token_213 ?_
                        refine zd_iadd C dX11_token_214 ?_
                        obtain ⟨o33, hF⟩ := hF
                        refine zp11_11 C hH hS (zM_n0 hM) (zM_k0 hM) q_1298 o33 dX11_token_215 (fun H locs hH hS => ?_)
                        obtain ⟨X34, eX34⟩ : ∃ z, z = zU X32 (i) 11 ((X32 (i) 11) + 1) := ⟨_, rfl⟩
                        rw [← eX34] at hH
                        have hF := hF X34 eX34 hH.2.2.1
                        refine zd_iinc (k := 0) (lv' := [(2, .int (zI (wn + 1))), (1, .int (zI (mSee X11 i))), (0, .ref (bs + (i)))]) C hl rfl dX11_token_218 (by decide) rfl (fun ls hl => ?_)
                        refine lv_goto (tgt := 163) C.1 C.2.1 dX11_token_221 (by decide) ?_
                        obtain ⟨o35, hF⟩ := hF
                        exact ih24 (wn + 1) X34 o35 hF.1 (Nat.lt_of_lt_of_le hF.2 (Nat.le_of_lt_succ hmu24)) _ _ _ hH hS (lv_sub hl [0, 1, 2] rfl)
                      have hF := hF.2
                      refine lv_aload_n C.1 C.2.1 dX11_token_177 rfl (lv_at hl 2 rfl) ?_
                      refine lv_iload_n C.1 C.2.1 dX11_token_178 rfl (lv_at hl 0 rfl) ?_
                      refine zd_iconst C dX11_token_179 ?_
                      refine zd_icmp_ge C hwn (by decide) 201 dX11_token_180 (by decide) (fun c36 => ?_) (fun c36 => ?_)
                      · have hF := hF.1 c36
                        refine lv_aload_n C.1 C.2.1 dX11_token_201 rfl (lv_at hl 2 rfl) ?_
                        refine zg11_15 C hH (zM_n0 hM) (zM_k0 hM) q_1302 dX11_token_202 ?_
                        refine zp11_15 C hH hS (zM_n0 hM) (zM_k0 hM) q_1302 (hH.2.2.1 _ _) dX11_token_205 (fun H locs hH hS => ?_)
                        obtain ⟨X37, eX37⟩ : ∃ z, z = zU X25 (i) 15 (X25 (i) 15) := ⟨_, rfl⟩
                        rw [← eX37] at hH
                        have hF := hF X37 eX37 hH.2.2.1
                        exact J1 X37  hF _ _ _ hH hS (lv_sub hl [0, 1, 2] rfl)
                      · have hF := hF.2 c36
                        refine zd_bipush C (by decide) dX11_token_183 ?_
                        refine lv_aload_n C.1 C.2.1 dX11_token_185 rfl (lv_at hl 2 rfl) ?_
                        refine zg11_15 C hH (zM_n0 hM) (zM_k0 hM) q_1302 dX11_token_186 ?_
                        refine zd_imul C dX11_token_189 ?_
                        refine lv_aload_n C.1 C.2.1 dX11_token_190 rfl (lv_at hl 2 rfl) ?_
                        obtain ⟨o38, hF⟩ := hF
                        refine zgoi (zrunV (As := []) (rest := [.int (zI (10 * (X25 (i) 15))), .ref (bs + (i))]) C hE hH hS hl.1 (c_X11_see (l := l) hM  o38) k_RX11_114 ⟨Nat.le_of_ble_eq_true rfl, Nat.le_of_ble_eq_true rfl⟩ (zM_n0 hM) (zM_k0 hM) rfl rfl rfl (Nat.le_of_ble_eq_true rfl) dX11_token_191 ⟨Nat.zero_le _, Nat.zero_le _⟩) hS (fun rq Xq Yq Rq H locs hrq hq hH hS => ?_)
                        obtain ⟨h91, h92⟩ := hq
                        have h93 : Xq = X25 := congrArg (fun z => z.1) h92
                        have h94 : Yq = Y14 := congrArg (fun z => z.2.1) h92
                        have h95 : Rq = R := congrArg (fun z => z.2.2) h92
                        rw [h93, h94, h95] at hH
                        subst h91
                        have hr39 := hrq
                        have hF := hF hr39
                        refine zd_iadd C dX11_token_194 ?_
                        refine zd_bipush C (by decide) dX11_token_195 ?_
                        refine zd_isub C dX11_token_197 ?_
                        refine lv_goto (tgt := 205) C.1 C.2.1 dX11_token_198 (by decide) ?_
                        obtain ⟨o40, hF⟩ := hF
                        refine zp11_15 C hH hS (zM_n0 hM) (zM_k0 hM) q_1302 o40 dX11_token_205 (fun H locs hH hS => ?_)
                        obtain ⟨X41, eX41⟩ : ∃ z, z = zU X25 (i) 15 (((10 * (X25 (i) 15)) + (mSee X25 i)) - 48) := ⟨_, rfl⟩
                        rw [← eX41] at hH
                        have hF := hF X41 eX41 hH.2.2.1
                        exact J1 X41  hF _ _ _ hH hS (lv_sub hl [0, 1, 2] rfl)
                exact L24 (((X i 12 - X23 i 11).toNat) + 1) ((0 : Int)) X23 (by decide) hI24 (Nat.lt_succ_self _) _ _ _ hH hS (lv_sub hl [0, 1, 2] rfl)
            · have hF := hF.2 c16
              obtain ⟨hI42, hF⟩ := hF
              have L42 : ∀ (fu : Nat) (wn : Int) (X43 : Nat → Int → Int) (Y44 : Nat → Int → Int), rI wn → ((∀ z, z ≠ i → X43 z = X z) ∧ (∀ s, s ≠ 11 → s ≠ 13 → X43 i s = X i s) ∧ (∀ z, z ≠ i → Y44 z = Y z) ∧ X43 i 13 = X11 i 13 ∧ ∃ k : Nat, wn = k ∧ X43 i 11 = (((tkB (X (i + 1)) (X i 12).toNat (X i 11).toNat) + k : Nat) : Int) ∧ (tkB (X (i + 1)) (X i 12).toNat (X i 11).toNat) + k ≤ (X i 12).toNat ∧ en isLe (X (i + 1)) (X i 12).toNat (tkB (X (i + 1)) (X i 12).toNat (X i 11).toNat) = en isLe (X (i + 1)) (X i 12).toNat ((tkB (X (i + 1)) (X i 12).toNat (X i 11).toNat) + k) ∧ (∀ j, j < k → isLe ((X (i + 1)) (((tkB (X (i + 1)) (X i 12).toNat (X i 11).toNat) + j : Nat) : Int)) = true) ∧ (k ≤ 8 → Y44 i 16 = (wvA (X (i + 1)) (tkB (X (i + 1)) (X i 12).toNat (X i 11).toNat) k : Nat))) → ((X i 12 - X43 i 11).toNat) < fu → ∀ (H : Heap) (locs : List Loc) (ls : Array Slot), zH D cy bs N kd len X43 Y44 R H → va_S (zA bs) s.heap H locs → lv_has ls 3 [(2, .int (zI (wn))), (1, .int (zI (mSee X11 i))), (0, .ref (bs + (i)))] → W p l e (zRm 1 22) s m args below meth c H locs 0 0 (MQ below (zQv D cy bs N kd len (fun st => st.2.2 = R ∧ (tkC X (st.1) Y (st.2.1) i ∧ (st.1) i 11 = tkN (X (i + 1)) (X i 12).toNat (X i 11).toNat ∧ (st.1) i 13 = tkB (X (i + 1)) (X i 12).toNat (X i 11).toNat ∧ (st.1) i 14 = tkS (X (i + 1)) (X i 12).toNat (X i 11).toNat ∧ ((st.1) i 14 = 3 → (st.1) i 15 = tkV (X (i + 1)) (X i 12).toNat (X i 11).toNat) ∧ ((st.1) i 14 = 2 → (st.2.1) i 16 = tkW (X (i + 1)) (X i 12).toNat (X i 11).toNat)))) args s 0 0 (zA bs)) (F0 m 74 ls []) := by
                intro fu
                induction fu with
                | zero => intro wn X43 Y44 _ _ hmu; exact absurd hmu (Nat.not_lt_zero _)
                | succ fu ih42 =>
                  intro wn X43 Y44 hwn hI hmu42 H locs ls hH hS hl
                  have hF := hF wn X43 Y44 hwn hH.2.2.1 hH.2.2.2 hI
                  refine lv_aload_n C.1 C.2.1 dX11_token_74 rfl (lv_at hl 2 rfl) ?_
                  obtain ⟨o45, hF⟩ := hF
                  refine zgoi (zrunV (As := []) (rest := []) C hE hH hS hl.1 (c_X11_see (l := l) hM  o45) k_RX11_114 ⟨Nat.le_of_ble_eq_true rfl, Nat.le_of_ble_eq_true rfl⟩ (zM_n0 hM) (zM_k0 hM) rfl rfl rfl (Nat.le_of_ble_eq_true rfl) dX11_token_75 ⟨Nat.zero_le _, Nat.zero_le _⟩) hS (fun rq Xq Yq Rq H locs hrq hq hH hS => ?_)
                  obtain ⟨h91, h92⟩ := hq
                  have h93 : Xq = X43 := congrArg (fun z => z.1) h92
                  have h94 : Yq = Y44 := congrArg (fun z => z.2.1) h92
                  have h95 : Rq = R := congrArg (fun z => z.2.2) h92
                  rw [h93, h94, h95] at hH
                  subst h91
                  have hr46 := hrq
                  have hF := hF hr46
                  refine zd_bipush C (by decide) dX11_token_78 ?_
                  refine zd_bipush C (by decide) dX11_token_80 ?_
                  refine zgoi (zrunS (As := [.int (zI (mSee X43 i)), .int (zI (97)), .int (zI (122))]) (rest := []) C hE hH hS hl.1 (c_X11_in (l := l)  (mSee X43 i) hr46 (97) (by decide) (122) (by decide)) k_RX11_100 ⟨Nat.le_of_ble_eq_true rfl, Nat.le_of_ble_eq_true rfl⟩ rfl (Nat.le_of_ble_eq_true rfl) dX11_token_82 ⟨Nat.zero_le _, Nat.zero_le _⟩) hS (fun rq Xq Yq Rq H locs hrq hq hH hS => ?_)
                  obtain ⟨h91, h92⟩ := hq
                  have h93 : Xq = X43 := congrArg (fun z => z.1) h92
                  have h94 : Yq = Y44 := congrArg (fun z => z.2.1) h92
                  have h95 : Rq = R := congrArg (fun z => z.2.2) h92
                  rw [h93, h94, h95] at hH
                  subst h91
                  refine zd_ifB_eq C 121 dX11_token_85 (by decide) (fun c47 => ?_) (fun c47 => ?_)
                  · have hF := hF.1 c47
                    refine lv_aload_n C.1 C.2.1 dX11_token_121 rfl (lv_at hl 2 rfl) ?_
                    refine lv_iload_n C.1 C.2.1 dX11_token_122 rfl (lv_at hl 0 rfl) ?_
                    refine zd_bipush C (by decide) dX11_token_123 ?_
                    refine zd_icmp_le C hwn (by decide) 132 dX11_token_125 (by decide) (fun c48 => ?_) (fun c48 => ?_)
                    · have hF := hF.1 c48
                      refine lv_aload_n C.1 C.2.1 dX11_token_132 rfl (lv_at hl 2 rfl) ?_
                      refine zg11_16 C hH (zM_n0 hM) (zM_k0 hM) q_1303 dX11_token_133 ?_
                      refine zp11_16 C hH hS (zM_n0 hM) (zM_k0 hM) q_1303 (hH.2.2.2 _ _) dX11_token_136 (fun H locs hH hS => ?_)
                      obtain ⟨Y49, eY49⟩ : ∃ z, z = zU Y44 (i) 16 (Y44 (i) 16) := ⟨_, rfl⟩
                      rw [← eY49] at hH
                      have hF := hF Y49 eY49 hH.2.2.2
                      refine lv_aload_n C.1 C.2.1 dX11_token_139 rfl (lv_at hl 2 rfl) ?_
                      refine zd_iconst C dX11_token_140 ?_
                      refine zp11_14 C hH hS (zM_n0 hM) (zM_k0 hM) q_1301 (by decide) dX11_token_141 (fun H locs hH hS => ?_)
                      obtain ⟨X50, eX50⟩ : ∃ z, z = zU X43 (i) 14 (2) := ⟨_, rfl⟩
                      rw [← eX50] at hH
                      have hF := hF X50 eX50 hH.2.2.1
                      refine lv_goto (tgt := 266) C.1 C.2.1 dX11_token_144 (by decide) ?_
                      exact zd_vret C hr hlk hH hS (⟨rfl, hF⟩) dX11_token_266
                    · have hF := hF.2 c48
                      refine lv_lconst (v := zL 0) C.1 C.2.1 dX11_token_128 rfl ?_
                      refine lv_goto (tgt := 136) C.1 C.2.1 dX11_token_129 (by decide) ?_
                      refine zp11_16 C hH hS (zM_n0 hM) (zM_k0 hM) q_1303 (by decide) dX11_token_136 (fun H locs hH hS => ?_)
                      obtain ⟨Y51, eY51⟩ : ∃ z, z = zU Y44 (i) 16 (0) := ⟨_, rfl⟩
                      rw [← eY51] at hH
                      have hF := hF Y51 eY51 hH.2.2.2
                      refine lv_aload_n C.1 C.2.1 dX11_token_139 rfl (lv_at hl 2 rfl) ?_
                      refine zd_iconst C dX11_token_140 ?_
                      refine zp11_14 C hH hS (zM_n0 hM) (zM_k0 hM) q_1301 (by decide) dX11_token_141 (fun H locs hH hS => ?_)
                      obtain ⟨X52, eX52⟩ : ∃ z, z = zU X43 (i) 14 (2) := ⟨_, rfl⟩
                      rw [← eX52] at hH
                      have hF := hF X52 eX52 hH.2.2.1
                      refine lv_goto (tgt := 266) C.1 C.2.1 dX11_token_144 (by decide) ?_
                      exact zd_vret C hr hlk hH hS (⟨rfl, hF⟩) dX11_token_266
                  · have hF := hF.2 c47
                    refine lv_aload_n C.1 C.2.1 dX11_token_88 rfl (lv_at hl 2 rfl) ?_
                    refine lv_aload_n C.1 C.2.1 dX11_token_89 rfl (lv_at hl 2 rfl) ?_
                    refine zg11_16 C hH (zM_n0 hM) (zM_k0 hM) q_1303 dX11_token_90 ?_
                    refine zd_bipush C (by decide) dX11_token_93 ?_
                    refine zd_lshl C dX11_token_95 ?_
                    refine lv_aload_n C.1 C.2.1 dX11_token_96 rfl (lv_at hl 2 rfl) ?_
                    obtain ⟨o53, hF⟩ := hF
                    refine zgoi (zrunV (As := []) (rest := [.long (zL (zLsh (Y44 (i) 16) (8))), .ref (bs + (i))]) C hE hH hS hl.1 (c_X11_see (l := l) hM  o53) k_RX11_114 ⟨Nat.le_of_ble_eq_true rfl, Nat.le_of_ble_eq_true rfl⟩ (zM_n0 hM) (zM_k0 hM) rfl rfl rfl (Nat.le_of_ble_eq_true rfl) dX11_token_97 ⟨Nat.zero_le _, Nat.zero_le _⟩) hS (fun rq Xq Yq Rq H locs hrq hq hH hS => ?_)
                    obtain ⟨h91, h92⟩ := hq
                    have h93 : Xq = X43 := congrArg (fun z => z.1) h92
                    have h94 : Yq = Y44 := congrArg (fun z => z.2.1) h92
                    have h95 : Rq = R := congrArg (fun z => z.2.2) h92
                    rw [h93, h94, h95] at hH
                    subst h91
                    have hr54 := hrq
                    have hF := hF hr54
                    refine zd_i2l C hr54 dX11_token_100 ?_
                    refine zd_lor C dX11_token_101 ?_
                    refine zp11_16 C hH hS (zM_n0 hM) (zM_k0 hM) q_1303 (zL_rg _) dX11_token_102 (fun H locs hH hS => ?_)
                    obtain ⟨Y55, eY55⟩ : ∃ z, z = zU Y44 (i) 16 (zLor (zLsh (Y44 (i) 16) (8)) (mSee X43 i)) := ⟨_, rfl⟩
                    rw [← eY55] at hH
                    have hF := hF Y55 eY55 hH.2.2.2
                    refine lv_aload_n C.1 C.2.1 dX11_token_105 rfl (lv_at hl 2 rfl) ?_
                    refine lv_dup C.1 C.2.1 dX11_token_106 rfl ?_
                    refine zg11_11 C hH (zM_n0 hM) (zM_k0 hM) q_1298 dX11_token_107 ?_
                    refine zd_iconst C dX11_token_110 ?_
                    refine zd_iadd C dX11_token_111 ?_
                    obtain ⟨o56, hF⟩ := hF
                    refine zp11_11 C hH hS (zM_n0 hM) (zM_k0 hM) q_1298 o56 dX11_token_112 (fun H locs hH hS => ?_)
                    obtain ⟨X57, eX57⟩ : ∃ z, z = zU X43 (i) 11 ((X43 (i) 11) + 1) := ⟨_, rfl⟩
                    rw [← eX57] at hH
                    have hF := hF X57 eX57 hH.2.2.1
                    refine zd_iinc (k := 0) (lv' := [(2, .int (zI (wn + 1))), (1, .int (zI (mSee X11 i))), (0, .ref (bs + (i)))]) C hl rfl dX11_token_115 (by decide) rfl (fun ls hl => ?_)
                    refine lv_goto (tgt := 74) C.1 C.2.1 dX11_token_118 (by decide) ?_
                    obtain ⟨o58, hF⟩ := hF
                    exact ih42 (wn + 1) X57 Y55 o58 hF.1 (Nat.lt_of_lt_of_le hF.2 (Nat.le_of_lt_succ hmu42)) _ _ _ hH hS (lv_sub hl [0, 1, 2] rfl)
              exact L42 (((X i 12 - X11 i 11).toNat) + 1) ((0 : Int)) X11 Y14 (by decide) hI42 (Nat.lt_succ_self _) _ _ _ hH hS (lv_sub hl [0, 1, 2] rfl)
          · have hF := hF.2 c15
            refine lv_aload_n C.1 C.2.1 dX11_token_55 rfl (lv_at hl 2 rfl) ?_
            refine zd_iconst C dX11_token_56 ?_
            refine zp11_14 C hH hS (zM_n0 hM) (zM_k0 hM) q_1301 (by decide) dX11_token_57 (fun H locs hH hS => ?_)
            obtain ⟨X59, eX59⟩ : ∃ z, z = zU X11 (i) 14 (0) := ⟨_, rfl⟩
            rw [← eX59] at hH
            have hF := hF X59 eX59 hH.2.2.1
            refine lv_goto (tgt := 266) C.1 C.2.1 dX11_token_60 (by decide) ?_
            exact zd_vret C hr hlk hH hS (⟨rfl, hF⟩) dX11_token_266
        · have hF := hF.2 c10
          refine lv_aload_n C.1 C.2.1 dX11_token_18 rfl (lv_at hl 0 rfl) ?_
          refine lv_dup C.1 C.2.1 dX11_token_19 rfl ?_
          refine zg11_11 C hH (zM_n0 hM) (zM_k0 hM) q_1298 dX11_token_20 ?_
          refine zd_iconst C dX11_token_23 ?_
          refine zd_iadd C dX11_token_24 ?_
          obtain ⟨o60, hF⟩ := hF
          refine zp11_11 C hH hS (zM_n0 hM) (zM_k0 hM) q_1298 o60 dX11_token_25 (fun H locs hH hS => ?_)
          obtain ⟨X61, eX61⟩ : ∃ z, z = zU X2 (i) 11 ((X2 (i) 11) + 1) := ⟨_, rfl⟩
          rw [← eX61] at hH
          have hF := hF X61 eX61 hH.2.2.1
          refine lv_goto (tgt := 0) C.1 C.2.1 dX11_token_28 (by decide) ?_
          exact ih1 X61  hF.1 (Nat.lt_of_lt_of_le hF.2 (Nat.le_of_lt_succ hmu1)) _ _ _ hH hS (lv_sub hl [0] rfl)
  exact L1 (((X i 12 - X i 11).toNat) + 1) X  hI1 (Nat.lt_succ_self _) _ _ _ hH hS (lv_sub hl [0] rfl)
theorem v_X11_token {X Y : Nat → Int → Int} {R : Nat → Int → Option Nat} {i : Nat}  (hp : oRd X i) : F_X11_token i X Y R  := by
  unfold F_X11_token
  intro hX hY
  obtain ⟨hb, ⟨p0, p1⟩, l6⟩ := hp
  obtain ⟨n, hn⟩ : ∃ n : Nat, X i 12 = n := ⟨(X i 12).toNat, by omega⟩
  obtain ⟨p, hpp⟩ : ∃ p : Nat, X i 11 = p := ⟨(X i 11).toNat, by omega⟩
  obtain ⟨B, hBd⟩ : ∃ B, tkB (X (i + 1)) n p = B := ⟨_, rfl⟩
  have eN : tkN (X (i + 1)) n p = tkE (X (i + 1)) n B := by unfold tkN; rw [hBd]
  have eS : tkS (X (i + 1)) n p = tkK (X (i + 1)) n B := by unfold tkS; rw [hBd]
  have eV : tkV (X (i + 1)) n p = vaN (X (i + 1)) B (tkE (X (i + 1)) n B - B) := by unfold tkV; rw [eN, hBd]
  have eW : tkW (X (i + 1)) n p = if tkE (X (i + 1)) n B - B ≤ 8 then ((wvA (X (i + 1)) B (tkE (X (i + 1)) n B - B) : Nat) : Int) else 0 := by unfold tkW; rw [eN, hBd]
  simp only [hn, hpp, Int.toNat_natCast, hBd, eN, eS, eV, eW]
  refine ⟨?_, ?_⟩
  · exact ⟨fun _ _ => trivial, fun _ _ => trivial, p, rfl, by omega, hBd.symm⟩
  intro X2
  intro rX2
  intro h1
  obtain ⟨o2, s2, q, hq, qn, hB⟩ := h1
  have l2 : X2 i 12 = n := (s2 12 (by decide)).trans hn
  have t2 : X2 (i + 1) = X (i + 1) := o2 _ (by omega)
  have r2 : oRd X2 i := ⟨fun y y0 y1 => by rw [t2]; exact hb y y0 y1, ⟨by omega, by omega⟩, by omega⟩
  have q10 := see_eq (a := 10) r2 (by decide) (by decide)
  have q32 := see_eq (a := 32) r2 (by decide) (by decide)
  rw [hq, l2, t2] at q10 q32
  refine ⟨?_, ?_⟩
  · exact r2
  intro _
  refine ⟨?_, ?_⟩
  · intro c1
    refine ⟨?_, ?_⟩
    · rw [hq]
      exact ⟨by omega, by omega⟩
    intro X7
    intro eX7
    intro rX7
    refine ⟨?_, ?_⟩
    · have g := q10.mp c1
      refine ⟨fun z hz => by rw [eX7, zU_o hz]; exact o2 z hz, fun s hs => by rw [eX7, zU_n (by omega)]; exact s2 s hs, q + 1, by rw [eX7, zU_s, hq]; omega, by omega, ?_⟩
      rw [hB]
      refine en_s (by omega) ?_
      unfold isBl
      rw [decide_eq_true g.2]
      rfl
    have g := q10.mp c1
    rw [eX7, zU_s, hq]
    omega
  intro c2
  refine ⟨?_, ?_⟩
  · exact r2
  intro _
  refine ⟨?_, ?_⟩
  · intro c3
    intro X11
    intro eX11
    have bq : ¬ (q < n ∧ isBl (X (i + 1) q) = true) := fun g => by
      have g2 := g.2
      unfold isBl at g2
      rw [Bool.or_eq_true, decide_eq_true_eq, decide_eq_true_eq] at g2
      rcases g2 with g2 | g2
      · exact c2 (q10.mpr ⟨by omega, g2⟩)
      · exact c3 (q32.mpr ⟨by omega, g2⟩)
    rw [en_0 bq] at hB
    subst hB
    have o11 : ∀ z, z ≠ i → X11 z = X z := fun z hz => by rw [eX11, zU_o hz]; exact o2 z hz
    have n11 : ∀ s, s ≠ 11 → s ≠ 13 → X11 i s = X i s := fun s s1 s2' => by rw [eX11, zU_n (by omega)]; exact s2 s s1
    have p11 : X11 i 11 = B := by rw [eX11, zU_n (by omega)]; exact hq
    have b11 : X11 i 13 = B := by rw [eX11, zU_s]; exact hq
    have l11 : X11 i 12 = n := (n11 12 (by decide) (by decide)).trans hn
    have t11 : X11 (i + 1) = X (i + 1) := o11 _ (by omega)
    have r11 : oRd X11 i := ⟨fun y y0 y1 => by rw [t11]; exact hb y y0 y1, ⟨by omega, by omega⟩, by omega⟩
    have qL := see_in (a := 97) (b := 122) r11 (by decide) (by decide) (by decide)
    have qD := see_in (a := 48) (b := 57) r11 (by decide) (by decide) (by decide)
    have q59 := see_eq (a := 59) r11 (by decide) (by decide)
    rw [p11, l11, t11] at qL qD q59
    have bT := hb B (by omega)
    intro rX11
    refine ⟨?_, ?_⟩
    · exact r11
    intro _
    intro Y14
    intro eY14
    have y14 : ∀ z, z ≠ i → Y14 z = Y z := fun z hz => by rw [eY14, zU_o hz]
    intro rY14
    refine ⟨?_, ?_⟩
    · intro c4
      have bn : B < n := by
        by_cases g : B < n
        · exact g
        · rw [see_n (by rw [p11, l11]; omega)] at c4
          exact absurd c4 (by decide)
      rw [decide_eq_true (show (B : Int) < n by omega), Bool.true_and] at qL qD
      have qL : mIn (mSee X11 i) 97 122 = isLe (X (i + 1) B) := qL
      have qD : mIn (mSee X11 i) 48 57 = isDi (X (i + 1) B) := qD
      refine ⟨?_, ?_⟩
      · intro c5
        rw [qL] at c5
        refine ⟨?_, ?_⟩
        · intro c6
          rw [qD] at c6
          refine ⟨?_, ?_⟩
          · first | omega | exact ⟨by omega, by omega⟩ | decide | assumption | exact ⟨by omega, by omega, by omega⟩ | exact ⟨by decide, by decide⟩
          intro X19
          intro eX19
          intro rX19
          refine ⟨?_, ?_⟩
          · intro c7
            intro X21
            intro eX21
            intro rX21
            have eE : tkE (X (i + 1)) n B = B + 1 := by
              unfold tkE
              rw [if_neg (by omega), c5, c6]
              rfl
            have eK : tkK (X (i + 1)) n B = 1 := by
              unfold tkK
              rw [if_neg (by omega), c5, c6, if_neg (by decide), if_neg (by decide), if_neg (fun g => c7 (q59.mpr ⟨by omega, g⟩))]
            rw [eE, eK]
            refine ⟨⟨fun z hz => by rw [eX21, zU_o hz, eX19, zU_o hz]; exact o11 z hz, fun s s1 s2 s3 s4 => by rw [eX21, zU_n (by omega), eX19, zU_n (by omega)]; exact n11 s s1 s2, y14⟩, ?_, ?_, ?_, ?_, ?_⟩
            · rw [eX21, zU_n (by omega), eX19, zU_s, p11]
              omega
            · rw [eX21, zU_n (by omega), eX19, zU_n (by omega), b11]
            · rw [eX21, zU_s]
            · rw [eX21, zU_s]
              exact fun g => absurd g (by decide)
            · rw [eX21, zU_s]
              exact fun g => absurd g (by decide)
          intro c8
          intro X22
          intro eX22
          intro rX22
          have eE : tkE (X (i + 1)) n B = B + 1 := by
            unfold tkE
            rw [if_neg (by omega), c5, c6]
            rfl
          have eK : tkK (X (i + 1)) n B = 4 := by
            unfold tkK
            rw [if_neg (by omega), c5, c6, if_neg (by decide), if_neg (by decide), if_pos (q59.mp (Classical.not_not.mp c8)).2]
          rw [eE, eK]
          refine ⟨⟨fun z hz => by rw [eX22, zU_o hz, eX19, zU_o hz]; exact o11 z hz, fun s s1 s2 s3 s4 => by rw [eX22, zU_n (by omega), eX19, zU_n (by omega)]; exact n11 s s1 s2, y14⟩, ?_, ?_, ?_, ?_, ?_⟩
          · rw [eX22, zU_n (by omega), eX19, zU_s, p11]
            omega
          · rw [eX22, zU_n (by omega), eX19, zU_n (by omega), b11]
          · rw [eX22, zU_s]
          · rw [eX22, zU_s]
            exact fun g => absurd g (by decide)
          · rw [eX22, zU_s]
            exact fun g => absurd g (by decide)
        intro c9
        rw [qD] at c9
        intro X23
        intro eX23
        have o23 : ∀ z, z ≠ i → X23 z = X z := fun z hz => by rw [eX23, zU_o hz]; exact o11 z hz
        have n23 : ∀ s, s ≠ 11 → s ≠ 13 → s ≠ 15 → X23 i s = X i s := fun s s1 s2' s3 => by rw [eX23, zU_n (by omega)]; exact n11 s s1 s2'
        have p23 : X23 i 11 = B := by rw [eX23, zU_n (by omega)]; exact p11
        have b23 : X23 i 13 = B := by rw [eX23, zU_n (by omega)]; exact b11
        intro rX23
        refine ⟨?_, ?_⟩
        · exact ⟨o23, n23, trivial, 0, rfl, by rw [p23]; rfl, by omega, rfl, fun j hj => absurd hj (Nat.not_lt_zero _), by rw [eX23, zU_s]; rfl⟩
        intro wn X25
        intro _
        intro rX25
        intro h2
        obtain ⟨o25, n25, b25, k, hk, k11, kn, hen, hdi, hva⟩ := h2
        subst hk
        rw [b23] at b25
        have l25 : X25 i 12 = n := (n25 12 (by decide) (by decide) (by decide)).trans hn
        have t25 : X25 (i + 1) = X (i + 1) := o25 _ (by omega)
        have r25 : oRd X25 i := ⟨fun y y0 y1 => by rw [t25]; exact hb y y0 y1, ⟨by omega, by omega⟩, by omega⟩
        have qD2 := see_in (a := 48) (b := 57) r25 (by decide) (by decide) (by decide)
        rw [k11, l25, t25] at qD2
        have vb := vaN_b k hdi
        refine ⟨?_, ?_⟩
        · exact r25
        intro _
        refine ⟨?_, ?_⟩
        · intro c10
          rw [c10] at qD2
          have en0 : en isDi (X (i + 1)) n B = B + k := by
            rw [hen]
            refine en_0 (fun g => ?_)
            rw [decide_eq_true (show ((B + k : Nat) : Int) < n by omega), Bool.true_and] at qD2
            exact absurd (qD2.trans g.2) (by decide)
          have eE : tkE (X (i + 1)) n B = B + k := by
            unfold tkE
            rw [if_neg (by omega), c5, c9]
            exact en0
          have eK : tkK (X (i + 1)) n B = if 2 < k then 1 else 3 := by
            unfold tkK
            rw [if_neg (by omega), c5, c9, en0, show B + k - B = k by omega]
            rfl
          refine ⟨?_, ?_⟩
          · intro c11
            intro X30
            intro eX30
            intro rX30
            rw [eE, eK, if_neg (by omega), show B + k - B = k by omega]
            refine ⟨⟨fun z hz => by rw [eX30, zU_o hz]; exact o25 z hz, fun s s1 s2 s3 s4 => by rw [eX30, zU_n (by omega)]; exact n25 s s1 s2 s4, y14⟩, ?_, ?_, ?_, ?_, ?_⟩
            · rw [eX30, zU_n (by omega), k11]
            · rw [eX30, zU_n (by omega), b25]
            · rw [eX30, zU_s]
            · intro _
              rw [eX30, zU_n (by omega), hva]
            · rw [eX30, zU_s]
              exact fun g => absurd g (by decide)
          intro c12
          intro X31
          intro eX31
          intro rX31
          rw [eE, eK, if_pos (by omega)]
          refine ⟨⟨fun z hz => by rw [eX31, zU_o hz]; exact o25 z hz, fun s s1 s2 s3 s4 => by rw [eX31, zU_n (by omega)]; exact n25 s s1 s2 s4, y14⟩, ?_, ?_, ?_, ?_, ?_⟩
          · rw [eX31, zU_n (by omega), k11]
          · rw [eX31, zU_n (by omega), b25]
          · rw [eX31, zU_s]
          · rw [eX31, zU_s]
            exact fun g => absurd g (by decide)
          · rw [eX31, zU_s]
            exact fun g => absurd g (by decide)
        intro c13
        rw [c13] at qD2
        have qd3 := qD2.symm
        simp only [Bool.and_eq_true, decide_eq_true_eq] at qd3
        have di : isDi (X (i + 1) ((B + k : Nat) : Int)) = true := qd3.2
        have dv := mIn_t.mp qd3.2
        have sv := see_v r25 (by rw [k11, l25]; exact qd3.1)
        rw [k11, t25, if_neg (by omega)] at sv
        rw [sv]
        refine ⟨?_, ?_⟩
        · intro X32
          intro rX32
          intro h3
          refine ⟨?_, ?_⟩
          · rw [h3, zU_n (by omega), k11]
            exact ⟨by omega, by omega⟩
          intro X34
          intro eX34
          intro rX34
          refine ⟨?_, ?_⟩
          · first | omega | exact ⟨by omega, by omega⟩ | decide | assumption | exact ⟨by omega, by omega, by omega⟩ | exact ⟨by decide, by decide⟩
          refine ⟨?_, ?_⟩
          · refine ⟨fun z hz => by rw [eX34, zU_o hz, h3, zU_o hz]; exact o25 z hz, fun s s1 s2 s3 => by rw [eX34, zU_n (by omega), h3, zU_n (by omega)]; exact n25 s s1 s2 s3, by rw [eX34, zU_n (by omega), h3, zU_n (by omega), b25, b23], k + 1, by omega, ?_, by omega, ?_, fun j hj => ?_, ?_⟩
            · rw [eX34, zU_s, h3, zU_n (by omega), k11]
              omega
            · rw [hen]
              exact en_s (by omega) di
            · by_cases g : j = k
              · rw [g]
                exact di
              · exact hdi j (by omega)
            · rw [eX34, zU_n (by omega), h3, zU_s, hva]
              show _ = if k < 2 then _ else _
              by_cases g : k < 2
              · rw [if_pos (by omega), if_pos g]
              · rw [if_neg (by omega), if_neg g]
          rw [eX34, zU_s, h3, zU_n (by omega), k11]
          omega
        refine ⟨?_, ?_⟩
        · intro c14
          intro X37
          intro eX37
          intro rX37
          rw [eX37, if_neg (by omega)]
        intro c15
        refine ⟨?_, ?_⟩
        · exact r25
        intro _
        refine ⟨?_, ?_⟩
        · rw [hva]
          exact ⟨by omega, by omega⟩
        intro X41
        intro eX41
        intro rX41
        rw [eX41, if_pos (by omega)]
      intro c16
      rw [qL] at c16
      refine ⟨?_, ?_⟩
      · exact ⟨o11, n11, y14, trivial, 0, rfl, by rw [p11]; rfl, by omega, rfl, fun j hj => absurd hj (Nat.not_lt_zero _), fun _ => by rw [eY14, zU_s]; rfl⟩
      intro wn X43 Y44
      intro _
      intro rX43
      intro rY44
      intro h4
      obtain ⟨o43, n43, y43, b43, k, hk, k11, kn, hen, hle, hwv⟩ := h4
      subst hk
      rw [b11] at b43
      have l43 : X43 i 12 = n := (n43 12 (by decide) (by decide)).trans hn
      have t43 : X43 (i + 1) = X (i + 1) := o43 _ (by omega)
      have r43 : oRd X43 i := ⟨fun y y0 y1 => by rw [t43]; exact hb y y0 y1, ⟨by omega, by omega⟩, by omega⟩
      have qL2 := see_in (a := 97) (b := 122) r43 (by decide) (by decide) (by decide)
      rw [k11, l43, t43] at qL2
      have wb := wvA_b k hle
      refine ⟨?_, ?_⟩
      · exact r43
      intro _
      refine ⟨?_, ?_⟩
      · intro c17
        rw [c17] at qL2
        have en0 : en isLe (X (i + 1)) n B = B + k := by
          rw [hen]
          refine en_0 (fun g => ?_)
          rw [decide_eq_true (show ((B + k : Nat) : Int) < n by omega), Bool.true_and] at qL2
          exact absurd (qL2.trans g.2) (by decide)
        have eE : tkE (X (i + 1)) n B = B + k := by
          unfold tkE
          rw [if_neg (by omega), c16]
          exact en0
        have eK : tkK (X (i + 1)) n B = 2 := by
          unfold tkK
          rw [if_neg (by omega), c16]
          rfl
        refine ⟨?_, ?_⟩
        · intro c18
          intro Y49
          intro eY49
          intro rY49
          intro X50
          intro eX50
          intro rX50
          rw [eE, eK, show B + k - B = k by omega, if_pos (show k ≤ 8 by omega)]
          refine ⟨⟨fun z hz => by rw [eX50, zU_o hz]; exact o43 z hz, fun s s1 s2 s3 s4 => by rw [eX50, zU_n (by omega)]; exact n43 s s1 s2, fun z hz => by rw [eY49, zU_o hz]; exact y43 z hz⟩, ?_, ?_, ?_, ?_, ?_⟩
          · rw [eX50, zU_n (by omega), k11]
          · rw [eX50, zU_n (by omega), b43]
          · rw [eX50, zU_s]
          · rw [eX50, zU_s]
            exact fun g => absurd g (by decide)
          · intro _
            rw [eY49, zU_s]
            exact hwv (by omega)
        intro c19
        intro Y51
        intro eY51
        intro rY51
        intro X52
        intro eX52
        intro rX52
        rw [eE, eK, show B + k - B = k by omega, if_neg (show ¬ k ≤ 8 by omega)]
        refine ⟨⟨fun z hz => by rw [eX52, zU_o hz]; exact o43 z hz, fun s s1 s2 s3 s4 => by rw [eX52, zU_n (by omega)]; exact n43 s s1 s2, fun z hz => by rw [eY51, zU_o hz]; exact y43 z hz⟩, ?_, ?_, ?_, ?_, ?_⟩
        · rw [eX52, zU_n (by omega), k11]
        · rw [eX52, zU_n (by omega), b43]
        · rw [eX52, zU_s]
        · rw [eX52, zU_s]
          exact fun g => absurd g (by decide)
        · intro _
          rw [eY51, zU_s]
      intro c20
      rw [c20] at qL2
      have ql3 := qL2.symm
      simp only [Bool.and_eq_true, decide_eq_true_eq] at ql3
      have le : isLe (X (i + 1) ((B + k : Nat) : Int)) = true := ql3.2
      have dv := mIn_t.mp ql3.2
      have sv := see_v r43 (by rw [k11, l43]; exact ql3.1)
      rw [k11, t43, if_neg (by omega)] at sv
      rw [sv]
      refine ⟨?_, ?_⟩
      · exact r43
      intro _
      intro Y55
      intro eY55
      intro rY55
      refine ⟨?_, ?_⟩
      · first | omega | exact ⟨by omega, by omega⟩ | decide | assumption | exact ⟨by omega, by omega, by omega⟩ | exact ⟨by decide, by decide⟩
      intro X57
      intro eX57
      intro rX57
      refine ⟨?_, ?_⟩
      · first | omega | exact ⟨by omega, by omega⟩ | decide | assumption | exact ⟨by omega, by omega, by omega⟩ | exact ⟨by decide, by decide⟩
      refine ⟨?_, ?_⟩
      · refine ⟨fun z hz => by rw [eX57, zU_o hz]; exact o43 z hz, fun s s1 s2 => by rw [eX57, zU_n (by omega)]; exact n43 s s1 s2, fun z hz => by rw [eY55, zU_o hz]; exact y43 z hz, by rw [eX57, zU_n (by omega), b43, b11], k + 1, by omega, ?_, by omega, ?_, fun j hj => ?_, fun k8 => ?_⟩
        · rw [eX57, zU_s, k11]
          omega
        · rw [hen]
          exact en_s (by omega) le
        · by_cases g : j = k
          · rw [g]
            exact le
          · exact hle j (by omega)
        · rw [eY55, zU_s, hwv (by omega)]
          have hp7 : (256 : Nat) ^ k ≤ 256 ^ 7 := Nat.pow_le_pow_right (by decide) (by omega)
          have h7 : (256 : Nat) ^ 7 = 72057594037927936 := by decide
          have ec : X (i + 1) ((B + k : Nat) : Int) = (((X (i + 1) ((B + k : Nat) : Int)).toNat : Nat) : Int) := by omega
          rw [ec, wv_or (by omega) (by omega)]
          rfl
      rw [eX57, zU_s, k11]
      omega
    intro c21
    have bn : n ≤ B := by
      by_cases g : B < n
      · rw [see_v r11 (by rw [p11, l11]; omega), p11, t11] at c21
        have := bT (by omega)
        split at c21 <;> omega
      · omega
    have eE : tkE (X (i + 1)) n B = B := by
      unfold tkE
      rw [if_pos bn]
    have eK : tkK (X (i + 1)) n B = 0 := by
      unfold tkK
      rw [if_pos bn]
    intro X59
    intro eX59
    intro rX59
    rw [eE, eK]
    refine ⟨⟨fun z hz => by rw [eX59, zU_o hz]; exact o11 z hz, fun s s1 s2 s3 s4 => by rw [eX59, zU_n (by omega)]; exact n11 s s1 s2, y14⟩, ?_, ?_, ?_, ?_, ?_⟩
    · rw [eX59, zU_n (by omega), p11]
    · rw [eX59, zU_n (by omega), b11]
    · rw [eX59, zU_s]
    · rw [eX59, zU_s]
      exact fun g => absurd g (by decide)
    · rw [eX59, zU_s]
      exact fun g => absurd g (by decide)
  intro c22
  refine ⟨?_, ?_⟩
  · rw [hq]
    exact ⟨by omega, by omega⟩
  intro X61
  intro eX61
  intro rX61
  refine ⟨?_, ?_⟩
  · have g := q32.mp (Classical.not_not.mp c22)
    refine ⟨fun z hz => by rw [eX61, zU_o hz]; exact o2 z hz, fun s hs => by rw [eX61, zU_n (by omega)]; exact s2 s hs, q + 1, by rw [eX61, zU_s, hq]; omega, by omega, ?_⟩
    rw [hB]
    refine en_s (by omega) ?_
    unfold isBl
    rw [decide_eq_true g.2, Bool.or_true]
  have g := q32.mp (Classical.not_not.mp c22)
  rw [eX61, zU_s, hq]
  omega
theorem c_X11_token {l : Launch} {D : va_G} {cy : Nat → ClassId} {bs N : Nat} {sa : Nat → Nat} {kd len : Nat → Nat} {X Y : Nat → Int → Int} {R : Nat → Int → Option Nat} {i : Nat} (hM : zM N kd len R i)  (hp : oRd X i) : Met l yX11_token (.code yX11_token cX11_token 3 none :: zTB) (zRm 1 22) (zPc D cy bs sa N kd len X Y R [.ref (bs + (i))]) (zQv D cy bs N kd len (fun st => st.2.2 = R ∧ (tkC X (st.1) Y (st.2.1) i ∧ (st.1) i 11 = tkN (X (i + 1)) (X i 12).toNat (X i 11).toNat ∧ (st.1) i 13 = tkB (X (i + 1)) (X i 12).toNat (X i 11).toNat ∧ (st.1) i 14 = tkS (X (i + 1)) (X i 12).toNat (X i 11).toNat ∧ ((st.1) i 14 = 3 → (st.1) i 15 = tkV (X (i + 1)) (X i 12).toNat (X i 11).toNat) ∧ ((st.1) i 14 = 2 → (st.2.1) i 16 = tkW (X (i + 1)) (X i 12).toNat (X i 11).toNat)))) 0 0 (zA bs) := w_X11_token hM  (v_X11_token  hp)
