/-! THE TOLD STATE, as the reference's rows hold it -/
def oNet (X : Nat → Int → Int) (i : Nat) (n : Int) : Prop := (1 ≤ X (i + 6) (13 * n) ∧ X (i + 6) (13 * n) ≤ 9) ∧ (1 ≤ X (i + 6) (13 * n + 1) ∧ X (i + 6) (13 * n + 1) ≤ 99) ∧ (1 ≤ X (i + 6) (13 * n + 2) ∧ X (i + 6) (13 * n + 2) ≤ 99) ∧ (0 ≤ X (i + 6) (13 * n + 3) ∧ X (i + 6) (13 * n + 3) ≤ 1) ∧ (0 ≤ X (i + 6) (13 * n + 4) ∧ X (i + 6) (13 * n + 4) ≤ 1) ∧ (0 ≤ X (i + 6) (13 * n + 5) ∧ X (i + 6) (13 * n + 5) ≤ 99) ∧ (0 ≤ X (i + 6) (13 * n + 6) ∧ X (i + 6) (13 * n + 6) ≤ 6) ∧ ∀ a, 0 ≤ a → a < 6 → 0 ≤ X (i + 6) (13 * n + (7 + a)) ∧ X (i + 6) (13 * n + (7 + a)) ≤ 99
/-- an entry of a block -/
def cE (X : Nat → Int → Int) (i : Nat) (c k w : Int) : Int := X (i + 7) (183 * c + 1 + 13 * (k - 1) + w)
def oChn (X : Nat → Int → Int) (i : Nat) (c : Int) : Prop := (0 ≤ X (i + 7) (183 * c) ∧ X (i + 7) (183 * c) ≤ 14) ∧ ∀ k, 1 ≤ k → k ≤ X (i + 7) (183 * c) → (0 ≤ cE X i c k 0 ∧ cE X i c k 0 < k) ∧ (0 ≤ cE X i c k 1 ∧ cE X i c k 1 ≤ 99) ∧ (0 ≤ cE X i c k 2 ∧ cE X i c k 2 ≤ 5) ∧ (0 ≤ cE X i c k 3 ∧ cE X i c k 3 ≤ 3) ∧ ∀ j : Nat, (j : Int) < cE X i c k 3 → (0 ≤ cE X i c k (4 + 3 * j) ∧ cE X i c k (4 + 3 * j) ≤ 5) ∧ (0 ≤ cE X i c k (5 + 3 * j) ∧ cE X i c k (5 + 3 * j) ≤ 5) ∧ (1 ≤ cE X i c k (6 + 3 * j) ∧ cE X i c k (6 + 3 * j) ≤ 99)
/-- which nets and blocks there are, and that they are as they may be -/
def oTN (X : Nat → Int → Int) (i : Nat) : Prop := (∀ s, 0 ≤ s → s < 5 → 0 ≤ X (i + 5) s ∧ X (i + 5) s ≤ 2) ∧ (∀ n, 0 ≤ n → n < X (i + 5) 0 → oNet X i n) ∧ ∀ c, 0 ≤ c → c < X (i + 5) 1 → oChn X i c
theorem oTN_k {X X1 : Nat → Int → Int} {i : Nat} (h5 : X1 (i + 5) = X (i + 5)) (h6 : X1 (i + 6) = X (i + 6)) (h7 : X1 (i + 7) = X (i + 7)) (h : oTN X i) : oTN X1 i := by
  unfold oTN oNet oChn cE at h ⊢
  rw [h5, h6, h7]
  exact h
/-- net and blocks in hand: works, weights, soundness, ledgers laid -/
def oH (X Y : Nat → Int → Int) (i : Nat) : Prop := (oG X i ∧ oA X i ∧ (1 ≤ X i 27 ∧ X i 27 ≤ 15) ∧ oBs X i (X i 27 - 1).toNat) ∧ ((0 ≤ X i 28 ∧ X i 28 ≤ 1) ∧ (0 ≤ X i 29 ∧ X i 29 ≤ 1)) ∧ (∀ j : Nat, (j : Int) < X i 27 → X (i + 13) j = sHg (rP X i) j ∧ Y (i + 14) j = rW X i j ∧ Y (i + 15) j = rG X i j) ∧ X i 35 = bS (sdf X i) (X i 27).toNat ∧ ∀ j : Nat, (j : Int) < X i 27 → ∀ M, rS X i j = some M → lM X i j M
theorem mIs_t {i : Nat} {X : Nat → Int → Int} {s k : Int} : mIs i X s k = true ↔ 0 ≤ k ∧ k < X (i + 5) s := by
  unfold mIs
  rw [mIn_t]
  omega
theorem mIs_f {i : Nat} {X : Nat → Int → Int} {s k : Int} : mIs i X s k = false ↔ ¬ (0 ≤ k ∧ k < X (i + 5) s) := by
  unfold mIs
  rw [mIn_f]
  omega
abbrev cX11_hasNet : ByteArray := prog_13_method_38_code
def yX11_hasNet : MethodName := ⟨RX11, "hasNet", "(I)Z"⟩
theorem dX11_hasNet_0 : decode cX11_hasNet 0 = .ok (.aload_n 0, 1) := by decide +kernel
theorem dX11_hasNet_1 : decode cX11_hasNet 1 = .ok (.iload_n 1, 1) := by decide +kernel
theorem dX11_hasNet_2 : decode cX11_hasNet 2 = .ok (.putfield 249, 3) := by decide +kernel
theorem dX11_hasNet_5 : decode cX11_hasNet 5 = .ok (.aload_n 0, 1) := by decide +kernel
theorem dX11_hasNet_6 : decode cX11_hasNet 6 = .ok (.iconst 0, 1) := by decide +kernel
theorem dX11_hasNet_7 : decode cX11_hasNet 7 = .ok (.iload_n 1, 1) := by decide +kernel
theorem dX11_hasNet_8 : decode cX11_hasNet 8 = .ok (.invokevirtual 240, 3) := by decide +kernel
theorem dX11_hasNet_11 : decode cX11_hasNet 11 = .ok (.ireturn, 1) := by decide +kernel
theorem q_1505 : Cond.methodLink RX11 240 yX11_is ∈ zTB := zmem 1505 (by decide +kernel) rfl
theorem q_1507 : Cond.instanceMethod yX11_is ∈ zTB := zmem 1507 (by decide +kernel) rfl
theorem q_34 : Cond.selects RX11 yX11_is yX11_is ∈ zTB := zmem 34 (by decide +kernel) rfl
theorem q_1508 : Cond.code yX11_is cX11_is 3 (some .boolean) ∈ zTB := zmem 1508 (by decide +kernel) rfl
theorem k_RX11_240 : zLv RX11 240 RX11 yX11_is cX11_is 3 (some .boolean) 2 := ⟨⟨q_1505, q_1507, q_34, q_140, q_1508⟩, rfl, ⟨by decide, by decide⟩, by decide +kernel⟩
def F_X11_hasNet (i : Nat) (X Y : Nat → Int → Int) (R : Nat → Int → Option Nat) (a : Int) : Prop := (∀ i j, rI (X i j)) → (∀ i j, rL (Y i j)) → ∀ X1 : Nat → Int → Int, X1 = zU X (i) 24 (a) → (∀ i j, rI (X1 i j)) → ((0 ≤ (0 : Int) ∧ (0 : Int) < 5 ∧ 0 ≤ X1 (i + 5) (0 : Int)) ∧ ((mIs i X1 ((0 : Int)) (a)) = mIs i X 0 (a) ∧ X1 = zU X i 24 (a)))
set_option maxHeartbeats 4000000 in
set_option maxRecDepth 100000 in
theorem w_X11_hasNet {l : Launch} {D : va_G} {cy : Nat → ClassId} {bs N : Nat} {sa : Nat → Nat} {kd len : Nat → Nat} {X Y : Nat → Int → Int} {R : Nat → Int → Option Nat} {i : Nat} (hM : zM N kd len R i) (a : Int) (ha : rI a) (hF : F_X11_hasNet i X Y R a) : Met l yX11_hasNet (.code yX11_hasNet cX11_hasNet 2 (some .boolean) :: zTB) (zRm 2 44) (zPc D cy bs sa N kd len X Y R [.ref (bs + (i)), .int (zI (a))]) (zQi D cy bs N kd len (fun r st => st.2.1 = Y ∧ st.2.2 = R ∧ ∃ rb : Bool, r = bz rb ∧ (rb = mIs i X 0 (a) ∧ st.1 = zU X i 24 (a)))) 0 0 (zA bs) := by
  refine zstart (by decide) (Nat.le_of_ble_eq_true rfl) ?_
  intro p e s m args below meth c ls C hE hH hr hlk hnm hl hargs
  have hF := hF hH.2.2.1 hH.2.2.2
  have hS : va_S (zA bs) s.heap s.heap [] := va_S.rf
  have hl : lv_has ls 2 [(0, .ref (bs + (i))), (1, .int (zI (a)))] := hl
  refine lv_aload_n C.1 C.2.1 dX11_hasNet_0 rfl (lv_at hl 0 rfl) ?_
  refine lv_iload_n C.1 C.2.1 dX11_hasNet_1 rfl (lv_at hl 1 rfl) ?_
  refine zp11_24 C hH hS (zM_n0 hM) (zM_k0 hM) q_1311 ha dX11_hasNet_2 (fun H locs hH hS => ?_)
  obtain ⟨X1, eX1⟩ : ∃ z, z = zU X (i) 24 (a) := ⟨_, rfl⟩
  rw [← eX1] at hH
  have hF := hF X1 eX1 hH.2.2.1
  refine lv_aload_n C.1 C.2.1 dX11_hasNet_5 rfl (lv_at hl 0 rfl) ?_
  refine zd_iconst C dX11_hasNet_6 ?_
  refine lv_iload_n C.1 C.2.1 dX11_hasNet_7 rfl (lv_at hl 1 rfl) ?_
  obtain ⟨o2, hF⟩ := hF
  refine zgoi (zrunV (As := [.int (zI (0)), .int (zI (a))]) (rest := []) C hE hH hS hl.1 (c_X11_is (l := l) hM (0) (by decide) (a) ha o2) k_RX11_240 ⟨Nat.le_of_ble_eq_true rfl, Nat.le_of_ble_eq_true rfl⟩ (zM_n0 hM) (zM_k0 hM) rfl rfl rfl (Nat.le_of_ble_eq_true rfl) dX11_hasNet_8 ⟨Nat.zero_le _, Nat.zero_le _⟩) hS (fun rq Xq Yq Rq H locs hrq hq hH hS => ?_)
  obtain ⟨h91, h92⟩ := hq
  have h93 : Xq = X1 := congrArg (fun z => z.1) h92
  have h94 : Yq = Y := congrArg (fun z => z.2.1) h92
  have h95 : Rq = R := congrArg (fun z => z.2.2) h92
  rw [h93, h94, h95] at hH
  subst h91
  exact zd_zret C hr hlk hH hS bz_01 (⟨rfl, rfl, _, rfl, hF⟩) dX11_hasNet_11
theorem v_X11_hasNet {X Y : Nat → Int → Int} {R : Nat → Int → Option Nat} {i : Nat} (a : Int) (ha : rI a) (hp : 0 ≤ X (i + 5) 0) : F_X11_hasNet i X Y R a := by
  unfold F_X11_hasNet
  intro hX hY X1 e1 r1
  have h5 : X1 (i + 5) = X (i + 5) := by rw [e1, zU_o (by omega)]
  refine ⟨⟨by decide, by decide, by rw [h5]; exact hp⟩, ?_, e1⟩
  unfold mIs
  rw [h5]
theorem c_X11_hasNet {l : Launch} {D : va_G} {cy : Nat → ClassId} {bs N : Nat} {sa : Nat → Nat} {kd len : Nat → Nat} {X Y : Nat → Int → Int} {R : Nat → Int → Option Nat} {i : Nat} (hM : zM N kd len R i) (a : Int) (ha : rI a) (hp : 0 ≤ X (i + 5) 0) : Met l yX11_hasNet (.code yX11_hasNet cX11_hasNet 2 (some .boolean) :: zTB) (zRm 2 44) (zPc D cy bs sa N kd len X Y R [.ref (bs + (i)), .int (zI (a))]) (zQi D cy bs N kd len (fun r st => st.2.1 = Y ∧ st.2.2 = R ∧ ∃ rb : Bool, r = bz rb ∧ (rb = mIs i X 0 (a) ∧ st.1 = zU X i 24 (a)))) 0 0 (zA bs) := w_X11_hasNet hM a ha (v_X11_hasNet a ha hp)
abbrev cX11_hasChain : ByteArray := prog_13_method_39_code
def yX11_hasChain : MethodName := ⟨RX11, "hasChain", "(I)Z"⟩
theorem dX11_hasChain_0 : decode cX11_hasChain 0 = .ok (.aload_n 0, 1) := by decide +kernel
theorem dX11_hasChain_1 : decode cX11_hasChain 1 = .ok (.iload_n 1, 1) := by decide +kernel
theorem dX11_hasChain_2 : decode cX11_hasChain 2 = .ok (.putfield 252, 3) := by decide +kernel
theorem dX11_hasChain_5 : decode cX11_hasChain 5 = .ok (.aload_n 0, 1) := by decide +kernel
theorem dX11_hasChain_6 : decode cX11_hasChain 6 = .ok (.iconst 1, 1) := by decide +kernel
theorem dX11_hasChain_7 : decode cX11_hasChain 7 = .ok (.iload_n 1, 1) := by decide +kernel
theorem dX11_hasChain_8 : decode cX11_hasChain 8 = .ok (.invokevirtual 240, 3) := by decide +kernel
theorem dX11_hasChain_11 : decode cX11_hasChain 11 = .ok (.ifCond .ne 5, 3) := by decide +kernel
theorem dX11_hasChain_14 : decode cX11_hasChain 14 = .ok (.iconst 0, 1) := by decide +kernel
theorem dX11_hasChain_15 : decode cX11_hasChain 15 = .ok (.ireturn, 1) := by decide +kernel
theorem dX11_hasChain_16 : decode cX11_hasChain 16 = .ok (.aload_n 0, 1) := by decide +kernel
theorem dX11_hasChain_17 : decode cX11_hasChain 17 = .ok (.iconst 1, 1) := by decide +kernel
theorem dX11_hasChain_18 : decode cX11_hasChain 18 = .ok (.aload_n 0, 1) := by decide +kernel
theorem dX11_hasChain_19 : decode cX11_hasChain 19 = .ok (.getfield 29, 3) := by decide +kernel
theorem dX11_hasChain_22 : decode cX11_hasChain 22 = .ok (.sipush 183, 3) := by decide +kernel
theorem dX11_hasChain_25 : decode cX11_hasChain 25 = .ok (.iload_n 1, 1) := by decide +kernel
theorem dX11_hasChain_26 : decode cX11_hasChain 26 = .ok (.imul, 1) := by decide +kernel
theorem dX11_hasChain_27 : decode cX11_hasChain 27 = .ok (.iaload, 1) := by decide +kernel
theorem dX11_hasChain_28 : decode cX11_hasChain 28 = .ok (.iadd, 1) := by decide +kernel
theorem dX11_hasChain_29 : decode cX11_hasChain 29 = .ok (.putfield 255, 3) := by decide +kernel
theorem dX11_hasChain_32 : decode cX11_hasChain 32 = .ok (.iconst 1, 1) := by decide +kernel
theorem dX11_hasChain_33 : decode cX11_hasChain 33 = .ok (.ireturn, 1) := by decide +kernel
def F_X11_hasChain (i : Nat) (X Y : Nat → Int → Int) (R : Nat → Int → Option Nat) (a : Int) : Prop := (∀ i j, rI (X i j)) → (∀ i j, rL (Y i j)) → ∀ X1 : Nat → Int → Int, X1 = zU X (i) 25 (a) → (∀ i j, rI (X1 i j)) → ((0 ≤ (1 : Int) ∧ (1 : Int) < 5 ∧ 0 ≤ X1 (i + 5) (1 : Int)) ∧ ((((mIs i X1 ((1 : Int)) (a)) = true) → ((0 ≤ (183 * a) ∧ (183 * a) < 1464) ∧ ((rI (1 + (X1 (i + 7) (183 * a)))) ∧ (∀ X6 : Nat → Int → Int, X6 = zU X1 (i) 27 (1 + (X1 (i + 7) (183 * a))) → (∀ i j, rI (X6 i j)) → (true = mIs i X 1 (a) ∧ X6 = if true then zU (zU X i 25 (a)) i 27 (1 + X (i + 7) (183 * (a))) else zU X i 25 (a)))))) ∧ (((mIs i X1 ((1 : Int)) (a)) = false) → (false = mIs i X 1 (a) ∧ X1 = if false then zU (zU X i 25 (a)) i 27 (1 + X (i + 7) (183 * (a))) else zU X i 25 (a)))))
set_option maxHeartbeats 4000000 in
set_option maxRecDepth 100000 in
theorem w_X11_hasChain {l : Launch} {D : va_G} {cy : Nat → ClassId} {bs N : Nat} {sa : Nat → Nat} {kd len : Nat → Nat} {X Y : Nat → Int → Int} {R : Nat → Int → Option Nat} {i : Nat} (hM : zM N kd len R i) (a : Int) (ha : rI a) (hF : F_X11_hasChain i X Y R a) : Met l yX11_hasChain (.code yX11_hasChain cX11_hasChain 2 (some .boolean) :: zTB) (zRm 2 44) (zPc D cy bs sa N kd len X Y R [.ref (bs + (i)), .int (zI (a))]) (zQi D cy bs N kd len (fun r st => st.2.1 = Y ∧ st.2.2 = R ∧ ∃ rb : Bool, r = bz rb ∧ (rb = mIs i X 1 (a) ∧ st.1 = if rb then zU (zU X i 25 (a)) i 27 (1 + X (i + 7) (183 * (a))) else zU X i 25 (a)))) 0 0 (zA bs) := by
  refine zstart (by decide) (Nat.le_of_ble_eq_true rfl) ?_
  intro p e s m args below meth c ls C hE hH hr hlk hnm hl hargs
  have hF := hF hH.2.2.1 hH.2.2.2
  have hS : va_S (zA bs) s.heap s.heap [] := va_S.rf
  have hl : lv_has ls 2 [(0, .ref (bs + (i))), (1, .int (zI (a)))] := hl
  refine lv_aload_n C.1 C.2.1 dX11_hasChain_0 rfl (lv_at hl 0 rfl) ?_
  refine lv_iload_n C.1 C.2.1 dX11_hasChain_1 rfl (lv_at hl 1 rfl) ?_
  refine zp11_25 C hH hS (zM_n0 hM) (zM_k0 hM) q_1312 ha dX11_hasChain_2 (fun H locs hH hS => ?_)
  obtain ⟨X1, eX1⟩ : ∃ z, z = zU X (i) 25 (a) := ⟨_, rfl⟩
  rw [← eX1] at hH
  have hF := hF X1 eX1 hH.2.2.1
  refine lv_aload_n C.1 C.2.1 dX11_hasChain_5 rfl (lv_at hl 0 rfl) ?_
  refine zd_iconst C dX11_hasChain_6 ?_
  refine lv_iload_n C.1 C.2.1 dX11_hasChain_7 rfl (lv_at hl 1 rfl) ?_
  obtain ⟨o2, hF⟩ := hF
  refine zgoi (zrunV (As := [.int (zI (1)), .int (zI (a))]) (rest := []) C hE hH hS hl.1 (c_X11_is (l := l) hM (1) (by decide) (a) ha o2) k_RX11_240 ⟨Nat.le_of_ble_eq_true rfl, Nat.le_of_ble_eq_true rfl⟩ (zM_n0 hM) (zM_k0 hM) rfl rfl rfl (Nat.le_of_ble_eq_true rfl) dX11_hasChain_8 ⟨Nat.zero_le _, Nat.zero_le _⟩) hS (fun rq Xq Yq Rq H locs hrq hq hH hS => ?_)
  obtain ⟨h91, h92⟩ := hq
  have h93 : Xq = X1 := congrArg (fun z => z.1) h92
  have h94 : Yq = Y := congrArg (fun z => z.2.1) h92
  have h95 : Rq = R := congrArg (fun z => z.2.2) h92
  rw [h93, h94, h95] at hH
  subst h91
  refine zd_ifB_ne C 16 dX11_hasChain_11 (by decide) (fun c3 => ?_) (fun c3 => ?_)
  · have hF := hF.1 c3
    refine lv_aload_n C.1 C.2.1 dX11_hasChain_16 rfl (lv_at hl 0 rfl) ?_
    refine zd_iconst C dX11_hasChain_17 ?_
    refine lv_aload_n C.1 C.2.1 dX11_hasChain_18 rfl (lv_at hl 0 rfl) ?_
    refine zg11_7 C hH (zM_n0 hM) (zM_k0 hM) q_1294 (zM_r7 hM) dX11_hasChain_19 ?_
    refine zd_sipush C (by decide) dX11_hasChain_22 ?_
    refine lv_iload_n C.1 C.2.1 dX11_hasChain_25 rfl (lv_at hl 1 rfl) ?_
    refine zd_imul C dX11_hasChain_26 ?_
    obtain ⟨o4, hF⟩ := hF
    refine zd_iald C hH (zM_n7 hM) (zM_k7 hM) o4.1 (by rw [zM_l7 hM]; exact o4.2) (by rw [zM_l7 hM]; decide) dX11_hasChain_27 ?_
    refine zd_iadd C dX11_hasChain_28 ?_
    obtain ⟨o5, hF⟩ := hF
    refine zp11_27 C hH hS (zM_n0 hM) (zM_k0 hM) q_1314 o5 dX11_hasChain_29 (fun H locs hH hS => ?_)
    obtain ⟨X6, eX6⟩ : ∃ z, z = zU X1 (i) 27 (1 + (X1 (i + 7) (183 * a))) := ⟨_, rfl⟩
    rw [← eX6] at hH
    have hF := hF X6 eX6 hH.2.2.1
    refine zd_iconst C dX11_hasChain_32 ?_
    exact zd_zret C hr hlk hH hS (by decide) (⟨rfl, rfl, _, rfl, hF⟩) dX11_hasChain_33
  · have hF := hF.2 c3
    refine zd_iconst C dX11_hasChain_14 ?_
    exact zd_zret C hr hlk hH hS (by decide) (⟨rfl, rfl, _, rfl, hF⟩) dX11_hasChain_15
theorem v_X11_hasChain {X Y : Nat → Int → Int} {R : Nat → Int → Option Nat} {i : Nat} (a : Int) (ha : rI a) (hp : oTN X i) : F_X11_hasChain i X Y R a := by
  unfold F_X11_hasChain
  intro hX hY X1 e1 r1
  have h5 : X1 (i + 5) = X (i + 5) := by rw [e1, zU_o (by omega)]
  have h7 : X1 (i + 7) = X (i + 7) := by rw [e1, zU_o (by omega)]
  have em : mIs i X1 1 a = mIs i X 1 a := by
    unfold mIs
    rw [h5]
  have hb := hp.1 1 (by decide) (by decide)
  rw [em]
  refine ⟨⟨by decide, by decide, by rw [h5]; exact hb.1⟩, fun h => ?_, fun h => ?_⟩
  · have h2 := mIs_t.mp h
    have hc := hp.2.2 a h2.1 h2.2
    rw [h7]
    refine ⟨⟨by omega, by omega⟩, ⟨by have := hc.1; omega, by have := hc.1; omega⟩, fun X4 e4 r4 => ⟨h.symm, ?_⟩⟩
    rw [if_pos rfl, e4, e1]
  · exact ⟨h.symm, by rw [if_neg (by decide)]; exact e1⟩
theorem c_X11_hasChain {l : Launch} {D : va_G} {cy : Nat → ClassId} {bs N : Nat} {sa : Nat → Nat} {kd len : Nat → Nat} {X Y : Nat → Int → Int} {R : Nat → Int → Option Nat} {i : Nat} (hM : zM N kd len R i) (a : Int) (ha : rI a) (hp : oTN X i) : Met l yX11_hasChain (.code yX11_hasChain cX11_hasChain 2 (some .boolean) :: zTB) (zRm 2 44) (zPc D cy bs sa N kd len X Y R [.ref (bs + (i)), .int (zI (a))]) (zQi D cy bs N kd len (fun r st => st.2.1 = Y ∧ st.2.2 = R ∧ ∃ rb : Bool, r = bz rb ∧ (rb = mIs i X 1 (a) ∧ st.1 = if rb then zU (zU X i 25 (a)) i 27 (1 + X (i + 7) (183 * (a))) else zU X i 25 (a)))) 0 0 (zA bs) := w_X11_hasChain hM a ha (v_X11_hasChain a ha hp)
/-- what hand() leaves as it is: told rows, all but its own slots -/
def hK (X X1 Y Y1 : Nat → Int → Int) (i : Nat) : Prop := (∀ a, a ≠ i → a ≠ i + 13 → a ≠ i + 16 → X1 a = X a) ∧ (∀ s, (s < 24 ∨ 30 < s) → s ≠ 35 → X1 i s = X i s) ∧ ∀ a, a ≠ i + 14 → a ≠ i + 15 → Y1 a = Y a
/-- what hand() picks -/
def hS9 (X X1 : Nat → Int → Int) (i : Nat) (n c : Int) : Prop := X1 i 24 = n ∧ X1 i 25 = c ∧ X1 i 26 = X (i + 6) (13 * n + 6) ∧ X1 i 27 = 1 + X (i + 7) (183 * c) ∧ X1 i 28 = X (i + 6) (13 * n + 3) ∧ X1 i 29 = X (i + 6) (13 * n + 4) ∧ X1 i 30 = X (i + 6) (13 * n)
abbrev cX11_hand : ByteArray := prog_13_method_51_code
def yX11_hand : MethodName := ⟨RX11, "hand", "(II)Z"⟩
theorem dX11_hand_0 : decode cX11_hand 0 = .ok (.aload_n 0, 1) := by decide +kernel
theorem dX11_hand_1 : decode cX11_hand 1 = .ok (.iload_n 2, 1) := by decide +kernel
theorem dX11_hand_2 : decode cX11_hand 2 = .ok (.invokevirtual 301, 3) := by decide +kernel
theorem dX11_hand_5 : decode cX11_hand 5 = .ok (.ifCond .eq 11, 3) := by decide +kernel
theorem dX11_hand_8 : decode cX11_hand 8 = .ok (.aload_n 0, 1) := by decide +kernel
theorem dX11_hand_9 : decode cX11_hand 9 = .ok (.iload_n 1, 1) := by decide +kernel
theorem dX11_hand_10 : decode cX11_hand 10 = .ok (.invokevirtual 304, 3) := by decide +kernel
theorem dX11_hand_13 : decode cX11_hand 13 = .ok (.ifCond .ne 5, 3) := by decide +kernel
theorem dX11_hand_16 : decode cX11_hand 16 = .ok (.iconst 0, 1) := by decide +kernel
theorem dX11_hand_17 : decode cX11_hand 17 = .ok (.ireturn, 1) := by decide +kernel
theorem dX11_hand_18 : decode cX11_hand 18 = .ok (.aload_n 0, 1) := by decide +kernel
theorem dX11_hand_19 : decode cX11_hand 19 = .ok (.aload_n 0, 1) := by decide +kernel
theorem dX11_hand_20 : decode cX11_hand 20 = .ok (.bipush 6, 2) := by decide +kernel
theorem dX11_hand_22 : decode cX11_hand 22 = .ok (.invokevirtual 280, 3) := by decide +kernel
theorem dX11_hand_25 : decode cX11_hand 25 = .ok (.putfield 261, 3) := by decide +kernel
theorem dX11_hand_28 : decode cX11_hand 28 = .ok (.aload_n 0, 1) := by decide +kernel
theorem dX11_hand_29 : decode cX11_hand 29 = .ok (.aload_n 0, 1) := by decide +kernel
theorem dX11_hand_30 : decode cX11_hand 30 = .ok (.iconst 3, 1) := by decide +kernel
theorem dX11_hand_31 : decode cX11_hand 31 = .ok (.invokevirtual 280, 3) := by decide +kernel
theorem dX11_hand_34 : decode cX11_hand 34 = .ok (.putfield 307, 3) := by decide +kernel
theorem dX11_hand_37 : decode cX11_hand 37 = .ok (.aload_n 0, 1) := by decide +kernel
theorem dX11_hand_38 : decode cX11_hand 38 = .ok (.aload_n 0, 1) := by decide +kernel
theorem dX11_hand_39 : decode cX11_hand 39 = .ok (.iconst 4, 1) := by decide +kernel
theorem dX11_hand_40 : decode cX11_hand 40 = .ok (.invokevirtual 280, 3) := by decide +kernel
theorem dX11_hand_43 : decode cX11_hand 43 = .ok (.putfield 310, 3) := by decide +kernel
theorem dX11_hand_46 : decode cX11_hand 46 = .ok (.aload_n 0, 1) := by decide +kernel
theorem dX11_hand_47 : decode cX11_hand 47 = .ok (.aload_n 0, 1) := by decide +kernel
theorem dX11_hand_48 : decode cX11_hand 48 = .ok (.iconst 0, 1) := by decide +kernel
theorem dX11_hand_49 : decode cX11_hand 49 = .ok (.invokevirtual 280, 3) := by decide +kernel
theorem dX11_hand_52 : decode cX11_hand 52 = .ok (.putfield 268, 3) := by decide +kernel
theorem dX11_hand_55 : decode cX11_hand 55 = .ok (.aload_n 0, 1) := by decide +kernel
theorem dX11_hand_56 : decode cX11_hand 56 = .ok (.invokevirtual 313, 3) := by decide +kernel
theorem dX11_hand_59 : decode cX11_hand 59 = .ok (.aload_n 0, 1) := by decide +kernel
theorem dX11_hand_60 : decode cX11_hand 60 = .ok (.invokevirtual 316, 3) := by decide +kernel
theorem dX11_hand_63 : decode cX11_hand 63 = .ok (.iconst 1, 1) := by decide +kernel
theorem dX11_hand_64 : decode cX11_hand 64 = .ok (.ireturn, 1) := by decide +kernel
theorem q_1629 : Cond.methodLink RX11 301 yX11_hasChain ∈ zTB := zmem 1629 (by decide +kernel) rfl
theorem q_1631 : Cond.instanceMethod yX11_hasChain ∈ zTB := zmem 1631 (by decide +kernel) rfl
theorem q_58 : Cond.selects RX11 yX11_hasChain yX11_hasChain ∈ zTB := zmem 58 (by decide +kernel) rfl
theorem q_1632 : Cond.code yX11_hasChain cX11_hasChain 2 (some .boolean) ∈ zTB := zmem 1632 (by decide +kernel) rfl
theorem k_RX11_301 : zLv RX11 301 RX11 yX11_hasChain cX11_hasChain 2 (some .boolean) 1 := ⟨⟨q_1629, q_1631, q_58, q_140, q_1632⟩, rfl, ⟨by decide, by decide⟩, by decide +kernel⟩
theorem q_1617 : Cond.methodLink RX11 304 yX11_hasNet ∈ zTB := zmem 1617 (by decide +kernel) rfl
theorem q_1619 : Cond.instanceMethod yX11_hasNet ∈ zTB := zmem 1619 (by decide +kernel) rfl
theorem q_56 : Cond.selects RX11 yX11_hasNet yX11_hasNet ∈ zTB := zmem 56 (by decide +kernel) rfl
theorem q_1620 : Cond.code yX11_hasNet cX11_hasNet 2 (some .boolean) ∈ zTB := zmem 1620 (by decide +kernel) rfl
theorem k_RX11_304 : zLv RX11 304 RX11 yX11_hasNet cX11_hasNet 2 (some .boolean) 1 := ⟨⟨q_1617, q_1619, q_56, q_140, q_1620⟩, rfl, ⟨by decide, by decide⟩, by decide +kernel⟩
theorem q_1315 : Cond.fieldLink RX11 307 RX11 "rule" "I" ∈ zTB := zmem 1315 (by decide +kernel) rfl
theorem q_1316 : Cond.fieldLink RX11 310 RX11 "tie" "I" ∈ zTB := zmem 1316 (by decide +kernel) rfl
theorem q_1673 : Cond.methodLink RX11 313 yX11_layWorks ∈ zTB := zmem 1673 (by decide +kernel) rfl
theorem q_1675 : Cond.instanceMethod yX11_layWorks ∈ zTB := zmem 1675 (by decide +kernel) rfl
theorem q_67 : Cond.selects RX11 yX11_layWorks yX11_layWorks ∈ zTB := zmem 67 (by decide +kernel) rfl
theorem q_1676 : Cond.code yX11_layWorks cX11_layWorks 3 none ∈ zTB := zmem 1676 (by decide +kernel) rfl
theorem k_RX11_313 : zLv RX11 313 RX11 yX11_layWorks cX11_layWorks 3 none 0 := ⟨⟨q_1673, q_1675, q_67, q_140, q_1676⟩, rfl, ⟨by decide, by decide⟩, by decide +kernel⟩
theorem q_1693 : Cond.methodLink RX11 316 yX11_laySound ∈ zTB := zmem 1693 (by decide +kernel) rfl
theorem q_1695 : Cond.instanceMethod yX11_laySound ∈ zTB := zmem 1695 (by decide +kernel) rfl
theorem q_71 : Cond.selects RX11 yX11_laySound yX11_laySound ∈ zTB := zmem 71 (by decide +kernel) rfl
theorem q_1696 : Cond.code yX11_laySound cX11_laySound 2 none ∈ zTB := zmem 1696 (by decide +kernel) rfl
theorem k_RX11_316 : zLv RX11 316 RX11 yX11_laySound cX11_laySound 2 none 0 := ⟨⟨q_1693, q_1695, q_71, q_140, q_1696⟩, rfl, ⟨by decide, by decide⟩, by decide +kernel⟩
def F_X11_hand (i : Nat) (X Y : Nat → Int → Int) (R : Nat → Int → Option Nat) (a : Int) (b : Int) : Prop := (∀ i j, rI (X i j)) → (∀ i j, rL (Y i j)) → (oTN X i) ∧ (∀ r3 : Bool, ∀ X2 : Nat → Int → Int, (∀ i j, rI (X2 i j)) → (r3 = mIs i X 1 (b) ∧ X2 = if r3 then zU (zU X i 25 (b)) i 27 (1 + X (i + 7) (183 * (b))) else zU X i 25 (b)) → (((r3 = false) → (false = (mIs i X 1 (b) && mIs i X 0 (a)) ∧ hK X (X2) Y (Y) i ∧ (false = true → hS9 X (X2) i (a) (b) ∧ oH (X2) (Y) i))) ∧ ((r3 = true) → ((0 ≤ X2 (i + 5) 0) ∧ (∀ r7 : Bool, ∀ X6 : Nat → Int → Int, (∀ i j, rI (X6 i j)) → (r7 = mIs i X2 0 (a) ∧ X6 = zU X2 i 24 (a)) → (((r7 = true) → ((oN X6 i ∧ 0 ≤ (6 : Int) ∧ (6 : Int) ≤ 12) ∧ (rI (mG X6 i ((6 : Int))) → (∀ X11 : Nat → Int → Int, X11 = zU X6 (i) 26 (mG X6 i ((6 : Int))) → (∀ i j, rI (X11 i j)) → ((oN X11 i ∧ 0 ≤ (3 : Int) ∧ (3 : Int) ≤ 12) ∧ (rI (mG X11 i ((3 : Int))) → (∀ X14 : Nat → Int → Int, X14 = zU X11 (i) 28 (mG X11 i ((3 : Int))) → (∀ i j, rI (X14 i j)) → ((oN X14 i ∧ 0 ≤ (4 : Int) ∧ (4 : Int) ≤ 12) ∧ (rI (mG X14 i ((4 : Int))) → (∀ X17 : Nat → Int → Int, X17 = zU X14 (i) 29 (mG X14 i ((4 : Int))) → (∀ i j, rI (X17 i j)) → ((oN X17 i ∧ 0 ≤ (0 : Int) ∧ (0 : Int) ≤ 12) ∧ (rI (mG X17 i ((0 : Int))) → (∀ X20 : Nat → Int → Int, X20 = zU X17 (i) 30 (mG X17 i ((0 : Int))) → (∀ i j, rI (X20 i j)) → ((oG X20 i ∧ 1 ≤ X20 i 27 ∧ oB X20 i (X20 i 27 - 1) ∧ oT X20 i (X20 i 27 - 1)) ∧ (∀ X22 : Nat → Int → Int, (∀ i j, rI (X22 i j)) → ∀ Y23 : Nat → Int → Int, (∀ i j, rL (Y23 i j)) → (lW X20 Y (X22) (Y23) i (X20 i 27).toNat) → ((oA X22 i ∧ 1 ≤ X22 i 27 ∧ oBs X22 i (X22 i 27 - 1).toNat) ∧ (∀ X25 : Nat → Int → Int, (∀ i j, rI (X25 i j)) → (lS X22 (X25) i (X22 i 27).toNat) → (true = (mIs i X 1 (b) && mIs i X 0 (a)) ∧ hK X (X25) Y (Y23) i ∧ (true = true → hS9 X (X25) i (a) (b) ∧ oH (X25) (Y23) i))))))))))))))))))) ∧ ((r7 = false) → (false = (mIs i X 1 (b) && mIs i X 0 (a)) ∧ hK X (X6) Y (Y) i ∧ (false = true → hS9 X (X6) i (a) (b) ∧ oH (X6) (Y) i)))))))))
set_option maxHeartbeats 4000000 in
set_option maxRecDepth 100000 in
theorem w_X11_hand {l : Launch} {D : va_G} {cy : Nat → ClassId} {bs N : Nat} {sa : Nat → Nat} {kd len : Nat → Nat} {X Y : Nat → Int → Int} {R : Nat → Int → Option Nat} {i : Nat} (hM : zM N kd len R i) (a : Int) (ha : rI a) (b : Int) (hb : rI b) (hF : F_X11_hand i X Y R a b) : Met l yX11_hand (.code yX11_hand cX11_hand 3 (some .boolean) :: zTB) (zRm 5 118) (zPc D cy bs sa N kd len X Y R [.ref (bs + (i)), .int (zI (a)), .int (zI (b))]) (zQi D cy bs N kd len (fun r st => st.2.2 = R ∧ ∃ rb : Bool, r = bz rb ∧ (rb = (mIs i X 1 (b) && mIs i X 0 (a)) ∧ hK X (st.1) Y (st.2.1) i ∧ (rb = true → hS9 X (st.1) i (a) (b) ∧ oH (st.1) (st.2.1) i)))) 0 0 (zA bs) := by
  refine zstart (by decide) (Nat.le_of_ble_eq_true rfl) ?_
  intro p e s m args below meth c ls C hE hH hr hlk hnm hl hargs
  have hF := hF hH.2.2.1 hH.2.2.2
  have hS : va_S (zA bs) s.heap s.heap [] := va_S.rf
  have hl : lv_has ls 3 [(0, .ref (bs + (i))), (1, .int (zI (a))), (2, .int (zI (b)))] := hl
  refine lv_aload_n C.1 C.2.1 dX11_hand_0 rfl (lv_at hl 0 rfl) ?_
  refine lv_iload_n C.1 C.2.1 dX11_hand_1 rfl (lv_at hl 2 rfl) ?_
  obtain ⟨o1, hF⟩ := hF
  refine zgoi (zrunV (As := [.int (zI (b))]) (rest := []) C hE hH hS hl.1 (c_X11_hasChain (l := l) hM (b) hb o1) k_RX11_301 ⟨Nat.le_of_ble_eq_true rfl, Nat.le_of_ble_eq_true rfl⟩ (zM_n0 hM) (zM_k0 hM) rfl rfl rfl (Nat.le_of_ble_eq_true rfl) dX11_hand_2 ⟨Nat.zero_le _, Nat.zero_le _⟩) hS (fun rq X2 Yq Rq H locs hrq hq hH hS => ?_)
  obtain ⟨h9Y, h9R, hq⟩ := hq
  dsimp only at h9Y h9R
  rw [h9Y, h9R] at hH
  obtain ⟨r3, h91, hq⟩ := hq
  subst h91
  have hF := hF r3 X2 hH.2.2.1 hq
  refine zd_ifB_eq C 16 dX11_hand_5 (by decide) (fun c4 => ?_) (fun c4 => ?_)
  · have hF := hF.1 c4
    refine zd_iconst C dX11_hand_16 ?_
    exact zd_zret C hr hlk hH hS (by decide) (⟨rfl, _, rfl, hF⟩) dX11_hand_17
  · have hF := hF.2 c4
    refine lv_aload_n C.1 C.2.1 dX11_hand_8 rfl (lv_at hl 0 rfl) ?_
    refine lv_iload_n C.1 C.2.1 dX11_hand_9 rfl (lv_at hl 1 rfl) ?_
    obtain ⟨o5, hF⟩ := hF
    refine zgoi (zrunV (As := [.int (zI (a))]) (rest := []) C hE hH hS hl.1 (c_X11_hasNet (l := l) hM (a) ha o5) k_RX11_304 ⟨Nat.le_of_ble_eq_true rfl, Nat.le_of_ble_eq_true rfl⟩ (zM_n0 hM) (zM_k0 hM) rfl rfl rfl (Nat.le_of_ble_eq_true rfl) dX11_hand_10 ⟨Nat.zero_le _, Nat.zero_le _⟩) hS (fun rq X6 Yq Rq H locs hrq hq hH hS => ?_)
    obtain ⟨h9Y, h9R, hq⟩ := hq
    dsimp only at h9Y h9R
    rw [h9Y, h9R] at hH
    obtain ⟨r7, h91, hq⟩ := hq
    subst h91
    have hF := hF r7 X6 hH.2.2.1 hq
    refine zd_ifB_ne C 18 dX11_hand_13 (by decide) (fun c8 => ?_) (fun c8 => ?_)
    · have hF := hF.1 c8
      refine lv_aload_n C.1 C.2.1 dX11_hand_18 rfl (lv_at hl 0 rfl) ?_
      refine lv_aload_n C.1 C.2.1 dX11_hand_19 rfl (lv_at hl 0 rfl) ?_
      refine zd_bipush C (by decide) dX11_hand_20 ?_
      obtain ⟨o9, hF⟩ := hF
      refine zgoi (zrunV (As := [.int (zI (6))]) (rest := [.ref (bs + (i))]) C hE hH hS hl.1 (c_X11_ofNet (l := l) hM (6) (by decide) o9) k_RX11_280 ⟨Nat.le_of_ble_eq_true rfl, Nat.le_of_ble_eq_true rfl⟩ (zM_n0 hM) (zM_k0 hM) rfl rfl rfl (Nat.le_of_ble_eq_true rfl) dX11_hand_22 ⟨Nat.zero_le _, Nat.zero_le _⟩) hS (fun rq Xq Yq Rq H locs hrq hq hH hS => ?_)
      obtain ⟨h91, h92⟩ := hq
      have h93 : Xq = X6 := congrArg (fun z => z.1) h92
      have h94 : Yq = Y := congrArg (fun z => z.2.1) h92
      have h95 : Rq = R := congrArg (fun z => z.2.2) h92
      rw [h93, h94, h95] at hH
      subst h91
      have hr10 := hrq
      have hF := hF hr10
      refine zp11_26 C hH hS (zM_n0 hM) (zM_k0 hM) q_1313 hr10 dX11_hand_25 (fun H locs hH hS => ?_)
      obtain ⟨X11, eX11⟩ : ∃ z, z = zU X6 (i) 26 (mG X6 i ((6 : Int))) := ⟨_, rfl⟩
      rw [← eX11] at hH
      have hF := hF X11 eX11 hH.2.2.1
      refine lv_aload_n C.1 C.2.1 dX11_hand_28 rfl (lv_at hl 0 rfl) ?_
      refine lv_aload_n C.1 C.2.1 dX11_hand_29 rfl (lv_at hl 0 rfl) ?_
      refine zd_iconst C dX11_hand_30 ?_
      obtain ⟨o12, hF⟩ := hF
      refine zgoi (zrunV (As := [.int (zI (3))]) (rest := [.ref (bs + (i))]) C hE hH hS hl.1 (c_X11_ofNet (l := l) hM (3) (by decide) o12) k_RX11_280 ⟨Nat.le_of_ble_eq_true rfl, Nat.le_of_ble_eq_true rfl⟩ (zM_n0 hM) (zM_k0 hM) rfl rfl rfl (Nat.le_of_ble_eq_true rfl) dX11_hand_31 ⟨Nat.zero_le _, Nat.zero_le _⟩) hS (fun rq Xq Yq Rq H locs hrq hq hH hS => ?_)
      obtain ⟨h91, h92⟩ := hq
      have h93 : Xq = X11 := congrArg (fun z => z.1) h92
      have h94 : Yq = Y := congrArg (fun z => z.2.1) h92
      have h95 : Rq = R := congrArg (fun z => z.2.2) h92
      rw [h93, h94, h95] at hH
      subst h91
      have hr13 := hrq
      have hF := hF hr13
      refine zp11_28 C hH hS (zM_n0 hM) (zM_k0 hM) q_1315 hr13 dX11_hand_34 (fun H locs hH hS => ?_)
      obtain ⟨X14, eX14⟩ : ∃ z, z = zU X11 (i) 28 (mG X11 i ((3 : Int))) := ⟨_, rfl⟩
      rw [← eX14] at hH
      have hF := hF X14 eX14 hH.2.2.1
      refine lv_aload_n C.1 C.2.1 dX11_hand_37 rfl (lv_at hl 0 rfl) ?_
      refine lv_aload_n C.1 C.2.1 dX11_hand_38 rfl (lv_at hl 0 rfl) ?_
      refine zd_iconst C dX11_hand_39 ?_
      obtain ⟨o15, hF⟩ := hF
      refine zgoi (zrunV (As := [.int (zI (4))]) (rest := [.ref (bs + (i))]) C hE hH hS hl.1 (c_X11_ofNet (l := l) hM (4) (by decide) o15) k_RX11_280 ⟨Nat.le_of_ble_eq_true rfl, Nat.le_of_ble_eq_true rfl⟩ (zM_n0 hM) (zM_k0 hM) rfl rfl rfl (Nat.le_of_ble_eq_true rfl) dX11_hand_40 ⟨Nat.zero_le _, Nat.zero_le _⟩) hS (fun rq Xq Yq Rq H locs hrq hq hH hS => ?_)
      obtain ⟨h91, h92⟩ := hq
      have h93 : Xq = X14 := congrArg (fun z => z.1) h92
      have h94 : Yq = Y := congrArg (fun z => z.2.1) h92
      have h95 : Rq = R := congrArg (fun z => z.2.2) h92
      rw [h93, h94, h95] at hH
      subst h91
      have hr16 := hrq
      have hF := hF hr16
      refine zp11_29 C hH hS (zM_n0 hM) (zM_k0 hM) q_1316 hr16 dX11_hand_43 (fun H locs hH hS => ?_)
      obtain ⟨X17, eX17⟩ : ∃ z, z = zU X14 (i) 29 (mG X14 i ((4 : Int))) := ⟨_, rfl⟩
      rw [← eX17] at hH
      have hF := hF X17 eX17 hH.2.2.1
      refine lv_aload_n C.1 C.2.1 dX11_hand_46 rfl (lv_at hl 0 rfl) ?_
      refine lv_aload_n C.1 C.2.1 dX11_hand_47 rfl (lv_at hl 0 rfl) ?_
      refine zd_iconst C dX11_hand_48 ?_
      obtain ⟨o18, hF⟩ := hF
      refine zgoi (zrunV (As := [.int (zI (0))]) (rest := [.ref (bs + (i))]) C hE hH hS hl.1 (c_X11_ofNet (l := l) hM (0) (by decide) o18) k_RX11_280 ⟨Nat.le_of_ble_eq_true rfl, Nat.le_of_ble_eq_true rfl⟩ (zM_n0 hM) (zM_k0 hM) rfl rfl rfl (Nat.le_of_ble_eq_true rfl) dX11_hand_49 ⟨Nat.zero_le _, Nat.zero_le _⟩) hS (fun rq Xq Yq Rq H locs hrq hq hH hS => ?_)
      obtain ⟨h91, h92⟩ := hq
      have h93 : Xq = X17 := congrArg (fun z => z.1) h92
      have h94 : Yq = Y := congrArg (fun z => z.2.1) h92
      have h95 : Rq = R := congrArg (fun z => z.2.2) h92
      rw [h93, h94, h95] at hH
      subst h91
      have hr19 := hrq
      have hF := hF hr19
      refine zp11_30 C hH hS (zM_n0 hM) (zM_k0 hM) q_1317 hr19 dX11_hand_52 (fun H locs hH hS => ?_)
      obtain ⟨X20, eX20⟩ : ∃ z, z = zU X17 (i) 30 (mG X17 i ((0 : Int))) := ⟨_, rfl⟩
      rw [← eX20] at hH
      have hF := hF X20 eX20 hH.2.2.1
      refine lv_aload_n C.1 C.2.1 dX11_hand_55 rfl (lv_at hl 0 rfl) ?_
      obtain ⟨o21, hF⟩ := hF
      refine zgov (zrunV (As := []) (rest := []) C hE hH hS hl.1 (c_X11_layWorks (l := l) hM  o21) k_RX11_313 ⟨Nat.le_of_ble_eq_true rfl, Nat.le_of_ble_eq_true rfl⟩ (zM_n0 hM) (zM_k0 hM) rfl rfl rfl (Nat.le_of_ble_eq_true rfl) dX11_hand_56 ⟨Nat.zero_le _, Nat.zero_le _⟩) hS (fun X22 Y23 Rq H locs hq hH hS => ?_)
      obtain ⟨h9R, hq⟩ := hq
      dsimp only at h9R
      rw [h9R] at hH
      have hF := hF X22 hH.2.2.1 Y23 hH.2.2.2 hq
      refine lv_aload_n C.1 C.2.1 dX11_hand_59 rfl (lv_at hl 0 rfl) ?_
      obtain ⟨o24, hF⟩ := hF
      refine zgov (zrunV (As := []) (rest := []) C hE hH hS hl.1 (c_X11_laySound (l := l) hM  o24) k_RX11_316 ⟨Nat.le_of_ble_eq_true rfl, Nat.le_of_ble_eq_true rfl⟩ (zM_n0 hM) (zM_k0 hM) rfl rfl rfl (Nat.le_of_ble_eq_true rfl) dX11_hand_60 ⟨Nat.zero_le _, Nat.zero_le _⟩) hS (fun X25 Yq Rq H locs hq hH hS => ?_)
      obtain ⟨h9Y, h9R, hq⟩ := hq
      dsimp only at h9Y h9R
      rw [h9Y, h9R] at hH
      have hF := hF X25 hH.2.2.1 hq
      refine zd_iconst C dX11_hand_63 ?_
      exact zd_zret C hr hlk hH hS (by decide) (⟨rfl, _, rfl, hF⟩) dX11_hand_64
    · have hF := hF.2 c8
      refine zd_iconst C dX11_hand_16 ?_
      exact zd_zret C hr hlk hH hS (by decide) (⟨rfl, _, rfl, hF⟩) dX11_hand_17
theorem sdf_t {X X1 : Nat → Int → Int} {i : Nat} (h : tS X X1 i) : sdf X1 i = sdf X i := by
  unfold sdf
  rw [rS_t h]
theorem hand_ok {X20 X22 X25 Y Y23 : Nat → Int → Int} {i n : Nat} (hg : oG X20 i) (ha : oA X20 i) (hn : X20 i 27 = n) (h1 : 1 ≤ n) (h15 : n ≤ 15) (hb : oBs X20 i (n - 1)) (h28 : 0 ≤ X20 i 28 ∧ X20 i 28 ≤ 1) (h29 : 0 ≤ X20 i 29 ∧ X20 i 29 ≤ 1) (w : lW X20 Y X22 Y23 i n) (q : lS X22 X25 i n) : oH X25 Y23 i := by
  have t1 : tS X20 X22 i := tS_of (w.1 _ (by omega)) (w.1 _ (by omega)) (w.1 _ (by omega))
  have t2 := lS_t q
  have t : tS X20 X25 i := t1.trans t2
  have e27 : X25 i 27 = n := t.2.2.2.2.2.1.trans hn
  have s28 : X25 i 28 = X20 i 28 := (q.2.1 _ (by decide)).trans (congrFun (w.1 _ (by omega)) _)
  have s29 : X25 i 29 = X20 i 29 := (q.2.1 _ (by decide)).trans (congrFun (w.1 _ (by omega)) _)
  refine ⟨⟨oG_t t hg, oA_t t ha, by rw [e27]; omega, ?_⟩, ⟨by rw [s28]; exact h28, by rw [s29]; exact h29⟩, fun j hj => ?_, ?_, fun j hj M hM => ?_⟩
  · rw [e27, show ((n : Int) - 1).toNat = n - 1 by omega]
    exact oBs_t t hb
  · obtain ⟨w1, w2, w3⟩ := w.2.2 j (by omega)
    rw [rP_t t, rW_t t, rG_t t, q.1 (i + 13) (by omega) (by omega)]
    exact ⟨w1, w2, w3⟩
  · rw [e27, Int.toNat_natCast, q.2.2.1, sdf_t t2]
  · rw [rS_t t2] at hM
    exact q.2.2.2 j (by omega) M hM
theorem v_X11_hand {X Y : Nat → Int → Int} {R : Nat → Int → Option Nat} {i : Nat} (a : Int) (ha : rI a) (b : Int) (hb : rI b) (hp : oTN X i) : F_X11_hand i X Y R a b := by
  unfold F_X11_hand
  intro hX hY
  refine ⟨hp, ?_⟩
  rintro r3 X2 r2 ⟨hr3, e2⟩
  refine ⟨fun h => ?_, fun h => ?_⟩
  · rw [h, if_neg (by decide)] at e2
    refine ⟨by rw [← hr3, h]; rfl, ⟨fun x h1 _ _ => by rw [e2, zU_o h1], fun s hs _ => by rw [e2, zU_n (by omega)], fun _ _ _ => rfl⟩, fun h => absurd h (by decide)⟩
  · rw [h, if_pos rfl] at e2
    have k2 : ∀ x, x ≠ i → X2 x = X x := fun x hx => by rw [e2, zU_o hx, zU_o hx]
    have s2 : ∀ s, s ≠ 25 → s ≠ 27 → X2 i s = X i s := fun s g1 g2 => by rw [e2, zU_n (by omega), zU_n (by omega)]
    have s25 : X2 i 25 = b := by rw [e2, zU_n (by omega), zU_s]
    have s27 : X2 i 27 = 1 + X (i + 7) (183 * b) := by rw [e2, zU_s]
    have hb := mIs_t.mp (hr3.symm.trans h)
    have em : mIs i X2 0 a = mIs i X 0 a := by
      unfold mIs
      rw [k2 _ (by omega)]
    refine ⟨by rw [k2 _ (by omega)]; exact (hp.1 0 (by decide) (by decide)).1, ?_⟩
    rintro r7 X6 r6 ⟨hr7, e6⟩
    rw [em] at hr7
    have k6 : ∀ x, x ≠ i → X6 x = X x := fun x hx => by rw [e6, zU_o hx, k2 x hx]
    refine ⟨fun h7 => ?_, fun h7 => ?_⟩
    · have ha9 := mIs_t.mp (hr7.symm.trans h7)
      have m0 := hp.1 0 (by decide) (by decide)
      have m1 := hp.1 1 (by decide) (by decide)
      obtain ⟨n0, n1, n2, n3, n4, n5, n6, n7⟩ := hp.2.1 a ha9.1 ha9.2
      obtain ⟨c0, c1⟩ := hp.2.2 b hb.1 hb.2
      have g6 : X6 i 24 = a := by rw [e6, zU_s]
      have q6 : ∀ t, mG X6 i t = X (i + 6) (13 * a + t) := fun t => by
        unfold mG
        rw [k6 _ (by omega), g6]
      rw [q6]
      refine ⟨⟨by rw [show (oN X6 i) = (0 ≤ X6 i 24 ∧ X6 i 24 ≤ 1) from rfl, g6]; omega, by decide, by decide⟩, fun _ X11 e11 r11 => ?_⟩
      have k11 : ∀ x, x ≠ i → X11 x = X x := fun x hx => by rw [e11, zU_o hx, k6 x hx]
      have g11 : X11 i 24 = a := by rw [e11, zU_n (by omega), g6]
      have q11 : ∀ t, mG X11 i t = X (i + 6) (13 * a + t) := fun t => by
        unfold mG
        rw [k11 _ (by omega), g11]
      rw [q11]
      refine ⟨⟨by rw [show (oN X11 i) = (0 ≤ X11 i 24 ∧ X11 i 24 ≤ 1) from rfl, g11]; omega, by decide, by decide⟩, fun _ X14 e14 r14 => ?_⟩
      have k14 : ∀ x, x ≠ i → X14 x = X x := fun x hx => by rw [e14, zU_o hx, k11 x hx]
      have g14 : X14 i 24 = a := by rw [e14, zU_n (by omega), g11]
      have q14 : ∀ t, mG X14 i t = X (i + 6) (13 * a + t) := fun t => by
        unfold mG
        rw [k14 _ (by omega), g14]
      rw [q14]
      refine ⟨⟨by rw [show (oN X14 i) = (0 ≤ X14 i 24 ∧ X14 i 24 ≤ 1) from rfl, g14]; omega, by decide, by decide⟩, fun _ X17 e17 r17 => ?_⟩
      have k17 : ∀ x, x ≠ i → X17 x = X x := fun x hx => by rw [e17, zU_o hx, k14 x hx]
      have g17 : X17 i 24 = a := by rw [e17, zU_n (by omega), g14]
      have q17 : ∀ t, mG X17 i t = X (i + 6) (13 * a + t) := fun t => by
        unfold mG
        rw [k17 _ (by omega), g17]
      rw [q17]
      refine ⟨⟨by rw [show (oN X17 i) = (0 ≤ X17 i 24 ∧ X17 i 24 ≤ 1) from rfl, g17]; omega, by decide, by decide⟩, fun _ X20 e20 r20 => ?_⟩
      have k20 : ∀ x, x ≠ i → X20 x = X x := fun x hx => by rw [e20, zU_o hx, k17 x hx]
      have g20 : X20 i 24 = a := by rw [e20, zU_n (by omega), g17]
      have q20 : ∀ t, mG X20 i t = X (i + 6) (13 * a + t) := fun t => by
        unfold mG
        rw [k20 _ (by omega), g20]
      have f25 : X20 i 25 = b := by rw [e20, zU_n (by omega), e17, zU_n (by omega), e14, zU_n (by omega), e11, zU_n (by omega), e6, zU_n (by omega), s25]
      have f26 : X20 i 26 = X (i + 6) (13 * a + 6) := by rw [e20, zU_n (by omega), e17, zU_n (by omega), e14, zU_n (by omega), e11, zU_s]
      have f27 : X20 i 27 = 1 + X (i + 7) (183 * b) := by rw [e20, zU_n (by omega), e17, zU_n (by omega), e14, zU_n (by omega), e11, zU_n (by omega), e6, zU_n (by omega), s27]
      have f28 : X20 i 28 = X (i + 6) (13 * a + 3) := by rw [e20, zU_n (by omega), e17, zU_n (by omega), e14, zU_s]
      have f29 : X20 i 29 = X (i + 6) (13 * a + 4) := by rw [e20, zU_n (by omega), e17, zU_s]
      have f30 : X20 i 30 = X (i + 6) (13 * a + 0) := by rw [e20, zU_s]
      have fo : ∀ s, (s < 24 ∨ 30 < s) → X20 i s = X i s := fun s hs => by rw [e20, zU_n (by omega), e17, zU_n (by omega), e14, zU_n (by omega), e11, zU_n (by omega), e6, zU_n (by omega), s2 s (by omega) (by omega)]
      have ec : ∀ k w, mC X20 i k w = cE X i b k w := fun k w => by
        unfold mC cE
        rw [k20 _ (by omega), f25]
      obtain ⟨n, hn⟩ : ∃ n : Nat, X (i + 7) (183 * b) = n := ⟨(X (i + 7) (183 * b)).toNat, by omega⟩
      have oc : oC X20 i := by
        show 0 ≤ X20 i 25 ∧ X20 i 25 ≤ 1
        rw [f25]
        omega
      have on : oN X20 i := by
        show 0 ≤ X20 i 24 ∧ X20 i 24 ≤ 1
        rw [g20]
        omega
      have z0 : 13 * a + 0 = 13 * a := by omega
      have hg : oG X20 i := ⟨on, by rw [f30, z0]; exact n0, by rw [q20]; exact n1, by rw [q20]; exact n2⟩
      have ha : oA X20 i := ⟨by rw [f26]; exact n6, on, by rw [q20]; exact n5, fun t t1 t2 => by show 0 ≤ mG X20 i (7 + t) ∧ mG X20 i (7 + t) ≤ 99; rw [q20]; exact n7 t t1 t2⟩
      have hbs : oBs X20 i n := by
        refine ⟨⟨oc, by omega, fun k k1 k2 => by rw [ec]; exact (c1 k k1 (by omega)).1⟩, fun k k1 k2 => by rw [ec]; exact (c1 k k1 (by omega)).2.1, fun k k1 k2 => ?_⟩
        have ck := c1 k (by omega) (by omega)
        refine ⟨?_, by rw [ec]; exact ck.2.2.1⟩
        unfold oP rF rO rM
        simp only [ec]
        exact ⟨ck.2.2.2.1.1, ck.2.2.2.1.2, ck.2.2.2.2⟩
      refine ⟨⟨hg, by rw [f27]; omega, by rw [f27, show 1 + X (i + 7) (183 * b) - 1 = (n : Int) by omega]; exact hbs.1, by rw [f27, show 1 + X (i + 7) (183 * b) - 1 = (n : Int) by omega]; exact hbs.2.1⟩, fun X22 r22 Y23 r23 w => ?_⟩
      have t1 : tS X20 X22 i := tS_of (w.1 _ (by omega)) (w.1 _ (by omega)) (w.1 _ (by omega))
      have f27n : X20 i 27 = ((n + 1 : Nat) : Int) := by rw [f27]; omega
      have g27 : X22 i 27 = ((n + 1 : Nat) : Int) := t1.2.2.2.2.2.1.trans f27n
      rw [f27n, Int.toNat_natCast] at w
      rw [g27, Int.toNat_natCast]
      refine ⟨⟨oA_t t1 ha, by omega, by rw [show (((n + 1 : Nat) : Int) - 1).toNat = n by omega]; exact oBs_t t1 hbs⟩, fun X25 r25 q => ⟨by rw [← hr3, ← hr7, h, h7]; rfl, ⟨fun x h1 h2 h3 => by rw [q.1 x h1 h3, w.1 x h2, k20 x h1], fun s hs h35 => by rw [q.2.1 s h35, w.1 i (by omega), fo s hs], w.2.1⟩, fun _ => ⟨?_, hand_ok hg ha f27n (by omega) (by omega) hbs (by rw [f28]; exact n3) (by rw [f29]; exact n4) w q⟩⟩⟩
      have sl : ∀ s, s ≠ 35 → X25 i s = X20 i s := fun s hs => by rw [q.2.1 s hs, w.1 i (by omega)]
      exact ⟨(sl _ (by decide)).trans g20, (sl _ (by decide)).trans f25, (sl _ (by decide)).trans f26, (sl _ (by decide)).trans f27, (sl _ (by decide)).trans f28, (sl _ (by decide)).trans f29, (sl _ (by decide)).trans (by rw [f30, z0])⟩
    · refine ⟨by rw [← hr3, ← hr7, h, h7]; rfl, ⟨fun x h1 _ _ => k6 x h1, fun s hs _ => by rw [e6, zU_n (by omega)]; exact s2 s (by omega) (by omega), fun _ _ _ => rfl⟩, fun h => absurd h (by decide)⟩
theorem c_X11_hand {l : Launch} {D : va_G} {cy : Nat → ClassId} {bs N : Nat} {sa : Nat → Nat} {kd len : Nat → Nat} {X Y : Nat → Int → Int} {R : Nat → Int → Option Nat} {i : Nat} (hM : zM N kd len R i) (a : Int) (ha : rI a) (b : Int) (hb : rI b) (hp : oTN X i) : Met l yX11_hand (.code yX11_hand cX11_hand 3 (some .boolean) :: zTB) (zRm 5 118) (zPc D cy bs sa N kd len X Y R [.ref (bs + (i)), .int (zI (a)), .int (zI (b))]) (zQi D cy bs N kd len (fun r st => st.2.2 = R ∧ ∃ rb : Bool, r = bz rb ∧ (rb = (mIs i X 1 (b) && mIs i X 0 (a)) ∧ hK X (st.1) Y (st.2.1) i ∧ (rb = true → hS9 X (st.1) i (a) (b) ∧ oH (st.1) (st.2.1) i)))) 0 0 (zA bs) := w_X11_hand hM a ha b hb (v_X11_hand a ha b hb hp)
