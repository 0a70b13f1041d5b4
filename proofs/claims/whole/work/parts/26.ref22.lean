/-! SMALL CALLS -/
def mLn (X : Nat → Int → Int) (i : Nat) : Int := X (i + 9) (17 * X i 55)
def mLf (X : Nat → Int → Int) (i : Nat) (k w : Int) : Int := X (i + 9) (17 * X i 55 + 1 + 2 * k + w)
def mQn (X : Nat → Int → Int) (i : Nat) : Int := X (i + 10) (25 * X i 48)
def mQf (X : Nat → Int → Int) (i : Nat) (k w : Int) : Int := X (i + 10) (25 * X i 48 + 1 + 4 * k + w)
/-- a told log, a told pool -/
def oLgr (X : Nat → Int → Int) (i : Nat) (f : Int) : Prop := (0 ≤ X (i + 9) (17 * f) ∧ X (i + 9) (17 * f) ≤ 8) ∧ ∀ j, 0 ≤ j → j < X (i + 9) (17 * f) → (0 ≤ X (i + 9) (17 * f + 1 + 2 * j + 0) ∧ X (i + 9) (17 * f + 1 + 2 * j + 0) ≤ 40) ∧ (0 ≤ X (i + 9) (17 * f + 1 + 2 * j + 1) ∧ X (i + 9) (17 * f + 1 + 2 * j + 1) ≤ 14)
def oPor (X : Nat → Int → Int) (i : Nat) (f : Int) : Prop := (0 ≤ X (i + 10) (25 * f) ∧ X (i + 10) (25 * f) ≤ 6) ∧ ∀ j, 0 ≤ j → j < X (i + 10) (25 * f) → (0 ≤ X (i + 10) (25 * f + 1 + 4 * j + 0) ∧ X (i + 10) (25 * f + 1 + 4 * j + 0) ≤ 5) ∧ (0 ≤ X (i + 10) (25 * f + 1 + 4 * j + 1) ∧ X (i + 10) (25 * f + 1 + 4 * j + 1) ≤ 5) ∧ (1 ≤ X (i + 10) (25 * f + 1 + 4 * j + 2) ∧ X (i + 10) (25 * f + 1 + 4 * j + 2) ≤ 99) ∧ (0 ≤ X (i + 10) (25 * f + 1 + 4 * j + 3) ∧ X (i + 10) (25 * f + 1 + 4 * j + 3) ≤ 9)
def oTLg (X : Nat → Int → Int) (i : Nat) : Prop := ∀ f, 0 ≤ f → f < X (i + 5) 3 → oLgr X i f
def oTPo (X : Nat → Int → Int) (i : Nat) : Prop := ∀ f, 0 ≤ f → f < X (i + 5) 4 → oPor X i f
abbrev oLg (X : Nat → Int → Int) (i : Nat) : Prop := 0 ≤ X i 55 ∧ X i 55 ≤ 1
abbrev oPo (X : Nat → Int → Int) (i : Nat) : Prop := 0 ≤ X i 48 ∧ X i 48 ≤ 1
theorem oTLg_k {X X1 : Nat → Int → Int} {i : Nat} (h5 : X1 (i + 5) = X (i + 5)) (h8 : X1 (i + 9) = X (i + 9)) (h : oTLg X i) : oTLg X1 i := by
  unfold oTLg oLgr at h ⊢
  rw [h5, h8]
  exact h
theorem oTPo_k {X X1 : Nat → Int → Int} {i : Nat} (h5 : X1 (i + 5) = X (i + 5)) (h8 : X1 (i + 10) = X (i + 10)) (h : oTPo X i) : oTPo X1 i := by
  unfold oTPo oPor at h ⊢
  rw [h5, h8]
  exact h
abbrev cX11_facts : ByteArray := prog_13_method_103_code
def yX11_facts : MethodName := ⟨RX11, "facts", "()I"⟩
theorem dX11_facts_0 : decode cX11_facts 0 = .ok (.aload_n 0, 1) := by decide +kernel
theorem dX11_facts_1 : decode cX11_facts 1 = .ok (.getfield 35, 3) := by decide +kernel
theorem dX11_facts_4 : decode cX11_facts 4 = .ok (.bipush 17, 2) := by decide +kernel
theorem dX11_facts_6 : decode cX11_facts 6 = .ok (.aload_n 0, 1) := by decide +kernel
theorem dX11_facts_7 : decode cX11_facts 7 = .ok (.getfield 485, 3) := by decide +kernel
theorem dX11_facts_10 : decode cX11_facts 10 = .ok (.imul, 1) := by decide +kernel
theorem dX11_facts_11 : decode cX11_facts 11 = .ok (.iaload, 1) := by decide +kernel
theorem dX11_facts_12 : decode cX11_facts 12 = .ok (.ireturn, 1) := by decide +kernel
theorem q_1296 : Cond.fieldLink RX11 35 RX11 "logs" "[I" ∈ zTB := zmem 1296 (by decide +kernel) rfl
theorem q_1342 : Cond.fieldLink RX11 485 RX11 "log" "I" ∈ zTB := zmem 1342 (by decide +kernel) rfl
def F_X11_facts (i : Nat) (X Y : Nat → Int → Int) (R : Nat → Int → Option Nat)  : Prop := (∀ i j, rI (X i j)) → (∀ i j, rL (Y i j)) → (0 ≤ (17 * (X (i) 55)) ∧ (17 * (X (i) 55)) < 136) ∧ (X (i + 9) (17 * (X (i) 55)) = mLn X i)
set_option maxHeartbeats 4000000 in
set_option maxRecDepth 100000 in
theorem w_X11_facts {l : Launch} {D : va_G} {cy : Nat → ClassId} {bs N : Nat} {sa : Nat → Nat} {kd len : Nat → Nat} {X Y : Nat → Int → Int} {R : Nat → Int → Option Nat} {i : Nat} (hM : zM N kd len R i)  (hF : F_X11_facts i X Y R ) : Met l yX11_facts (.code yX11_facts cX11_facts 1 (some .int) :: zTB) (zRm 0 0) (zPc D cy bs sa N kd len X Y R [.ref (bs + (i))]) (zQi D cy bs N kd len (fun r st => r = mLn X i ∧ st = (X, Y, R))) 0 0 (zA bs) := by
  refine zstart (by decide) (Nat.le_of_ble_eq_true rfl) ?_
  intro p e s m args below meth c ls C hE hH hr hlk hnm hl hargs
  have hF := hF hH.2.2.1 hH.2.2.2
  have hS : va_S (zA bs) s.heap s.heap [] := va_S.rf
  have hl : lv_has ls 1 [(0, .ref (bs + (i)))] := hl
  refine lv_aload_n C.1 C.2.1 dX11_facts_0 rfl (lv_at hl 0 rfl) ?_
  refine zg11_9 C hH (zM_n0 hM) (zM_k0 hM) q_1296 (zM_r9 hM) dX11_facts_1 ?_
  refine zd_bipush C (by decide) dX11_facts_4 ?_
  refine lv_aload_n C.1 C.2.1 dX11_facts_6 rfl (lv_at hl 0 rfl) ?_
  refine zg11_55 C hH (zM_n0 hM) (zM_k0 hM) q_1342 dX11_facts_7 ?_
  refine zd_imul C dX11_facts_10 ?_
  obtain ⟨o1, hF⟩ := hF
  refine zd_iald C hH (zM_n9 hM) (zM_k9 hM) o1.1 (by rw [zM_l9 hM]; exact o1.2) (by rw [zM_l9 hM]; decide) dX11_facts_11 ?_
  exact zd_iret C hr hlk hH hS (hH.2.2.1 _ _) (⟨hF, rfl⟩) dX11_facts_12
theorem v_X11_facts {X Y : Nat → Int → Int} {R : Nat → Int → Option Nat} {i : Nat}  (hp : oLg X i) : F_X11_facts i X Y R  := by
  unfold F_X11_facts
  intro hX hY
  obtain ⟨h1, h2⟩ := hp
  exact ⟨⟨by omega, by omega⟩, rfl⟩
theorem c_X11_facts {l : Launch} {D : va_G} {cy : Nat → ClassId} {bs N : Nat} {sa : Nat → Nat} {kd len : Nat → Nat} {X Y : Nat → Int → Int} {R : Nat → Int → Option Nat} {i : Nat} (hM : zM N kd len R i)  (hp : oLg X i) : Met l yX11_facts (.code yX11_facts cX11_facts 1 (some .int) :: zTB) (zRm 0 0) (zPc D cy bs sa N kd len X Y R [.ref (bs + (i))]) (zQi D cy bs N kd len (fun r st => r = mLn X i ∧ st = (X, Y, R))) 0 0 (zA bs) := w_X11_facts hM  (v_X11_facts  hp)
abbrev cX11_factOf : ByteArray := prog_13_method_104_code
def yX11_factOf : MethodName := ⟨RX11, "factOf", "(II)I"⟩
theorem dX11_factOf_0 : decode cX11_factOf 0 = .ok (.aload_n 0, 1) := by decide +kernel
theorem dX11_factOf_1 : decode cX11_factOf 1 = .ok (.getfield 35, 3) := by decide +kernel
theorem dX11_factOf_4 : decode cX11_factOf 4 = .ok (.bipush 17, 2) := by decide +kernel
theorem dX11_factOf_6 : decode cX11_factOf 6 = .ok (.aload_n 0, 1) := by decide +kernel
theorem dX11_factOf_7 : decode cX11_factOf 7 = .ok (.getfield 485, 3) := by decide +kernel
theorem dX11_factOf_10 : decode cX11_factOf 10 = .ok (.imul, 1) := by decide +kernel
theorem dX11_factOf_11 : decode cX11_factOf 11 = .ok (.iconst 1, 1) := by decide +kernel
theorem dX11_factOf_12 : decode cX11_factOf 12 = .ok (.iadd, 1) := by decide +kernel
theorem dX11_factOf_13 : decode cX11_factOf 13 = .ok (.iconst 2, 1) := by decide +kernel
theorem dX11_factOf_14 : decode cX11_factOf 14 = .ok (.iload_n 1, 1) := by decide +kernel
theorem dX11_factOf_15 : decode cX11_factOf 15 = .ok (.imul, 1) := by decide +kernel
theorem dX11_factOf_16 : decode cX11_factOf 16 = .ok (.iadd, 1) := by decide +kernel
theorem dX11_factOf_17 : decode cX11_factOf 17 = .ok (.iload_n 2, 1) := by decide +kernel
theorem dX11_factOf_18 : decode cX11_factOf 18 = .ok (.iadd, 1) := by decide +kernel
theorem dX11_factOf_19 : decode cX11_factOf 19 = .ok (.iaload, 1) := by decide +kernel
theorem dX11_factOf_20 : decode cX11_factOf 20 = .ok (.ireturn, 1) := by decide +kernel
def F_X11_factOf (i : Nat) (X Y : Nat → Int → Int) (R : Nat → Int → Option Nat) (a : Int) (b : Int) : Prop := (∀ i j, rI (X i j)) → (∀ i j, rL (Y i j)) → (0 ≤ ((((17 * (X (i) 55)) + 1) + (2 * a)) + b) ∧ ((((17 * (X (i) 55)) + 1) + (2 * a)) + b) < 136) ∧ (X (i + 9) ((((17 * (X (i) 55)) + 1) + (2 * a)) + b) = mLf X i (a) (b))
set_option maxHeartbeats 4000000 in
set_option maxRecDepth 100000 in
theorem w_X11_factOf {l : Launch} {D : va_G} {cy : Nat → ClassId} {bs N : Nat} {sa : Nat → Nat} {kd len : Nat → Nat} {X Y : Nat → Int → Int} {R : Nat → Int → Option Nat} {i : Nat} (hM : zM N kd len R i) (a : Int) (ha : rI a) (b : Int) (hb : rI b) (hF : F_X11_factOf i X Y R a b) : Met l yX11_factOf (.code yX11_factOf cX11_factOf 3 (some .int) :: zTB) (zRm 0 0) (zPc D cy bs sa N kd len X Y R [.ref (bs + (i)), .int (zI (a)), .int (zI (b))]) (zQi D cy bs N kd len (fun r st => r = mLf X i (a) (b) ∧ st = (X, Y, R))) 0 0 (zA bs) := by
  refine zstart (by decide) (Nat.le_of_ble_eq_true rfl) ?_
  intro p e s m args below meth c ls C hE hH hr hlk hnm hl hargs
  have hF := hF hH.2.2.1 hH.2.2.2
  have hS : va_S (zA bs) s.heap s.heap [] := va_S.rf
  have hl : lv_has ls 3 [(0, .ref (bs + (i))), (1, .int (zI (a))), (2, .int (zI (b)))] := hl
  refine lv_aload_n C.1 C.2.1 dX11_factOf_0 rfl (lv_at hl 0 rfl) ?_
  refine zg11_9 C hH (zM_n0 hM) (zM_k0 hM) q_1296 (zM_r9 hM) dX11_factOf_1 ?_
  refine zd_bipush C (by decide) dX11_factOf_4 ?_
  refine lv_aload_n C.1 C.2.1 dX11_factOf_6 rfl (lv_at hl 0 rfl) ?_
  refine zg11_55 C hH (zM_n0 hM) (zM_k0 hM) q_1342 dX11_factOf_7 ?_
  refine zd_imul C dX11_factOf_10 ?_
  refine zd_iconst C dX11_factOf_11 ?_
  refine zd_iadd C dX11_factOf_12 ?_
  refine zd_iconst C dX11_factOf_13 ?_
  refine lv_iload_n C.1 C.2.1 dX11_factOf_14 rfl (lv_at hl 1 rfl) ?_
  refine zd_imul C dX11_factOf_15 ?_
  refine zd_iadd C dX11_factOf_16 ?_
  refine lv_iload_n C.1 C.2.1 dX11_factOf_17 rfl (lv_at hl 2 rfl) ?_
  refine zd_iadd C dX11_factOf_18 ?_
  obtain ⟨o1, hF⟩ := hF
  refine zd_iald C hH (zM_n9 hM) (zM_k9 hM) o1.1 (by rw [zM_l9 hM]; exact o1.2) (by rw [zM_l9 hM]; decide) dX11_factOf_19 ?_
  exact zd_iret C hr hlk hH hS (hH.2.2.1 _ _) (⟨hF, rfl⟩) dX11_factOf_20
theorem v_X11_factOf {X Y : Nat → Int → Int} {R : Nat → Int → Option Nat} {i : Nat} (a : Int) (ha : rI a) (b : Int) (hb : rI b) (hp : oLg X i ∧ (0 ≤ a ∧ a ≤ 7) ∧ 0 ≤ b ∧ b ≤ 1) : F_X11_factOf i X Y R a b := by
  unfold F_X11_factOf
  intro hX hY
  obtain ⟨⟨h1, h2⟩, h3, h4⟩ := hp
  exact ⟨⟨by omega, by omega⟩, rfl⟩
theorem c_X11_factOf {l : Launch} {D : va_G} {cy : Nat → ClassId} {bs N : Nat} {sa : Nat → Nat} {kd len : Nat → Nat} {X Y : Nat → Int → Int} {R : Nat → Int → Option Nat} {i : Nat} (hM : zM N kd len R i) (a : Int) (ha : rI a) (b : Int) (hb : rI b) (hp : oLg X i ∧ (0 ≤ a ∧ a ≤ 7) ∧ 0 ≤ b ∧ b ≤ 1) : Met l yX11_factOf (.code yX11_factOf cX11_factOf 3 (some .int) :: zTB) (zRm 0 0) (zPc D cy bs sa N kd len X Y R [.ref (bs + (i)), .int (zI (a)), .int (zI (b))]) (zQi D cy bs N kd len (fun r st => r = mLf X i (a) (b) ∧ st = (X, Y, R))) 0 0 (zA bs) := w_X11_factOf hM a ha b hb (v_X11_factOf a ha b hb hp)
abbrev cX11_allPays : ByteArray := prog_13_method_83_code
def yX11_allPays : MethodName := ⟨RX11, "allPays", "()I"⟩
theorem dX11_allPays_0 : decode cX11_allPays 0 = .ok (.aload_n 0, 1) := by decide +kernel
theorem dX11_allPays_1 : decode cX11_allPays 1 = .ok (.getfield 38, 3) := by decide +kernel
theorem dX11_allPays_4 : decode cX11_allPays 4 = .ok (.bipush 25, 2) := by decide +kernel
theorem dX11_allPays_6 : decode cX11_allPays 6 = .ok (.aload_n 0, 1) := by decide +kernel
theorem dX11_allPays_7 : decode cX11_allPays 7 = .ok (.getfield 429, 3) := by decide +kernel
theorem dX11_allPays_10 : decode cX11_allPays 10 = .ok (.imul, 1) := by decide +kernel
theorem dX11_allPays_11 : decode cX11_allPays 11 = .ok (.iaload, 1) := by decide +kernel
theorem dX11_allPays_12 : decode cX11_allPays 12 = .ok (.ireturn, 1) := by decide +kernel
theorem q_1297 : Cond.fieldLink RX11 38 RX11 "pools" "[I" ∈ zTB := zmem 1297 (by decide +kernel) rfl
theorem q_1335 : Cond.fieldLink RX11 429 RX11 "pool" "I" ∈ zTB := zmem 1335 (by decide +kernel) rfl
def F_X11_allPays (i : Nat) (X Y : Nat → Int → Int) (R : Nat → Int → Option Nat)  : Prop := (∀ i j, rI (X i j)) → (∀ i j, rL (Y i j)) → (0 ≤ (25 * (X (i) 48)) ∧ (25 * (X (i) 48)) < 200) ∧ (X (i + 10) (25 * (X (i) 48)) = mQn X i)
set_option maxHeartbeats 4000000 in
set_option maxRecDepth 100000 in
theorem w_X11_allPays {l : Launch} {D : va_G} {cy : Nat → ClassId} {bs N : Nat} {sa : Nat → Nat} {kd len : Nat → Nat} {X Y : Nat → Int → Int} {R : Nat → Int → Option Nat} {i : Nat} (hM : zM N kd len R i)  (hF : F_X11_allPays i X Y R ) : Met l yX11_allPays (.code yX11_allPays cX11_allPays 1 (some .int) :: zTB) (zRm 0 0) (zPc D cy bs sa N kd len X Y R [.ref (bs + (i))]) (zQi D cy bs N kd len (fun r st => r = mQn X i ∧ st = (X, Y, R))) 0 0 (zA bs) := by
  refine zstart (by decide) (Nat.le_of_ble_eq_true rfl) ?_
  intro p e s m args below meth c ls C hE hH hr hlk hnm hl hargs
  have hF := hF hH.2.2.1 hH.2.2.2
  have hS : va_S (zA bs) s.heap s.heap [] := va_S.rf
  have hl : lv_has ls 1 [(0, .ref (bs + (i)))] := hl
  refine lv_aload_n C.1 C.2.1 dX11_allPays_0 rfl (lv_at hl 0 rfl) ?_
  refine zg11_10 C hH (zM_n0 hM) (zM_k0 hM) q_1297 (zM_r10 hM) dX11_allPays_1 ?_
  refine zd_bipush C (by decide) dX11_allPays_4 ?_
  refine lv_aload_n C.1 C.2.1 dX11_allPays_6 rfl (lv_at hl 0 rfl) ?_
  refine zg11_48 C hH (zM_n0 hM) (zM_k0 hM) q_1335 dX11_allPays_7 ?_
  refine zd_imul C dX11_allPays_10 ?_
  obtain ⟨o1, hF⟩ := hF
  refine zd_iald C hH (zM_n10 hM) (zM_k10 hM) o1.1 (by rw [zM_l10 hM]; exact o1.2) (by rw [zM_l10 hM]; decide) dX11_allPays_11 ?_
  exact zd_iret C hr hlk hH hS (hH.2.2.1 _ _) (⟨hF, rfl⟩) dX11_allPays_12
theorem v_X11_allPays {X Y : Nat → Int → Int} {R : Nat → Int → Option Nat} {i : Nat}  (hp : oPo X i) : F_X11_allPays i X Y R  := by
  unfold F_X11_allPays
  intro hX hY
  obtain ⟨h1, h2⟩ := hp
  exact ⟨⟨by omega, by omega⟩, rfl⟩
theorem c_X11_allPays {l : Launch} {D : va_G} {cy : Nat → ClassId} {bs N : Nat} {sa : Nat → Nat} {kd len : Nat → Nat} {X Y : Nat → Int → Int} {R : Nat → Int → Option Nat} {i : Nat} (hM : zM N kd len R i)  (hp : oPo X i) : Met l yX11_allPays (.code yX11_allPays cX11_allPays 1 (some .int) :: zTB) (zRm 0 0) (zPc D cy bs sa N kd len X Y R [.ref (bs + (i))]) (zQi D cy bs N kd len (fun r st => r = mQn X i ∧ st = (X, Y, R))) 0 0 (zA bs) := w_X11_allPays hM  (v_X11_allPays  hp)
abbrev cX11_payOf : ByteArray := prog_13_method_84_code
def yX11_payOf : MethodName := ⟨RX11, "payOf", "(II)I"⟩
theorem dX11_payOf_0 : decode cX11_payOf 0 = .ok (.aload_n 0, 1) := by decide +kernel
theorem dX11_payOf_1 : decode cX11_payOf 1 = .ok (.getfield 38, 3) := by decide +kernel
theorem dX11_payOf_4 : decode cX11_payOf 4 = .ok (.bipush 25, 2) := by decide +kernel
theorem dX11_payOf_6 : decode cX11_payOf 6 = .ok (.aload_n 0, 1) := by decide +kernel
theorem dX11_payOf_7 : decode cX11_payOf 7 = .ok (.getfield 429, 3) := by decide +kernel
theorem dX11_payOf_10 : decode cX11_payOf 10 = .ok (.imul, 1) := by decide +kernel
theorem dX11_payOf_11 : decode cX11_payOf 11 = .ok (.iconst 1, 1) := by decide +kernel
theorem dX11_payOf_12 : decode cX11_payOf 12 = .ok (.iadd, 1) := by decide +kernel
theorem dX11_payOf_13 : decode cX11_payOf 13 = .ok (.iconst 4, 1) := by decide +kernel
theorem dX11_payOf_14 : decode cX11_payOf 14 = .ok (.iload_n 1, 1) := by decide +kernel
theorem dX11_payOf_15 : decode cX11_payOf 15 = .ok (.imul, 1) := by decide +kernel
theorem dX11_payOf_16 : decode cX11_payOf 16 = .ok (.iadd, 1) := by decide +kernel
theorem dX11_payOf_17 : decode cX11_payOf 17 = .ok (.iload_n 2, 1) := by decide +kernel
theorem dX11_payOf_18 : decode cX11_payOf 18 = .ok (.iadd, 1) := by decide +kernel
theorem dX11_payOf_19 : decode cX11_payOf 19 = .ok (.iaload, 1) := by decide +kernel
theorem dX11_payOf_20 : decode cX11_payOf 20 = .ok (.ireturn, 1) := by decide +kernel
def F_X11_payOf (i : Nat) (X Y : Nat → Int → Int) (R : Nat → Int → Option Nat) (a : Int) (b : Int) : Prop := (∀ i j, rI (X i j)) → (∀ i j, rL (Y i j)) → (0 ≤ ((((25 * (X (i) 48)) + 1) + (4 * a)) + b) ∧ ((((25 * (X (i) 48)) + 1) + (4 * a)) + b) < 200) ∧ (X (i + 10) ((((25 * (X (i) 48)) + 1) + (4 * a)) + b) = mQf X i (a) (b))
set_option maxHeartbeats 4000000 in
set_option maxRecDepth 100000 in
theorem w_X11_payOf {l : Launch} {D : va_G} {cy : Nat → ClassId} {bs N : Nat} {sa : Nat → Nat} {kd len : Nat → Nat} {X Y : Nat → Int → Int} {R : Nat → Int → Option Nat} {i : Nat} (hM : zM N kd len R i) (a : Int) (ha : rI a) (b : Int) (hb : rI b) (hF : F_X11_payOf i X Y R a b) : Met l yX11_payOf (.code yX11_payOf cX11_payOf 3 (some .int) :: zTB) (zRm 0 0) (zPc D cy bs sa N kd len X Y R [.ref (bs + (i)), .int (zI (a)), .int (zI (b))]) (zQi D cy bs N kd len (fun r st => r = mQf X i (a) (b) ∧ st = (X, Y, R))) 0 0 (zA bs) := by
  refine zstart (by decide) (Nat.le_of_ble_eq_true rfl) ?_
  intro p e s m args below meth c ls C hE hH hr hlk hnm hl hargs
  have hF := hF hH.2.2.1 hH.2.2.2
  have hS : va_S (zA bs) s.heap s.heap [] := va_S.rf
  have hl : lv_has ls 3 [(0, .ref (bs + (i))), (1, .int (zI (a))), (2, .int (zI (b)))] := hl
  refine lv_aload_n C.1 C.2.1 dX11_payOf_0 rfl (lv_at hl 0 rfl) ?_
  refine zg11_10 C hH (zM_n0 hM) (zM_k0 hM) q_1297 (zM_r10 hM) dX11_payOf_1 ?_
  refine zd_bipush C (by decide) dX11_payOf_4 ?_
  refine lv_aload_n C.1 C.2.1 dX11_payOf_6 rfl (lv_at hl 0 rfl) ?_
  refine zg11_48 C hH (zM_n0 hM) (zM_k0 hM) q_1335 dX11_payOf_7 ?_
  refine zd_imul C dX11_payOf_10 ?_
  refine zd_iconst C dX11_payOf_11 ?_
  refine zd_iadd C dX11_payOf_12 ?_
  refine zd_iconst C dX11_payOf_13 ?_
  refine lv_iload_n C.1 C.2.1 dX11_payOf_14 rfl (lv_at hl 1 rfl) ?_
  refine zd_imul C dX11_payOf_15 ?_
  refine zd_iadd C dX11_payOf_16 ?_
  refine lv_iload_n C.1 C.2.1 dX11_payOf_17 rfl (lv_at hl 2 rfl) ?_
  refine zd_iadd C dX11_payOf_18 ?_
  obtain ⟨o1, hF⟩ := hF
  refine zd_iald C hH (zM_n10 hM) (zM_k10 hM) o1.1 (by rw [zM_l10 hM]; exact o1.2) (by rw [zM_l10 hM]; decide) dX11_payOf_19 ?_
  exact zd_iret C hr hlk hH hS (hH.2.2.1 _ _) (⟨hF, rfl⟩) dX11_payOf_20
theorem v_X11_payOf {X Y : Nat → Int → Int} {R : Nat → Int → Option Nat} {i : Nat} (a : Int) (ha : rI a) (b : Int) (hb : rI b) (hp : oPo X i ∧ (0 ≤ a ∧ a ≤ 5) ∧ 0 ≤ b ∧ b ≤ 3) : F_X11_payOf i X Y R a b := by
  unfold F_X11_payOf
  intro hX hY
  obtain ⟨⟨h1, h2⟩, h3, h4⟩ := hp
  exact ⟨⟨by omega, by omega⟩, rfl⟩
theorem c_X11_payOf {l : Launch} {D : va_G} {cy : Nat → ClassId} {bs N : Nat} {sa : Nat → Nat} {kd len : Nat → Nat} {X Y : Nat → Int → Int} {R : Nat → Int → Option Nat} {i : Nat} (hM : zM N kd len R i) (a : Int) (ha : rI a) (b : Int) (hb : rI b) (hp : oPo X i ∧ (0 ≤ a ∧ a ≤ 5) ∧ 0 ≤ b ∧ b ≤ 3) : Met l yX11_payOf (.code yX11_payOf cX11_payOf 3 (some .int) :: zTB) (zRm 0 0) (zPc D cy bs sa N kd len X Y R [.ref (bs + (i)), .int (zI (a)), .int (zI (b))]) (zQi D cy bs N kd len (fun r st => r = mQf X i (a) (b) ∧ st = (X, Y, R))) 0 0 (zA bs) := w_X11_payOf hM a ha b hb (v_X11_payOf a ha b hb hp)
abbrev cX11_hasLog : ByteArray := prog_13_method_105_code
def yX11_hasLog : MethodName := ⟨RX11, "hasLog", "(I)Z"⟩
theorem dX11_hasLog_0 : decode cX11_hasLog 0 = .ok (.aload_n 0, 1) := by decide +kernel
theorem dX11_hasLog_1 : decode cX11_hasLog 1 = .ok (.iload_n 1, 1) := by decide +kernel
theorem dX11_hasLog_2 : decode cX11_hasLog 2 = .ok (.putfield 485, 3) := by decide +kernel
theorem dX11_hasLog_5 : decode cX11_hasLog 5 = .ok (.aload_n 0, 1) := by decide +kernel
theorem dX11_hasLog_6 : decode cX11_hasLog 6 = .ok (.iconst 3, 1) := by decide +kernel
theorem dX11_hasLog_7 : decode cX11_hasLog 7 = .ok (.iload_n 1, 1) := by decide +kernel
theorem dX11_hasLog_8 : decode cX11_hasLog 8 = .ok (.invokevirtual 240, 3) := by decide +kernel
theorem dX11_hasLog_11 : decode cX11_hasLog 11 = .ok (.ireturn, 1) := by decide +kernel
def F_X11_hasLog (i : Nat) (X Y : Nat → Int → Int) (R : Nat → Int → Option Nat) (a : Int) : Prop := (∀ i j, rI (X i j)) → (∀ i j, rL (Y i j)) → ∀ X1 : Nat → Int → Int, X1 = zU X (i) 55 (a) → (∀ i j, rI (X1 i j)) → ((0 ≤ (3 : Int) ∧ (3 : Int) < 5 ∧ 0 ≤ X1 (i + 5) (3 : Int)) ∧ ((mIs i X1 ((3 : Int)) (a)) = mIs i X 3 (a) ∧ X1 = zU X i 55 (a)))
set_option maxHeartbeats 4000000 in
set_option maxRecDepth 100000 in
theorem w_X11_hasLog {l : Launch} {D : va_G} {cy : Nat → ClassId} {bs N : Nat} {sa : Nat → Nat} {kd len : Nat → Nat} {X Y : Nat → Int → Int} {R : Nat → Int → Option Nat} {i : Nat} (hM : zM N kd len R i) (a : Int) (ha : rI a) (hF : F_X11_hasLog i X Y R a) : Met l yX11_hasLog (.code yX11_hasLog cX11_hasLog 2 (some .boolean) :: zTB) (zRm 2 44) (zPc D cy bs sa N kd len X Y R [.ref (bs + (i)), .int (zI (a))]) (zQi D cy bs N kd len (fun r st => st.2.1 = Y ∧ st.2.2 = R ∧ ∃ rb : Bool, r = bz rb ∧ (rb = mIs i X 3 (a) ∧ st.1 = zU X i 55 (a)))) 0 0 (zA bs) := by
  refine zstart (by decide) (Nat.le_of_ble_eq_true rfl) ?_
  intro p e s m args below meth c ls C hE hH hr hlk hnm hl hargs
  have hF := hF hH.2.2.1 hH.2.2.2
  have hS : va_S (zA bs) s.heap s.heap [] := va_S.rf
  have hl : lv_has ls 2 [(0, .ref (bs + (i))), (1, .int (zI (a)))] := hl
  refine lv_aload_n C.1 C.2.1 dX11_hasLog_0 rfl (lv_at hl 0 rfl) ?_
  refine lv_iload_n C.1 C.2.1 dX11_hasLog_1 rfl (lv_at hl 1 rfl) ?_
  refine zp11_55 C hH hS (zM_n0 hM) (zM_k0 hM) q_1342 ha dX11_hasLog_2 (fun H locs hH hS => ?_)
  obtain ⟨X1, eX1⟩ : ∃ z, z = zU X (i) 55 (a) := ⟨_, rfl⟩
  rw [← eX1] at hH
  have hF := hF X1 eX1 hH.2.2.1
  refine lv_aload_n C.1 C.2.1 dX11_hasLog_5 rfl (lv_at hl 0 rfl) ?_
  refine zd_iconst C dX11_hasLog_6 ?_
  refine lv_iload_n C.1 C.2.1 dX11_hasLog_7 rfl (lv_at hl 1 rfl) ?_
  obtain ⟨o2, hF⟩ := hF
  refine zgoi (zrunV (As := [.int (zI (3)), .int (zI (a))]) (rest := []) C hE hH hS hl.1 (c_X11_is (l := l) hM (3) (by decide) (a) ha o2) k_RX11_240 ⟨Nat.le_of_ble_eq_true rfl, Nat.le_of_ble_eq_true rfl⟩ (zM_n0 hM) (zM_k0 hM) rfl rfl rfl (Nat.le_of_ble_eq_true rfl) dX11_hasLog_8 ⟨Nat.zero_le _, Nat.zero_le _⟩) hS (fun rq Xq Yq Rq H locs hrq hq hH hS => ?_)
  obtain ⟨h91, h92⟩ := hq
  have h93 : Xq = X1 := congrArg (fun z => z.1) h92
  have h94 : Yq = Y := congrArg (fun z => z.2.1) h92
  have h95 : Rq = R := congrArg (fun z => z.2.2) h92
  rw [h93, h94, h95] at hH
  subst h91
  exact zd_zret C hr hlk hH hS bz_01 (⟨rfl, rfl, _, rfl, hF⟩) dX11_hasLog_11
theorem v_X11_hasLog {X Y : Nat → Int → Int} {R : Nat → Int → Option Nat} {i : Nat} (a : Int) (ha : rI a) (hp : 0 ≤ X (i + 5) 3) : F_X11_hasLog i X Y R a := by
  unfold F_X11_hasLog
  intro hX hY X1 e1 r1
  have h5 : X1 (i + 5) = X (i + 5) := by rw [e1, zU_o (by omega)]
  refine ⟨⟨by decide, by decide, by rw [h5]; exact hp⟩, ?_, e1⟩
  unfold mIs
  rw [h5]
theorem c_X11_hasLog {l : Launch} {D : va_G} {cy : Nat → ClassId} {bs N : Nat} {sa : Nat → Nat} {kd len : Nat → Nat} {X Y : Nat → Int → Int} {R : Nat → Int → Option Nat} {i : Nat} (hM : zM N kd len R i) (a : Int) (ha : rI a) (hp : 0 ≤ X (i + 5) 3) : Met l yX11_hasLog (.code yX11_hasLog cX11_hasLog 2 (some .boolean) :: zTB) (zRm 2 44) (zPc D cy bs sa N kd len X Y R [.ref (bs + (i)), .int (zI (a))]) (zQi D cy bs N kd len (fun r st => st.2.1 = Y ∧ st.2.2 = R ∧ ∃ rb : Bool, r = bz rb ∧ (rb = mIs i X 3 (a) ∧ st.1 = zU X i 55 (a)))) 0 0 (zA bs) := w_X11_hasLog hM a ha (v_X11_hasLog a ha hp)
abbrev cX11_hasPool : ByteArray := prog_13_method_85_code
def yX11_hasPool : MethodName := ⟨RX11, "hasPool", "(I)Z"⟩
theorem dX11_hasPool_0 : decode cX11_hasPool 0 = .ok (.aload_n 0, 1) := by decide +kernel
theorem dX11_hasPool_1 : decode cX11_hasPool 1 = .ok (.iload_n 1, 1) := by decide +kernel
theorem dX11_hasPool_2 : decode cX11_hasPool 2 = .ok (.putfield 429, 3) := by decide +kernel
theorem dX11_hasPool_5 : decode cX11_hasPool 5 = .ok (.aload_n 0, 1) := by decide +kernel
theorem dX11_hasPool_6 : decode cX11_hasPool 6 = .ok (.iconst 4, 1) := by decide +kernel
theorem dX11_hasPool_7 : decode cX11_hasPool 7 = .ok (.iload_n 1, 1) := by decide +kernel
theorem dX11_hasPool_8 : decode cX11_hasPool 8 = .ok (.invokevirtual 240, 3) := by decide +kernel
theorem dX11_hasPool_11 : decode cX11_hasPool 11 = .ok (.ireturn, 1) := by decide +kernel
def F_X11_hasPool (i : Nat) (X Y : Nat → Int → Int) (R : Nat → Int → Option Nat) (a : Int) : Prop := (∀ i j, rI (X i j)) → (∀ i j, rL (Y i j)) → ∀ X1 : Nat → Int → Int, X1 = zU X (i) 48 (a) → (∀ i j, rI (X1 i j)) → ((0 ≤ (4 : Int) ∧ (4 : Int) < 5 ∧ 0 ≤ X1 (i + 5) (4 : Int)) ∧ ((mIs i X1 ((4 : Int)) (a)) = mIs i X 4 (a) ∧ X1 = zU X i 48 (a)))
set_option maxHeartbeats 4000000 in
set_option maxRecDepth 100000 in
theorem w_X11_hasPool {l : Launch} {D : va_G} {cy : Nat → ClassId} {bs N : Nat} {sa : Nat → Nat} {kd len : Nat → Nat} {X Y : Nat → Int → Int} {R : Nat → Int → Option Nat} {i : Nat} (hM : zM N kd len R i) (a : Int) (ha : rI a) (hF : F_X11_hasPool i X Y R a) : Met l yX11_hasPool (.code yX11_hasPool cX11_hasPool 2 (some .boolean) :: zTB) (zRm 2 44) (zPc D cy bs sa N kd len X Y R [.ref (bs + (i)), .int (zI (a))]) (zQi D cy bs N kd len (fun r st => st.2.1 = Y ∧ st.2.2 = R ∧ ∃ rb : Bool, r = bz rb ∧ (rb = mIs i X 4 (a) ∧ st.1 = zU X i 48 (a)))) 0 0 (zA bs) := by
  refine zstart (by decide) (Nat.le_of_ble_eq_true rfl) ?_
  intro p e s m args below meth c ls C hE hH hr hlk hnm hl hargs
  have hF := hF hH.2.2.1 hH.2.2.2
  have hS : va_S (zA bs) s.heap s.heap [] := va_S.rf
  have hl : lv_has ls 2 [(0, .ref (bs + (i))), (1, .int (zI (a)))] := hl
  refine lv_aload_n C.1 C.2.1 dX11_hasPool_0 rfl (lv_at hl 0 rfl) ?_
  refine lv_iload_n C.1 C.2.1 dX11_hasPool_1 rfl (lv_at hl 1 rfl) ?_
  refine zp11_48 C hH hS (zM_n0 hM) (zM_k0 hM) q_1335 ha dX11_hasPool_2 (fun H locs hH hS => ?_)
  obtain ⟨X1, eX1⟩ : ∃ z, z = zU X (i) 48 (a) := ⟨_, rfl⟩
  rw [← eX1] at hH
  have hF := hF X1 eX1 hH.2.2.1
  refine lv_aload_n C.1 C.2.1 dX11_hasPool_5 rfl (lv_at hl 0 rfl) ?_
  refine zd_iconst C dX11_hasPool_6 ?_
  refine lv_iload_n C.1 C.2.1 dX11_hasPool_7 rfl (lv_at hl 1 rfl) ?_
  obtain ⟨o2, hF⟩ := hF
  refine zgoi (zrunV (As := [.int (zI (4)), .int (zI (a))]) (rest := []) C hE hH hS hl.1 (c_X11_is (l := l) hM (4) (by decide) (a) ha o2) k_RX11_240 ⟨Nat.le_of_ble_eq_true rfl, Nat.le_of_ble_eq_true rfl⟩ (zM_n0 hM) (zM_k0 hM) rfl rfl rfl (Nat.le_of_ble_eq_true rfl) dX11_hasPool_8 ⟨Nat.zero_le _, Nat.zero_le _⟩) hS (fun rq Xq Yq Rq H locs hrq hq hH hS => ?_)
  obtain ⟨h91, h92⟩ := hq
  have h93 : Xq = X1 := congrArg (fun z => z.1) h92
  have h94 : Yq = Y := congrArg (fun z => z.2.1) h92
  have h95 : Rq = R := congrArg (fun z => z.2.2) h92
  rw [h93, h94, h95] at hH
  subst h91
  exact zd_zret C hr hlk hH hS bz_01 (⟨rfl, rfl, _, rfl, hF⟩) dX11_hasPool_11
theorem v_X11_hasPool {X Y : Nat → Int → Int} {R : Nat → Int → Option Nat} {i : Nat} (a : Int) (ha : rI a) (hp : 0 ≤ X (i + 5) 4) : F_X11_hasPool i X Y R a := by
  unfold F_X11_hasPool
  intro hX hY X1 e1 r1
  have h5 : X1 (i + 5) = X (i + 5) := by rw [e1, zU_o (by omega)]
  refine ⟨⟨by decide, by decide, by rw [h5]; exact hp⟩, ?_, e1⟩
  unfold mIs
  rw [h5]
theorem c_X11_hasPool {l : Launch} {D : va_G} {cy : Nat → ClassId} {bs N : Nat} {sa : Nat → Nat} {kd len : Nat → Nat} {X Y : Nat → Int → Int} {R : Nat → Int → Option Nat} {i : Nat} (hM : zM N kd len R i) (a : Int) (ha : rI a) (hp : 0 ≤ X (i + 5) 4) : Met l yX11_hasPool (.code yX11_hasPool cX11_hasPool 2 (some .boolean) :: zTB) (zRm 2 44) (zPc D cy bs sa N kd len X Y R [.ref (bs + (i)), .int (zI (a))]) (zQi D cy bs N kd len (fun r st => st.2.1 = Y ∧ st.2.2 = R ∧ ∃ rb : Bool, r = bz rb ∧ (rb = mIs i X 4 (a) ∧ st.1 = zU X i 48 (a)))) 0 0 (zA bs) := w_X11_hasPool hM a ha (v_X11_hasPool a ha hp)
def rDeed (X : Nat → Int → Int) (i : Nat) (f k w : Int) : Int := if mIs i X 2 f then (if k = -1 then (if w = 0 then X (i + 8) (81 * f) else -2) else if mIn k 0 (X (i + 8) (81 * f) - 1) && mIn w 0 1 then X (i + 8) (81 * f + 1 + 2 * k + w) else -2) else -2
def rFact (X : Nat → Int → Int) (i : Nat) (f k w : Int) : Int := if mIs i X 3 f then (if k = -1 then (if w = 0 then X (i + 9) (17 * f) else -2) else if mIn k 0 (X (i + 9) (17 * f) - 1) && mIn w 0 1 then X (i + 9) (17 * f + 1 + 2 * k + w) else -2) else -2
def rPool (X : Nat → Int → Int) (i : Nat) (f k w : Int) : Int := if mIs i X 4 f then (if k = -1 then (if w = 0 then X (i + 10) (25 * f) else -2) else if mIn k 0 (X (i + 10) (25 * f) - 1) && mIn w 0 3 then X (i + 10) (25 * f + 1 + 4 * k + w) else -2) else -2
abbrev cX11_deed : ByteArray := prog_13_method_67_code
def yX11_deed : MethodName := ⟨RX11, "deed", "(III)I"⟩
theorem dX11_deed_0 : decode cX11_deed 0 = .ok (.aload_n 0, 1) := by decide +kernel
theorem dX11_deed_1 : decode cX11_deed 1 = .ok (.iconst 0, 1) := by decide +kernel
theorem dX11_deed_2 : decode cX11_deed 2 = .ok (.putfield 88, 3) := by decide +kernel
theorem dX11_deed_5 : decode cX11_deed 5 = .ok (.aload_n 0, 1) := by decide +kernel
theorem dX11_deed_6 : decode cX11_deed 6 = .ok (.iload_n 1, 1) := by decide +kernel
theorem dX11_deed_7 : decode cX11_deed 7 = .ok (.invokevirtual 352, 3) := by decide +kernel
theorem dX11_deed_10 : decode cX11_deed 10 = .ok (.ifCond .ne 6, 3) := by decide +kernel
theorem dX11_deed_13 : decode cX11_deed 13 = .ok (.bipush (-2), 2) := by decide +kernel
theorem dX11_deed_15 : decode cX11_deed 15 = .ok (.ireturn, 1) := by decide +kernel
theorem dX11_deed_16 : decode cX11_deed 16 = .ok (.iload_n 2, 1) := by decide +kernel
theorem dX11_deed_17 : decode cX11_deed 17 = .ok (.iconst (-1), 1) := by decide +kernel
theorem dX11_deed_18 : decode cX11_deed 18 = .ok (.if_icmp .ne 17, 3) := by decide +kernel
theorem dX11_deed_21 : decode cX11_deed 21 = .ok (.iload_n 3, 1) := by decide +kernel
theorem dX11_deed_22 : decode cX11_deed 22 = .ok (.ifCond .ne 10, 3) := by decide +kernel
theorem dX11_deed_25 : decode cX11_deed 25 = .ok (.aload_n 0, 1) := by decide +kernel
theorem dX11_deed_26 : decode cX11_deed 26 = .ok (.invokevirtual 355, 3) := by decide +kernel
theorem dX11_deed_29 : decode cX11_deed 29 = .ok (.goto 5, 3) := by decide +kernel
theorem dX11_deed_32 : decode cX11_deed 32 = .ok (.bipush (-2), 2) := by decide +kernel
theorem dX11_deed_34 : decode cX11_deed 34 = .ok (.ireturn, 1) := by decide +kernel
theorem dX11_deed_35 : decode cX11_deed 35 = .ok (.iload_n 2, 1) := by decide +kernel
theorem dX11_deed_36 : decode cX11_deed 36 = .ok (.iconst 0, 1) := by decide +kernel
theorem dX11_deed_37 : decode cX11_deed 37 = .ok (.aload_n 0, 1) := by decide +kernel
theorem dX11_deed_38 : decode cX11_deed 38 = .ok (.invokevirtual 355, 3) := by decide +kernel
theorem dX11_deed_41 : decode cX11_deed 41 = .ok (.iconst 1, 1) := by decide +kernel
theorem dX11_deed_42 : decode cX11_deed 42 = .ok (.isub, 1) := by decide +kernel
theorem dX11_deed_43 : decode cX11_deed 43 = .ok (.invokestatic 100, 3) := by decide +kernel
theorem dX11_deed_46 : decode cX11_deed 46 = .ok (.ifCond .eq 21, 3) := by decide +kernel
theorem dX11_deed_49 : decode cX11_deed 49 = .ok (.iload_n 3, 1) := by decide +kernel
theorem dX11_deed_50 : decode cX11_deed 50 = .ok (.iconst 0, 1) := by decide +kernel
theorem dX11_deed_51 : decode cX11_deed 51 = .ok (.iconst 1, 1) := by decide +kernel
theorem dX11_deed_52 : decode cX11_deed 52 = .ok (.invokestatic 100, 3) := by decide +kernel
theorem dX11_deed_55 : decode cX11_deed 55 = .ok (.ifCond .eq 12, 3) := by decide +kernel
theorem dX11_deed_58 : decode cX11_deed 58 = .ok (.aload_n 0, 1) := by decide +kernel
theorem dX11_deed_59 : decode cX11_deed 59 = .ok (.iload_n 2, 1) := by decide +kernel
theorem dX11_deed_60 : decode cX11_deed 60 = .ok (.iload_n 3, 1) := by decide +kernel
theorem dX11_deed_61 : decode cX11_deed 61 = .ok (.invokevirtual 358, 3) := by decide +kernel
theorem dX11_deed_64 : decode cX11_deed 64 = .ok (.goto 5, 3) := by decide +kernel
theorem dX11_deed_67 : decode cX11_deed 67 = .ok (.bipush (-2), 2) := by decide +kernel
theorem dX11_deed_69 : decode cX11_deed 69 = .ok (.ireturn, 1) := by decide +kernel
def F_X11_deed (i : Nat) (X Y : Nat → Int → Int) (R : Nat → Int → Option Nat) (a : Int) (b : Int) (g : Int) : Prop := (∀ i j, rI (X i j)) → (∀ i j, rL (Y i j)) → ∀ X1 : Nat → Int → Int, X1 = zU X (i) 0 (0) → (∀ i j, rI (X1 i j)) → ((0 ≤ X1 (i + 5) 2) ∧ (∀ r4 : Bool, ∀ X3 : Nat → Int → Int, (∀ i j, rI (X3 i j)) → (r4 = mIs i X1 2 (a) ∧ X3 = zU X1 i 40 (a)) → (((r4 = true) → (((¬ b = (-1)) → ((oFd X3 i) ∧ (rI (mDn X3 i) → ((rI ((mDn X3 i) - 1)) ∧ ((((mIn (b) ((0 : Int)) ((mDn X3 i) - 1)) = false) → ((-2) = rDeed X i (a) (b) (g) ∧ pK X (X3) i)) ∧ (((mIn (b) ((0 : Int)) ((mDn X3 i) - 1)) = true) → ((((mIn (g) ((0 : Int)) ((1 : Int))) = false) → ((-2) = rDeed X i (a) (b) (g) ∧ pK X (X3) i)) ∧ (((mIn (g) ((0 : Int)) ((1 : Int))) = true) → ((oFd X3 i ∧ (0 ≤ b ∧ b ≤ 39) ∧ 0 ≤ g ∧ g ≤ 1) ∧ (rI (mDd X3 i (b) (g)) → (mDd X3 i (b) (g) = rDeed X i (a) (b) (g) ∧ pK X (X3) i))))))))))) ∧ ((¬ (¬ b = (-1))) → (((¬ g = 0) → ((-2) = rDeed X i (a) (b) (g) ∧ pK X (X3) i)) ∧ ((¬ (¬ g = 0)) → ((oFd X3 i) ∧ (rI (mDn X3 i) → (mDn X3 i = rDeed X i (a) (b) (g) ∧ pK X (X3) i)))))))) ∧ ((r4 = false) → ((-2) = rDeed X i (a) (b) (g) ∧ pK X (X3) i)))))
set_option maxHeartbeats 4000000 in
set_option maxRecDepth 100000 in
theorem w_X11_deed {l : Launch} {D : va_G} {cy : Nat → ClassId} {bs N : Nat} {sa : Nat → Nat} {kd len : Nat → Nat} {X Y : Nat → Int → Int} {R : Nat → Int → Option Nat} {i : Nat} (hM : zM N kd len R i) (a : Int) (ha : rI a) (b : Int) (hb : rI b) (g : Int) (hg : rI g) (hF : F_X11_deed i X Y R a b g) : Met l yX11_deed (.code yX11_deed cX11_deed 4 (some .int) :: zTB) (zRm 3 65) (zPc D cy bs sa N kd len X Y R [.ref (bs + (i)), .int (zI (a)), .int (zI (b)), .int (zI (g))]) (zQi D cy bs N kd len (fun r st => st.2.1 = Y ∧ st.2.2 = R ∧ (r = rDeed X i (a) (b) (g) ∧ pK X (st.1) i))) 0 0 (zA bs) := by
  refine zstart (by decide) (Nat.le_of_ble_eq_true rfl) ?_
  intro p e s m args below meth c ls C hE hH hr hlk hnm hl hargs
  have hF := hF hH.2.2.1 hH.2.2.2
  have hS : va_S (zA bs) s.heap s.heap [] := va_S.rf
  have hl : lv_has ls 4 [(0, .ref (bs + (i))), (1, .int (zI (a))), (2, .int (zI (b))), (3, .int (zI (g)))] := hl
  refine lv_aload_n C.1 C.2.1 dX11_deed_0 rfl (lv_at hl 0 rfl) ?_
  refine zd_iconst C dX11_deed_1 ?_
  refine zp11_0 C hH hS (zM_n0 hM) (zM_k0 hM) q_1287 (by decide) dX11_deed_2 (fun H locs hH hS => ?_)
  obtain ⟨X1, eX1⟩ : ∃ z, z = zU X (i) 0 (0) := ⟨_, rfl⟩
  rw [← eX1] at hH
  have hF := hF X1 eX1 hH.2.2.1
  refine lv_aload_n C.1 C.2.1 dX11_deed_5 rfl (lv_at hl 0 rfl) ?_
  refine lv_iload_n C.1 C.2.1 dX11_deed_6 rfl (lv_at hl 1 rfl) ?_
  obtain ⟨o2, hF⟩ := hF
  refine zgoi (zrunV (As := [.int (zI (a))]) (rest := []) C hE hH hS hl.1 (c_X11_hasFeed (l := l) hM (a) ha o2) k_RX11_352 ⟨Nat.le_of_ble_eq_true rfl, Nat.le_of_ble_eq_true rfl⟩ (zM_n0 hM) (zM_k0 hM) rfl rfl rfl (Nat.le_of_ble_eq_true rfl) dX11_deed_7 ⟨Nat.zero_le _, Nat.zero_le _⟩) hS (fun rq X3 Yq Rq H locs hrq hq hH hS => ?_)
  obtain ⟨h9Y, h9R, hq⟩ := hq
  dsimp only at h9Y h9R
  rw [h9Y, h9R] at hH
  obtain ⟨r4, h91, hq⟩ := hq
  subst h91
  have hF := hF r4 X3 hH.2.2.1 hq
  refine zd_ifB_ne C 16 dX11_deed_10 (by decide) (fun c5 => ?_) (fun c5 => ?_)
  · have hF := hF.1 c5
    refine lv_iload_n C.1 C.2.1 dX11_deed_16 rfl (lv_at hl 2 rfl) ?_
    refine zd_iconst C dX11_deed_17 ?_
    refine zd_icmp_ne C hb (by decide) 35 dX11_deed_18 (by decide) (fun c6 => ?_) (fun c6 => ?_)
    · have hF := hF.1 c6
      refine lv_iload_n C.1 C.2.1 dX11_deed_35 rfl (lv_at hl 2 rfl) ?_
      refine zd_iconst C dX11_deed_36 ?_
      refine lv_aload_n C.1 C.2.1 dX11_deed_37 rfl (lv_at hl 0 rfl) ?_
      obtain ⟨o7, hF⟩ := hF
      refine zgoi (zrunV (As := []) (rest := [.int (zI (0)), .int (zI (b))]) C hE hH hS hl.1 (c_X11_deeds (l := l) hM  o7) k_RX11_355 ⟨Nat.le_of_ble_eq_true rfl, Nat.le_of_ble_eq_true rfl⟩ (zM_n0 hM) (zM_k0 hM) rfl rfl rfl (Nat.le_of_ble_eq_true rfl) dX11_deed_38 ⟨Nat.zero_le _, Nat.zero_le _⟩) hS (fun rq Xq Yq Rq H locs hrq hq hH hS => ?_)
      obtain ⟨h91, h92⟩ := hq
      have h93 : Xq = X3 := congrArg (fun z => z.1) h92
      have h94 : Yq = Y := congrArg (fun z => z.2.1) h92
      have h95 : Rq = R := congrArg (fun z => z.2.2) h92
      rw [h93, h94, h95] at hH
      subst h91
      have hr8 := hrq
      have hF := hF hr8
      refine zd_iconst C dX11_deed_41 ?_
      refine zd_isub C dX11_deed_42 ?_
      obtain ⟨o9, hF⟩ := hF
      refine zgoi (zrunS (As := [.int (zI (b)), .int (zI (0)), .int (zI ((mDn X3 i) - 1))]) (rest := []) C hE hH hS hl.1 (c_X11_in (l := l)  (b) hb (0) (by decide) ((mDn X3 i) - 1) o9) k_RX11_100 ⟨Nat.le_of_ble_eq_true rfl, Nat.le_of_ble_eq_true rfl⟩ rfl (Nat.le_of_ble_eq_true rfl) dX11_deed_43 ⟨Nat.zero_le _, Nat.zero_le _⟩) hS (fun rq Xq Yq Rq H locs hrq hq hH hS => ?_)
      obtain ⟨h91, h92⟩ := hq
      have h93 : Xq = X3 := congrArg (fun z => z.1) h92
      have h94 : Yq = Y := congrArg (fun z => z.2.1) h92
      have h95 : Rq = R := congrArg (fun z => z.2.2) h92
      rw [h93, h94, h95] at hH
      subst h91
      refine zd_ifB_eq C 67 dX11_deed_46 (by decide) (fun c10 => ?_) (fun c10 => ?_)
      · have hF := hF.1 c10
        refine zd_bipush C (by decide) dX11_deed_67 ?_
        exact zd_iret C hr hlk hH hS (by decide) (⟨rfl, rfl, hF⟩) dX11_deed_69
      · have hF := hF.2 c10
        refine lv_iload_n C.1 C.2.1 dX11_deed_49 rfl (lv_at hl 3 rfl) ?_
        refine zd_iconst C dX11_deed_50 ?_
        refine zd_iconst C dX11_deed_51 ?_
        refine zgoi (zrunS (As := [.int (zI (g)), .int (zI (0)), .int (zI (1))]) (rest := []) C hE hH hS hl.1 (c_X11_in (l := l)  (g) hg (0) (by decide) (1) (by decide)) k_RX11_100 ⟨Nat.le_of_ble_eq_true rfl, Nat.le_of_ble_eq_true rfl⟩ rfl (Nat.le_of_ble_eq_true rfl) dX11_deed_52 ⟨Nat.zero_le _, Nat.zero_le _⟩) hS (fun rq Xq Yq Rq H locs hrq hq hH hS => ?_)
        obtain ⟨h91, h92⟩ := hq
        have h93 : Xq = X3 := congrArg (fun z => z.1) h92
        have h94 : Yq = Y := congrArg (fun z => z.2.1) h92
        have h95 : Rq = R := congrArg (fun z => z.2.2) h92
        rw [h93, h94, h95] at hH
        subst h91
        refine zd_ifB_eq C 67 dX11_deed_55 (by decide) (fun c11 => ?_) (fun c11 => ?_)
        · have hF := hF.1 c11
          refine zd_bipush C (by decide) dX11_deed_67 ?_
          exact zd_iret C hr hlk hH hS (by decide) (⟨rfl, rfl, hF⟩) dX11_deed_69
        · have hF := hF.2 c11
          refine lv_aload_n C.1 C.2.1 dX11_deed_58 rfl (lv_at hl 0 rfl) ?_
          refine lv_iload_n C.1 C.2.1 dX11_deed_59 rfl (lv_at hl 2 rfl) ?_
          refine lv_iload_n C.1 C.2.1 dX11_deed_60 rfl (lv_at hl 3 rfl) ?_
          obtain ⟨o12, hF⟩ := hF
          refine zgoi (zrunV (As := [.int (zI (b)), .int (zI (g))]) (rest := []) C hE hH hS hl.1 (c_X11_deedOf (l := l) hM (b) hb (g) hg o12) k_RX11_358 ⟨Nat.le_of_ble_eq_true rfl, Nat.le_of_ble_eq_true rfl⟩ (zM_n0 hM) (zM_k0 hM) rfl rfl rfl (Nat.le_of_ble_eq_true rfl) dX11_deed_61 ⟨Nat.zero_le _, Nat.zero_le _⟩) hS (fun rq Xq Yq Rq H locs hrq hq hH hS => ?_)
          obtain ⟨h91, h92⟩ := hq
          have h93 : Xq = X3 := congrArg (fun z => z.1) h92
          have h94 : Yq = Y := congrArg (fun z => z.2.1) h92
          have h95 : Rq = R := congrArg (fun z => z.2.2) h92
          rw [h93, h94, h95] at hH
          subst h91
          have hr13 := hrq
          have hF := hF hr13
          refine lv_goto (tgt := 69) C.1 C.2.1 dX11_deed_64 (by decide) ?_
          exact zd_iret C hr hlk hH hS hr13 (⟨rfl, rfl, hF⟩) dX11_deed_69
    · have hF := hF.2 c6
      refine lv_iload_n C.1 C.2.1 dX11_deed_21 rfl (lv_at hl 3 rfl) ?_
      refine zd_if_ne C hg 32 dX11_deed_22 (by decide) (fun c14 => ?_) (fun c14 => ?_)
      · have hF := hF.1 c14
        refine zd_bipush C (by decide) dX11_deed_32 ?_
        exact zd_iret C hr hlk hH hS (by decide) (⟨rfl, rfl, hF⟩) dX11_deed_34
      · have hF := hF.2 c14
        refine lv_aload_n C.1 C.2.1 dX11_deed_25 rfl (lv_at hl 0 rfl) ?_
        obtain ⟨o15, hF⟩ := hF
        refine zgoi (zrunV (As := []) (rest := []) C hE hH hS hl.1 (c_X11_deeds (l := l) hM  o15) k_RX11_355 ⟨Nat.le_of_ble_eq_true rfl, Nat.le_of_ble_eq_true rfl⟩ (zM_n0 hM) (zM_k0 hM) rfl rfl rfl (Nat.le_of_ble_eq_true rfl) dX11_deed_26 ⟨Nat.zero_le _, Nat.zero_le _⟩) hS (fun rq Xq Yq Rq H locs hrq hq hH hS => ?_)
        obtain ⟨h91, h92⟩ := hq
        have h93 : Xq = X3 := congrArg (fun z => z.1) h92
        have h94 : Yq = Y := congrArg (fun z => z.2.1) h92
        have h95 : Rq = R := congrArg (fun z => z.2.2) h92
        rw [h93, h94, h95] at hH
        subst h91
        have hr16 := hrq
        have hF := hF hr16
        refine lv_goto (tgt := 34) C.1 C.2.1 dX11_deed_29 (by decide) ?_
        exact zd_iret C hr hlk hH hS hr16 (⟨rfl, rfl, hF⟩) dX11_deed_34
  · have hF := hF.2 c5
    refine zd_bipush C (by decide) dX11_deed_13 ?_
    exact zd_iret C hr hlk hH hS (by decide) (⟨rfl, rfl, hF⟩) dX11_deed_15
theorem v_X11_deed {X Y : Nat → Int → Int} {R : Nat → Int → Option Nat} {i : Nat} (a : Int) (ha : rI a) (b : Int) (hb : rI b) (g : Int) (hg : rI g) (hp : oTN X i ∧ oTF X i) : F_X11_deed i X Y R a b g := by
  unfold F_X11_deed
  intro hX hY X1 e1 xr1
  obtain ⟨hT, hG⟩ := hp
  have o1 : ∀ z, z ≠ i → X1 z = X z := fun z h => by rw [e1, zU_o h]
  have hb := hT.1 2 (by decide) (by decide)
  refine ⟨by rw [o1 _ (by omega)]; exact hb.1, fun r4 X3 xr3 h3 => ?_⟩
  obtain ⟨e4, e3⟩ := h3
  have em : mIs i X1 2 a = mIs i X 2 a := by
    unfold mIs
    rw [o1 _ (by omega)]
  rw [em] at e4
  have o3 : ∀ z, z ≠ i → X3 z = X z := fun z h => by rw [e3, zU_o h, o1 z h]
  have p3 : pK X X3 i := ⟨fun z h _ => o3 z h, by rw [e3, zU_n (by omega), e1, zU_s]⟩
  have s3 : X3 i 40 = a := by rw [e3, zU_s]
  refine ⟨fun c => ?_, fun c => ⟨by unfold rDeed; rw [← e4, c]; rfl, p3⟩⟩
  rw [c] at e4
  have ha := mIs_t.mp e4.symm
  have fd : oFd X3 i := by
    show 0 ≤ X3 i 40 ∧ X3 i 40 ≤ 1
    rw [s3]
    exact ⟨by omega, by omega⟩
  have eN : mDn X3 i = X (i + 8) (81 * a) := by
    unfold mDn
    rw [s3, o3 _ (by omega)]
  have eF : ∀ k w, mDd X3 i k w = X (i + 8) (81 * a + 1 + 2 * k + w) := fun k w => by
    unfold mDd
    rw [s3, o3 _ (by omega)]
  rw [eN]
  have hv := (hG a ha.1 ha.2).1
  refine ⟨fun cb => ⟨fd, fun _ => ⟨⟨by omega, by omega⟩, fun cm => ⟨?_, p3⟩, fun cm => ⟨fun cg => ⟨?_, p3⟩, fun cg => ⟨⟨fd, ?_, ?_⟩, fun _ => ⟨?_, p3⟩⟩⟩⟩⟩, fun cb => ⟨fun cg => ⟨?_, p3⟩, fun cg => ⟨fd, fun _ => ⟨?_, p3⟩⟩⟩⟩
  · unfold rDeed
    rw [← e4, if_pos rfl, if_neg cb, cm]
    rfl
  · unfold rDeed
    rw [← e4, if_pos rfl, if_neg cb, cm, cg]
    rfl
  · have := mIn_t.mp cm
    exact ⟨by omega, by omega⟩
  · exact mIn_t.mp cg
  · unfold rDeed
    rw [eF, ← e4, if_pos rfl, if_neg cb, cm, cg]
    rfl
  · unfold rDeed
    rw [← e4, if_pos rfl, if_pos (by omega), if_neg cg]
  · unfold rDeed
    rw [← e4, if_pos rfl, if_pos (by omega), if_pos (by omega)]
theorem c_X11_deed {l : Launch} {D : va_G} {cy : Nat → ClassId} {bs N : Nat} {sa : Nat → Nat} {kd len : Nat → Nat} {X Y : Nat → Int → Int} {R : Nat → Int → Option Nat} {i : Nat} (hM : zM N kd len R i) (a : Int) (ha : rI a) (b : Int) (hb : rI b) (g : Int) (hg : rI g) (hp : oTN X i ∧ oTF X i) : Met l yX11_deed (.code yX11_deed cX11_deed 4 (some .int) :: zTB) (zRm 3 65) (zPc D cy bs sa N kd len X Y R [.ref (bs + (i)), .int (zI (a)), .int (zI (b)), .int (zI (g))]) (zQi D cy bs N kd len (fun r st => st.2.1 = Y ∧ st.2.2 = R ∧ (r = rDeed X i (a) (b) (g) ∧ pK X (st.1) i))) 0 0 (zA bs) := w_X11_deed hM a ha b hb g hg (v_X11_deed a ha b hb g hg hp)
abbrev cX11_fact : ByteArray := prog_13_method_106_code
def yX11_fact : MethodName := ⟨RX11, "fact", "(III)I"⟩
theorem dX11_fact_0 : decode cX11_fact 0 = .ok (.aload_n 0, 1) := by decide +kernel
theorem dX11_fact_1 : decode cX11_fact 1 = .ok (.iconst 0, 1) := by decide +kernel
theorem dX11_fact_2 : decode cX11_fact 2 = .ok (.putfield 88, 3) := by decide +kernel
theorem dX11_fact_5 : decode cX11_fact 5 = .ok (.aload_n 0, 1) := by decide +kernel
theorem dX11_fact_6 : decode cX11_fact 6 = .ok (.iload_n 1, 1) := by decide +kernel
theorem dX11_fact_7 : decode cX11_fact 7 = .ok (.invokevirtual 488, 3) := by decide +kernel
theorem dX11_fact_10 : decode cX11_fact 10 = .ok (.ifCond .ne 6, 3) := by decide +kernel
theorem dX11_fact_13 : decode cX11_fact 13 = .ok (.bipush (-2), 2) := by decide +kernel
theorem dX11_fact_15 : decode cX11_fact 15 = .ok (.ireturn, 1) := by decide +kernel
theorem dX11_fact_16 : decode cX11_fact 16 = .ok (.iload_n 2, 1) := by decide +kernel
theorem dX11_fact_17 : decode cX11_fact 17 = .ok (.iconst (-1), 1) := by decide +kernel
theorem dX11_fact_18 : decode cX11_fact 18 = .ok (.if_icmp .ne 17, 3) := by decide +kernel
theorem dX11_fact_21 : decode cX11_fact 21 = .ok (.iload_n 3, 1) := by decide +kernel
theorem dX11_fact_22 : decode cX11_fact 22 = .ok (.ifCond .ne 10, 3) := by decide +kernel
theorem dX11_fact_25 : decode cX11_fact 25 = .ok (.aload_n 0, 1) := by decide +kernel
theorem dX11_fact_26 : decode cX11_fact 26 = .ok (.invokevirtual 491, 3) := by decide +kernel
theorem dX11_fact_29 : decode cX11_fact 29 = .ok (.goto 5, 3) := by decide +kernel
theorem dX11_fact_32 : decode cX11_fact 32 = .ok (.bipush (-2), 2) := by decide +kernel
theorem dX11_fact_34 : decode cX11_fact 34 = .ok (.ireturn, 1) := by decide +kernel
theorem dX11_fact_35 : decode cX11_fact 35 = .ok (.iload_n 2, 1) := by decide +kernel
theorem dX11_fact_36 : decode cX11_fact 36 = .ok (.iconst 0, 1) := by decide +kernel
theorem dX11_fact_37 : decode cX11_fact 37 = .ok (.aload_n 0, 1) := by decide +kernel
theorem dX11_fact_38 : decode cX11_fact 38 = .ok (.invokevirtual 491, 3) := by decide +kernel
theorem dX11_fact_41 : decode cX11_fact 41 = .ok (.iconst 1, 1) := by decide +kernel
theorem dX11_fact_42 : decode cX11_fact 42 = .ok (.isub, 1) := by decide +kernel
theorem dX11_fact_43 : decode cX11_fact 43 = .ok (.invokestatic 100, 3) := by decide +kernel
theorem dX11_fact_46 : decode cX11_fact 46 = .ok (.ifCond .eq 21, 3) := by decide +kernel
theorem dX11_fact_49 : decode cX11_fact 49 = .ok (.iload_n 3, 1) := by decide +kernel
theorem dX11_fact_50 : decode cX11_fact 50 = .ok (.iconst 0, 1) := by decide +kernel
theorem dX11_fact_51 : decode cX11_fact 51 = .ok (.iconst 1, 1) := by decide +kernel
theorem dX11_fact_52 : decode cX11_fact 52 = .ok (.invokestatic 100, 3) := by decide +kernel
theorem dX11_fact_55 : decode cX11_fact 55 = .ok (.ifCond .eq 12, 3) := by decide +kernel
theorem dX11_fact_58 : decode cX11_fact 58 = .ok (.aload_n 0, 1) := by decide +kernel
theorem dX11_fact_59 : decode cX11_fact 59 = .ok (.iload_n 2, 1) := by decide +kernel
theorem dX11_fact_60 : decode cX11_fact 60 = .ok (.iload_n 3, 1) := by decide +kernel
theorem dX11_fact_61 : decode cX11_fact 61 = .ok (.invokevirtual 494, 3) := by decide +kernel
theorem dX11_fact_64 : decode cX11_fact 64 = .ok (.goto 5, 3) := by decide +kernel
theorem dX11_fact_67 : decode cX11_fact 67 = .ok (.bipush (-2), 2) := by decide +kernel
theorem dX11_fact_69 : decode cX11_fact 69 = .ok (.ireturn, 1) := by decide +kernel
theorem q_1891 : Cond.methodLink RX11 488 yX11_hasLog ∈ zTB := zmem 1891 (by decide +kernel) rfl
theorem q_1893 : Cond.instanceMethod yX11_hasLog ∈ zTB := zmem 1893 (by decide +kernel) rfl
theorem q_104 : Cond.selects RX11 yX11_hasLog yX11_hasLog ∈ zTB := zmem 104 (by decide +kernel) rfl
theorem q_1894 : Cond.code yX11_hasLog cX11_hasLog 2 (some .boolean) ∈ zTB := zmem 1894 (by decide +kernel) rfl
theorem k_RX11_488 : zLv RX11 488 RX11 yX11_hasLog cX11_hasLog 2 (some .boolean) 1 := ⟨⟨q_1891, q_1893, q_104, q_140, q_1894⟩, rfl, ⟨by decide, by decide⟩, by decide +kernel⟩
theorem q_1895 : Cond.methodLink RX11 491 yX11_facts ∈ zTB := zmem 1895 (by decide +kernel) rfl
theorem q_1897 : Cond.instanceMethod yX11_facts ∈ zTB := zmem 1897 (by decide +kernel) rfl
theorem q_105 : Cond.selects RX11 yX11_facts yX11_facts ∈ zTB := zmem 105 (by decide +kernel) rfl
theorem q_1898 : Cond.code yX11_facts cX11_facts 1 (some .int) ∈ zTB := zmem 1898 (by decide +kernel) rfl
theorem k_RX11_491 : zLv RX11 491 RX11 yX11_facts cX11_facts 1 (some .int) 0 := ⟨⟨q_1895, q_1897, q_105, q_140, q_1898⟩, rfl, ⟨by decide, by decide⟩, by decide +kernel⟩
theorem q_1899 : Cond.methodLink RX11 494 yX11_factOf ∈ zTB := zmem 1899 (by decide +kernel) rfl
theorem q_1901 : Cond.instanceMethod yX11_factOf ∈ zTB := zmem 1901 (by decide +kernel) rfl
theorem q_106 : Cond.selects RX11 yX11_factOf yX11_factOf ∈ zTB := zmem 106 (by decide +kernel) rfl
theorem q_1902 : Cond.code yX11_factOf cX11_factOf 3 (some .int) ∈ zTB := zmem 1902 (by decide +kernel) rfl
theorem k_RX11_494 : zLv RX11 494 RX11 yX11_factOf cX11_factOf 3 (some .int) 2 := ⟨⟨q_1899, q_1901, q_106, q_140, q_1902⟩, rfl, ⟨by decide, by decide⟩, by decide +kernel⟩
def F_X11_fact (i : Nat) (X Y : Nat → Int → Int) (R : Nat → Int → Option Nat) (a : Int) (b : Int) (g : Int) : Prop := (∀ i j, rI (X i j)) → (∀ i j, rL (Y i j)) → ∀ X1 : Nat → Int → Int, X1 = zU X (i) 0 (0) → (∀ i j, rI (X1 i j)) → ((0 ≤ X1 (i + 5) 3) ∧ (∀ r4 : Bool, ∀ X3 : Nat → Int → Int, (∀ i j, rI (X3 i j)) → (r4 = mIs i X1 3 (a) ∧ X3 = zU X1 i 55 (a)) → (((r4 = true) → (((¬ b = (-1)) → ((oLg X3 i) ∧ (rI (mLn X3 i) → ((rI ((mLn X3 i) - 1)) ∧ ((((mIn (b) ((0 : Int)) ((mLn X3 i) - 1)) = false) → ((-2) = rFact X i (a) (b) (g) ∧ pK X (X3) i)) ∧ (((mIn (b) ((0 : Int)) ((mLn X3 i) - 1)) = true) → ((((mIn (g) ((0 : Int)) ((1 : Int))) = false) → ((-2) = rFact X i (a) (b) (g) ∧ pK X (X3) i)) ∧ (((mIn (g) ((0 : Int)) ((1 : Int))) = true) → ((oLg X3 i ∧ (0 ≤ b ∧ b ≤ 7) ∧ 0 ≤ g ∧ g ≤ 1) ∧ (rI (mLf X3 i (b) (g)) → (mLf X3 i (b) (g) = rFact X i (a) (b) (g) ∧ pK X (X3) i))))))))))) ∧ ((¬ (¬ b = (-1))) → (((¬ g = 0) → ((-2) = rFact X i (a) (b) (g) ∧ pK X (X3) i)) ∧ ((¬ (¬ g = 0)) → ((oLg X3 i) ∧ (rI (mLn X3 i) → (mLn X3 i = rFact X i (a) (b) (g) ∧ pK X (X3) i)))))))) ∧ ((r4 = false) → ((-2) = rFact X i (a) (b) (g) ∧ pK X (X3) i)))))
set_option maxHeartbeats 4000000 in
set_option maxRecDepth 100000 in
theorem w_X11_fact {l : Launch} {D : va_G} {cy : Nat → ClassId} {bs N : Nat} {sa : Nat → Nat} {kd len : Nat → Nat} {X Y : Nat → Int → Int} {R : Nat → Int → Option Nat} {i : Nat} (hM : zM N kd len R i) (a : Int) (ha : rI a) (b : Int) (hb : rI b) (g : Int) (hg : rI g) (hF : F_X11_fact i X Y R a b g) : Met l yX11_fact (.code yX11_fact cX11_fact 4 (some .int) :: zTB) (zRm 3 65) (zPc D cy bs sa N kd len X Y R [.ref (bs + (i)), .int (zI (a)), .int (zI (b)), .int (zI (g))]) (zQi D cy bs N kd len (fun r st => st.2.1 = Y ∧ st.2.2 = R ∧ (r = rFact X i (a) (b) (g) ∧ pK X (st.1) i))) 0 0 (zA bs) := by
  refine zstart (by decide) (Nat.le_of_ble_eq_true rfl) ?_
  intro p e s m args below meth c ls C hE hH hr hlk hnm hl hargs
  have hF := hF hH.2.2.1 hH.2.2.2
  have hS : va_S (zA bs) s.heap s.heap [] := va_S.rf
  have hl : lv_has ls 4 [(0, .ref (bs + (i))), (1, .int (zI (a))), (2, .int (zI (b))), (3, .int (zI (g)))] := hl
  refine lv_aload_n C.1 C.2.1 dX11_fact_0 rfl (lv_at hl 0 rfl) ?_
  refine zd_iconst C dX11_fact_1 ?_
  refine zp11_0 C hH hS (zM_n0 hM) (zM_k0 hM) q_1287 (by decide) dX11_fact_2 (fun H locs hH hS => ?_)
  obtain ⟨X1, eX1⟩ : ∃ z, z = zU X (i) 0 (0) := ⟨_, rfl⟩
  rw [← eX1] at hH
  have hF := hF X1 eX1 hH.2.2.1
  refine lv_aload_n C.1 C.2.1 dX11_fact_5 rfl (lv_at hl 0 rfl) ?_
  refine lv_iload_n C.1 C.2.1 dX11_fact_6 rfl (lv_at hl 1 rfl) ?_
  obtain ⟨o2, hF⟩ := hF
  refine zgoi (zrunV (As := [.int (zI (a))]) (rest := []) C hE hH hS hl.1 (c_X11_hasLog (l := l) hM (a) ha o2) k_RX11_488 ⟨Nat.le_of_ble_eq_true rfl, Nat.le_of_ble_eq_true rfl⟩ (zM_n0 hM) (zM_k0 hM) rfl rfl rfl (Nat.le_of_ble_eq_true rfl) dX11_fact_7 ⟨Nat.zero_le _, Nat.zero_le _⟩) hS (fun rq X3 Yq Rq H locs hrq hq hH hS => ?_)
  obtain ⟨h9Y, h9R, hq⟩ := hq
  dsimp only at h9Y h9R
  rw [h9Y, h9R] at hH
  obtain ⟨r4, h91, hq⟩ := hq
  subst h91
  have hF := hF r4 X3 hH.2.2.1 hq
  refine zd_ifB_ne C 16 dX11_fact_10 (by decide) (fun c5 => ?_) (fun c5 => ?_)
  · have hF := hF.1 c5
    refine lv_iload_n C.1 C.2.1 dX11_fact_16 rfl (lv_at hl 2 rfl) ?_
    refine zd_iconst C dX11_fact_17 ?_
    refine zd_icmp_ne C hb (by decide) 35 dX11_fact_18 (by decide) (fun c6 => ?_) (fun c6 => ?_)
    · have hF := hF.1 c6
      refine lv_iload_n C.1 C.2.1 dX11_fact_35 rfl (lv_at hl 2 rfl) ?_
      refine zd_iconst C dX11_fact_36 ?_
      refine lv_aload_n C.1 C.2.1 dX11_fact_37 rfl (lv_at hl 0 rfl) ?_
      obtain ⟨o7, hF⟩ := hF
      refine zgoi (zrunV (As := []) (rest := [.int (zI (0)), .int (zI (b))]) C hE hH hS hl.1 (c_X11_facts (l := l) hM  o7) k_RX11_491 ⟨Nat.le_of_ble_eq_true rfl, Nat.le_of_ble_eq_true rfl⟩ (zM_n0 hM) (zM_k0 hM) rfl rfl rfl (Nat.le_of_ble_eq_true rfl) dX11_fact_38 ⟨Nat.zero_le _, Nat.zero_le _⟩) hS (fun rq Xq Yq Rq H locs hrq hq hH hS => ?_)
      obtain ⟨h91, h92⟩ := hq
      have h93 : Xq = X3 := congrArg (fun z => z.1) h92
      have h94 : Yq = Y := congrArg (fun z => z.2.1) h92
      have h95 : Rq = R := congrArg (fun z => z.2.2) h92
      rw [h93, h94, h95] at hH
      subst h91
      have hr8 := hrq
      have hF := hF hr8
      refine zd_iconst C dX11_fact_41 ?_
      refine zd_isub C dX11_fact_42 ?_
      obtain ⟨o9, hF⟩ := hF
      refine zgoi (zrunS (As := [.int (zI (b)), .int (zI (0)), .int (zI ((mLn X3 i) - 1))]) (rest := []) C hE hH hS hl.1 (c_X11_in (l := l)  (b) hb (0) (by decide) ((mLn X3 i) - 1) o9) k_RX11_100 ⟨Nat.le_of_ble_eq_true rfl, Nat.le_of_ble_eq_true rfl⟩ rfl (Nat.le_of_ble_eq_true rfl) dX11_fact_43 ⟨Nat.zero_le _, Nat.zero_le _⟩) hS (fun rq Xq Yq Rq H locs hrq hq hH hS => ?_)
      obtain ⟨h91, h92⟩ := hq
      have h93 : Xq = X3 := congrArg (fun z => z.1) h92
      have h94 : Yq = Y := congrArg (fun z => z.2.1) h92
      have h95 : Rq = R := congrArg (fun z => z.2.2) h92
      rw [h93, h94, h95] at hH
      subst h91
      refine zd_ifB_eq C 67 dX11_fact_46 (by decide) (fun c10 => ?_) (fun c10 => ?_)
      · have hF := hF.1 c10
        refine zd_bipush C (by decide) dX11_fact_67 ?_
        exact zd_iret C hr hlk hH hS (by decide) (⟨rfl, rfl, hF⟩) dX11_fact_69
      · have hF := hF.2 c10
        refine lv_iload_n C.1 C.2.1 dX11_fact_49 rfl (lv_at hl 3 rfl) ?_
        refine zd_iconst C dX11_fact_50 ?_
        refine zd_iconst C dX11_fact_51 ?_
        refine zgoi (zrunS (As := [.int (zI (g)), .int (zI (0)), .int (zI (1))]) (rest := []) C hE hH hS hl.1 (c_X11_in (l := l)  (g) hg (0) (by decide) (1) (by decide)) k_RX11_100 ⟨Nat.le_of_ble_eq_true rfl, Nat.le_of_ble_eq_true rfl⟩ rfl (Nat.le_of_ble_eq_true rfl) dX11_fact_52 ⟨Nat.zero_le _, Nat.zero_le _⟩) hS (fun rq Xq Yq Rq H locs hrq hq hH hS => ?_)
        obtain ⟨h91, h92⟩ := hq
        have h93 : Xq = X3 := congrArg (fun z => z.1) h92
        have h94 : Yq = Y := congrArg (fun z => z.2.1) h92
        have h95 : Rq = R := congrArg (fun z => z.2.2) h92
        rw [h93, h94, h95] at hH
        subst h91
        refine zd_ifB_eq C 67 dX11_fact_55 (by decide) (fun c11 => ?_) (fun c11 => ?_)
        · have hF := hF.1 c11
          refine zd_bipush C (by decide) dX11_fact_67 ?_
          exact zd_iret C hr hlk hH hS (by decide) (⟨rfl, rfl, hF⟩) dX11_fact_69
        · have hF := hF.2 c11
          refine lv_aload_n C.1 C.2.1 dX11_fact_58 rfl (lv_at hl 0 rfl) ?_
          refine lv_iload_n C.1 C.2.1 dX11_fact_59 rfl (lv_at hl 2 rfl) ?_
          refine lv_iload_n C.1 C.2.1 dX11_fact_60 rfl (lv_at hl 3 rfl) ?_
          obtain ⟨o12, hF⟩ := hF
          refine zgoi (zrunV (As := [.int (zI (b)), .int (zI (g))]) (rest := []) C hE hH hS hl.1 (c_X11_factOf (l := l) hM (b) hb (g) hg o12) k_RX11_494 ⟨Nat.le_of_ble_eq_true rfl, Nat.le_of_ble_eq_true rfl⟩ (zM_n0 hM) (zM_k0 hM) rfl rfl rfl (Nat.le_of_ble_eq_true rfl) dX11_fact_61 ⟨Nat.zero_le _, Nat.zero_le _⟩) hS (fun rq Xq Yq Rq H locs hrq hq hH hS => ?_)
          obtain ⟨h91, h92⟩ := hq
          have h93 : Xq = X3 := congrArg (fun z => z.1) h92
          have h94 : Yq = Y := congrArg (fun z => z.2.1) h92
          have h95 : Rq = R := congrArg (fun z => z.2.2) h92
          rw [h93, h94, h95] at hH
          subst h91
          have hr13 := hrq
          have hF := hF hr13
          refine lv_goto (tgt := 69) C.1 C.2.1 dX11_fact_64 (by decide) ?_
          exact zd_iret C hr hlk hH hS hr13 (⟨rfl, rfl, hF⟩) dX11_fact_69
    · have hF := hF.2 c6
      refine lv_iload_n C.1 C.2.1 dX11_fact_21 rfl (lv_at hl 3 rfl) ?_
      refine zd_if_ne C hg 32 dX11_fact_22 (by decide) (fun c14 => ?_) (fun c14 => ?_)
      · have hF := hF.1 c14
        refine zd_bipush C (by decide) dX11_fact_32 ?_
        exact zd_iret C hr hlk hH hS (by decide) (⟨rfl, rfl, hF⟩) dX11_fact_34
      · have hF := hF.2 c14
        refine lv_aload_n C.1 C.2.1 dX11_fact_25 rfl (lv_at hl 0 rfl) ?_
        obtain ⟨o15, hF⟩ := hF
        refine zgoi (zrunV (As := []) (rest := []) C hE hH hS hl.1 (c_X11_facts (l := l) hM  o15) k_RX11_491 ⟨Nat.le_of_ble_eq_true rfl, Nat.le_of_ble_eq_true rfl⟩ (zM_n0 hM) (zM_k0 hM) rfl rfl rfl (Nat.le_of_ble_eq_true rfl) dX11_fact_26 ⟨Nat.zero_le _, Nat.zero_le _⟩) hS (fun rq Xq Yq Rq H locs hrq hq hH hS => ?_)
        obtain ⟨h91, h92⟩ := hq
        have h93 : Xq = X3 := congrArg (fun z => z.1) h92
        have h94 : Yq = Y := congrArg (fun z => z.2.1) h92
        have h95 : Rq = R := congrArg (fun z => z.2.2) h92
        rw [h93, h94, h95] at hH
        subst h91
        have hr16 := hrq
        have hF := hF hr16
        refine lv_goto (tgt := 34) C.1 C.2.1 dX11_fact_29 (by decide) ?_
        exact zd_iret C hr hlk hH hS hr16 (⟨rfl, rfl, hF⟩) dX11_fact_34
  · have hF := hF.2 c5
    refine zd_bipush C (by decide) dX11_fact_13 ?_
    exact zd_iret C hr hlk hH hS (by decide) (⟨rfl, rfl, hF⟩) dX11_fact_15
theorem v_X11_fact {X Y : Nat → Int → Int} {R : Nat → Int → Option Nat} {i : Nat} (a : Int) (ha : rI a) (b : Int) (hb : rI b) (g : Int) (hg : rI g) (hp : oTN X i ∧ oTLg X i) : F_X11_fact i X Y R a b g := by
  unfold F_X11_fact
  intro hX hY X1 e1 xr1
  obtain ⟨hT, hG⟩ := hp
  have o1 : ∀ z, z ≠ i → X1 z = X z := fun z h => by rw [e1, zU_o h]
  have hb := hT.1 3 (by decide) (by decide)
  refine ⟨by rw [o1 _ (by omega)]; exact hb.1, fun r4 X3 xr3 h3 => ?_⟩
  obtain ⟨e4, e3⟩ := h3
  have em : mIs i X1 3 a = mIs i X 3 a := by
    unfold mIs
    rw [o1 _ (by omega)]
  rw [em] at e4
  have o3 : ∀ z, z ≠ i → X3 z = X z := fun z h => by rw [e3, zU_o h, o1 z h]
  have p3 : pK X X3 i := ⟨fun z h _ => o3 z h, by rw [e3, zU_n (by omega), e1, zU_s]⟩
  have s3 : X3 i 55 = a := by rw [e3, zU_s]
  refine ⟨fun c => ?_, fun c => ⟨by unfold rFact; rw [← e4, c]; rfl, p3⟩⟩
  rw [c] at e4
  have ha := mIs_t.mp e4.symm
  have fd : oLg X3 i := by
    show 0 ≤ X3 i 55 ∧ X3 i 55 ≤ 1
    rw [s3]
    exact ⟨by omega, by omega⟩
  have eN : mLn X3 i = X (i + 9) (17 * a) := by
    unfold mLn
    rw [s3, o3 _ (by omega)]
  have eF : ∀ k w, mLf X3 i k w = X (i + 9) (17 * a + 1 + 2 * k + w) := fun k w => by
    unfold mLf
    rw [s3, o3 _ (by omega)]
  rw [eN]
  have hv := (hG a ha.1 ha.2).1
  refine ⟨fun cb => ⟨fd, fun _ => ⟨⟨by omega, by omega⟩, fun cm => ⟨?_, p3⟩, fun cm => ⟨fun cg => ⟨?_, p3⟩, fun cg => ⟨⟨fd, ?_, ?_⟩, fun _ => ⟨?_, p3⟩⟩⟩⟩⟩, fun cb => ⟨fun cg => ⟨?_, p3⟩, fun cg => ⟨fd, fun _ => ⟨?_, p3⟩⟩⟩⟩
  · unfold rFact
    rw [← e4, if_pos rfl, if_neg cb, cm]
    rfl
  · unfold rFact
    rw [← e4, if_pos rfl, if_neg cb, cm, cg]
    rfl
  · have := mIn_t.mp cm
    exact ⟨by omega, by omega⟩
  · exact mIn_t.mp cg
  · unfold rFact
    rw [eF, ← e4, if_pos rfl, if_neg cb, cm, cg]
    rfl
  · unfold rFact
    rw [← e4, if_pos rfl, if_pos (by omega), if_neg cg]
  · unfold rFact
    rw [← e4, if_pos rfl, if_pos (by omega), if_pos (by omega)]
theorem c_X11_fact {l : Launch} {D : va_G} {cy : Nat → ClassId} {bs N : Nat} {sa : Nat → Nat} {kd len : Nat → Nat} {X Y : Nat → Int → Int} {R : Nat → Int → Option Nat} {i : Nat} (hM : zM N kd len R i) (a : Int) (ha : rI a) (b : Int) (hb : rI b) (g : Int) (hg : rI g) (hp : oTN X i ∧ oTLg X i) : Met l yX11_fact (.code yX11_fact cX11_fact 4 (some .int) :: zTB) (zRm 3 65) (zPc D cy bs sa N kd len X Y R [.ref (bs + (i)), .int (zI (a)), .int (zI (b)), .int (zI (g))]) (zQi D cy bs N kd len (fun r st => st.2.1 = Y ∧ st.2.2 = R ∧ (r = rFact X i (a) (b) (g) ∧ pK X (st.1) i))) 0 0 (zA bs) := w_X11_fact hM a ha b hb g hg (v_X11_fact a ha b hb g hg hp)
abbrev cX11_pool : ByteArray := prog_13_method_86_code
def yX11_pool : MethodName := ⟨RX11, "pool", "(III)I"⟩
theorem dX11_pool_0 : decode cX11_pool 0 = .ok (.aload_n 0, 1) := by decide +kernel
theorem dX11_pool_1 : decode cX11_pool 1 = .ok (.iconst 0, 1) := by decide +kernel
theorem dX11_pool_2 : decode cX11_pool 2 = .ok (.putfield 88, 3) := by decide +kernel
theorem dX11_pool_5 : decode cX11_pool 5 = .ok (.aload_n 0, 1) := by decide +kernel
theorem dX11_pool_6 : decode cX11_pool 6 = .ok (.iload_n 1, 1) := by decide +kernel
theorem dX11_pool_7 : decode cX11_pool 7 = .ok (.invokevirtual 432, 3) := by decide +kernel
theorem dX11_pool_10 : decode cX11_pool 10 = .ok (.ifCond .ne 6, 3) := by decide +kernel
theorem dX11_pool_13 : decode cX11_pool 13 = .ok (.bipush (-2), 2) := by decide +kernel
theorem dX11_pool_15 : decode cX11_pool 15 = .ok (.ireturn, 1) := by decide +kernel
theorem dX11_pool_16 : decode cX11_pool 16 = .ok (.iload_n 2, 1) := by decide +kernel
theorem dX11_pool_17 : decode cX11_pool 17 = .ok (.iconst (-1), 1) := by decide +kernel
theorem dX11_pool_18 : decode cX11_pool 18 = .ok (.if_icmp .ne 17, 3) := by decide +kernel
theorem dX11_pool_21 : decode cX11_pool 21 = .ok (.iload_n 3, 1) := by decide +kernel
theorem dX11_pool_22 : decode cX11_pool 22 = .ok (.ifCond .ne 10, 3) := by decide +kernel
theorem dX11_pool_25 : decode cX11_pool 25 = .ok (.aload_n 0, 1) := by decide +kernel
theorem dX11_pool_26 : decode cX11_pool 26 = .ok (.invokevirtual 435, 3) := by decide +kernel
theorem dX11_pool_29 : decode cX11_pool 29 = .ok (.goto 5, 3) := by decide +kernel
theorem dX11_pool_32 : decode cX11_pool 32 = .ok (.bipush (-2), 2) := by decide +kernel
theorem dX11_pool_34 : decode cX11_pool 34 = .ok (.ireturn, 1) := by decide +kernel
theorem dX11_pool_35 : decode cX11_pool 35 = .ok (.iload_n 2, 1) := by decide +kernel
theorem dX11_pool_36 : decode cX11_pool 36 = .ok (.iconst 0, 1) := by decide +kernel
theorem dX11_pool_37 : decode cX11_pool 37 = .ok (.aload_n 0, 1) := by decide +kernel
theorem dX11_pool_38 : decode cX11_pool 38 = .ok (.invokevirtual 435, 3) := by decide +kernel
theorem dX11_pool_41 : decode cX11_pool 41 = .ok (.iconst 1, 1) := by decide +kernel
theorem dX11_pool_42 : decode cX11_pool 42 = .ok (.isub, 1) := by decide +kernel
theorem dX11_pool_43 : decode cX11_pool 43 = .ok (.invokestatic 100, 3) := by decide +kernel
theorem dX11_pool_46 : decode cX11_pool 46 = .ok (.ifCond .eq 21, 3) := by decide +kernel
theorem dX11_pool_49 : decode cX11_pool 49 = .ok (.iload_n 3, 1) := by decide +kernel
theorem dX11_pool_50 : decode cX11_pool 50 = .ok (.iconst 0, 1) := by decide +kernel
theorem dX11_pool_51 : decode cX11_pool 51 = .ok (.iconst 3, 1) := by decide +kernel
theorem dX11_pool_52 : decode cX11_pool 52 = .ok (.invokestatic 100, 3) := by decide +kernel
theorem dX11_pool_55 : decode cX11_pool 55 = .ok (.ifCond .eq 12, 3) := by decide +kernel
theorem dX11_pool_58 : decode cX11_pool 58 = .ok (.aload_n 0, 1) := by decide +kernel
theorem dX11_pool_59 : decode cX11_pool 59 = .ok (.iload_n 2, 1) := by decide +kernel
theorem dX11_pool_60 : decode cX11_pool 60 = .ok (.iload_n 3, 1) := by decide +kernel
theorem dX11_pool_61 : decode cX11_pool 61 = .ok (.invokevirtual 438, 3) := by decide +kernel
theorem dX11_pool_64 : decode cX11_pool 64 = .ok (.goto 5, 3) := by decide +kernel
theorem dX11_pool_67 : decode cX11_pool 67 = .ok (.bipush (-2), 2) := by decide +kernel
theorem dX11_pool_69 : decode cX11_pool 69 = .ok (.ireturn, 1) := by decide +kernel
theorem q_1808 : Cond.methodLink RX11 432 yX11_hasPool ∈ zTB := zmem 1808 (by decide +kernel) rfl
theorem q_1810 : Cond.instanceMethod yX11_hasPool ∈ zTB := zmem 1810 (by decide +kernel) rfl
theorem q_94 : Cond.selects RX11 yX11_hasPool yX11_hasPool ∈ zTB := zmem 94 (by decide +kernel) rfl
theorem q_1811 : Cond.code yX11_hasPool cX11_hasPool 2 (some .boolean) ∈ zTB := zmem 1811 (by decide +kernel) rfl
theorem k_RX11_432 : zLv RX11 432 RX11 yX11_hasPool cX11_hasPool 2 (some .boolean) 1 := ⟨⟨q_1808, q_1810, q_94, q_140, q_1811⟩, rfl, ⟨by decide, by decide⟩, by decide +kernel⟩
theorem q_1812 : Cond.methodLink RX11 435 yX11_allPays ∈ zTB := zmem 1812 (by decide +kernel) rfl
theorem q_1814 : Cond.instanceMethod yX11_allPays ∈ zTB := zmem 1814 (by decide +kernel) rfl
theorem q_95 : Cond.selects RX11 yX11_allPays yX11_allPays ∈ zTB := zmem 95 (by decide +kernel) rfl
theorem q_1815 : Cond.code yX11_allPays cX11_allPays 1 (some .int) ∈ zTB := zmem 1815 (by decide +kernel) rfl
theorem k_RX11_435 : zLv RX11 435 RX11 yX11_allPays cX11_allPays 1 (some .int) 0 := ⟨⟨q_1812, q_1814, q_95, q_140, q_1815⟩, rfl, ⟨by decide, by decide⟩, by decide +kernel⟩
theorem q_1816 : Cond.methodLink RX11 438 yX11_payOf ∈ zTB := zmem 1816 (by decide +kernel) rfl
theorem q_1818 : Cond.instanceMethod yX11_payOf ∈ zTB := zmem 1818 (by decide +kernel) rfl
theorem q_96 : Cond.selects RX11 yX11_payOf yX11_payOf ∈ zTB := zmem 96 (by decide +kernel) rfl
theorem q_1819 : Cond.code yX11_payOf cX11_payOf 3 (some .int) ∈ zTB := zmem 1819 (by decide +kernel) rfl
theorem k_RX11_438 : zLv RX11 438 RX11 yX11_payOf cX11_payOf 3 (some .int) 2 := ⟨⟨q_1816, q_1818, q_96, q_140, q_1819⟩, rfl, ⟨by decide, by decide⟩, by decide +kernel⟩
def F_X11_pool (i : Nat) (X Y : Nat → Int → Int) (R : Nat → Int → Option Nat) (a : Int) (b : Int) (g : Int) : Prop := (∀ i j, rI (X i j)) → (∀ i j, rL (Y i j)) → ∀ X1 : Nat → Int → Int, X1 = zU X (i) 0 (0) → (∀ i j, rI (X1 i j)) → ((0 ≤ X1 (i + 5) 4) ∧ (∀ r4 : Bool, ∀ X3 : Nat → Int → Int, (∀ i j, rI (X3 i j)) → (r4 = mIs i X1 4 (a) ∧ X3 = zU X1 i 48 (a)) → (((r4 = true) → (((¬ b = (-1)) → ((oPo X3 i) ∧ (rI (mQn X3 i) → ((rI ((mQn X3 i) - 1)) ∧ ((((mIn (b) ((0 : Int)) ((mQn X3 i) - 1)) = false) → ((-2) = rPool X i (a) (b) (g) ∧ pK X (X3) i)) ∧ (((mIn (b) ((0 : Int)) ((mQn X3 i) - 1)) = true) → ((((mIn (g) ((0 : Int)) ((3 : Int))) = false) → ((-2) = rPool X i (a) (b) (g) ∧ pK X (X3) i)) ∧ (((mIn (g) ((0 : Int)) ((3 : Int))) = true) → ((oPo X3 i ∧ (0 ≤ b ∧ b ≤ 5) ∧ 0 ≤ g ∧ g ≤ 3) ∧ (rI (mQf X3 i (b) (g)) → (mQf X3 i (b) (g) = rPool X i (a) (b) (g) ∧ pK X (X3) i))))))))))) ∧ ((¬ (¬ b = (-1))) → (((¬ g = 0) → ((-2) = rPool X i (a) (b) (g) ∧ pK X (X3) i)) ∧ ((¬ (¬ g = 0)) → ((oPo X3 i) ∧ (rI (mQn X3 i) → (mQn X3 i = rPool X i (a) (b) (g) ∧ pK X (X3) i)))))))) ∧ ((r4 = false) → ((-2) = rPool X i (a) (b) (g) ∧ pK X (X3) i)))))
set_option maxHeartbeats 4000000 in
set_option maxRecDepth 100000 in
theorem w_X11_pool {l : Launch} {D : va_G} {cy : Nat → ClassId} {bs N : Nat} {sa : Nat → Nat} {kd len : Nat → Nat} {X Y : Nat → Int → Int} {R : Nat → Int → Option Nat} {i : Nat} (hM : zM N kd len R i) (a : Int) (ha : rI a) (b : Int) (hb : rI b) (g : Int) (hg : rI g) (hF : F_X11_pool i X Y R a b g) : Met l yX11_pool (.code yX11_pool cX11_pool 4 (some .int) :: zTB) (zRm 3 65) (zPc D cy bs sa N kd len X Y R [.ref (bs + (i)), .int (zI (a)), .int (zI (b)), .int (zI (g))]) (zQi D cy bs N kd len (fun r st => st.2.1 = Y ∧ st.2.2 = R ∧ (r = rPool X i (a) (b) (g) ∧ pK X (st.1) i))) 0 0 (zA bs) := by
  refine zstart (by decide) (Nat.le_of_ble_eq_true rfl) ?_
  intro p e s m args below meth c ls C hE hH hr hlk hnm hl hargs
  have hF := hF hH.2.2.1 hH.2.2.2
  have hS : va_S (zA bs) s.heap s.heap [] := va_S.rf
  have hl : lv_has ls 4 [(0, .ref (bs + (i))), (1, .int (zI (a))), (2, .int (zI (b))), (3, .int (zI (g)))] := hl
  refine lv_aload_n C.1 C.2.1 dX11_pool_0 rfl (lv_at hl 0 rfl) ?_
  refine zd_iconst C dX11_pool_1 ?_
  refine zp11_0 C hH hS (zM_n0 hM) (zM_k0 hM) q_1287 (by decide) dX11_pool_2 (fun H locs hH hS => ?_)
  obtain ⟨X1, eX1⟩ : ∃ z, z = zU X (i) 0 (0) := ⟨_, rfl⟩
  rw [← eX1] at hH
  have hF := hF X1 eX1 hH.2.2.1
  refine lv_aload_n C.1 C.2.1 dX11_pool_5 rfl (lv_at hl 0 rfl) ?_
  refine lv_iload_n C.1 C.2.1 dX11_pool_6 rfl (lv_at hl 1 rfl) ?_
  obtain ⟨o2, hF⟩ := hF
  refine zgoi (zrunV (As := [.int (zI (a))]) (rest := []) C hE hH hS hl.1 (c_X11_hasPool (l := l) hM (a) ha o2) k_RX11_432 ⟨Nat.le_of_ble_eq_true rfl, Nat.le_of_ble_eq_true rfl⟩ (zM_n0 hM) (zM_k0 hM) rfl rfl rfl (Nat.le_of_ble_eq_true rfl) dX11_pool_7 ⟨Nat.zero_le _, Nat.zero_le _⟩) hS (fun rq X3 Yq Rq H locs hrq hq hH hS => ?_)
  obtain ⟨h9Y, h9R, hq⟩ := hq
  dsimp only at h9Y h9R
  rw [h9Y, h9R] at hH
  obtain ⟨r4, h91, hq⟩ := hq
  subst h91
  have hF := hF r4 X3 hH.2.2.1 hq
  refine zd_ifB_ne C 16 dX11_pool_10 (by decide) (fun c5 => ?_) (fun c5 => ?_)
  · have hF := hF.1 c5
    refine lv_iload_n C.1 C.2.1 dX11_pool_16 rfl (lv_at hl 2 rfl) ?_
    refine zd_iconst C dX11_pool_17 ?_
    refine zd_icmp_ne C hb (by decide) 35 dX11_pool_18 (by decide) (fun c6 => ?_) (fun c6 => ?_)
    · have hF := hF.1 c6
      refine lv_iload_n C.1 C.2.1 dX11_pool_35 rfl (lv_at hl 2 rfl) ?_
      refine zd_iconst C dX11_pool_36 ?_
      refine lv_aload_n C.1 C.2.1 dX11_pool_37 rfl (lv_at hl 0 rfl) ?_
      obtain ⟨o7, hF⟩ := hF
      refine zgoi (zrunV (As := []) (rest := [.int (zI (0)), .int (zI (b))]) C hE hH hS hl.1 (c_X11_allPays (l := l) hM  o7) k_RX11_435 ⟨Nat.le_of_ble_eq_true rfl, Nat.le_of_ble_eq_true rfl⟩ (zM_n0 hM) (zM_k0 hM) rfl rfl rfl (Nat.le_of_ble_eq_true rfl) dX11_pool_38 ⟨Nat.zero_le _, Nat.zero_le _⟩) hS (fun rq Xq Yq Rq H locs hrq hq hH hS => ?_)
      obtain ⟨h91, h92⟩ := hq
      have h93 : Xq = X3 := congrArg (fun z => z.1) h92
      have h94 : Yq = Y := congrArg (fun z => z.2.1) h92
      have h95 : Rq = R := congrArg (fun z => z.2.2) h92
      rw [h93, h94, h95] at hH
      subst h91
      have hr8 := hrq
      have hF := hF hr8
      refine zd_iconst C dX11_pool_41 ?_
      refine zd_isub C dX11_pool_42 ?_
      obtain ⟨o9, hF⟩ := hF
      refine zgoi (zrunS (As := [.int (zI (b)), .int (zI (0)), .int (zI ((mQn X3 i) - 1))]) (rest := []) C hE hH hS hl.1 (c_X11_in (l := l)  (b) hb (0) (by decide) ((mQn X3 i) - 1) o9) k_RX11_100 ⟨Nat.le_of_ble_eq_true rfl, Nat.le_of_ble_eq_true rfl⟩ rfl (Nat.le_of_ble_eq_true rfl) dX11_pool_43 ⟨Nat.zero_le _, Nat.zero_le _⟩) hS (fun rq Xq Yq Rq H locs hrq hq hH hS => ?_)
      obtain ⟨h91, h92⟩ := hq
      have h93 : Xq = X3 := congrArg (fun z => z.1) h92
      have h94 : Yq = Y := congrArg (fun z => z.2.1) h92
      have h95 : Rq = R := congrArg (fun z => z.2.2) h92
      rw [h93, h94, h95] at hH
      subst h91
      refine zd_ifB_eq C 67 dX11_pool_46 (by decide) (fun c10 => ?_) (fun c10 => ?_)
      · have hF := hF.1 c10
        refine zd_bipush C (by decide) dX11_pool_67 ?_
        exact zd_iret C hr hlk hH hS (by decide) (⟨rfl, rfl, hF⟩) dX11_pool_69
      · have hF := hF.2 c10
        refine lv_iload_n C.1 C.2.1 dX11_pool_49 rfl (lv_at hl 3 rfl) ?_
        refine zd_iconst C dX11_pool_50 ?_
        refine zd_iconst C dX11_pool_51 ?_
        refine zgoi (zrunS (As := [.int (zI (g)), .int (zI (0)), .int (zI (3))]) (rest := []) C hE hH hS hl.1 (c_X11_in (l := l)  (g) hg (0) (by decide) (3) (by decide)) k_RX11_100 ⟨Nat.le_of_ble_eq_true rfl, Nat.le_of_ble_eq_true rfl⟩ rfl (Nat.le_of_ble_eq_true rfl) dX11_pool_52 ⟨Nat.zero_le _, Nat.zero_le _⟩) hS (fun rq Xq Yq Rq H locs hrq hq hH hS => ?_)
        obtain ⟨h91, h92⟩ := hq
        have h93 : Xq = X3 := congrArg (fun z => z.1) h92
        have h94 : Yq = Y := congrArg (fun z => z.2.1) h92
        have h95 : Rq = R := congrArg (fun z => z.2.2) h92
        rw [h93, h94, h95] at hH
        subst h91
        refine zd_ifB_eq C 67 dX11_pool_55 (by decide) (fun c11 => ?_) (fun c11 => ?_)
        · have hF := hF.1 c11
          refine zd_bipush C (by decide) dX11_pool_67 ?_
          exact zd_iret C hr hlk hH hS (by decide) (⟨rfl, rfl, hF⟩) dX11_pool_69
        · have hF := hF.2 c11
          refine lv_aload_n C.1 C.2.1 dX11_pool_58 rfl (lv_at hl 0 rfl) ?_
          refine lv_iload_n C.1 C.2.1 dX11_pool_59 rfl (lv_at hl 2 rfl) ?_
          refine lv_iload_n C.1 C.2.1 dX11_pool_60 rfl (lv_at hl 3 rfl) ?_
          obtain ⟨o12, hF⟩ := hF
          refine zgoi (zrunV (As := [.int (zI (b)), .int (zI (g))]) (rest := []) C hE hH hS hl.1 (c_X11_payOf (l := l) hM (b) hb (g) hg o12) k_RX11_438 ⟨Nat.le_of_ble_eq_true rfl, Nat.le_of_ble_eq_true rfl⟩ (zM_n0 hM) (zM_k0 hM) rfl rfl rfl (Nat.le_of_ble_eq_true rfl) dX11_pool_61 ⟨Nat.zero_le _, Nat.zero_le _⟩) hS (fun rq Xq Yq Rq H locs hrq hq hH hS => ?_)
          obtain ⟨h91, h92⟩ := hq
          have h93 : Xq = X3 := congrArg (fun z => z.1) h92
          have h94 : Yq = Y := congrArg (fun z => z.2.1) h92
          have h95 : Rq = R := congrArg (fun z => z.2.2) h92
          rw [h93, h94, h95] at hH
          subst h91
          have hr13 := hrq
          have hF := hF hr13
          refine lv_goto (tgt := 69) C.1 C.2.1 dX11_pool_64 (by decide) ?_
          exact zd_iret C hr hlk hH hS hr13 (⟨rfl, rfl, hF⟩) dX11_pool_69
    · have hF := hF.2 c6
      refine lv_iload_n C.1 C.2.1 dX11_pool_21 rfl (lv_at hl 3 rfl) ?_
      refine zd_if_ne C hg 32 dX11_pool_22 (by decide) (fun c14 => ?_) (fun c14 => ?_)
      · have hF := hF.1 c14
        refine zd_bipush C (by decide) dX11_pool_32 ?_
        exact zd_iret C hr hlk hH hS (by decide) (⟨rfl, rfl, hF⟩) dX11_pool_34
      · have hF := hF.2 c14
        refine lv_aload_n C.1 C.2.1 dX11_pool_25 rfl (lv_at hl 0 rfl) ?_
        obtain ⟨o15, hF⟩ := hF
        refine zgoi (zrunV (As := []) (rest := []) C hE hH hS hl.1 (c_X11_allPays (l := l) hM  o15) k_RX11_435 ⟨Nat.le_of_ble_eq_true rfl, Nat.le_of_ble_eq_true rfl⟩ (zM_n0 hM) (zM_k0 hM) rfl rfl rfl (Nat.le_of_ble_eq_true rfl) dX11_pool_26 ⟨Nat.zero_le _, Nat.zero_le _⟩) hS (fun rq Xq Yq Rq H locs hrq hq hH hS => ?_)
        obtain ⟨h91, h92⟩ := hq
        have h93 : Xq = X3 := congrArg (fun z => z.1) h92
        have h94 : Yq = Y := congrArg (fun z => z.2.1) h92
        have h95 : Rq = R := congrArg (fun z => z.2.2) h92
        rw [h93, h94, h95] at hH
        subst h91
        have hr16 := hrq
        have hF := hF hr16
        refine lv_goto (tgt := 34) C.1 C.2.1 dX11_pool_29 (by decide) ?_
        exact zd_iret C hr hlk hH hS hr16 (⟨rfl, rfl, hF⟩) dX11_pool_34
  · have hF := hF.2 c5
    refine zd_bipush C (by decide) dX11_pool_13 ?_
    exact zd_iret C hr hlk hH hS (by decide) (⟨rfl, rfl, hF⟩) dX11_pool_15
theorem v_X11_pool {X Y : Nat → Int → Int} {R : Nat → Int → Option Nat} {i : Nat} (a : Int) (ha : rI a) (b : Int) (hb : rI b) (g : Int) (hg : rI g) (hp : oTN X i ∧ oTPo X i) : F_X11_pool i X Y R a b g := by
  unfold F_X11_pool
  intro hX hY X1 e1 xr1
  obtain ⟨hT, hG⟩ := hp
  have o1 : ∀ z, z ≠ i → X1 z = X z := fun z h => by rw [e1, zU_o h]
  have hb := hT.1 4 (by decide) (by decide)
  refine ⟨by rw [o1 _ (by omega)]; exact hb.1, fun r4 X3 xr3 h3 => ?_⟩
  obtain ⟨e4, e3⟩ := h3
  have em : mIs i X1 4 a = mIs i X 4 a := by
    unfold mIs
    rw [o1 _ (by omega)]
  rw [em] at e4
  have o3 : ∀ z, z ≠ i → X3 z = X z := fun z h => by rw [e3, zU_o h, o1 z h]
  have p3 : pK X X3 i := ⟨fun z h _ => o3 z h, by rw [e3, zU_n (by omega), e1, zU_s]⟩
  have s3 : X3 i 48 = a := by rw [e3, zU_s]
  refine ⟨fun c => ?_, fun c => ⟨by unfold rPool; rw [← e4, c]; rfl, p3⟩⟩
  rw [c] at e4
  have ha := mIs_t.mp e4.symm
  have fd : oPo X3 i := by
    show 0 ≤ X3 i 48 ∧ X3 i 48 ≤ 1
    rw [s3]
    exact ⟨by omega, by omega⟩
  have eN : mQn X3 i = X (i + 10) (25 * a) := by
    unfold mQn
    rw [s3, o3 _ (by omega)]
  have eF : ∀ k w, mQf X3 i k w = X (i + 10) (25 * a + 1 + 4 * k + w) := fun k w => by
    unfold mQf
    rw [s3, o3 _ (by omega)]
  rw [eN]
  have hv := (hG a ha.1 ha.2).1
  refine ⟨fun cb => ⟨fd, fun _ => ⟨⟨by omega, by omega⟩, fun cm => ⟨?_, p3⟩, fun cm => ⟨fun cg => ⟨?_, p3⟩, fun cg => ⟨⟨fd, ?_, ?_⟩, fun _ => ⟨?_, p3⟩⟩⟩⟩⟩, fun cb => ⟨fun cg => ⟨?_, p3⟩, fun cg => ⟨fd, fun _ => ⟨?_, p3⟩⟩⟩⟩
  · unfold rPool
    rw [← e4, if_pos rfl, if_neg cb, cm]
    rfl
  · unfold rPool
    rw [← e4, if_pos rfl, if_neg cb, cm, cg]
    rfl
  · have := mIn_t.mp cm
    exact ⟨by omega, by omega⟩
  · exact mIn_t.mp cg
  · unfold rPool
    rw [eF, ← e4, if_pos rfl, if_neg cb, cm, cg]
    rfl
  · unfold rPool
    rw [← e4, if_pos rfl, if_pos (by omega), if_neg cg]
  · unfold rPool
    rw [← e4, if_pos rfl, if_pos (by omega), if_pos (by omega)]
theorem c_X11_pool {l : Launch} {D : va_G} {cy : Nat → ClassId} {bs N : Nat} {sa : Nat → Nat} {kd len : Nat → Nat} {X Y : Nat → Int → Int} {R : Nat → Int → Option Nat} {i : Nat} (hM : zM N kd len R i) (a : Int) (ha : rI a) (b : Int) (hb : rI b) (g : Int) (hg : rI g) (hp : oTN X i ∧ oTPo X i) : Met l yX11_pool (.code yX11_pool cX11_pool 4 (some .int) :: zTB) (zRm 3 65) (zPc D cy bs sa N kd len X Y R [.ref (bs + (i)), .int (zI (a)), .int (zI (b)), .int (zI (g))]) (zQi D cy bs N kd len (fun r st => st.2.1 = Y ∧ st.2.2 = R ∧ (r = rPool X i (a) (b) (g) ∧ pK X (st.1) i))) 0 0 (zA bs) := w_X11_pool hM a ha b hb g hg (v_X11_pool a ha b hb g hg hp)
abbrev cX11_count : ByteArray := prog_13_method_137_code
def yX11_count : MethodName := ⟨RX11, "count", "(I)I"⟩
theorem dX11_count_0 : decode cX11_count 0 = .ok (.aload_n 0, 1) := by decide +kernel
theorem dX11_count_1 : decode cX11_count 1 = .ok (.iconst 0, 1) := by decide +kernel
theorem dX11_count_2 : decode cX11_count 2 = .ok (.putfield 88, 3) := by decide +kernel
theorem dX11_count_5 : decode cX11_count 5 = .ok (.iload_n 1, 1) := by decide +kernel
theorem dX11_count_6 : decode cX11_count 6 = .ok (.iconst 0, 1) := by decide +kernel
theorem dX11_count_7 : decode cX11_count 7 = .ok (.iconst 4, 1) := by decide +kernel
theorem dX11_count_8 : decode cX11_count 8 = .ok (.invokestatic 100, 3) := by decide +kernel
theorem dX11_count_11 : decode cX11_count 11 = .ok (.ifCond .eq 12, 3) := by decide +kernel
theorem dX11_count_14 : decode cX11_count 14 = .ok (.aload_n 0, 1) := by decide +kernel
theorem dX11_count_15 : decode cX11_count 15 = .ok (.getfield 23, 3) := by decide +kernel
theorem dX11_count_18 : decode cX11_count 18 = .ok (.iload_n 1, 1) := by decide +kernel
theorem dX11_count_19 : decode cX11_count 19 = .ok (.iaload, 1) := by decide +kernel
theorem dX11_count_20 : decode cX11_count 20 = .ok (.goto 5, 3) := by decide +kernel
theorem dX11_count_23 : decode cX11_count 23 = .ok (.bipush (-2), 2) := by decide +kernel
theorem dX11_count_25 : decode cX11_count 25 = .ok (.ireturn, 1) := by decide +kernel
def F_X11_count (i : Nat) (X Y : Nat → Int → Int) (R : Nat → Int → Option Nat) (a : Int) : Prop := (∀ i j, rI (X i j)) → (∀ i j, rL (Y i j)) → ∀ X1 : Nat → Int → Int, X1 = zU X (i) 0 (0) → (∀ i j, rI (X1 i j)) → ((((mIn (a) ((0 : Int)) ((4 : Int))) = false) → ((-2) = (if mIn (a) 0 4 then X (i + 5) (a) else -2) ∧ pK X (X1) i)) ∧ (((mIn (a) ((0 : Int)) ((4 : Int))) = true) → ((0 ≤ a ∧ a < 20) ∧ (X1 (i + 5) (a) = (if mIn (a) 0 4 then X (i + 5) (a) else -2) ∧ pK X (X1) i))))
set_option maxHeartbeats 4000000 in
set_option maxRecDepth 100000 in
theorem w_X11_count {l : Launch} {D : va_G} {cy : Nat → ClassId} {bs N : Nat} {sa : Nat → Nat} {kd len : Nat → Nat} {X Y : Nat → Int → Int} {R : Nat → Int → Option Nat} {i : Nat} (hM : zM N kd len R i) (a : Int) (ha : rI a) (hF : F_X11_count i X Y R a) : Met l yX11_count (.code yX11_count cX11_count 2 (some .int) :: zTB) (zRm 1 22) (zPc D cy bs sa N kd len X Y R [.ref (bs + (i)), .int (zI (a))]) (zQi D cy bs N kd len (fun r st => st.2.1 = Y ∧ st.2.2 = R ∧ (r = (if mIn (a) 0 4 then X (i + 5) (a) else -2) ∧ pK X (st.1) i))) 0 0 (zA bs) := by
  refine zstart (by decide) (Nat.le_of_ble_eq_true rfl) ?_
  intro p e s m args below meth c ls C hE hH hr hlk hnm hl hargs
  have hF := hF hH.2.2.1 hH.2.2.2
  have hS : va_S (zA bs) s.heap s.heap [] := va_S.rf
  have hl : lv_has ls 2 [(0, .ref (bs + (i))), (1, .int (zI (a)))] := hl
  refine lv_aload_n C.1 C.2.1 dX11_count_0 rfl (lv_at hl 0 rfl) ?_
  refine zd_iconst C dX11_count_1 ?_
  refine zp11_0 C hH hS (zM_n0 hM) (zM_k0 hM) q_1287 (by decide) dX11_count_2 (fun H locs hH hS => ?_)
  obtain ⟨X1, eX1⟩ : ∃ z, z = zU X (i) 0 (0) := ⟨_, rfl⟩
  rw [← eX1] at hH
  have hF := hF X1 eX1 hH.2.2.1
  refine lv_iload_n C.1 C.2.1 dX11_count_5 rfl (lv_at hl 1 rfl) ?_
  refine zd_iconst C dX11_count_6 ?_
  refine zd_iconst C dX11_count_7 ?_
  refine zgoi (zrunS (As := [.int (zI (a)), .int (zI (0)), .int (zI (4))]) (rest := []) C hE hH hS hl.1 (c_X11_in (l := l)  (a) ha (0) (by decide) (4) (by decide)) k_RX11_100 ⟨Nat.le_of_ble_eq_true rfl, Nat.le_of_ble_eq_true rfl⟩ rfl (Nat.le_of_ble_eq_true rfl) dX11_count_8 ⟨Nat.zero_le _, Nat.zero_le _⟩) hS (fun rq Xq Yq Rq H locs hrq hq hH hS => ?_)
  obtain ⟨h91, h92⟩ := hq
  have h93 : Xq = X1 := congrArg (fun z => z.1) h92
  have h94 : Yq = Y := congrArg (fun z => z.2.1) h92
  have h95 : Rq = R := congrArg (fun z => z.2.2) h92
  rw [h93, h94, h95] at hH
  subst h91
  refine zd_ifB_eq C 23 dX11_count_11 (by decide) (fun c2 => ?_) (fun c2 => ?_)
  · have hF := hF.1 c2
    refine zd_bipush C (by decide) dX11_count_23 ?_
    exact zd_iret C hr hlk hH hS (by decide) (⟨rfl, rfl, hF⟩) dX11_count_25
  · have hF := hF.2 c2
    refine lv_aload_n C.1 C.2.1 dX11_count_14 rfl (lv_at hl 0 rfl) ?_
    refine zg11_5 C hH (zM_n0 hM) (zM_k0 hM) q_1292 (zM_r5 hM) dX11_count_15 ?_
    refine lv_iload_n C.1 C.2.1 dX11_count_18 rfl (lv_at hl 1 rfl) ?_
    obtain ⟨o3, hF⟩ := hF
    refine zd_iald C hH (zM_n5 hM) (zM_k5 hM) o3.1 (by rw [zM_l5 hM]; exact o3.2) (by rw [zM_l5 hM]; decide) dX11_count_19 ?_
    refine lv_goto (tgt := 25) C.1 C.2.1 dX11_count_20 (by decide) ?_
    exact zd_iret C hr hlk hH hS (hH.2.2.1 _ _) (⟨rfl, rfl, hF⟩) dX11_count_25
theorem v_X11_count {X Y : Nat → Int → Int} {R : Nat → Int → Option Nat} {i : Nat} (a : Int) (ha : rI a) (hp : oTN X i) : F_X11_count i X Y R a := by
  unfold F_X11_count
  intro hX hY X1 e1 xr1
  have o1 : ∀ z, z ≠ i → X1 z = X z := fun z h => by rw [e1, zU_o h]
  have p : pK X X1 i := ⟨fun z h _ => o1 z h, by rw [e1, zU_s]⟩
  refine ⟨fun c => ⟨by rw [c]; rfl, p⟩, fun c => ⟨?_, ?_, p⟩⟩
  · have := mIn_t.mp c
    exact ⟨by omega, by omega⟩
  · rw [c, o1 _ (by omega)]
    rfl
theorem c_X11_count {l : Launch} {D : va_G} {cy : Nat → ClassId} {bs N : Nat} {sa : Nat → Nat} {kd len : Nat → Nat} {X Y : Nat → Int → Int} {R : Nat → Int → Option Nat} {i : Nat} (hM : zM N kd len R i) (a : Int) (ha : rI a) (hp : oTN X i) : Met l yX11_count (.code yX11_count cX11_count 2 (some .int) :: zTB) (zRm 1 22) (zPc D cy bs sa N kd len X Y R [.ref (bs + (i)), .int (zI (a))]) (zQi D cy bs N kd len (fun r st => st.2.1 = Y ∧ st.2.2 = R ∧ (r = (if mIn (a) 0 4 then X (i + 5) (a) else -2) ∧ pK X (st.1) i))) 0 0 (zA bs) := w_X11_count hM a ha (v_X11_count a ha hp)
