/-- who is whole, since when -/
def bgW (X : Nat → Int → Int) (i : Nat) : Nat → Int → Int := zU (zU (zU X i 36 1) i 37 1) (i + 17) 0 0
def bcW (X : Nat → Int → Int) (i : Nat) (k : Int) : Nat → Int → Int := zU (zU (zU X i 36 (zOr (X i 36) (zShl 1 k))) (i + 17) k (X i 37)) i 37 (X i 37 + 1)
def mAhd (X : Nat → Int → Int) (i : Nat) (a b : Int) : Bool := if X i 29 = 0 then decide (X (i + 17) a < X (i + 17) b) else decide (a < b)
abbrev cX11_beginWhole : ByteArray := prog_13_method_54_code
def yX11_beginWhole : MethodName := ⟨RX11, "beginWhole", "()V"⟩
theorem dX11_beginWhole_0 : decode cX11_beginWhole 0 = .ok (.aload_n 0, 1) := by decide +kernel
theorem dX11_beginWhole_1 : decode cX11_beginWhole 1 = .ok (.iconst 1, 1) := by decide +kernel
theorem dX11_beginWhole_2 : decode cX11_beginWhole 2 = .ok (.putfield 322, 3) := by decide +kernel
theorem dX11_beginWhole_5 : decode cX11_beginWhole 5 = .ok (.aload_n 0, 1) := by decide +kernel
theorem dX11_beginWhole_6 : decode cX11_beginWhole 6 = .ok (.iconst 1, 1) := by decide +kernel
theorem dX11_beginWhole_7 : decode cX11_beginWhole 7 = .ok (.putfield 325, 3) := by decide +kernel
theorem dX11_beginWhole_10 : decode cX11_beginWhole 10 = .ok (.aload_n 0, 1) := by decide +kernel
theorem dX11_beginWhole_11 : decode cX11_beginWhole 11 = .ok (.getfield 60, 3) := by decide +kernel
theorem dX11_beginWhole_14 : decode cX11_beginWhole 14 = .ok (.iconst 0, 1) := by decide +kernel
theorem dX11_beginWhole_15 : decode cX11_beginWhole 15 = .ok (.iconst 0, 1) := by decide +kernel
theorem dX11_beginWhole_16 : decode cX11_beginWhole 16 = .ok (.iastore, 1) := by decide +kernel
theorem dX11_beginWhole_17 : decode cX11_beginWhole 17 = .ok (.return_, 1) := by decide +kernel
theorem q_1323 : Cond.fieldLink RX11 322 RX11 "whole" "I" ∈ zTB := zmem 1323 (by decide +kernel) rfl
theorem q_1324 : Cond.fieldLink RX11 325 RX11 "wholeMany" "I" ∈ zTB := zmem 1324 (by decide +kernel) rfl
theorem q_1325 : Cond.fieldLink RX11 60 RX11 "since" "[I" ∈ zTB := zmem 1325 (by decide +kernel) rfl
def F_X11_beginWhole (i : Nat) (X Y : Nat → Int → Int) (R : Nat → Int → Option Nat)  : Prop := (∀ i j, rI (X i j)) → (∀ i j, rL (Y i j)) → ∀ X1 : Nat → Int → Int, X1 = zU X (i) 36 (1) → (∀ i j, rI (X1 i j)) → (∀ X2 : Nat → Int → Int, X2 = zU X1 (i) 37 (1) → (∀ i j, rI (X2 i j)) → (∀ X3 : Nat → Int → Int, X3 = zU X2 (i + 17) (0) (0) → (∀ i j, rI (X3 i j)) → (X3 = bgW X i)))
set_option maxHeartbeats 4000000 in
set_option maxRecDepth 100000 in
theorem w_X11_beginWhole {l : Launch} {D : va_G} {cy : Nat → ClassId} {bs N : Nat} {sa : Nat → Nat} {kd len : Nat → Nat} {X Y : Nat → Int → Int} {R : Nat → Int → Option Nat} {i : Nat} (hM : zM N kd len R i)  (hF : F_X11_beginWhole i X Y R ) : Met l yX11_beginWhole (.code yX11_beginWhole cX11_beginWhole 1 none :: zTB) (zRm 0 0) (zPc D cy bs sa N kd len X Y R [.ref (bs + (i))]) (zQv D cy bs N kd len (fun st => st.2.1 = Y ∧ st.2.2 = R ∧ (st.1 = bgW X i))) 0 0 (zA bs) := by
  refine zstart (by decide) (Nat.le_of_ble_eq_true rfl) ?_
  intro p e s m args below meth c ls C hE hH hr hlk hnm hl hargs
  have hF := hF hH.2.2.1 hH.2.2.2
  have hS : va_S (zA bs) s.heap s.heap [] := va_S.rf
  have hl : lv_has ls 1 [(0, .ref (bs + (i)))] := hl
  refine lv_aload_n C.1 C.2.1 dX11_beginWhole_0 rfl (lv_at hl 0 rfl) ?_
  refine zd_iconst C dX11_beginWhole_1 ?_
  refine zp11_36 C hH hS (zM_n0 hM) (zM_k0 hM) q_1323 (by decide) dX11_beginWhole_2 (fun H locs hH hS => ?_)
  obtain ⟨X1, eX1⟩ : ∃ z, z = zU X (i) 36 (1) := ⟨_, rfl⟩
  rw [← eX1] at hH
  have hF := hF X1 eX1 hH.2.2.1
  refine lv_aload_n C.1 C.2.1 dX11_beginWhole_5 rfl (lv_at hl 0 rfl) ?_
  refine zd_iconst C dX11_beginWhole_6 ?_
  refine zp11_37 C hH hS (zM_n0 hM) (zM_k0 hM) q_1324 (by decide) dX11_beginWhole_7 (fun H locs hH hS => ?_)
  obtain ⟨X2, eX2⟩ : ∃ z, z = zU X1 (i) 37 (1) := ⟨_, rfl⟩
  rw [← eX2] at hH
  have hF := hF X2 eX2 hH.2.2.1
  refine lv_aload_n C.1 C.2.1 dX11_beginWhole_10 rfl (lv_at hl 0 rfl) ?_
  refine zg11_38 C hH (zM_n0 hM) (zM_k0 hM) q_1325 (zM_r17 hM) dX11_beginWhole_11 ?_
  refine zd_iconst C dX11_beginWhole_14 ?_
  refine zd_iconst C dX11_beginWhole_15 ?_
  refine zd_iast C hH hS (zM_n17 hM) (zM_k17 hM) (by decide) (by rw [zM_l17 hM]; decide) (by rw [zM_l17 hM]; decide) (by decide) dX11_beginWhole_16 (fun H locs hH hS => ?_)
  obtain ⟨X3, eX3⟩ : ∃ z, z = zU X2 (i + 17) (0) (0) := ⟨_, rfl⟩
  rw [← eX3] at hH
  have hF := hF X3 eX3 hH.2.2.1
  exact zd_vret C hr hlk hH hS (⟨rfl, rfl, hF⟩) dX11_beginWhole_17
theorem v_X11_beginWhole {X Y : Nat → Int → Int} {R : Nat → Int → Option Nat} {i : Nat}  : F_X11_beginWhole i X Y R  := by
  unfold F_X11_beginWhole
  intro hX hY X1 e1 r1 X2 e2 r2 X3 e3 r3
  unfold bgW
  rw [e3, e2, e1]
theorem c_X11_beginWhole {l : Launch} {D : va_G} {cy : Nat → ClassId} {bs N : Nat} {sa : Nat → Nat} {kd len : Nat → Nat} {X Y : Nat → Int → Int} {R : Nat → Int → Option Nat} {i : Nat} (hM : zM N kd len R i)  : Met l yX11_beginWhole (.code yX11_beginWhole cX11_beginWhole 1 none :: zTB) (zRm 0 0) (zPc D cy bs sa N kd len X Y R [.ref (bs + (i))]) (zQv D cy bs N kd len (fun st => st.2.1 = Y ∧ st.2.2 = R ∧ (st.1 = bgW X i))) 0 0 (zA bs) := w_X11_beginWhole hM  (v_X11_beginWhole )
abbrev cX11_becomesWhole : ByteArray := prog_13_method_55_code
def yX11_becomesWhole : MethodName := ⟨RX11, "becomesWhole", "(I)V"⟩
theorem dX11_becomesWhole_0 : decode cX11_becomesWhole 0 = .ok (.aload_n 0, 1) := by decide +kernel
theorem dX11_becomesWhole_1 : decode cX11_becomesWhole 1 = .ok (.dup, 1) := by decide +kernel
theorem dX11_becomesWhole_2 : decode cX11_becomesWhole 2 = .ok (.getfield 322, 3) := by decide +kernel
theorem dX11_becomesWhole_5 : decode cX11_becomesWhole 5 = .ok (.iconst 1, 1) := by decide +kernel
theorem dX11_becomesWhole_6 : decode cX11_becomesWhole 6 = .ok (.iload_n 1, 1) := by decide +kernel
theorem dX11_becomesWhole_7 : decode cX11_becomesWhole 7 = .ok (.ishl, 1) := by decide +kernel
theorem dX11_becomesWhole_8 : decode cX11_becomesWhole 8 = .ok (.ior, 1) := by decide +kernel
theorem dX11_becomesWhole_9 : decode cX11_becomesWhole 9 = .ok (.putfield 322, 3) := by decide +kernel
theorem dX11_becomesWhole_12 : decode cX11_becomesWhole 12 = .ok (.aload_n 0, 1) := by decide +kernel
theorem dX11_becomesWhole_13 : decode cX11_becomesWhole 13 = .ok (.getfield 60, 3) := by decide +kernel
theorem dX11_becomesWhole_16 : decode cX11_becomesWhole 16 = .ok (.iload_n 1, 1) := by decide +kernel
theorem dX11_becomesWhole_17 : decode cX11_becomesWhole 17 = .ok (.aload_n 0, 1) := by decide +kernel
theorem dX11_becomesWhole_18 : decode cX11_becomesWhole 18 = .ok (.getfield 325, 3) := by decide +kernel
theorem dX11_becomesWhole_21 : decode cX11_becomesWhole 21 = .ok (.iastore, 1) := by decide +kernel
theorem dX11_becomesWhole_22 : decode cX11_becomesWhole 22 = .ok (.aload_n 0, 1) := by decide +kernel
theorem dX11_becomesWhole_23 : decode cX11_becomesWhole 23 = .ok (.dup, 1) := by decide +kernel
theorem dX11_becomesWhole_24 : decode cX11_becomesWhole 24 = .ok (.getfield 325, 3) := by decide +kernel
theorem dX11_becomesWhole_27 : decode cX11_becomesWhole 27 = .ok (.iconst 1, 1) := by decide +kernel
theorem dX11_becomesWhole_28 : decode cX11_becomesWhole 28 = .ok (.iadd, 1) := by decide +kernel
theorem dX11_becomesWhole_29 : decode cX11_becomesWhole 29 = .ok (.putfield 325, 3) := by decide +kernel
theorem dX11_becomesWhole_32 : decode cX11_becomesWhole 32 = .ok (.return_, 1) := by decide +kernel
def F_X11_becomesWhole (i : Nat) (X Y : Nat → Int → Int) (R : Nat → Int → Option Nat) (a : Int) : Prop := (∀ i j, rI (X i j)) → (∀ i j, rL (Y i j)) → ∀ X1 : Nat → Int → Int, X1 = zU X (i) 36 (zOr (X (i) 36) (zShl (1) (a))) → (∀ i j, rI (X1 i j)) → ((0 ≤ a ∧ a < 15) ∧ (∀ X3 : Nat → Int → Int, X3 = zU X1 (i + 17) (a) (X1 (i) 37) → (∀ i j, rI (X3 i j)) → ((rI ((X3 (i) 37) + 1)) ∧ (∀ X5 : Nat → Int → Int, X5 = zU X3 (i) 37 ((X3 (i) 37) + 1) → (∀ i j, rI (X5 i j)) → (X5 = bcW X i (a))))))
set_option maxHeartbeats 4000000 in
set_option maxRecDepth 100000 in
theorem w_X11_becomesWhole {l : Launch} {D : va_G} {cy : Nat → ClassId} {bs N : Nat} {sa : Nat → Nat} {kd len : Nat → Nat} {X Y : Nat → Int → Int} {R : Nat → Int → Option Nat} {i : Nat} (hM : zM N kd len R i) (a : Int) (ha : rI a) (hF : F_X11_becomesWhole i X Y R a) : Met l yX11_becomesWhole (.code yX11_becomesWhole cX11_becomesWhole 2 none :: zTB) (zRm 0 0) (zPc D cy bs sa N kd len X Y R [.ref (bs + (i)), .int (zI (a))]) (zQv D cy bs N kd len (fun st => st.2.1 = Y ∧ st.2.2 = R ∧ (st.1 = bcW X i (a)))) 0 0 (zA bs) := by
  refine zstart (by decide) (Nat.le_of_ble_eq_true rfl) ?_
  intro p e s m args below meth c ls C hE hH hr hlk hnm hl hargs
  have hF := hF hH.2.2.1 hH.2.2.2
  have hS : va_S (zA bs) s.heap s.heap [] := va_S.rf
  have hl : lv_has ls 2 [(0, .ref (bs + (i))), (1, .int (zI (a)))] := hl
  refine lv_aload_n C.1 C.2.1 dX11_becomesWhole_0 rfl (lv_at hl 0 rfl) ?_
  refine lv_dup C.1 C.2.1 dX11_becomesWhole_1 rfl ?_
  refine zg11_36 C hH (zM_n0 hM) (zM_k0 hM) q_1323 dX11_becomesWhole_2 ?_
  refine zd_iconst C dX11_becomesWhole_5 ?_
  refine lv_iload_n C.1 C.2.1 dX11_becomesWhole_6 rfl (lv_at hl 1 rfl) ?_
  refine zd_ishl C dX11_becomesWhole_7 ?_
  refine zd_ior C dX11_becomesWhole_8 ?_
  refine zp11_36 C hH hS (zM_n0 hM) (zM_k0 hM) q_1323 (zI_rg _) dX11_becomesWhole_9 (fun H locs hH hS => ?_)
  obtain ⟨X1, eX1⟩ : ∃ z, z = zU X (i) 36 (zOr (X (i) 36) (zShl (1) (a))) := ⟨_, rfl⟩
  rw [← eX1] at hH
  have hF := hF X1 eX1 hH.2.2.1
  refine lv_aload_n C.1 C.2.1 dX11_becomesWhole_12 rfl (lv_at hl 0 rfl) ?_
  refine zg11_38 C hH (zM_n0 hM) (zM_k0 hM) q_1325 (zM_r17 hM) dX11_becomesWhole_13 ?_
  refine lv_iload_n C.1 C.2.1 dX11_becomesWhole_16 rfl (lv_at hl 1 rfl) ?_
  refine lv_aload_n C.1 C.2.1 dX11_becomesWhole_17 rfl (lv_at hl 0 rfl) ?_
  refine zg11_37 C hH (zM_n0 hM) (zM_k0 hM) q_1324 dX11_becomesWhole_18 ?_
  obtain ⟨o2, hF⟩ := hF
  refine zd_iast C hH hS (zM_n17 hM) (zM_k17 hM) o2.1 (by rw [zM_l17 hM]; exact o2.2) (by rw [zM_l17 hM]; decide) (hH.2.2.1 _ _) dX11_becomesWhole_21 (fun H locs hH hS => ?_)
  obtain ⟨X3, eX3⟩ : ∃ z, z = zU X1 (i + 17) (a) (X1 (i) 37) := ⟨_, rfl⟩
  rw [← eX3] at hH
  have hF := hF X3 eX3 hH.2.2.1
  refine lv_aload_n C.1 C.2.1 dX11_becomesWhole_22 rfl (lv_at hl 0 rfl) ?_
  refine lv_dup C.1 C.2.1 dX11_becomesWhole_23 rfl ?_
  refine zg11_37 C hH (zM_n0 hM) (zM_k0 hM) q_1324 dX11_becomesWhole_24 ?_
  refine zd_iconst C dX11_becomesWhole_27 ?_
  refine zd_iadd C dX11_becomesWhole_28 ?_
  obtain ⟨o4, hF⟩ := hF
  refine zp11_37 C hH hS (zM_n0 hM) (zM_k0 hM) q_1324 o4 dX11_becomesWhole_29 (fun H locs hH hS => ?_)
  obtain ⟨X5, eX5⟩ : ∃ z, z = zU X3 (i) 37 ((X3 (i) 37) + 1) := ⟨_, rfl⟩
  rw [← eX5] at hH
  have hF := hF X5 eX5 hH.2.2.1
  exact zd_vret C hr hlk hH hS (⟨rfl, rfl, hF⟩) dX11_becomesWhole_32
theorem v_X11_becomesWhole {X Y : Nat → Int → Int} {R : Nat → Int → Option Nat} {i : Nat} (a : Int) (ha : rI a) (hp : 0 ≤ a ∧ a ≤ 14 ∧ 0 ≤ X i 37 ∧ X i 37 ≤ 1000) : F_X11_becomesWhole i X Y R a := by
  unfold F_X11_becomesWhole
  intro hX hY X2 e2 r2
  refine ⟨⟨by omega, by omega⟩, fun X4 e4 r4 => ?_⟩
  have h37 : X2 i 37 = X i 37 := by rw [e2, zU_n (by omega)]
  have h37b : X4 i 37 = X i 37 := by rw [e4, zU_o (by omega), h37]
  rw [h37b]
  refine ⟨⟨by omega, by omega⟩, fun X6 e6 r6 => ?_⟩
  unfold bcW
  rw [e6, e4, e2, zU_n (by omega)]
theorem c_X11_becomesWhole {l : Launch} {D : va_G} {cy : Nat → ClassId} {bs N : Nat} {sa : Nat → Nat} {kd len : Nat → Nat} {X Y : Nat → Int → Int} {R : Nat → Int → Option Nat} {i : Nat} (hM : zM N kd len R i) (a : Int) (ha : rI a) (hp : 0 ≤ a ∧ a ≤ 14 ∧ 0 ≤ X i 37 ∧ X i 37 ≤ 1000) : Met l yX11_becomesWhole (.code yX11_becomesWhole cX11_becomesWhole 2 none :: zTB) (zRm 0 0) (zPc D cy bs sa N kd len X Y R [.ref (bs + (i)), .int (zI (a))]) (zQv D cy bs N kd len (fun st => st.2.1 = Y ∧ st.2.2 = R ∧ (st.1 = bcW X i (a)))) 0 0 (zA bs) := w_X11_becomesWhole hM a ha (v_X11_becomesWhole a ha hp)
abbrev cX11_isAhead : ByteArray := prog_13_method_56_code
def yX11_isAhead : MethodName := ⟨RX11, "isAhead", "(II)Z"⟩
theorem dX11_isAhead_0 : decode cX11_isAhead 0 = .ok (.aload_n 0, 1) := by decide +kernel
theorem dX11_isAhead_1 : decode cX11_isAhead 1 = .ok (.getfield 310, 3) := by decide +kernel
theorem dX11_isAhead_4 : decode cX11_isAhead 4 = .ok (.ifCond .ne 26, 3) := by decide +kernel
theorem dX11_isAhead_7 : decode cX11_isAhead 7 = .ok (.aload_n 0, 1) := by decide +kernel
theorem dX11_isAhead_8 : decode cX11_isAhead 8 = .ok (.getfield 60, 3) := by decide +kernel
theorem dX11_isAhead_11 : decode cX11_isAhead 11 = .ok (.iload_n 1, 1) := by decide +kernel
theorem dX11_isAhead_12 : decode cX11_isAhead 12 = .ok (.iaload, 1) := by decide +kernel
theorem dX11_isAhead_13 : decode cX11_isAhead 13 = .ok (.aload_n 0, 1) := by decide +kernel
theorem dX11_isAhead_14 : decode cX11_isAhead 14 = .ok (.getfield 60, 3) := by decide +kernel
theorem dX11_isAhead_17 : decode cX11_isAhead 17 = .ok (.iload_n 2, 1) := by decide +kernel
theorem dX11_isAhead_18 : decode cX11_isAhead 18 = .ok (.iaload, 1) := by decide +kernel
theorem dX11_isAhead_19 : decode cX11_isAhead 19 = .ok (.if_icmp .ge 7, 3) := by decide +kernel
theorem dX11_isAhead_22 : decode cX11_isAhead 22 = .ok (.iconst 1, 1) := by decide +kernel
theorem dX11_isAhead_23 : decode cX11_isAhead 23 = .ok (.goto 17, 3) := by decide +kernel
theorem dX11_isAhead_26 : decode cX11_isAhead 26 = .ok (.iconst 0, 1) := by decide +kernel
theorem dX11_isAhead_27 : decode cX11_isAhead 27 = .ok (.goto 13, 3) := by decide +kernel
theorem dX11_isAhead_30 : decode cX11_isAhead 30 = .ok (.iload_n 1, 1) := by decide +kernel
theorem dX11_isAhead_31 : decode cX11_isAhead 31 = .ok (.iload_n 2, 1) := by decide +kernel
theorem dX11_isAhead_32 : decode cX11_isAhead 32 = .ok (.if_icmp .ge 7, 3) := by decide +kernel
theorem dX11_isAhead_35 : decode cX11_isAhead 35 = .ok (.iconst 1, 1) := by decide +kernel
theorem dX11_isAhead_36 : decode cX11_isAhead 36 = .ok (.goto 4, 3) := by decide +kernel
theorem dX11_isAhead_39 : decode cX11_isAhead 39 = .ok (.iconst 0, 1) := by decide +kernel
theorem dX11_isAhead_40 : decode cX11_isAhead 40 = .ok (.ireturn, 1) := by decide +kernel
def F_X11_isAhead (i : Nat) (X Y : Nat → Int → Int) (R : Nat → Int → Option Nat) (a : Int) (b : Int) : Prop := (∀ i j, rI (X i j)) → (∀ i j, rL (Y i j)) → ((¬ (X (i) 29) = 0) → (((b ≤ a) → (0 = bz (mAhd X i (a) (b)))) ∧ ((¬ (b ≤ a)) → (1 = bz (mAhd X i (a) (b)))))) ∧ ((¬ (¬ (X (i) 29) = 0)) → ((0 ≤ a ∧ a < 15) ∧ ((0 ≤ b ∧ b < 15) ∧ ((((X (i + 17) (b)) ≤ (X (i + 17) (a))) → (0 = bz (mAhd X i (a) (b)))) ∧ ((¬ ((X (i + 17) (b)) ≤ (X (i + 17) (a)))) → (1 = bz (mAhd X i (a) (b))))))))
set_option maxHeartbeats 4000000 in
set_option maxRecDepth 100000 in
theorem w_X11_isAhead {l : Launch} {D : va_G} {cy : Nat → ClassId} {bs N : Nat} {sa : Nat → Nat} {kd len : Nat → Nat} {X Y : Nat → Int → Int} {R : Nat → Int → Option Nat} {i : Nat} (hM : zM N kd len R i) (a : Int) (ha : rI a) (b : Int) (hb : rI b) (hF : F_X11_isAhead i X Y R a b) : Met l yX11_isAhead (.code yX11_isAhead cX11_isAhead 3 (some .boolean) :: zTB) (zRm 0 0) (zPc D cy bs sa N kd len X Y R [.ref (bs + (i)), .int (zI (a)), .int (zI (b))]) (zQi D cy bs N kd len (fun r st => r = bz (mAhd X i (a) (b)) ∧ st = (X, Y, R))) 0 0 (zA bs) := by
  refine zstart (by decide) (Nat.le_of_ble_eq_true rfl) ?_
  intro p e s m args below meth c ls C hE hH hr hlk hnm hl hargs
  have hF := hF hH.2.2.1 hH.2.2.2
  have hS : va_S (zA bs) s.heap s.heap [] := va_S.rf
  have hl : lv_has ls 3 [(0, .ref (bs + (i))), (1, .int (zI (a))), (2, .int (zI (b)))] := hl
  refine lv_aload_n C.1 C.2.1 dX11_isAhead_0 rfl (lv_at hl 0 rfl) ?_
  refine zg11_29 C hH (zM_n0 hM) (zM_k0 hM) q_1316 dX11_isAhead_1 ?_
  refine zd_if_ne C (hH.2.2.1 _ _) 30 dX11_isAhead_4 (by decide) (fun c1 => ?_) (fun c1 => ?_)
  · have hF := hF.1 c1
    refine lv_iload_n C.1 C.2.1 dX11_isAhead_30 rfl (lv_at hl 1 rfl) ?_
    refine lv_iload_n C.1 C.2.1 dX11_isAhead_31 rfl (lv_at hl 2 rfl) ?_
    refine zd_icmp_ge C ha hb 39 dX11_isAhead_32 (by decide) (fun c2 => ?_) (fun c2 => ?_)
    · have hF := hF.1 c2
      refine zd_iconst C dX11_isAhead_39 ?_
      exact zd_zret C hr hlk hH hS (by decide) (⟨hF, rfl⟩) dX11_isAhead_40
    · have hF := hF.2 c2
      refine zd_iconst C dX11_isAhead_35 ?_
      refine lv_goto (tgt := 40) C.1 C.2.1 dX11_isAhead_36 (by decide) ?_
      exact zd_zret C hr hlk hH hS (by decide) (⟨hF, rfl⟩) dX11_isAhead_40
  · have hF := hF.2 c1
    refine lv_aload_n C.1 C.2.1 dX11_isAhead_7 rfl (lv_at hl 0 rfl) ?_
    refine zg11_38 C hH (zM_n0 hM) (zM_k0 hM) q_1325 (zM_r17 hM) dX11_isAhead_8 ?_
    refine lv_iload_n C.1 C.2.1 dX11_isAhead_11 rfl (lv_at hl 1 rfl) ?_
    obtain ⟨o3, hF⟩ := hF
    refine zd_iald C hH (zM_n17 hM) (zM_k17 hM) o3.1 (by rw [zM_l17 hM]; exact o3.2) (by rw [zM_l17 hM]; decide) dX11_isAhead_12 ?_
    refine lv_aload_n C.1 C.2.1 dX11_isAhead_13 rfl (lv_at hl 0 rfl) ?_
    refine zg11_38 C hH (zM_n0 hM) (zM_k0 hM) q_1325 (zM_r17 hM) dX11_isAhead_14 ?_
    refine lv_iload_n C.1 C.2.1 dX11_isAhead_17 rfl (lv_at hl 2 rfl) ?_
    obtain ⟨o4, hF⟩ := hF
    refine zd_iald C hH (zM_n17 hM) (zM_k17 hM) o4.1 (by rw [zM_l17 hM]; exact o4.2) (by rw [zM_l17 hM]; decide) dX11_isAhead_18 ?_
    refine zd_icmp_ge C (hH.2.2.1 _ _) (hH.2.2.1 _ _) 26 dX11_isAhead_19 (by decide) (fun c5 => ?_) (fun c5 => ?_)
    · have hF := hF.1 c5
      refine zd_iconst C dX11_isAhead_26 ?_
      refine lv_goto (tgt := 40) C.1 C.2.1 dX11_isAhead_27 (by decide) ?_
      exact zd_zret C hr hlk hH hS (by decide) (⟨hF, rfl⟩) dX11_isAhead_40
    · have hF := hF.2 c5
      refine zd_iconst C dX11_isAhead_22 ?_
      refine lv_goto (tgt := 40) C.1 C.2.1 dX11_isAhead_23 (by decide) ?_
      exact zd_zret C hr hlk hH hS (by decide) (⟨hF, rfl⟩) dX11_isAhead_40
theorem v_X11_isAhead {X Y : Nat → Int → Int} {R : Nat → Int → Option Nat} {i : Nat} (a : Int) (ha : rI a) (b : Int) (hb : rI b) (hp : (0 ≤ a ∧ a ≤ 14) ∧ (0 ≤ b ∧ b ≤ 14)) : F_X11_isAhead i X Y R a b := by
  unfold F_X11_isAhead mAhd bz
  intro hX hY
  repeat' first | apply And.intro | intro _
  all_goals first | omega | simp_all
theorem c_X11_isAhead {l : Launch} {D : va_G} {cy : Nat → ClassId} {bs N : Nat} {sa : Nat → Nat} {kd len : Nat → Nat} {X Y : Nat → Int → Int} {R : Nat → Int → Option Nat} {i : Nat} (hM : zM N kd len R i) (a : Int) (ha : rI a) (b : Int) (hb : rI b) (hp : (0 ≤ a ∧ a ≤ 14) ∧ (0 ≤ b ∧ b ≤ 14)) : Met l yX11_isAhead (.code yX11_isAhead cX11_isAhead 3 (some .boolean) :: zTB) (zRm 0 0) (zPc D cy bs sa N kd len X Y R [.ref (bs + (i)), .int (zI (a)), .int (zI (b))]) (zQi D cy bs N kd len (fun r st => r = bz (mAhd X i (a) (b)) ∧ st = (X, Y, R))) 0 0 (zA bs) := w_X11_isAhead hM a ha b hb (v_X11_isAhead a ha b hb hp)
/-- of those in w the one of most; of several the one that is ahead -/
def aHv (wt : Nat → Int) (w : Nat → Bool) (ah : Nat → Nat → Bool) : Nat → Nat
  | 0 => 0
  | n + 1 => if w n && (decide (wt (aHv wt w ah n) < wt n) || (decide (wt n = wt (aHv wt w ah n)) && ah n (aHv wt w ah n))) then n else aHv wt w ah n
theorem aHv_b {wt : Nat → Int} {w : Nat → Bool} {ah : Nat → Nat → Bool} : ∀ n, aHv wt w ah n ≤ n - 1
  | 0 => Nat.le_refl _
  | n + 1 => by
    have := aHv_b (wt := wt) (w := w) (ah := ah) n
    unfold aHv
    split
    · omega
    · omega
abbrev mWh (X : Nat → Int → Int) (i : Nat) : Nat → Bool := fun k => mHas (X i 36) k
abbrev mAh9 (X : Nat → Int → Int) (i : Nat) : Nat → Nat → Bool := fun a b => mAhd X i a b
def mHv (X Y : Nat → Int → Int) (i : Nat) : Nat → Nat := aHv (fun k => Y (i + 15) k) (mWh X i) (mAh9 X i)
theorem mAhd_0 {X : Nat → Int → Int} {i : Nat} {a : Int} : mAhd X i a a = false := by
  unfold mAhd
  split <;> exact decide_eq_false (Int.lt_irrefl _)
theorem mHv_1 {X Y : Nat → Int → Int} {i : Nat} : mHv X Y i 1 = 0 := by
  show (if _ then 0 else 0) = 0
  split <;> rfl
abbrev cX11_heaviest : ByteArray := prog_13_method_57_code
def yX11_heaviest : MethodName := ⟨RX11, "heaviest", "()I"⟩
theorem dX11_heaviest_0 : decode cX11_heaviest 0 = .ok (.iconst 0, 1) := by decide +kernel
theorem dX11_heaviest_1 : decode cX11_heaviest 1 = .ok (.istore_n 1, 1) := by decide +kernel
theorem dX11_heaviest_2 : decode cX11_heaviest 2 = .ok (.iconst 1, 1) := by decide +kernel
theorem dX11_heaviest_3 : decode cX11_heaviest 3 = .ok (.istore_n 2, 1) := by decide +kernel
theorem dX11_heaviest_4 : decode cX11_heaviest 4 = .ok (.iload_n 2, 1) := by decide +kernel
theorem dX11_heaviest_5 : decode cX11_heaviest 5 = .ok (.aload_n 0, 1) := by decide +kernel
theorem dX11_heaviest_6 : decode cX11_heaviest 6 = .ok (.getfield 255, 3) := by decide +kernel
theorem dX11_heaviest_9 : decode cX11_heaviest 9 = .ok (.if_icmp .ge 77, 3) := by decide +kernel
theorem dX11_heaviest_12 : decode cX11_heaviest 12 = .ok (.aload_n 0, 1) := by decide +kernel
theorem dX11_heaviest_13 : decode cX11_heaviest 13 = .ok (.getfield 54, 3) := by decide +kernel
theorem dX11_heaviest_16 : decode cX11_heaviest 16 = .ok (.iload_n 2, 1) := by decide +kernel
theorem dX11_heaviest_17 : decode cX11_heaviest 17 = .ok (.laload, 1) := by decide +kernel
theorem dX11_heaviest_18 : decode cX11_heaviest 18 = .ok (.aload_n 0, 1) := by decide +kernel
theorem dX11_heaviest_19 : decode cX11_heaviest 19 = .ok (.getfield 54, 3) := by decide +kernel
theorem dX11_heaviest_22 : decode cX11_heaviest 22 = .ok (.iload_n 1, 1) := by decide +kernel
theorem dX11_heaviest_23 : decode cX11_heaviest 23 = .ok (.laload, 1) := by decide +kernel
theorem dX11_heaviest_24 : decode cX11_heaviest 24 = .ok (.lcmp, 1) := by decide +kernel
theorem dX11_heaviest_25 : decode cX11_heaviest 25 = .ok (.ifCond .gt 28, 3) := by decide +kernel
theorem dX11_heaviest_28 : decode cX11_heaviest 28 = .ok (.aload_n 0, 1) := by decide +kernel
theorem dX11_heaviest_29 : decode cX11_heaviest 29 = .ok (.getfield 54, 3) := by decide +kernel
theorem dX11_heaviest_32 : decode cX11_heaviest 32 = .ok (.iload_n 2, 1) := by decide +kernel
theorem dX11_heaviest_33 : decode cX11_heaviest 33 = .ok (.laload, 1) := by decide +kernel
theorem dX11_heaviest_34 : decode cX11_heaviest 34 = .ok (.aload_n 0, 1) := by decide +kernel
theorem dX11_heaviest_35 : decode cX11_heaviest 35 = .ok (.getfield 54, 3) := by decide +kernel
theorem dX11_heaviest_38 : decode cX11_heaviest 38 = .ok (.iload_n 1, 1) := by decide +kernel
theorem dX11_heaviest_39 : decode cX11_heaviest 39 = .ok (.laload, 1) := by decide +kernel
theorem dX11_heaviest_40 : decode cX11_heaviest 40 = .ok (.lcmp, 1) := by decide +kernel
theorem dX11_heaviest_41 : decode cX11_heaviest 41 = .ok (.ifCond .ne 16, 3) := by decide +kernel
theorem dX11_heaviest_44 : decode cX11_heaviest 44 = .ok (.aload_n 0, 1) := by decide +kernel
theorem dX11_heaviest_45 : decode cX11_heaviest 45 = .ok (.iload_n 2, 1) := by decide +kernel
theorem dX11_heaviest_46 : decode cX11_heaviest 46 = .ok (.iload_n 1, 1) := by decide +kernel
theorem dX11_heaviest_47 : decode cX11_heaviest 47 = .ok (.invokevirtual 328, 3) := by decide +kernel
theorem dX11_heaviest_50 : decode cX11_heaviest 50 = .ok (.ifCond .eq 7, 3) := by decide +kernel
theorem dX11_heaviest_53 : decode cX11_heaviest 53 = .ok (.iconst 1, 1) := by decide +kernel
theorem dX11_heaviest_54 : decode cX11_heaviest 54 = .ok (.goto 4, 3) := by decide +kernel
theorem dX11_heaviest_57 : decode cX11_heaviest 57 = .ok (.iconst 0, 1) := by decide +kernel
theorem dX11_heaviest_58 : decode cX11_heaviest 58 = .ok (.istore_n 3, 1) := by decide +kernel
theorem dX11_heaviest_59 : decode cX11_heaviest 59 = .ok (.aload_n 0, 1) := by decide +kernel
theorem dX11_heaviest_60 : decode cX11_heaviest 60 = .ok (.getfield 322, 3) := by decide +kernel
theorem dX11_heaviest_63 : decode cX11_heaviest 63 = .ok (.iload_n 2, 1) := by decide +kernel
theorem dX11_heaviest_64 : decode cX11_heaviest 64 = .ok (.invokestatic 92, 3) := by decide +kernel
theorem dX11_heaviest_67 : decode cX11_heaviest 67 = .ok (.ifCond .eq 11, 3) := by decide +kernel
theorem dX11_heaviest_70 : decode cX11_heaviest 70 = .ok (.iload_n 3, 1) := by decide +kernel
theorem dX11_heaviest_71 : decode cX11_heaviest 71 = .ok (.ifCond .eq 7, 3) := by decide +kernel
theorem dX11_heaviest_74 : decode cX11_heaviest 74 = .ok (.iload_n 2, 1) := by decide +kernel
theorem dX11_heaviest_75 : decode cX11_heaviest 75 = .ok (.goto 4, 3) := by decide +kernel
theorem dX11_heaviest_78 : decode cX11_heaviest 78 = .ok (.iload_n 1, 1) := by decide +kernel
theorem dX11_heaviest_79 : decode cX11_heaviest 79 = .ok (.istore_n 1, 1) := by decide +kernel
theorem dX11_heaviest_80 : decode cX11_heaviest 80 = .ok (.iinc 2 1, 3) := by decide +kernel
theorem dX11_heaviest_83 : decode cX11_heaviest 83 = .ok (.goto (-79), 3) := by decide +kernel
theorem dX11_heaviest_86 : decode cX11_heaviest 86 = .ok (.iload_n 1, 1) := by decide +kernel
theorem dX11_heaviest_87 : decode cX11_heaviest 87 = .ok (.ireturn, 1) := by decide +kernel
theorem q_1740 : Cond.methodLink RX11 328 yX11_isAhead ∈ zTB := zmem 1740 (by decide +kernel) rfl
theorem q_1742 : Cond.instanceMethod yX11_isAhead ∈ zTB := zmem 1742 (by decide +kernel) rfl
theorem q_82 : Cond.selects RX11 yX11_isAhead yX11_isAhead ∈ zTB := zmem 82 (by decide +kernel) rfl
theorem q_1743 : Cond.code yX11_isAhead cX11_isAhead 3 (some .boolean) ∈ zTB := zmem 1743 (by decide +kernel) rfl
theorem k_RX11_328 : zLv RX11 328 RX11 yX11_isAhead cX11_isAhead 3 (some .boolean) 2 := ⟨⟨q_1740, q_1742, q_82, q_140, q_1743⟩, rfl, ⟨by decide, by decide⟩, by decide +kernel⟩
def F_X11_heaviest (i : Nat) (X Y : Nat → Int → Int) (R : Nat → Int → Option Nat)  : Prop := (∀ i j, rI (X i j)) → (∀ i j, rL (Y i j)) → (∃ q : Nat, (1 : Int) = q ∧ 1 ≤ q ∧ (1 : Int) ≤ X i 27 ∧ (0 : Int) = ((mHv X Y i q : Nat) : Int)) ∧ (∀ (best : Int) (k : Int), rI best → rI k → (∃ q : Nat, k = q ∧ 1 ≤ q ∧ k ≤ X i 27 ∧ best = ((mHv X Y i q : Nat) : Int)) → ((((X (i) 27) ≤ k) → (best = ((mHv X Y i (X i 27).toNat : Nat) : Int))) ∧ ((¬ ((X (i) 27) ≤ k)) → ((0 ≤ k ∧ k < 15) ∧ ((0 ≤ best ∧ best < 15) ∧ ((((Y (i + 15) (best)) < (Y (i + 15) (k))) → ((((mHas (X (i) 36) (k)) = false) → ((rI (k + 1)) ∧ (∃ q : Nat, k + 1 = q ∧ 1 ≤ q ∧ k + 1 ≤ X i 27 ∧ best = ((mHv X Y i q : Nat) : Int)) ∧ (((X i 27 - (k + 1)).toNat) < ((X i 27 - (k)).toNat)))) ∧ (((mHas (X (i) 36) (k)) = true) → ((rI (k + 1)) ∧ (∃ q : Nat, k + 1 = q ∧ 1 ≤ q ∧ k + 1 ≤ X i 27 ∧ k = ((mHv X Y i q : Nat) : Int)) ∧ (((X i 27 - (k + 1)).toNat) < ((X i 27 - (k)).toNat)))))) ∧ ((¬ ((Y (i + 15) (best)) < (Y (i + 15) (k)))) → ((0 ≤ k ∧ k < 15) ∧ ((0 ≤ best ∧ best < 15) ∧ (((¬ (Y (i + 15) (k)) = (Y (i + 15) (best))) → ((((mHas (X (i) 36) (k)) = false) → ((rI (k + 1)) ∧ (∃ q : Nat, k + 1 = q ∧ 1 ≤ q ∧ k + 1 ≤ X i 27 ∧ best = ((mHv X Y i q : Nat) : Int)) ∧ (((X i 27 - (k + 1)).toNat) < ((X i 27 - (k)).toNat)))) ∧ (((mHas (X (i) 36) (k)) = true) → ((rI (k + 1)) ∧ (∃ q : Nat, k + 1 = q ∧ 1 ≤ q ∧ k + 1 ≤ X i 27 ∧ best = ((mHv X Y i q : Nat) : Int)) ∧ (((X i 27 - (k + 1)).toNat) < ((X i 27 - (k)).toNat)))))) ∧ ((¬ (¬ (Y (i + 15) (k)) = (Y (i + 15) (best)))) → (((0 ≤ k ∧ k ≤ 14) ∧ (0 ≤ best ∧ best ≤ 14)) ∧ ((((mAhd X i (k) (best)) = false) → ((((mHas (X (i) 36) (k)) = false) → ((rI (k + 1)) ∧ (∃ q : Nat, k + 1 = q ∧ 1 ≤ q ∧ k + 1 ≤ X i 27 ∧ best = ((mHv X Y i q : Nat) : Int)) ∧ (((X i 27 - (k + 1)).toNat) < ((X i 27 - (k)).toNat)))) ∧ (((mHas (X (i) 36) (k)) = true) → ((rI (k + 1)) ∧ (∃ q : Nat, k + 1 = q ∧ 1 ≤ q ∧ k + 1 ≤ X i 27 ∧ best = ((mHv X Y i q : Nat) : Int)) ∧ (((X i 27 - (k + 1)).toNat) < ((X i 27 - (k)).toNat)))))) ∧ (((mAhd X i (k) (best)) = true) → ((((mHas (X (i) 36) (k)) = false) → ((rI (k + 1)) ∧ (∃ q : Nat, k + 1 = q ∧ 1 ≤ q ∧ k + 1 ≤ X i 27 ∧ best = ((mHv X Y i q : Nat) : Int)) ∧ (((X i 27 - (k + 1)).toNat) < ((X i 27 - (k)).toNat)))) ∧ (((mHas (X (i) 36) (k)) = true) → ((rI (k + 1)) ∧ (∃ q : Nat, k + 1 = q ∧ 1 ≤ q ∧ k + 1 ≤ X i 27 ∧ k = ((mHv X Y i q : Nat) : Int)) ∧ (((X i 27 - (k + 1)).toNat) < ((X i 27 - (k)).toNat)))))))))))))))))))
set_option maxHeartbeats 4000000 in
set_option maxRecDepth 100000 in
theorem w_X11_heaviest {l : Launch} {D : va_G} {cy : Nat → ClassId} {bs N : Nat} {sa : Nat → Nat} {kd len : Nat → Nat} {X Y : Nat → Int → Int} {R : Nat → Int → Option Nat} {i : Nat} (hM : zM N kd len R i)  (hF : F_X11_heaviest i X Y R ) : Met l yX11_heaviest (.code yX11_heaviest cX11_heaviest 4 (some .int) :: zTB) (zRm 1 22) (zPc D cy bs sa N kd len X Y R [.ref (bs + (i))]) (zQi D cy bs N kd len (fun r st => r = ((mHv X Y i (X i 27).toNat : Nat) : Int) ∧ st = (X, Y, R))) 0 0 (zA bs) := by
  refine zstart (by decide) (Nat.le_of_ble_eq_true rfl) ?_
  intro p e s m args below meth c ls C hE hH hr hlk hnm hl hargs
  have hF := hF hH.2.2.1 hH.2.2.2
  have hS : va_S (zA bs) s.heap s.heap [] := va_S.rf
  have hl : lv_has ls 4 [(0, .ref (bs + (i)))] := hl
  refine zd_iconst C dX11_heaviest_0 ?_
  refine lv_istore_n (lv' := [(1, .int (zI (0))), (0, .ref (bs + (i)))]) C.1 C.2.1 dX11_heaviest_1 rfl hl (by decide) rfl (fun ls hl => ?_)
  refine zd_iconst C dX11_heaviest_2 ?_
  refine lv_istore_n (lv' := [(2, .int (zI (1))), (1, .int (zI (0))), (0, .ref (bs + (i)))]) C.1 C.2.1 dX11_heaviest_3 rfl hl (by decide) rfl (fun ls hl => ?_)
  obtain ⟨hI1, hF⟩ := hF
  have L1 : ∀ (fu : Nat) (best : Int) (k : Int), rI best → rI k → (∃ q : Nat, k = q ∧ 1 ≤ q ∧ k ≤ X i 27 ∧ best = ((mHv X Y i q : Nat) : Int)) → ((X i 27 - (k)).toNat) < fu → ∀ (H : Heap) (locs : List Loc) (ls : Array Slot), zH D cy bs N kd len X Y R H → va_S (zA bs) s.heap H locs → lv_has ls 4 [(1, .int (zI (best))), (2, .int (zI (k))), (0, .ref (bs + (i)))] → W p l e (zRm 1 22) s m args below meth c H locs 0 0 (MQ below (zQi D cy bs N kd len (fun r st => r = ((mHv X Y i (X i 27).toNat : Nat) : Int) ∧ st = (X, Y, R))) args s 0 0 (zA bs)) (F0 m 4 ls []) := by
    intro fu
    induction fu with
    | zero => intro best k _ _ _ hmu; exact absurd hmu (Nat.not_lt_zero _)
    | succ fu ih1 =>
      intro best k hbest hk hI hmu1 H locs ls hH hS hl
      have hF := hF best k hbest hk  hI
      refine lv_iload_n C.1 C.2.1 dX11_heaviest_4 rfl (lv_at hl 1 rfl) ?_
      refine lv_aload_n C.1 C.2.1 dX11_heaviest_5 rfl (lv_at hl 2 rfl) ?_
      refine zg11_27 C hH (zM_n0 hM) (zM_k0 hM) q_1314 dX11_heaviest_6 ?_
      refine zd_icmp_ge C hk (hH.2.2.1 _ _) 86 dX11_heaviest_9 (by decide) (fun c2 => ?_) (fun c2 => ?_)
      · have hF := hF.1 c2
        refine lv_iload_n C.1 C.2.1 dX11_heaviest_86 rfl (lv_at hl 0 rfl) ?_
        exact zd_iret C hr hlk hH hS hbest (⟨hF, rfl⟩) dX11_heaviest_87
      · have hF := hF.2 c2
        refine lv_aload_n C.1 C.2.1 dX11_heaviest_12 rfl (lv_at hl 2 rfl) ?_
        refine zg11_33 C hH (zM_n0 hM) (zM_k0 hM) q_1320 (zM_r15 hM) dX11_heaviest_13 ?_
        refine lv_iload_n C.1 C.2.1 dX11_heaviest_16 rfl (lv_at hl 1 rfl) ?_
        obtain ⟨o3, hF⟩ := hF
        refine zd_lald C hH (zM_n15 hM) (zM_k15 hM) o3.1 (by rw [zM_l15 hM]; exact o3.2) (by rw [zM_l15 hM]; decide) dX11_heaviest_17 ?_
        refine lv_aload_n C.1 C.2.1 dX11_heaviest_18 rfl (lv_at hl 2 rfl) ?_
        refine zg11_33 C hH (zM_n0 hM) (zM_k0 hM) q_1320 (zM_r15 hM) dX11_heaviest_19 ?_
        refine lv_iload_n C.1 C.2.1 dX11_heaviest_22 rfl (lv_at hl 0 rfl) ?_
        obtain ⟨o4, hF⟩ := hF
        refine zd_lald C hH (zM_n15 hM) (zM_k15 hM) o4.1 (by rw [zM_l15 hM]; exact o4.2) (by rw [zM_l15 hM]; decide) dX11_heaviest_23 ?_
        refine zd_lcmp C (hH.2.2.2 _ _) (hH.2.2.2 _ _) dX11_heaviest_24 ?_
        refine zd_ifL_gt C 53 dX11_heaviest_25 (by decide) (fun c5 => ?_) (fun c5 => ?_)
        · have hF := hF.1 c5
          refine zd_iconst C dX11_heaviest_53 ?_
          refine lv_goto (tgt := 58) C.1 C.2.1 dX11_heaviest_54 (by decide) ?_
          refine lv_istore_n (lv' := [(3, .int (zI (1))), (1, .int (zI (best))), (2, .int (zI (k))), (0, .ref (bs + (i)))]) C.1 C.2.1 dX11_heaviest_58 rfl hl (by decide) rfl (fun ls hl => ?_)
          refine lv_aload_n C.1 C.2.1 dX11_heaviest_59 rfl (lv_at hl 3 rfl) ?_
          refine zg11_36 C hH (zM_n0 hM) (zM_k0 hM) q_1323 dX11_heaviest_60 ?_
          refine lv_iload_n C.1 C.2.1 dX11_heaviest_63 rfl (lv_at hl 2 rfl) ?_
          refine zgoi (zrunS (As := [.int (zI (X (i) 36)), .int (zI (k))]) (rest := []) C hE hH hS hl.1 (c_X11_has (l := l)  (X (i) 36) (hH.2.2.1 _ _) (k) hk) k_RX11_92 ⟨Nat.le_of_ble_eq_true rfl, Nat.le_of_ble_eq_true rfl⟩ rfl (Nat.le_of_ble_eq_true rfl) dX11_heaviest_64 ⟨Nat.zero_le _, Nat.zero_le _⟩) hS (fun rq Xq Yq Rq H locs hrq hq hH hS => ?_)
          obtain ⟨h91, h92⟩ := hq
          have h93 : Xq = X := congrArg (fun z => z.1) h92
          have h94 : Yq = Y := congrArg (fun z => z.2.1) h92
          have h95 : Rq = R := congrArg (fun z => z.2.2) h92
          rw [h93, h94, h95] at hH
          subst h91
          refine zd_ifB_eq C 78 dX11_heaviest_67 (by decide) (fun c6 => ?_) (fun c6 => ?_)
          · have hF := hF.1 c6
            refine lv_iload_n C.1 C.2.1 dX11_heaviest_78 rfl (lv_at hl 1 rfl) ?_
            refine lv_istore_n (lv' := [(1, .int (zI (best))), (3, .int (zI (1))), (2, .int (zI (k))), (0, .ref (bs + (i)))]) C.1 C.2.1 dX11_heaviest_79 rfl hl (by decide) rfl (fun ls hl => ?_)
            refine zd_iinc (k := 2) (lv' := [(2, .int (zI (k + 1))), (1, .int (zI (best))), (3, .int (zI (1))), (0, .ref (bs + (i)))]) C hl rfl dX11_heaviest_80 (by decide) rfl (fun ls hl => ?_)
            refine lv_goto (tgt := 4) C.1 C.2.1 dX11_heaviest_83 (by decide) ?_
            obtain ⟨o7, hF⟩ := hF
            exact ih1 (best) (k + 1) hbest o7 hF.1 (Nat.lt_of_lt_of_le hF.2 (Nat.le_of_lt_succ hmu1)) _ _ _ hH hS (lv_sub hl [1, 0, 3] rfl)
          · have hF := hF.2 c6
            refine lv_iload_n C.1 C.2.1 dX11_heaviest_70 rfl (lv_at hl 0 rfl) ?_
            refine zd_if_eq C (by decide) 78 dX11_heaviest_71 (by decide) (fun c8 => ?_) (fun c8 => ?_)
            · exact absurd c8 (by decide)
            · refine lv_iload_n C.1 C.2.1 dX11_heaviest_74 rfl (lv_at hl 2 rfl) ?_
              refine lv_goto (tgt := 79) C.1 C.2.1 dX11_heaviest_75 (by decide) ?_
              refine lv_istore_n (lv' := [(1, .int (zI (k))), (3, .int (zI (1))), (2, .int (zI (k))), (0, .ref (bs + (i)))]) C.1 C.2.1 dX11_heaviest_79 rfl hl (by decide) rfl (fun ls hl => ?_)
              refine zd_iinc (k := 2) (lv' := [(2, .int (zI (k + 1))), (1, .int (zI (k))), (3, .int (zI (1))), (0, .ref (bs + (i)))]) C hl rfl dX11_heaviest_80 (by decide) rfl (fun ls hl => ?_)
              refine lv_goto (tgt := 4) C.1 C.2.1 dX11_heaviest_83 (by decide) ?_
              obtain ⟨o9, hF⟩ := hF
              exact ih1 (k) (k + 1) hk o9 hF.1 (Nat.lt_of_lt_of_le hF.2 (Nat.le_of_lt_succ hmu1)) _ _ _ hH hS (lv_sub hl [1, 0, 3] rfl)
        · have hF := hF.2 c5
          refine lv_aload_n C.1 C.2.1 dX11_heaviest_28 rfl (lv_at hl 2 rfl) ?_
          refine zg11_33 C hH (zM_n0 hM) (zM_k0 hM) q_1320 (zM_r15 hM) dX11_heaviest_29 ?_
          refine lv_iload_n C.1 C.2.1 dX11_heaviest_32 rfl (lv_at hl 1 rfl) ?_
          obtain ⟨o10, hF⟩ := hF
          refine zd_lald C hH (zM_n15 hM) (zM_k15 hM) o10.1 (by rw [zM_l15 hM]; exact o10.2) (by rw [zM_l15 hM]; decide) dX11_heaviest_33 ?_
          refine lv_aload_n C.1 C.2.1 dX11_heaviest_34 rfl (lv_at hl 2 rfl) ?_
          refine zg11_33 C hH (zM_n0 hM) (zM_k0 hM) q_1320 (zM_r15 hM) dX11_heaviest_35 ?_
          refine lv_iload_n C.1 C.2.1 dX11_heaviest_38 rfl (lv_at hl 0 rfl) ?_
          obtain ⟨o11, hF⟩ := hF
          refine zd_lald C hH (zM_n15 hM) (zM_k15 hM) o11.1 (by rw [zM_l15 hM]; exact o11.2) (by rw [zM_l15 hM]; decide) dX11_heaviest_39 ?_
          refine zd_lcmp C (hH.2.2.2 _ _) (hH.2.2.2 _ _) dX11_heaviest_40 ?_
          refine zd_ifL_ne C 57 dX11_heaviest_41 (by decide) (fun c12 => ?_) (fun c12 => ?_)
          · have hF := hF.1 c12
            refine zd_iconst C dX11_heaviest_57 ?_
            refine lv_istore_n (lv' := [(3, .int (zI (0))), (1, .int (zI (best))), (2, .int (zI (k))), (0, .ref (bs + (i)))]) C.1 C.2.1 dX11_heaviest_58 rfl hl (by decide) rfl (fun ls hl => ?_)
            refine lv_aload_n C.1 C.2.1 dX11_heaviest_59 rfl (lv_at hl 3 rfl) ?_
            refine zg11_36 C hH (zM_n0 hM) (zM_k0 hM) q_1323 dX11_heaviest_60 ?_
            refine lv_iload_n C.1 C.2.1 dX11_heaviest_63 rfl (lv_at hl 2 rfl) ?_
            refine zgoi (zrunS (As := [.int (zI (X (i) 36)), .int (zI (k))]) (rest := []) C hE hH hS hl.1 (c_X11_has (l := l)  (X (i) 36) (hH.2.2.1 _ _) (k) hk) k_RX11_92 ⟨Nat.le_of_ble_eq_true rfl, Nat.le_of_ble_eq_true rfl⟩ rfl (Nat.le_of_ble_eq_true rfl) dX11_heaviest_64 ⟨Nat.zero_le _, Nat.zero_le _⟩) hS (fun rq Xq Yq Rq H locs hrq hq hH hS => ?_)
            obtain ⟨h91, h92⟩ := hq
            have h93 : Xq = X := congrArg (fun z => z.1) h92
            have h94 : Yq = Y := congrArg (fun z => z.2.1) h92
            have h95 : Rq = R := congrArg (fun z => z.2.2) h92
            rw [h93, h94, h95] at hH
            subst h91
            refine zd_ifB_eq C 78 dX11_heaviest_67 (by decide) (fun c13 => ?_) (fun c13 => ?_)
            · have hF := hF.1 c13
              refine lv_iload_n C.1 C.2.1 dX11_heaviest_78 rfl (lv_at hl 1 rfl) ?_
              refine lv_istore_n (lv' := [(1, .int (zI (best))), (3, .int (zI (0))), (2, .int (zI (k))), (0, .ref (bs + (i)))]) C.1 C.2.1 dX11_heaviest_79 rfl hl (by decide) rfl (fun ls hl => ?_)
              refine zd_iinc (k := 2) (lv' := [(2, .int (zI (k + 1))), (1, .int (zI (best))), (3, .int (zI (0))), (0, .ref (bs + (i)))]) C hl rfl dX11_heaviest_80 (by decide) rfl (fun ls hl => ?_)
              refine lv_goto (tgt := 4) C.1 C.2.1 dX11_heaviest_83 (by decide) ?_
              obtain ⟨o14, hF⟩ := hF
              exact ih1 (best) (k + 1) hbest o14 hF.1 (Nat.lt_of_lt_of_le hF.2 (Nat.le_of_lt_succ hmu1)) _ _ _ hH hS (lv_sub hl [1, 0, 3] rfl)
            · have hF := hF.2 c13
              refine lv_iload_n C.1 C.2.1 dX11_heaviest_70 rfl (lv_at hl 0 rfl) ?_
              refine zd_if_eq C (by decide) 78 dX11_heaviest_71 (by decide) (fun c15 => ?_) (fun c15 => ?_)
              · refine lv_iload_n C.1 C.2.1 dX11_heaviest_78 rfl (lv_at hl 1 rfl) ?_
                refine lv_istore_n (lv' := [(1, .int (zI (best))), (3, .int (zI (0))), (2, .int (zI (k))), (0, .ref (bs + (i)))]) C.1 C.2.1 dX11_heaviest_79 rfl hl (by decide) rfl (fun ls hl => ?_)
                refine zd_iinc (k := 2) (lv' := [(2, .int (zI (k + 1))), (1, .int (zI (best))), (3, .int (zI (0))), (0, .ref (bs + (i)))]) C hl rfl dX11_heaviest_80 (by decide) rfl (fun ls hl => ?_)
                refine lv_goto (tgt := 4) C.1 C.2.1 dX11_heaviest_83 (by decide) ?_
                obtain ⟨o16, hF⟩ := hF
                exact ih1 (best) (k + 1) hbest o16 hF.1 (Nat.lt_of_lt_of_le hF.2 (Nat.le_of_lt_succ hmu1)) _ _ _ hH hS (lv_sub hl [1, 0, 3] rfl)
              · exact absurd (by decide) c15
          · have hF := hF.2 c12
            refine lv_aload_n C.1 C.2.1 dX11_heaviest_44 rfl (lv_at hl 2 rfl) ?_
            refine lv_iload_n C.1 C.2.1 dX11_heaviest_45 rfl (lv_at hl 1 rfl) ?_
            refine lv_iload_n C.1 C.2.1 dX11_heaviest_46 rfl (lv_at hl 0 rfl) ?_
            obtain ⟨o17, hF⟩ := hF
            refine zgoi (zrunV (As := [.int (zI (k)), .int (zI (best))]) (rest := []) C hE hH hS hl.1 (c_X11_isAhead (l := l) hM (k) hk (best) hbest o17) k_RX11_328 ⟨Nat.le_of_ble_eq_true rfl, Nat.le_of_ble_eq_true rfl⟩ (zM_n0 hM) (zM_k0 hM) rfl rfl rfl (Nat.le_of_ble_eq_true rfl) dX11_heaviest_47 ⟨Nat.zero_le _, Nat.zero_le _⟩) hS (fun rq Xq Yq Rq H locs hrq hq hH hS => ?_)
            obtain ⟨h91, h92⟩ := hq
            have h93 : Xq = X := congrArg (fun z => z.1) h92
            have h94 : Yq = Y := congrArg (fun z => z.2.1) h92
            have h95 : Rq = R := congrArg (fun z => z.2.2) h92
            rw [h93, h94, h95] at hH
            subst h91
            refine zd_ifB_eq C 57 dX11_heaviest_50 (by decide) (fun c18 => ?_) (fun c18 => ?_)
            · have hF := hF.1 c18
              refine zd_iconst C dX11_heaviest_57 ?_
              refine lv_istore_n (lv' := [(3, .int (zI (0))), (1, .int (zI (best))), (2, .int (zI (k))), (0, .ref (bs + (i)))]) C.1 C.2.1 dX11_heaviest_58 rfl hl (by decide) rfl (fun ls hl => ?_)
              refine lv_aload_n C.1 C.2.1 dX11_heaviest_59 rfl (lv_at hl 3 rfl) ?_
              refine zg11_36 C hH (zM_n0 hM) (zM_k0 hM) q_1323 dX11_heaviest_60 ?_
              refine lv_iload_n C.1 C.2.1 dX11_heaviest_63 rfl (lv_at hl 2 rfl) ?_
              refine zgoi (zrunS (As := [.int (zI (X (i) 36)), .int (zI (k))]) (rest := []) C hE hH hS hl.1 (c_X11_has (l := l)  (X (i) 36) (hH.2.2.1 _ _) (k) hk) k_RX11_92 ⟨Nat.le_of_ble_eq_true rfl, Nat.le_of_ble_eq_true rfl⟩ rfl (Nat.le_of_ble_eq_true rfl) dX11_heaviest_64 ⟨Nat.zero_le _, Nat.zero_le _⟩) hS (fun rq Xq Yq Rq H locs hrq hq hH hS => ?_)
              obtain ⟨h91, h92⟩ := hq
              have h93 : Xq = X := congrArg (fun z => z.1) h92
              have h94 : Yq = Y := congrArg (fun z => z.2.1) h92
              have h95 : Rq = R := congrArg (fun z => z.2.2) h92
              rw [h93, h94, h95] at hH
              subst h91
              refine zd_ifB_eq C 78 dX11_heaviest_67 (by decide) (fun c19 => ?_) (fun c19 => ?_)
              · have hF := hF.1 c19
                refine lv_iload_n C.1 C.2.1 dX11_heaviest_78 rfl (lv_at hl 1 rfl) ?_
                refine lv_istore_n (lv' := [(1, .int (zI (best))), (3, .int (zI (0))), (2, .int (zI (k))), (0, .ref (bs + (i)))]) C.1 C.2.1 dX11_heaviest_79 rfl hl (by decide) rfl (fun ls hl => ?_)
                refine zd_iinc (k := 2) (lv' := [(2, .int (zI (k + 1))), (1, .int (zI (best))), (3, .int (zI (0))), (0, .ref (bs + (i)))]) C hl rfl dX11_heaviest_80 (by decide) rfl (fun ls hl => ?_)
                refine lv_goto (tgt := 4) C.1 C.2.1 dX11_heaviest_83 (by decide) ?_
                obtain ⟨o20, hF⟩ := hF
                exact ih1 (best) (k + 1) hbest o20 hF.1 (Nat.lt_of_lt_of_le hF.2 (Nat.le_of_lt_succ hmu1)) _ _ _ hH hS (lv_sub hl [1, 0, 3] rfl)
              · have hF := hF.2 c19
                refine lv_iload_n C.1 C.2.1 dX11_heaviest_70 rfl (lv_at hl 0 rfl) ?_
                refine zd_if_eq C (by decide) 78 dX11_heaviest_71 (by decide) (fun c21 => ?_) (fun c21 => ?_)
                · refine lv_iload_n C.1 C.2.1 dX11_heaviest_78 rfl (lv_at hl 1 rfl) ?_
                  refine lv_istore_n (lv' := [(1, .int (zI (best))), (3, .int (zI (0))), (2, .int (zI (k))), (0, .ref (bs + (i)))]) C.1 C.2.1 dX11_heaviest_79 rfl hl (by decide) rfl (fun ls hl => ?_)
                  refine zd_iinc (k := 2) (lv' := [(2, .int (zI (k + 1))), (1, .int (zI (best))), (3, .int (zI (0))), (0, .ref (bs + (i)))]) C hl rfl dX11_heaviest_80 (by decide) rfl (fun ls hl => ?_)
                  refine lv_goto (tgt := 4) C.1 C.2.1 dX11_heaviest_83 (by decide) ?_
                  obtain ⟨o22, hF⟩ := hF
                  exact ih1 (best) (k + 1) hbest o22 hF.1 (Nat.lt_of_lt_of_le hF.2 (Nat.le_of_lt_succ hmu1)) _ _ _ hH hS (lv_sub hl [1, 0, 3] rfl)
                · exact absurd (by decide) c21
            · have hF := hF.2 c18
              refine zd_iconst C dX11_heaviest_53 ?_
              refine lv_goto (tgt := 58) C.1 C.2.1 dX11_heaviest_54 (by decide) ?_
              refine lv_istore_n (lv' := [(3, .int (zI (1))), (1, .int (zI (best))), (2, .int (zI (k))), (0, .ref (bs + (i)))]) C.1 C.2.1 dX11_heaviest_58 rfl hl (by decide) rfl (fun ls hl => ?_)
              refine lv_aload_n C.1 C.2.1 dX11_heaviest_59 rfl (lv_at hl 3 rfl) ?_
              refine zg11_36 C hH (zM_n0 hM) (zM_k0 hM) q_1323 dX11_heaviest_60 ?_
              refine lv_iload_n C.1 C.2.1 dX11_heaviest_63 rfl (lv_at hl 2 rfl) ?_
              refine zgoi (zrunS (As := [.int (zI (X (i) 36)), .int (zI (k))]) (rest := []) C hE hH hS hl.1 (c_X11_has (l := l)  (X (i) 36) (hH.2.2.1 _ _) (k) hk) k_RX11_92 ⟨Nat.le_of_ble_eq_true rfl, Nat.le_of_ble_eq_true rfl⟩ rfl (Nat.le_of_ble_eq_true rfl) dX11_heaviest_64 ⟨Nat.zero_le _, Nat.zero_le _⟩) hS (fun rq Xq Yq Rq H locs hrq hq hH hS => ?_)
              obtain ⟨h91, h92⟩ := hq
              have h93 : Xq = X := congrArg (fun z => z.1) h92
              have h94 : Yq = Y := congrArg (fun z => z.2.1) h92
              have h95 : Rq = R := congrArg (fun z => z.2.2) h92
              rw [h93, h94, h95] at hH
              subst h91
              refine zd_ifB_eq C 78 dX11_heaviest_67 (by decide) (fun c23 => ?_) (fun c23 => ?_)
              · have hF := hF.1 c23
                refine lv_iload_n C.1 C.2.1 dX11_heaviest_78 rfl (lv_at hl 1 rfl) ?_
                refine lv_istore_n (lv' := [(1, .int (zI (best))), (3, .int (zI (1))), (2, .int (zI (k))), (0, .ref (bs + (i)))]) C.1 C.2.1 dX11_heaviest_79 rfl hl (by decide) rfl (fun ls hl => ?_)
                refine zd_iinc (k := 2) (lv' := [(2, .int (zI (k + 1))), (1, .int (zI (best))), (3, .int (zI (1))), (0, .ref (bs + (i)))]) C hl rfl dX11_heaviest_80 (by decide) rfl (fun ls hl => ?_)
                refine lv_goto (tgt := 4) C.1 C.2.1 dX11_heaviest_83 (by decide) ?_
                obtain ⟨o24, hF⟩ := hF
                exact ih1 (best) (k + 1) hbest o24 hF.1 (Nat.lt_of_lt_of_le hF.2 (Nat.le_of_lt_succ hmu1)) _ _ _ hH hS (lv_sub hl [1, 0, 3] rfl)
              · have hF := hF.2 c23
                refine lv_iload_n C.1 C.2.1 dX11_heaviest_70 rfl (lv_at hl 0 rfl) ?_
                refine zd_if_eq C (by decide) 78 dX11_heaviest_71 (by decide) (fun c25 => ?_) (fun c25 => ?_)
                · exact absurd c25 (by decide)
                · refine lv_iload_n C.1 C.2.1 dX11_heaviest_74 rfl (lv_at hl 2 rfl) ?_
                  refine lv_goto (tgt := 79) C.1 C.2.1 dX11_heaviest_75 (by decide) ?_
                  refine lv_istore_n (lv' := [(1, .int (zI (k))), (3, .int (zI (1))), (2, .int (zI (k))), (0, .ref (bs + (i)))]) C.1 C.2.1 dX11_heaviest_79 rfl hl (by decide) rfl (fun ls hl => ?_)
                  refine zd_iinc (k := 2) (lv' := [(2, .int (zI (k + 1))), (1, .int (zI (k))), (3, .int (zI (1))), (0, .ref (bs + (i)))]) C hl rfl dX11_heaviest_80 (by decide) rfl (fun ls hl => ?_)
                  refine lv_goto (tgt := 4) C.1 C.2.1 dX11_heaviest_83 (by decide) ?_
                  obtain ⟨o26, hF⟩ := hF
                  exact ih1 (k) (k + 1) hk o26 hF.1 (Nat.lt_of_lt_of_le hF.2 (Nat.le_of_lt_succ hmu1)) _ _ _ hH hS (lv_sub hl [1, 0, 3] rfl)
  exact L1 (((X i 27 - ((1 : Int))).toNat) + 1) ((0 : Int)) ((1 : Int)) (by decide) (by decide) hI1 (Nat.lt_succ_self _) _ _ _ hH hS (lv_sub hl [1, 0, 2] rfl)
theorem v_X11_heaviest {X Y : Nat → Int → Int} {R : Nat → Int → Option Nat} {i : Nat}  (hp : 1 ≤ X i 27 ∧ X i 27 ≤ 15) : F_X11_heaviest i X Y R  := by
  unfold F_X11_heaviest
  intro hX hY
  refine ⟨⟨1, rfl, by decide, hp.1, by rw [mHv_1]; rfl⟩, ?_⟩
  rintro best k rb rk ⟨q, rfl, h1, h2, rfl⟩
  have hb := aHv_b (wt := fun k => Y (i + 15) k) (w := mWh X i) (ah := mAh9 X i) q
  have hb : mHv X Y i q ≤ q - 1 := hb
  have es : mHv X Y i (q + 1) = if mHas (X i 36) q && (decide (Y (i + 15) (mHv X Y i q) < Y (i + 15) q) || (decide (Y (i + 15) q = Y (i + 15) (mHv X Y i q)) && mAhd X i q (mHv X Y i q))) then q else mHv X Y i q := rfl
  have fin : ∀ r : Nat, mHv X Y i (q + 1) = r → ¬ X i 27 ≤ q → (rI ((q : Int) + 1)) ∧ (∃ z : Nat, (q : Int) + 1 = z ∧ 1 ≤ z ∧ (q : Int) + 1 ≤ X i 27 ∧ (r : Int) = ((mHv X Y i z : Nat) : Int)) ∧ ((X i 27 - ((q : Int) + 1)).toNat < (X i 27 - q).toNat) := fun r hr h => ⟨⟨by omega, by omega⟩, ⟨q + 1, by omega, by omega, by omega, by rw [hr]⟩, by omega⟩
  refine ⟨fun h => by rw [show (X i 27).toNat = q by omega], fun h => ⟨⟨by omega, by omega⟩, ⟨by omega, by omega⟩, fun c1 => ?_, fun c1 => ?_⟩⟩
  · refine ⟨fun g => ?_, fun g => ?_⟩
    · exact fin _ (by rw [es, g]; rfl) h
    · exact fin _ (by rw [es, g, decide_eq_true c1]; rfl) h
  · refine ⟨⟨by omega, by omega⟩, ⟨by omega, by omega⟩, fun c2 => ?_, fun c2 => ?_⟩
    · refine ⟨fun g => ?_, fun g => ?_⟩
      · exact fin _ (by rw [es, g]; rfl) h
      · exact fin _ (by rw [es, decide_eq_false c1, decide_eq_false c2, Bool.false_and, Bool.or_false, Bool.and_false]; rfl) h
    · refine ⟨⟨⟨by omega, by omega⟩, ⟨by omega, by omega⟩⟩, fun c3 => ?_, fun c3 => ?_⟩
      · refine ⟨fun g => ?_, fun g => ?_⟩
        · exact fin _ (by rw [es, g]; rfl) h
        · exact fin _ (by rw [es, decide_eq_false c1, c3, Bool.and_false, Bool.or_false, Bool.and_false]; rfl) h
      · refine ⟨fun g => ?_, fun g => ?_⟩
        · exact fin _ (by rw [es, g]; rfl) h
        · exact fin _ (by rw [es, g, c3, decide_eq_true (Decidable.not_not.mp c2), Bool.and_true, Bool.or_true]; rfl) h
theorem c_X11_heaviest {l : Launch} {D : va_G} {cy : Nat → ClassId} {bs N : Nat} {sa : Nat → Nat} {kd len : Nat → Nat} {X Y : Nat → Int → Int} {R : Nat → Int → Option Nat} {i : Nat} (hM : zM N kd len R i)  (hp : 1 ≤ X i 27 ∧ X i 27 ≤ 15) : Met l yX11_heaviest (.code yX11_heaviest cX11_heaviest 4 (some .int) :: zTB) (zRm 1 22) (zPc D cy bs sa N kd len X Y R [.ref (bs + (i))]) (zQi D cy bs N kd len (fun r st => r = ((mHv X Y i (X i 27).toNat : Nat) : Int) ∧ st = (X, Y, R))) 0 0 (zA bs) := w_X11_heaviest hM  (v_X11_heaviest  hp)
