/-! DRAWS: sums that go over -/
def zW (z : Int) : Int := (zI z).toInt
theorem zI_zW (z : Int) : zI (zW z) = zI z := Int32.ofInt_toInt _
theorem zW_rg (z : Int) : rI (zW z) := zI_rg _
def drS (s : Int) : Int := zW (s * 1103515245 + 12345)
def drV (s n : Int) : Int := (zUsh (drS s) 16).tmod n
abbrev cX11_draw : ByteArray := prog_13_method_115_code
def yX11_draw : MethodName := ⟨RX11, "draw", "(I)I"⟩
theorem dX11_draw_0 : decode cX11_draw 0 = .ok (.aload_n 0, 1) := by decide +kernel
theorem dX11_draw_1 : decode cX11_draw 1 = .ok (.aload_n 0, 1) := by decide +kernel
theorem dX11_draw_2 : decode cX11_draw 2 = .ok (.getfield 537, 3) := by decide +kernel
theorem dX11_draw_5 : decode cX11_draw 5 = .ok (.ldc_w 540, 3) := by decide +kernel
theorem dX11_draw_8 : decode cX11_draw 8 = .ok (.imul, 1) := by decide +kernel
theorem dX11_draw_9 : decode cX11_draw 9 = .ok (.sipush 12345, 3) := by decide +kernel
theorem dX11_draw_12 : decode cX11_draw 12 = .ok (.iadd, 1) := by decide +kernel
theorem dX11_draw_13 : decode cX11_draw 13 = .ok (.putfield 537, 3) := by decide +kernel
theorem dX11_draw_16 : decode cX11_draw 16 = .ok (.aload_n 0, 1) := by decide +kernel
theorem dX11_draw_17 : decode cX11_draw 17 = .ok (.getfield 537, 3) := by decide +kernel
theorem dX11_draw_20 : decode cX11_draw 20 = .ok (.bipush 16, 2) := by decide +kernel
theorem dX11_draw_22 : decode cX11_draw 22 = .ok (.iushr, 1) := by decide +kernel
theorem dX11_draw_23 : decode cX11_draw 23 = .ok (.iload_n 1, 1) := by decide +kernel
theorem dX11_draw_24 : decode cX11_draw 24 = .ok (.irem, 1) := by decide +kernel
theorem dX11_draw_25 : decode cX11_draw 25 = .ok (.ireturn, 1) := by decide +kernel
theorem q_1351 : Cond.fieldLink RX11 537 RX11 "seed" "I" ∈ zTB := zmem 1351 (by decide +kernel) rfl
theorem q_1947 : Cond.constant RX11 540 (zI (1103515245)) ∈ zTB := zmem 1947 (by decide +kernel) rfl
def F_X11_draw (i : Nat) (X Y : Nat → Int → Int) (R : Nat → Int → Option Nat) (a : Int) : Prop := (∀ i j, rI (X i j)) → (∀ i j, rL (Y i j)) → ∀ X1 : Nat → Int → Int, X1 = zU X (i) 64 (zW (((X (i) 64) * (1103515245)) + 12345)) → (∀ i j, rI (X1 i j)) → ((a ≠ 0 ∧ a ≠ -1) ∧ ((zUsh (X1 (i) 64) (16)).tmod (a) = drV (X i 64) (a) ∧ (X1) = zU X i 64 (drS (X i 64))))
set_option maxHeartbeats 4000000 in
set_option maxRecDepth 100000 in
theorem w_X11_draw {l : Launch} {D : va_G} {cy : Nat → ClassId} {bs N : Nat} {sa : Nat → Nat} {kd len : Nat → Nat} {X Y : Nat → Int → Int} {R : Nat → Int → Option Nat} {i : Nat} (hM : zM N kd len R i) (a : Int) (ha : rI a) (hF : F_X11_draw i X Y R a) : Met l yX11_draw (.code yX11_draw cX11_draw 2 (some .int) :: zTB) (zRm 0 0) (zPc D cy bs sa N kd len X Y R [.ref (bs + (i)), .int (zI (a))]) (zQi D cy bs N kd len (fun r st => st.2.1 = Y ∧ st.2.2 = R ∧ (r = drV (X i 64) (a) ∧ (st.1) = zU X i 64 (drS (X i 64))))) 0 0 (zA bs) := by
  refine zstart (by decide) (Nat.le_of_ble_eq_true rfl) ?_
  intro p e s m args below meth c ls C hE hH hr hlk hnm hl hargs
  have hF := hF hH.2.2.1 hH.2.2.2
  have hS : va_S (zA bs) s.heap s.heap [] := va_S.rf
  have hl : lv_has ls 2 [(0, .ref (bs + (i))), (1, .int (zI (a)))] := hl
  refine lv_aload_n C.1 C.2.1 dX11_draw_0 rfl (lv_at hl 0 rfl) ?_
  refine lv_aload_n C.1 C.2.1 dX11_draw_1 rfl (lv_at hl 0 rfl) ?_
  refine zg11_64 C hH (zM_n0 hM) (zM_k0 hM) q_1351 dX11_draw_2 ?_
  refine lv_ldcw (v := zI (1103515245)) C.1 C.2.1 C.2.2.2.1 (C.2.2.2.2.1 _ q_1947) dX11_draw_5 ?_
  refine zd_imul C dX11_draw_8 ?_
  refine zd_sipush C (by decide) dX11_draw_9 ?_
  refine zd_iadd C dX11_draw_12 ?_
  rw [show zI (((X (i) 64) * (1103515245)) + 12345) = zI (zW (((X (i) 64) * (1103515245)) + 12345)) from (zI_zW _).symm]
  refine zp11_64 C hH hS (zM_n0 hM) (zM_k0 hM) q_1351 (zW_rg _) dX11_draw_13 (fun H locs hH hS => ?_)
  obtain ⟨X1, eX1⟩ : ∃ z, z = zU X (i) 64 (zW (((X (i) 64) * (1103515245)) + 12345)) := ⟨_, rfl⟩
  rw [← eX1] at hH
  have hF := hF X1 eX1 hH.2.2.1
  refine lv_aload_n C.1 C.2.1 dX11_draw_16 rfl (lv_at hl 0 rfl) ?_
  refine zg11_64 C hH (zM_n0 hM) (zM_k0 hM) q_1351 dX11_draw_17 ?_
  refine zd_bipush C (by decide) dX11_draw_20 ?_
  refine zd_iushr C dX11_draw_22 ?_
  refine lv_iload_n C.1 C.2.1 dX11_draw_23 rfl (lv_at hl 1 rfl) ?_
  obtain ⟨o2, hF⟩ := hF
  refine zd_irem C (zI_rg _) ha o2.1 o2.2 dX11_draw_24 ?_
  exact zd_iret C hr hlk hH hS (tmod_rI (zI_rg _) (show (a : Int) ≠ -1 from o2.2)) (⟨rfl, rfl, hF⟩) dX11_draw_25
theorem v_X11_draw {X Y : Nat → Int → Int} {R : Nat → Int → Option Nat} {i : Nat} (a : Int) (ha : rI a) (hp : 1 ≤ a) : F_X11_draw i X Y R a := by
  unfold F_X11_draw
  intro hX hY X1 e1 x1r
  rw [e1, zU_s]
  exact ⟨⟨by omega, by omega⟩, rfl, rfl⟩
theorem c_X11_draw {l : Launch} {D : va_G} {cy : Nat → ClassId} {bs N : Nat} {sa : Nat → Nat} {kd len : Nat → Nat} {X Y : Nat → Int → Int} {R : Nat → Int → Option Nat} {i : Nat} (hM : zM N kd len R i) (a : Int) (ha : rI a) (hp : 1 ≤ a) : Met l yX11_draw (.code yX11_draw cX11_draw 2 (some .int) :: zTB) (zRm 0 0) (zPc D cy bs sa N kd len X Y R [.ref (bs + (i)), .int (zI (a))]) (zQi D cy bs N kd len (fun r st => st.2.1 = Y ∧ st.2.2 = R ∧ (r = drV (X i 64) (a) ∧ (st.1) = zU X i 64 (drS (X i 64))))) 0 0 (zA bs) := w_X11_draw hM a ha (v_X11_draw a ha hp)
