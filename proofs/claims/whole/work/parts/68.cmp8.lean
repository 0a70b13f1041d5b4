/-! COPIES OF BLOCKS AND ROWS -/
abbrev cX0_copy : ByteArray := prog_2_method_2_code
def yX0_copy : MethodName := ⟨RX0, "copy", "(LWorkChains$Blocks;)V"⟩
theorem dX0_copy_0 : decode cX0_copy 0 = .ok (.aload_n 0, 1) := by decide +kernel
theorem dX0_copy_1 : decode cX0_copy 1 = .ok (.aload_n 1, 1) := by decide +kernel
theorem dX0_copy_2 : decode cX0_copy 2 = .ok (.getfield 27, 3) := by decide +kernel
theorem dX0_copy_5 : decode cX0_copy 5 = .ok (.putfield 27, 3) := by decide +kernel
theorem dX0_copy_8 : decode cX0_copy 8 = .ok (.aload_n 1, 1) := by decide +kernel
theorem dX0_copy_9 : decode cX0_copy 9 = .ok (.getfield 9, 3) := by decide +kernel
theorem dX0_copy_12 : decode cX0_copy 12 = .ok (.iconst 0, 1) := by decide +kernel
theorem dX0_copy_13 : decode cX0_copy 13 = .ok (.aload_n 0, 1) := by decide +kernel
theorem dX0_copy_14 : decode cX0_copy 14 = .ok (.getfield 9, 3) := by decide +kernel
theorem dX0_copy_17 : decode cX0_copy 17 = .ok (.iconst 0, 1) := by decide +kernel
theorem dX0_copy_18 : decode cX0_copy 18 = .ok (.bipush 15, 2) := by decide +kernel
theorem dX0_copy_20 : decode cX0_copy 20 = .ok (.invokestatic 31, 3) := by decide +kernel
theorem dX0_copy_23 : decode cX0_copy 23 = .ok (.aload_n 1, 1) := by decide +kernel
theorem dX0_copy_24 : decode cX0_copy 24 = .ok (.getfield 15, 3) := by decide +kernel
theorem dX0_copy_27 : decode cX0_copy 27 = .ok (.iconst 0, 1) := by decide +kernel
theorem dX0_copy_28 : decode cX0_copy 28 = .ok (.aload_n 0, 1) := by decide +kernel
theorem dX0_copy_29 : decode cX0_copy 29 = .ok (.getfield 15, 3) := by decide +kernel
theorem dX0_copy_32 : decode cX0_copy 32 = .ok (.iconst 0, 1) := by decide +kernel
theorem dX0_copy_33 : decode cX0_copy 33 = .ok (.bipush 15, 2) := by decide +kernel
theorem dX0_copy_35 : decode cX0_copy 35 = .ok (.invokestatic 31, 3) := by decide +kernel
theorem dX0_copy_38 : decode cX0_copy 38 = .ok (.aload_n 1, 1) := by decide +kernel
theorem dX0_copy_39 : decode cX0_copy 39 = .ok (.getfield 18, 3) := by decide +kernel
theorem dX0_copy_42 : decode cX0_copy 42 = .ok (.iconst 0, 1) := by decide +kernel
theorem dX0_copy_43 : decode cX0_copy 43 = .ok (.aload_n 0, 1) := by decide +kernel
theorem dX0_copy_44 : decode cX0_copy 44 = .ok (.getfield 18, 3) := by decide +kernel
theorem dX0_copy_47 : decode cX0_copy 47 = .ok (.iconst 0, 1) := by decide +kernel
theorem dX0_copy_48 : decode cX0_copy 48 = .ok (.bipush 15, 2) := by decide +kernel
theorem dX0_copy_50 : decode cX0_copy 50 = .ok (.invokestatic 31, 3) := by decide +kernel
theorem dX0_copy_53 : decode cX0_copy 53 = .ok (.aload_n 1, 1) := by decide +kernel
theorem dX0_copy_54 : decode cX0_copy 54 = .ok (.getfield 21, 3) := by decide +kernel
theorem dX0_copy_57 : decode cX0_copy 57 = .ok (.iconst 0, 1) := by decide +kernel
theorem dX0_copy_58 : decode cX0_copy 58 = .ok (.aload_n 0, 1) := by decide +kernel
theorem dX0_copy_59 : decode cX0_copy 59 = .ok (.getfield 21, 3) := by decide +kernel
theorem dX0_copy_62 : decode cX0_copy 62 = .ok (.iconst 0, 1) := by decide +kernel
theorem dX0_copy_63 : decode cX0_copy 63 = .ok (.bipush 15, 2) := by decide +kernel
theorem dX0_copy_65 : decode cX0_copy 65 = .ok (.invokestatic 31, 3) := by decide +kernel
theorem dX0_copy_68 : decode cX0_copy 68 = .ok (.aload_n 1, 1) := by decide +kernel
theorem dX0_copy_69 : decode cX0_copy 69 = .ok (.getfield 24, 3) := by decide +kernel
theorem dX0_copy_72 : decode cX0_copy 72 = .ok (.iconst 0, 1) := by decide +kernel
theorem dX0_copy_73 : decode cX0_copy 73 = .ok (.aload_n 0, 1) := by decide +kernel
theorem dX0_copy_74 : decode cX0_copy 74 = .ok (.getfield 24, 3) := by decide +kernel
theorem dX0_copy_77 : decode cX0_copy 77 = .ok (.iconst 0, 1) := by decide +kernel
theorem dX0_copy_78 : decode cX0_copy 78 = .ok (.aload_n 0, 1) := by decide +kernel
theorem dX0_copy_79 : decode cX0_copy 79 = .ok (.getfield 24, 3) := by decide +kernel
theorem dX0_copy_82 : decode cX0_copy 82 = .ok (.arraylength, 1) := by decide +kernel
theorem dX0_copy_83 : decode cX0_copy 83 = .ok (.invokestatic 31, 3) := by decide +kernel
theorem dX0_copy_86 : decode cX0_copy 86 = .ok (.return_, 1) := by decide +kernel
theorem q_798 : Cond.methodLink RX0 31 arraycopyName ∈ zTB := zmem 798 (by decide +kernel) rfl
def F_X0_copy (i j : Nat) (X Y : Nat → Int → Int) (R : Nat → Int → Option Nat)  : Prop := (∀ i j, rI (X i j)) → (∀ i j, rL (Y i j)) → ∀ X1 : Nat → Int → Int, X1 = zU X (i) 0 (X (j) 0) → (∀ i j, rI (X1 i j)) → (((0 ≤ (0 : Int) ∧ 0 ≤ (0 : Int) ∧ 0 ≤ (15 : Int)) ∧ (0 : Int) + 15 ≤ 15 ∧ (0 : Int) + 15 ≤ 15) ∧ (∀ X3 : Nat → Int → Int, X3 = zCp X1 (j + 1) (i + 1) 0 0 15 → (∀ i j, rI (X3 i j)) → (((0 ≤ (0 : Int) ∧ 0 ≤ (0 : Int) ∧ 0 ≤ (15 : Int)) ∧ (0 : Int) + 15 ≤ 15 ∧ (0 : Int) + 15 ≤ 15) ∧ (∀ X5 : Nat → Int → Int, X5 = zCp X3 (j + 2) (i + 2) 0 0 15 → (∀ i j, rI (X5 i j)) → (((0 ≤ (0 : Int) ∧ 0 ≤ (0 : Int) ∧ 0 ≤ (15 : Int)) ∧ (0 : Int) + 15 ≤ 15 ∧ (0 : Int) + 15 ≤ 15) ∧ (∀ X7 : Nat → Int → Int, X7 = zCp X5 (j + 3) (i + 3) 0 0 15 → (∀ i j, rI (X7 i j)) → (((0 ≤ (0 : Int) ∧ 0 ≤ (0 : Int) ∧ 0 ≤ (15 : Int)) ∧ (0 : Int) + 15 ≤ 15 ∧ (0 : Int) + 15 ≤ 15) ∧ (∀ X9 : Nat → Int → Int, X9 = zCp X7 (j + 4) (i + 4) 0 0 15 → (∀ i j, rI (X9 i j)) → (((0 ≤ (0 : Int) ∧ 0 ≤ (0 : Int) ∧ 0 ≤ (((135 : Nat) : Int) : Int)) ∧ (0 : Int) + ((135 : Nat) : Int) ≤ 135 ∧ (0 : Int) + ((135 : Nat) : Int) ≤ 135) ∧ (∀ X11 : Nat → Int → Int, X11 = zCp X9 (j + 5) (i + 5) 0 0 ((135 : Nat) : Int) → (∀ i j, rI (X11 i j)) → ((X11) = zCp (zCp (zCp (zCp (zCp (zU X i 0 (X j 0)) (j + 1) (i + 1) 0 0 15) (j + 2) (i + 2) 0 0 15) (j + 3) (i + 3) 0 0 15) (j + 4) (i + 4) 0 0 15) (j + 5) (i + 5) 0 0 135)))))))))))
set_option maxHeartbeats 4000000 in
set_option maxRecDepth 100000 in
theorem w_X0_copy {l : Launch} {D : va_G} {cy : Nat → ClassId} {bs N : Nat} {sa : Nat → Nat} {kd len : Nat → Nat} {X Y : Nat → Int → Int} {R : Nat → Int → Option Nat} {i j : Nat} (hC : zBlocks N kd len R i) (hD : zBlocks N kd len R j)  (hF : F_X0_copy i j X Y R ) : Met l yX0_copy (.code yX0_copy cX0_copy 2 none :: zTB) (zRm 1 60) (zPc D cy bs sa N kd len X Y R [.ref (bs + (i)), .ref (bs + (j))]) (zQv D cy bs N kd len (fun st => st.2.1 = Y ∧ st.2.2 = R ∧ ((st.1) = zCp (zCp (zCp (zCp (zCp (zU X i 0 (X j 0)) (j + 1) (i + 1) 0 0 15) (j + 2) (i + 2) 0 0 15) (j + 3) (i + 3) 0 0 15) (j + 4) (i + 4) 0 0 15) (j + 5) (i + 5) 0 0 135))) 0 0 (zA bs) := by
  refine zstart (by decide) (Nat.le_of_ble_eq_true rfl) ?_
  intro p e s m args below meth c ls C hE hH hr hlk hnm hl hargs
  have hF := hF hH.2.2.1 hH.2.2.2
  have hS : va_S (zA bs) s.heap s.heap [] := va_S.rf
  have hl : lv_has ls 2 [(0, .ref (bs + (i))), (1, .ref (bs + (j)))] := hl
  refine lv_aload_n C.1 C.2.1 dX0_copy_0 rfl (lv_at hl 0 rfl) ?_
  refine lv_aload_n C.1 C.2.1 dX0_copy_1 rfl (lv_at hl 1 rfl) ?_
  refine zg0_0 C hH (zBlocks_n0 hD) (zBlocks_k0 hD) q_224 dX0_copy_2 ?_
  refine zp0_0 C hH hS (zBlocks_n0 hC) (zBlocks_k0 hC) q_224 (hH.2.2.1 _ _) dX0_copy_5 (fun H locs hH hS => ?_)
  obtain ⟨X1, eX1⟩ : ∃ z, z = zU X (i) 0 (X (j) 0) := ⟨_, rfl⟩
  rw [← eX1] at hH
  have hF := hF X1 eX1 hH.2.2.1
  refine lv_aload_n C.1 C.2.1 dX0_copy_8 rfl (lv_at hl 1 rfl) ?_
  refine zg0_1 C hH (zBlocks_n0 hD) (zBlocks_k0 hD) q_228 (zBlocks_r1 hD) dX0_copy_9 ?_
  refine zd_iconst C dX0_copy_12 ?_
  refine lv_aload_n C.1 C.2.1 dX0_copy_13 rfl (lv_at hl 0 rfl) ?_
  refine zg0_1 C hH (zBlocks_n0 hC) (zBlocks_k0 hC) q_228 (zBlocks_r1 hC) dX0_copy_14 ?_
  refine zd_iconst C dX0_copy_17 ?_
  refine zd_bipush C (by decide) dX0_copy_18 ?_
  obtain ⟨o2, hF⟩ := hF
  refine zd_copyi C hl.1 hH hS (zBlocks_n1 hC) (zBlocks_n1 hD) (zBlocks_k1 hC) (zBlocks_k1 hD) q_798 q_793 q_792 q_146 o2.1.1 o2.1.2.1 o2.1.2.2 (by rw [zBlocks_l1 hD]; exact o2.2.1) (by rw [zBlocks_l1 hC]; exact o2.2.2) (by rw [zBlocks_l1 hC]; decide) (by rw [zBlocks_l1 hD]; decide) (Nat.le_of_ble_eq_true rfl) (Nat.le_of_ble_eq_true rfl) dX0_copy_20 (fun H locs hH hS => ?_)
  obtain ⟨X3, eX3⟩ : ∃ z, z = zCp X1 (j + 1) (i + 1) 0 0 15 := ⟨_, rfl⟩
  rw [← eX3] at hH
  have hF := hF X3 eX3 hH.2.2.1
  refine lv_aload_n C.1 C.2.1 dX0_copy_23 rfl (lv_at hl 1 rfl) ?_
  refine zg0_2 C hH (zBlocks_n0 hD) (zBlocks_k0 hD) q_231 (zBlocks_r2 hD) dX0_copy_24 ?_
  refine zd_iconst C dX0_copy_27 ?_
  refine lv_aload_n C.1 C.2.1 dX0_copy_28 rfl (lv_at hl 0 rfl) ?_
  refine zg0_2 C hH (zBlocks_n0 hC) (zBlocks_k0 hC) q_231 (zBlocks_r2 hC) dX0_copy_29 ?_
  refine zd_iconst C dX0_copy_32 ?_
  refine zd_bipush C (by decide) dX0_copy_33 ?_
  obtain ⟨o4, hF⟩ := hF
  refine zd_copyi C hl.1 hH hS (zBlocks_n2 hC) (zBlocks_n2 hD) (zBlocks_k2 hC) (zBlocks_k2 hD) q_798 q_793 q_792 q_146 o4.1.1 o4.1.2.1 o4.1.2.2 (by rw [zBlocks_l2 hD]; exact o4.2.1) (by rw [zBlocks_l2 hC]; exact o4.2.2) (by rw [zBlocks_l2 hC]; decide) (by rw [zBlocks_l2 hD]; decide) (Nat.le_of_ble_eq_true rfl) (Nat.le_of_ble_eq_true rfl) dX0_copy_35 (fun H locs hH hS => ?_)
  obtain ⟨X5, eX5⟩ : ∃ z, z = zCp X3 (j + 2) (i + 2) 0 0 15 := ⟨_, rfl⟩
  rw [← eX5] at hH
  have hF := hF X5 eX5 hH.2.2.1
  refine lv_aload_n C.1 C.2.1 dX0_copy_38 rfl (lv_at hl 1 rfl) ?_
  refine zg0_3 C hH (zBlocks_n0 hD) (zBlocks_k0 hD) q_234 (zBlocks_r3 hD) dX0_copy_39 ?_
  refine zd_iconst C dX0_copy_42 ?_
  refine lv_aload_n C.1 C.2.1 dX0_copy_43 rfl (lv_at hl 0 rfl) ?_
  refine zg0_3 C hH (zBlocks_n0 hC) (zBlocks_k0 hC) q_234 (zBlocks_r3 hC) dX0_copy_44 ?_
  refine zd_iconst C dX0_copy_47 ?_
  refine zd_bipush C (by decide) dX0_copy_48 ?_
  obtain ⟨o6, hF⟩ := hF
  refine zd_copyi C hl.1 hH hS (zBlocks_n3 hC) (zBlocks_n3 hD) (zBlocks_k3 hC) (zBlocks_k3 hD) q_798 q_793 q_792 q_146 o6.1.1 o6.1.2.1 o6.1.2.2 (by rw [zBlocks_l3 hD]; exact o6.2.1) (by rw [zBlocks_l3 hC]; exact o6.2.2) (by rw [zBlocks_l3 hC]; decide) (by rw [zBlocks_l3 hD]; decide) (Nat.le_of_ble_eq_true rfl) (Nat.le_of_ble_eq_true rfl) dX0_copy_50 (fun H locs hH hS => ?_)
  obtain ⟨X7, eX7⟩ : ∃ z, z = zCp X5 (j + 3) (i + 3) 0 0 15 := ⟨_, rfl⟩
  rw [← eX7] at hH
  have hF := hF X7 eX7 hH.2.2.1
  refine lv_aload_n C.1 C.2.1 dX0_copy_53 rfl (lv_at hl 1 rfl) ?_
  refine zg0_4 C hH (zBlocks_n0 hD) (zBlocks_k0 hD) q_237 (zBlocks_r4 hD) dX0_copy_54 ?_
  refine zd_iconst C dX0_copy_57 ?_
  refine lv_aload_n C.1 C.2.1 dX0_copy_58 rfl (lv_at hl 0 rfl) ?_
  refine zg0_4 C hH (zBlocks_n0 hC) (zBlocks_k0 hC) q_237 (zBlocks_r4 hC) dX0_copy_59 ?_
  refine zd_iconst C dX0_copy_62 ?_
  refine zd_bipush C (by decide) dX0_copy_63 ?_
  obtain ⟨o8, hF⟩ := hF
  refine zd_copyi C hl.1 hH hS (zBlocks_n4 hC) (zBlocks_n4 hD) (zBlocks_k4 hC) (zBlocks_k4 hD) q_798 q_793 q_792 q_146 o8.1.1 o8.1.2.1 o8.1.2.2 (by rw [zBlocks_l4 hD]; exact o8.2.1) (by rw [zBlocks_l4 hC]; exact o8.2.2) (by rw [zBlocks_l4 hC]; decide) (by rw [zBlocks_l4 hD]; decide) (Nat.le_of_ble_eq_true rfl) (Nat.le_of_ble_eq_true rfl) dX0_copy_65 (fun H locs hH hS => ?_)
  obtain ⟨X9, eX9⟩ : ∃ z, z = zCp X7 (j + 4) (i + 4) 0 0 15 := ⟨_, rfl⟩
  rw [← eX9] at hH
  have hF := hF X9 eX9 hH.2.2.1
  refine lv_aload_n C.1 C.2.1 dX0_copy_68 rfl (lv_at hl 1 rfl) ?_
  refine zg0_5 C hH (zBlocks_n0 hD) (zBlocks_k0 hD) q_240 (zBlocks_r5 hD) dX0_copy_69 ?_
  refine zd_iconst C dX0_copy_72 ?_
  refine lv_aload_n C.1 C.2.1 dX0_copy_73 rfl (lv_at hl 0 rfl) ?_
  refine zg0_5 C hH (zBlocks_n0 hC) (zBlocks_k0 hC) q_240 (zBlocks_r5 hC) dX0_copy_74 ?_
  refine zd_iconst C dX0_copy_77 ?_
  refine lv_aload_n C.1 C.2.1 dX0_copy_78 rfl (lv_at hl 0 rfl) ?_
  refine zg0_5 C hH (zBlocks_n0 hC) (zBlocks_k0 hC) q_240 (zBlocks_r5 hC) dX0_copy_79 ?_
  refine zd_alen C hH (zBlocks_n5 hC) (t0 := 1) (by rw [(zBlocks_k5 hC)]; rfl) rfl rfl dX0_copy_82 ?_
  rw [zBlocks_l5 hC]
  obtain ⟨o10, hF⟩ := hF
  refine zd_copyi C hl.1 hH hS (zBlocks_n5 hC) (zBlocks_n5 hD) (zBlocks_k5 hC) (zBlocks_k5 hD) q_798 q_793 q_792 q_146 o10.1.1 o10.1.2.1 o10.1.2.2 (by rw [zBlocks_l5 hD]; exact o10.2.1) (by rw [zBlocks_l5 hC]; exact o10.2.2) (by rw [zBlocks_l5 hC]; decide) (by rw [zBlocks_l5 hD]; decide) (Nat.le_of_ble_eq_true rfl) (Nat.le_of_ble_eq_true rfl) dX0_copy_83 (fun H locs hH hS => ?_)
  obtain ⟨X11, eX11⟩ : ∃ z, z = zCp X9 (j + 5) (i + 5) 0 0 ((135 : Nat) : Int) := ⟨_, rfl⟩
  rw [← eX11] at hH
  have hF := hF X11 eX11 hH.2.2.1
  exact zd_vret C hr hlk hH hS (⟨rfl, rfl, hF⟩) dX0_copy_86
theorem v_X0_copy {X Y : Nat → Int → Int} {R : Nat → Int → Option Nat} {i j : Nat}  (hp : j ≠ i ∧ (j + 5 < i ∨ i + 5 < j)) : F_X0_copy i j X Y R  := by
  unfold F_X0_copy
  intro hX hY
  intro X1
  intro eX1
  intro rX1
  refine ⟨?_, ?_⟩
  · decide
  intro X3
  intro eX3
  intro rX3
  refine ⟨?_, ?_⟩
  · decide
  intro X5
  intro eX5
  intro rX5
  refine ⟨?_, ?_⟩
  · decide
  intro X7
  intro eX7
  intro rX7
  refine ⟨?_, ?_⟩
  · decide
  intro X9
  intro eX9
  intro rX9
  refine ⟨?_, ?_⟩
  · decide
  intro X11
  intro eX11
  intro rX11
  rw [eX11, eX9, eX7, eX5, eX3, eX1]
  rfl
theorem c_X0_copy {l : Launch} {D : va_G} {cy : Nat → ClassId} {bs N : Nat} {sa : Nat → Nat} {kd len : Nat → Nat} {X Y : Nat → Int → Int} {R : Nat → Int → Option Nat} {i j : Nat} (hC : zBlocks N kd len R i) (hD : zBlocks N kd len R j)  (hp : j ≠ i ∧ (j + 5 < i ∨ i + 5 < j)) : Met l yX0_copy (.code yX0_copy cX0_copy 2 none :: zTB) (zRm 1 60) (zPc D cy bs sa N kd len X Y R [.ref (bs + (i)), .ref (bs + (j))]) (zQv D cy bs N kd len (fun st => st.2.1 = Y ∧ st.2.2 = R ∧ ((st.1) = zCp (zCp (zCp (zCp (zCp (zU X i 0 (X j 0)) (j + 1) (i + 1) 0 0 15) (j + 2) (i + 2) 0 0 15) (j + 3) (i + 3) 0 0 15) (j + 4) (i + 4) 0 0 15) (j + 5) (i + 5) 0 0 135))) 0 0 (zA bs) := w_X0_copy hC hD  (v_X0_copy  hp)
abbrev cX8_copy : ByteArray := prog_10_method_2_code
def yX8_copy : MethodName := ⟨RX8, "copy", "(LWorkChains$Rows;)V"⟩
theorem dX8_copy_0 : decode cX8_copy 0 = .ok (.aload_n 1, 1) := by decide +kernel
theorem dX8_copy_1 : decode cX8_copy 1 = .ok (.getfield 18, 3) := by decide +kernel
theorem dX8_copy_4 : decode cX8_copy 4 = .ok (.arraylength, 1) := by decide +kernel
theorem dX8_copy_5 : decode cX8_copy 5 = .ok (.aload_n 0, 1) := by decide +kernel
theorem dX8_copy_6 : decode cX8_copy 6 = .ok (.getfield 18, 3) := by decide +kernel
theorem dX8_copy_9 : decode cX8_copy 9 = .ok (.arraylength, 1) := by decide +kernel
theorem dX8_copy_10 : decode cX8_copy 10 = .ok (.if_icmp .eq 4, 3) := by decide +kernel
theorem dX8_copy_13 : decode cX8_copy 13 = .ok (.return_, 1) := by decide +kernel
theorem dX8_copy_14 : decode cX8_copy 14 = .ok (.aload_n 0, 1) := by decide +kernel
theorem dX8_copy_15 : decode cX8_copy 15 = .ok (.aload_n 1, 1) := by decide +kernel
theorem dX8_copy_16 : decode cX8_copy 16 = .ok (.getfield 22, 3) := by decide +kernel
theorem dX8_copy_19 : decode cX8_copy 19 = .ok (.putfield 22, 3) := by decide +kernel
theorem dX8_copy_22 : decode cX8_copy 22 = .ok (.aload_n 1, 1) := by decide +kernel
theorem dX8_copy_23 : decode cX8_copy 23 = .ok (.getfield 18, 3) := by decide +kernel
theorem dX8_copy_26 : decode cX8_copy 26 = .ok (.iconst 0, 1) := by decide +kernel
theorem dX8_copy_27 : decode cX8_copy 27 = .ok (.aload_n 0, 1) := by decide +kernel
theorem dX8_copy_28 : decode cX8_copy 28 = .ok (.getfield 18, 3) := by decide +kernel
theorem dX8_copy_31 : decode cX8_copy 31 = .ok (.iconst 0, 1) := by decide +kernel
theorem dX8_copy_32 : decode cX8_copy 32 = .ok (.aload_n 0, 1) := by decide +kernel
theorem dX8_copy_33 : decode cX8_copy 33 = .ok (.getfield 18, 3) := by decide +kernel
theorem dX8_copy_36 : decode cX8_copy 36 = .ok (.arraylength, 1) := by decide +kernel
theorem dX8_copy_37 : decode cX8_copy 37 = .ok (.invokestatic 25, 3) := by decide +kernel
theorem dX8_copy_40 : decode cX8_copy 40 = .ok (.return_, 1) := by decide +kernel
theorem q_803 : Cond.methodLink RX8 25 arraycopyName ∈ zTB := zmem 803 (by decide +kernel) rfl
def F_X8_copy (i j n1 n2 : Nat) (X Y : Nat → Int → Int) (R : Nat → Int → Option Nat)  : Prop := (∀ i j, rI (X i j)) → (∀ i j, rL (Y i j)) → (rI (((n2 : Nat) : Int))) ∧ ((rI (((n1 : Nat) : Int))) ∧ (((((n2 : Nat) : Int) = ((n1 : Nat) : Int)) → (∀ X4 : Nat → Int → Int, X4 = zU X (i) 2 (X (j) 2) → (∀ i j, rI (X4 i j)) → (((0 ≤ (0 : Int) ∧ 0 ≤ (0 : Int) ∧ 0 ≤ (((n1 : Nat) : Int) : Int)) ∧ (0 : Int) + ((n1 : Nat) : Int) ≤ ((n2 : Nat) : Int) ∧ (0 : Int) + ((n1 : Nat) : Int) ≤ ((n1 : Nat) : Int)) ∧ (∀ X6 : Nat → Int → Int, X6 = zCp X4 (j + 1) (i + 1) 0 0 ((n1 : Nat) : Int) → (∀ i j, rI (X6 i j)) → ((X6) = zCp (zU X i 2 (X j 2)) (j + 1) (i + 1) 0 0 n1))))) ∧ ((¬ (((n2 : Nat) : Int) = ((n1 : Nat) : Int))) → ((X) = zCp (zU X i 2 (X j 2)) (j + 1) (i + 1) 0 0 n1))))
set_option maxHeartbeats 4000000 in
set_option maxRecDepth 100000 in
theorem w_X8_copy {l : Launch} {D : va_G} {cy : Nat → ClassId} {bs N : Nat} {sa : Nat → Nat} {kd len : Nat → Nat} {X Y : Nat → Int → Int} {R : Nat → Int → Option Nat} {i j n1 n2 : Nat} (hC : zRows N kd len R i n1) (hD : zRows N kd len R j n2) (hsm : len (i + 1) < 2147483648) (hsn : len (j + 1) < 2147483648)  (hF : F_X8_copy i j n1 n2 X Y R ) : Met l yX8_copy (.code yX8_copy cX8_copy 2 none :: zTB) (zRm 1 60) (zPc D cy bs sa N kd len X Y R [.ref (bs + (i)), .ref (bs + (j))]) (zQv D cy bs N kd len (fun st => st.2.1 = Y ∧ st.2.2 = R ∧ ((st.1) = zCp (zU X i 2 (X j 2)) (j + 1) (i + 1) 0 0 n1))) 0 0 (zA bs) := by
  refine zstart (by decide) (Nat.le_of_ble_eq_true rfl) ?_
  intro p e s m args below meth c ls C hE hH hr hlk hnm hl hargs
  have hF := hF hH.2.2.1 hH.2.2.2
  have hS : va_S (zA bs) s.heap s.heap [] := va_S.rf
  have hl : lv_has ls 2 [(0, .ref (bs + (i))), (1, .ref (bs + (j)))] := hl
  refine lv_aload_n C.1 C.2.1 dX8_copy_0 rfl (lv_at hl 1 rfl) ?_
  refine zg8_3 C hH (zRows_n0 hD) (zRows_k0 hD) q_269 (zRows_r1 hD) dX8_copy_1 ?_
  refine zd_alen C hH (zRows_n1 hD) (t0 := 1) (by rw [(zRows_k1 hD)]; rfl) rfl rfl dX8_copy_4 ?_
  rw [zRows_l1 hD]
  refine lv_aload_n C.1 C.2.1 dX8_copy_5 rfl (lv_at hl 0 rfl) ?_
  refine zg8_3 C hH (zRows_n0 hC) (zRows_k0 hC) q_269 (zRows_r1 hC) dX8_copy_6 ?_
  refine zd_alen C hH (zRows_n1 hC) (t0 := 1) (by rw [(zRows_k1 hC)]; rfl) rfl rfl dX8_copy_9 ?_
  rw [zRows_l1 hC]
  obtain ⟨o2, hF⟩ := hF
  obtain ⟨o3, hF⟩ := hF
  refine zd_icmp_eq C o2 o3 14 dX8_copy_10 (by decide) (fun c1 => ?_) (fun c1 => ?_)
  · have hF := hF.1 c1
    refine lv_aload_n C.1 C.2.1 dX8_copy_14 rfl (lv_at hl 0 rfl) ?_
    refine lv_aload_n C.1 C.2.1 dX8_copy_15 rfl (lv_at hl 1 rfl) ?_
    refine zg8_2 C hH (zRows_n0 hD) (zRows_k0 hD) q_263 dX8_copy_16 ?_
    refine zp8_2 C hH hS (zRows_n0 hC) (zRows_k0 hC) q_263 (hH.2.2.1 _ _) dX8_copy_19 (fun H locs hH hS => ?_)
    obtain ⟨X4, eX4⟩ : ∃ z, z = zU X (i) 2 (X (j) 2) := ⟨_, rfl⟩
    rw [← eX4] at hH
    have hF := hF X4 eX4 hH.2.2.1
    refine lv_aload_n C.1 C.2.1 dX8_copy_22 rfl (lv_at hl 1 rfl) ?_
    refine zg8_3 C hH (zRows_n0 hD) (zRows_k0 hD) q_269 (zRows_r1 hD) dX8_copy_23 ?_
    refine zd_iconst C dX8_copy_26 ?_
    refine lv_aload_n C.1 C.2.1 dX8_copy_27 rfl (lv_at hl 0 rfl) ?_
    refine zg8_3 C hH (zRows_n0 hC) (zRows_k0 hC) q_269 (zRows_r1 hC) dX8_copy_28 ?_
    refine zd_iconst C dX8_copy_31 ?_
    refine lv_aload_n C.1 C.2.1 dX8_copy_32 rfl (lv_at hl 0 rfl) ?_
    refine zg8_3 C hH (zRows_n0 hC) (zRows_k0 hC) q_269 (zRows_r1 hC) dX8_copy_33 ?_
    refine zd_alen C hH (zRows_n1 hC) (t0 := 1) (by rw [(zRows_k1 hC)]; rfl) rfl rfl dX8_copy_36 ?_
    rw [zRows_l1 hC]
    obtain ⟨o5, hF⟩ := hF
    refine zd_copyi C hl.1 hH hS (zRows_n1 hC) (zRows_n1 hD) (zRows_k1 hC) (zRows_k1 hD) q_803 q_793 q_792 q_146 o5.1.1 o5.1.2.1 o5.1.2.2 (by rw [zRows_l1 hD]; exact o5.2.1) (by rw [zRows_l1 hC]; exact o5.2.2) hsm hsn (Nat.le_of_ble_eq_true rfl) (Nat.le_of_ble_eq_true rfl) dX8_copy_37 (fun H locs hH hS => ?_)
    obtain ⟨X6, eX6⟩ : ∃ z, z = zCp X4 (j + 1) (i + 1) 0 0 ((n1 : Nat) : Int) := ⟨_, rfl⟩
    rw [← eX6] at hH
    have hF := hF X6 eX6 hH.2.2.1
    exact zd_vret C hr hlk hH hS (⟨rfl, rfl, hF⟩) dX8_copy_40
  · have hF := hF.2 c1
    exact zd_vret C hr hlk hH hS (⟨rfl, rfl, hF⟩) dX8_copy_13
theorem v_X8_copy {X Y : Nat → Int → Int} {R : Nat → Int → Option Nat} {i j n1 n2 : Nat}  (hp : j ≠ i ∧ n1 = n2 ∧ n1 ≤ 200) : F_X8_copy i j n1 n2 X Y R  := by
  unfold F_X8_copy
  intro hX hY
  obtain ⟨hij, hnn, h200⟩ := hp
  refine ⟨?_, ?_⟩
  · first | omega | exact ⟨by omega, by omega⟩ | decide | assumption | exact ⟨by omega, by omega, by omega⟩ | exact ⟨by decide, by decide⟩
  refine ⟨?_, ?_⟩
  · first | omega | exact ⟨by omega, by omega⟩ | decide | assumption | exact ⟨by omega, by omega, by omega⟩ | exact ⟨by decide, by decide⟩
  refine ⟨?_, ?_⟩
  · intro c1
    intro X4
    intro eX4
    intro rX4
    refine ⟨?_, ?_⟩
    · exact ⟨⟨by decide, by decide, by omega⟩, by omega, by omega⟩
    intro X6
    intro eX6
    intro rX6
    rw [eX6, eX4]
  intro c2
  exfalso
  omega
theorem c_X8_copy {l : Launch} {D : va_G} {cy : Nat → ClassId} {bs N : Nat} {sa : Nat → Nat} {kd len : Nat → Nat} {X Y : Nat → Int → Int} {R : Nat → Int → Option Nat} {i j n1 n2 : Nat} (hC : zRows N kd len R i n1) (hD : zRows N kd len R j n2) (hsm : len (i + 1) < 2147483648) (hsn : len (j + 1) < 2147483648)  (hp : j ≠ i ∧ n1 = n2 ∧ n1 ≤ 200) : Met l yX8_copy (.code yX8_copy cX8_copy 2 none :: zTB) (zRm 1 60) (zPc D cy bs sa N kd len X Y R [.ref (bs + (i)), .ref (bs + (j))]) (zQv D cy bs N kd len (fun st => st.2.1 = Y ∧ st.2.2 = R ∧ ((st.1) = zCp (zU X i 2 (X j 2)) (j + 1) (i + 1) 0 0 n1))) 0 0 (zA bs) := w_X8_copy hC hD hsm hsn  (v_X8_copy  hp)
