/-! COPIES -/
abbrev cX6_copy : ByteArray := prog_8_method_3_code
def yX6_copy : MethodName := ⟨RX6, "copy", "(LWorkChains$Net;)V"⟩
theorem dX6_copy_0 : decode cX6_copy 0 = .ok (.aload_n 0, 1) := by decide +kernel
theorem dX6_copy_1 : decode cX6_copy 1 = .ok (.aload_n 1, 1) := by decide +kernel
theorem dX6_copy_2 : decode cX6_copy 2 = .ok (.getfield 18, 3) := by decide +kernel
theorem dX6_copy_5 : decode cX6_copy 5 = .ok (.putfield 18, 3) := by decide +kernel
theorem dX6_copy_8 : decode cX6_copy 8 = .ok (.aload_n 0, 1) := by decide +kernel
theorem dX6_copy_9 : decode cX6_copy 9 = .ok (.aload_n 1, 1) := by decide +kernel
theorem dX6_copy_10 : decode cX6_copy 10 = .ok (.getfield 22, 3) := by decide +kernel
theorem dX6_copy_13 : decode cX6_copy 13 = .ok (.putfield 22, 3) := by decide +kernel
theorem dX6_copy_16 : decode cX6_copy 16 = .ok (.aload_n 0, 1) := by decide +kernel
theorem dX6_copy_17 : decode cX6_copy 17 = .ok (.aload_n 1, 1) := by decide +kernel
theorem dX6_copy_18 : decode cX6_copy 18 = .ok (.getfield 25, 3) := by decide +kernel
theorem dX6_copy_21 : decode cX6_copy 21 = .ok (.putfield 25, 3) := by decide +kernel
theorem dX6_copy_24 : decode cX6_copy 24 = .ok (.aload_n 0, 1) := by decide +kernel
theorem dX6_copy_25 : decode cX6_copy 25 = .ok (.aload_n 1, 1) := by decide +kernel
theorem dX6_copy_26 : decode cX6_copy 26 = .ok (.getfield 28, 3) := by decide +kernel
theorem dX6_copy_29 : decode cX6_copy 29 = .ok (.putfield 28, 3) := by decide +kernel
theorem dX6_copy_32 : decode cX6_copy 32 = .ok (.aload_n 0, 1) := by decide +kernel
theorem dX6_copy_33 : decode cX6_copy 33 = .ok (.aload_n 1, 1) := by decide +kernel
theorem dX6_copy_34 : decode cX6_copy 34 = .ok (.getfield 31, 3) := by decide +kernel
theorem dX6_copy_37 : decode cX6_copy 37 = .ok (.putfield 31, 3) := by decide +kernel
theorem dX6_copy_40 : decode cX6_copy 40 = .ok (.aload_n 0, 1) := by decide +kernel
theorem dX6_copy_41 : decode cX6_copy 41 = .ok (.aload_n 1, 1) := by decide +kernel
theorem dX6_copy_42 : decode cX6_copy 42 = .ok (.getfield 34, 3) := by decide +kernel
theorem dX6_copy_45 : decode cX6_copy 45 = .ok (.putfield 34, 3) := by decide +kernel
theorem dX6_copy_48 : decode cX6_copy 48 = .ok (.aload_n 0, 1) := by decide +kernel
theorem dX6_copy_49 : decode cX6_copy 49 = .ok (.aload_n 1, 1) := by decide +kernel
theorem dX6_copy_50 : decode cX6_copy 50 = .ok (.getfield 37, 3) := by decide +kernel
theorem dX6_copy_53 : decode cX6_copy 53 = .ok (.putfield 37, 3) := by decide +kernel
theorem dX6_copy_56 : decode cX6_copy 56 = .ok (.aload_n 1, 1) := by decide +kernel
theorem dX6_copy_57 : decode cX6_copy 57 = .ok (.getfield 9, 3) := by decide +kernel
theorem dX6_copy_60 : decode cX6_copy 60 = .ok (.iconst 0, 1) := by decide +kernel
theorem dX6_copy_61 : decode cX6_copy 61 = .ok (.aload_n 0, 1) := by decide +kernel
theorem dX6_copy_62 : decode cX6_copy 62 = .ok (.getfield 9, 3) := by decide +kernel
theorem dX6_copy_65 : decode cX6_copy 65 = .ok (.iconst 0, 1) := by decide +kernel
theorem dX6_copy_66 : decode cX6_copy 66 = .ok (.bipush 6, 2) := by decide +kernel
theorem dX6_copy_68 : decode cX6_copy 68 = .ok (.invokestatic 40, 3) := by decide +kernel
theorem dX6_copy_71 : decode cX6_copy 71 = .ok (.return_, 1) := by decide +kernel
theorem q_791 : Cond.methodLink RX6 40 arraycopyName ∈ zTB := zmem 791 (by decide +kernel) rfl
theorem q_793 : Cond.native arraycopyName ∈ zTB := zmem 793 (by decide +kernel) rfl
theorem q_792 : Cond.static arraycopyName ∈ zTB := zmem 792 (by decide +kernel) rfl
theorem q_146 : Cond.initialized "java/lang/System" ∈ zTB := zmem 146 (by decide +kernel) rfl
def F_X6_copy (i j : Nat) (X Y : Nat → Int → Int) (R : Nat → Int → Option Nat)  : Prop := (∀ i j, rI (X i j)) → (∀ i j, rL (Y i j)) → ∀ X1 : Nat → Int → Int, X1 = zU X (i) 0 (X (j) 0) → (∀ i j, rI (X1 i j)) → (∀ X2 : Nat → Int → Int, X2 = zU X1 (i) 1 (X1 (j) 1) → (∀ i j, rI (X2 i j)) → (∀ X3 : Nat → Int → Int, X3 = zU X2 (i) 2 (X2 (j) 2) → (∀ i j, rI (X3 i j)) → (∀ X4 : Nat → Int → Int, X4 = zU X3 (i) 3 (X3 (j) 3) → (∀ i j, rI (X4 i j)) → (∀ X5 : Nat → Int → Int, X5 = zU X4 (i) 4 (X4 (j) 4) → (∀ i j, rI (X5 i j)) → (∀ X6 : Nat → Int → Int, X6 = zU X5 (i) 5 (X5 (j) 5) → (∀ i j, rI (X6 i j)) → (∀ X7 : Nat → Int → Int, X7 = zU X6 (i) 6 (X6 (j) 6) → (∀ i j, rI (X7 i j)) → (((0 ≤ (0 : Int) ∧ 0 ≤ (0 : Int) ∧ 0 ≤ (6 : Int)) ∧ (0 : Int) + 6 ≤ 6 ∧ (0 : Int) + 6 ≤ 6) ∧ (∀ X9 : Nat → Int → Int, X9 = zCp X7 (j + 1) (i + 1) 0 0 6 → (∀ i j, rI (X9 i j)) → ((X9) = zCp (zU (zU (zU (zU (zU (zU (zU X i 0 (X j 0)) i 1 (X j 1)) i 2 (X j 2)) i 3 (X j 3)) i 4 (X j 4)) i 5 (X j 5)) i 6 (X j 6)) (j + 1) (i + 1) 0 0 6)))))))))
set_option maxHeartbeats 4000000 in
set_option maxRecDepth 100000 in
theorem w_X6_copy {l : Launch} {D : va_G} {cy : Nat → ClassId} {bs N : Nat} {sa : Nat → Nat} {kd len : Nat → Nat} {X Y : Nat → Int → Int} {R : Nat → Int → Option Nat} {i j : Nat} (hC : zNet N kd len R i) (hD : zNet N kd len R j)  (hF : F_X6_copy i j X Y R ) : Met l yX6_copy (.code yX6_copy cX6_copy 2 none :: zTB) (zRm 1 60) (zPc D cy bs sa N kd len X Y R [.ref (bs + (i)), .ref (bs + (j))]) (zQv D cy bs N kd len (fun st => st.2.1 = Y ∧ st.2.2 = R ∧ ((st.1) = zCp (zU (zU (zU (zU (zU (zU (zU X i 0 (X j 0)) i 1 (X j 1)) i 2 (X j 2)) i 3 (X j 3)) i 4 (X j 4)) i 5 (X j 5)) i 6 (X j 6)) (j + 1) (i + 1) 0 0 6))) 0 0 (zA bs) := by
  refine zstart (by decide) (Nat.le_of_ble_eq_true rfl) ?_
  intro p e s m args below meth c ls C hE hH hr hlk hnm hl hargs
  have hF := hF hH.2.2.1 hH.2.2.2
  have hS : va_S (zA bs) s.heap s.heap [] := va_S.rf
  have hl : lv_has ls 2 [(0, .ref (bs + (i))), (1, .ref (bs + (j)))] := hl
  refine lv_aload_n C.1 C.2.1 dX6_copy_0 rfl (lv_at hl 0 rfl) ?_
  refine lv_aload_n C.1 C.2.1 dX6_copy_1 rfl (lv_at hl 1 rfl) ?_
  refine zg6_0 C hH (zNet_n0 hD) (zNet_k0 hD) q_177 dX6_copy_2 ?_
  refine zp6_0 C hH hS (zNet_n0 hC) (zNet_k0 hC) q_177 (hH.2.2.1 _ _) dX6_copy_5 (fun H locs hH hS => ?_)
  obtain ⟨X1, eX1⟩ : ∃ z, z = zU X (i) 0 (X (j) 0) := ⟨_, rfl⟩
  rw [← eX1] at hH
  have hF := hF X1 eX1 hH.2.2.1
  refine lv_aload_n C.1 C.2.1 dX6_copy_8 rfl (lv_at hl 0 rfl) ?_
  refine lv_aload_n C.1 C.2.1 dX6_copy_9 rfl (lv_at hl 1 rfl) ?_
  refine zg6_1 C hH (zNet_n0 hD) (zNet_k0 hD) q_179 dX6_copy_10 ?_
  refine zp6_1 C hH hS (zNet_n0 hC) (zNet_k0 hC) q_179 (hH.2.2.1 _ _) dX6_copy_13 (fun H locs hH hS => ?_)
  obtain ⟨X2, eX2⟩ : ∃ z, z = zU X1 (i) 1 (X1 (j) 1) := ⟨_, rfl⟩
  rw [← eX2] at hH
  have hF := hF X2 eX2 hH.2.2.1
  refine lv_aload_n C.1 C.2.1 dX6_copy_16 rfl (lv_at hl 0 rfl) ?_
  refine lv_aload_n C.1 C.2.1 dX6_copy_17 rfl (lv_at hl 1 rfl) ?_
  refine zg6_2 C hH (zNet_n0 hD) (zNet_k0 hD) q_182 dX6_copy_18 ?_
  refine zp6_2 C hH hS (zNet_n0 hC) (zNet_k0 hC) q_182 (hH.2.2.1 _ _) dX6_copy_21 (fun H locs hH hS => ?_)
  obtain ⟨X3, eX3⟩ : ∃ z, z = zU X2 (i) 2 (X2 (j) 2) := ⟨_, rfl⟩
  rw [← eX3] at hH
  have hF := hF X3 eX3 hH.2.2.1
  refine lv_aload_n C.1 C.2.1 dX6_copy_24 rfl (lv_at hl 0 rfl) ?_
  refine lv_aload_n C.1 C.2.1 dX6_copy_25 rfl (lv_at hl 1 rfl) ?_
  refine zg6_3 C hH (zNet_n0 hD) (zNet_k0 hD) q_185 dX6_copy_26 ?_
  refine zp6_3 C hH hS (zNet_n0 hC) (zNet_k0 hC) q_185 (hH.2.2.1 _ _) dX6_copy_29 (fun H locs hH hS => ?_)
  obtain ⟨X4, eX4⟩ : ∃ z, z = zU X3 (i) 3 (X3 (j) 3) := ⟨_, rfl⟩
  rw [← eX4] at hH
  have hF := hF X4 eX4 hH.2.2.1
  refine lv_aload_n C.1 C.2.1 dX6_copy_32 rfl (lv_at hl 0 rfl) ?_
  refine lv_aload_n C.1 C.2.1 dX6_copy_33 rfl (lv_at hl 1 rfl) ?_
  refine zg6_4 C hH (zNet_n0 hD) (zNet_k0 hD) q_188 dX6_copy_34 ?_
  refine zp6_4 C hH hS (zNet_n0 hC) (zNet_k0 hC) q_188 (hH.2.2.1 _ _) dX6_copy_37 (fun H locs hH hS => ?_)
  obtain ⟨X5, eX5⟩ : ∃ z, z = zU X4 (i) 4 (X4 (j) 4) := ⟨_, rfl⟩
  rw [← eX5] at hH
  have hF := hF X5 eX5 hH.2.2.1
  refine lv_aload_n C.1 C.2.1 dX6_copy_40 rfl (lv_at hl 0 rfl) ?_
  refine lv_aload_n C.1 C.2.1 dX6_copy_41 rfl (lv_at hl 1 rfl) ?_
  refine zg6_5 C hH (zNet_n0 hD) (zNet_k0 hD) q_190 dX6_copy_42 ?_
  refine zp6_5 C hH hS (zNet_n0 hC) (zNet_k0 hC) q_190 (hH.2.2.1 _ _) dX6_copy_45 (fun H locs hH hS => ?_)
  obtain ⟨X6, eX6⟩ : ∃ z, z = zU X5 (i) 5 (X5 (j) 5) := ⟨_, rfl⟩
  rw [← eX6] at hH
  have hF := hF X6 eX6 hH.2.2.1
  refine lv_aload_n C.1 C.2.1 dX6_copy_48 rfl (lv_at hl 0 rfl) ?_
  refine lv_aload_n C.1 C.2.1 dX6_copy_49 rfl (lv_at hl 1 rfl) ?_
  refine zg6_6 C hH (zNet_n0 hD) (zNet_k0 hD) q_194 dX6_copy_50 ?_
  refine zp6_6 C hH hS (zNet_n0 hC) (zNet_k0 hC) q_194 (hH.2.2.1 _ _) dX6_copy_53 (fun H locs hH hS => ?_)
  obtain ⟨X7, eX7⟩ : ∃ z, z = zU X6 (i) 6 (X6 (j) 6) := ⟨_, rfl⟩
  rw [← eX7] at hH
  have hF := hF X7 eX7 hH.2.2.1
  refine lv_aload_n C.1 C.2.1 dX6_copy_56 rfl (lv_at hl 1 rfl) ?_
  refine zg6_7 C hH (zNet_n0 hD) (zNet_k0 hD) q_197 (zNet_r1 hD) dX6_copy_57 ?_
  refine zd_iconst C dX6_copy_60 ?_
  refine lv_aload_n C.1 C.2.1 dX6_copy_61 rfl (lv_at hl 0 rfl) ?_
  refine zg6_7 C hH (zNet_n0 hC) (zNet_k0 hC) q_197 (zNet_r1 hC) dX6_copy_62 ?_
  refine zd_iconst C dX6_copy_65 ?_
  refine zd_bipush C (by decide) dX6_copy_66 ?_
  obtain ⟨o8, hF⟩ := hF
  refine zd_copyi C hl.1 hH hS (zNet_n1 hC) (zNet_n1 hD) (zNet_k1 hC) (zNet_k1 hD) q_791 q_793 q_792 q_146 o8.1.1 o8.1.2.1 o8.1.2.2 (by rw [zNet_l1 hD]; exact o8.2.1) (by rw [zNet_l1 hC]; exact o8.2.2) (by rw [zNet_l1 hC]; decide) (by rw [zNet_l1 hD]; decide) (Nat.le_of_ble_eq_true rfl) (Nat.le_of_ble_eq_true rfl) dX6_copy_68 (fun H locs hH hS => ?_)
  obtain ⟨X9, eX9⟩ : ∃ z, z = zCp X7 (j + 1) (i + 1) 0 0 6 := ⟨_, rfl⟩
  rw [← eX9] at hH
  have hF := hF X9 eX9 hH.2.2.1
  exact zd_vret C hr hlk hH hS (⟨rfl, rfl, hF⟩) dX6_copy_71
theorem v_X6_copy {X Y : Nat → Int → Int} {R : Nat → Int → Option Nat} {i j : Nat}  (hp : j ≠ i) : F_X6_copy i j X Y R  := by
  unfold F_X6_copy
  intro hX hY
  intro X1
  intro eX1
  have o1 : X1 j = X j := by rw [eX1, zU_o hp]
  intro rX1
  intro X2
  intro eX2
  have o2 : X2 j = X j := by rw [eX2, zU_o hp, o1]
  intro rX2
  intro X3
  intro eX3
  have o3 : X3 j = X j := by rw [eX3, zU_o hp, o2]
  intro rX3
  intro X4
  intro eX4
  have o4 : X4 j = X j := by rw [eX4, zU_o hp, o3]
  intro rX4
  intro X5
  intro eX5
  have o5 : X5 j = X j := by rw [eX5, zU_o hp, o4]
  intro rX5
  intro X6
  intro eX6
  have o6 : X6 j = X j := by rw [eX6, zU_o hp, o5]
  intro rX6
  intro X7
  intro eX7
  intro rX7
  refine ⟨?_, ?_⟩
  · decide
  intro X9
  intro eX9
  intro rX9
  rw [eX9, eX7, o6, eX6, o5, eX5, o4, eX4, o3, eX3, o2, eX2, o1, eX1]
theorem c_X6_copy {l : Launch} {D : va_G} {cy : Nat → ClassId} {bs N : Nat} {sa : Nat → Nat} {kd len : Nat → Nat} {X Y : Nat → Int → Int} {R : Nat → Int → Option Nat} {i j : Nat} (hC : zNet N kd len R i) (hD : zNet N kd len R j)  (hp : j ≠ i) : Met l yX6_copy (.code yX6_copy cX6_copy 2 none :: zTB) (zRm 1 60) (zPc D cy bs sa N kd len X Y R [.ref (bs + (i)), .ref (bs + (j))]) (zQv D cy bs N kd len (fun st => st.2.1 = Y ∧ st.2.2 = R ∧ ((st.1) = zCp (zU (zU (zU (zU (zU (zU (zU X i 0 (X j 0)) i 1 (X j 1)) i 2 (X j 2)) i 3 (X j 3)) i 4 (X j 4)) i 5 (X j 5)) i 6 (X j 6)) (j + 1) (i + 1) 0 0 6))) 0 0 (zA bs) := w_X6_copy hC hD  (v_X6_copy  hp)
abbrev cX5_copy : ByteArray := prog_7_method_3_code
def yX5_copy : MethodName := ⟨RX5, "copy", "(LWorkChains$Ledger;)V"⟩
theorem dX5_copy_0 : decode cX5_copy 0 = .ok (.aload_n 0, 1) := by decide +kernel
theorem dX5_copy_1 : decode cX5_copy 1 = .ok (.aload_n 1, 1) := by decide +kernel
theorem dX5_copy_2 : decode cX5_copy 2 = .ok (.getfield 21, 3) := by decide +kernel
theorem dX5_copy_5 : decode cX5_copy 5 = .ok (.putfield 21, 3) := by decide +kernel
theorem dX5_copy_8 : decode cX5_copy 8 = .ok (.aload_n 1, 1) := by decide +kernel
theorem dX5_copy_9 : decode cX5_copy 9 = .ok (.getfield 9, 3) := by decide +kernel
theorem dX5_copy_12 : decode cX5_copy 12 = .ok (.iconst 0, 1) := by decide +kernel
theorem dX5_copy_13 : decode cX5_copy 13 = .ok (.aload_n 0, 1) := by decide +kernel
theorem dX5_copy_14 : decode cX5_copy 14 = .ok (.getfield 9, 3) := by decide +kernel
theorem dX5_copy_17 : decode cX5_copy 17 = .ok (.iconst 0, 1) := by decide +kernel
theorem dX5_copy_18 : decode cX5_copy 18 = .ok (.bipush 6, 2) := by decide +kernel
theorem dX5_copy_20 : decode cX5_copy 20 = .ok (.invokestatic 25, 3) := by decide +kernel
theorem dX5_copy_23 : decode cX5_copy 23 = .ok (.return_, 1) := by decide +kernel
theorem q_930 : Cond.methodLink RX5 25 arraycopyName ∈ zTB := zmem 930 (by decide +kernel) rfl
def F_X5_copy (i j : Nat) (X Y : Nat → Int → Int) (R : Nat → Int → Option Nat)  : Prop := (∀ i j, rI (X i j)) → (∀ i j, rL (Y i j)) → ∀ X1 : Nat → Int → Int, X1 = zU X (i) 0 (X (j) 0) → (∀ i j, rI (X1 i j)) → (((0 ≤ (0 : Int) ∧ 0 ≤ (0 : Int) ∧ 0 ≤ (6 : Int)) ∧ (0 : Int) + 6 ≤ 6 ∧ (0 : Int) + 6 ≤ 6) ∧ (∀ X3 : Nat → Int → Int, X3 = zCp X1 (j + 1) (i + 1) 0 0 6 → (∀ i j, rI (X3 i j)) → ((X3) = zCp (zU X i 0 (X j 0)) (j + 1) (i + 1) 0 0 6)))
set_option maxHeartbeats 4000000 in
set_option maxRecDepth 100000 in
theorem w_X5_copy {l : Launch} {D : va_G} {cy : Nat → ClassId} {bs N : Nat} {sa : Nat → Nat} {kd len : Nat → Nat} {X Y : Nat → Int → Int} {R : Nat → Int → Option Nat} {i j : Nat} (hC : zLedger N kd len R i) (hD : zLedger N kd len R j)  (hF : F_X5_copy i j X Y R ) : Met l yX5_copy (.code yX5_copy cX5_copy 2 none :: zTB) (zRm 1 60) (zPc D cy bs sa N kd len X Y R [.ref (bs + (i)), .ref (bs + (j))]) (zQv D cy bs N kd len (fun st => st.2.1 = Y ∧ st.2.2 = R ∧ ((st.1) = zCp (zU X i 0 (X j 0)) (j + 1) (i + 1) 0 0 6))) 0 0 (zA bs) := by
  refine zstart (by decide) (Nat.le_of_ble_eq_true rfl) ?_
  intro p e s m args below meth c ls C hE hH hr hlk hnm hl hargs
  have hF := hF hH.2.2.1 hH.2.2.2
  have hS : va_S (zA bs) s.heap s.heap [] := va_S.rf
  have hl : lv_has ls 2 [(0, .ref (bs + (i))), (1, .ref (bs + (j)))] := hl
  refine lv_aload_n C.1 C.2.1 dX5_copy_0 rfl (lv_at hl 0 rfl) ?_
  refine lv_aload_n C.1 C.2.1 dX5_copy_1 rfl (lv_at hl 1 rfl) ?_
  refine zg5_0 C hH (zLedger_n0 hD) (zLedger_k0 hD) q_382 dX5_copy_2 ?_
  refine zp5_0 C hH hS (zLedger_n0 hC) (zLedger_k0 hC) q_382 (hH.2.2.1 _ _) dX5_copy_5 (fun H locs hH hS => ?_)
  obtain ⟨X1, eX1⟩ : ∃ z, z = zU X (i) 0 (X (j) 0) := ⟨_, rfl⟩
  rw [← eX1] at hH
  have hF := hF X1 eX1 hH.2.2.1
  refine lv_aload_n C.1 C.2.1 dX5_copy_8 rfl (lv_at hl 1 rfl) ?_
  refine zg5_1 C hH (zLedger_n0 hD) (zLedger_k0 hD) q_383 (zLedger_r1 hD) dX5_copy_9 ?_
  refine zd_iconst C dX5_copy_12 ?_
  refine lv_aload_n C.1 C.2.1 dX5_copy_13 rfl (lv_at hl 0 rfl) ?_
  refine zg5_1 C hH (zLedger_n0 hC) (zLedger_k0 hC) q_383 (zLedger_r1 hC) dX5_copy_14 ?_
  refine zd_iconst C dX5_copy_17 ?_
  refine zd_bipush C (by decide) dX5_copy_18 ?_
  obtain ⟨o2, hF⟩ := hF
  refine zd_copyi C hl.1 hH hS (zLedger_n1 hC) (zLedger_n1 hD) (zLedger_k1 hC) (zLedger_k1 hD) q_930 q_793 q_792 q_146 o2.1.1 o2.1.2.1 o2.1.2.2 (by rw [zLedger_l1 hD]; exact o2.2.1) (by rw [zLedger_l1 hC]; exact o2.2.2) (by rw [zLedger_l1 hC]; decide) (by rw [zLedger_l1 hD]; decide) (Nat.le_of_ble_eq_true rfl) (Nat.le_of_ble_eq_true rfl) dX5_copy_20 (fun H locs hH hS => ?_)
  obtain ⟨X3, eX3⟩ : ∃ z, z = zCp X1 (j + 1) (i + 1) 0 0 6 := ⟨_, rfl⟩
  rw [← eX3] at hH
  have hF := hF X3 eX3 hH.2.2.1
  exact zd_vret C hr hlk hH hS (⟨rfl, rfl, hF⟩) dX5_copy_23
theorem v_X5_copy {X Y : Nat → Int → Int} {R : Nat → Int → Option Nat} {i j : Nat}  (hp : j ≠ i) : F_X5_copy i j X Y R  := by
  unfold F_X5_copy
  intro hX hY
  intro X1
  intro eX1
  intro rX1
  refine ⟨?_, ?_⟩
  · decide
  intro X3
  intro eX3
  intro rX3
  rw [eX3, eX1]
theorem c_X5_copy {l : Launch} {D : va_G} {cy : Nat → ClassId} {bs N : Nat} {sa : Nat → Nat} {kd len : Nat → Nat} {X Y : Nat → Int → Int} {R : Nat → Int → Option Nat} {i j : Nat} (hC : zLedger N kd len R i) (hD : zLedger N kd len R j)  (hp : j ≠ i) : Met l yX5_copy (.code yX5_copy cX5_copy 2 none :: zTB) (zRm 1 60) (zPc D cy bs sa N kd len X Y R [.ref (bs + (i)), .ref (bs + (j))]) (zQv D cy bs N kd len (fun st => st.2.1 = Y ∧ st.2.2 = R ∧ ((st.1) = zCp (zU X i 0 (X j 0)) (j + 1) (i + 1) 0 0 6))) 0 0 (zA bs) := w_X5_copy hC hD  (v_X5_copy  hp)
abbrev cX5_begin : ByteArray := prog_7_method_2_code
def yX5_begin : MethodName := ⟨RX5, "begin", "(LWorkChains$Net;)V"⟩
theorem dX5_begin_0 : decode cX5_begin 0 = .ok (.aload_n 0, 1) := by decide +kernel
theorem dX5_begin_1 : decode cX5_begin 1 = .ok (.aload_n 1, 1) := by decide +kernel
theorem dX5_begin_2 : decode cX5_begin 2 = .ok (.getfield 15, 3) := by decide +kernel
theorem dX5_begin_5 : decode cX5_begin 5 = .ok (.putfield 21, 3) := by decide +kernel
theorem dX5_begin_8 : decode cX5_begin 8 = .ok (.aload_n 1, 1) := by decide +kernel
theorem dX5_begin_9 : decode cX5_begin 9 = .ok (.getfield 22, 3) := by decide +kernel
theorem dX5_begin_12 : decode cX5_begin 12 = .ok (.iconst 0, 1) := by decide +kernel
theorem dX5_begin_13 : decode cX5_begin 13 = .ok (.aload_n 0, 1) := by decide +kernel
theorem dX5_begin_14 : decode cX5_begin 14 = .ok (.getfield 9, 3) := by decide +kernel
theorem dX5_begin_17 : decode cX5_begin 17 = .ok (.iconst 0, 1) := by decide +kernel
theorem dX5_begin_18 : decode cX5_begin 18 = .ok (.bipush 6, 2) := by decide +kernel
theorem dX5_begin_20 : decode cX5_begin 20 = .ok (.invokestatic 25, 3) := by decide +kernel
theorem dX5_begin_23 : decode cX5_begin 23 = .ok (.return_, 1) := by decide +kernel
theorem q_193 : Cond.fieldLink RX5 15 RX6 "accounts" "I" ∈ zTB := zmem 193 (by decide +kernel) rfl
theorem q_198 : Cond.fieldLink RX5 22 RX6 "first" "[I" ∈ zTB := zmem 198 (by decide +kernel) rfl
def F_X5_begin (i j : Nat) (X Y : Nat → Int → Int) (R : Nat → Int → Option Nat)  : Prop := (∀ i j, rI (X i j)) → (∀ i j, rL (Y i j)) → ∀ X1 : Nat → Int → Int, X1 = zU X (i) 0 (X (j) 6) → (∀ i j, rI (X1 i j)) → (((0 ≤ (0 : Int) ∧ 0 ≤ (0 : Int) ∧ 0 ≤ (6 : Int)) ∧ (0 : Int) + 6 ≤ 6 ∧ (0 : Int) + 6 ≤ 6) ∧ (∀ X3 : Nat → Int → Int, X3 = zCp X1 (j + 1) (i + 1) 0 0 6 → (∀ i j, rI (X3 i j)) → ((X3) = zCp (zU X i 0 (X j 6)) (j + 1) (i + 1) 0 0 6)))
set_option maxHeartbeats 4000000 in
set_option maxRecDepth 100000 in
theorem w_X5_begin {l : Launch} {D : va_G} {cy : Nat → ClassId} {bs N : Nat} {sa : Nat → Nat} {kd len : Nat → Nat} {X Y : Nat → Int → Int} {R : Nat → Int → Option Nat} {i j : Nat} (hC : zLedger N kd len R i) (hD : zNet N kd len R j)  (hF : F_X5_begin i j X Y R ) : Met l yX5_begin (.code yX5_begin cX5_begin 2 none :: zTB) (zRm 1 60) (zPc D cy bs sa N kd len X Y R [.ref (bs + (i)), .ref (bs + (j))]) (zQv D cy bs N kd len (fun st => st.2.1 = Y ∧ st.2.2 = R ∧ ((st.1) = zCp (zU X i 0 (X j 6)) (j + 1) (i + 1) 0 0 6))) 0 0 (zA bs) := by
  refine zstart (by decide) (Nat.le_of_ble_eq_true rfl) ?_
  intro p e s m args below meth c ls C hE hH hr hlk hnm hl hargs
  have hF := hF hH.2.2.1 hH.2.2.2
  have hS : va_S (zA bs) s.heap s.heap [] := va_S.rf
  have hl : lv_has ls 2 [(0, .ref (bs + (i))), (1, .ref (bs + (j)))] := hl
  refine lv_aload_n C.1 C.2.1 dX5_begin_0 rfl (lv_at hl 0 rfl) ?_
  refine lv_aload_n C.1 C.2.1 dX5_begin_1 rfl (lv_at hl 1 rfl) ?_
  refine zg6_6 C hH (zNet_n0 hD) (zNet_k0 hD) q_193 dX5_begin_2 ?_
  refine zp5_0 C hH hS (zLedger_n0 hC) (zLedger_k0 hC) q_382 (hH.2.2.1 _ _) dX5_begin_5 (fun H locs hH hS => ?_)
  obtain ⟨X1, eX1⟩ : ∃ z, z = zU X (i) 0 (X (j) 6) := ⟨_, rfl⟩
  rw [← eX1] at hH
  have hF := hF X1 eX1 hH.2.2.1
  refine lv_aload_n C.1 C.2.1 dX5_begin_8 rfl (lv_at hl 1 rfl) ?_
  refine zg6_7 C hH (zNet_n0 hD) (zNet_k0 hD) q_198 (zNet_r1 hD) dX5_begin_9 ?_
  refine zd_iconst C dX5_begin_12 ?_
  refine lv_aload_n C.1 C.2.1 dX5_begin_13 rfl (lv_at hl 0 rfl) ?_
  refine zg5_1 C hH (zLedger_n0 hC) (zLedger_k0 hC) q_383 (zLedger_r1 hC) dX5_begin_14 ?_
  refine zd_iconst C dX5_begin_17 ?_
  refine zd_bipush C (by decide) dX5_begin_18 ?_
  obtain ⟨o2, hF⟩ := hF
  refine zd_copyi C hl.1 hH hS (zLedger_n1 hC) (zNet_n1 hD) (zLedger_k1 hC) (zNet_k1 hD) q_930 q_793 q_792 q_146 o2.1.1 o2.1.2.1 o2.1.2.2 (by rw [zNet_l1 hD]; exact o2.2.1) (by rw [zLedger_l1 hC]; exact o2.2.2) (by rw [zLedger_l1 hC]; decide) (by rw [zNet_l1 hD]; decide) (Nat.le_of_ble_eq_true rfl) (Nat.le_of_ble_eq_true rfl) dX5_begin_20 (fun H locs hH hS => ?_)
  obtain ⟨X3, eX3⟩ : ∃ z, z = zCp X1 (j + 1) (i + 1) 0 0 6 := ⟨_, rfl⟩
  rw [← eX3] at hH
  have hF := hF X3 eX3 hH.2.2.1
  exact zd_vret C hr hlk hH hS (⟨rfl, rfl, hF⟩) dX5_begin_23
theorem v_X5_begin {X Y : Nat → Int → Int} {R : Nat → Int → Option Nat} {i j : Nat}  (hp : j ≠ i) : F_X5_begin i j X Y R  := by
  unfold F_X5_begin
  intro hX hY
  intro X1
  intro eX1
  intro rX1
  refine ⟨?_, ?_⟩
  · decide
  intro X3
  intro eX3
  intro rX3
  rw [eX3, eX1]
theorem c_X5_begin {l : Launch} {D : va_G} {cy : Nat → ClassId} {bs N : Nat} {sa : Nat → Nat} {kd len : Nat → Nat} {X Y : Nat → Int → Int} {R : Nat → Int → Option Nat} {i j : Nat} (hC : zLedger N kd len R i) (hD : zNet N kd len R j)  (hp : j ≠ i) : Met l yX5_begin (.code yX5_begin cX5_begin 2 none :: zTB) (zRm 1 60) (zPc D cy bs sa N kd len X Y R [.ref (bs + (i)), .ref (bs + (j))]) (zQv D cy bs N kd len (fun st => st.2.1 = Y ∧ st.2.2 = R ∧ ((st.1) = zCp (zU X i 0 (X j 6)) (j + 1) (i + 1) 0 0 6))) 0 0 (zA bs) := w_X5_begin hC hD  (v_X5_begin  hp)
