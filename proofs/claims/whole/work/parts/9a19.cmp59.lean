/-! CONSTRUCTORS: filling, reader -/
theorem z0N_mv {X X1 : Nat → Int → Int} {i : Nat} (e : X1 i = X i) (e1 : X1 (i + 1) = X (i + 1)) (h : z0N X i) : z0N X1 i := by
  unfold z0N
  rw [e, e1]
  exact h
theorem z0R_mv {X X1 : Nat → Int → Int} {i : Nat} {w m : Int} (e : X1 i = X i) (e1 : X1 (i + 1) = X (i + 1)) (h : z0R X i w m) : z0R X1 i w m := by
  unfold z0R
  rw [e, e1]
  exact h
theorem z0B_mv {X X1 : Nat → Int → Int} {i : Nat} (e0 : X1 i = X i) (e1 : X1 (i + 1) = X (i + 1)) (e2 : X1 (i + 2) = X (i + 2)) (e3 : X1 (i + 3) = X (i + 3)) (e4 : X1 (i + 4) = X (i + 4)) (e5 : X1 (i + 5) = X (i + 5)) (h : z0B X i) : z0B X1 i := by
  intro s hs y
  have q : s = 0 ∨ s = 1 ∨ s = 2 ∨ s = 3 ∨ s = 4 ∨ s = 5 := by omega
  have b := h s hs y
  rcases q with rfl | rfl | rfl | rfl | rfl | rfl
  · rw [Nat.add_zero] at b ⊢
    rw [e0]
    exact b
  · rw [e1]
    exact b
  · rw [e2]
    exact b
  · rw [e3]
    exact b
  · rw [e4]
    exact b
  · rw [e5]
    exact b
def eFi (R : Nat → Int → Option Nat) (i : Nat) : Prop := (R i 0 = some (i + 1) ∧ eRw R (i + 1)) ∧ (R i 1 = some (i + 3) ∧ R i 2 = some (i + 4) ∧ R i 3 = some (i + 5)) ∧ ∀ z : Nat, z < 4 → R (i + 3) z = some (i + 6 + 2 * z) ∧ eLd R (i + 6 + 2 * z)
def eRd (R : Nat → Int → Option Nat) (i : Nat) : Prop := (R i 0 = some (i + 1) ∧ eNt R (i + 1)) ∧ (R i 1 = some (i + 3) ∧ eBk R (i + 3)) ∧ (R i 2 = some (i + 9) ∧ R i 5 = some (i + 10) ∧ R i 11 = some (i + 11)) ∧ ∀ z : Nat, z < 3 → R (i + 9) z = some (i + 12 + 2 * z) ∧ eRw R (i + 12 + 2 * z)
def z0Rd (X : Nat → Int → Int) (i : Nat) : Prop := z0N X (i + 1) ∧ z0B X (i + 3) ∧ (∀ y, X (i + 11) y = 0) ∧ z0R X (i + 12) 2 40 ∧ z0R X (i + 14) 2 8 ∧ z0R X (i + 16) 4 6
abbrev cX3_init : ByteArray := prog_5_method_1_code
def yX3_init : MethodName := ⟨RX3, "<init>", "()V"⟩
theorem dX3_init_0 : decode cX3_init 0 = .ok (.aload_n 0, 1) := by decide +kernel
theorem dX3_init_1 : decode cX3_init 1 = .ok (.invokespecial 3, 3) := by decide +kernel
theorem dX3_init_4 : decode cX3_init 4 = .ok (.aload_n 0, 1) := by decide +kernel
theorem dX3_init_5 : decode cX3_init 5 = .ok (.new 9, 3) := by decide +kernel
theorem dX3_init_8 : decode cX3_init 8 = .ok (.dup, 1) := by decide +kernel
theorem dX3_init_9 : decode cX3_init 9 = .ok (.iconst 4, 1) := by decide +kernel
theorem dX3_init_10 : decode cX3_init 10 = .ok (.invokespecial 11, 3) := by decide +kernel
theorem dX3_init_13 : decode cX3_init 13 = .ok (.putfield 14, 3) := by decide +kernel
theorem dX3_init_16 : decode cX3_init 16 = .ok (.aload_n 0, 1) := by decide +kernel
theorem dX3_init_17 : decode cX3_init 17 = .ok (.iconst 4, 1) := by decide +kernel
theorem dX3_init_18 : decode cX3_init 18 = .ok (.anewarray 20, 3) := by decide +kernel
theorem dX3_init_21 : decode cX3_init 21 = .ok (.putfield 22, 3) := by decide +kernel
theorem dX3_init_24 : decode cX3_init 24 = .ok (.aload_n 0, 1) := by decide +kernel
theorem dX3_init_25 : decode cX3_init 25 = .ok (.iconst 3, 1) := by decide +kernel
theorem dX3_init_26 : decode cX3_init 26 = .ok (.newarray .int, 2) := by decide +kernel
theorem dX3_init_28 : decode cX3_init 28 = .ok (.putfield 26, 3) := by decide +kernel
theorem dX3_init_31 : decode cX3_init 31 = .ok (.aload_n 0, 1) := by decide +kernel
theorem dX3_init_32 : decode cX3_init 32 = .ok (.iconst 3, 1) := by decide +kernel
theorem dX3_init_33 : decode cX3_init 33 = .ok (.newarray .int, 2) := by decide +kernel
theorem dX3_init_35 : decode cX3_init 35 = .ok (.putfield 30, 3) := by decide +kernel
theorem dX3_init_38 : decode cX3_init 38 = .ok (.iconst 0, 1) := by decide +kernel
theorem dX3_init_39 : decode cX3_init 39 = .ok (.istore_n 1, 1) := by decide +kernel
theorem dX3_init_40 : decode cX3_init 40 = .ok (.iload_n 1, 1) := by decide +kernel
theorem dX3_init_41 : decode cX3_init 41 = .ok (.iconst 3, 1) := by decide +kernel
theorem dX3_init_42 : decode cX3_init 42 = .ok (.if_icmp .gt 22, 3) := by decide +kernel
theorem dX3_init_45 : decode cX3_init 45 = .ok (.aload_n 0, 1) := by decide +kernel
theorem dX3_init_46 : decode cX3_init 46 = .ok (.getfield 22, 3) := by decide +kernel
theorem dX3_init_49 : decode cX3_init 49 = .ok (.iload_n 1, 1) := by decide +kernel
theorem dX3_init_50 : decode cX3_init 50 = .ok (.new 20, 3) := by decide +kernel
theorem dX3_init_53 : decode cX3_init 53 = .ok (.dup, 1) := by decide +kernel
theorem dX3_init_54 : decode cX3_init 54 = .ok (.invokespecial 33, 3) := by decide +kernel
theorem dX3_init_57 : decode cX3_init 57 = .ok (.aastore, 1) := by decide +kernel
theorem dX3_init_58 : decode cX3_init 58 = .ok (.iinc 1 1, 3) := by decide +kernel
theorem dX3_init_61 : decode cX3_init 61 = .ok (.goto (-21), 3) := by decide +kernel
theorem dX3_init_64 : decode cX3_init 64 = .ok (.return_, 1) := by decide +kernel
theorem q_540 : Cond.methodLink RX3 3 Lib.objectInit ∈ zTB := zmem 540 (by decide +kernel) rfl
theorem q_541 : Cond.classLink RX3 9 RX8 ∈ zTB := zmem 541 (by decide +kernel) rfl
theorem q_254 : Cond.instantiable RX8 4 ∈ zTB := zmem 254 (by decide +kernel) rfl
theorem q_256 : Cond.instanceMethod yX8_init ∈ zTB := zmem 256 (by decide +kernel) rfl
theorem q_257 : Cond.code yX8_init cX8_init 2 none ∈ zTB := zmem 257 (by decide +kernel) rfl
theorem q_542 : Cond.methodLink RX3 11 yX8_init ∈ zTB := zmem 542 (by decide +kernel) rfl
theorem k_RX3_11 : zLi RX3 11 yX8_init cX8_init 2 1 := ⟨⟨q_542, q_256, q_133, q_257⟩, rfl, ⟨by decide, by decide⟩, by decide +kernel⟩
theorem q_543 : Cond.classLink RX3 20 RX5 ∈ zTB := zmem 543 (by decide +kernel) rfl
theorem k_RX3_33 : zLiN RX3 33 yX5_init "WorkChains" cX5_init 1 0 := ⟨⟨by decide +kernel, q_379, q_136, q_380⟩, rfl, ⟨by decide, by decide⟩, by decide +kernel⟩
set_option maxHeartbeats 4000000 in
set_option maxRecDepth 100000 in
def F_X3_init (i : Nat) (X Y : Nat → Int → Int) (R : Nat → Int → Option Nat)  : Prop := (∀ i j, rI (X i j)) → (∀ i j, rL (Y i j)) → ∀ X1 : Nat → Int → Int, X1 = zZ X (i + 1) 0 → (∀ i j, rI (X1 i j)) → (∀ Y2 : Nat → Int → Int, Y2 = zZ Y (i + 1) 0 → (∀ i j, rL (Y2 i j)) → (∀ R3 : Nat → Int → Option Nat, R3 = zZ R (i + 1) none → ((X1 (i + 1) = fun _ => 0) ∧ (∀ X5 : Nat → Int → Int, (∀ i j, rI (X5 i j)) → ∀ R6 : Nat → Int → Option Nat, ((∀ z, z ≠ (i + 1) → z ≠ i + 2 → X5 z = X1 z) ∧ (∀ z, z ≠ (i + 1) → R6 z = R3 z) ∧ eRw R6 (i + 1) ∧ z0R X5 (i + 1) 4 6) → (∀ R7 : Nat → Int → Option Nat, R7 = zU R6 (i) 0 (some ((i + 1))) → (∀ R8 : Nat → Int → Option Nat, R8 = zZ R7 (i + 3) none → (∀ R9 : Nat → Int → Option Nat, R9 = zU R8 (i) 1 (some ((i + 3))) → (∀ X10 : Nat → Int → Int, X10 = zZ X5 (i + 4) 0 → (∀ i j, rI (X10 i j)) → (∀ R11 : Nat → Int → Option Nat, R11 = zU R9 (i) 2 (some ((i + 4))) → (∀ X12 : Nat → Int → Int, X12 = zZ X10 (i + 5) 0 → (∀ i j, rI (X12 i j)) → (∀ R13 : Nat → Int → Option Nat, R13 = zU R11 (i) 3 (some ((i + 5))) → ((R13 i 1 = some (i + 3)) ∧ (∀ X16 : Nat → Int → Int, X16 = zZ X12 (i + 6) 0 → (∀ i j, rI (X16 i j)) → (∀ Y17 : Nat → Int → Int, Y17 = zZ Y2 (i + 6) 0 → (∀ i j, rL (Y17 i j)) → (∀ R18 : Nat → Int → Option Nat, R18 = zZ R13 (i + 6) none → ((X16 (i + 6) = fun _ => 0) ∧ (∀ X20 : Nat → Int → Int, (∀ i j, rI (X20 i j)) → ∀ R21 : Nat → Int → Option Nat, ((∀ z, z ≠ (i + 6) → z ≠ i + 7 → X20 z = X16 z) ∧ (∀ z, z ≠ (i + 6) → R21 z = R18 z) ∧ eLd R21 (i + 6)) → (∀ R22 : Nat → Int → Option Nat, R22 = zU R21 ((i + 3)) (0) (some ((i + 6))) → ((R22 i 1 = some (i + 3)) ∧ (∀ X25 : Nat → Int → Int, X25 = zZ X20 (i + 8) 0 → (∀ i j, rI (X25 i j)) → (∀ Y26 : Nat → Int → Int, Y26 = zZ Y17 (i + 8) 0 → (∀ i j, rL (Y26 i j)) → (∀ R27 : Nat → Int → Option Nat, R27 = zZ R22 (i + 8) none → ((X25 (i + 8) = fun _ => 0) ∧ (∀ X29 : Nat → Int → Int, (∀ i j, rI (X29 i j)) → ∀ R30 : Nat → Int → Option Nat, ((∀ z, z ≠ (i + 8) → z ≠ i + 9 → X29 z = X25 z) ∧ (∀ z, z ≠ (i + 8) → R30 z = R27 z) ∧ eLd R30 (i + 8)) → (∀ R31 : Nat → Int → Option Nat, R31 = zU R30 ((i + 3)) (1) (some ((i + 8))) → ((R31 i 1 = some (i + 3)) ∧ (∀ X34 : Nat → Int → Int, X34 = zZ X29 (i + 10) 0 → (∀ i j, rI (X34 i j)) → (∀ Y35 : Nat → Int → Int, Y35 = zZ Y26 (i + 10) 0 → (∀ i j, rL (Y35 i j)) → (∀ R36 : Nat → Int → Option Nat, R36 = zZ R31 (i + 10) none → ((X34 (i + 10) = fun _ => 0) ∧ (∀ X38 : Nat → Int → Int, (∀ i j, rI (X38 i j)) → ∀ R39 : Nat → Int → Option Nat, ((∀ z, z ≠ (i + 10) → z ≠ i + 11 → X38 z = X34 z) ∧ (∀ z, z ≠ (i + 10) → R39 z = R36 z) ∧ eLd R39 (i + 10)) → (∀ R40 : Nat → Int → Option Nat, R40 = zU R39 ((i + 3)) (2) (some ((i + 10))) → ((R40 i 1 = some (i + 3)) ∧ (∀ X43 : Nat → Int → Int, X43 = zZ X38 (i + 12) 0 → (∀ i j, rI (X43 i j)) → (∀ Y44 : Nat → Int → Int, Y44 = zZ Y35 (i + 12) 0 → (∀ i j, rL (Y44 i j)) → (∀ R45 : Nat → Int → Option Nat, R45 = zZ R40 (i + 12) none → ((X43 (i + 12) = fun _ => 0) ∧ (∀ X47 : Nat → Int → Int, (∀ i j, rI (X47 i j)) → ∀ R48 : Nat → Int → Option Nat, ((∀ z, z ≠ (i + 12) → z ≠ i + 13 → X47 z = X43 z) ∧ (∀ z, z ≠ (i + 12) → R48 z = R45 z) ∧ eLd R48 (i + 12)) → (∀ R49 : Nat → Int → Option Nat, R49 = zU R48 ((i + 3)) (3) (some ((i + 12))) → ((∀ z, (z < i ∨ i + 13 < z) → X47 z = X z) ∧ (∀ z, (z < i ∨ i + 13 < z) → R49 z = R z) ∧ eFi R49 i))))))))))))))))))))))))))))))))))))))))
set_option maxHeartbeats 4000000 in
set_option maxRecDepth 100000 in
theorem w_X3_init {l : Launch} {D : va_G} {cy : Nat → ClassId} {bs : Nat} {sa : Nat → Nat} {kd len : Nat → Nat} {X Y : Nat → Int → Int} {R : Nat → Int → Option Nat} {i : Nat} (hK : kT kd len i tFilling)  (hF : F_X3_init i X Y R ) : Met l yX3_init (.code yX3_init cX3_init 2 none :: zTB) (zRmG 2 81 13 70) (zPcA D cy bs sa (i + 1) kd len X Y R [.ref (bs + (i))]) (zQv D cy bs (i + 14) kd len (fun st => ((∀ z, (z < i ∨ i + 13 < z) → st.1 z = X z) ∧ (∀ z, (z < i ∨ i + 13 < z) → st.2.2 z = R z) ∧ eFi st.2.2 i))) 13 70 (zA bs) := by
  refine zstartGA (by decide) (Nat.le_of_ble_eq_true rfl) ?_
  intro p e s m args below meth c ls C hE hA hH hr hlk hnm hl hargs
  have hF := hF hH.2.2.1 hH.2.2.2
  have hS : va_S (zA bs) s.heap s.heap [] := va_S.rf
  have hl : lv_has ls 2 [(0, .ref (bs + (i)))] := hl
  refine lv_aload_n C.1 C.2.1 dX3_init_0 rfl (lv_at hl 0 rfl) ?_
  refine zd_oinit C hl.1 q_540 q_154 q_155 (Nat.le_of_ble_eq_true rfl) dX3_init_1 (Nat.le_of_ble_eq_true rfl) (Nat.le_of_ble_eq_true rfl) ?_
  refine lv_aload_n C.1 C.2.1 dX3_init_4 rfl (lv_at hl 0 rfl) ?_
  refine zd_newO C hH hS (ci := 8) rfl zin8 tyX8 tyX8_ok q_541 q_254 q_133 (kT_k (k := 8) (l := 0) hK 1 (by decide +kernel)) rfl zO8 (Nat.le_of_ble_eq_true rfl) (Nat.le_of_ble_eq_true rfl) dX3_init_5 (fun H hH hS => ?_)
  obtain ⟨X1, eX1⟩ : ∃ z, z = zZ X (i + 1) 0 := ⟨_, rfl⟩
  rw [← eX1] at hH
  have hF := hF X1 eX1 hH.2.2.1
  obtain ⟨Y2, eY2⟩ : ∃ z, z = zZ Y (i + 1) 0 := ⟨_, rfl⟩
  rw [← eY2] at hH
  have hF := hF Y2 eY2 hH.2.2.2
  obtain ⟨R3, eR3⟩ : ∃ z, z = zZ R (i + 1) none := ⟨_, rfl⟩
  rw [← eR3] at hH
  have hF := hF R3 eR3
  refine lv_dup C.1 C.2.1 dX3_init_8 rfl ?_
  refine zd_iconst C dX3_init_9 ?_
  obtain ⟨o4, hF⟩ := hF
  refine zgovG (zrunIG (As := [.int (zI (4))]) (rest := [.ref (bs + ((i + 1))), .ref (bs + (i))]) C hE hA hH hS hl.1 (c_X8_init4 (l := l) (kT_sub hK 1 tRows4 (by decide +kernel))  o4) k_RX3_11 ⟨Nat.le_of_ble_eq_true rfl, Nat.le_of_ble_eq_true rfl⟩ rfl (Nat.le_of_ble_eq_true rfl) dX3_init_10 ⟨Nat.le_of_ble_eq_true rfl, Nat.le_of_ble_eq_true rfl⟩) hS (fun X5 Yq R6 H locs hq hH hS => ?_)
  obtain ⟨h9Y, hq⟩ := hq
  dsimp only at h9Y
  rw [h9Y] at hH
  have hF := hF X5 hH.2.2.1 R6 hq
  refine zp3_0 C hH hS (by omega) (kT_0 (k := 3) (l := 0) hK (by decide +kernel)) q_545 dX3_init_13 (fun H locs hH hS => ?_)
  obtain ⟨R7, eR7⟩ : ∃ z, z = zU R6 (i) 0 (some ((i + 1))) := ⟨_, rfl⟩
  rw [← eR7] at hH
  have hF := hF R7 eR7
  refine lv_aload_n C.1 C.2.1 dX3_init_16 rfl (lv_at hl 0 rfl) ?_
  refine zd_iconst C dX3_init_17 ?_
  refine zd_newR (k := 1) C hH hS q_543 hA.1.2.1 rfl (n := 4) rfl (by decide) (kT_k (k := 17) (l := 4) hK 3 (by decide +kernel)) (kT_l (k := 17) (l := 4) hK 3 (by decide +kernel)) (Nat.le_of_ble_eq_true rfl) (Nat.le_of_ble_eq_true rfl) dX3_init_18 (fun H hH hS => ?_)
  obtain ⟨R8, eR8⟩ : ∃ z, z = zZ R7 (i + 3) none := ⟨_, rfl⟩
  rw [← eR8] at hH
  have hF := hF R8 eR8
  refine zp3_1 C hH hS (by omega) (kT_0 (k := 3) (l := 0) hK (by decide +kernel)) q_546 hnm rfl dX3_init_21 (fun H locs hH hS => ?_)
  obtain ⟨R9, eR9⟩ : ∃ z, z = zU R8 (i) 1 (some ((i + 3))) := ⟨_, rfl⟩
  rw [← eR9] at hH
  have hF := hF R9 eR9
  refine lv_aload_n C.1 C.2.1 dX3_init_24 rfl (lv_at hl 0 rfl) ?_
  refine zd_iconst C dX3_init_25 ?_
  refine zd_newI C hH hS q_218 (n := 3) rfl (by decide) (kT_k (k := 13) (l := 3) hK 4 (by decide +kernel)) (kT_l (k := 13) (l := 3) hK 4 (by decide +kernel)) (Nat.le_of_ble_eq_true rfl) (Nat.le_of_ble_eq_true rfl) dX3_init_26 (fun H hH hS => ?_)
  obtain ⟨X10, eX10⟩ : ∃ z, z = zZ X5 (i + 4) 0 := ⟨_, rfl⟩
  rw [← eX10] at hH
  have hF := hF X10 eX10 hH.2.2.1
  refine zp3_2 C hH hS (by omega) (kT_0 (k := 3) (l := 0) hK (by decide +kernel)) q_547 hnm rfl dX3_init_28 (fun H locs hH hS => ?_)
  obtain ⟨R11, eR11⟩ : ∃ z, z = zU R9 (i) 2 (some ((i + 4))) := ⟨_, rfl⟩
  rw [← eR11] at hH
  have hF := hF R11 eR11
  refine lv_aload_n C.1 C.2.1 dX3_init_31 rfl (lv_at hl 0 rfl) ?_
  refine zd_iconst C dX3_init_32 ?_
  refine zd_newI C hH hS q_218 (n := 3) rfl (by decide) (kT_k (k := 13) (l := 3) hK 5 (by decide +kernel)) (kT_l (k := 13) (l := 3) hK 5 (by decide +kernel)) (Nat.le_of_ble_eq_true rfl) (Nat.le_of_ble_eq_true rfl) dX3_init_33 (fun H hH hS => ?_)
  obtain ⟨X12, eX12⟩ : ∃ z, z = zZ X10 (i + 5) 0 := ⟨_, rfl⟩
  rw [← eX12] at hH
  have hF := hF X12 eX12 hH.2.2.1
  refine zp3_3 C hH hS (by omega) (kT_0 (k := 3) (l := 0) hK (by decide +kernel)) q_548 hnm rfl dX3_init_35 (fun H locs hH hS => ?_)
  obtain ⟨R13, eR13⟩ : ∃ z, z = zU R11 (i) 3 (some ((i + 5))) := ⟨_, rfl⟩
  rw [← eR13] at hH
  have hF := hF R13 eR13
  refine zd_iconst C dX3_init_38 ?_
  refine lv_istore_n (lv' := [(1, .int (zI (0))), (0, .ref (bs + (i)))]) C.1 C.2.1 dX3_init_39 rfl hl (by decide) rfl (fun ls hl => ?_)
  refine lv_iload_n C.1 C.2.1 dX3_init_40 rfl (lv_at hl 0 rfl) ?_
  refine zd_iconst C dX3_init_41 ?_
  refine zd_icmp_gt C (by decide) (by decide) 64 dX3_init_42 (by decide) (fun c14 => ?_) (fun c14 => ?_)
  · exact absurd c14 (by decide)
  · refine lv_aload_n C.1 C.2.1 dX3_init_45 rfl (lv_at hl 1 rfl) ?_
    obtain ⟨o15, hF⟩ := hF
    refine zg3_1 C hH (by omega) (kT_0 (k := 3) (l := 0) hK (by decide +kernel)) q_546 o15 dX3_init_46 ?_
    refine lv_iload_n C.1 C.2.1 dX3_init_49 rfl (lv_at hl 0 rfl) ?_
    refine zd_newO C hH hS (ci := 5) rfl zin5 tyX5 tyX5_ok q_543 q_377 q_136 (kT_k (k := 5) (l := 0) hK 6 (by decide +kernel)) rfl zO5 (Nat.le_of_ble_eq_true rfl) (Nat.le_of_ble_eq_true rfl) dX3_init_50 (fun H hH hS => ?_)
    obtain ⟨X16, eX16⟩ : ∃ z, z = zZ X12 (i + 6) 0 := ⟨_, rfl⟩
    rw [← eX16] at hH
    have hF := hF X16 eX16 hH.2.2.1
    obtain ⟨Y17, eY17⟩ : ∃ z, z = zZ Y2 (i + 6) 0 := ⟨_, rfl⟩
    rw [← eY17] at hH
    have hF := hF Y17 eY17 hH.2.2.2
    obtain ⟨R18, eR18⟩ : ∃ z, z = zZ R13 (i + 6) none := ⟨_, rfl⟩
    rw [← eR18] at hH
    have hF := hF R18 eR18
    refine lv_dup C.1 C.2.1 dX3_init_53 rfl ?_
    obtain ⟨o19, hF⟩ := hF
    refine zgovG (zrunING (As := []) (rest := [.ref (bs + ((i + 6))), .int (zI (0)), .ref (bs + ((i + 3)))]) C hE hA hH hS hl.1 (c_X5_init (l := l) (kT_sub hK 6 tLedger (by decide +kernel))  o19) k_RX3_33 ⟨Nat.le_of_ble_eq_true rfl, Nat.le_of_ble_eq_true rfl⟩ rfl (Nat.le_of_ble_eq_true rfl) dX3_init_54 ⟨Nat.le_of_ble_eq_true rfl, Nat.le_of_ble_eq_true rfl⟩) hS (fun X20 Yq R21 H locs hq hH hS => ?_)
    obtain ⟨h9Y, hq⟩ := hq
    dsimp only at h9Y
    rw [h9Y] at hH
    have hF := hF X20 hH.2.2.1 R21 hq
    refine zd_aastr (k := 1) (ci := 5) C hH hS (by omega) (kT_k (k := 17) (l := 4) hK 3 (by decide +kernel)) (by omega) (kT_k (k := 5) (l := 0) hK 6 (by decide +kernel)) rfl rfl rfl (by decide) (by rw [(kT_l (k := 17) (l := 4) hK 3 (by decide +kernel))]; decide) (by rw [(kT_l (k := 17) (l := 4) hK 3 (by decide +kernel))]; decide) dX3_init_57 (fun H locs hH hS => ?_)
    obtain ⟨R22, eR22⟩ : ∃ z, z = zU R21 ((i + 3)) (0) (some ((i + 6))) := ⟨_, rfl⟩
    rw [← eR22] at hH
    have hF := hF R22 eR22
    refine zd_iinc (k := 0) (lv' := [(1, .int (zI (1))), (0, .ref (bs + (i)))]) C hl rfl dX3_init_58 (by decide) rfl (fun ls hl => ?_)
    refine lv_goto (tgt := 40) C.1 C.2.1 dX3_init_61 (by decide) ?_
    refine lv_iload_n C.1 C.2.1 dX3_init_40 rfl (lv_at hl 0 rfl) ?_
    refine zd_iconst C dX3_init_41 ?_
    refine zd_icmp_gt C (by decide) (by decide) 64 dX3_init_42 (by decide) (fun c23 => ?_) (fun c23 => ?_)
    · exact absurd c23 (by decide)
    · refine lv_aload_n C.1 C.2.1 dX3_init_45 rfl (lv_at hl 1 rfl) ?_
      obtain ⟨o24, hF⟩ := hF
      refine zg3_1 C hH (by omega) (kT_0 (k := 3) (l := 0) hK (by decide +kernel)) q_546 o24 dX3_init_46 ?_
      refine lv_iload_n C.1 C.2.1 dX3_init_49 rfl (lv_at hl 0 rfl) ?_
      refine zd_newO C hH hS (ci := 5) rfl zin5 tyX5 tyX5_ok q_543 q_377 q_136 (kT_k (k := 5) (l := 0) hK 8 (by decide +kernel)) rfl zO5 (Nat.le_of_ble_eq_true rfl) (Nat.le_of_ble_eq_true rfl) dX3_init_50 (fun H hH hS => ?_)
      obtain ⟨X25, eX25⟩ : ∃ z, z = zZ X20 (i + 8) 0 := ⟨_, rfl⟩
      rw [← eX25] at hH
      have hF := hF X25 eX25 hH.2.2.1
      obtain ⟨Y26, eY26⟩ : ∃ z, z = zZ Y17 (i + 8) 0 := ⟨_, rfl⟩
      rw [← eY26] at hH
      have hF := hF Y26 eY26 hH.2.2.2
      obtain ⟨R27, eR27⟩ : ∃ z, z = zZ R22 (i + 8) none := ⟨_, rfl⟩
      rw [← eR27] at hH
      have hF := hF R27 eR27
      refine lv_dup C.1 C.2.1 dX3_init_53 rfl ?_
      obtain ⟨o28, hF⟩ := hF
      refine zgovG (zrunING (As := []) (rest := [.ref (bs + ((i + 8))), .int (zI (1)), .ref (bs + ((i + 3)))]) C hE hA hH hS hl.1 (c_X5_init (l := l) (kT_sub hK 8 tLedger (by decide +kernel))  o28) k_RX3_33 ⟨Nat.le_of_ble_eq_true rfl, Nat.le_of_ble_eq_true rfl⟩ rfl (Nat.le_of_ble_eq_true rfl) dX3_init_54 ⟨Nat.le_of_ble_eq_true rfl, Nat.le_of_ble_eq_true rfl⟩) hS (fun X29 Yq R30 H locs hq hH hS => ?_)
      obtain ⟨h9Y, hq⟩ := hq
      dsimp only at h9Y
      rw [h9Y] at hH
      have hF := hF X29 hH.2.2.1 R30 hq
      refine zd_aastr (k := 1) (ci := 5) C hH hS (by omega) (kT_k (k := 17) (l := 4) hK 3 (by decide +kernel)) (by omega) (kT_k (k := 5) (l := 0) hK 8 (by decide +kernel)) rfl rfl rfl (by decide) (by rw [(kT_l (k := 17) (l := 4) hK 3 (by decide +kernel))]; decide) (by rw [(kT_l (k := 17) (l := 4) hK 3 (by decide +kernel))]; decide) dX3_init_57 (fun H locs hH hS => ?_)
      obtain ⟨R31, eR31⟩ : ∃ z, z = zU R30 ((i + 3)) (1) (some ((i + 8))) := ⟨_, rfl⟩
      rw [← eR31] at hH
      have hF := hF R31 eR31
      refine zd_iinc (k := 0) (lv' := [(1, .int (zI (2))), (0, .ref (bs + (i)))]) C hl rfl dX3_init_58 (by decide) rfl (fun ls hl => ?_)
      refine lv_goto (tgt := 40) C.1 C.2.1 dX3_init_61 (by decide) ?_
      refine lv_iload_n C.1 C.2.1 dX3_init_40 rfl (lv_at hl 0 rfl) ?_
      refine zd_iconst C dX3_init_41 ?_
      refine zd_icmp_gt C (by decide) (by decide) 64 dX3_init_42 (by decide) (fun c32 => ?_) (fun c32 => ?_)
      · exact absurd c32 (by decide)
      · refine lv_aload_n C.1 C.2.1 dX3_init_45 rfl (lv_at hl 1 rfl) ?_
        obtain ⟨o33, hF⟩ := hF
        refine zg3_1 C hH (by omega) (kT_0 (k := 3) (l := 0) hK (by decide +kernel)) q_546 o33 dX3_init_46 ?_
        refine lv_iload_n C.1 C.2.1 dX3_init_49 rfl (lv_at hl 0 rfl) ?_
        refine zd_newO C hH hS (ci := 5) rfl zin5 tyX5 tyX5_ok q_543 q_377 q_136 (kT_k (k := 5) (l := 0) hK 10 (by decide +kernel)) rfl zO5 (Nat.le_of_ble_eq_true rfl) (Nat.le_of_ble_eq_true rfl) dX3_init_50 (fun H hH hS => ?_)
        obtain ⟨X34, eX34⟩ : ∃ z, z = zZ X29 (i + 10) 0 := ⟨_, rfl⟩
        rw [← eX34] at hH
        have hF := hF X34 eX34 hH.2.2.1
        obtain ⟨Y35, eY35⟩ : ∃ z, z = zZ Y26 (i + 10) 0 := ⟨_, rfl⟩
        rw [← eY35] at hH
        have hF := hF Y35 eY35 hH.2.2.2
        obtain ⟨R36, eR36⟩ : ∃ z, z = zZ R31 (i + 10) none := ⟨_, rfl⟩
        rw [← eR36] at hH
        have hF := hF R36 eR36
        refine lv_dup C.1 C.2.1 dX3_init_53 rfl ?_
        obtain ⟨o37, hF⟩ := hF
        refine zgovG (zrunING (As := []) (rest := [.ref (bs + ((i + 10))), .int (zI (2)), .ref (bs + ((i + 3)))]) C hE hA hH hS hl.1 (c_X5_init (l := l) (kT_sub hK 10 tLedger (by decide +kernel))  o37) k_RX3_33 ⟨Nat.le_of_ble_eq_true rfl, Nat.le_of_ble_eq_true rfl⟩ rfl (Nat.le_of_ble_eq_true rfl) dX3_init_54 ⟨Nat.le_of_ble_eq_true rfl, Nat.le_of_ble_eq_true rfl⟩) hS (fun X38 Yq R39 H locs hq hH hS => ?_)
        obtain ⟨h9Y, hq⟩ := hq
        dsimp only at h9Y
        rw [h9Y] at hH
        have hF := hF X38 hH.2.2.1 R39 hq
        refine zd_aastr (k := 1) (ci := 5) C hH hS (by omega) (kT_k (k := 17) (l := 4) hK 3 (by decide +kernel)) (by omega) (kT_k (k := 5) (l := 0) hK 10 (by decide +kernel)) rfl rfl rfl (by decide) (by rw [(kT_l (k := 17) (l := 4) hK 3 (by decide +kernel))]; decide) (by rw [(kT_l (k := 17) (l := 4) hK 3 (by decide +kernel))]; decide) dX3_init_57 (fun H locs hH hS => ?_)
        obtain ⟨R40, eR40⟩ : ∃ z, z = zU R39 ((i + 3)) (2) (some ((i + 10))) := ⟨_, rfl⟩
        rw [← eR40] at hH
        have hF := hF R40 eR40
        refine zd_iinc (k := 0) (lv' := [(1, .int (zI (3))), (0, .ref (bs + (i)))]) C hl rfl dX3_init_58 (by decide) rfl (fun ls hl => ?_)
        refine lv_goto (tgt := 40) C.1 C.2.1 dX3_init_61 (by decide) ?_
        refine lv_iload_n C.1 C.2.1 dX3_init_40 rfl (lv_at hl 0 rfl) ?_
        refine zd_iconst C dX3_init_41 ?_
        refine zd_icmp_gt C (by decide) (by decide) 64 dX3_init_42 (by decide) (fun c41 => ?_) (fun c41 => ?_)
        · exact absurd c41 (by decide)
        · refine lv_aload_n C.1 C.2.1 dX3_init_45 rfl (lv_at hl 1 rfl) ?_
          obtain ⟨o42, hF⟩ := hF
          refine zg3_1 C hH (by omega) (kT_0 (k := 3) (l := 0) hK (by decide +kernel)) q_546 o42 dX3_init_46 ?_
          refine lv_iload_n C.1 C.2.1 dX3_init_49 rfl (lv_at hl 0 rfl) ?_
          refine zd_newO C hH hS (ci := 5) rfl zin5 tyX5 tyX5_ok q_543 q_377 q_136 (kT_k (k := 5) (l := 0) hK 12 (by decide +kernel)) rfl zO5 (Nat.le_of_ble_eq_true rfl) (Nat.le_of_ble_eq_true rfl) dX3_init_50 (fun H hH hS => ?_)
          obtain ⟨X43, eX43⟩ : ∃ z, z = zZ X38 (i + 12) 0 := ⟨_, rfl⟩
          rw [← eX43] at hH
          have hF := hF X43 eX43 hH.2.2.1
          obtain ⟨Y44, eY44⟩ : ∃ z, z = zZ Y35 (i + 12) 0 := ⟨_, rfl⟩
          rw [← eY44] at hH
          have hF := hF Y44 eY44 hH.2.2.2
          obtain ⟨R45, eR45⟩ : ∃ z, z = zZ R40 (i + 12) none := ⟨_, rfl⟩
          rw [← eR45] at hH
          have hF := hF R45 eR45
          refine lv_dup C.1 C.2.1 dX3_init_53 rfl ?_
          obtain ⟨o46, hF⟩ := hF
          refine zgovG (zrunING (As := []) (rest := [.ref (bs + ((i + 12))), .int (zI (3)), .ref (bs + ((i + 3)))]) C hE hA hH hS hl.1 (c_X5_init (l := l) (kT_sub hK 12 tLedger (by decide +kernel))  o46) k_RX3_33 ⟨Nat.le_of_ble_eq_true rfl, Nat.le_of_ble_eq_true rfl⟩ rfl (Nat.le_of_ble_eq_true rfl) dX3_init_54 ⟨Nat.le_of_ble_eq_true rfl, Nat.le_of_ble_eq_true rfl⟩) hS (fun X47 Yq R48 H locs hq hH hS => ?_)
          obtain ⟨h9Y, hq⟩ := hq
          dsimp only at h9Y
          rw [h9Y] at hH
          have hF := hF X47 hH.2.2.1 R48 hq
          refine zd_aastr (k := 1) (ci := 5) C hH hS (by omega) (kT_k (k := 17) (l := 4) hK 3 (by decide +kernel)) (by omega) (kT_k (k := 5) (l := 0) hK 12 (by decide +kernel)) rfl rfl rfl (by decide) (by rw [(kT_l (k := 17) (l := 4) hK 3 (by decide +kernel))]; decide) (by rw [(kT_l (k := 17) (l := 4) hK 3 (by decide +kernel))]; decide) dX3_init_57 (fun H locs hH hS => ?_)
          obtain ⟨R49, eR49⟩ : ∃ z, z = zU R48 ((i + 3)) (3) (some ((i + 12))) := ⟨_, rfl⟩
          rw [← eR49] at hH
          have hF := hF R49 eR49
          refine zd_iinc (k := 0) (lv' := [(1, .int (zI (4))), (0, .ref (bs + (i)))]) C hl rfl dX3_init_58 (by decide) rfl (fun ls hl => ?_)
          refine lv_goto (tgt := 40) C.1 C.2.1 dX3_init_61 (by decide) ?_
          refine lv_iload_n C.1 C.2.1 dX3_init_40 rfl (lv_at hl 0 rfl) ?_
          refine zd_iconst C dX3_init_41 ?_
          refine zd_icmp_gt C (by decide) (by decide) 64 dX3_init_42 (by decide) (fun c50 => ?_) (fun c50 => ?_)
          · refine W_raise (cells := 13) (slots := 70) (Nat.le_of_ble_eq_true rfl) (Nat.le_of_ble_eq_true rfl) ?_
            exact zd_vretG C hr hlk hH hS (hF) dX3_init_64
          · exact absurd (by decide) c50
set_option maxHeartbeats 8000000 in
set_option maxRecDepth 100000 in
theorem v_X3_init {X Y : Nat → Int → Int} {R : Nat → Int → Option Nat} {i : Nat}  (hp : X i = fun _ => 0) : F_X3_init i X Y R  := by
  unfold F_X3_init
  intro hX hY
  intro X1
  intro eX1
  intro rX1
  intro Y2
  intro eY2
  intro rY2
  intro R3
  intro eR3
  refine ⟨?_, ?_⟩
  · rw [eX1]; exact zZ_s
  intro X5
  intro rX5
  intro R6
  intro h1
  intro R7
  intro eR7
  intro R8
  intro eR8
  intro R9
  intro eR9
  intro X10
  intro eX10
  intro rX10
  intro R11
  intro eR11
  intro X12
  intro eX12
  intro rX12
  intro R13
  intro eR13
  refine ⟨?_, ?_⟩
  · rw [eR13, zU_n (by omega), eR11, zU_n (by omega), eR9]; exact zU_s
  intro X16
  intro eX16
  intro rX16
  intro Y17
  intro eY17
  intro rY17
  intro R18
  intro eR18
  refine ⟨?_, ?_⟩
  · rw [eX16]; exact zZ_s
  intro X20
  intro rX20
  intro R21
  intro h2
  intro R22
  intro eR22
  refine ⟨?_, ?_⟩
  · rw [eR22, zU_n (by omega), h2.2.1 (i) (by omega), eR18, zZ_o (by omega), eR13, zU_n (by omega), eR11, zU_n (by omega), eR9]; exact zU_s
  intro X25
  intro eX25
  intro rX25
  intro Y26
  intro eY26
  intro rY26
  intro R27
  intro eR27
  refine ⟨?_, ?_⟩
  · rw [eX25]; exact zZ_s
  intro X29
  intro rX29
  intro R30
  intro h3
  intro R31
  intro eR31
  refine ⟨?_, ?_⟩
  · rw [eR31, zU_n (by omega), h3.2.1 (i) (by omega), eR27, zZ_o (by omega), eR22, zU_n (by omega), h2.2.1 (i) (by omega), eR18, zZ_o (by omega), eR13, zU_n (by omega), eR11, zU_n (by omega), eR9]; exact zU_s
  intro X34
  intro eX34
  intro rX34
  intro Y35
  intro eY35
  intro rY35
  intro R36
  intro eR36
  refine ⟨?_, ?_⟩
  · rw [eX34]; exact zZ_s
  intro X38
  intro rX38
  intro R39
  intro h4
  intro R40
  intro eR40
  refine ⟨?_, ?_⟩
  · rw [eR40, zU_n (by omega), h4.2.1 (i) (by omega), eR36, zZ_o (by omega), eR31, zU_n (by omega), h3.2.1 (i) (by omega), eR27, zZ_o (by omega), eR22, zU_n (by omega), h2.2.1 (i) (by omega), eR18, zZ_o (by omega), eR13, zU_n (by omega), eR11, zU_n (by omega), eR9]; exact zU_s
  intro X43
  intro eX43
  intro rX43
  intro Y44
  intro eY44
  intro rY44
  intro R45
  intro eR45
  refine ⟨?_, ?_⟩
  · rw [eX43]; exact zZ_s
  intro X47
  intro rX47
  intro R48
  intro h5
  intro R49
  intro eR49
  have l0 : R49 (i + 3) 0 = some (i + 6) ∧ eLd R49 (i + 6) := ⟨by rw [eR49, zU_n (by omega), h5.2.1 (i + 3) (by omega), eR45, zZ_o (by omega), eR40, zU_n (by omega), h4.2.1 (i + 3) (by omega), eR36, zZ_o (by omega), eR31, zU_n (by omega), h3.2.1 (i + 3) (by omega), eR27, zZ_o (by omega), eR22]; exact zU_s, eLd_mv (by rw [eR49, zU_o (by omega), h5.2.1 (i + 6) (by omega), eR45, zZ_o (by omega), eR40, zU_o (by omega), h4.2.1 (i + 6) (by omega), eR36, zZ_o (by omega), eR31, zU_o (by omega), h3.2.1 (i + 6) (by omega), eR27, zZ_o (by omega), eR22, zU_o (by omega)]) h2.2.2⟩
  have l1 : R49 (i + 3) 1 = some (i + 8) ∧ eLd R49 (i + 8) := ⟨by rw [eR49, zU_n (by omega), h5.2.1 (i + 3) (by omega), eR45, zZ_o (by omega), eR40, zU_n (by omega), h4.2.1 (i + 3) (by omega), eR36, zZ_o (by omega), eR31]; exact zU_s, eLd_mv (by rw [eR49, zU_o (by omega), h5.2.1 (i + 8) (by omega), eR45, zZ_o (by omega), eR40, zU_o (by omega), h4.2.1 (i + 8) (by omega), eR36, zZ_o (by omega), eR31, zU_o (by omega)]) h3.2.2⟩
  have l2 : R49 (i + 3) 2 = some (i + 10) ∧ eLd R49 (i + 10) := ⟨by rw [eR49, zU_n (by omega), h5.2.1 (i + 3) (by omega), eR45, zZ_o (by omega), eR40]; exact zU_s, eLd_mv (by rw [eR49, zU_o (by omega), h5.2.1 (i + 10) (by omega), eR45, zZ_o (by omega), eR40, zU_o (by omega)]) h4.2.2⟩
  have l3 : R49 (i + 3) 3 = some (i + 12) ∧ eLd R49 (i + 12) := ⟨by rw [eR49]; exact zU_s, eLd_mv (by rw [eR49, zU_o (by omega)]) h5.2.2⟩
  have hl : ∀ z : Nat, z < 4 → R49 (i + 3) z = some (i + 6 + 2 * z) ∧ eLd R49 (i + 6 + 2 * z) := by
    intro z hz
    have q : z = 0 ∨ z = 1 ∨ z = 2 ∨ z = 3 := by omega
    rcases q with rfl | rfl | rfl | rfl
    · exact l0
    · exact l1
    · exact l2
    · exact l3
  exact ⟨fun z g => by rw [h5.1 (z) (by omega) (by omega), eX43, zZ_o (by omega), h4.1 (z) (by omega) (by omega), eX34, zZ_o (by omega), h3.1 (z) (by omega) (by omega), eX25, zZ_o (by omega), h2.1 (z) (by omega) (by omega), eX16, zZ_o (by omega), eX12, zZ_o (by omega), eX10, zZ_o (by omega), h1.1 (z) (by omega) (by omega), eX1, zZ_o (by omega)], fun z g => by rw [eR49, zU_o (by omega), h5.2.1 (z) (by omega), eR45, zZ_o (by omega), eR40, zU_o (by omega), h4.2.1 (z) (by omega), eR36, zZ_o (by omega), eR31, zU_o (by omega), h3.2.1 (z) (by omega), eR27, zZ_o (by omega), eR22, zU_o (by omega), h2.2.1 (z) (by omega), eR18, zZ_o (by omega), eR13, zU_o (by omega), eR11, zU_o (by omega), eR9, zU_o (by omega), eR8, zZ_o (by omega), eR7, zU_o (by omega), h1.2.1 (z) (by omega), eR3, zZ_o (by omega)], ⟨by rw [eR49, zU_n (by omega), h5.2.1 (i) (by omega), eR45, zZ_o (by omega), eR40, zU_n (by omega), h4.2.1 (i) (by omega), eR36, zZ_o (by omega), eR31, zU_n (by omega), h3.2.1 (i) (by omega), eR27, zZ_o (by omega), eR22, zU_n (by omega), h2.2.1 (i) (by omega), eR18, zZ_o (by omega), eR13, zU_n (by omega), eR11, zU_n (by omega), eR9, zU_n (by omega), eR8, zZ_o (by omega), eR7]; exact zU_s, eRw_mv (by rw [eR49, zU_o (by omega), h5.2.1 (i + 1) (by omega), eR45, zZ_o (by omega), eR40, zU_o (by omega), h4.2.1 (i + 1) (by omega), eR36, zZ_o (by omega), eR31, zU_o (by omega), h3.2.1 (i + 1) (by omega), eR27, zZ_o (by omega), eR22, zU_o (by omega), h2.2.1 (i + 1) (by omega), eR18, zZ_o (by omega), eR13, zU_o (by omega), eR11, zU_o (by omega), eR9, zU_o (by omega), eR8, zZ_o (by omega), eR7, zU_o (by omega)]) h1.2.2.1⟩, ⟨by rw [eR49, zU_n (by omega), h5.2.1 (i) (by omega), eR45, zZ_o (by omega), eR40, zU_n (by omega), h4.2.1 (i) (by omega), eR36, zZ_o (by omega), eR31, zU_n (by omega), h3.2.1 (i) (by omega), eR27, zZ_o (by omega), eR22, zU_n (by omega), h2.2.1 (i) (by omega), eR18, zZ_o (by omega), eR13, zU_n (by omega), eR11, zU_n (by omega), eR9]; exact zU_s, by rw [eR49, zU_n (by omega), h5.2.1 (i) (by omega), eR45, zZ_o (by omega), eR40, zU_n (by omega), h4.2.1 (i) (by omega), eR36, zZ_o (by omega), eR31, zU_n (by omega), h3.2.1 (i) (by omega), eR27, zZ_o (by omega), eR22, zU_n (by omega), h2.2.1 (i) (by omega), eR18, zZ_o (by omega), eR13, zU_n (by omega), eR11]; exact zU_s, by rw [eR49, zU_n (by omega), h5.2.1 (i) (by omega), eR45, zZ_o (by omega), eR40, zU_n (by omega), h4.2.1 (i) (by omega), eR36, zZ_o (by omega), eR31, zU_n (by omega), h3.2.1 (i) (by omega), eR27, zZ_o (by omega), eR22, zU_n (by omega), h2.2.1 (i) (by omega), eR18, zZ_o (by omega), eR13]; exact zU_s⟩, hl⟩
theorem c_X3_init {l : Launch} {D : va_G} {cy : Nat → ClassId} {bs : Nat} {sa : Nat → Nat} {kd len : Nat → Nat} {X Y : Nat → Int → Int} {R : Nat → Int → Option Nat} {i : Nat} (hK : kT kd len i tFilling)  (hp : X i = fun _ => 0) : Met l yX3_init (.code yX3_init cX3_init 2 none :: zTB) (zRmG 2 81 13 70) (zPcA D cy bs sa (i + 1) kd len X Y R [.ref (bs + (i))]) (zQv D cy bs (i + 14) kd len (fun st => ((∀ z, (z < i ∨ i + 13 < z) → st.1 z = X z) ∧ (∀ z, (z < i ∨ i + 13 < z) → st.2.2 z = R z) ∧ eFi st.2.2 i))) 13 70 (zA bs) := w_X3_init hK  (v_X3_init  hp)
abbrev cX7_init : ByteArray := prog_9_method_1_code
def yX7_init : MethodName := ⟨RX7, "<init>", "()V"⟩
theorem dX7_init_0 : decode cX7_init 0 = .ok (.aload_n 0, 1) := by decide +kernel
theorem dX7_init_1 : decode cX7_init 1 = .ok (.invokespecial 3, 3) := by decide +kernel
theorem dX7_init_4 : decode cX7_init 4 = .ok (.aload_n 0, 1) := by decide +kernel
theorem dX7_init_5 : decode cX7_init 5 = .ok (.new 9, 3) := by decide +kernel
theorem dX7_init_8 : decode cX7_init 8 = .ok (.dup, 1) := by decide +kernel
theorem dX7_init_9 : decode cX7_init 9 = .ok (.invokespecial 11, 3) := by decide +kernel
theorem dX7_init_12 : decode cX7_init 12 = .ok (.putfield 12, 3) := by decide +kernel
theorem dX7_init_15 : decode cX7_init 15 = .ok (.aload_n 0, 1) := by decide +kernel
theorem dX7_init_16 : decode cX7_init 16 = .ok (.new 18, 3) := by decide +kernel
theorem dX7_init_19 : decode cX7_init 19 = .ok (.dup, 1) := by decide +kernel
theorem dX7_init_20 : decode cX7_init 20 = .ok (.invokespecial 20, 3) := by decide +kernel
theorem dX7_init_23 : decode cX7_init 23 = .ok (.putfield 21, 3) := by decide +kernel
theorem dX7_init_26 : decode cX7_init 26 = .ok (.aload_n 0, 1) := by decide +kernel
theorem dX7_init_27 : decode cX7_init 27 = .ok (.iconst 3, 1) := by decide +kernel
theorem dX7_init_28 : decode cX7_init 28 = .ok (.anewarray 25, 3) := by decide +kernel
theorem dX7_init_31 : decode cX7_init 31 = .ok (.putfield 27, 3) := by decide +kernel
theorem dX7_init_34 : decode cX7_init 34 = .ok (.aload_n 0, 1) := by decide +kernel
theorem dX7_init_35 : decode cX7_init 35 = .ok (.iconst 0, 1) := by decide +kernel
theorem dX7_init_36 : decode cX7_init 36 = .ok (.newarray .byte, 2) := by decide +kernel
theorem dX7_init_38 : decode cX7_init 38 = .ok (.putfield 31, 3) := by decide +kernel
theorem dX7_init_41 : decode cX7_init 41 = .ok (.aload_n 0, 1) := by decide +kernel
theorem dX7_init_42 : decode cX7_init 42 = .ok (.iconst 4, 1) := by decide +kernel
theorem dX7_init_43 : decode cX7_init 43 = .ok (.newarray .int, 2) := by decide +kernel
theorem dX7_init_45 : decode cX7_init 45 = .ok (.putfield 35, 3) := by decide +kernel
theorem dX7_init_48 : decode cX7_init 48 = .ok (.iconst 0, 1) := by decide +kernel
theorem dX7_init_49 : decode cX7_init 49 = .ok (.istore_n 1, 1) := by decide +kernel
theorem dX7_init_50 : decode cX7_init 50 = .ok (.iload_n 1, 1) := by decide +kernel
theorem dX7_init_51 : decode cX7_init 51 = .ok (.aload_n 0, 1) := by decide +kernel
theorem dX7_init_52 : decode cX7_init 52 = .ok (.getfield 27, 3) := by decide +kernel
theorem dX7_init_55 : decode cX7_init 55 = .ok (.arraylength, 1) := by decide +kernel
theorem dX7_init_56 : decode cX7_init 56 = .ok (.if_icmp .ge 25, 3) := by decide +kernel
theorem dX7_init_59 : decode cX7_init 59 = .ok (.aload_n 0, 1) := by decide +kernel
theorem dX7_init_60 : decode cX7_init 60 = .ok (.getfield 27, 3) := by decide +kernel
theorem dX7_init_63 : decode cX7_init 63 = .ok (.iload_n 1, 1) := by decide +kernel
theorem dX7_init_64 : decode cX7_init 64 = .ok (.new 25, 3) := by decide +kernel
theorem dX7_init_67 : decode cX7_init 67 = .ok (.dup, 1) := by decide +kernel
theorem dX7_init_68 : decode cX7_init 68 = .ok (.iconst 2, 1) := by decide +kernel
theorem dX7_init_69 : decode cX7_init 69 = .ok (.iload_n 1, 1) := by decide +kernel
theorem dX7_init_70 : decode cX7_init 70 = .ok (.iadd, 1) := by decide +kernel
theorem dX7_init_71 : decode cX7_init 71 = .ok (.invokespecial 39, 3) := by decide +kernel
theorem dX7_init_74 : decode cX7_init 74 = .ok (.aastore, 1) := by decide +kernel
theorem dX7_init_75 : decode cX7_init 75 = .ok (.iinc 1 1, 3) := by decide +kernel
theorem dX7_init_78 : decode cX7_init 78 = .ok (.goto (-28), 3) := by decide +kernel
theorem dX7_init_81 : decode cX7_init 81 = .ok (.return_, 1) := by decide +kernel
theorem q_315 : Cond.methodLink RX7 3 Lib.objectInit ∈ zTB := zmem 315 (by decide +kernel) rfl
theorem q_316 : Cond.classLink RX7 9 RX6 ∈ zTB := zmem 316 (by decide +kernel) rfl
theorem q_317 : Cond.methodLink RX7 11 yX6_init ∈ zTB := zmem 317 (by decide +kernel) rfl
theorem k_RX7_11 : zLi RX7 11 yX6_init cX6_init 1 0 := ⟨⟨q_317, q_170, q_131, q_171⟩, rfl, ⟨by decide, by decide⟩, by decide +kernel⟩
theorem q_318 : Cond.classLink RX7 18 RX0 ∈ zTB := zmem 318 (by decide +kernel) rfl
theorem k_RX7_20 : zLiN RX7 20 yX0_init "WorkChains" cX0_init 1 0 := ⟨⟨by decide +kernel, q_221, q_132, q_222⟩, rfl, ⟨by decide, by decide⟩, by decide +kernel⟩
theorem q_320 : Cond.classLink RX7 25 RX8 ∈ zTB := zmem 320 (by decide +kernel) rfl
theorem q_217 : Cond.arrayClass .byte ∈ zTB := zmem 217 (by decide +kernel) rfl
theorem q_321 : Cond.methodLink RX7 39 yX8_init ∈ zTB := zmem 321 (by decide +kernel) rfl
theorem k_RX7_39 : zLi RX7 39 yX8_init cX8_init 2 1 := ⟨⟨q_321, q_256, q_133, q_257⟩, rfl, ⟨by decide, by decide⟩, by decide +kernel⟩
set_option maxHeartbeats 4000000 in
set_option maxRecDepth 100000 in
def F_X7_init (i : Nat) (X Y : Nat → Int → Int) (R : Nat → Int → Option Nat)  : Prop := (∀ i j, rI (X i j)) → (∀ i j, rL (Y i j)) → ∀ X1 : Nat → Int → Int, X1 = zZ X (i + 1) 0 → (∀ i j, rI (X1 i j)) → (∀ Y2 : Nat → Int → Int, Y2 = zZ Y (i + 1) 0 → (∀ i j, rL (Y2 i j)) → (∀ R3 : Nat → Int → Option Nat, R3 = zZ R (i + 1) none → ((X1 (i + 1) = fun _ => 0) ∧ (∀ X5 : Nat → Int → Int, (∀ i j, rI (X5 i j)) → ∀ R6 : Nat → Int → Option Nat, ((∀ z, z ≠ (i + 1) → z ≠ i + 2 → X5 z = X1 z) ∧ (∀ z, z ≠ (i + 1) → R6 z = R3 z) ∧ eNt R6 (i + 1) ∧ z0N X5 (i + 1)) → (∀ R7 : Nat → Int → Option Nat, R7 = zU R6 (i) 0 (some ((i + 1))) → (∀ X8 : Nat → Int → Int, X8 = zZ X5 (i + 3) 0 → (∀ i j, rI (X8 i j)) → (∀ Y9 : Nat → Int → Int, Y9 = zZ Y2 (i + 3) 0 → (∀ i j, rL (Y9 i j)) → (∀ R10 : Nat → Int → Option Nat, R10 = zZ R7 (i + 3) none → ((X8 (i + 3) = fun _ => 0) ∧ (∀ X12 : Nat → Int → Int, (∀ i j, rI (X12 i j)) → ∀ R13 : Nat → Int → Option Nat, ((∀ z, (z < (i + 3) ∨ (i + 3) + 5 < z) → X12 z = X8 z) ∧ (∀ z, z ≠ (i + 3) → R13 z = R10 z) ∧ eBk R13 (i + 3) ∧ z0B X12 (i + 3)) → (∀ R14 : Nat → Int → Option Nat, R14 = zU R13 (i) 1 (some ((i + 3))) → (∀ R15 : Nat → Int → Option Nat, R15 = zZ R14 (i + 9) none → (∀ R16 : Nat → Int → Option Nat, R16 = zU R15 (i) 2 (some ((i + 9))) → (∀ X17 : Nat → Int → Int, X17 = zZ X12 (i + 10) 0 → (∀ i j, rI (X17 i j)) → (∀ R18 : Nat → Int → Option Nat, R18 = zU R16 (i) 5 (some ((i + 10))) → (∀ X19 : Nat → Int → Int, X19 = zZ X17 (i + 11) 0 → (∀ i j, rI (X19 i j)) → (∀ R20 : Nat → Int → Option Nat, R20 = zU R18 (i) 11 (some ((i + 11))) → ((R20 i 2 = some (i + 9)) ∧ ((R20 i 2 = some (i + 9)) ∧ (∀ X24 : Nat → Int → Int, X24 = zZ X19 (i + 12) 0 → (∀ i j, rI (X24 i j)) → (∀ Y25 : Nat → Int → Int, Y25 = zZ Y9 (i + 12) 0 → (∀ i j, rL (Y25 i j)) → (∀ R26 : Nat → Int → Option Nat, R26 = zZ R20 (i + 12) none → ((X24 (i + 12) = fun _ => 0) ∧ (∀ X28 : Nat → Int → Int, (∀ i j, rI (X28 i j)) → ∀ R29 : Nat → Int → Option Nat, ((∀ z, z ≠ (i + 12) → z ≠ i + 13 → X28 z = X24 z) ∧ (∀ z, z ≠ (i + 12) → R29 z = R26 z) ∧ eRw R29 (i + 12) ∧ z0R X28 (i + 12) 2 40) → (∀ R30 : Nat → Int → Option Nat, R30 = zU R29 ((i + 9)) (0) (some ((i + 12))) → ((R30 i 2 = some (i + 9)) ∧ ((R30 i 2 = some (i + 9)) ∧ (∀ X34 : Nat → Int → Int, X34 = zZ X28 (i + 14) 0 → (∀ i j, rI (X34 i j)) → (∀ Y35 : Nat → Int → Int, Y35 = zZ Y25 (i + 14) 0 → (∀ i j, rL (Y35 i j)) → (∀ R36 : Nat → Int → Option Nat, R36 = zZ R30 (i + 14) none → ((X34 (i + 14) = fun _ => 0) ∧ (∀ X38 : Nat → Int → Int, (∀ i j, rI (X38 i j)) → ∀ R39 : Nat → Int → Option Nat, ((∀ z, z ≠ (i + 14) → z ≠ i + 15 → X38 z = X34 z) ∧ (∀ z, z ≠ (i + 14) → R39 z = R36 z) ∧ eRw R39 (i + 14) ∧ z0R X38 (i + 14) 2 8) → (∀ R40 : Nat → Int → Option Nat, R40 = zU R39 ((i + 9)) (1) (some ((i + 14))) → ((R40 i 2 = some (i + 9)) ∧ ((R40 i 2 = some (i + 9)) ∧ (∀ X44 : Nat → Int → Int, X44 = zZ X38 (i + 16) 0 → (∀ i j, rI (X44 i j)) → (∀ Y45 : Nat → Int → Int, Y45 = zZ Y35 (i + 16) 0 → (∀ i j, rL (Y45 i j)) → (∀ R46 : Nat → Int → Option Nat, R46 = zZ R40 (i + 16) none → ((X44 (i + 16) = fun _ => 0) ∧ (∀ X48 : Nat → Int → Int, (∀ i j, rI (X48 i j)) → ∀ R49 : Nat → Int → Option Nat, ((∀ z, z ≠ (i + 16) → z ≠ i + 17 → X48 z = X44 z) ∧ (∀ z, z ≠ (i + 16) → R49 z = R46 z) ∧ eRw R49 (i + 16) ∧ z0R X48 (i + 16) 4 6) → (∀ R50 : Nat → Int → Option Nat, R50 = zU R49 ((i + 9)) (2) (some ((i + 16))) → ((R50 i 2 = some (i + 9)) ∧ ((∀ z, (z < i ∨ i + 17 < z) → X48 z = X z) ∧ (∀ z, (z < i ∨ i + 17 < z) → R50 z = R z) ∧ eRd R50 i ∧ z0Rd X48 i)))))))))))))))))))))))))))))))))))))))))))
set_option maxHeartbeats 4000000 in
set_option maxRecDepth 100000 in
theorem w_X7_init {l : Launch} {D : va_G} {cy : Nat → ClassId} {bs : Nat} {sa : Nat → Nat} {kd len : Nat → Nat} {X Y : Nat → Int → Int} {R : Nat → Int → Option Nat} {i : Nat} (hK : kT kd len i tReader)  (hF : F_X7_init i X Y R ) : Met l yX7_init (.code yX7_init cX7_init 2 none :: zTB) (zRmG 2 81 17 354) (zPcA D cy bs sa (i + 1) kd len X Y R [.ref (bs + (i))]) (zQv D cy bs (i + 18) kd len (fun st => ((∀ z, (z < i ∨ i + 17 < z) → st.1 z = X z) ∧ (∀ z, (z < i ∨ i + 17 < z) → st.2.2 z = R z) ∧ eRd st.2.2 i ∧ z0Rd st.1 i))) 17 354 (zA bs) := by
  refine zstartGA (by decide) (Nat.le_of_ble_eq_true rfl) ?_
  intro p e s m args below meth c ls C hE hA hH hr hlk hnm hl hargs
  have hF := hF hH.2.2.1 hH.2.2.2
  have hS : va_S (zA bs) s.heap s.heap [] := va_S.rf
  have hl : lv_has ls 2 [(0, .ref (bs + (i)))] := hl
  refine lv_aload_n C.1 C.2.1 dX7_init_0 rfl (lv_at hl 0 rfl) ?_
  refine zd_oinit C hl.1 q_315 q_154 q_155 (Nat.le_of_ble_eq_true rfl) dX7_init_1 (Nat.le_of_ble_eq_true rfl) (Nat.le_of_ble_eq_true rfl) ?_
  refine lv_aload_n C.1 C.2.1 dX7_init_4 rfl (lv_at hl 0 rfl) ?_
  refine zd_newO C hH hS (ci := 6) rfl zin6 tyX6 tyX6_ok q_316 q_168 q_131 (kT_k (k := 6) (l := 0) hK 1 (by decide +kernel)) rfl zO6 (Nat.le_of_ble_eq_true rfl) (Nat.le_of_ble_eq_true rfl) dX7_init_5 (fun H hH hS => ?_)
  obtain ⟨X1, eX1⟩ : ∃ z, z = zZ X (i + 1) 0 := ⟨_, rfl⟩
  rw [← eX1] at hH
  have hF := hF X1 eX1 hH.2.2.1
  obtain ⟨Y2, eY2⟩ : ∃ z, z = zZ Y (i + 1) 0 := ⟨_, rfl⟩
  rw [← eY2] at hH
  have hF := hF Y2 eY2 hH.2.2.2
  obtain ⟨R3, eR3⟩ : ∃ z, z = zZ R (i + 1) none := ⟨_, rfl⟩
  rw [← eR3] at hH
  have hF := hF R3 eR3
  refine lv_dup C.1 C.2.1 dX7_init_8 rfl ?_
  obtain ⟨o4, hF⟩ := hF
  refine zgovG (zrunIG (As := []) (rest := [.ref (bs + ((i + 1))), .ref (bs + (i))]) C hE hA hH hS hl.1 (c_X6_init (l := l) (kT_sub hK 1 tNet (by decide +kernel))  o4) k_RX7_11 ⟨Nat.le_of_ble_eq_true rfl, Nat.le_of_ble_eq_true rfl⟩ rfl (Nat.le_of_ble_eq_true rfl) dX7_init_9 ⟨Nat.le_of_ble_eq_true rfl, Nat.le_of_ble_eq_true rfl⟩) hS (fun X5 Yq R6 H locs hq hH hS => ?_)
  obtain ⟨h9Y, hq⟩ := hq
  dsimp only at h9Y
  rw [h9Y] at hH
  have hF := hF X5 hH.2.2.1 R6 hq
  refine zp7_0 C hH hS (by omega) (kT_0 (k := 7) (l := 0) hK (by decide +kernel)) q_322 hnm rfl dX7_init_12 (fun H locs hH hS => ?_)
  obtain ⟨R7, eR7⟩ : ∃ z, z = zU R6 (i) 0 (some ((i + 1))) := ⟨_, rfl⟩
  rw [← eR7] at hH
  have hF := hF R7 eR7
  refine lv_aload_n C.1 C.2.1 dX7_init_15 rfl (lv_at hl 0 rfl) ?_
  refine zd_newO C hH hS (ci := 0) rfl zin0 tyX0 tyX0_ok q_318 q_219 q_132 (kT_k (k := 0) (l := 0) hK 3 (by decide +kernel)) rfl zO0 (Nat.le_of_ble_eq_true rfl) (Nat.le_of_ble_eq_true rfl) dX7_init_16 (fun H hH hS => ?_)
  obtain ⟨X8, eX8⟩ : ∃ z, z = zZ X5 (i + 3) 0 := ⟨_, rfl⟩
  rw [← eX8] at hH
  have hF := hF X8 eX8 hH.2.2.1
  obtain ⟨Y9, eY9⟩ : ∃ z, z = zZ Y2 (i + 3) 0 := ⟨_, rfl⟩
  rw [← eY9] at hH
  have hF := hF Y9 eY9 hH.2.2.2
  obtain ⟨R10, eR10⟩ : ∃ z, z = zZ R7 (i + 3) none := ⟨_, rfl⟩
  rw [← eR10] at hH
  have hF := hF R10 eR10
  refine lv_dup C.1 C.2.1 dX7_init_19 rfl ?_
  obtain ⟨o11, hF⟩ := hF
  refine zgovG (zrunING (As := []) (rest := [.ref (bs + ((i + 3))), .ref (bs + (i))]) C hE hA hH hS hl.1 (c_X0_init (l := l) (kT_sub hK 3 tBlocks (by decide +kernel))  o11) k_RX7_20 ⟨Nat.le_of_ble_eq_true rfl, Nat.le_of_ble_eq_true rfl⟩ rfl (Nat.le_of_ble_eq_true rfl) dX7_init_20 ⟨Nat.le_of_ble_eq_true rfl, Nat.le_of_ble_eq_true rfl⟩) hS (fun X12 Yq R13 H locs hq hH hS => ?_)
  obtain ⟨h9Y, hq⟩ := hq
  dsimp only at h9Y
  rw [h9Y] at hH
  have hF := hF X12 hH.2.2.1 R13 hq
  refine zp7_1 C hH hS (by omega) (kT_0 (k := 7) (l := 0) hK (by decide +kernel)) q_324 hnm rfl dX7_init_23 (fun H locs hH hS => ?_)
  obtain ⟨R14, eR14⟩ : ∃ z, z = zU R13 (i) 1 (some ((i + 3))) := ⟨_, rfl⟩
  rw [← eR14] at hH
  have hF := hF R14 eR14
  refine lv_aload_n C.1 C.2.1 dX7_init_26 rfl (lv_at hl 0 rfl) ?_
  refine zd_iconst C dX7_init_27 ?_
  refine zd_newR (k := 3) C hH hS q_320 hA.1.2.2.2.1 rfl (n := 3) rfl (by decide) (kT_k (k := 19) (l := 3) hK 9 (by decide +kernel)) (kT_l (k := 19) (l := 3) hK 9 (by decide +kernel)) (Nat.le_of_ble_eq_true rfl) (Nat.le_of_ble_eq_true rfl) dX7_init_28 (fun H hH hS => ?_)
  obtain ⟨R15, eR15⟩ : ∃ z, z = zZ R14 (i + 9) none := ⟨_, rfl⟩
  rw [← eR15] at hH
  have hF := hF R15 eR15
  refine zp7_2 C hH hS (by omega) (kT_0 (k := 7) (l := 0) hK (by decide +kernel)) q_326 hnm rfl dX7_init_31 (fun H locs hH hS => ?_)
  obtain ⟨R16, eR16⟩ : ∃ z, z = zU R15 (i) 2 (some ((i + 9))) := ⟨_, rfl⟩
  rw [← eR16] at hH
  have hF := hF R16 eR16
  refine lv_aload_n C.1 C.2.1 dX7_init_34 rfl (lv_at hl 0 rfl) ?_
  refine zd_iconst C dX7_init_35 ?_
  refine zd_newB C hH hS q_217 (n := 0) rfl (by decide) (kT_k (k := 12) (l := 0) hK 10 (by decide +kernel)) (kT_l (k := 12) (l := 0) hK 10 (by decide +kernel)) (Nat.le_of_ble_eq_true rfl) (Nat.le_of_ble_eq_true rfl) dX7_init_36 (fun H hH hS => ?_)
  obtain ⟨X17, eX17⟩ : ∃ z, z = zZ X12 (i + 10) 0 := ⟨_, rfl⟩
  rw [← eX17] at hH
  have hF := hF X17 eX17 hH.2.2.1
  refine zp7_5 C hH hS (by omega) (kT_0 (k := 7) (l := 0) hK (by decide +kernel)) q_332 dX7_init_38 (fun H locs hH hS => ?_)
  obtain ⟨R18, eR18⟩ : ∃ z, z = zU R16 (i) 5 (some ((i + 10))) := ⟨_, rfl⟩
  rw [← eR18] at hH
  have hF := hF R18 eR18
  refine lv_aload_n C.1 C.2.1 dX7_init_41 rfl (lv_at hl 0 rfl) ?_
  refine zd_iconst C dX7_init_42 ?_
  refine zd_newI C hH hS q_218 (n := 4) rfl (by decide) (kT_k (k := 13) (l := 4) hK 11 (by decide +kernel)) (kT_l (k := 13) (l := 4) hK 11 (by decide +kernel)) (Nat.le_of_ble_eq_true rfl) (Nat.le_of_ble_eq_true rfl) dX7_init_43 (fun H hH hS => ?_)
  obtain ⟨X19, eX19⟩ : ∃ z, z = zZ X17 (i + 11) 0 := ⟨_, rfl⟩
  rw [← eX19] at hH
  have hF := hF X19 eX19 hH.2.2.1
  refine zp7_11 C hH hS (by omega) (kT_0 (k := 7) (l := 0) hK (by decide +kernel)) q_338 hnm rfl dX7_init_45 (fun H locs hH hS => ?_)
  obtain ⟨R20, eR20⟩ : ∃ z, z = zU R18 (i) 11 (some ((i + 11))) := ⟨_, rfl⟩
  rw [← eR20] at hH
  have hF := hF R20 eR20
  refine zd_iconst C dX7_init_48 ?_
  refine lv_istore_n (lv' := [(1, .int (zI (0))), (0, .ref (bs + (i)))]) C.1 C.2.1 dX7_init_49 rfl hl (by decide) rfl (fun ls hl => ?_)
  refine lv_iload_n C.1 C.2.1 dX7_init_50 rfl (lv_at hl 0 rfl) ?_
  refine lv_aload_n C.1 C.2.1 dX7_init_51 rfl (lv_at hl 1 rfl) ?_
  obtain ⟨o21, hF⟩ := hF
  refine zg7_2 C hH (by omega) (kT_0 (k := 7) (l := 0) hK (by decide +kernel)) q_326 o21 dX7_init_52 ?_
  refine zd_alen C hH (by omega) (t0 := 7) (by rw [(kT_k (k := 19) (l := 3) hK 9 (by decide +kernel))]; rfl) rfl rfl dX7_init_55 ?_
  rw [(kT_l (k := 19) (l := 3) hK 9 (by decide +kernel))]
  rw [show ((3 : Nat) : Int) = 3 from rfl]
  refine zd_icmp_ge C (by decide) (by decide) 81 dX7_init_56 (by decide) (fun c22 => ?_) (fun c22 => ?_)
  · exact absurd c22 (by decide)
  · refine lv_aload_n C.1 C.2.1 dX7_init_59 rfl (lv_at hl 1 rfl) ?_
    obtain ⟨o23, hF⟩ := hF
    refine zg7_2 C hH (by omega) (kT_0 (k := 7) (l := 0) hK (by decide +kernel)) q_326 o23 dX7_init_60 ?_
    refine lv_iload_n C.1 C.2.1 dX7_init_63 rfl (lv_at hl 0 rfl) ?_
    refine zd_newO C hH hS (ci := 8) rfl zin8 tyX8 tyX8_ok q_320 q_254 q_133 (kT_k (k := 8) (l := 0) hK 12 (by decide +kernel)) rfl zO8 (Nat.le_of_ble_eq_true rfl) (Nat.le_of_ble_eq_true rfl) dX7_init_64 (fun H hH hS => ?_)
    obtain ⟨X24, eX24⟩ : ∃ z, z = zZ X19 (i + 12) 0 := ⟨_, rfl⟩
    rw [← eX24] at hH
    have hF := hF X24 eX24 hH.2.2.1
    obtain ⟨Y25, eY25⟩ : ∃ z, z = zZ Y9 (i + 12) 0 := ⟨_, rfl⟩
    rw [← eY25] at hH
    have hF := hF Y25 eY25 hH.2.2.2
    obtain ⟨R26, eR26⟩ : ∃ z, z = zZ R20 (i + 12) none := ⟨_, rfl⟩
    rw [← eR26] at hH
    have hF := hF R26 eR26
    refine lv_dup C.1 C.2.1 dX7_init_67 rfl ?_
    refine zd_iconst C dX7_init_68 ?_
    refine lv_iload_n C.1 C.2.1 dX7_init_69 rfl (lv_at hl 0 rfl) ?_
    refine zd_iadd C dX7_init_70 ?_
    obtain ⟨o27, hF⟩ := hF
    refine zgovG (zrunIG (As := [.int (zI (2))]) (rest := [.ref (bs + ((i + 12))), .int (zI (0)), .ref (bs + ((i + 9)))]) C hE hA hH hS hl.1 (c_X8_init2 (l := l) (kT_sub hK 12 tRows2 (by decide +kernel))  o27) k_RX7_39 ⟨Nat.le_of_ble_eq_true rfl, Nat.le_of_ble_eq_true rfl⟩ rfl (Nat.le_of_ble_eq_true rfl) dX7_init_71 ⟨Nat.le_of_ble_eq_true rfl, Nat.le_of_ble_eq_true rfl⟩) hS (fun X28 Yq R29 H locs hq hH hS => ?_)
    obtain ⟨h9Y, hq⟩ := hq
    dsimp only at h9Y
    rw [h9Y] at hH
    have hF := hF X28 hH.2.2.1 R29 hq
    refine zd_aastr (k := 3) (ci := 8) C hH hS (by omega) (kT_k (k := 19) (l := 3) hK 9 (by decide +kernel)) (by omega) (kT_k (k := 8) (l := 0) hK 12 (by decide +kernel)) rfl rfl rfl (by decide) (by rw [(kT_l (k := 19) (l := 3) hK 9 (by decide +kernel))]; decide) (by rw [(kT_l (k := 19) (l := 3) hK 9 (by decide +kernel))]; decide) dX7_init_74 (fun H locs hH hS => ?_)
    obtain ⟨R30, eR30⟩ : ∃ z, z = zU R29 ((i + 9)) (0) (some ((i + 12))) := ⟨_, rfl⟩
    rw [← eR30] at hH
    have hF := hF R30 eR30
    refine zd_iinc (k := 0) (lv' := [(1, .int (zI (1))), (0, .ref (bs + (i)))]) C hl rfl dX7_init_75 (by decide) rfl (fun ls hl => ?_)
    refine lv_goto (tgt := 50) C.1 C.2.1 dX7_init_78 (by decide) ?_
    refine lv_iload_n C.1 C.2.1 dX7_init_50 rfl (lv_at hl 0 rfl) ?_
    refine lv_aload_n C.1 C.2.1 dX7_init_51 rfl (lv_at hl 1 rfl) ?_
    obtain ⟨o31, hF⟩ := hF
    refine zg7_2 C hH (by omega) (kT_0 (k := 7) (l := 0) hK (by decide +kernel)) q_326 o31 dX7_init_52 ?_
    refine zd_alen C hH (by omega) (t0 := 7) (by rw [(kT_k (k := 19) (l := 3) hK 9 (by decide +kernel))]; rfl) rfl rfl dX7_init_55 ?_
    rw [(kT_l (k := 19) (l := 3) hK 9 (by decide +kernel))]
    rw [show ((3 : Nat) : Int) = 3 from rfl]
    refine zd_icmp_ge C (by decide) (by decide) 81 dX7_init_56 (by decide) (fun c32 => ?_) (fun c32 => ?_)
    · exact absurd c32 (by decide)
    · refine lv_aload_n C.1 C.2.1 dX7_init_59 rfl (lv_at hl 1 rfl) ?_
      obtain ⟨o33, hF⟩ := hF
      refine zg7_2 C hH (by omega) (kT_0 (k := 7) (l := 0) hK (by decide +kernel)) q_326 o33 dX7_init_60 ?_
      refine lv_iload_n C.1 C.2.1 dX7_init_63 rfl (lv_at hl 0 rfl) ?_
      refine zd_newO C hH hS (ci := 8) rfl zin8 tyX8 tyX8_ok q_320 q_254 q_133 (kT_k (k := 8) (l := 0) hK 14 (by decide +kernel)) rfl zO8 (Nat.le_of_ble_eq_true rfl) (Nat.le_of_ble_eq_true rfl) dX7_init_64 (fun H hH hS => ?_)
      obtain ⟨X34, eX34⟩ : ∃ z, z = zZ X28 (i + 14) 0 := ⟨_, rfl⟩
      rw [← eX34] at hH
      have hF := hF X34 eX34 hH.2.2.1
      obtain ⟨Y35, eY35⟩ : ∃ z, z = zZ Y25 (i + 14) 0 := ⟨_, rfl⟩
      rw [← eY35] at hH
      have hF := hF Y35 eY35 hH.2.2.2
      obtain ⟨R36, eR36⟩ : ∃ z, z = zZ R30 (i + 14) none := ⟨_, rfl⟩
      rw [← eR36] at hH
      have hF := hF R36 eR36
      refine lv_dup C.1 C.2.1 dX7_init_67 rfl ?_
      refine zd_iconst C dX7_init_68 ?_
      refine lv_iload_n C.1 C.2.1 dX7_init_69 rfl (lv_at hl 0 rfl) ?_
      refine zd_iadd C dX7_init_70 ?_
      obtain ⟨o37, hF⟩ := hF
      refine zgovG (zrunIG (As := [.int (zI (3))]) (rest := [.ref (bs + ((i + 14))), .int (zI (1)), .ref (bs + ((i + 9)))]) C hE hA hH hS hl.1 (c_X8_init3 (l := l) (kT_sub hK 14 tRows3 (by decide +kernel))  o37) k_RX7_39 ⟨Nat.le_of_ble_eq_true rfl, Nat.le_of_ble_eq_true rfl⟩ rfl (Nat.le_of_ble_eq_true rfl) dX7_init_71 ⟨Nat.le_of_ble_eq_true rfl, Nat.le_of_ble_eq_true rfl⟩) hS (fun X38 Yq R39 H locs hq hH hS => ?_)
      obtain ⟨h9Y, hq⟩ := hq
      dsimp only at h9Y
      rw [h9Y] at hH
      have hF := hF X38 hH.2.2.1 R39 hq
      refine zd_aastr (k := 3) (ci := 8) C hH hS (by omega) (kT_k (k := 19) (l := 3) hK 9 (by decide +kernel)) (by omega) (kT_k (k := 8) (l := 0) hK 14 (by decide +kernel)) rfl rfl rfl (by decide) (by rw [(kT_l (k := 19) (l := 3) hK 9 (by decide +kernel))]; decide) (by rw [(kT_l (k := 19) (l := 3) hK 9 (by decide +kernel))]; decide) dX7_init_74 (fun H locs hH hS => ?_)
      obtain ⟨R40, eR40⟩ : ∃ z, z = zU R39 ((i + 9)) (1) (some ((i + 14))) := ⟨_, rfl⟩
      rw [← eR40] at hH
      have hF := hF R40 eR40
      refine zd_iinc (k := 0) (lv' := [(1, .int (zI (2))), (0, .ref (bs + (i)))]) C hl rfl dX7_init_75 (by decide) rfl (fun ls hl => ?_)
      refine lv_goto (tgt := 50) C.1 C.2.1 dX7_init_78 (by decide) ?_
      refine lv_iload_n C.1 C.2.1 dX7_init_50 rfl (lv_at hl 0 rfl) ?_
      refine lv_aload_n C.1 C.2.1 dX7_init_51 rfl (lv_at hl 1 rfl) ?_
      obtain ⟨o41, hF⟩ := hF
      refine zg7_2 C hH (by omega) (kT_0 (k := 7) (l := 0) hK (by decide +kernel)) q_326 o41 dX7_init_52 ?_
      refine zd_alen C hH (by omega) (t0 := 7) (by rw [(kT_k (k := 19) (l := 3) hK 9 (by decide +kernel))]; rfl) rfl rfl dX7_init_55 ?_
      rw [(kT_l (k := 19) (l := 3) hK 9 (by decide +kernel))]
      rw [show ((3 : Nat) : Int) = 3 from rfl]
      refine zd_icmp_ge C (by decide) (by decide) 81 dX7_init_56 (by decide) (fun c42 => ?_) (fun c42 => ?_)
      · exact absurd c42 (by decide)
      · refine lv_aload_n C.1 C.2.1 dX7_init_59 rfl (lv_at hl 1 rfl) ?_
        obtain ⟨o43, hF⟩ := hF
        refine zg7_2 C hH (by omega) (kT_0 (k := 7) (l := 0) hK (by decide +kernel)) q_326 o43 dX7_init_60 ?_
        refine lv_iload_n C.1 C.2.1 dX7_init_63 rfl (lv_at hl 0 rfl) ?_
        refine zd_newO C hH hS (ci := 8) rfl zin8 tyX8 tyX8_ok q_320 q_254 q_133 (kT_k (k := 8) (l := 0) hK 16 (by decide +kernel)) rfl zO8 (Nat.le_of_ble_eq_true rfl) (Nat.le_of_ble_eq_true rfl) dX7_init_64 (fun H hH hS => ?_)
        obtain ⟨X44, eX44⟩ : ∃ z, z = zZ X38 (i + 16) 0 := ⟨_, rfl⟩
        rw [← eX44] at hH
        have hF := hF X44 eX44 hH.2.2.1
        obtain ⟨Y45, eY45⟩ : ∃ z, z = zZ Y35 (i + 16) 0 := ⟨_, rfl⟩
        rw [← eY45] at hH
        have hF := hF Y45 eY45 hH.2.2.2
        obtain ⟨R46, eR46⟩ : ∃ z, z = zZ R40 (i + 16) none := ⟨_, rfl⟩
        rw [← eR46] at hH
        have hF := hF R46 eR46
        refine lv_dup C.1 C.2.1 dX7_init_67 rfl ?_
        refine zd_iconst C dX7_init_68 ?_
        refine lv_iload_n C.1 C.2.1 dX7_init_69 rfl (lv_at hl 0 rfl) ?_
        refine zd_iadd C dX7_init_70 ?_
        obtain ⟨o47, hF⟩ := hF
        refine zgovG (zrunIG (As := [.int (zI (4))]) (rest := [.ref (bs + ((i + 16))), .int (zI (2)), .ref (bs + ((i + 9)))]) C hE hA hH hS hl.1 (c_X8_init4 (l := l) (kT_sub hK 16 tRows4 (by decide +kernel))  o47) k_RX7_39 ⟨Nat.le_of_ble_eq_true rfl, Nat.le_of_ble_eq_true rfl⟩ rfl (Nat.le_of_ble_eq_true rfl) dX7_init_71 ⟨Nat.le_of_ble_eq_true rfl, Nat.le_of_ble_eq_true rfl⟩) hS (fun X48 Yq R49 H locs hq hH hS => ?_)
        obtain ⟨h9Y, hq⟩ := hq
        dsimp only at h9Y
        rw [h9Y] at hH
        have hF := hF X48 hH.2.2.1 R49 hq
        refine zd_aastr (k := 3) (ci := 8) C hH hS (by omega) (kT_k (k := 19) (l := 3) hK 9 (by decide +kernel)) (by omega) (kT_k (k := 8) (l := 0) hK 16 (by decide +kernel)) rfl rfl rfl (by decide) (by rw [(kT_l (k := 19) (l := 3) hK 9 (by decide +kernel))]; decide) (by rw [(kT_l (k := 19) (l := 3) hK 9 (by decide +kernel))]; decide) dX7_init_74 (fun H locs hH hS => ?_)
        obtain ⟨R50, eR50⟩ : ∃ z, z = zU R49 ((i + 9)) (2) (some ((i + 16))) := ⟨_, rfl⟩
        rw [← eR50] at hH
        have hF := hF R50 eR50
        refine zd_iinc (k := 0) (lv' := [(1, .int (zI (3))), (0, .ref (bs + (i)))]) C hl rfl dX7_init_75 (by decide) rfl (fun ls hl => ?_)
        refine lv_goto (tgt := 50) C.1 C.2.1 dX7_init_78 (by decide) ?_
        refine lv_iload_n C.1 C.2.1 dX7_init_50 rfl (lv_at hl 0 rfl) ?_
        refine lv_aload_n C.1 C.2.1 dX7_init_51 rfl (lv_at hl 1 rfl) ?_
        obtain ⟨o51, hF⟩ := hF
        refine zg7_2 C hH (by omega) (kT_0 (k := 7) (l := 0) hK (by decide +kernel)) q_326 o51 dX7_init_52 ?_
        refine zd_alen C hH (by omega) (t0 := 7) (by rw [(kT_k (k := 19) (l := 3) hK 9 (by decide +kernel))]; rfl) rfl rfl dX7_init_55 ?_
        rw [(kT_l (k := 19) (l := 3) hK 9 (by decide +kernel))]
        rw [show ((3 : Nat) : Int) = 3 from rfl]
        refine zd_icmp_ge C (by decide) (by decide) 81 dX7_init_56 (by decide) (fun c52 => ?_) (fun c52 => ?_)
        · refine W_raise (cells := 17) (slots := 354) (Nat.le_of_ble_eq_true rfl) (Nat.le_of_ble_eq_true rfl) ?_
          exact zd_vretG C hr hlk hH hS (hF) dX7_init_81
        · exact absurd (by decide) c52
set_option maxHeartbeats 8000000 in
set_option maxRecDepth 100000 in
theorem v_X7_init {X Y : Nat → Int → Int} {R : Nat → Int → Option Nat} {i : Nat}  (hp : X i = fun _ => 0) : F_X7_init i X Y R  := by
  unfold F_X7_init
  intro hX hY
  intro X1
  intro eX1
  intro rX1
  intro Y2
  intro eY2
  intro rY2
  intro R3
  intro eR3
  refine ⟨?_, ?_⟩
  · rw [eX1]; exact zZ_s
  intro X5
  intro rX5
  intro R6
  intro h1
  intro R7
  intro eR7
  intro X8
  intro eX8
  intro rX8
  intro Y9
  intro eY9
  intro rY9
  intro R10
  intro eR10
  refine ⟨?_, ?_⟩
  · rw [eX8]; exact zZ_s
  intro X12
  intro rX12
  intro R13
  intro h2
  intro R14
  intro eR14
  intro R15
  intro eR15
  intro R16
  intro eR16
  intro X17
  intro eX17
  intro rX17
  intro R18
  intro eR18
  intro X19
  intro eX19
  intro rX19
  intro R20
  intro eR20
  refine ⟨?_, ?_⟩
  · rw [eR20, zU_n (by omega), eR18, zU_n (by omega), eR16]; exact zU_s
  refine ⟨?_, ?_⟩
  · rw [eR20, zU_n (by omega), eR18, zU_n (by omega), eR16]; exact zU_s
  intro X24
  intro eX24
  intro rX24
  intro Y25
  intro eY25
  intro rY25
  intro R26
  intro eR26
  refine ⟨?_, ?_⟩
  · rw [eX24]; exact zZ_s
  intro X28
  intro rX28
  intro R29
  intro h3
  intro R30
  intro eR30
  refine ⟨?_, ?_⟩
  · rw [eR30, zU_n (by omega), h3.2.1 (i) (by omega), eR26, zZ_o (by omega), eR20, zU_n (by omega), eR18, zU_n (by omega), eR16]; exact zU_s
  refine ⟨?_, ?_⟩
  · rw [eR30, zU_n (by omega), h3.2.1 (i) (by omega), eR26, zZ_o (by omega), eR20, zU_n (by omega), eR18, zU_n (by omega), eR16]; exact zU_s
  intro X34
  intro eX34
  intro rX34
  intro Y35
  intro eY35
  intro rY35
  intro R36
  intro eR36
  refine ⟨?_, ?_⟩
  · rw [eX34]; exact zZ_s
  intro X38
  intro rX38
  intro R39
  intro h4
  intro R40
  intro eR40
  refine ⟨?_, ?_⟩
  · rw [eR40, zU_n (by omega), h4.2.1 (i) (by omega), eR36, zZ_o (by omega), eR30, zU_n (by omega), h3.2.1 (i) (by omega), eR26, zZ_o (by omega), eR20, zU_n (by omega), eR18, zU_n (by omega), eR16]; exact zU_s
  refine ⟨?_, ?_⟩
  · rw [eR40, zU_n (by omega), h4.2.1 (i) (by omega), eR36, zZ_o (by omega), eR30, zU_n (by omega), h3.2.1 (i) (by omega), eR26, zZ_o (by omega), eR20, zU_n (by omega), eR18, zU_n (by omega), eR16]; exact zU_s
  intro X44
  intro eX44
  intro rX44
  intro Y45
  intro eY45
  intro rY45
  intro R46
  intro eR46
  refine ⟨?_, ?_⟩
  · rw [eX44]; exact zZ_s
  intro X48
  intro rX48
  intro R49
  intro h5
  intro R50
  intro eR50
  refine ⟨?_, ?_⟩
  · rw [eR50, zU_n (by omega), h5.2.1 (i) (by omega), eR46, zZ_o (by omega), eR40, zU_n (by omega), h4.2.1 (i) (by omega), eR36, zZ_o (by omega), eR30, zU_n (by omega), h3.2.1 (i) (by omega), eR26, zZ_o (by omega), eR20, zU_n (by omega), eR18, zU_n (by omega), eR16]; exact zU_s
  have l0 : R50 (i + 9) 0 = some (i + 12) ∧ eRw R50 (i + 12) := ⟨by rw [eR50, zU_n (by omega), h5.2.1 (i + 9) (by omega), eR46, zZ_o (by omega), eR40, zU_n (by omega), h4.2.1 (i + 9) (by omega), eR36, zZ_o (by omega), eR30]; exact zU_s, eRw_mv (by rw [eR50, zU_o (by omega), h5.2.1 (i + 12) (by omega), eR46, zZ_o (by omega), eR40, zU_o (by omega), h4.2.1 (i + 12) (by omega), eR36, zZ_o (by omega), eR30, zU_o (by omega)]) h3.2.2.1⟩
  have l1 : R50 (i + 9) 1 = some (i + 14) ∧ eRw R50 (i + 14) := ⟨by rw [eR50, zU_n (by omega), h5.2.1 (i + 9) (by omega), eR46, zZ_o (by omega), eR40]; exact zU_s, eRw_mv (by rw [eR50, zU_o (by omega), h5.2.1 (i + 14) (by omega), eR46, zZ_o (by omega), eR40, zU_o (by omega)]) h4.2.2.1⟩
  have l2 : R50 (i + 9) 2 = some (i + 16) ∧ eRw R50 (i + 16) := ⟨by rw [eR50]; exact zU_s, eRw_mv (by rw [eR50, zU_o (by omega)]) h5.2.2.1⟩
  have hl : ∀ z : Nat, z < 3 → R50 (i + 9) z = some (i + 12 + 2 * z) ∧ eRw R50 (i + 12 + 2 * z) := by
    intro z hz
    have q : z = 0 ∨ z = 1 ∨ z = 2 := by omega
    rcases q with rfl | rfl | rfl
    · exact l0
    · exact l1
    · exact l2
  exact ⟨fun z g => by rw [h5.1 (z) (by omega) (by omega), eX44, zZ_o (by omega), h4.1 (z) (by omega) (by omega), eX34, zZ_o (by omega), h3.1 (z) (by omega) (by omega), eX24, zZ_o (by omega), eX19, zZ_o (by omega), eX17, zZ_o (by omega), h2.1 (z) (by omega), eX8, zZ_o (by omega), h1.1 (z) (by omega) (by omega), eX1, zZ_o (by omega)], fun z g => by rw [eR50, zU_o (by omega), h5.2.1 (z) (by omega), eR46, zZ_o (by omega), eR40, zU_o (by omega), h4.2.1 (z) (by omega), eR36, zZ_o (by omega), eR30, zU_o (by omega), h3.2.1 (z) (by omega), eR26, zZ_o (by omega), eR20, zU_o (by omega), eR18, zU_o (by omega), eR16, zU_o (by omega), eR15, zZ_o (by omega), eR14, zU_o (by omega), h2.2.1 (z) (by omega), eR10, zZ_o (by omega), eR7, zU_o (by omega), h1.2.1 (z) (by omega), eR3, zZ_o (by omega)], ⟨⟨by rw [eR50, zU_n (by omega), h5.2.1 (i) (by omega), eR46, zZ_o (by omega), eR40, zU_n (by omega), h4.2.1 (i) (by omega), eR36, zZ_o (by omega), eR30, zU_n (by omega), h3.2.1 (i) (by omega), eR26, zZ_o (by omega), eR20, zU_n (by omega), eR18, zU_n (by omega), eR16, zU_n (by omega), eR15, zZ_o (by omega), eR14, zU_n (by omega), h2.2.1 (i) (by omega), eR10, zZ_o (by omega), eR7]; exact zU_s, eNt_mv (by rw [eR50, zU_o (by omega), h5.2.1 (i + 1) (by omega), eR46, zZ_o (by omega), eR40, zU_o (by omega), h4.2.1 (i + 1) (by omega), eR36, zZ_o (by omega), eR30, zU_o (by omega), h3.2.1 (i + 1) (by omega), eR26, zZ_o (by omega), eR20, zU_o (by omega), eR18, zU_o (by omega), eR16, zU_o (by omega), eR15, zZ_o (by omega), eR14, zU_o (by omega), h2.2.1 (i + 1) (by omega), eR10, zZ_o (by omega), eR7, zU_o (by omega)]) h1.2.2.1⟩, ⟨by rw [eR50, zU_n (by omega), h5.2.1 (i) (by omega), eR46, zZ_o (by omega), eR40, zU_n (by omega), h4.2.1 (i) (by omega), eR36, zZ_o (by omega), eR30, zU_n (by omega), h3.2.1 (i) (by omega), eR26, zZ_o (by omega), eR20, zU_n (by omega), eR18, zU_n (by omega), eR16, zU_n (by omega), eR15, zZ_o (by omega), eR14]; exact zU_s, eBk_mv (by rw [eR50, zU_o (by omega), h5.2.1 (i + 3) (by omega), eR46, zZ_o (by omega), eR40, zU_o (by omega), h4.2.1 (i + 3) (by omega), eR36, zZ_o (by omega), eR30, zU_o (by omega), h3.2.1 (i + 3) (by omega), eR26, zZ_o (by omega), eR20, zU_o (by omega), eR18, zU_o (by omega), eR16, zU_o (by omega), eR15, zZ_o (by omega), eR14, zU_o (by omega)]) h2.2.2.1⟩, ⟨by rw [eR50, zU_n (by omega), h5.2.1 (i) (by omega), eR46, zZ_o (by omega), eR40, zU_n (by omega), h4.2.1 (i) (by omega), eR36, zZ_o (by omega), eR30, zU_n (by omega), h3.2.1 (i) (by omega), eR26, zZ_o (by omega), eR20, zU_n (by omega), eR18, zU_n (by omega), eR16]; exact zU_s, by rw [eR50, zU_n (by omega), h5.2.1 (i) (by omega), eR46, zZ_o (by omega), eR40, zU_n (by omega), h4.2.1 (i) (by omega), eR36, zZ_o (by omega), eR30, zU_n (by omega), h3.2.1 (i) (by omega), eR26, zZ_o (by omega), eR20, zU_n (by omega), eR18]; exact zU_s, by rw [eR50, zU_n (by omega), h5.2.1 (i) (by omega), eR46, zZ_o (by omega), eR40, zU_n (by omega), h4.2.1 (i) (by omega), eR36, zZ_o (by omega), eR30, zU_n (by omega), h3.2.1 (i) (by omega), eR26, zZ_o (by omega), eR20]; exact zU_s⟩, hl⟩, z0N_mv (by rw [h5.1 (i + 1) (by omega) (by omega), eX44, zZ_o (by omega), h4.1 (i + 1) (by omega) (by omega), eX34, zZ_o (by omega), h3.1 (i + 1) (by omega) (by omega), eX24, zZ_o (by omega), eX19, zZ_o (by omega), eX17, zZ_o (by omega), h2.1 (i + 1) (by omega), eX8, zZ_o (by omega)]) (by rw [h5.1 (i + 2) (by omega) (by omega), eX44, zZ_o (by omega), h4.1 (i + 2) (by omega) (by omega), eX34, zZ_o (by omega), h3.1 (i + 2) (by omega) (by omega), eX24, zZ_o (by omega), eX19, zZ_o (by omega), eX17, zZ_o (by omega), h2.1 (i + 2) (by omega), eX8, zZ_o (by omega)]) h1.2.2.2, z0B_mv (by rw [h5.1 (i + 3) (by omega) (by omega), eX44, zZ_o (by omega), h4.1 (i + 3) (by omega) (by omega), eX34, zZ_o (by omega), h3.1 (i + 3) (by omega) (by omega), eX24, zZ_o (by omega), eX19, zZ_o (by omega), eX17, zZ_o (by omega)]) (by rw [h5.1 (i + 4) (by omega) (by omega), eX44, zZ_o (by omega), h4.1 (i + 4) (by omega) (by omega), eX34, zZ_o (by omega), h3.1 (i + 4) (by omega) (by omega), eX24, zZ_o (by omega), eX19, zZ_o (by omega), eX17, zZ_o (by omega)]) (by rw [h5.1 (i + 5) (by omega) (by omega), eX44, zZ_o (by omega), h4.1 (i + 5) (by omega) (by omega), eX34, zZ_o (by omega), h3.1 (i + 5) (by omega) (by omega), eX24, zZ_o (by omega), eX19, zZ_o (by omega), eX17, zZ_o (by omega)]) (by rw [h5.1 (i + 6) (by omega) (by omega), eX44, zZ_o (by omega), h4.1 (i + 6) (by omega) (by omega), eX34, zZ_o (by omega), h3.1 (i + 6) (by omega) (by omega), eX24, zZ_o (by omega), eX19, zZ_o (by omega), eX17, zZ_o (by omega)]) (by rw [h5.1 (i + 7) (by omega) (by omega), eX44, zZ_o (by omega), h4.1 (i + 7) (by omega) (by omega), eX34, zZ_o (by omega), h3.1 (i + 7) (by omega) (by omega), eX24, zZ_o (by omega), eX19, zZ_o (by omega), eX17, zZ_o (by omega)]) (by rw [h5.1 (i + 8) (by omega) (by omega), eX44, zZ_o (by omega), h4.1 (i + 8) (by omega) (by omega), eX34, zZ_o (by omega), h3.1 (i + 8) (by omega) (by omega), eX24, zZ_o (by omega), eX19, zZ_o (by omega), eX17, zZ_o (by omega)]) h2.2.2.2, fun y => by rw [h5.1 (i + 11) (by omega) (by omega), eX44, zZ_o (by omega), h4.1 (i + 11) (by omega) (by omega), eX34, zZ_o (by omega), h3.1 (i + 11) (by omega) (by omega), eX24, zZ_o (by omega), eX19]; exact zZ_at, z0R_mv (by rw [h5.1 (i + 12) (by omega) (by omega), eX44, zZ_o (by omega), h4.1 (i + 12) (by omega) (by omega), eX34, zZ_o (by omega)]) (by rw [h5.1 (i + 13) (by omega) (by omega), eX44, zZ_o (by omega), h4.1 (i + 13) (by omega) (by omega), eX34, zZ_o (by omega)]) h3.2.2.2, z0R_mv (by rw [h5.1 (i + 14) (by omega) (by omega), eX44, zZ_o (by omega)]) (by rw [h5.1 (i + 15) (by omega) (by omega), eX44, zZ_o (by omega)]) h4.2.2.2, z0R_mv (rfl) (rfl) h5.2.2.2⟩
theorem c_X7_init {l : Launch} {D : va_G} {cy : Nat → ClassId} {bs : Nat} {sa : Nat → Nat} {kd len : Nat → Nat} {X Y : Nat → Int → Int} {R : Nat → Int → Option Nat} {i : Nat} (hK : kT kd len i tReader)  (hp : X i = fun _ => 0) : Met l yX7_init (.code yX7_init cX7_init 2 none :: zTB) (zRmG 2 81 17 354) (zPcA D cy bs sa (i + 1) kd len X Y R [.ref (bs + (i))]) (zQv D cy bs (i + 18) kd len (fun st => ((∀ z, (z < i ∨ i + 17 < z) → st.1 z = X z) ∧ (∀ z, (z < i ∨ i + 17 < z) → st.2.2 z = R z) ∧ eRd st.2.2 i ∧ z0Rd st.1 i))) 17 354 (zA bs) := w_X7_init hK  (v_X7_init  hp)
