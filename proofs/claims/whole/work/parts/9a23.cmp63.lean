/-! CONSTRUCTORS: the component -/
def eWC (R : Nat → Int → Option Nat) (i : Nat) : Prop := (R i 0 = some (i + 1) ∧ eTd R (i + 1)) ∧ (R i 1 = some (i + 35) ∧ R i 2 = some (i + 138)) ∧ (∀ z : Nat, z < 3 → R (i + 35) z = some (i + 36 + 34 * z) ∧ eTd R (i + 36 + 34 * z)) ∧ (R i 3 = some (i + 139) ∧ eRd R (i + 139)) ∧ (R i 4 = some (i + 157) ∧ eCh R (i + 157)) ∧ (R i 5 = some (i + 204) ∧ R (i + 204) 0 = some (i + 157) ∧ R (i + 204) 3 = some (i + 205)) ∧ (R i 6 = some (i + 206) ∧ eLw R (i + 206) (i + 157) (i + 204)) ∧ (R i 7 = some (i + 246) ∧ eFi R (i + 246)) ∧ R i 8 = some (i + 260) ∧ eLd R (i + 260)
def z0WC (X : Nat → Int → Int) (i : Nat) : Prop := z0Td X (i + 1) ∧ (∀ z : Nat, z < 3 → z0Td X (i + 36 + 34 * z)) ∧ (∀ y, X (i + 138) y = 0) ∧ z0Rd X (i + 139) ∧ chI X (i + 157)
abbrev cX10_init : ByteArray := prog_1_method_1_code
def yX10_init : MethodName := ⟨RX10, "<init>", "()V"⟩
theorem dX10_init_0 : decode cX10_init 0 = .ok (.aload_n 0, 1) := by decide +kernel
theorem dX10_init_1 : decode cX10_init 1 = .ok (.invokespecial 1, 3) := by decide +kernel
theorem dX10_init_4 : decode cX10_init 4 = .ok (.aload_n 0, 1) := by decide +kernel
theorem dX10_init_5 : decode cX10_init 5 = .ok (.new 7, 3) := by decide +kernel
theorem dX10_init_8 : decode cX10_init 8 = .ok (.dup, 1) := by decide +kernel
theorem dX10_init_9 : decode cX10_init 9 = .ok (.invokespecial 9, 3) := by decide +kernel
theorem dX10_init_12 : decode cX10_init 12 = .ok (.putfield 10, 3) := by decide +kernel
theorem dX10_init_15 : decode cX10_init 15 = .ok (.aload_n 0, 1) := by decide +kernel
theorem dX10_init_16 : decode cX10_init 16 = .ok (.iconst 3, 1) := by decide +kernel
theorem dX10_init_17 : decode cX10_init 17 = .ok (.anewarray 7, 3) := by decide +kernel
theorem dX10_init_20 : decode cX10_init 20 = .ok (.putfield 16, 3) := by decide +kernel
theorem dX10_init_23 : decode cX10_init 23 = .ok (.iconst 0, 1) := by decide +kernel
theorem dX10_init_24 : decode cX10_init 24 = .ok (.istore_n 1, 1) := by decide +kernel
theorem dX10_init_25 : decode cX10_init 25 = .ok (.iload_n 1, 1) := by decide +kernel
theorem dX10_init_26 : decode cX10_init 26 = .ok (.iconst 3, 1) := by decide +kernel
theorem dX10_init_27 : decode cX10_init 27 = .ok (.if_icmp .ge 22, 3) := by decide +kernel
theorem dX10_init_30 : decode cX10_init 30 = .ok (.aload_n 0, 1) := by decide +kernel
theorem dX10_init_31 : decode cX10_init 31 = .ok (.getfield 16, 3) := by decide +kernel
theorem dX10_init_34 : decode cX10_init 34 = .ok (.iload_n 1, 1) := by decide +kernel
theorem dX10_init_35 : decode cX10_init 35 = .ok (.new 7, 3) := by decide +kernel
theorem dX10_init_38 : decode cX10_init 38 = .ok (.dup, 1) := by decide +kernel
theorem dX10_init_39 : decode cX10_init 39 = .ok (.invokespecial 9, 3) := by decide +kernel
theorem dX10_init_42 : decode cX10_init 42 = .ok (.aastore, 1) := by decide +kernel
theorem dX10_init_43 : decode cX10_init 43 = .ok (.iinc 1 1, 3) := by decide +kernel
theorem dX10_init_46 : decode cX10_init 46 = .ok (.goto (-21), 3) := by decide +kernel
theorem dX10_init_49 : decode cX10_init 49 = .ok (.aload_n 0, 1) := by decide +kernel
theorem dX10_init_50 : decode cX10_init 50 = .ok (.iconst 3, 1) := by decide +kernel
theorem dX10_init_51 : decode cX10_init 51 = .ok (.newarray .boolean, 2) := by decide +kernel
theorem dX10_init_53 : decode cX10_init 53 = .ok (.putfield 20, 3) := by decide +kernel
theorem dX10_init_56 : decode cX10_init 56 = .ok (.aload_n 0, 1) := by decide +kernel
theorem dX10_init_57 : decode cX10_init 57 = .ok (.new 24, 3) := by decide +kernel
theorem dX10_init_60 : decode cX10_init 60 = .ok (.dup, 1) := by decide +kernel
theorem dX10_init_61 : decode cX10_init 61 = .ok (.invokespecial 26, 3) := by decide +kernel
theorem dX10_init_64 : decode cX10_init 64 = .ok (.putfield 27, 3) := by decide +kernel
theorem dX10_init_67 : decode cX10_init 67 = .ok (.aload_n 0, 1) := by decide +kernel
theorem dX10_init_68 : decode cX10_init 68 = .ok (.new 31, 3) := by decide +kernel
theorem dX10_init_71 : decode cX10_init 71 = .ok (.dup, 1) := by decide +kernel
theorem dX10_init_72 : decode cX10_init 72 = .ok (.invokespecial 33, 3) := by decide +kernel
theorem dX10_init_75 : decode cX10_init 75 = .ok (.putfield 34, 3) := by decide +kernel
theorem dX10_init_78 : decode cX10_init 78 = .ok (.aload_n 0, 1) := by decide +kernel
theorem dX10_init_79 : decode cX10_init 79 = .ok (.new 38, 3) := by decide +kernel
theorem dX10_init_82 : decode cX10_init 82 = .ok (.dup, 1) := by decide +kernel
theorem dX10_init_83 : decode cX10_init 83 = .ok (.aload_n 0, 1) := by decide +kernel
theorem dX10_init_84 : decode cX10_init 84 = .ok (.getfield 34, 3) := by decide +kernel
theorem dX10_init_87 : decode cX10_init 87 = .ok (.invokespecial 40, 3) := by decide +kernel
theorem dX10_init_90 : decode cX10_init 90 = .ok (.putfield 43, 3) := by decide +kernel
theorem dX10_init_93 : decode cX10_init 93 = .ok (.aload_n 0, 1) := by decide +kernel
theorem dX10_init_94 : decode cX10_init 94 = .ok (.new 47, 3) := by decide +kernel
theorem dX10_init_97 : decode cX10_init 97 = .ok (.dup, 1) := by decide +kernel
theorem dX10_init_98 : decode cX10_init 98 = .ok (.aload_n 0, 1) := by decide +kernel
theorem dX10_init_99 : decode cX10_init 99 = .ok (.getfield 34, 3) := by decide +kernel
theorem dX10_init_102 : decode cX10_init 102 = .ok (.aload_n 0, 1) := by decide +kernel
theorem dX10_init_103 : decode cX10_init 103 = .ok (.getfield 43, 3) := by decide +kernel
theorem dX10_init_106 : decode cX10_init 106 = .ok (.invokespecial 49, 3) := by decide +kernel
theorem dX10_init_109 : decode cX10_init 109 = .ok (.putfield 52, 3) := by decide +kernel
theorem dX10_init_112 : decode cX10_init 112 = .ok (.aload_n 0, 1) := by decide +kernel
theorem dX10_init_113 : decode cX10_init 113 = .ok (.new 56, 3) := by decide +kernel
theorem dX10_init_116 : decode cX10_init 116 = .ok (.dup, 1) := by decide +kernel
theorem dX10_init_117 : decode cX10_init 117 = .ok (.invokespecial 58, 3) := by decide +kernel
theorem dX10_init_120 : decode cX10_init 120 = .ok (.putfield 59, 3) := by decide +kernel
theorem dX10_init_123 : decode cX10_init 123 = .ok (.aload_n 0, 1) := by decide +kernel
theorem dX10_init_124 : decode cX10_init 124 = .ok (.new 63, 3) := by decide +kernel
theorem dX10_init_127 : decode cX10_init 127 = .ok (.dup, 1) := by decide +kernel
theorem dX10_init_128 : decode cX10_init 128 = .ok (.invokespecial 65, 3) := by decide +kernel
theorem dX10_init_131 : decode cX10_init 131 = .ok (.putfield 66, 3) := by decide +kernel
theorem dX10_init_134 : decode cX10_init 134 = .ok (.return_, 1) := by decide +kernel
theorem q_153 : Cond.methodLink RX10 1 Lib.objectInit ∈ zTB := zmem 153 (by decide +kernel) rfl
theorem q_156 : Cond.classLink RX10 7 RX9 ∈ zTB := zmem 156 (by decide +kernel) rfl
theorem q_157 : Cond.instantiable RX9 8 ∈ zTB := zmem 157 (by decide +kernel) rfl
theorem q_159 : Cond.instanceMethod yX9_init ∈ zTB := zmem 159 (by decide +kernel) rfl
theorem q_160 : Cond.code yX9_init cX9_init 2 none ∈ zTB := zmem 160 (by decide +kernel) rfl
theorem q_158 : Cond.methodLink RX10 9 yX9_init ∈ zTB := zmem 158 (by decide +kernel) rfl
theorem k_RX10_9 : zLi RX10 9 yX9_init cX9_init 2 0 := ⟨⟨q_158, q_159, q_130, q_160⟩, rfl, ⟨by decide, by decide⟩, by decide +kernel⟩
theorem q_310 : Cond.classLink RX10 24 RX7 ∈ zTB := zmem 310 (by decide +kernel) rfl
theorem q_311 : Cond.instantiable RX7 12 ∈ zTB := zmem 311 (by decide +kernel) rfl
theorem q_313 : Cond.instanceMethod yX7_init ∈ zTB := zmem 313 (by decide +kernel) rfl
theorem q_314 : Cond.code yX7_init cX7_init 2 none ∈ zTB := zmem 314 (by decide +kernel) rfl
theorem q_312 : Cond.methodLink RX10 26 yX7_init ∈ zTB := zmem 312 (by decide +kernel) rfl
theorem k_RX10_26 : zLi RX10 26 yX7_init cX7_init 2 0 := ⟨⟨q_312, q_313, q_134, q_314⟩, rfl, ⟨by decide, by decide⟩, by decide +kernel⟩
theorem q_365 : Cond.classLink RX10 31 RX1 ∈ zTB := zmem 365 (by decide +kernel) rfl
theorem q_366 : Cond.instantiable RX1 12 ∈ zTB := zmem 366 (by decide +kernel) rfl
theorem q_368 : Cond.instanceMethod yX1_init ∈ zTB := zmem 368 (by decide +kernel) rfl
theorem q_369 : Cond.code yX1_init cX1_init 2 none ∈ zTB := zmem 369 (by decide +kernel) rfl
theorem q_367 : Cond.methodLink RX10 33 yX1_init ∈ zTB := zmem 367 (by decide +kernel) rfl
theorem k_RX10_33 : zLi RX10 33 yX1_init cX1_init 2 0 := ⟨⟨q_367, q_368, q_135, q_369⟩, rfl, ⟨by decide, by decide⟩, by decide +kernel⟩
theorem q_442 : Cond.classLink RX10 38 RX2 ∈ zTB := zmem 442 (by decide +kernel) rfl
theorem q_443 : Cond.instantiable RX2 15 ∈ zTB := zmem 443 (by decide +kernel) rfl
theorem q_445 : Cond.instanceMethod yX2_init ∈ zTB := zmem 445 (by decide +kernel) rfl
theorem q_446 : Cond.code yX2_init cX2_init 2 none ∈ zTB := zmem 446 (by decide +kernel) rfl
theorem q_444 : Cond.methodLink RX10 40 yX2_init ∈ zTB := zmem 444 (by decide +kernel) rfl
theorem k_RX10_40 : zLi RX10 40 yX2_init cX2_init 2 1 := ⟨⟨q_444, q_445, q_137, q_446⟩, rfl, ⟨by decide, by decide⟩, by decide +kernel⟩
theorem q_506 : Cond.classLink RX10 47 RX4 ∈ zTB := zmem 506 (by decide +kernel) rfl
theorem q_507 : Cond.instantiable RX4 6 ∈ zTB := zmem 507 (by decide +kernel) rfl
theorem q_509 : Cond.instanceMethod yX4_init ∈ zTB := zmem 509 (by decide +kernel) rfl
theorem q_510 : Cond.code yX4_init cX4_init 3 none ∈ zTB := zmem 510 (by decide +kernel) rfl
theorem q_508 : Cond.methodLink RX10 49 yX4_init ∈ zTB := zmem 508 (by decide +kernel) rfl
theorem k_RX10_49 : zLi RX10 49 yX4_init cX4_init 3 2 := ⟨⟨q_508, q_509, q_138, q_510⟩, rfl, ⟨by decide, by decide⟩, by decide +kernel⟩
theorem q_535 : Cond.classLink RX10 56 RX3 ∈ zTB := zmem 535 (by decide +kernel) rfl
theorem q_536 : Cond.instantiable RX3 6 ∈ zTB := zmem 536 (by decide +kernel) rfl
theorem q_538 : Cond.instanceMethod yX3_init ∈ zTB := zmem 538 (by decide +kernel) rfl
theorem q_539 : Cond.code yX3_init cX3_init 2 none ∈ zTB := zmem 539 (by decide +kernel) rfl
theorem q_537 : Cond.methodLink RX10 58 yX3_init ∈ zTB := zmem 537 (by decide +kernel) rfl
theorem k_RX10_58 : zLi RX10 58 yX3_init cX3_init 2 0 := ⟨⟨q_537, q_538, q_139, q_539⟩, rfl, ⟨by decide, by decide⟩, by decide +kernel⟩
theorem q_567 : Cond.classLink RX10 63 RX5 ∈ zTB := zmem 567 (by decide +kernel) rfl
theorem k_RX10_65 : zLiN RX10 65 yX5_init "WorkChains" cX5_init 1 0 := ⟨⟨by decide +kernel, q_379, q_136, q_380⟩, rfl, ⟨by decide, by decide⟩, by decide +kernel⟩
set_option maxHeartbeats 4000000 in
set_option maxRecDepth 100000 in
def F_X10_init (i : Nat) (X Y : Nat → Int → Int) (R : Nat → Int → Option Nat)  : Prop := (∀ i j, rI (X i j)) → (∀ i j, rL (Y i j)) → ∀ X1 : Nat → Int → Int, X1 = zZ X (i + 1) 0 → (∀ i j, rI (X1 i j)) → (∀ Y2 : Nat → Int → Int, Y2 = zZ Y (i + 1) 0 → (∀ i j, rL (Y2 i j)) → (∀ R3 : Nat → Int → Option Nat, R3 = zZ R (i + 1) none → ((X1 (i + 1) = fun _ => 0) ∧ (∀ X5 : Nat → Int → Int, (∀ i j, rI (X5 i j)) → ∀ Y6 : Nat → Int → Int, (∀ i j, rL (Y6 i j)) → ∀ R7 : Nat → Int → Option Nat, ((∀ z, (z < (i + 1) ∨ (i + 1) + 33 < z) → X5 z = X1 z) ∧ (∀ z, (z < (i + 1) ∨ (i + 1) + 33 < z) → R7 z = R3 z) ∧ eTd R7 (i + 1) ∧ z0Td X5 (i + 1)) → (∀ R8 : Nat → Int → Option Nat, R8 = zU R7 (i) 0 (some ((i + 1))) → (∀ R9 : Nat → Int → Option Nat, R9 = zZ R8 (i + 35) none → (∀ R10 : Nat → Int → Option Nat, R10 = zU R9 (i) 1 (some ((i + 35))) → ((R10 i 1 = some (i + 35)) ∧ (∀ X13 : Nat → Int → Int, X13 = zZ X5 (i + 36) 0 → (∀ i j, rI (X13 i j)) → (∀ Y14 : Nat → Int → Int, Y14 = zZ Y6 (i + 36) 0 → (∀ i j, rL (Y14 i j)) → (∀ R15 : Nat → Int → Option Nat, R15 = zZ R10 (i + 36) none → ((X13 (i + 36) = fun _ => 0) ∧ (∀ X17 : Nat → Int → Int, (∀ i j, rI (X17 i j)) → ∀ Y18 : Nat → Int → Int, (∀ i j, rL (Y18 i j)) → ∀ R19 : Nat → Int → Option Nat, ((∀ z, (z < (i + 36) ∨ (i + 36) + 33 < z) → X17 z = X13 z) ∧ (∀ z, (z < (i + 36) ∨ (i + 36) + 33 < z) → R19 z = R15 z) ∧ eTd R19 (i + 36) ∧ z0Td X17 (i + 36)) → (∀ R20 : Nat → Int → Option Nat, R20 = zU R19 ((i + 35)) (0) (some ((i + 36))) → ((R20 i 1 = some (i + 35)) ∧ (∀ X23 : Nat → Int → Int, X23 = zZ X17 (i + 70) 0 → (∀ i j, rI (X23 i j)) → (∀ Y24 : Nat → Int → Int, Y24 = zZ Y18 (i + 70) 0 → (∀ i j, rL (Y24 i j)) → (∀ R25 : Nat → Int → Option Nat, R25 = zZ R20 (i + 70) none → ((X23 (i + 70) = fun _ => 0) ∧ (∀ X27 : Nat → Int → Int, (∀ i j, rI (X27 i j)) → ∀ Y28 : Nat → Int → Int, (∀ i j, rL (Y28 i j)) → ∀ R29 : Nat → Int → Option Nat, ((∀ z, (z < (i + 70) ∨ (i + 70) + 33 < z) → X27 z = X23 z) ∧ (∀ z, (z < (i + 70) ∨ (i + 70) + 33 < z) → R29 z = R25 z) ∧ eTd R29 (i + 70) ∧ z0Td X27 (i + 70)) → (∀ R30 : Nat → Int → Option Nat, R30 = zU R29 ((i + 35)) (1) (some ((i + 70))) → ((R30 i 1 = some (i + 35)) ∧ (∀ X33 : Nat → Int → Int, X33 = zZ X27 (i + 104) 0 → (∀ i j, rI (X33 i j)) → (∀ Y34 : Nat → Int → Int, Y34 = zZ Y28 (i + 104) 0 → (∀ i j, rL (Y34 i j)) → (∀ R35 : Nat → Int → Option Nat, R35 = zZ R30 (i + 104) none → ((X33 (i + 104) = fun _ => 0) ∧ (∀ X37 : Nat → Int → Int, (∀ i j, rI (X37 i j)) → ∀ Y38 : Nat → Int → Int, (∀ i j, rL (Y38 i j)) → ∀ R39 : Nat → Int → Option Nat, ((∀ z, (z < (i + 104) ∨ (i + 104) + 33 < z) → X37 z = X33 z) ∧ (∀ z, (z < (i + 104) ∨ (i + 104) + 33 < z) → R39 z = R35 z) ∧ eTd R39 (i + 104) ∧ z0Td X37 (i + 104)) → (∀ R40 : Nat → Int → Option Nat, R40 = zU R39 ((i + 35)) (2) (some ((i + 104))) → (∀ X42 : Nat → Int → Int, X42 = zZ X37 (i + 138) 0 → (∀ i j, rI (X42 i j)) → (∀ R43 : Nat → Int → Option Nat, R43 = zU R40 (i) 2 (some ((i + 138))) → (∀ X44 : Nat → Int → Int, X44 = zZ X42 (i + 139) 0 → (∀ i j, rI (X44 i j)) → (∀ Y45 : Nat → Int → Int, Y45 = zZ Y38 (i + 139) 0 → (∀ i j, rL (Y45 i j)) → (∀ R46 : Nat → Int → Option Nat, R46 = zZ R43 (i + 139) none → ((X44 (i + 139) = fun _ => 0) ∧ (∀ X48 : Nat → Int → Int, (∀ i j, rI (X48 i j)) → ∀ Y49 : Nat → Int → Int, (∀ i j, rL (Y49 i j)) → ∀ R50 : Nat → Int → Option Nat, ((∀ z, (z < (i + 139) ∨ (i + 139) + 17 < z) → X48 z = X44 z) ∧ (∀ z, (z < (i + 139) ∨ (i + 139) + 17 < z) → R50 z = R46 z) ∧ eRd R50 (i + 139) ∧ z0Rd X48 (i + 139)) → (∀ R51 : Nat → Int → Option Nat, R51 = zU R50 (i) 3 (some ((i + 139))) → (∀ X52 : Nat → Int → Int, X52 = zZ X48 (i + 157) 0 → (∀ i j, rI (X52 i j)) → (∀ Y53 : Nat → Int → Int, Y53 = zZ Y49 (i + 157) 0 → (∀ i j, rL (Y53 i j)) → (∀ R54 : Nat → Int → Option Nat, R54 = zZ R51 (i + 157) none → ((X52 (i + 157) = fun _ => 0) ∧ (∀ X56 : Nat → Int → Int, (∀ i j, rI (X56 i j)) → ∀ Y57 : Nat → Int → Int, (∀ i j, rL (Y57 i j)) → ∀ R58 : Nat → Int → Option Nat, ((∀ z, (z < (i + 157) ∨ (i + 157) + 46 < z) → X56 z = X52 z) ∧ (∀ z, (z < (i + 157) ∨ (i + 157) + 46 < z) → R58 z = R54 z) ∧ eCh R58 (i + 157) ∧ (∀ y, X56 (i + 166) y = 0) ∧ ∀ y, X56 (i + 168) y = 0) → (∀ R59 : Nat → Int → Option Nat, R59 = zU R58 (i) 4 (some ((i + 157))) → (∀ X60 : Nat → Int → Int, X60 = zZ X56 (i + 204) 0 → (∀ i j, rI (X60 i j)) → (∀ Y61 : Nat → Int → Int, Y61 = zZ Y57 (i + 204) 0 → (∀ i j, rL (Y61 i j)) → (∀ R62 : Nat → Int → Option Nat, R62 = zZ R59 (i + 204) none → ((R62 i 4 = some (i + 157)) ∧ ((X60 (i + 204) = fun _ => 0) ∧ (∀ X65 : Nat → Int → Int, (∀ i j, rI (X65 i j)) → ∀ R66 : Nat → Int → Option Nat, ((∀ z, z ≠ (i + 204) → z ≠ i + 205 → X65 z = X60 z) ∧ (∀ z, z ≠ (i + 204) → R66 z = R62 z) ∧ R66 (i + 204) 0 = some (i + 157) ∧ R66 (i + 204) 3 = some (i + 205)) → (∀ R67 : Nat → Int → Option Nat, R67 = zU R66 (i) 5 (some ((i + 204))) → (∀ X68 : Nat → Int → Int, X68 = zZ X65 (i + 206) 0 → (∀ i j, rI (X68 i j)) → (∀ Y69 : Nat → Int → Int, Y69 = zZ Y61 (i + 206) 0 → (∀ i j, rL (Y69 i j)) → (∀ R70 : Nat → Int → Option Nat, R70 = zZ R67 (i + 206) none → ((R70 i 4 = some (i + 157)) ∧ ((R70 i 5 = some (i + 204)) ∧ ((X68 (i + 206) = fun _ => 0) ∧ (∀ X74 : Nat → Int → Int, (∀ i j, rI (X74 i j)) → ∀ R75 : Nat → Int → Option Nat, ((∀ z, (z < (i + 206) ∨ (i + 206) + 39 < z) → X74 z = X68 z) ∧ (∀ z, (z < (i + 206) ∨ (i + 206) + 39 < z) → R75 z = R70 z) ∧ eLw R75 (i + 206) (i + 157) (i + 204)) → (∀ R76 : Nat → Int → Option Nat, R76 = zU R75 (i) 6 (some ((i + 206))) → (∀ X77 : Nat → Int → Int, X77 = zZ X74 (i + 246) 0 → (∀ i j, rI (X77 i j)) → (∀ Y78 : Nat → Int → Int, Y78 = zZ Y69 (i + 246) 0 → (∀ i j, rL (Y78 i j)) → (∀ R79 : Nat → Int → Option Nat, R79 = zZ R76 (i + 246) none → ((X77 (i + 246) = fun _ => 0) ∧ (∀ X81 : Nat → Int → Int, (∀ i j, rI (X81 i j)) → ∀ Y82 : Nat → Int → Int, (∀ i j, rL (Y82 i j)) → ∀ R83 : Nat → Int → Option Nat, ((∀ z, (z < (i + 246) ∨ (i + 246) + 13 < z) → X81 z = X77 z) ∧ (∀ z, (z < (i + 246) ∨ (i + 246) + 13 < z) → R83 z = R79 z) ∧ eFi R83 (i + 246)) → (∀ R84 : Nat → Int → Option Nat, R84 = zU R83 (i) 7 (some ((i + 246))) → (∀ X85 : Nat → Int → Int, X85 = zZ X81 (i + 260) 0 → (∀ i j, rI (X85 i j)) → (∀ Y86 : Nat → Int → Int, Y86 = zZ Y82 (i + 260) 0 → (∀ i j, rL (Y86 i j)) → (∀ R87 : Nat → Int → Option Nat, R87 = zZ R84 (i + 260) none → ((X85 (i + 260) = fun _ => 0) ∧ (∀ X89 : Nat → Int → Int, (∀ i j, rI (X89 i j)) → ∀ R90 : Nat → Int → Option Nat, ((∀ z, z ≠ (i + 260) → z ≠ i + 261 → X89 z = X85 z) ∧ (∀ z, z ≠ (i + 260) → R90 z = R87 z) ∧ eLd R90 (i + 260)) → (∀ R91 : Nat → Int → Option Nat, R91 = zU R90 (i) 8 (some ((i + 260))) → ((∀ z, (z < i ∨ i + 261 < z) → X89 z = X z) ∧ (∀ z, (z < i ∨ i + 261 < z) → R91 z = R z) ∧ eWC R91 i ∧ z0WC X89 i))))))))))))))))))))))))))))))))))))))))))))))))))))))))))))))))))))))
set_option maxHeartbeats 4000000 in
set_option maxRecDepth 100000 in
theorem w_X10_init {l : Launch} {D : va_G} {cy : Nat → ClassId} {bs : Nat} {sa : Nat → Nat} {kd len : Nat → Nat} {X Y : Nat → Int → Int} {R : Nat → Int → Option Nat} {i : Nat} (hK : kT kd len i tWC)  (hF : F_X10_init i X Y R ) : Met l yX10_init (.code yX10_init cX10_init 2 none :: zTB) (zRmG 3 102 261 7791) (zPcA D cy bs sa (i + 1) kd len X Y R [.ref (bs + (i))]) (zQv D cy bs (i + 262) kd len (fun st => ((∀ z, (z < i ∨ i + 261 < z) → st.1 z = X z) ∧ (∀ z, (z < i ∨ i + 261 < z) → st.2.2 z = R z) ∧ eWC st.2.2 i ∧ z0WC st.1 i))) 261 7791 (zA bs) := by
  refine zstartGA (by decide) (Nat.le_of_ble_eq_true rfl) ?_
  intro p e s m args below meth c ls C hE hA hH hr hlk hnm hl hargs
  have hF := hF hH.2.2.1 hH.2.2.2
  have hS : va_S (zA bs) s.heap s.heap [] := va_S.rf
  have hl : lv_has ls 2 [(0, .ref (bs + (i)))] := hl
  refine lv_aload_n C.1 C.2.1 dX10_init_0 rfl (lv_at hl 0 rfl) ?_
  refine zd_oinit C hl.1 q_153 q_154 q_155 (Nat.le_of_ble_eq_true rfl) dX10_init_1 (Nat.le_of_ble_eq_true rfl) (Nat.le_of_ble_eq_true rfl) ?_
  refine lv_aload_n C.1 C.2.1 dX10_init_4 rfl (lv_at hl 0 rfl) ?_
  refine zd_newO C hH hS (ci := 9) rfl zin9 tyX9 tyX9_ok q_156 q_157 q_130 (kT_k (k := 9) (l := 0) hK 1 (by decide +kernel)) rfl zO9 (Nat.le_of_ble_eq_true rfl) (Nat.le_of_ble_eq_true rfl) dX10_init_5 (fun H hH hS => ?_)
  obtain ⟨X1, eX1⟩ : ∃ z, z = zZ X (i + 1) 0 := ⟨_, rfl⟩
  rw [← eX1] at hH
  have hF := hF X1 eX1 hH.2.2.1
  obtain ⟨Y2, eY2⟩ : ∃ z, z = zZ Y (i + 1) 0 := ⟨_, rfl⟩
  rw [← eY2] at hH
  have hF := hF Y2 eY2 hH.2.2.2
  obtain ⟨R3, eR3⟩ : ∃ z, z = zZ R (i + 1) none := ⟨_, rfl⟩
  rw [← eR3] at hH
  have hF := hF R3 eR3
  refine lv_dup C.1 C.2.1 dX10_init_8 rfl ?_
  obtain ⟨o4, hF⟩ := hF
  refine zgovG (zrunIG (As := []) (rest := [.ref (bs + ((i + 1))), .ref (bs + (i))]) C hE hA hH hS hl.1 (c_X9_init (l := l) (kT_sub hK 1 tTold (by decide +kernel))  o4) k_RX10_9 ⟨Nat.le_of_ble_eq_true rfl, Nat.le_of_ble_eq_true rfl⟩ rfl (Nat.le_of_ble_eq_true rfl) dX10_init_9 ⟨Nat.le_of_ble_eq_true rfl, Nat.le_of_ble_eq_true rfl⟩) hS (fun X5 Y6 R7 H locs hq hH hS => ?_)
  have hF := hF X5 hH.2.2.1 Y6 hH.2.2.2 R7 hq
  refine zp10_0 C hH hS (by omega) (kT_0 (k := 10) (l := 0) hK (by decide +kernel)) q_569 hnm rfl dX10_init_12 (fun H locs hH hS => ?_)
  obtain ⟨R8, eR8⟩ : ∃ z, z = zU R7 (i) 0 (some ((i + 1))) := ⟨_, rfl⟩
  rw [← eR8] at hH
  have hF := hF R8 eR8
  refine lv_aload_n C.1 C.2.1 dX10_init_15 rfl (lv_at hl 0 rfl) ?_
  refine zd_iconst C dX10_init_16 ?_
  refine zd_newR (k := 4) C hH hS q_156 hA.1.2.2.2.2 rfl (n := 3) rfl (by decide) (kT_k (k := 20) (l := 3) hK 35 (by decide +kernel)) (kT_l (k := 20) (l := 3) hK 35 (by decide +kernel)) (Nat.le_of_ble_eq_true rfl) (Nat.le_of_ble_eq_true rfl) dX10_init_17 (fun H hH hS => ?_)
  obtain ⟨R9, eR9⟩ : ∃ z, z = zZ R8 (i + 35) none := ⟨_, rfl⟩
  rw [← eR9] at hH
  have hF := hF R9 eR9
  refine zp10_1 C hH hS (by omega) (kT_0 (k := 10) (l := 0) hK (by decide +kernel)) q_570 hnm rfl dX10_init_20 (fun H locs hH hS => ?_)
  obtain ⟨R10, eR10⟩ : ∃ z, z = zU R9 (i) 1 (some ((i + 35))) := ⟨_, rfl⟩
  rw [← eR10] at hH
  have hF := hF R10 eR10
  refine zd_iconst C dX10_init_23 ?_
  refine lv_istore_n (lv' := [(1, .int (zI (0))), (0, .ref (bs + (i)))]) C.1 C.2.1 dX10_init_24 rfl hl (by decide) rfl (fun ls hl => ?_)
  refine lv_iload_n C.1 C.2.1 dX10_init_25 rfl (lv_at hl 0 rfl) ?_
  refine zd_iconst C dX10_init_26 ?_
  refine zd_icmp_ge C (by decide) (by decide) 49 dX10_init_27 (by decide) (fun c11 => ?_) (fun c11 => ?_)
  · exact absurd c11 (by decide)
  · refine lv_aload_n C.1 C.2.1 dX10_init_30 rfl (lv_at hl 1 rfl) ?_
    obtain ⟨o12, hF⟩ := hF
    refine zg10_1 C hH (by omega) (kT_0 (k := 10) (l := 0) hK (by decide +kernel)) q_570 o12 dX10_init_31 ?_
    refine lv_iload_n C.1 C.2.1 dX10_init_34 rfl (lv_at hl 0 rfl) ?_
    refine zd_newO C hH hS (ci := 9) rfl zin9 tyX9 tyX9_ok q_156 q_157 q_130 (kT_k (k := 9) (l := 0) hK 36 (by decide +kernel)) rfl zO9 (Nat.le_of_ble_eq_true rfl) (Nat.le_of_ble_eq_true rfl) dX10_init_35 (fun H hH hS => ?_)
    obtain ⟨X13, eX13⟩ : ∃ z, z = zZ X5 (i + 36) 0 := ⟨_, rfl⟩
    rw [← eX13] at hH
    have hF := hF X13 eX13 hH.2.2.1
    obtain ⟨Y14, eY14⟩ : ∃ z, z = zZ Y6 (i + 36) 0 := ⟨_, rfl⟩
    rw [← eY14] at hH
    have hF := hF Y14 eY14 hH.2.2.2
    obtain ⟨R15, eR15⟩ : ∃ z, z = zZ R10 (i + 36) none := ⟨_, rfl⟩
    rw [← eR15] at hH
    have hF := hF R15 eR15
    refine lv_dup C.1 C.2.1 dX10_init_38 rfl ?_
    obtain ⟨o16, hF⟩ := hF
    refine zgovG (zrunIG (As := []) (rest := [.ref (bs + ((i + 36))), .int (zI (0)), .ref (bs + ((i + 35)))]) C hE hA hH hS hl.1 (c_X9_init (l := l) (kT_sub hK 36 tTold (by decide +kernel))  o16) k_RX10_9 ⟨Nat.le_of_ble_eq_true rfl, Nat.le_of_ble_eq_true rfl⟩ rfl (Nat.le_of_ble_eq_true rfl) dX10_init_39 ⟨Nat.le_of_ble_eq_true rfl, Nat.le_of_ble_eq_true rfl⟩) hS (fun X17 Y18 R19 H locs hq hH hS => ?_)
    have hF := hF X17 hH.2.2.1 Y18 hH.2.2.2 R19 hq
    refine zd_aastr (k := 4) (ci := 9) C hH hS (by omega) (kT_k (k := 20) (l := 3) hK 35 (by decide +kernel)) (by omega) (kT_k (k := 9) (l := 0) hK 36 (by decide +kernel)) rfl rfl rfl (by decide) (by rw [(kT_l (k := 20) (l := 3) hK 35 (by decide +kernel))]; decide) (by rw [(kT_l (k := 20) (l := 3) hK 35 (by decide +kernel))]; decide) dX10_init_42 (fun H locs hH hS => ?_)
    obtain ⟨R20, eR20⟩ : ∃ z, z = zU R19 ((i + 35)) (0) (some ((i + 36))) := ⟨_, rfl⟩
    rw [← eR20] at hH
    have hF := hF R20 eR20
    refine zd_iinc (k := 0) (lv' := [(1, .int (zI (1))), (0, .ref (bs + (i)))]) C hl rfl dX10_init_43 (by decide) rfl (fun ls hl => ?_)
    refine lv_goto (tgt := 25) C.1 C.2.1 dX10_init_46 (by decide) ?_
    refine lv_iload_n C.1 C.2.1 dX10_init_25 rfl (lv_at hl 0 rfl) ?_
    refine zd_iconst C dX10_init_26 ?_
    refine zd_icmp_ge C (by decide) (by decide) 49 dX10_init_27 (by decide) (fun c21 => ?_) (fun c21 => ?_)
    · exact absurd c21 (by decide)
    · refine lv_aload_n C.1 C.2.1 dX10_init_30 rfl (lv_at hl 1 rfl) ?_
      obtain ⟨o22, hF⟩ := hF
      refine zg10_1 C hH (by omega) (kT_0 (k := 10) (l := 0) hK (by decide +kernel)) q_570 o22 dX10_init_31 ?_
      refine lv_iload_n C.1 C.2.1 dX10_init_34 rfl (lv_at hl 0 rfl) ?_
      refine zd_newO C hH hS (ci := 9) rfl zin9 tyX9 tyX9_ok q_156 q_157 q_130 (kT_k (k := 9) (l := 0) hK 70 (by decide +kernel)) rfl zO9 (Nat.le_of_ble_eq_true rfl) (Nat.le_of_ble_eq_true rfl) dX10_init_35 (fun H hH hS => ?_)
      obtain ⟨X23, eX23⟩ : ∃ z, z = zZ X17 (i + 70) 0 := ⟨_, rfl⟩
      rw [← eX23] at hH
      have hF := hF X23 eX23 hH.2.2.1
      obtain ⟨Y24, eY24⟩ : ∃ z, z = zZ Y18 (i + 70) 0 := ⟨_, rfl⟩
      rw [← eY24] at hH
      have hF := hF Y24 eY24 hH.2.2.2
      obtain ⟨R25, eR25⟩ : ∃ z, z = zZ R20 (i + 70) none := ⟨_, rfl⟩
      rw [← eR25] at hH
      have hF := hF R25 eR25
      refine lv_dup C.1 C.2.1 dX10_init_38 rfl ?_
      obtain ⟨o26, hF⟩ := hF
      refine zgovG (zrunIG (As := []) (rest := [.ref (bs + ((i + 70))), .int (zI (1)), .ref (bs + ((i + 35)))]) C hE hA hH hS hl.1 (c_X9_init (l := l) (kT_sub hK 70 tTold (by decide +kernel))  o26) k_RX10_9 ⟨Nat.le_of_ble_eq_true rfl, Nat.le_of_ble_eq_true rfl⟩ rfl (Nat.le_of_ble_eq_true rfl) dX10_init_39 ⟨Nat.le_of_ble_eq_true rfl, Nat.le_of_ble_eq_true rfl⟩) hS (fun X27 Y28 R29 H locs hq hH hS => ?_)
      have hF := hF X27 hH.2.2.1 Y28 hH.2.2.2 R29 hq
      refine zd_aastr (k := 4) (ci := 9) C hH hS (by omega) (kT_k (k := 20) (l := 3) hK 35 (by decide +kernel)) (by omega) (kT_k (k := 9) (l := 0) hK 70 (by decide +kernel)) rfl rfl rfl (by decide) (by rw [(kT_l (k := 20) (l := 3) hK 35 (by decide +kernel))]; decide) (by rw [(kT_l (k := 20) (l := 3) hK 35 (by decide +kernel))]; decide) dX10_init_42 (fun H locs hH hS => ?_)
      obtain ⟨R30, eR30⟩ : ∃ z, z = zU R29 ((i + 35)) (1) (some ((i + 70))) := ⟨_, rfl⟩
      rw [← eR30] at hH
      have hF := hF R30 eR30
      refine zd_iinc (k := 0) (lv' := [(1, .int (zI (2))), (0, .ref (bs + (i)))]) C hl rfl dX10_init_43 (by decide) rfl (fun ls hl => ?_)
      refine lv_goto (tgt := 25) C.1 C.2.1 dX10_init_46 (by decide) ?_
      refine lv_iload_n C.1 C.2.1 dX10_init_25 rfl (lv_at hl 0 rfl) ?_
      refine zd_iconst C dX10_init_26 ?_
      refine zd_icmp_ge C (by decide) (by decide) 49 dX10_init_27 (by decide) (fun c31 => ?_) (fun c31 => ?_)
      · exact absurd c31 (by decide)
      · refine lv_aload_n C.1 C.2.1 dX10_init_30 rfl (lv_at hl 1 rfl) ?_
        obtain ⟨o32, hF⟩ := hF
        refine zg10_1 C hH (by omega) (kT_0 (k := 10) (l := 0) hK (by decide +kernel)) q_570 o32 dX10_init_31 ?_
        refine lv_iload_n C.1 C.2.1 dX10_init_34 rfl (lv_at hl 0 rfl) ?_
        refine zd_newO C hH hS (ci := 9) rfl zin9 tyX9 tyX9_ok q_156 q_157 q_130 (kT_k (k := 9) (l := 0) hK 104 (by decide +kernel)) rfl zO9 (Nat.le_of_ble_eq_true rfl) (Nat.le_of_ble_eq_true rfl) dX10_init_35 (fun H hH hS => ?_)
        obtain ⟨X33, eX33⟩ : ∃ z, z = zZ X27 (i + 104) 0 := ⟨_, rfl⟩
        rw [← eX33] at hH
        have hF := hF X33 eX33 hH.2.2.1
        obtain ⟨Y34, eY34⟩ : ∃ z, z = zZ Y28 (i + 104) 0 := ⟨_, rfl⟩
        rw [← eY34] at hH
        have hF := hF Y34 eY34 hH.2.2.2
        obtain ⟨R35, eR35⟩ : ∃ z, z = zZ R30 (i + 104) none := ⟨_, rfl⟩
        rw [← eR35] at hH
        have hF := hF R35 eR35
        refine lv_dup C.1 C.2.1 dX10_init_38 rfl ?_
        obtain ⟨o36, hF⟩ := hF
        refine zgovG (zrunIG (As := []) (rest := [.ref (bs + ((i + 104))), .int (zI (2)), .ref (bs + ((i + 35)))]) C hE hA hH hS hl.1 (c_X9_init (l := l) (kT_sub hK 104 tTold (by decide +kernel))  o36) k_RX10_9 ⟨Nat.le_of_ble_eq_true rfl, Nat.le_of_ble_eq_true rfl⟩ rfl (Nat.le_of_ble_eq_true rfl) dX10_init_39 ⟨Nat.le_of_ble_eq_true rfl, Nat.le_of_ble_eq_true rfl⟩) hS (fun X37 Y38 R39 H locs hq hH hS => ?_)
        have hF := hF X37 hH.2.2.1 Y38 hH.2.2.2 R39 hq
        refine zd_aastr (k := 4) (ci := 9) C hH hS (by omega) (kT_k (k := 20) (l := 3) hK 35 (by decide +kernel)) (by omega) (kT_k (k := 9) (l := 0) hK 104 (by decide +kernel)) rfl rfl rfl (by decide) (by rw [(kT_l (k := 20) (l := 3) hK 35 (by decide +kernel))]; decide) (by rw [(kT_l (k := 20) (l := 3) hK 35 (by decide +kernel))]; decide) dX10_init_42 (fun H locs hH hS => ?_)
        obtain ⟨R40, eR40⟩ : ∃ z, z = zU R39 ((i + 35)) (2) (some ((i + 104))) := ⟨_, rfl⟩
        rw [← eR40] at hH
        have hF := hF R40 eR40
        refine zd_iinc (k := 0) (lv' := [(1, .int (zI (3))), (0, .ref (bs + (i)))]) C hl rfl dX10_init_43 (by decide) rfl (fun ls hl => ?_)
        refine lv_goto (tgt := 25) C.1 C.2.1 dX10_init_46 (by decide) ?_
        refine lv_iload_n C.1 C.2.1 dX10_init_25 rfl (lv_at hl 0 rfl) ?_
        refine zd_iconst C dX10_init_26 ?_
        refine zd_icmp_ge C (by decide) (by decide) 49 dX10_init_27 (by decide) (fun c41 => ?_) (fun c41 => ?_)
        · refine lv_aload_n C.1 C.2.1 dX10_init_49 rfl (lv_at hl 1 rfl) ?_
          refine zd_iconst C dX10_init_50 ?_
          refine zd_newZ C hH hS q_364 (n := 3) rfl (by decide) (kT_k (k := 15) (l := 3) hK 138 (by decide +kernel)) (kT_l (k := 15) (l := 3) hK 138 (by decide +kernel)) (Nat.le_of_ble_eq_true rfl) (Nat.le_of_ble_eq_true rfl) dX10_init_51 (fun H hH hS => ?_)
          obtain ⟨X42, eX42⟩ : ∃ z, z = zZ X37 (i + 138) 0 := ⟨_, rfl⟩
          rw [← eX42] at hH
          have hF := hF X42 eX42 hH.2.2.1
          refine zp10_2 C hH hS (by omega) (kT_0 (k := 10) (l := 0) hK (by decide +kernel)) q_571 hnm rfl dX10_init_53 (fun H locs hH hS => ?_)
          obtain ⟨R43, eR43⟩ : ∃ z, z = zU R40 (i) 2 (some ((i + 138))) := ⟨_, rfl⟩
          rw [← eR43] at hH
          have hF := hF R43 eR43
          refine lv_aload_n C.1 C.2.1 dX10_init_56 rfl (lv_at hl 1 rfl) ?_
          refine zd_newO C hH hS (ci := 7) rfl zin7 tyX7 tyX7_ok q_310 q_311 q_134 (kT_k (k := 7) (l := 0) hK 139 (by decide +kernel)) rfl zO7 (Nat.le_of_ble_eq_true rfl) (Nat.le_of_ble_eq_true rfl) dX10_init_57 (fun H hH hS => ?_)
          obtain ⟨X44, eX44⟩ : ∃ z, z = zZ X42 (i + 139) 0 := ⟨_, rfl⟩
          rw [← eX44] at hH
          have hF := hF X44 eX44 hH.2.2.1
          obtain ⟨Y45, eY45⟩ : ∃ z, z = zZ Y38 (i + 139) 0 := ⟨_, rfl⟩
          rw [← eY45] at hH
          have hF := hF Y45 eY45 hH.2.2.2
          obtain ⟨R46, eR46⟩ : ∃ z, z = zZ R43 (i + 139) none := ⟨_, rfl⟩
          rw [← eR46] at hH
          have hF := hF R46 eR46
          refine lv_dup C.1 C.2.1 dX10_init_60 rfl ?_
          obtain ⟨o47, hF⟩ := hF
          refine zgovG (zrunIG (As := []) (rest := [.ref (bs + ((i + 139))), .ref (bs + (i))]) C hE hA hH hS hl.1 (c_X7_init (l := l) (kT_sub hK 139 tReader (by decide +kernel))  o47) k_RX10_26 ⟨Nat.le_of_ble_eq_true rfl, Nat.le_of_ble_eq_true rfl⟩ rfl (Nat.le_of_ble_eq_true rfl) dX10_init_61 ⟨Nat.le_of_ble_eq_true rfl, Nat.le_of_ble_eq_true rfl⟩) hS (fun X48 Y49 R50 H locs hq hH hS => ?_)
          have hF := hF X48 hH.2.2.1 Y49 hH.2.2.2 R50 hq
          refine zp10_3 C hH hS (by omega) (kT_0 (k := 10) (l := 0) hK (by decide +kernel)) q_572 hnm rfl dX10_init_64 (fun H locs hH hS => ?_)
          obtain ⟨R51, eR51⟩ : ∃ z, z = zU R50 (i) 3 (some ((i + 139))) := ⟨_, rfl⟩
          rw [← eR51] at hH
          have hF := hF R51 eR51
          refine lv_aload_n C.1 C.2.1 dX10_init_67 rfl (lv_at hl 1 rfl) ?_
          refine zd_newO C hH hS (ci := 1) rfl zin1 tyX1 tyX1_ok q_365 q_366 q_135 (kT_k (k := 1) (l := 0) hK 157 (by decide +kernel)) rfl zO1 (Nat.le_of_ble_eq_true rfl) (Nat.le_of_ble_eq_true rfl) dX10_init_68 (fun H hH hS => ?_)
          obtain ⟨X52, eX52⟩ : ∃ z, z = zZ X48 (i + 157) 0 := ⟨_, rfl⟩
          rw [← eX52] at hH
          have hF := hF X52 eX52 hH.2.2.1
          obtain ⟨Y53, eY53⟩ : ∃ z, z = zZ Y49 (i + 157) 0 := ⟨_, rfl⟩
          rw [← eY53] at hH
          have hF := hF Y53 eY53 hH.2.2.2
          obtain ⟨R54, eR54⟩ : ∃ z, z = zZ R51 (i + 157) none := ⟨_, rfl⟩
          rw [← eR54] at hH
          have hF := hF R54 eR54
          refine lv_dup C.1 C.2.1 dX10_init_71 rfl ?_
          obtain ⟨o55, hF⟩ := hF
          refine zgovG (zrunIG (As := []) (rest := [.ref (bs + ((i + 157))), .ref (bs + (i))]) C hE hA hH hS hl.1 (c_X1_init (l := l) (kT_sub hK 157 tChart (by decide +kernel))  o55) k_RX10_33 ⟨Nat.le_of_ble_eq_true rfl, Nat.le_of_ble_eq_true rfl⟩ rfl (Nat.le_of_ble_eq_true rfl) dX10_init_72 ⟨Nat.le_of_ble_eq_true rfl, Nat.le_of_ble_eq_true rfl⟩) hS (fun X56 Y57 R58 H locs hq hH hS => ?_)
          have hF := hF X56 hH.2.2.1 Y57 hH.2.2.2 R58 hq
          refine zp10_4 C hH hS (by omega) (kT_0 (k := 10) (l := 0) hK (by decide +kernel)) q_573 hnm rfl dX10_init_75 (fun H locs hH hS => ?_)
          obtain ⟨R59, eR59⟩ : ∃ z, z = zU R58 (i) 4 (some ((i + 157))) := ⟨_, rfl⟩
          rw [← eR59] at hH
          have hF := hF R59 eR59
          refine lv_aload_n C.1 C.2.1 dX10_init_78 rfl (lv_at hl 1 rfl) ?_
          refine zd_newO C hH hS (ci := 2) rfl zin2 tyX2 tyX2_ok q_442 q_443 q_137 (kT_k (k := 2) (l := 0) hK 204 (by decide +kernel)) rfl zO2 (Nat.le_of_ble_eq_true rfl) (Nat.le_of_ble_eq_true rfl) dX10_init_79 (fun H hH hS => ?_)
          obtain ⟨X60, eX60⟩ : ∃ z, z = zZ X56 (i + 204) 0 := ⟨_, rfl⟩
          rw [← eX60] at hH
          have hF := hF X60 eX60 hH.2.2.1
          obtain ⟨Y61, eY61⟩ : ∃ z, z = zZ Y57 (i + 204) 0 := ⟨_, rfl⟩
          rw [← eY61] at hH
          have hF := hF Y61 eY61 hH.2.2.2
          obtain ⟨R62, eR62⟩ : ∃ z, z = zZ R59 (i + 204) none := ⟨_, rfl⟩
          rw [← eR62] at hH
          have hF := hF R62 eR62
          refine lv_dup C.1 C.2.1 dX10_init_82 rfl ?_
          refine lv_aload_n C.1 C.2.1 dX10_init_83 rfl (lv_at hl 1 rfl) ?_
          obtain ⟨o63, hF⟩ := hF
          refine zg10_4 C hH (by omega) (kT_0 (k := 10) (l := 0) hK (by decide +kernel)) q_573 o63 dX10_init_84 ?_
          obtain ⟨o64, hF⟩ := hF
          refine zgovG (zrunIG (As := [.ref (bs + ((i + 157)))]) (rest := [.ref (bs + ((i + 204))), .ref (bs + (i))]) C hE hA hH hS hl.1 (c_X2_init (l := l) (kT_sub hK 204 tCourse (by decide +kernel))  o64) k_RX10_40 ⟨Nat.le_of_ble_eq_true rfl, Nat.le_of_ble_eq_true rfl⟩ rfl (Nat.le_of_ble_eq_true rfl) dX10_init_87 ⟨Nat.le_of_ble_eq_true rfl, Nat.le_of_ble_eq_true rfl⟩) hS (fun X65 Yq R66 H locs hq hH hS => ?_)
          obtain ⟨h9Y, hq⟩ := hq
          dsimp only at h9Y
          rw [h9Y] at hH
          have hF := hF X65 hH.2.2.1 R66 hq
          refine zp10_5 C hH hS (by omega) (kT_0 (k := 10) (l := 0) hK (by decide +kernel)) q_574 hnm rfl dX10_init_90 (fun H locs hH hS => ?_)
          obtain ⟨R67, eR67⟩ : ∃ z, z = zU R66 (i) 5 (some ((i + 204))) := ⟨_, rfl⟩
          rw [← eR67] at hH
          have hF := hF R67 eR67
          refine lv_aload_n C.1 C.2.1 dX10_init_93 rfl (lv_at hl 1 rfl) ?_
          refine zd_newO C hH hS (ci := 4) rfl zin4 tyX4 tyX4_ok q_506 q_507 q_138 (kT_k (k := 4) (l := 0) hK 206 (by decide +kernel)) rfl zO4 (Nat.le_of_ble_eq_true rfl) (Nat.le_of_ble_eq_true rfl) dX10_init_94 (fun H hH hS => ?_)
          obtain ⟨X68, eX68⟩ : ∃ z, z = zZ X65 (i + 206) 0 := ⟨_, rfl⟩
          rw [← eX68] at hH
          have hF := hF X68 eX68 hH.2.2.1
          obtain ⟨Y69, eY69⟩ : ∃ z, z = zZ Y61 (i + 206) 0 := ⟨_, rfl⟩
          rw [← eY69] at hH
          have hF := hF Y69 eY69 hH.2.2.2
          obtain ⟨R70, eR70⟩ : ∃ z, z = zZ R67 (i + 206) none := ⟨_, rfl⟩
          rw [← eR70] at hH
          have hF := hF R70 eR70
          refine lv_dup C.1 C.2.1 dX10_init_97 rfl ?_
          refine lv_aload_n C.1 C.2.1 dX10_init_98 rfl (lv_at hl 1 rfl) ?_
          obtain ⟨o71, hF⟩ := hF
          refine zg10_4 C hH (by omega) (kT_0 (k := 10) (l := 0) hK (by decide +kernel)) q_573 o71 dX10_init_99 ?_
          refine lv_aload_n C.1 C.2.1 dX10_init_102 rfl (lv_at hl 1 rfl) ?_
          obtain ⟨o72, hF⟩ := hF
          refine zg10_5 C hH (by omega) (kT_0 (k := 10) (l := 0) hK (by decide +kernel)) q_574 o72 dX10_init_103 ?_
          obtain ⟨o73, hF⟩ := hF
          refine zgovG (zrunIG (As := [.ref (bs + ((i + 157))), .ref (bs + ((i + 204)))]) (rest := [.ref (bs + ((i + 206))), .ref (bs + (i))]) C hE hA hH hS hl.1 (c_X4_init (l := l) (kT_sub hK 206 tLaws (by decide +kernel))  o73) k_RX10_49 ⟨Nat.le_of_ble_eq_true rfl, Nat.le_of_ble_eq_true rfl⟩ rfl (Nat.le_of_ble_eq_true rfl) dX10_init_106 ⟨Nat.le_of_ble_eq_true rfl, Nat.le_of_ble_eq_true rfl⟩) hS (fun X74 Yq R75 H locs hq hH hS => ?_)
          obtain ⟨h9Y, hq⟩ := hq
          dsimp only at h9Y
          rw [h9Y] at hH
          have hF := hF X74 hH.2.2.1 R75 hq
          refine zp10_6 C hH hS (by omega) (kT_0 (k := 10) (l := 0) hK (by decide +kernel)) q_575 hnm rfl dX10_init_109 (fun H locs hH hS => ?_)
          obtain ⟨R76, eR76⟩ : ∃ z, z = zU R75 (i) 6 (some ((i + 206))) := ⟨_, rfl⟩
          rw [← eR76] at hH
          have hF := hF R76 eR76
          refine lv_aload_n C.1 C.2.1 dX10_init_112 rfl (lv_at hl 1 rfl) ?_
          refine zd_newO C hH hS (ci := 3) rfl zin3 tyX3 tyX3_ok q_535 q_536 q_139 (kT_k (k := 3) (l := 0) hK 246 (by decide +kernel)) rfl zO3 (Nat.le_of_ble_eq_true rfl) (Nat.le_of_ble_eq_true rfl) dX10_init_113 (fun H hH hS => ?_)
          obtain ⟨X77, eX77⟩ : ∃ z, z = zZ X74 (i + 246) 0 := ⟨_, rfl⟩
          rw [← eX77] at hH
          have hF := hF X77 eX77 hH.2.2.1
          obtain ⟨Y78, eY78⟩ : ∃ z, z = zZ Y69 (i + 246) 0 := ⟨_, rfl⟩
          rw [← eY78] at hH
          have hF := hF Y78 eY78 hH.2.2.2
          obtain ⟨R79, eR79⟩ : ∃ z, z = zZ R76 (i + 246) none := ⟨_, rfl⟩
          rw [← eR79] at hH
          have hF := hF R79 eR79
          refine lv_dup C.1 C.2.1 dX10_init_116 rfl ?_
          obtain ⟨o80, hF⟩ := hF
          refine zgovG (zrunIG (As := []) (rest := [.ref (bs + ((i + 246))), .ref (bs + (i))]) C hE hA hH hS hl.1 (c_X3_init (l := l) (kT_sub hK 246 tFilling (by decide +kernel))  o80) k_RX10_58 ⟨Nat.le_of_ble_eq_true rfl, Nat.le_of_ble_eq_true rfl⟩ rfl (Nat.le_of_ble_eq_true rfl) dX10_init_117 ⟨Nat.le_of_ble_eq_true rfl, Nat.le_of_ble_eq_true rfl⟩) hS (fun X81 Y82 R83 H locs hq hH hS => ?_)
          have hF := hF X81 hH.2.2.1 Y82 hH.2.2.2 R83 hq
          refine zp10_7 C hH hS (by omega) (kT_0 (k := 10) (l := 0) hK (by decide +kernel)) q_576 hnm rfl dX10_init_120 (fun H locs hH hS => ?_)
          obtain ⟨R84, eR84⟩ : ∃ z, z = zU R83 (i) 7 (some ((i + 246))) := ⟨_, rfl⟩
          rw [← eR84] at hH
          have hF := hF R84 eR84
          refine lv_aload_n C.1 C.2.1 dX10_init_123 rfl (lv_at hl 1 rfl) ?_
          refine zd_newO C hH hS (ci := 5) rfl zin5 tyX5 tyX5_ok q_567 q_377 q_136 (kT_k (k := 5) (l := 0) hK 260 (by decide +kernel)) rfl zO5 (Nat.le_of_ble_eq_true rfl) (Nat.le_of_ble_eq_true rfl) dX10_init_124 (fun H hH hS => ?_)
          obtain ⟨X85, eX85⟩ : ∃ z, z = zZ X81 (i + 260) 0 := ⟨_, rfl⟩
          rw [← eX85] at hH
          have hF := hF X85 eX85 hH.2.2.1
          obtain ⟨Y86, eY86⟩ : ∃ z, z = zZ Y82 (i + 260) 0 := ⟨_, rfl⟩
          rw [← eY86] at hH
          have hF := hF Y86 eY86 hH.2.2.2
          obtain ⟨R87, eR87⟩ : ∃ z, z = zZ R84 (i + 260) none := ⟨_, rfl⟩
          rw [← eR87] at hH
          have hF := hF R87 eR87
          refine lv_dup C.1 C.2.1 dX10_init_127 rfl ?_
          obtain ⟨o88, hF⟩ := hF
          refine zgovG (zrunING (As := []) (rest := [.ref (bs + ((i + 260))), .ref (bs + (i))]) C hE hA hH hS hl.1 (c_X5_init (l := l) (kT_sub hK 260 tLedger (by decide +kernel))  o88) k_RX10_65 ⟨Nat.le_of_ble_eq_true rfl, Nat.le_of_ble_eq_true rfl⟩ rfl (Nat.le_of_ble_eq_true rfl) dX10_init_128 ⟨Nat.le_of_ble_eq_true rfl, Nat.le_of_ble_eq_true rfl⟩) hS (fun X89 Yq R90 H locs hq hH hS => ?_)
          obtain ⟨h9Y, hq⟩ := hq
          dsimp only at h9Y
          rw [h9Y] at hH
          have hF := hF X89 hH.2.2.1 R90 hq
          refine zp10_8 C hH hS (by omega) (kT_0 (k := 10) (l := 0) hK (by decide +kernel)) q_577 hnm rfl dX10_init_131 (fun H locs hH hS => ?_)
          obtain ⟨R91, eR91⟩ : ∃ z, z = zU R90 (i) 8 (some ((i + 260))) := ⟨_, rfl⟩
          rw [← eR91] at hH
          have hF := hF R91 eR91
          refine W_raise (cells := 261) (slots := 7791) (Nat.le_of_ble_eq_true rfl) (Nat.le_of_ble_eq_true rfl) ?_
          exact zd_vretG C hr hlk hH hS (hF) dX10_init_134
        · exact absurd (by decide) c41
set_option maxHeartbeats 8000000 in
set_option maxRecDepth 100000 in
theorem v_X10_init {X Y : Nat → Int → Int} {R : Nat → Int → Option Nat} {i : Nat}  (hp : X i = fun _ => 0) : F_X10_init i X Y R  := by
  unfold F_X10_init
  intro hX hY
  intro X1
  intro eX1
  intro rX1
  intro Y2
  intro eY2
  intro rY2
  intro R3
  intro eR3
  refine ⟨?_, ?_⟩
  · rw [eX1]; exact zZ_s
  intro X5
  intro rX5
  intro Y6
  intro rY6
  intro R7
  intro h1
  intro R8
  intro eR8
  intro R9
  intro eR9
  intro R10
  intro eR10
  refine ⟨?_, ?_⟩
  · rw [eR10]; exact zU_s
  intro X13
  intro eX13
  intro rX13
  intro Y14
  intro eY14
  intro rY14
  intro R15
  intro eR15
  refine ⟨?_, ?_⟩
  · rw [eX13]; exact zZ_s
  intro X17
  intro rX17
  intro Y18
  intro rY18
  intro R19
  intro h2
  intro R20
  intro eR20
  refine ⟨?_, ?_⟩
  · rw [eR20, zU_n (by omega), h2.2.1 (i) (by omega), eR15, zZ_o (by omega), eR10]; exact zU_s
  intro X23
  intro eX23
  intro rX23
  intro Y24
  intro eY24
  intro rY24
  intro R25
  intro eR25
  refine ⟨?_, ?_⟩
  · rw [eX23]; exact zZ_s
  intro X27
  intro rX27
  intro Y28
  intro rY28
  intro R29
  intro h3
  intro R30
  intro eR30
  refine ⟨?_, ?_⟩
  · rw [eR30, zU_n (by omega), h3.2.1 (i) (by omega), eR25, zZ_o (by omega), eR20, zU_n (by omega), h2.2.1 (i) (by omega), eR15, zZ_o (by omega), eR10]; exact zU_s
  intro X33
  intro eX33
  intro rX33
  intro Y34
  intro eY34
  intro rY34
  intro R35
  intro eR35
  refine ⟨?_, ?_⟩
  · rw [eX33]; exact zZ_s
  intro X37
  intro rX37
  intro Y38
  intro rY38
  intro R39
  intro h4
  intro R40
  intro eR40
  intro X42
  intro eX42
  intro rX42
  intro R43
  intro eR43
  intro X44
  intro eX44
  intro rX44
  intro Y45
  intro eY45
  intro rY45
  intro R46
  intro eR46
  refine ⟨?_, ?_⟩
  · rw [eX44]; exact zZ_s
  intro X48
  intro rX48
  intro Y49
  intro rY49
  intro R50
  intro h5
  intro R51
  intro eR51
  intro X52
  intro eX52
  intro rX52
  intro Y53
  intro eY53
  intro rY53
  intro R54
  intro eR54
  refine ⟨?_, ?_⟩
  · rw [eX52]; exact zZ_s
  intro X56
  intro rX56
  intro Y57
  intro rY57
  intro R58
  intro h6
  intro R59
  intro eR59
  intro X60
  intro eX60
  intro rX60
  intro Y61
  intro eY61
  intro rY61
  intro R62
  intro eR62
  refine ⟨?_, ?_⟩
  · rw [eR62, zZ_o (by omega), eR59]; exact zU_s
  refine ⟨?_, ?_⟩
  · rw [eX60]; exact zZ_s
  intro X65
  intro rX65
  intro R66
  intro h7
  intro R67
  intro eR67
  intro X68
  intro eX68
  intro rX68
  intro Y69
  intro eY69
  intro rY69
  intro R70
  intro eR70
  refine ⟨?_, ?_⟩
  · rw [eR70, zZ_o (by omega), eR67, zU_n (by omega), h7.2.1 (i) (by omega), eR62, zZ_o (by omega), eR59]; exact zU_s
  refine ⟨?_, ?_⟩
  · rw [eR70, zZ_o (by omega), eR67]; exact zU_s
  refine ⟨?_, ?_⟩
  · rw [eX68]; exact zZ_s
  intro X74
  intro rX74
  intro R75
  intro h8
  intro R76
  intro eR76
  intro X77
  intro eX77
  intro rX77
  intro Y78
  intro eY78
  intro rY78
  intro R79
  intro eR79
  refine ⟨?_, ?_⟩
  · rw [eX77]; exact zZ_s
  intro X81
  intro rX81
  intro Y82
  intro rY82
  intro R83
  intro h9
  intro R84
  intro eR84
  intro X85
  intro eX85
  intro rX85
  intro Y86
  intro eY86
  intro rY86
  intro R87
  intro eR87
  refine ⟨?_, ?_⟩
  · rw [eX85]; exact zZ_s
  intro X89
  intro rX89
  intro R90
  intro h10
  intro R91
  intro eR91
  have a0 : R91 (i + 35) 0 = some (i + 36) ∧ eTd R91 (i + 36) := ⟨by rw [eR91, zU_n (by omega), h10.2.1 (i + 35) (by omega), eR87, zZ_o (by omega), eR84, zU_n (by omega), h9.2.1 (i + 35) (by omega), eR79, zZ_o (by omega), eR76, zU_n (by omega), h8.2.1 (i + 35) (by omega), eR70, zZ_o (by omega), eR67, zU_n (by omega), h7.2.1 (i + 35) (by omega), eR62, zZ_o (by omega), eR59, zU_n (by omega), h6.2.1 (i + 35) (by omega), eR54, zZ_o (by omega), eR51, zU_n (by omega), h5.2.1 (i + 35) (by omega), eR46, zZ_o (by omega), eR43, zU_n (by omega), eR40, zU_n (by omega), h4.2.1 (i + 35) (by omega), eR35, zZ_o (by omega), eR30, zU_n (by omega), h3.2.1 (i + 35) (by omega), eR25, zZ_o (by omega), eR20]; exact zU_s, eTd_mv (fun z g1 g2 => by rw [eR91, zU_o (by omega), h10.2.1 (z) (by omega), eR87, zZ_o (by omega), eR84, zU_o (by omega), h9.2.1 (z) (by omega), eR79, zZ_o (by omega), eR76, zU_o (by omega), h8.2.1 (z) (by omega), eR70, zZ_o (by omega), eR67, zU_o (by omega), h7.2.1 (z) (by omega), eR62, zZ_o (by omega), eR59, zU_o (by omega), h6.2.1 (z) (by omega), eR54, zZ_o (by omega), eR51, zU_o (by omega), h5.2.1 (z) (by omega), eR46, zZ_o (by omega), eR43, zU_o (by omega), eR40, zU_o (by omega), h4.2.1 (z) (by omega), eR35, zZ_o (by omega), eR30, zU_o (by omega), h3.2.1 (z) (by omega), eR25, zZ_o (by omega), eR20, zU_o (by omega)]) h2.2.2.1⟩
  have a1 : R91 (i + 35) 1 = some (i + 70) ∧ eTd R91 (i + 70) := ⟨by rw [eR91, zU_n (by omega), h10.2.1 (i + 35) (by omega), eR87, zZ_o (by omega), eR84, zU_n (by omega), h9.2.1 (i + 35) (by omega), eR79, zZ_o (by omega), eR76, zU_n (by omega), h8.2.1 (i + 35) (by omega), eR70, zZ_o (by omega), eR67, zU_n (by omega), h7.2.1 (i + 35) (by omega), eR62, zZ_o (by omega), eR59, zU_n (by omega), h6.2.1 (i + 35) (by omega), eR54, zZ_o (by omega), eR51, zU_n (by omega), h5.2.1 (i + 35) (by omega), eR46, zZ_o (by omega), eR43, zU_n (by omega), eR40, zU_n (by omega), h4.2.1 (i + 35) (by omega), eR35, zZ_o (by omega), eR30]; exact zU_s, eTd_mv (fun z g1 g2 => by rw [eR91, zU_o (by omega), h10.2.1 (z) (by omega), eR87, zZ_o (by omega), eR84, zU_o (by omega), h9.2.1 (z) (by omega), eR79, zZ_o (by omega), eR76, zU_o (by omega), h8.2.1 (z) (by omega), eR70, zZ_o (by omega), eR67, zU_o (by omega), h7.2.1 (z) (by omega), eR62, zZ_o (by omega), eR59, zU_o (by omega), h6.2.1 (z) (by omega), eR54, zZ_o (by omega), eR51, zU_o (by omega), h5.2.1 (z) (by omega), eR46, zZ_o (by omega), eR43, zU_o (by omega), eR40, zU_o (by omega), h4.2.1 (z) (by omega), eR35, zZ_o (by omega), eR30, zU_o (by omega)]) h3.2.2.1⟩
  have a2 : R91 (i + 35) 2 = some (i + 104) ∧ eTd R91 (i + 104) := ⟨by rw [eR91, zU_n (by omega), h10.2.1 (i + 35) (by omega), eR87, zZ_o (by omega), eR84, zU_n (by omega), h9.2.1 (i + 35) (by omega), eR79, zZ_o (by omega), eR76, zU_n (by omega), h8.2.1 (i + 35) (by omega), eR70, zZ_o (by omega), eR67, zU_n (by omega), h7.2.1 (i + 35) (by omega), eR62, zZ_o (by omega), eR59, zU_n (by omega), h6.2.1 (i + 35) (by omega), eR54, zZ_o (by omega), eR51, zU_n (by omega), h5.2.1 (i + 35) (by omega), eR46, zZ_o (by omega), eR43, zU_n (by omega), eR40]; exact zU_s, eTd_mv (fun z g1 g2 => by rw [eR91, zU_o (by omega), h10.2.1 (z) (by omega), eR87, zZ_o (by omega), eR84, zU_o (by omega), h9.2.1 (z) (by omega), eR79, zZ_o (by omega), eR76, zU_o (by omega), h8.2.1 (z) (by omega), eR70, zZ_o (by omega), eR67, zU_o (by omega), h7.2.1 (z) (by omega), eR62, zZ_o (by omega), eR59, zU_o (by omega), h6.2.1 (z) (by omega), eR54, zZ_o (by omega), eR51, zU_o (by omega), h5.2.1 (z) (by omega), eR46, zZ_o (by omega), eR43, zU_o (by omega), eR40, zU_o (by omega)]) h4.2.2.1⟩
  have ha : ∀ z : Nat, z < 3 → R91 (i + 35) z = some (i + 36 + 34 * z) ∧ eTd R91 (i + 36 + 34 * z) := by
    intro z hz
    have q : z = 0 ∨ z = 1 ∨ z = 2 := by omega
    rcases q with rfl | rfl | rfl
    · exact a0
    · exact a1
    · exact a2
  have b0 : z0Td X89 (i + 36) := z0Td_mv (fun z g1 g2 => by rw [h10.1 (z) (by omega) (by omega), eX85, zZ_o (by omega), h9.1 (z) (by omega), eX77, zZ_o (by omega), h8.1 (z) (by omega), eX68, zZ_o (by omega), h7.1 (z) (by omega) (by omega), eX60, zZ_o (by omega), h6.1 (z) (by omega), eX52, zZ_o (by omega), h5.1 (z) (by omega), eX44, zZ_o (by omega), eX42, zZ_o (by omega), h4.1 (z) (by omega), eX33, zZ_o (by omega), h3.1 (z) (by omega), eX23, zZ_o (by omega)]) h2.2.2.2
  have b1 : z0Td X89 (i + 70) := z0Td_mv (fun z g1 g2 => by rw [h10.1 (z) (by omega) (by omega), eX85, zZ_o (by omega), h9.1 (z) (by omega), eX77, zZ_o (by omega), h8.1 (z) (by omega), eX68, zZ_o (by omega), h7.1 (z) (by omega) (by omega), eX60, zZ_o (by omega), h6.1 (z) (by omega), eX52, zZ_o (by omega), h5.1 (z) (by omega), eX44, zZ_o (by omega), eX42, zZ_o (by omega), h4.1 (z) (by omega), eX33, zZ_o (by omega)]) h3.2.2.2
  have b2 : z0Td X89 (i + 104) := z0Td_mv (fun z g1 g2 => by rw [h10.1 (z) (by omega) (by omega), eX85, zZ_o (by omega), h9.1 (z) (by omega), eX77, zZ_o (by omega), h8.1 (z) (by omega), eX68, zZ_o (by omega), h7.1 (z) (by omega) (by omega), eX60, zZ_o (by omega), h6.1 (z) (by omega), eX52, zZ_o (by omega), h5.1 (z) (by omega), eX44, zZ_o (by omega), eX42, zZ_o (by omega)]) h4.2.2.2
  have hb : ∀ z : Nat, z < 3 → z0Td X89 (i + 36 + 34 * z) := by
    intro z hz
    have q : z = 0 ∨ z = 1 ∨ z = 2 := by omega
    rcases q with rfl | rfl | rfl
    · exact b0
    · exact b1
    · exact b2
  refine ⟨fun z g => by rw [h10.1 (z) (by omega) (by omega), eX85, zZ_o (by omega), h9.1 (z) (by omega), eX77, zZ_o (by omega), h8.1 (z) (by omega), eX68, zZ_o (by omega), h7.1 (z) (by omega) (by omega), eX60, zZ_o (by omega), h6.1 (z) (by omega), eX52, zZ_o (by omega), h5.1 (z) (by omega), eX44, zZ_o (by omega), eX42, zZ_o (by omega), h4.1 (z) (by omega), eX33, zZ_o (by omega), h3.1 (z) (by omega), eX23, zZ_o (by omega), h2.1 (z) (by omega), eX13, zZ_o (by omega), h1.1 (z) (by omega), eX1, zZ_o (by omega)], fun z g => by rw [eR91, zU_o (by omega), h10.2.1 (z) (by omega), eR87, zZ_o (by omega), eR84, zU_o (by omega), h9.2.1 (z) (by omega), eR79, zZ_o (by omega), eR76, zU_o (by omega), h8.2.1 (z) (by omega), eR70, zZ_o (by omega), eR67, zU_o (by omega), h7.2.1 (z) (by omega), eR62, zZ_o (by omega), eR59, zU_o (by omega), h6.2.1 (z) (by omega), eR54, zZ_o (by omega), eR51, zU_o (by omega), h5.2.1 (z) (by omega), eR46, zZ_o (by omega), eR43, zU_o (by omega), eR40, zU_o (by omega), h4.2.1 (z) (by omega), eR35, zZ_o (by omega), eR30, zU_o (by omega), h3.2.1 (z) (by omega), eR25, zZ_o (by omega), eR20, zU_o (by omega), h2.2.1 (z) (by omega), eR15, zZ_o (by omega), eR10, zU_o (by omega), eR9, zZ_o (by omega), eR8, zU_o (by omega), h1.2.1 (z) (by omega), eR3, zZ_o (by omega)], ⟨⟨by rw [eR91, zU_n (by omega), h10.2.1 (i) (by omega), eR87, zZ_o (by omega), eR84, zU_n (by omega), h9.2.1 (i) (by omega), eR79, zZ_o (by omega), eR76, zU_n (by omega), h8.2.1 (i) (by omega), eR70, zZ_o (by omega), eR67, zU_n (by omega), h7.2.1 (i) (by omega), eR62, zZ_o (by omega), eR59, zU_n (by omega), h6.2.1 (i) (by omega), eR54, zZ_o (by omega), eR51, zU_n (by omega), h5.2.1 (i) (by omega), eR46, zZ_o (by omega), eR43, zU_n (by omega), eR40, zU_n (by omega), h4.2.1 (i) (by omega), eR35, zZ_o (by omega), eR30, zU_n (by omega), h3.2.1 (i) (by omega), eR25, zZ_o (by omega), eR20, zU_n (by omega), h2.2.1 (i) (by omega), eR15, zZ_o (by omega), eR10, zU_n (by omega), eR9, zZ_o (by omega), eR8]; exact zU_s, eTd_mv (fun z g1 g2 => by rw [eR91, zU_o (by omega), h10.2.1 (z) (by omega), eR87, zZ_o (by omega), eR84, zU_o (by omega), h9.2.1 (z) (by omega), eR79, zZ_o (by omega), eR76, zU_o (by omega), h8.2.1 (z) (by omega), eR70, zZ_o (by omega), eR67, zU_o (by omega), h7.2.1 (z) (by omega), eR62, zZ_o (by omega), eR59, zU_o (by omega), h6.2.1 (z) (by omega), eR54, zZ_o (by omega), eR51, zU_o (by omega), h5.2.1 (z) (by omega), eR46, zZ_o (by omega), eR43, zU_o (by omega), eR40, zU_o (by omega), h4.2.1 (z) (by omega), eR35, zZ_o (by omega), eR30, zU_o (by omega), h3.2.1 (z) (by omega), eR25, zZ_o (by omega), eR20, zU_o (by omega), h2.2.1 (z) (by omega), eR15, zZ_o (by omega), eR10, zU_o (by omega), eR9, zZ_o (by omega), eR8, zU_o (by omega)]) h1.2.2.1⟩, ⟨by rw [eR91, zU_n (by omega), h10.2.1 (i) (by omega), eR87, zZ_o (by omega), eR84, zU_n (by omega), h9.2.1 (i) (by omega), eR79, zZ_o (by omega), eR76, zU_n (by omega), h8.2.1 (i) (by omega), eR70, zZ_o (by omega), eR67, zU_n (by omega), h7.2.1 (i) (by omega), eR62, zZ_o (by omega), eR59, zU_n (by omega), h6.2.1 (i) (by omega), eR54, zZ_o (by omega), eR51, zU_n (by omega), h5.2.1 (i) (by omega), eR46, zZ_o (by omega), eR43, zU_n (by omega), eR40, zU_n (by omega), h4.2.1 (i) (by omega), eR35, zZ_o (by omega), eR30, zU_n (by omega), h3.2.1 (i) (by omega), eR25, zZ_o (by omega), eR20, zU_n (by omega), h2.2.1 (i) (by omega), eR15, zZ_o (by omega), eR10]; exact zU_s, by rw [eR91, zU_n (by omega), h10.2.1 (i) (by omega), eR87, zZ_o (by omega), eR84, zU_n (by omega), h9.2.1 (i) (by omega), eR79, zZ_o (by omega), eR76, zU_n (by omega), h8.2.1 (i) (by omega), eR70, zZ_o (by omega), eR67, zU_n (by omega), h7.2.1 (i) (by omega), eR62, zZ_o (by omega), eR59, zU_n (by omega), h6.2.1 (i) (by omega), eR54, zZ_o (by omega), eR51, zU_n (by omega), h5.2.1 (i) (by omega), eR46, zZ_o (by omega), eR43]; exact zU_s⟩, ha, ⟨by rw [eR91, zU_n (by omega), h10.2.1 (i) (by omega), eR87, zZ_o (by omega), eR84, zU_n (by omega), h9.2.1 (i) (by omega), eR79, zZ_o (by omega), eR76, zU_n (by omega), h8.2.1 (i) (by omega), eR70, zZ_o (by omega), eR67, zU_n (by omega), h7.2.1 (i) (by omega), eR62, zZ_o (by omega), eR59, zU_n (by omega), h6.2.1 (i) (by omega), eR54, zZ_o (by omega), eR51]; exact zU_s, eRd_mv (fun z g1 g2 => by rw [eR91, zU_o (by omega), h10.2.1 (z) (by omega), eR87, zZ_o (by omega), eR84, zU_o (by omega), h9.2.1 (z) (by omega), eR79, zZ_o (by omega), eR76, zU_o (by omega), h8.2.1 (z) (by omega), eR70, zZ_o (by omega), eR67, zU_o (by omega), h7.2.1 (z) (by omega), eR62, zZ_o (by omega), eR59, zU_o (by omega), h6.2.1 (z) (by omega), eR54, zZ_o (by omega), eR51, zU_o (by omega)]) h5.2.2.1⟩, ⟨by rw [eR91, zU_n (by omega), h10.2.1 (i) (by omega), eR87, zZ_o (by omega), eR84, zU_n (by omega), h9.2.1 (i) (by omega), eR79, zZ_o (by omega), eR76, zU_n (by omega), h8.2.1 (i) (by omega), eR70, zZ_o (by omega), eR67, zU_n (by omega), h7.2.1 (i) (by omega), eR62, zZ_o (by omega), eR59]; exact zU_s, eCh_mv (fun z g1 g2 => by rw [eR91, zU_o (by omega), h10.2.1 (z) (by omega), eR87, zZ_o (by omega), eR84, zU_o (by omega), h9.2.1 (z) (by omega), eR79, zZ_o (by omega), eR76, zU_o (by omega), h8.2.1 (z) (by omega), eR70, zZ_o (by omega), eR67, zU_o (by omega), h7.2.1 (z) (by omega), eR62, zZ_o (by omega), eR59, zU_o (by omega)]) h6.2.2.1⟩, ⟨by rw [eR91, zU_n (by omega), h10.2.1 (i) (by omega), eR87, zZ_o (by omega), eR84, zU_n (by omega), h9.2.1 (i) (by omega), eR79, zZ_o (by omega), eR76, zU_n (by omega), h8.2.1 (i) (by omega), eR70, zZ_o (by omega), eR67]; exact zU_s, by rw [eR91, zU_o (by omega), h10.2.1 (i + 204) (by omega), eR87, zZ_o (by omega), eR84, zU_o (by omega), h9.2.1 (i + 204) (by omega), eR79, zZ_o (by omega), eR76, zU_o (by omega), h8.2.1 (i + 204) (by omega), eR70, zZ_o (by omega), eR67, zU_o (by omega)]; exact h7.2.2.1, by rw [eR91, zU_o (by omega), h10.2.1 (i + 204) (by omega), eR87, zZ_o (by omega), eR84, zU_o (by omega), h9.2.1 (i + 204) (by omega), eR79, zZ_o (by omega), eR76, zU_o (by omega), h8.2.1 (i + 204) (by omega), eR70, zZ_o (by omega), eR67, zU_o (by omega)]; exact h7.2.2.2⟩, ⟨by rw [eR91, zU_n (by omega), h10.2.1 (i) (by omega), eR87, zZ_o (by omega), eR84, zU_n (by omega), h9.2.1 (i) (by omega), eR79, zZ_o (by omega), eR76]; exact zU_s, eLw_mv (fun z g1 g2 => by rw [eR91, zU_o (by omega), h10.2.1 (z) (by omega), eR87, zZ_o (by omega), eR84, zU_o (by omega), h9.2.1 (z) (by omega), eR79, zZ_o (by omega), eR76, zU_o (by omega)]) h8.2.2⟩, ⟨by rw [eR91, zU_n (by omega), h10.2.1 (i) (by omega), eR87, zZ_o (by omega), eR84]; exact zU_s, eFi_mv (fun z g1 g2 => by rw [eR91, zU_o (by omega), h10.2.1 (z) (by omega), eR87, zZ_o (by omega), eR84, zU_o (by omega)]) h9.2.2⟩, by rw [eR91]; exact zU_s, eLd_mv (by rw [eR91, zU_o (by omega)]) h10.2.2⟩, z0Td_mv (fun z g1 g2 => by rw [h10.1 (z) (by omega) (by omega), eX85, zZ_o (by omega), h9.1 (z) (by omega), eX77, zZ_o (by omega), h8.1 (z) (by omega), eX68, zZ_o (by omega), h7.1 (z) (by omega) (by omega), eX60, zZ_o (by omega), h6.1 (z) (by omega), eX52, zZ_o (by omega), h5.1 (z) (by omega), eX44, zZ_o (by omega), eX42, zZ_o (by omega), h4.1 (z) (by omega), eX33, zZ_o (by omega), h3.1 (z) (by omega), eX23, zZ_o (by omega), h2.1 (z) (by omega), eX13, zZ_o (by omega)]) h1.2.2.2, hb, fun y => by rw [h10.1 (i + 138) (by omega) (by omega), eX85, zZ_o (by omega), h9.1 (i + 138) (by omega), eX77, zZ_o (by omega), h8.1 (i + 138) (by omega), eX68, zZ_o (by omega), h7.1 (i + 138) (by omega) (by omega), eX60, zZ_o (by omega), h6.1 (i + 138) (by omega), eX52, zZ_o (by omega), h5.1 (i + 138) (by omega), eX44, zZ_o (by omega), eX42]; exact zZ_at, z0Rd_mv (fun z g1 g2 => by rw [h10.1 (z) (by omega) (by omega), eX85, zZ_o (by omega), h9.1 (z) (by omega), eX77, zZ_o (by omega), h8.1 (z) (by omega), eX68, zZ_o (by omega), h7.1 (z) (by omega) (by omega), eX60, zZ_o (by omega), h6.1 (z) (by omega), eX52, zZ_o (by omega)]) h5.2.2.2, ?_, ?_⟩
  · show X89 (i + 166) 0 = 0
    rw [h10.1 (i + 166) (by omega) (by omega), eX85, zZ_o (by omega), h9.1 (i + 166) (by omega), eX77, zZ_o (by omega), h8.1 (i + 166) (by omega), eX68, zZ_o (by omega), h7.1 (i + 166) (by omega) (by omega), eX60, zZ_o (by omega)]
    exact h6.2.2.2.1 0
  · show X89 (i + 168) 0 = 0
    rw [h10.1 (i + 168) (by omega) (by omega), eX85, zZ_o (by omega), h9.1 (i + 168) (by omega), eX77, zZ_o (by omega), h8.1 (i + 168) (by omega), eX68, zZ_o (by omega), h7.1 (i + 168) (by omega) (by omega), eX60, zZ_o (by omega)]
    exact h6.2.2.2.2 0
theorem c_X10_init {l : Launch} {D : va_G} {cy : Nat → ClassId} {bs : Nat} {sa : Nat → Nat} {kd len : Nat → Nat} {X Y : Nat → Int → Int} {R : Nat → Int → Option Nat} {i : Nat} (hK : kT kd len i tWC)  (hp : X i = fun _ => 0) : Met l yX10_init (.code yX10_init cX10_init 2 none :: zTB) (zRmG 3 102 261 7791) (zPcA D cy bs sa (i + 1) kd len X Y R [.ref (bs + (i))]) (zQv D cy bs (i + 262) kd len (fun st => ((∀ z, (z < i ∨ i + 261 < z) → st.1 z = X z) ∧ (∀ z, (z < i ∨ i + 261 < z) → st.2.2 z = R z) ∧ eWC st.2.2 i ∧ z0WC st.1 i))) 261 7791 (zA bs) := w_X10_init hK  (v_X10_init  hp)
