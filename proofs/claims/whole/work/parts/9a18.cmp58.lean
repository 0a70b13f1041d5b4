theorem eLd_mv {R R1 : Nat → Int → Option Nat} {i : Nat} (e : R1 i = R i) (h : eLd R i) : eLd R1 i := by
  unfold eLd
  rw [e]
  exact h
theorem eNt_mv {R R1 : Nat → Int → Option Nat} {i : Nat} (e : R1 i = R i) (h : eNt R i) : eNt R1 i := by
  unfold eNt
  rw [e]
  exact h
theorem eRw_mv {R R1 : Nat → Int → Option Nat} {i : Nat} (e : R1 i = R i) (h : eRw R i) : eRw R1 i := by
  unfold eRw
  rw [e]
  exact h
theorem eBk_mv {R R1 : Nat → Int → Option Nat} {i : Nat} (e : R1 i = R i) (h : eBk R i) : eBk R1 i := by
  unfold eBk
  rw [e]
  exact h
/-! CONSTRUCTORS WITH LEDGERS: chart, filling -/
def eCh (R : Nat → Int → Option Nat) (i : Nat) : Prop := (R i 4 = some (i + 9) ∧ R i 5 = some (i + 10) ∧ R i 6 = some (i + 11) ∧ R i 7 = some (i + 12) ∧ R i 8 = some (i + 13) ∧ R i 9 = some (i + 14) ∧ R i 10 = some (i + 15) ∧ R i 11 = some (i + 16)) ∧
  (∀ z : Nat, z < 15 → R (i + 14) z = some (i + 17 + 2 * z) ∧ eLd R (i + 17 + 2 * z)) ∧ (R i 0 = some (i + 1) ∧ eNt R (i + 1)) ∧ (R i 1 = some (i + 3) ∧ eBk R (i + 3))

abbrev cX1_init : ByteArray := prog_3_method_1_code
def yX1_init : MethodName := ⟨RX1, "<init>", "()V"⟩
theorem dX1_init_0 : decode cX1_init 0 = .ok (.aload_n 0, 1) := by decide +kernel
theorem dX1_init_1 : decode cX1_init 1 = .ok (.invokespecial 3, 3) := by decide +kernel
theorem dX1_init_4 : decode cX1_init 4 = .ok (.aload_n 0, 1) := by decide +kernel
theorem dX1_init_5 : decode cX1_init 5 = .ok (.new 9, 3) := by decide +kernel
theorem dX1_init_8 : decode cX1_init 8 = .ok (.dup, 1) := by decide +kernel
theorem dX1_init_9 : decode cX1_init 9 = .ok (.invokespecial 11, 3) := by decide +kernel
theorem dX1_init_12 : decode cX1_init 12 = .ok (.putfield 12, 3) := by decide +kernel
theorem dX1_init_15 : decode cX1_init 15 = .ok (.aload_n 0, 1) := by decide +kernel
theorem dX1_init_16 : decode cX1_init 16 = .ok (.new 18, 3) := by decide +kernel
theorem dX1_init_19 : decode cX1_init 19 = .ok (.dup, 1) := by decide +kernel
theorem dX1_init_20 : decode cX1_init 20 = .ok (.invokespecial 20, 3) := by decide +kernel
theorem dX1_init_23 : decode cX1_init 23 = .ok (.putfield 21, 3) := by decide +kernel
theorem dX1_init_26 : decode cX1_init 26 = .ok (.aload_n 0, 1) := by decide +kernel
theorem dX1_init_27 : decode cX1_init 27 = .ok (.bipush 15, 2) := by decide +kernel
theorem dX1_init_29 : decode cX1_init 29 = .ok (.newarray .int, 2) := by decide +kernel
theorem dX1_init_31 : decode cX1_init 31 = .ok (.putfield 25, 3) := by decide +kernel
theorem dX1_init_34 : decode cX1_init 34 = .ok (.aload_n 0, 1) := by decide +kernel
theorem dX1_init_35 : decode cX1_init 35 = .ok (.bipush 15, 2) := by decide +kernel
theorem dX1_init_37 : decode cX1_init 37 = .ok (.newarray .int, 2) := by decide +kernel
theorem dX1_init_39 : decode cX1_init 39 = .ok (.putfield 29, 3) := by decide +kernel
theorem dX1_init_42 : decode cX1_init 42 = .ok (.aload_n 0, 1) := by decide +kernel
theorem dX1_init_43 : decode cX1_init 43 = .ok (.bipush 15, 2) := by decide +kernel
theorem dX1_init_45 : decode cX1_init 45 = .ok (.newarray .int, 2) := by decide +kernel
theorem dX1_init_47 : decode cX1_init 47 = .ok (.putfield 32, 3) := by decide +kernel
theorem dX1_init_50 : decode cX1_init 50 = .ok (.aload_n 0, 1) := by decide +kernel
theorem dX1_init_51 : decode cX1_init 51 = .ok (.bipush 15, 2) := by decide +kernel
theorem dX1_init_53 : decode cX1_init 53 = .ok (.newarray .long, 2) := by decide +kernel
theorem dX1_init_55 : decode cX1_init 55 = .ok (.putfield 35, 3) := by decide +kernel
theorem dX1_init_58 : decode cX1_init 58 = .ok (.aload_n 0, 1) := by decide +kernel
theorem dX1_init_59 : decode cX1_init 59 = .ok (.bipush 15, 2) := by decide +kernel
theorem dX1_init_61 : decode cX1_init 61 = .ok (.newarray .long, 2) := by decide +kernel
theorem dX1_init_63 : decode cX1_init 63 = .ok (.putfield 39, 3) := by decide +kernel
theorem dX1_init_66 : decode cX1_init 66 = .ok (.aload_n 0, 1) := by decide +kernel
theorem dX1_init_67 : decode cX1_init 67 = .ok (.bipush 15, 2) := by decide +kernel
theorem dX1_init_69 : decode cX1_init 69 = .ok (.anewarray 42, 3) := by decide +kernel
theorem dX1_init_72 : decode cX1_init 72 = .ok (.putfield 44, 3) := by decide +kernel
theorem dX1_init_75 : decode cX1_init 75 = .ok (.aload_n 0, 1) := by decide +kernel
theorem dX1_init_76 : decode cX1_init 76 = .ok (.bipush 15, 2) := by decide +kernel
theorem dX1_init_78 : decode cX1_init 78 = .ok (.newarray .long, 2) := by decide +kernel
theorem dX1_init_80 : decode cX1_init 80 = .ok (.putfield 48, 3) := by decide +kernel
theorem dX1_init_83 : decode cX1_init 83 = .ok (.aload_n 0, 1) := by decide +kernel
theorem dX1_init_84 : decode cX1_init 84 = .ok (.bipush 15, 2) := by decide +kernel
theorem dX1_init_86 : decode cX1_init 86 = .ok (.newarray .int, 2) := by decide +kernel
theorem dX1_init_88 : decode cX1_init 88 = .ok (.putfield 51, 3) := by decide +kernel
theorem dX1_init_91 : decode cX1_init 91 = .ok (.iconst 0, 1) := by decide +kernel
theorem dX1_init_92 : decode cX1_init 92 = .ok (.istore_n 1, 1) := by decide +kernel
theorem dX1_init_93 : decode cX1_init 93 = .ok (.iload_n 1, 1) := by decide +kernel
theorem dX1_init_94 : decode cX1_init 94 = .ok (.bipush 15, 2) := by decide +kernel
theorem dX1_init_96 : decode cX1_init 96 = .ok (.if_icmp .ge 22, 3) := by decide +kernel
theorem dX1_init_99 : decode cX1_init 99 = .ok (.aload_n 0, 1) := by decide +kernel
theorem dX1_init_100 : decode cX1_init 100 = .ok (.getfield 44, 3) := by decide +kernel
theorem dX1_init_103 : decode cX1_init 103 = .ok (.iload_n 1, 1) := by decide +kernel
theorem dX1_init_104 : decode cX1_init 104 = .ok (.new 42, 3) := by decide +kernel
theorem dX1_init_107 : decode cX1_init 107 = .ok (.dup, 1) := by decide +kernel
theorem dX1_init_108 : decode cX1_init 108 = .ok (.invokespecial 54, 3) := by decide +kernel
theorem dX1_init_111 : decode cX1_init 111 = .ok (.aastore, 1) := by decide +kernel
theorem dX1_init_112 : decode cX1_init 112 = .ok (.iinc 1 1, 3) := by decide +kernel
theorem dX1_init_115 : decode cX1_init 115 = .ok (.goto (-22), 3) := by decide +kernel
theorem dX1_init_118 : decode cX1_init 118 = .ok (.return_, 1) := by decide +kernel
theorem q_370 : Cond.methodLink RX1 3 Lib.objectInit ∈ zTB := zmem 370 (by decide +kernel) rfl
theorem q_371 : Cond.classLink RX1 9 RX6 ∈ zTB := zmem 371 (by decide +kernel) rfl
theorem q_168 : Cond.instantiable RX6 8 ∈ zTB := zmem 168 (by decide +kernel) rfl
theorem q_170 : Cond.instanceMethod yX6_init ∈ zTB := zmem 170 (by decide +kernel) rfl
theorem q_171 : Cond.code yX6_init cX6_init 1 none ∈ zTB := zmem 171 (by decide +kernel) rfl
theorem q_372 : Cond.methodLink RX1 11 yX6_init ∈ zTB := zmem 372 (by decide +kernel) rfl
theorem k_RX1_11 : zLi RX1 11 yX6_init cX6_init 1 0 := ⟨⟨q_372, q_170, q_131, q_171⟩, rfl, ⟨by decide, by decide⟩, by decide +kernel⟩
theorem q_373 : Cond.classLink RX1 18 RX0 ∈ zTB := zmem 373 (by decide +kernel) rfl
theorem q_219 : Cond.instantiable RX0 6 ∈ zTB := zmem 219 (by decide +kernel) rfl
theorem q_221 : Cond.instanceMethod yX0_init ∈ zTB := zmem 221 (by decide +kernel) rfl
theorem q_222 : Cond.code yX0_init cX0_init 1 none ∈ zTB := zmem 222 (by decide +kernel) rfl
theorem k_RX1_20 : zLiN RX1 20 yX0_init "WorkChains" cX0_init 1 0 := ⟨⟨by decide +kernel, q_221, q_132, q_222⟩, rfl, ⟨by decide, by decide⟩, by decide +kernel⟩
theorem q_375 : Cond.classLink RX1 42 RX5 ∈ zTB := zmem 375 (by decide +kernel) rfl
theorem q_377 : Cond.instantiable RX5 2 ∈ zTB := zmem 377 (by decide +kernel) rfl
theorem q_379 : Cond.instanceMethod yX5_init ∈ zTB := zmem 379 (by decide +kernel) rfl
theorem q_380 : Cond.code yX5_init cX5_init 1 none ∈ zTB := zmem 380 (by decide +kernel) rfl
theorem k_RX1_54 : zLiN RX1 54 yX5_init "WorkChains" cX5_init 1 0 := ⟨⟨by decide +kernel, q_379, q_136, q_380⟩, rfl, ⟨by decide, by decide⟩, by decide +kernel⟩
set_option maxHeartbeats 4000000 in
set_option maxRecDepth 100000 in
def F_X1_init (i : Nat) (X Y : Nat → Int → Int) (R : Nat → Int → Option Nat)  : Prop := (∀ i j, rI (X i j)) → (∀ i j, rL (Y i j)) → ∀ X1 : Nat → Int → Int, X1 = zZ X (i + 1) 0 → (∀ i j, rI (X1 i j)) → (∀ Y2 : Nat → Int → Int, Y2 = zZ Y (i + 1) 0 → (∀ i j, rL (Y2 i j)) → (∀ R3 : Nat → Int → Option Nat, R3 = zZ R (i + 1) none → ((X1 (i + 1) = fun _ => 0) ∧ (∀ X5 : Nat → Int → Int, (∀ i j, rI (X5 i j)) → ∀ R6 : Nat → Int → Option Nat, ((∀ z, z ≠ (i + 1) → z ≠ i + 2 → X5 z = X1 z) ∧ (∀ z, z ≠ (i + 1) → R6 z = R3 z) ∧ eNt R6 (i + 1) ∧ z0N X5 (i + 1)) → (∀ R7 : Nat → Int → Option Nat, R7 = zU R6 (i) 0 (some ((i + 1))) → (∀ X8 : Nat → Int → Int, X8 = zZ X5 (i + 3) 0 → (∀ i j, rI (X8 i j)) → (∀ Y9 : Nat → Int → Int, Y9 = zZ Y2 (i + 3) 0 → (∀ i j, rL (Y9 i j)) → (∀ R10 : Nat → Int → Option Nat, R10 = zZ R7 (i + 3) none → ((X8 (i + 3) = fun _ => 0) ∧ (∀ X12 : Nat → Int → Int, (∀ i j, rI (X12 i j)) → ∀ R13 : Nat → Int → Option Nat, ((∀ z, (z < (i + 3) ∨ (i + 3) + 5 < z) → X12 z = X8 z) ∧ (∀ z, z ≠ (i + 3) → R13 z = R10 z) ∧ eBk R13 (i + 3) ∧ z0B X12 (i + 3)) → (∀ R14 : Nat → Int → Option Nat, R14 = zU R13 (i) 1 (some ((i + 3))) → (∀ X15 : Nat → Int → Int, X15 = zZ X12 (i + 9) 0 → (∀ i j, rI (X15 i j)) → (∀ R16 : Nat → Int → Option Nat, R16 = zU R14 (i) 4 (some ((i + 9))) → (∀ X17 : Nat → Int → Int, X17 = zZ X15 (i + 10) 0 → (∀ i j, rI (X17 i j)) → (∀ R18 : Nat → Int → Option Nat, R18 = zU R16 (i) 5 (some ((i + 10))) → (∀ X19 : Nat → Int → Int, X19 = zZ X17 (i + 11) 0 → (∀ i j, rI (X19 i j)) → (∀ R20 : Nat → Int → Option Nat, R20 = zU R18 (i) 6 (some ((i + 11))) → (∀ Y21 : Nat → Int → Int, Y21 = zZ Y9 (i + 12) 0 → (∀ i j, rL (Y21 i j)) → (∀ R22 : Nat → Int → Option Nat, R22 = zU R20 (i) 7 (some ((i + 12))) → (∀ Y23 : Nat → Int → Int, Y23 = zZ Y21 (i + 13) 0 → (∀ i j, rL (Y23 i j)) → (∀ R24 : Nat → Int → Option Nat, R24 = zU R22 (i) 8 (some ((i + 13))) → (∀ R25 : Nat → Int → Option Nat, R25 = zZ R24 (i + 14) none → (∀ R26 : Nat → Int → Option Nat, R26 = zU R25 (i) 9 (some ((i + 14))) → (∀ Y27 : Nat → Int → Int, Y27 = zZ Y23 (i + 15) 0 → (∀ i j, rL (Y27 i j)) → (∀ R28 : Nat → Int → Option Nat, R28 = zU R26 (i) 10 (some ((i + 15))) → (∀ X29 : Nat → Int → Int, X29 = zZ X19 (i + 16) 0 → (∀ i j, rI (X29 i j)) → (∀ R30 : Nat → Int → Option Nat, R30 = zU R28 (i) 11 (some ((i + 16))) → ((R30 i 9 = some (i + 14)) ∧ (∀ X33 : Nat → Int → Int, X33 = zZ X29 (i + 17) 0 → (∀ i j, rI (X33 i j)) → (∀ Y34 : Nat → Int → Int, Y34 = zZ Y27 (i + 17) 0 → (∀ i j, rL (Y34 i j)) → (∀ R35 : Nat → Int → Option Nat, R35 = zZ R30 (i + 17) none → ((X33 (i + 17) = fun _ => 0) ∧ (∀ X37 : Nat → Int → Int, (∀ i j, rI (X37 i j)) → ∀ R38 : Nat → Int → Option Nat, ((∀ z, z ≠ (i + 17) → z ≠ i + 18 → X37 z = X33 z) ∧ (∀ z, z ≠ (i + 17) → R38 z = R35 z) ∧ eLd R38 (i + 17)) → (∀ R39 : Nat → Int → Option Nat, R39 = zU R38 ((i + 14)) (0) (some ((i + 17))) → ((R39 i 9 = some (i + 14)) ∧ (∀ X42 : Nat → Int → Int, X42 = zZ X37 (i + 19) 0 → (∀ i j, rI (X42 i j)) → (∀ Y43 : Nat → Int → Int, Y43 = zZ Y34 (i + 19) 0 → (∀ i j, rL (Y43 i j)) → (∀ R44 : Nat → Int → Option Nat, R44 = zZ R39 (i + 19) none → ((X42 (i + 19) = fun _ => 0) ∧ (∀ X46 : Nat → Int → Int, (∀ i j, rI (X46 i j)) → ∀ R47 : Nat → Int → Option Nat, ((∀ z, z ≠ (i + 19) → z ≠ i + 20 → X46 z = X42 z) ∧ (∀ z, z ≠ (i + 19) → R47 z = R44 z) ∧ eLd R47 (i + 19)) → (∀ R48 : Nat → Int → Option Nat, R48 = zU R47 ((i + 14)) (1) (some ((i + 19))) → ((R48 i 9 = some (i + 14)) ∧ (∀ X51 : Nat → Int → Int, X51 = zZ X46 (i + 21) 0 → (∀ i j, rI (X51 i j)) → (∀ Y52 : Nat → Int → Int, Y52 = zZ Y43 (i + 21) 0 → (∀ i j, rL (Y52 i j)) → (∀ R53 : Nat → Int → Option Nat, R53 = zZ R48 (i + 21) none → ((X51 (i + 21) = fun _ => 0) ∧ (∀ X55 : Nat → Int → Int, (∀ i j, rI (X55 i j)) → ∀ R56 : Nat → Int → Option Nat, ((∀ z, z ≠ (i + 21) → z ≠ i + 22 → X55 z = X51 z) ∧ (∀ z, z ≠ (i + 21) → R56 z = R53 z) ∧ eLd R56 (i + 21)) → (∀ R57 : Nat → Int → Option Nat, R57 = zU R56 ((i + 14)) (2) (some ((i + 21))) → ((R57 i 9 = some (i + 14)) ∧ (∀ X60 : Nat → Int → Int, X60 = zZ X55 (i + 23) 0 → (∀ i j, rI (X60 i j)) → (∀ Y61 : Nat → Int → Int, Y61 = zZ Y52 (i + 23) 0 → (∀ i j, rL (Y61 i j)) → (∀ R62 : Nat → Int → Option Nat, R62 = zZ R57 (i + 23) none → ((X60 (i + 23) = fun _ => 0) ∧ (∀ X64 : Nat → Int → Int, (∀ i j, rI (X64 i j)) → ∀ R65 : Nat → Int → Option Nat, ((∀ z, z ≠ (i + 23) → z ≠ i + 24 → X64 z = X60 z) ∧ (∀ z, z ≠ (i + 23) → R65 z = R62 z) ∧ eLd R65 (i + 23)) → (∀ R66 : Nat → Int → Option Nat, R66 = zU R65 ((i + 14)) (3) (some ((i + 23))) → ((R66 i 9 = some (i + 14)) ∧ (∀ X69 : Nat → Int → Int, X69 = zZ X64 (i + 25) 0 → (∀ i j, rI (X69 i j)) → (∀ Y70 : Nat → Int → Int, Y70 = zZ Y61 (i + 25) 0 → (∀ i j, rL (Y70 i j)) → (∀ R71 : Nat → Int → Option Nat, R71 = zZ R66 (i + 25) none → ((X69 (i + 25) = fun _ => 0) ∧ (∀ X73 : Nat → Int → Int, (∀ i j, rI (X73 i j)) → ∀ R74 : Nat → Int → Option Nat, ((∀ z, z ≠ (i + 25) → z ≠ i + 26 → X73 z = X69 z) ∧ (∀ z, z ≠ (i + 25) → R74 z = R71 z) ∧ eLd R74 (i + 25)) → (∀ R75 : Nat → Int → Option Nat, R75 = zU R74 ((i + 14)) (4) (some ((i + 25))) → ((R75 i 9 = some (i + 14)) ∧ (∀ X78 : Nat → Int → Int, X78 = zZ X73 (i + 27) 0 → (∀ i j, rI (X78 i j)) → (∀ Y79 : Nat → Int → Int, Y79 = zZ Y70 (i + 27) 0 → (∀ i j, rL (Y79 i j)) → (∀ R80 : Nat → Int → Option Nat, R80 = zZ R75 (i + 27) none → ((X78 (i + 27) = fun _ => 0) ∧ (∀ X82 : Nat → Int → Int, (∀ i j, rI (X82 i j)) → ∀ R83 : Nat → Int → Option Nat, ((∀ z, z ≠ (i + 27) → z ≠ i + 28 → X82 z = X78 z) ∧ (∀ z, z ≠ (i + 27) → R83 z = R80 z) ∧ eLd R83 (i + 27)) → (∀ R84 : Nat → Int → Option Nat, R84 = zU R83 ((i + 14)) (5) (some ((i + 27))) → ((R84 i 9 = some (i + 14)) ∧ (∀ X87 : Nat → Int → Int, X87 = zZ X82 (i + 29) 0 → (∀ i j, rI (X87 i j)) → (∀ Y88 : Nat → Int → Int, Y88 = zZ Y79 (i + 29) 0 → (∀ i j, rL (Y88 i j)) → (∀ R89 : Nat → Int → Option Nat, R89 = zZ R84 (i + 29) none → ((X87 (i + 29) = fun _ => 0) ∧ (∀ X91 : Nat → Int → Int, (∀ i j, rI (X91 i j)) → ∀ R92 : Nat → Int → Option Nat, ((∀ z, z ≠ (i + 29) → z ≠ i + 30 → X91 z = X87 z) ∧ (∀ z, z ≠ (i + 29) → R92 z = R89 z) ∧ eLd R92 (i + 29)) → (∀ R93 : Nat → Int → Option Nat, R93 = zU R92 ((i + 14)) (6) (some ((i + 29))) → ((R93 i 9 = some (i + 14)) ∧ (∀ X96 : Nat → Int → Int, X96 = zZ X91 (i + 31) 0 → (∀ i j, rI (X96 i j)) → (∀ Y97 : Nat → Int → Int, Y97 = zZ Y88 (i + 31) 0 → (∀ i j, rL (Y97 i j)) → (∀ R98 : Nat → Int → Option Nat, R98 = zZ R93 (i + 31) none → ((X96 (i + 31) = fun _ => 0) ∧ (∀ X100 : Nat → Int → Int, (∀ i j, rI (X100 i j)) → ∀ R101 : Nat → Int → Option Nat, ((∀ z, z ≠ (i + 31) → z ≠ i + 32 → X100 z = X96 z) ∧ (∀ z, z ≠ (i + 31) → R101 z = R98 z) ∧ eLd R101 (i + 31)) → (∀ R102 : Nat → Int → Option Nat, R102 = zU R101 ((i + 14)) (7) (some ((i + 31))) → ((R102 i 9 = some (i + 14)) ∧ (∀ X105 : Nat → Int → Int, X105 = zZ X100 (i + 33) 0 → (∀ i j, rI (X105 i j)) → (∀ Y106 : Nat → Int → Int, Y106 = zZ Y97 (i + 33) 0 → (∀ i j, rL (Y106 i j)) → (∀ R107 : Nat → Int → Option Nat, R107 = zZ R102 (i + 33) none → ((X105 (i + 33) = fun _ => 0) ∧ (∀ X109 : Nat → Int → Int, (∀ i j, rI (X109 i j)) → ∀ R110 : Nat → Int → Option Nat, ((∀ z, z ≠ (i + 33) → z ≠ i + 34 → X109 z = X105 z) ∧ (∀ z, z ≠ (i + 33) → R110 z = R107 z) ∧ eLd R110 (i + 33)) → (∀ R111 : Nat → Int → Option Nat, R111 = zU R110 ((i + 14)) (8) (some ((i + 33))) → ((R111 i 9 = some (i + 14)) ∧ (∀ X114 : Nat → Int → Int, X114 = zZ X109 (i + 35) 0 → (∀ i j, rI (X114 i j)) → (∀ Y115 : Nat → Int → Int, Y115 = zZ Y106 (i + 35) 0 → (∀ i j, rL (Y115 i j)) → (∀ R116 : Nat → Int → Option Nat, R116 = zZ R111 (i + 35) none → ((X114 (i + 35) = fun _ => 0) ∧ (∀ X118 : Nat → Int → Int, (∀ i j, rI (X118 i j)) → ∀ R119 : Nat → Int → Option Nat, ((∀ z, z ≠ (i + 35) → z ≠ i + 36 → X118 z = X114 z) ∧ (∀ z, z ≠ (i + 35) → R119 z = R116 z) ∧ eLd R119 (i + 35)) → (∀ R120 : Nat → Int → Option Nat, R120 = zU R119 ((i + 14)) (9) (some ((i + 35))) → ((R120 i 9 = some (i + 14)) ∧ (∀ X123 : Nat → Int → Int, X123 = zZ X118 (i + 37) 0 → (∀ i j, rI (X123 i j)) → (∀ Y124 : Nat → Int → Int, Y124 = zZ Y115 (i + 37) 0 → (∀ i j, rL (Y124 i j)) → (∀ R125 : Nat → Int → Option Nat, R125 = zZ R120 (i + 37) none → ((X123 (i + 37) = fun _ => 0) ∧ (∀ X127 : Nat → Int → Int, (∀ i j, rI (X127 i j)) → ∀ R128 : Nat → Int → Option Nat, ((∀ z, z ≠ (i + 37) → z ≠ i + 38 → X127 z = X123 z) ∧ (∀ z, z ≠ (i + 37) → R128 z = R125 z) ∧ eLd R128 (i + 37)) → (∀ R129 : Nat → Int → Option Nat, R129 = zU R128 ((i + 14)) (10) (some ((i + 37))) → ((R129 i 9 = some (i + 14)) ∧ (∀ X132 : Nat → Int → Int, X132 = zZ X127 (i + 39) 0 → (∀ i j, rI (X132 i j)) → (∀ Y133 : Nat → Int → Int, Y133 = zZ Y124 (i + 39) 0 → (∀ i j, rL (Y133 i j)) → (∀ R134 : Nat → Int → Option Nat, R134 = zZ R129 (i + 39) none → ((X132 (i + 39) = fun _ => 0) ∧ (∀ X136 : Nat → Int → Int, (∀ i j, rI (X136 i j)) → ∀ R137 : Nat → Int → Option Nat, ((∀ z, z ≠ (i + 39) → z ≠ i + 40 → X136 z = X132 z) ∧ (∀ z, z ≠ (i + 39) → R137 z = R134 z) ∧ eLd R137 (i + 39)) → (∀ R138 : Nat → Int → Option Nat, R138 = zU R137 ((i + 14)) (11) (some ((i + 39))) → ((R138 i 9 = some (i + 14)) ∧ (∀ X141 : Nat → Int → Int, X141 = zZ X136 (i + 41) 0 → (∀ i j, rI (X141 i j)) → (∀ Y142 : Nat → Int → Int, Y142 = zZ Y133 (i + 41) 0 → (∀ i j, rL (Y142 i j)) → (∀ R143 : Nat → Int → Option Nat, R143 = zZ R138 (i + 41) none → ((X141 (i + 41) = fun _ => 0) ∧ (∀ X145 : Nat → Int → Int, (∀ i j, rI (X145 i j)) → ∀ R146 : Nat → Int → Option Nat, ((∀ z, z ≠ (i + 41) → z ≠ i + 42 → X145 z = X141 z) ∧ (∀ z, z ≠ (i + 41) → R146 z = R143 z) ∧ eLd R146 (i + 41)) → (∀ R147 : Nat → Int → Option Nat, R147 = zU R146 ((i + 14)) (12) (some ((i + 41))) → ((R147 i 9 = some (i + 14)) ∧ (∀ X150 : Nat → Int → Int, X150 = zZ X145 (i + 43) 0 → (∀ i j, rI (X150 i j)) → (∀ Y151 : Nat → Int → Int, Y151 = zZ Y142 (i + 43) 0 → (∀ i j, rL (Y151 i j)) → (∀ R152 : Nat → Int → Option Nat, R152 = zZ R147 (i + 43) none → ((X150 (i + 43) = fun _ => 0) ∧ (∀ X154 : Nat → Int → Int, (∀ i j, rI (X154 i j)) → ∀ R155 : Nat → Int → Option Nat, ((∀ z, z ≠ (i + 43) → z ≠ i + 44 → X154 z = X150 z) ∧ (∀ z, z ≠ (i + 43) → R155 z = R152 z) ∧ eLd R155 (i + 43)) → (∀ R156 : Nat → Int → Option Nat, R156 = zU R155 ((i + 14)) (13) (some ((i + 43))) → ((R156 i 9 = some (i + 14)) ∧ (∀ X159 : Nat → Int → Int, X159 = zZ X154 (i + 45) 0 → (∀ i j, rI (X159 i j)) → (∀ Y160 : Nat → Int → Int, Y160 = zZ Y151 (i + 45) 0 → (∀ i j, rL (Y160 i j)) → (∀ R161 : Nat → Int → Option Nat, R161 = zZ R156 (i + 45) none → ((X159 (i + 45) = fun _ => 0) ∧ (∀ X163 : Nat → Int → Int, (∀ i j, rI (X163 i j)) → ∀ R164 : Nat → Int → Option Nat, ((∀ z, z ≠ (i + 45) → z ≠ i + 46 → X163 z = X159 z) ∧ (∀ z, z ≠ (i + 45) → R164 z = R161 z) ∧ eLd R164 (i + 45)) → (∀ R165 : Nat → Int → Option Nat, R165 = zU R164 ((i + 14)) (14) (some ((i + 45))) → ((∀ z, (z < i ∨ i + 46 < z) → X163 z = X z) ∧ (∀ z, (z < i ∨ i + 46 < z) → R165 z = R z) ∧ eCh R165 i ∧ (∀ y, X163 (i + 9) y = 0) ∧ ∀ y, X163 (i + 11) y = 0)))))))))))))))))))))))))))))))))))))))))))))))))))))))))))))))))))))))))))))))))))))))))))))))))))))))))))))))))))))))))))))))))))))
set_option maxHeartbeats 4000000 in
set_option maxRecDepth 100000 in
theorem w_X1_init {l : Launch} {D : va_G} {cy : Nat → ClassId} {bs : Nat} {sa : Nat → Nat} {kd len : Nat → Nat} {X Y : Nat → Int → Int} {R : Nat → Int → Option Nat} {i : Nat} (hK : kT kd len i tChart)  (hF : F_X1_init i X Y R ) : Met l yX1_init (.code yX1_init cX1_init 2 none :: zTB) (zRmG 2 80 46 455) (zPcA D cy bs sa (i + 1) kd len X Y R [.ref (bs + (i))]) (zQv D cy bs (i + 47) kd len (fun st => ((∀ z, (z < i ∨ i + 46 < z) → st.1 z = X z) ∧ (∀ z, (z < i ∨ i + 46 < z) → st.2.2 z = R z) ∧ eCh st.2.2 i ∧ (∀ y, st.1 (i + 9) y = 0) ∧ ∀ y, st.1 (i + 11) y = 0))) 46 455 (zA bs) := by
  refine zstartGA (by decide) (Nat.le_of_ble_eq_true rfl) ?_
  intro p e s m args below meth c ls C hE hA hH hr hlk hnm hl hargs
  have hF := hF hH.2.2.1 hH.2.2.2
  have hS : va_S (zA bs) s.heap s.heap [] := va_S.rf
  have hl : lv_has ls 2 [(0, .ref (bs + (i)))] := hl
  refine lv_aload_n C.1 C.2.1 dX1_init_0 rfl (lv_at hl 0 rfl) ?_
  refine zd_oinit C hl.1 q_370 q_154 q_155 (Nat.le_of_ble_eq_true rfl) dX1_init_1 (Nat.le_of_ble_eq_true rfl) (Nat.le_of_ble_eq_true rfl) ?_
  refine lv_aload_n C.1 C.2.1 dX1_init_4 rfl (lv_at hl 0 rfl) ?_
  refine zd_newO C hH hS (ci := 6) rfl zin6 tyX6 tyX6_ok q_371 q_168 q_131 (kT_k (k := 6) (l := 0) hK 1 (by decide +kernel)) rfl zO6 (Nat.le_of_ble_eq_true rfl) (Nat.le_of_ble_eq_true rfl) dX1_init_5 (fun H hH hS => ?_)
  obtain ⟨X1, eX1⟩ : ∃ z, z = zZ X (i + 1) 0 := ⟨_, rfl⟩
  rw [← eX1] at hH
  have hF := hF X1 eX1 hH.2.2.1
  obtain ⟨Y2, eY2⟩ : ∃ z, z = zZ Y (i + 1) 0 := ⟨_, rfl⟩
  rw [← eY2] at hH
  have hF := hF Y2 eY2 hH.2.2.2
  obtain ⟨R3, eR3⟩ : ∃ z, z = zZ R (i + 1) none := ⟨_, rfl⟩
  rw [← eR3] at hH
  have hF := hF R3 eR3
  refine lv_dup C.1 C.2.1 dX1_init_8 rfl ?_
  obtain ⟨o4, hF⟩ := hF
  refine zgovG (zrunIG (As := []) (rest := [.ref (bs + ((i + 1))), .ref (bs + (i))]) C hE hA hH hS hl.1 (c_X6_init (l := l) (kT_sub hK 1 tNet (by decide +kernel))  o4) k_RX1_11 ⟨Nat.le_of_ble_eq_true rfl, Nat.le_of_ble_eq_true rfl⟩ rfl (Nat.le_of_ble_eq_true rfl) dX1_init_9 ⟨Nat.le_of_ble_eq_true rfl, Nat.le_of_ble_eq_true rfl⟩) hS (fun X5 Yq R6 H locs hq hH hS => ?_)
  obtain ⟨h9Y, hq⟩ := hq
  dsimp only at h9Y
  rw [h9Y] at hH
  have hF := hF X5 hH.2.2.1 R6 hq
  refine zp1_0 C hH hS (by omega) (kT_0 (k := 1) (l := 0) hK (by decide +kernel)) q_392 dX1_init_12 (fun H locs hH hS => ?_)
  obtain ⟨R7, eR7⟩ : ∃ z, z = zU R6 (i) 0 (some ((i + 1))) := ⟨_, rfl⟩
  rw [← eR7] at hH
  have hF := hF R7 eR7
  refine lv_aload_n C.1 C.2.1 dX1_init_15 rfl (lv_at hl 0 rfl) ?_
  refine zd_newO C hH hS (ci := 0) rfl zin0 tyX0 tyX0_ok q_373 q_219 q_132 (kT_k (k := 0) (l := 0) hK 3 (by decide +kernel)) rfl zO0 (Nat.le_of_ble_eq_true rfl) (Nat.le_of_ble_eq_true rfl) dX1_init_16 (fun H hH hS => ?_)
  obtain ⟨X8, eX8⟩ : ∃ z, z = zZ X5 (i + 3) 0 := ⟨_, rfl⟩
  rw [← eX8] at hH
  have hF := hF X8 eX8 hH.2.2.1
  obtain ⟨Y9, eY9⟩ : ∃ z, z = zZ Y2 (i + 3) 0 := ⟨_, rfl⟩
  rw [← eY9] at hH
  have hF := hF Y9 eY9 hH.2.2.2
  obtain ⟨R10, eR10⟩ : ∃ z, z = zZ R7 (i + 3) none := ⟨_, rfl⟩
  rw [← eR10] at hH
  have hF := hF R10 eR10
  refine lv_dup C.1 C.2.1 dX1_init_19 rfl ?_
  obtain ⟨o11, hF⟩ := hF
  refine zgovG (zrunING (As := []) (rest := [.ref (bs + ((i + 3))), .ref (bs + (i))]) C hE hA hH hS hl.1 (c_X0_init (l := l) (kT_sub hK 3 tBlocks (by decide +kernel))  o11) k_RX1_20 ⟨Nat.le_of_ble_eq_true rfl, Nat.le_of_ble_eq_true rfl⟩ rfl (Nat.le_of_ble_eq_true rfl) dX1_init_20 ⟨Nat.le_of_ble_eq_true rfl, Nat.le_of_ble_eq_true rfl⟩) hS (fun X12 Yq R13 H locs hq hH hS => ?_)
  obtain ⟨h9Y, hq⟩ := hq
  dsimp only at h9Y
  rw [h9Y] at hH
  have hF := hF X12 hH.2.2.1 R13 hq
  refine zp1_1 C hH hS (by omega) (kT_0 (k := 1) (l := 0) hK (by decide +kernel)) q_394 dX1_init_23 (fun H locs hH hS => ?_)
  obtain ⟨R14, eR14⟩ : ∃ z, z = zU R13 (i) 1 (some ((i + 3))) := ⟨_, rfl⟩
  rw [← eR14] at hH
  have hF := hF R14 eR14
  refine lv_aload_n C.1 C.2.1 dX1_init_26 rfl (lv_at hl 0 rfl) ?_
  refine zd_bipush C (by decide) dX1_init_27 ?_
  refine zd_newI C hH hS q_218 (n := 15) rfl (by decide) (kT_k (k := 13) (l := 15) hK 9 (by decide +kernel)) (kT_l (k := 13) (l := 15) hK 9 (by decide +kernel)) (Nat.le_of_ble_eq_true rfl) (Nat.le_of_ble_eq_true rfl) dX1_init_29 (fun H hH hS => ?_)
  obtain ⟨X15, eX15⟩ : ∃ z, z = zZ X12 (i + 9) 0 := ⟨_, rfl⟩
  rw [← eX15] at hH
  have hF := hF X15 eX15 hH.2.2.1
  refine zp1_4 C hH hS (by omega) (kT_0 (k := 1) (l := 0) hK (by decide +kernel)) q_402 hnm rfl dX1_init_31 (fun H locs hH hS => ?_)
  obtain ⟨R16, eR16⟩ : ∃ z, z = zU R14 (i) 4 (some ((i + 9))) := ⟨_, rfl⟩
  rw [← eR16] at hH
  have hF := hF R16 eR16
  refine lv_aload_n C.1 C.2.1 dX1_init_34 rfl (lv_at hl 0 rfl) ?_
  refine zd_bipush C (by decide) dX1_init_35 ?_
  refine zd_newI C hH hS q_218 (n := 15) rfl (by decide) (kT_k (k := 13) (l := 15) hK 10 (by decide +kernel)) (kT_l (k := 13) (l := 15) hK 10 (by decide +kernel)) (Nat.le_of_ble_eq_true rfl) (Nat.le_of_ble_eq_true rfl) dX1_init_37 (fun H hH hS => ?_)
  obtain ⟨X17, eX17⟩ : ∃ z, z = zZ X15 (i + 10) 0 := ⟨_, rfl⟩
  rw [← eX17] at hH
  have hF := hF X17 eX17 hH.2.2.1
  refine zp1_5 C hH hS (by omega) (kT_0 (k := 1) (l := 0) hK (by decide +kernel)) q_404 hnm rfl dX1_init_39 (fun H locs hH hS => ?_)
  obtain ⟨R18, eR18⟩ : ∃ z, z = zU R16 (i) 5 (some ((i + 10))) := ⟨_, rfl⟩
  rw [← eR18] at hH
  have hF := hF R18 eR18
  refine lv_aload_n C.1 C.2.1 dX1_init_42 rfl (lv_at hl 0 rfl) ?_
  refine zd_bipush C (by decide) dX1_init_43 ?_
  refine zd_newI C hH hS q_218 (n := 15) rfl (by decide) (kT_k (k := 13) (l := 15) hK 11 (by decide +kernel)) (kT_l (k := 13) (l := 15) hK 11 (by decide +kernel)) (Nat.le_of_ble_eq_true rfl) (Nat.le_of_ble_eq_true rfl) dX1_init_45 (fun H hH hS => ?_)
  obtain ⟨X19, eX19⟩ : ∃ z, z = zZ X17 (i + 11) 0 := ⟨_, rfl⟩
  rw [← eX19] at hH
  have hF := hF X19 eX19 hH.2.2.1
  refine zp1_6 C hH hS (by omega) (kT_0 (k := 1) (l := 0) hK (by decide +kernel)) q_407 hnm rfl dX1_init_47 (fun H locs hH hS => ?_)
  obtain ⟨R20, eR20⟩ : ∃ z, z = zU R18 (i) 6 (some ((i + 11))) := ⟨_, rfl⟩
  rw [← eR20] at hH
  have hF := hF R20 eR20
  refine lv_aload_n C.1 C.2.1 dX1_init_50 rfl (lv_at hl 0 rfl) ?_
  refine zd_bipush C (by decide) dX1_init_51 ?_
  refine zd_newJ C hH hS q_391 (n := 15) rfl (by decide) (kT_k (k := 14) (l := 15) hK 12 (by decide +kernel)) (kT_l (k := 14) (l := 15) hK 12 (by decide +kernel)) (Nat.le_of_ble_eq_true rfl) (Nat.le_of_ble_eq_true rfl) dX1_init_53 (fun H hH hS => ?_)
  obtain ⟨Y21, eY21⟩ : ∃ z, z = zZ Y9 (i + 12) 0 := ⟨_, rfl⟩
  rw [← eY21] at hH
  have hF := hF Y21 eY21 hH.2.2.2
  refine zp1_7 C hH hS (by omega) (kT_0 (k := 1) (l := 0) hK (by decide +kernel)) q_409 hnm rfl dX1_init_55 (fun H locs hH hS => ?_)
  obtain ⟨R22, eR22⟩ : ∃ z, z = zU R20 (i) 7 (some ((i + 12))) := ⟨_, rfl⟩
  rw [← eR22] at hH
  have hF := hF R22 eR22
  refine lv_aload_n C.1 C.2.1 dX1_init_58 rfl (lv_at hl 0 rfl) ?_
  refine zd_bipush C (by decide) dX1_init_59 ?_
  refine zd_newJ C hH hS q_391 (n := 15) rfl (by decide) (kT_k (k := 14) (l := 15) hK 13 (by decide +kernel)) (kT_l (k := 14) (l := 15) hK 13 (by decide +kernel)) (Nat.le_of_ble_eq_true rfl) (Nat.le_of_ble_eq_true rfl) dX1_init_61 (fun H hH hS => ?_)
  obtain ⟨Y23, eY23⟩ : ∃ z, z = zZ Y21 (i + 13) 0 := ⟨_, rfl⟩
  rw [← eY23] at hH
  have hF := hF Y23 eY23 hH.2.2.2
  refine zp1_8 C hH hS (by omega) (kT_0 (k := 1) (l := 0) hK (by decide +kernel)) q_411 hnm rfl dX1_init_63 (fun H locs hH hS => ?_)
  obtain ⟨R24, eR24⟩ : ∃ z, z = zU R22 (i) 8 (some ((i + 13))) := ⟨_, rfl⟩
  rw [← eR24] at hH
  have hF := hF R24 eR24
  refine lv_aload_n C.1 C.2.1 dX1_init_66 rfl (lv_at hl 0 rfl) ?_
  refine zd_bipush C (by decide) dX1_init_67 ?_
  refine zd_newR (k := 1) C hH hS q_375 hA.1.2.1 rfl (n := 15) rfl (by decide) (kT_k (k := 17) (l := 15) hK 14 (by decide +kernel)) (kT_l (k := 17) (l := 15) hK 14 (by decide +kernel)) (Nat.le_of_ble_eq_true rfl) (Nat.le_of_ble_eq_true rfl) dX1_init_69 (fun H hH hS => ?_)
  obtain ⟨R25, eR25⟩ : ∃ z, z = zZ R24 (i + 14) none := ⟨_, rfl⟩
  rw [← eR25] at hH
  have hF := hF R25 eR25
  refine zp1_9 C hH hS (by omega) (kT_0 (k := 1) (l := 0) hK (by decide +kernel)) q_413 hnm rfl dX1_init_72 (fun H locs hH hS => ?_)
  obtain ⟨R26, eR26⟩ : ∃ z, z = zU R25 (i) 9 (some ((i + 14))) := ⟨_, rfl⟩
  rw [← eR26] at hH
  have hF := hF R26 eR26
  refine lv_aload_n C.1 C.2.1 dX1_init_75 rfl (lv_at hl 0 rfl) ?_
  refine zd_bipush C (by decide) dX1_init_76 ?_
  refine zd_newJ C hH hS q_391 (n := 15) rfl (by decide) (kT_k (k := 14) (l := 15) hK 15 (by decide +kernel)) (kT_l (k := 14) (l := 15) hK 15 (by decide +kernel)) (Nat.le_of_ble_eq_true rfl) (Nat.le_of_ble_eq_true rfl) dX1_init_78 (fun H hH hS => ?_)
  obtain ⟨Y27, eY27⟩ : ∃ z, z = zZ Y23 (i + 15) 0 := ⟨_, rfl⟩
  rw [← eY27] at hH
  have hF := hF Y27 eY27 hH.2.2.2
  refine zp1_10 C hH hS (by omega) (kT_0 (k := 1) (l := 0) hK (by decide +kernel)) q_415 hnm rfl dX1_init_80 (fun H locs hH hS => ?_)
  obtain ⟨R28, eR28⟩ : ∃ z, z = zU R26 (i) 10 (some ((i + 15))) := ⟨_, rfl⟩
  rw [← eR28] at hH
  have hF := hF R28 eR28
  refine lv_aload_n C.1 C.2.1 dX1_init_83 rfl (lv_at hl 0 rfl) ?_
  refine zd_bipush C (by decide) dX1_init_84 ?_
  refine zd_newI C hH hS q_218 (n := 15) rfl (by decide) (kT_k (k := 13) (l := 15) hK 16 (by decide +kernel)) (kT_l (k := 13) (l := 15) hK 16 (by decide +kernel)) (Nat.le_of_ble_eq_true rfl) (Nat.le_of_ble_eq_true rfl) dX1_init_86 (fun H hH hS => ?_)
  obtain ⟨X29, eX29⟩ : ∃ z, z = zZ X19 (i + 16) 0 := ⟨_, rfl⟩
  rw [← eX29] at hH
  have hF := hF X29 eX29 hH.2.2.1
  refine zp1_11 C hH hS (by omega) (kT_0 (k := 1) (l := 0) hK (by decide +kernel)) q_416 hnm rfl dX1_init_88 (fun H locs hH hS => ?_)
  obtain ⟨R30, eR30⟩ : ∃ z, z = zU R28 (i) 11 (some ((i + 16))) := ⟨_, rfl⟩
  rw [← eR30] at hH
  have hF := hF R30 eR30
  refine zd_iconst C dX1_init_91 ?_
  refine lv_istore_n (lv' := [(1, .int (zI (0))), (0, .ref (bs + (i)))]) C.1 C.2.1 dX1_init_92 rfl hl (by decide) rfl (fun ls hl => ?_)
  refine lv_iload_n C.1 C.2.1 dX1_init_93 rfl (lv_at hl 0 rfl) ?_
  refine zd_bipush C (by decide) dX1_init_94 ?_
  refine zd_icmp_ge C (by decide) (by decide) 118 dX1_init_96 (by decide) (fun c31 => ?_) (fun c31 => ?_)
  · exact absurd c31 (by decide)
  · refine lv_aload_n C.1 C.2.1 dX1_init_99 rfl (lv_at hl 1 rfl) ?_
    obtain ⟨o32, hF⟩ := hF
    refine zg1_9 C hH (by omega) (kT_0 (k := 1) (l := 0) hK (by decide +kernel)) q_413 o32 dX1_init_100 ?_
    refine lv_iload_n C.1 C.2.1 dX1_init_103 rfl (lv_at hl 0 rfl) ?_
    refine zd_newO C hH hS (ci := 5) rfl zin5 tyX5 tyX5_ok q_375 q_377 q_136 (kT_k (k := 5) (l := 0) hK 17 (by decide +kernel)) rfl zO5 (Nat.le_of_ble_eq_true rfl) (Nat.le_of_ble_eq_true rfl) dX1_init_104 (fun H hH hS => ?_)
    obtain ⟨X33, eX33⟩ : ∃ z, z = zZ X29 (i + 17) 0 := ⟨_, rfl⟩
    rw [← eX33] at hH
    have hF := hF X33 eX33 hH.2.2.1
    obtain ⟨Y34, eY34⟩ : ∃ z, z = zZ Y27 (i + 17) 0 := ⟨_, rfl⟩
    rw [← eY34] at hH
    have hF := hF Y34 eY34 hH.2.2.2
    obtain ⟨R35, eR35⟩ : ∃ z, z = zZ R30 (i + 17) none := ⟨_, rfl⟩
    rw [← eR35] at hH
    have hF := hF R35 eR35
    refine lv_dup C.1 C.2.1 dX1_init_107 rfl ?_
    obtain ⟨o36, hF⟩ := hF
    refine zgovG (zrunING (As := []) (rest := [.ref (bs + ((i + 17))), .int (zI (0)), .ref (bs + ((i + 14)))]) C hE hA hH hS hl.1 (c_X5_init (l := l) (kT_sub hK 17 tLedger (by decide +kernel))  o36) k_RX1_54 ⟨Nat.le_of_ble_eq_true rfl, Nat.le_of_ble_eq_true rfl⟩ rfl (Nat.le_of_ble_eq_true rfl) dX1_init_108 ⟨Nat.le_of_ble_eq_true rfl, Nat.le_of_ble_eq_true rfl⟩) hS (fun X37 Yq R38 H locs hq hH hS => ?_)
    obtain ⟨h9Y, hq⟩ := hq
    dsimp only at h9Y
    rw [h9Y] at hH
    have hF := hF X37 hH.2.2.1 R38 hq
    refine zd_aastr (k := 1) (ci := 5) C hH hS (by omega) (kT_k (k := 17) (l := 15) hK 14 (by decide +kernel)) (by omega) (kT_k (k := 5) (l := 0) hK 17 (by decide +kernel)) rfl rfl rfl (by decide) (by rw [(kT_l (k := 17) (l := 15) hK 14 (by decide +kernel))]; decide) (by rw [(kT_l (k := 17) (l := 15) hK 14 (by decide +kernel))]; decide) dX1_init_111 (fun H locs hH hS => ?_)
    obtain ⟨R39, eR39⟩ : ∃ z, z = zU R38 ((i + 14)) (0) (some ((i + 17))) := ⟨_, rfl⟩
    rw [← eR39] at hH
    have hF := hF R39 eR39
    refine zd_iinc (k := 0) (lv' := [(1, .int (zI (1))), (0, .ref (bs + (i)))]) C hl rfl dX1_init_112 (by decide) rfl (fun ls hl => ?_)
    refine lv_goto (tgt := 93) C.1 C.2.1 dX1_init_115 (by decide) ?_
    refine lv_iload_n C.1 C.2.1 dX1_init_93 rfl (lv_at hl 0 rfl) ?_
    refine zd_bipush C (by decide) dX1_init_94 ?_
    refine zd_icmp_ge C (by decide) (by decide) 118 dX1_init_96 (by decide) (fun c40 => ?_) (fun c40 => ?_)
    · exact absurd c40 (by decide)
    · refine lv_aload_n C.1 C.2.1 dX1_init_99 rfl (lv_at hl 1 rfl) ?_
      obtain ⟨o41, hF⟩ := hF
      refine zg1_9 C hH (by omega) (kT_0 (k := 1) (l := 0) hK (by decide +kernel)) q_413 o41 dX1_init_100 ?_
      refine lv_iload_n C.1 C.2.1 dX1_init_103 rfl (lv_at hl 0 rfl) ?_
      refine zd_newO C hH hS (ci := 5) rfl zin5 tyX5 tyX5_ok q_375 q_377 q_136 (kT_k (k := 5) (l := 0) hK 19 (by decide +kernel)) rfl zO5 (Nat.le_of_ble_eq_true rfl) (Nat.le_of_ble_eq_true rfl) dX1_init_104 (fun H hH hS => ?_)
      obtain ⟨X42, eX42⟩ : ∃ z, z = zZ X37 (i + 19) 0 := ⟨_, rfl⟩
      rw [← eX42] at hH
      have hF := hF X42 eX42 hH.2.2.1
      obtain ⟨Y43, eY43⟩ : ∃ z, z = zZ Y34 (i + 19) 0 := ⟨_, rfl⟩
      rw [← eY43] at hH
      have hF := hF Y43 eY43 hH.2.2.2
      obtain ⟨R44, eR44⟩ : ∃ z, z = zZ R39 (i + 19) none := ⟨_, rfl⟩
      rw [← eR44] at hH
      have hF := hF R44 eR44
      refine lv_dup C.1 C.2.1 dX1_init_107 rfl ?_
      obtain ⟨o45, hF⟩ := hF
      refine zgovG (zrunING (As := []) (rest := [.ref (bs + ((i + 19))), .int (zI (1)), .ref (bs + ((i + 14)))]) C hE hA hH hS hl.1 (c_X5_init (l := l) (kT_sub hK 19 tLedger (by decide +kernel))  o45) k_RX1_54 ⟨Nat.le_of_ble_eq_true rfl, Nat.le_of_ble_eq_true rfl⟩ rfl (Nat.le_of_ble_eq_true rfl) dX1_init_108 ⟨Nat.le_of_ble_eq_true rfl, Nat.le_of_ble_eq_true rfl⟩) hS (fun X46 Yq R47 H locs hq hH hS => ?_)
      obtain ⟨h9Y, hq⟩ := hq
      dsimp only at h9Y
      rw [h9Y] at hH
      have hF := hF X46 hH.2.2.1 R47 hq
      refine zd_aastr (k := 1) (ci := 5) C hH hS (by omega) (kT_k (k := 17) (l := 15) hK 14 (by decide +kernel)) (by omega) (kT_k (k := 5) (l := 0) hK 19 (by decide +kernel)) rfl rfl rfl (by decide) (by rw [(kT_l (k := 17) (l := 15) hK 14 (by decide +kernel))]; decide) (by rw [(kT_l (k := 17) (l := 15) hK 14 (by decide +kernel))]; decide) dX1_init_111 (fun H locs hH hS => ?_)
      obtain ⟨R48, eR48⟩ : ∃ z, z = zU R47 ((i + 14)) (1) (some ((i + 19))) := ⟨_, rfl⟩
      rw [← eR48] at hH
      have hF := hF R48 eR48
      refine zd_iinc (k := 0) (lv' := [(1, .int (zI (2))), (0, .ref (bs + (i)))]) C hl rfl dX1_init_112 (by decide) rfl (fun ls hl => ?_)
      refine lv_goto (tgt := 93) C.1 C.2.1 dX1_init_115 (by decide) ?_
      refine lv_iload_n C.1 C.2.1 dX1_init_93 rfl (lv_at hl 0 rfl) ?_
      refine zd_bipush C (by decide) dX1_init_94 ?_
      refine zd_icmp_ge C (by decide) (by decide) 118 dX1_init_96 (by decide) (fun c49 => ?_) (fun c49 => ?_)
      · exact absurd c49 (by decide)
      · refine lv_aload_n C.1 C.2.1 dX1_init_99 rfl (lv_at hl 1 rfl) ?_
        obtain ⟨o50, hF⟩ := hF
        refine zg1_9 C hH (by omega) (kT_0 (k := 1) (l := 0) hK (by decide +kernel)) q_413 o50 dX1_init_100 ?_
        refine lv_iload_n C.1 C.2.1 dX1_init_103 rfl (lv_at hl 0 rfl) ?_
        refine zd_newO C hH hS (ci := 5) rfl zin5 tyX5 tyX5_ok q_375 q_377 q_136 (kT_k (k := 5) (l := 0) hK 21 (by decide +kernel)) rfl zO5 (Nat.le_of_ble_eq_true rfl) (Nat.le_of_ble_eq_true rfl) dX1_init_104 (fun H hH hS => ?_)
        obtain ⟨X51, eX51⟩ : ∃ z, z = zZ X46 (i + 21) 0 := ⟨_, rfl⟩
        rw [← eX51] at hH
        have hF := hF X51 eX51 hH.2.2.1
        obtain ⟨Y52, eY52⟩ : ∃ z, z = zZ Y43 (i + 21) 0 := ⟨_, rfl⟩
        rw [← eY52] at hH
        have hF := hF Y52 eY52 hH.2.2.2
        obtain ⟨R53, eR53⟩ : ∃ z, z = zZ R48 (i + 21) none := ⟨_, rfl⟩
        rw [← eR53] at hH
        have hF := hF R53 eR53
        refine lv_dup C.1 C.2.1 dX1_init_107 rfl ?_
        obtain ⟨o54, hF⟩ := hF
        refine zgovG (zrunING (As := []) (rest := [.ref (bs + ((i + 21))), .int (zI (2)), .ref (bs + ((i + 14)))]) C hE hA hH hS hl.1 (c_X5_init (l := l) (kT_sub hK 21 tLedger (by decide +kernel))  o54) k_RX1_54 ⟨Nat.le_of_ble_eq_true rfl, Nat.le_of_ble_eq_true rfl⟩ rfl (Nat.le_of_ble_eq_true rfl) dX1_init_108 ⟨Nat.le_of_ble_eq_true rfl, Nat.le_of_ble_eq_true rfl⟩) hS (fun X55 Yq R56 H locs hq hH hS => ?_)
        obtain ⟨h9Y, hq⟩ := hq
        dsimp only at h9Y
        rw [h9Y] at hH
        have hF := hF X55 hH.2.2.1 R56 hq
        refine zd_aastr (k := 1) (ci := 5) C hH hS (by omega) (kT_k (k := 17) (l := 15) hK 14 (by decide +kernel)) (by omega) (kT_k (k := 5) (l := 0) hK 21 (by decide +kernel)) rfl rfl rfl (by decide) (by rw [(kT_l (k := 17) (l := 15) hK 14 (by decide +kernel))]; decide) (by rw [(kT_l (k := 17) (l := 15) hK 14 (by decide +kernel))]; decide) dX1_init_111 (fun H locs hH hS => ?_)
        obtain ⟨R57, eR57⟩ : ∃ z, z = zU R56 ((i + 14)) (2) (some ((i + 21))) := ⟨_, rfl⟩
        rw [← eR57] at hH
        have hF := hF R57 eR57
        refine zd_iinc (k := 0) (lv' := [(1, .int (zI (3))), (0, .ref (bs + (i)))]) C hl rfl dX1_init_112 (by decide) rfl (fun ls hl => ?_)
        refine lv_goto (tgt := 93) C.1 C.2.1 dX1_init_115 (by decide) ?_
        refine lv_iload_n C.1 C.2.1 dX1_init_93 rfl (lv_at hl 0 rfl) ?_
        refine zd_bipush C (by decide) dX1_init_94 ?_
        refine zd_icmp_ge C (by decide) (by decide) 118 dX1_init_96 (by decide) (fun c58 => ?_) (fun c58 => ?_)
        · exact absurd c58 (by decide)
        · refine lv_aload_n C.1 C.2.1 dX1_init_99 rfl (lv_at hl 1 rfl) ?_
          obtain ⟨o59, hF⟩ := hF
          refine zg1_9 C hH (by omega) (kT_0 (k := 1) (l := 0) hK (by decide +kernel)) q_413 o59 dX1_init_100 ?_
          refine lv_iload_n C.1 C.2.1 dX1_init_103 rfl (lv_at hl 0 rfl) ?_
          refine zd_newO C hH hS (ci := 5) rfl zin5 tyX5 tyX5_ok q_375 q_377 q_136 (kT_k (k := 5) (l := 0) hK 23 (by decide +kernel)) rfl zO5 (Nat.le_of_ble_eq_true rfl) (Nat.le_of_ble_eq_true rfl) dX1_init_104 (fun H hH hS => ?_)
          obtain ⟨X60, eX60⟩ : ∃ z, z = zZ X55 (i + 23) 0 := ⟨_, rfl⟩
          rw [← eX60] at hH
          have hF := hF X60 eX60 hH.2.2.1
          obtain ⟨Y61, eY61⟩ : ∃ z, z = zZ Y52 (i + 23) 0 := ⟨_, rfl⟩
          rw [← eY61] at hH
          have hF := hF Y61 eY61 hH.2.2.2
          obtain ⟨R62, eR62⟩ : ∃ z, z = zZ R57 (i + 23) none := ⟨_, rfl⟩
          rw [← eR62] at hH
          have hF := hF R62 eR62
          refine lv_dup C.1 C.2.1 dX1_init_107 rfl ?_
          obtain ⟨o63, hF⟩ := hF
          refine zgovG (zrunING (As := []) (rest := [.ref (bs + ((i + 23))), .int (zI (3)), .ref (bs + ((i + 14)))]) C hE hA hH hS hl.1 (c_X5_init (l := l) (kT_sub hK 23 tLedger (by decide +kernel))  o63) k_RX1_54 ⟨Nat.le_of_ble_eq_true rfl, Nat.le_of_ble_eq_true rfl⟩ rfl (Nat.le_of_ble_eq_true rfl) dX1_init_108 ⟨Nat.le_of_ble_eq_true rfl, Nat.le_of_ble_eq_true rfl⟩) hS (fun X64 Yq R65 H locs hq hH hS => ?_)
          obtain ⟨h9Y, hq⟩ := hq
          dsimp only at h9Y
          rw [h9Y] at hH
          have hF := hF X64 hH.2.2.1 R65 hq
          refine zd_aastr (k := 1) (ci := 5) C hH hS (by omega) (kT_k (k := 17) (l := 15) hK 14 (by decide +kernel)) (by omega) (kT_k (k := 5) (l := 0) hK 23 (by decide +kernel)) rfl rfl rfl (by decide) (by rw [(kT_l (k := 17) (l := 15) hK 14 (by decide +kernel))]; decide) (by rw [(kT_l (k := 17) (l := 15) hK 14 (by decide +kernel))]; decide) dX1_init_111 (fun H locs hH hS => ?_)
          obtain ⟨R66, eR66⟩ : ∃ z, z = zU R65 ((i + 14)) (3) (some ((i + 23))) := ⟨_, rfl⟩
          rw [← eR66] at hH
          have hF := hF R66 eR66
          refine zd_iinc (k := 0) (lv' := [(1, .int (zI (4))), (0, .ref (bs + (i)))]) C hl rfl dX1_init_112 (by decide) rfl (fun ls hl => ?_)
          refine lv_goto (tgt := 93) C.1 C.2.1 dX1_init_115 (by decide) ?_
          refine lv_iload_n C.1 C.2.1 dX1_init_93 rfl (lv_at hl 0 rfl) ?_
          refine zd_bipush C (by decide) dX1_init_94 ?_
          refine zd_icmp_ge C (by decide) (by decide) 118 dX1_init_96 (by decide) (fun c67 => ?_) (fun c67 => ?_)
          · exact absurd c67 (by decide)
          · refine lv_aload_n C.1 C.2.1 dX1_init_99 rfl (lv_at hl 1 rfl) ?_
            obtain ⟨o68, hF⟩ := hF
            refine zg1_9 C hH (by omega) (kT_0 (k := 1) (l := 0) hK (by decide +kernel)) q_413 o68 dX1_init_100 ?_
            refine lv_iload_n C.1 C.2.1 dX1_init_103 rfl (lv_at hl 0 rfl) ?_
            refine zd_newO C hH hS (ci := 5) rfl zin5 tyX5 tyX5_ok q_375 q_377 q_136 (kT_k (k := 5) (l := 0) hK 25 (by decide +kernel)) rfl zO5 (Nat.le_of_ble_eq_true rfl) (Nat.le_of_ble_eq_true rfl) dX1_init_104 (fun H hH hS => ?_)
            obtain ⟨X69, eX69⟩ : ∃ z, z = zZ X64 (i + 25) 0 := ⟨_, rfl⟩
            rw [← eX69] at hH
            have hF := hF X69 eX69 hH.2.2.1
            obtain ⟨Y70, eY70⟩ : ∃ z, z = zZ Y61 (i + 25) 0 := ⟨_, rfl⟩
            rw [← eY70] at hH
            have hF := hF Y70 eY70 hH.2.2.2
            obtain ⟨R71, eR71⟩ : ∃ z, z = zZ R66 (i + 25) none := ⟨_, rfl⟩
            rw [← eR71] at hH
            have hF := hF R71 eR71
            refine lv_dup C.1 C.2.1 dX1_init_107 rfl ?_
            obtain ⟨o72, hF⟩ := hF
            refine zgovG (zrunING (As := []) (rest := [.ref (bs + ((i + 25))), .int (zI (4)), .ref (bs + ((i + 14)))]) C hE hA hH hS hl.1 (c_X5_init (l := l) (kT_sub hK 25 tLedger (by decide +kernel))  o72) k_RX1_54 ⟨Nat.le_of_ble_eq_true rfl, Nat.le_of_ble_eq_true rfl⟩ rfl (Nat.le_of_ble_eq_true rfl) dX1_init_108 ⟨Nat.le_of_ble_eq_true rfl, Nat.le_of_ble_eq_true rfl⟩) hS (fun X73 Yq R74 H locs hq hH hS => ?_)
            obtain ⟨h9Y, hq⟩ := hq
            dsimp only at h9Y
            rw [h9Y] at hH
            have hF := hF X73 hH.2.2.1 R74 hq
            refine zd_aastr (k := 1) (ci := 5) C hH hS (by omega) (kT_k (k := 17) (l := 15) hK 14 (by decide +kernel)) (by omega) (kT_k (k := 5) (l := 0) hK 25 (by decide +kernel)) rfl rfl rfl (by decide) (by rw [(kT_l (k := 17) (l := 15) hK 14 (by decide +kernel))]; decide) (by rw [(kT_l (k := 17) (l := 15) hK 14 (by decide +kernel))]; decide) dX1_init_111 (fun H locs hH hS => ?_)
            obtain ⟨R75, eR75⟩ : ∃ z, z = zU R74 ((i + 14)) (4) (some ((i + 25))) := ⟨_, rfl⟩
            rw [← eR75] at hH
            have hF := hF R75 eR75
            refine zd_iinc (k := 0) (lv' := [(1, .int (zI (5))), (0, .ref (bs + (i)))]) C hl rfl dX1_init_112 (by decide) rfl (fun ls hl => ?_)
            refine lv_goto (tgt := 93) C.1 C.2.1 dX1_init_115 (by decide) ?_
            refine lv_iload_n C.1 C.2.1 dX1_init_93 rfl (lv_at hl 0 rfl) ?_
            refine zd_bipush C (by decide) dX1_init_94 ?_
            refine zd_icmp_ge C (by decide) (by decide) 118 dX1_init_96 (by decide) (fun c76 => ?_) (fun c76 => ?_)
            · exact absurd c76 (by decide)
            · refine lv_aload_n C.1 C.2.1 dX1_init_99 rfl (lv_at hl 1 rfl) ?_
              obtain ⟨o77, hF⟩ := hF
              refine zg1_9 C hH (by omega) (kT_0 (k := 1) (l := 0) hK (by decide +kernel)) q_413 o77 dX1_init_100 ?_
              refine lv_iload_n C.1 C.2.1 dX1_init_103 rfl (lv_at hl 0 rfl) ?_
              refine zd_newO C hH hS (ci := 5) rfl zin5 tyX5 tyX5_ok q_375 q_377 q_136 (kT_k (k := 5) (l := 0) hK 27 (by decide +kernel)) rfl zO5 (Nat.le_of_ble_eq_true rfl) (Nat.le_of_ble_eq_true rfl) dX1_init_104 (fun H hH hS => ?_)
              obtain ⟨X78, eX78⟩ : ∃ z, z = zZ X73 (i + 27) 0 := ⟨_, rfl⟩
              rw [← eX78] at hH
              have hF := hF X78 eX78 hH.2.2.1
              obtain ⟨Y79, eY79⟩ : ∃ z, z = zZ Y70 (i + 27) 0 := ⟨_, rfl⟩
              rw [← eY79] at hH
              have hF := hF Y79 eY79 hH.2.2.2
              obtain ⟨R80, eR80⟩ : ∃ z, z = zZ R75 (i + 27) none := ⟨_, rfl⟩
              rw [← eR80] at hH
              have hF := hF R80 eR80
              refine lv_dup C.1 C.2.1 dX1_init_107 rfl ?_
              obtain ⟨o81, hF⟩ := hF
              refine zgovG (zrunING (As := []) (rest := [.ref (bs + ((i + 27))), .int (zI (5)), .ref (bs + ((i + 14)))]) C hE hA hH hS hl.1 (c_X5_init (l := l) (kT_sub hK 27 tLedger (by decide +kernel))  o81) k_RX1_54 ⟨Nat.le_of_ble_eq_true rfl, Nat.le_of_ble_eq_true rfl⟩ rfl (Nat.le_of_ble_eq_true rfl) dX1_init_108 ⟨Nat.le_of_ble_eq_true rfl, Nat.le_of_ble_eq_true rfl⟩) hS (fun X82 Yq R83 H locs hq hH hS => ?_)
              obtain ⟨h9Y, hq⟩ := hq
              dsimp only at h9Y
              rw [h9Y] at hH
              have hF := hF X82 hH.2.2.1 R83 hq
              refine zd_aastr (k := 1) (ci := 5) C hH hS (by omega) (kT_k (k := 17) (l := 15) hK 14 (by decide +kernel)) (by omega) (kT_k (k := 5) (l := 0) hK 27 (by decide +kernel)) rfl rfl rfl (by decide) (by rw [(kT_l (k := 17) (l := 15) hK 14 (by decide +kernel))]; decide) (by rw [(kT_l (k := 17) (l := 15) hK 14 (by decide +kernel))]; decide) dX1_init_111 (fun H locs hH hS => ?_)
              obtain ⟨R84, eR84⟩ : ∃ z, z = zU R83 ((i + 14)) (5) (some ((i + 27))) := ⟨_, rfl⟩
              rw [← eR84] at hH
              have hF := hF R84 eR84
              refine zd_iinc (k := 0) (lv' := [(1, .int (zI (6))), (0, .ref (bs + (i)))]) C hl rfl dX1_init_112 (by decide) rfl (fun ls hl => ?_)
              refine lv_goto (tgt := 93) C.1 C.2.1 dX1_init_115 (by decide) ?_
              refine lv_iload_n C.1 C.2.1 dX1_init_93 rfl (lv_at hl 0 rfl) ?_
              refine zd_bipush C (by decide) dX1_init_94 ?_
              refine zd_icmp_ge C (by decide) (by decide) 118 dX1_init_96 (by decide) (fun c85 => ?_) (fun c85 => ?_)
              · exact absurd c85 (by decide)
              · refine lv_aload_n C.1 C.2.1 dX1_init_99 rfl (lv_at hl 1 rfl) ?_
                obtain ⟨o86, hF⟩ := hF
                refine zg1_9 C hH (by omega) (kT_0 (k := 1) (l := 0) hK (by decide +kernel)) q_413 o86 dX1_init_100 ?_
                refine lv_iload_n C.1 C.2.1 dX1_init_103 rfl (lv_at hl 0 rfl) ?_
                refine zd_newO C hH hS (ci := 5) rfl zin5 tyX5 tyX5_ok q_375 q_377 q_136 (kT_k (k := 5) (l := 0) hK 29 (by decide +kernel)) rfl zO5 (Nat.le_of_ble_eq_true rfl) (Nat.le_of_ble_eq_true rfl) dX1_init_104 (fun H hH hS => ?_)
                obtain ⟨X87, eX87⟩ : ∃ z, z = zZ X82 (i + 29) 0 := ⟨_, rfl⟩
                rw [← eX87] at hH
                have hF := hF X87 eX87 hH.2.2.1
                obtain ⟨Y88, eY88⟩ : ∃ z, z = zZ Y79 (i + 29) 0 := ⟨_, rfl⟩
                rw [← eY88] at hH
                have hF := hF Y88 eY88 hH.2.2.2
                obtain ⟨R89, eR89⟩ : ∃ z, z = zZ R84 (i + 29) none := ⟨_, rfl⟩
                rw [← eR89] at hH
                have hF := hF R89 eR89
                refine lv_dup C.1 C.2.1 dX1_init_107 rfl ?_
                obtain ⟨o90, hF⟩ := hF
                refine zgovG (zrunING (As := []) (rest := [.ref (bs + ((i + 29))), .int (zI (6)), .ref (bs + ((i + 14)))]) C hE hA hH hS hl.1 (c_X5_init (l := l) (kT_sub hK 29 tLedger (by decide +kernel))  o90) k_RX1_54 ⟨Nat.le_of_ble_eq_true rfl, Nat.le_of_ble_eq_true rfl⟩ rfl (Nat.le_of_ble_eq_true rfl) dX1_init_108 ⟨Nat.le_of_ble_eq_true rfl, Nat.le_of_ble_eq_true rfl⟩) hS (fun X91 Yq R92 H locs hq hH hS => ?_)
                obtain ⟨h9Y, hq⟩ := hq
                dsimp only at h9Y
                rw [h9Y] at hH
                have hF := hF X91 hH.2.2.1 R92 hq
                refine zd_aastr (k := 1) (ci := 5) C hH hS (by omega) (kT_k (k := 17) (l := 15) hK 14 (by decide +kernel)) (by omega) (kT_k (k := 5) (l := 0) hK 29 (by decide +kernel)) rfl rfl rfl (by decide) (by rw [(kT_l (k := 17) (l := 15) hK 14 (by decide +kernel))]; decide) (by rw [(kT_l (k := 17) (l := 15) hK 14 (by decide +kernel))]; decide) dX1_init_111 (fun H locs hH hS => ?_)
                obtain ⟨R93, eR93⟩ : ∃ z, z = zU R92 ((i + 14)) (6) (some ((i + 29))) := ⟨_, rfl⟩
                rw [← eR93] at hH
                have hF := hF R93 eR93
                refine zd_iinc (k := 0) (lv' := [(1, .int (zI (7))), (0, .ref (bs + (i)))]) C hl rfl dX1_init_112 (by decide) rfl (fun ls hl => ?_)
                refine lv_goto (tgt := 93) C.1 C.2.1 dX1_init_115 (by decide) ?_
                refine lv_iload_n C.1 C.2.1 dX1_init_93 rfl (lv_at hl 0 rfl) ?_
                refine zd_bipush C (by decide) dX1_init_94 ?_
                refine zd_icmp_ge C (by decide) (by decide) 118 dX1_init_96 (by decide) (fun c94 => ?_) (fun c94 => ?_)
                · exact absurd c94 (by decide)
                · refine lv_aload_n C.1 C.2.1 dX1_init_99 rfl (lv_at hl 1 rfl) ?_
                  obtain ⟨o95, hF⟩ := hF
                  refine zg1_9 C hH (by omega) (kT_0 (k := 1) (l := 0) hK (by decide +kernel)) q_413 o95 dX1_init_100 ?_
                  refine lv_iload_n C.1 C.2.1 dX1_init_103 rfl (lv_at hl 0 rfl) ?_
                  refine zd_newO C hH hS (ci := 5) rfl zin5 tyX5 tyX5_ok q_375 q_377 q_136 (kT_k (k := 5) (l := 0) hK 31 (by decide +kernel)) rfl zO5 (Nat.le_of_ble_eq_true rfl) (Nat.le_of_ble_eq_true rfl) dX1_init_104 (fun H hH hS => ?_)
                  obtain ⟨X96, eX96⟩ : ∃ z, z = zZ X91 (i + 31) 0 := ⟨_, rfl⟩
                  rw [← eX96] at hH
                  have hF := hF X96 eX96 hH.2.2.1
                  obtain ⟨Y97, eY97⟩ : ∃ z, z = zZ Y88 (i + 31) 0 := ⟨_, rfl⟩
                  rw [← eY97] at hH
                  have hF := hF Y97 eY97 hH.2.2.2
                  obtain ⟨R98, eR98⟩ : ∃ z, z = zZ R93 (i + 31) none := ⟨_, rfl⟩
                  rw [← eR98] at hH
                  have hF := hF R98 eR98
                  refine lv_dup C.1 C.2.1 dX1_init_107 rfl ?_
                  obtain ⟨o99, hF⟩ := hF
                  refine zgovG (zrunING (As := []) (rest := [.ref (bs + ((i + 31))), .int (zI (7)), .ref (bs + ((i + 14)))]) C hE hA hH hS hl.1 (c_X5_init (l := l) (kT_sub hK 31 tLedger (by decide +kernel))  o99) k_RX1_54 ⟨Nat.le_of_ble_eq_true rfl, Nat.le_of_ble_eq_true rfl⟩ rfl (Nat.le_of_ble_eq_true rfl) dX1_init_108 ⟨Nat.le_of_ble_eq_true rfl, Nat.le_of_ble_eq_true rfl⟩) hS (fun X100 Yq R101 H locs hq hH hS => ?_)
                  obtain ⟨h9Y, hq⟩ := hq
                  dsimp only at h9Y
                  rw [h9Y] at hH
                  have hF := hF X100 hH.2.2.1 R101 hq
                  refine zd_aastr (k := 1) (ci := 5) C hH hS (by omega) (kT_k (k := 17) (l := 15) hK 14 (by decide +kernel)) (by omega) (kT_k (k := 5) (l := 0) hK 31 (by decide +kernel)) rfl rfl rfl (by decide) (by rw [(kT_l (k := 17) (l := 15) hK 14 (by decide +kernel))]; decide) (by rw [(kT_l (k := 17) (l := 15) hK 14 (by decide +kernel))]; decide) dX1_init_111 (fun H locs hH hS => ?_)
                  obtain ⟨R102, eR102⟩ : ∃ z, z = zU R101 ((i + 14)) (7) (some ((i + 31))) := ⟨_, rfl⟩
                  rw [← eR102] at hH
                  have hF := hF R102 eR102
                  refine zd_iinc (k := 0) (lv' := [(1, .int (zI (8))), (0, .ref (bs + (i)))]) C hl rfl dX1_init_112 (by decide) rfl (fun ls hl => ?_)
                  refine lv_goto (tgt := 93) C.1 C.2.1 dX1_init_115 (by decide) ?_
                  refine lv_iload_n C.1 C.2.1 dX1_init_93 rfl (lv_at hl 0 rfl) ?_
                  refine zd_bipush C (by decide) dX1_init_94 ?_
                  refine zd_icmp_ge C (by decide) (by decide) 118 dX1_init_96 (by decide) (fun c103 => ?_) (fun c103 => ?_)
                  · exact absurd c103 (by decide)
                  · refine lv_aload_n C.1 C.2.1 dX1_init_99 rfl (lv_at hl 1 rfl) ?_
                    obtain ⟨o104, hF⟩ := hF
                    refine zg1_9 C hH (by omega) (kT_0 (k := 1) (l := 0) hK (by decide +kernel)) q_413 o104 dX1_init_100 ?_
                    refine lv_iload_n C.1 C.2.1 dX1_init_103 rfl (lv_at hl 0 rfl) ?_
                    refine zd_newO C hH hS (ci := 5) rfl zin5 tyX5 tyX5_ok q_375 q_377 q_136 (kT_k (k := 5) (l := 0) hK 33 (by decide +kernel)) rfl zO5 (Nat.le_of_ble_eq_true rfl) (Nat.le_of_ble_eq_true rfl) dX1_init_104 (fun H hH hS => ?_)
                    obtain ⟨X105, eX105⟩ : ∃ z, z = zZ X100 (i + 33) 0 := ⟨_, rfl⟩
                    rw [← eX105] at hH
                    have hF := hF X105 eX105 hH.2.2.1
                    obtain ⟨Y106, eY106⟩ : ∃ z, z = zZ Y97 (i + 33) 0 := ⟨_, rfl⟩
                    rw [← eY106] at hH
                    have hF := hF Y106 eY106 hH.2.2.2
                    obtain ⟨R107, eR107⟩ : ∃ z, z = zZ R102 (i + 33) none := ⟨_, rfl⟩
                    rw [← eR107] at hH
                    have hF := hF R107 eR107
                    refine lv_dup C.1 C.2.1 dX1_init_107 rfl ?_
                    obtain ⟨o108, hF⟩ := hF
                    refine zgovG (zrunING (As := []) (rest := [.ref (bs + ((i + 33))), .int (zI (8)), .ref (bs + ((i + 14)))]) C hE hA hH hS hl.1 (c_X5_init (l := l) (kT_sub hK 33 tLedger (by decide +kernel))  o108) k_RX1_54 ⟨Nat.le_of_ble_eq_true rfl, Nat.le_of_ble_eq_true rfl⟩ rfl (Nat.le_of_ble_eq_true rfl) dX1_init_108 ⟨Nat.le_of_ble_eq_true rfl, Nat.le_of_ble_eq_true rfl⟩) hS (fun X109 Yq R110 H locs hq hH hS => ?_)
                    obtain ⟨h9Y, hq⟩ := hq
                    dsimp only at h9Y
                    rw [h9Y] at hH
                    have hF := hF X109 hH.2.2.1 R110 hq
                    refine zd_aastr (k := 1) (ci := 5) C hH hS (by omega) (kT_k (k := 17) (l := 15) hK 14 (by decide +kernel)) (by omega) (kT_k (k := 5) (l := 0) hK 33 (by decide +kernel)) rfl rfl rfl (by decide) (by rw [(kT_l (k := 17) (l := 15) hK 14 (by decide +kernel))]; decide) (by rw [(kT_l (k := 17) (l := 15) hK 14 (by decide +kernel))]; decide) dX1_init_111 (fun H locs hH hS => ?_)
                    obtain ⟨R111, eR111⟩ : ∃ z, z = zU R110 ((i + 14)) (8) (some ((i + 33))) := ⟨_, rfl⟩
                    rw [← eR111] at hH
                    have hF := hF R111 eR111
                    refine zd_iinc (k := 0) (lv' := [(1, .int (zI (9))), (0, .ref (bs + (i)))]) C hl rfl dX1_init_112 (by decide) rfl (fun ls hl => ?_)
                    refine lv_goto (tgt := 93) C.1 C.2.1 dX1_init_115 (by decide) ?_
                    refine lv_iload_n C.1 C.2.1 dX1_init_93 rfl (lv_at hl 0 rfl) ?_
                    refine zd_bipush C (by decide) dX1_init_94 ?_
                    refine zd_icmp_ge C (by decide) (by decide) 118 dX1_init_96 (by decide) (fun c112 => ?_) (fun c112 => ?_)
                    · exact absurd c112 (by decide)
                    · refine lv_aload_n C.1 C.2.1 dX1_init_99 rfl (lv_at hl 1 rfl) ?_
                      obtain ⟨o113, hF⟩ := hF
                      refine zg1_9 C hH (by omega) (kT_0 (k := 1) (l := 0) hK (by decide +kernel)) q_413 o113 dX1_init_100 ?_
                      refine lv_iload_n C.1 C.2.1 dX1_init_103 rfl (lv_at hl 0 rfl) ?_
                      refine zd_newO C hH hS (ci := 5) rfl zin5 tyX5 tyX5_ok q_375 q_377 q_136 (kT_k (k := 5) (l := 0) hK 35 (by decide +kernel)) rfl zO5 (Nat.le_of_ble_eq_true rfl) (Nat.le_of_ble_eq_true rfl) dX1_init_104 (fun H hH hS => ?_)
                      obtain ⟨X114, eX114⟩ : ∃ z, z = zZ X109 (i + 35) 0 := ⟨_, rfl⟩
                      rw [← eX114] at hH
                      have hF := hF X114 eX114 hH.2.2.1
                      obtain ⟨Y115, eY115⟩ : ∃ z, z = zZ Y106 (i + 35) 0 := ⟨_, rfl⟩
                      rw [← eY115] at hH
                      have hF := hF Y115 eY115 hH.2.2.2
                      obtain ⟨R116, eR116⟩ : ∃ z, z = zZ R111 (i + 35) none := ⟨_, rfl⟩
                      rw [← eR116] at hH
                      have hF := hF R116 eR116
                      refine lv_dup C.1 C.2.1 dX1_init_107 rfl ?_
                      obtain ⟨o117, hF⟩ := hF
                      refine zgovG (zrunING (As := []) (rest := [.ref (bs + ((i + 35))), .int (zI (9)), .ref (bs + ((i + 14)))]) C hE hA hH hS hl.1 (c_X5_init (l := l) (kT_sub hK 35 tLedger (by decide +kernel))  o117) k_RX1_54 ⟨Nat.le_of_ble_eq_true rfl, Nat.le_of_ble_eq_true rfl⟩ rfl (Nat.le_of_ble_eq_true rfl) dX1_init_108 ⟨Nat.le_of_ble_eq_true rfl, Nat.le_of_ble_eq_true rfl⟩) hS (fun X118 Yq R119 H locs hq hH hS => ?_)
                      obtain ⟨h9Y, hq⟩ := hq
                      dsimp only at h9Y
                      rw [h9Y] at hH
                      have hF := hF X118 hH.2.2.1 R119 hq
                      refine zd_aastr (k := 1) (ci := 5) C hH hS (by omega) (kT_k (k := 17) (l := 15) hK 14 (by decide +kernel)) (by omega) (kT_k (k := 5) (l := 0) hK 35 (by decide +kernel)) rfl rfl rfl (by decide) (by rw [(kT_l (k := 17) (l := 15) hK 14 (by decide +kernel))]; decide) (by rw [(kT_l (k := 17) (l := 15) hK 14 (by decide +kernel))]; decide) dX1_init_111 (fun H locs hH hS => ?_)
                      obtain ⟨R120, eR120⟩ : ∃ z, z = zU R119 ((i + 14)) (9) (some ((i + 35))) := ⟨_, rfl⟩
                      rw [← eR120] at hH
                      have hF := hF R120 eR120
                      refine zd_iinc (k := 0) (lv' := [(1, .int (zI (10))), (0, .ref (bs + (i)))]) C hl rfl dX1_init_112 (by decide) rfl (fun ls hl => ?_)
                      refine lv_goto (tgt := 93) C.1 C.2.1 dX1_init_115 (by decide) ?_
                      refine lv_iload_n C.1 C.2.1 dX1_init_93 rfl (lv_at hl 0 rfl) ?_
                      refine zd_bipush C (by decide) dX1_init_94 ?_
                      refine zd_icmp_ge C (by decide) (by decide) 118 dX1_init_96 (by decide) (fun c121 => ?_) (fun c121 => ?_)
                      · exact absurd c121 (by decide)
                      · refine lv_aload_n C.1 C.2.1 dX1_init_99 rfl (lv_at hl 1 rfl) ?_
                        obtain ⟨o122, hF⟩ := hF
                        refine zg1_9 C hH (by omega) (kT_0 (k := 1) (l := 0) hK (by decide +kernel)) q_413 o122 dX1_init_100 ?_
                        refine lv_iload_n C.1 C.2.1 dX1_init_103 rfl (lv_at hl 0 rfl) ?_
                        refine zd_newO C hH hS (ci := 5) rfl zin5 tyX5 tyX5_ok q_375 q_377 q_136 (kT_k (k := 5) (l := 0) hK 37 (by decide +kernel)) rfl zO5 (Nat.le_of_ble_eq_true rfl) (Nat.le_of_ble_eq_true rfl) dX1_init_104 (fun H hH hS => ?_)
                        obtain ⟨X123, eX123⟩ : ∃ z, z = zZ X118 (i + 37) 0 := ⟨_, rfl⟩
                        rw [← eX123] at hH
                        have hF := hF X123 eX123 hH.2.2.1
                        obtain ⟨Y124, eY124⟩ : ∃ z, z = zZ Y115 (i + 37) 0 := ⟨_, rfl⟩
                        rw [← eY124] at hH
                        have hF := hF Y124 eY124 hH.2.2.2
                        obtain ⟨R125, eR125⟩ : ∃ z, z = zZ R120 (i + 37) none := ⟨_, rfl⟩
                        rw [← eR125] at hH
                        have hF := hF R125 eR125
                        refine lv_dup C.1 C.2.1 dX1_init_107 rfl ?_
                        obtain ⟨o126, hF⟩ := hF
                        refine zgovG (zrunING (As := []) (rest := [.ref (bs + ((i + 37))), .int (zI (10)), .ref (bs + ((i + 14)))]) C hE hA hH hS hl.1 (c_X5_init (l := l) (kT_sub hK 37 tLedger (by decide +kernel))  o126) k_RX1_54 ⟨Nat.le_of_ble_eq_true rfl, Nat.le_of_ble_eq_true rfl⟩ rfl (Nat.le_of_ble_eq_true rfl) dX1_init_108 ⟨Nat.le_of_ble_eq_true rfl, Nat.le_of_ble_eq_true rfl⟩) hS (fun X127 Yq R128 H locs hq hH hS => ?_)
                        obtain ⟨h9Y, hq⟩ := hq
                        dsimp only at h9Y
                        rw [h9Y] at hH
                        have hF := hF X127 hH.2.2.1 R128 hq
                        refine zd_aastr (k := 1) (ci := 5) C hH hS (by omega) (kT_k (k := 17) (l := 15) hK 14 (by decide +kernel)) (by omega) (kT_k (k := 5) (l := 0) hK 37 (by decide +kernel)) rfl rfl rfl (by decide) (by rw [(kT_l (k := 17) (l := 15) hK 14 (by decide +kernel))]; decide) (by rw [(kT_l (k := 17) (l := 15) hK 14 (by decide +kernel))]; decide) dX1_init_111 (fun H locs hH hS => ?_)
                        obtain ⟨R129, eR129⟩ : ∃ z, z = zU R128 ((i + 14)) (10) (some ((i + 37))) := ⟨_, rfl⟩
                        rw [← eR129] at hH
                        have hF := hF R129 eR129
                        refine zd_iinc (k := 0) (lv' := [(1, .int (zI (11))), (0, .ref (bs + (i)))]) C hl rfl dX1_init_112 (by decide) rfl (fun ls hl => ?_)
                        refine lv_goto (tgt := 93) C.1 C.2.1 dX1_init_115 (by decide) ?_
                        refine lv_iload_n C.1 C.2.1 dX1_init_93 rfl (lv_at hl 0 rfl) ?_
                        refine zd_bipush C (by decide) dX1_init_94 ?_
                        refine zd_icmp_ge C (by decide) (by decide) 118 dX1_init_96 (by decide) (fun c130 => ?_) (fun c130 => ?_)
                        · exact absurd c130 (by decide)
                        · refine lv_aload_n C.1 C.2.1 dX1_init_99 rfl (lv_at hl 1 rfl) ?_
                          obtain ⟨o131, hF⟩ := hF
                          refine zg1_9 C hH (by omega) (kT_0 (k := 1) (l := 0) hK (by decide +kernel)) q_413 o131 dX1_init_100 ?_
                          refine lv_iload_n C.1 C.2.1 dX1_init_103 rfl (lv_at hl 0 rfl) ?_
                          refine zd_newO C hH hS (ci := 5) rfl zin5 tyX5 tyX5_ok q_375 q_377 q_136 (kT_k (k := 5) (l := 0) hK 39 (by decide +kernel)) rfl zO5 (Nat.le_of_ble_eq_true rfl) (Nat.le_of_ble_eq_true rfl) dX1_init_104 (fun H hH hS => ?_)
                          obtain ⟨X132, eX132⟩ : ∃ z, z = zZ X127 (i + 39) 0 := ⟨_, rfl⟩
                          rw [← eX132] at hH
                          have hF := hF X132 eX132 hH.2.2.1
                          obtain ⟨Y133, eY133⟩ : ∃ z, z = zZ Y124 (i + 39) 0 := ⟨_, rfl⟩
                          rw [← eY133] at hH
                          have hF := hF Y133 eY133 hH.2.2.2
                          obtain ⟨R134, eR134⟩ : ∃ z, z = zZ R129 (i + 39) none := ⟨_, rfl⟩
                          rw [← eR134] at hH
                          have hF := hF R134 eR134
                          refine lv_dup C.1 C.2.1 dX1_init_107 rfl ?_
                          obtain ⟨o135, hF⟩ := hF
                          refine zgovG (zrunING (As := []) (rest := [.ref (bs + ((i + 39))), .int (zI (11)), .ref (bs + ((i + 14)))]) C hE hA hH hS hl.1 (c_X5_init (l := l) (kT_sub hK 39 tLedger (by decide +kernel))  o135) k_RX1_54 ⟨Nat.le_of_ble_eq_true rfl, Nat.le_of_ble_eq_true rfl⟩ rfl (Nat.le_of_ble_eq_true rfl) dX1_init_108 ⟨Nat.le_of_ble_eq_true rfl, Nat.le_of_ble_eq_true rfl⟩) hS (fun X136 Yq R137 H locs hq hH hS => ?_)
                          obtain ⟨h9Y, hq⟩ := hq
                          dsimp only at h9Y
                          rw [h9Y] at hH
                          have hF := hF X136 hH.2.2.1 R137 hq
                          refine zd_aastr (k := 1) (ci := 5) C hH hS (by omega) (kT_k (k := 17) (l := 15) hK 14 (by decide +kernel)) (by omega) (kT_k (k := 5) (l := 0) hK 39 (by decide +kernel)) rfl rfl rfl (by decide) (by rw [(kT_l (k := 17) (l := 15) hK 14 (by decide +kernel))]; decide) (by rw [(kT_l (k := 17) (l := 15) hK 14 (by decide +kernel))]; decide) dX1_init_111 (fun H locs hH hS => ?_)
                          obtain ⟨R138, eR138⟩ : ∃ z, z = zU R137 ((i + 14)) (11) (some ((i + 39))) := ⟨_, rfl⟩
                          rw [← eR138] at hH
                          have hF := hF R138 eR138
                          refine zd_iinc (k := 0) (lv' := [(1, .int (zI (12))), (0, .ref (bs + (i)))]) C hl rfl dX1_init_112 (by decide) rfl (fun ls hl => ?_)
                          refine lv_goto (tgt := 93) C.1 C.2.1 dX1_init_115 (by decide) ?_
                          refine lv_iload_n C.1 C.2.1 dX1_init_93 rfl (lv_at hl 0 rfl) ?_
                          refine zd_bipush C (by decide) dX1_init_94 ?_
                          refine zd_icmp_ge C (by decide) (by decide) 118 dX1_init_96 (by decide) (fun c139 => ?_) (fun c139 => ?_)
                          · exact absurd c139 (by decide)
                          · refine lv_aload_n C.1 C.2.1 dX1_init_99 rfl (lv_at hl 1 rfl) ?_
                            obtain ⟨o140, hF⟩ := hF
                            refine zg1_9 C hH (by omega) (kT_0 (k := 1) (l := 0) hK (by decide +kernel)) q_413 o140 dX1_init_100 ?_
                            refine lv_iload_n C.1 C.2.1 dX1_init_103 rfl (lv_at hl 0 rfl) ?_
                            refine zd_newO C hH hS (ci := 5) rfl zin5 tyX5 tyX5_ok q_375 q_377 q_136 (kT_k (k := 5) (l := 0) hK 41 (by decide +kernel)) rfl zO5 (Nat.le_of_ble_eq_true rfl) (Nat.le_of_ble_eq_true rfl) dX1_init_104 (fun H hH hS => ?_)
                            obtain ⟨X141, eX141⟩ : ∃ z, z = zZ X136 (i + 41) 0 := ⟨_, rfl⟩
                            rw [← eX141] at hH
                            have hF := hF X141 eX141 hH.2.2.1
                            obtain ⟨Y142, eY142⟩ : ∃ z, z = zZ Y133 (i + 41) 0 := ⟨_, rfl⟩
                            rw [← eY142] at hH
                            have hF := hF Y142 eY142 hH.2.2.2
                            obtain ⟨R143, eR143⟩ : ∃ z, z = zZ R138 (i + 41) none := ⟨_, rfl⟩
                            rw [← eR143] at hH
                            have hF := hF R143 eR143
                            refine lv_dup C.1 C.2.1 dX1_init_107 rfl ?_
                            obtain ⟨o144, hF⟩ := hF
                            refine zgovG (zrunING (As := []) (rest := [.ref (bs + ((i + 41))), .int (zI (12)), .ref (bs + ((i + 14)))]) C hE hA hH hS hl.1 (c_X5_init (l := l) (kT_sub hK 41 tLedger (by decide +kernel))  o144) k_RX1_54 ⟨Nat.le_of_ble_eq_true rfl, Nat.le_of_ble_eq_true rfl⟩ rfl (Nat.le_of_ble_eq_true rfl) dX1_init_108 ⟨Nat.le_of_ble_eq_true rfl, Nat.le_of_ble_eq_true rfl⟩) hS (fun X145 Yq R146 H locs hq hH hS => ?_)
                            obtain ⟨h9Y, hq⟩ := hq
                            dsimp only at h9Y
                            rw [h9Y] at hH
                            have hF := hF X145 hH.2.2.1 R146 hq
                            refine zd_aastr (k := 1) (ci := 5) C hH hS (by omega) (kT_k (k := 17) (l := 15) hK 14 (by decide +kernel)) (by omega) (kT_k (k := 5) (l := 0) hK 41 (by decide +kernel)) rfl rfl rfl (by decide) (by rw [(kT_l (k := 17) (l := 15) hK 14 (by decide +kernel))]; decide) (by rw [(kT_l (k := 17) (l := 15) hK 14 (by decide +kernel))]; decide) dX1_init_111 (fun H locs hH hS => ?_)
                            obtain ⟨R147, eR147⟩ : ∃ z, z = zU R146 ((i + 14)) (12) (some ((i + 41))) := ⟨_, rfl⟩
                            rw [← eR147] at hH
                            have hF := hF R147 eR147
                            refine zd_iinc (k := 0) (lv' := [(1, .int (zI (13))), (0, .ref (bs + (i)))]) C hl rfl dX1_init_112 (by decide) rfl (fun ls hl => ?_)
                            refine lv_goto (tgt := 93) C.1 C.2.1 dX1_init_115 (by decide) ?_
                            refine lv_iload_n C.1 C.2.1 dX1_init_93 rfl (lv_at hl 0 rfl) ?_
                            refine zd_bipush C (by decide) dX1_init_94 ?_
                            refine zd_icmp_ge C (by decide) (by decide) 118 dX1_init_96 (by decide) (fun c148 => ?_) (fun c148 => ?_)
                            · exact absurd c148 (by decide)
                            · refine lv_aload_n C.1 C.2.1 dX1_init_99 rfl (lv_at hl 1 rfl) ?_
                              obtain ⟨o149, hF⟩ := hF
                              refine zg1_9 C hH (by omega) (kT_0 (k := 1) (l := 0) hK (by decide +kernel)) q_413 o149 dX1_init_100 ?_
                              refine lv_iload_n C.1 C.2.1 dX1_init_103 rfl (lv_at hl 0 rfl) ?_
                              refine zd_newO C hH hS (ci := 5) rfl zin5 tyX5 tyX5_ok q_375 q_377 q_136 (kT_k (k := 5) (l := 0) hK 43 (by decide +kernel)) rfl zO5 (Nat.le_of_ble_eq_true rfl) (Nat.le_of_ble_eq_true rfl) dX1_init_104 (fun H hH hS => ?_)
                              obtain ⟨X150, eX150⟩ : ∃ z, z = zZ X145 (i + 43) 0 := ⟨_, rfl⟩
                              rw [← eX150] at hH
                              have hF := hF X150 eX150 hH.2.2.1
                              obtain ⟨Y151, eY151⟩ : ∃ z, z = zZ Y142 (i + 43) 0 := ⟨_, rfl⟩
                              rw [← eY151] at hH
                              have hF := hF Y151 eY151 hH.2.2.2
                              obtain ⟨R152, eR152⟩ : ∃ z, z = zZ R147 (i + 43) none := ⟨_, rfl⟩
                              rw [← eR152] at hH
                              have hF := hF R152 eR152
                              refine lv_dup C.1 C.2.1 dX1_init_107 rfl ?_
                              obtain ⟨o153, hF⟩ := hF
                              refine zgovG (zrunING (As := []) (rest := [.ref (bs + ((i + 43))), .int (zI (13)), .ref (bs + ((i + 14)))]) C hE hA hH hS hl.1 (c_X5_init (l := l) (kT_sub hK 43 tLedger (by decide +kernel))  o153) k_RX1_54 ⟨Nat.le_of_ble_eq_true rfl, Nat.le_of_ble_eq_true rfl⟩ rfl (Nat.le_of_ble_eq_true rfl) dX1_init_108 ⟨Nat.le_of_ble_eq_true rfl, Nat.le_of_ble_eq_true rfl⟩) hS (fun X154 Yq R155 H locs hq hH hS => ?_)
                              obtain ⟨h9Y, hq⟩ := hq
                              dsimp only at h9Y
                              rw [h9Y] at hH
                              have hF := hF X154 hH.2.2.1 R155 hq
                              refine zd_aastr (k := 1) (ci := 5) C hH hS (by omega) (kT_k (k := 17) (l := 15) hK 14 (by decide +kernel)) (by omega) (kT_k (k := 5) (l := 0) hK 43 (by decide +kernel)) rfl rfl rfl (by decide) (by rw [(kT_l (k := 17) (l := 15) hK 14 (by decide +kernel))]; decide) (by rw [(kT_l (k := 17) (l := 15) hK 14 (by decide +kernel))]; decide) dX1_init_111 (fun H locs hH hS => ?_)
                              obtain ⟨R156, eR156⟩ : ∃ z, z = zU R155 ((i + 14)) (13) (some ((i + 43))) := ⟨_, rfl⟩
                              rw [← eR156] at hH
                              have hF := hF R156 eR156
                              refine zd_iinc (k := 0) (lv' := [(1, .int (zI (14))), (0, .ref (bs + (i)))]) C hl rfl dX1_init_112 (by decide) rfl (fun ls hl => ?_)
                              refine lv_goto (tgt := 93) C.1 C.2.1 dX1_init_115 (by decide) ?_
                              refine lv_iload_n C.1 C.2.1 dX1_init_93 rfl (lv_at hl 0 rfl) ?_
                              refine zd_bipush C (by decide) dX1_init_94 ?_
                              refine zd_icmp_ge C (by decide) (by decide) 118 dX1_init_96 (by decide) (fun c157 => ?_) (fun c157 => ?_)
                              · exact absurd c157 (by decide)
                              · refine lv_aload_n C.1 C.2.1 dX1_init_99 rfl (lv_at hl 1 rfl) ?_
                                obtain ⟨o158, hF⟩ := hF
                                refine zg1_9 C hH (by omega) (kT_0 (k := 1) (l := 0) hK (by decide +kernel)) q_413 o158 dX1_init_100 ?_
                                refine lv_iload_n C.1 C.2.1 dX1_init_103 rfl (lv_at hl 0 rfl) ?_
                                refine zd_newO C hH hS (ci := 5) rfl zin5 tyX5 tyX5_ok q_375 q_377 q_136 (kT_k (k := 5) (l := 0) hK 45 (by decide +kernel)) rfl zO5 (Nat.le_of_ble_eq_true rfl) (Nat.le_of_ble_eq_true rfl) dX1_init_104 (fun H hH hS => ?_)
                                obtain ⟨X159, eX159⟩ : ∃ z, z = zZ X154 (i + 45) 0 := ⟨_, rfl⟩
                                rw [← eX159] at hH
                                have hF := hF X159 eX159 hH.2.2.1
                                obtain ⟨Y160, eY160⟩ : ∃ z, z = zZ Y151 (i + 45) 0 := ⟨_, rfl⟩
                                rw [← eY160] at hH
                                have hF := hF Y160 eY160 hH.2.2.2
                                obtain ⟨R161, eR161⟩ : ∃ z, z = zZ R156 (i + 45) none := ⟨_, rfl⟩
                                rw [← eR161] at hH
                                have hF := hF R161 eR161
                                refine lv_dup C.1 C.2.1 dX1_init_107 rfl ?_
                                obtain ⟨o162, hF⟩ := hF
                                refine zgovG (zrunING (As := []) (rest := [.ref (bs + ((i + 45))), .int (zI (14)), .ref (bs + ((i + 14)))]) C hE hA hH hS hl.1 (c_X5_init (l := l) (kT_sub hK 45 tLedger (by decide +kernel))  o162) k_RX1_54 ⟨Nat.le_of_ble_eq_true rfl, Nat.le_of_ble_eq_true rfl⟩ rfl (Nat.le_of_ble_eq_true rfl) dX1_init_108 ⟨Nat.le_of_ble_eq_true rfl, Nat.le_of_ble_eq_true rfl⟩) hS (fun X163 Yq R164 H locs hq hH hS => ?_)
                                obtain ⟨h9Y, hq⟩ := hq
                                dsimp only at h9Y
                                rw [h9Y] at hH
                                have hF := hF X163 hH.2.2.1 R164 hq
                                refine zd_aastr (k := 1) (ci := 5) C hH hS (by omega) (kT_k (k := 17) (l := 15) hK 14 (by decide +kernel)) (by omega) (kT_k (k := 5) (l := 0) hK 45 (by decide +kernel)) rfl rfl rfl (by decide) (by rw [(kT_l (k := 17) (l := 15) hK 14 (by decide +kernel))]; decide) (by rw [(kT_l (k := 17) (l := 15) hK 14 (by decide +kernel))]; decide) dX1_init_111 (fun H locs hH hS => ?_)
                                obtain ⟨R165, eR165⟩ : ∃ z, z = zU R164 ((i + 14)) (14) (some ((i + 45))) := ⟨_, rfl⟩
                                rw [← eR165] at hH
                                have hF := hF R165 eR165
                                refine zd_iinc (k := 0) (lv' := [(1, .int (zI (15))), (0, .ref (bs + (i)))]) C hl rfl dX1_init_112 (by decide) rfl (fun ls hl => ?_)
                                refine lv_goto (tgt := 93) C.1 C.2.1 dX1_init_115 (by decide) ?_
                                refine lv_iload_n C.1 C.2.1 dX1_init_93 rfl (lv_at hl 0 rfl) ?_
                                refine zd_bipush C (by decide) dX1_init_94 ?_
                                refine zd_icmp_ge C (by decide) (by decide) 118 dX1_init_96 (by decide) (fun c166 => ?_) (fun c166 => ?_)
                                · refine W_raise (cells := 46) (slots := 455) (Nat.le_of_ble_eq_true rfl) (Nat.le_of_ble_eq_true rfl) ?_
                                  exact zd_vretG C hr hlk hH hS (hF) dX1_init_118
                                · exact absurd (by decide) c166
set_option maxHeartbeats 8000000 in
set_option maxRecDepth 100000 in
theorem v_X1_init {X Y : Nat → Int → Int} {R : Nat → Int → Option Nat} {i : Nat}  (hp : X i = fun _ => 0) : F_X1_init i X Y R  := by
  unfold F_X1_init
  intro hX hY
  intro X1
  intro eX1
  intro rX1
  intro Y2
  intro eY2
  intro rY2
  intro R3
  intro eR3
  refine ⟨?_, ?_⟩
  · rw [eX1]; exact zZ_s
  intro X5
  intro rX5
  intro R6
  intro h1
  intro R7
  intro eR7
  intro X8
  intro eX8
  intro rX8
  intro Y9
  intro eY9
  intro rY9
  intro R10
  intro eR10
  refine ⟨?_, ?_⟩
  · rw [eX8]; exact zZ_s
  intro X12
  intro rX12
  intro R13
  intro h2
  intro R14
  intro eR14
  intro X15
  intro eX15
  intro rX15
  intro R16
  intro eR16
  intro X17
  intro eX17
  intro rX17
  intro R18
  intro eR18
  intro X19
  intro eX19
  intro rX19
  intro R20
  intro eR20
  intro Y21
  intro eY21
  intro rY21
  intro R22
  intro eR22
  intro Y23
  intro eY23
  intro rY23
  intro R24
  intro eR24
  intro R25
  intro eR25
  intro R26
  intro eR26
  intro Y27
  intro eY27
  intro rY27
  intro R28
  intro eR28
  intro X29
  intro eX29
  intro rX29
  intro R30
  intro eR30
  refine ⟨?_, ?_⟩
  · rw [eR30, zU_n (by omega), eR28, zU_n (by omega), eR26]; exact zU_s
  intro X33
  intro eX33
  intro rX33
  intro Y34
  intro eY34
  intro rY34
  intro R35
  intro eR35
  refine ⟨?_, ?_⟩
  · rw [eX33]; exact zZ_s
  intro X37
  intro rX37
  intro R38
  intro h3
  intro R39
  intro eR39
  refine ⟨?_, ?_⟩
  · rw [eR39, zU_n (by omega), h3.2.1 (i) (by omega), eR35, zZ_o (by omega), eR30, zU_n (by omega), eR28, zU_n (by omega), eR26]; exact zU_s
  intro X42
  intro eX42
  intro rX42
  intro Y43
  intro eY43
  intro rY43
  intro R44
  intro eR44
  refine ⟨?_, ?_⟩
  · rw [eX42]; exact zZ_s
  intro X46
  intro rX46
  intro R47
  intro h4
  intro R48
  intro eR48
  refine ⟨?_, ?_⟩
  · rw [eR48, zU_n (by omega), h4.2.1 (i) (by omega), eR44, zZ_o (by omega), eR39, zU_n (by omega), h3.2.1 (i) (by omega), eR35, zZ_o (by omega), eR30, zU_n (by omega), eR28, zU_n (by omega), eR26]; exact zU_s
  intro X51
  intro eX51
  intro rX51
  intro Y52
  intro eY52
  intro rY52
  intro R53
  intro eR53
  refine ⟨?_, ?_⟩
  · rw [eX51]; exact zZ_s
  intro X55
  intro rX55
  intro R56
  intro h5
  intro R57
  intro eR57
  refine ⟨?_, ?_⟩
  · rw [eR57, zU_n (by omega), h5.2.1 (i) (by omega), eR53, zZ_o (by omega), eR48, zU_n (by omega), h4.2.1 (i) (by omega), eR44, zZ_o (by omega), eR39, zU_n (by omega), h3.2.1 (i) (by omega), eR35, zZ_o (by omega), eR30, zU_n (by omega), eR28, zU_n (by omega), eR26]; exact zU_s
  intro X60
  intro eX60
  intro rX60
  intro Y61
  intro eY61
  intro rY61
  intro R62
  intro eR62
  refine ⟨?_, ?_⟩
  · rw [eX60]; exact zZ_s
  intro X64
  intro rX64
  intro R65
  intro h6
  intro R66
  intro eR66
  refine ⟨?_, ?_⟩
  · rw [eR66, zU_n (by omega), h6.2.1 (i) (by omega), eR62, zZ_o (by omega), eR57, zU_n (by omega), h5.2.1 (i) (by omega), eR53, zZ_o (by omega), eR48, zU_n (by omega), h4.2.1 (i) (by omega), eR44, zZ_o (by omega), eR39, zU_n (by omega), h3.2.1 (i) (by omega), eR35, zZ_o (by omega), eR30, zU_n (by omega), eR28, zU_n (by omega), eR26]; exact zU_s
  intro X69
  intro eX69
  intro rX69
  intro Y70
  intro eY70
  intro rY70
  intro R71
  intro eR71
  refine ⟨?_, ?_⟩
  · rw [eX69]; exact zZ_s
  intro X73
  intro rX73
  intro R74
  intro h7
  intro R75
  intro eR75
  refine ⟨?_, ?_⟩
  · rw [eR75, zU_n (by omega), h7.2.1 (i) (by omega), eR71, zZ_o (by omega), eR66, zU_n (by omega), h6.2.1 (i) (by omega), eR62, zZ_o (by omega), eR57, zU_n (by omega), h5.2.1 (i) (by omega), eR53, zZ_o (by omega), eR48, zU_n (by omega), h4.2.1 (i) (by omega), eR44, zZ_o (by omega), eR39, zU_n (by omega), h3.2.1 (i) (by omega), eR35, zZ_o (by omega), eR30, zU_n (by omega), eR28, zU_n (by omega), eR26]; exact zU_s
  intro X78
  intro eX78
  intro rX78
  intro Y79
  intro eY79
  intro rY79
  intro R80
  intro eR80
  refine ⟨?_, ?_⟩
  · rw [eX78]; exact zZ_s
  intro X82
  intro rX82
  intro R83
  intro h8
  intro R84
  intro eR84
  refine ⟨?_, ?_⟩
  · rw [eR84, zU_n (by omega), h8.2.1 (i) (by omega), eR80, zZ_o (by omega), eR75, zU_n (by omega), h7.2.1 (i) (by omega), eR71, zZ_o (by omega), eR66, zU_n (by omega), h6.2.1 (i) (by omega), eR62, zZ_o (by omega), eR57, zU_n (by omega), h5.2.1 (i) (by omega), eR53, zZ_o (by omega), eR48, zU_n (by omega), h4.2.1 (i) (by omega), eR44, zZ_o (by omega), eR39, zU_n (by omega), h3.2.1 (i) (by omega), eR35, zZ_o (by omega), eR30, zU_n (by omega), eR28, zU_n (by omega), eR26]; exact zU_s
  intro X87
  intro eX87
  intro rX87
  intro Y88
  intro eY88
  intro rY88
  intro R89
  intro eR89
  refine ⟨?_, ?_⟩
  · rw [eX87]; exact zZ_s
  intro X91
  intro rX91
  intro R92
  intro h9
  intro R93
  intro eR93
  refine ⟨?_, ?_⟩
  · rw [eR93, zU_n (by omega), h9.2.1 (i) (by omega), eR89, zZ_o (by omega), eR84, zU_n (by omega), h8.2.1 (i) (by omega), eR80, zZ_o (by omega), eR75, zU_n (by omega), h7.2.1 (i) (by omega), eR71, zZ_o (by omega), eR66, zU_n (by omega), h6.2.1 (i) (by omega), eR62, zZ_o (by omega), eR57, zU_n (by omega), h5.2.1 (i) (by omega), eR53, zZ_o (by omega), eR48, zU_n (by omega), h4.2.1 (i) (by omega), eR44, zZ_o (by omega), eR39, zU_n (by omega), h3.2.1 (i) (by omega), eR35, zZ_o (by omega), eR30, zU_n (by omega), eR28, zU_n (by omega), eR26]; exact zU_s
  intro X96
  intro eX96
  intro rX96
  intro Y97
  intro eY97
  intro rY97
  intro R98
  intro eR98
  refine ⟨?_, ?_⟩
  · rw [eX96]; exact zZ_s
  intro X100
  intro rX100
  intro R101
  intro h10
  intro R102
  intro eR102
  refine ⟨?_, ?_⟩
  · rw [eR102, zU_n (by omega), h10.2.1 (i) (by omega), eR98, zZ_o (by omega), eR93, zU_n (by omega), h9.2.1 (i) (by omega), eR89, zZ_o (by omega), eR84, zU_n (by omega), h8.2.1 (i) (by omega), eR80, zZ_o (by omega), eR75, zU_n (by omega), h7.2.1 (i) (by omega), eR71, zZ_o (by omega), eR66, zU_n (by omega), h6.2.1 (i) (by omega), eR62, zZ_o (by omega), eR57, zU_n (by omega), h5.2.1 (i) (by omega), eR53, zZ_o (by omega), eR48, zU_n (by omega), h4.2.1 (i) (by omega), eR44, zZ_o (by omega), eR39, zU_n (by omega), h3.2.1 (i) (by omega), eR35, zZ_o (by omega), eR30, zU_n (by omega), eR28, zU_n (by omega), eR26]; exact zU_s
  intro X105
  intro eX105
  intro rX105
  intro Y106
  intro eY106
  intro rY106
  intro R107
  intro eR107
  refine ⟨?_, ?_⟩
  · rw [eX105]; exact zZ_s
  intro X109
  intro rX109
  intro R110
  intro h11
  intro R111
  intro eR111
  refine ⟨?_, ?_⟩
  · rw [eR111, zU_n (by omega), h11.2.1 (i) (by omega), eR107, zZ_o (by omega), eR102, zU_n (by omega), h10.2.1 (i) (by omega), eR98, zZ_o (by omega), eR93, zU_n (by omega), h9.2.1 (i) (by omega), eR89, zZ_o (by omega), eR84, zU_n (by omega), h8.2.1 (i) (by omega), eR80, zZ_o (by omega), eR75, zU_n (by omega), h7.2.1 (i) (by omega), eR71, zZ_o (by omega), eR66, zU_n (by omega), h6.2.1 (i) (by omega), eR62, zZ_o (by omega), eR57, zU_n (by omega), h5.2.1 (i) (by omega), eR53, zZ_o (by omega), eR48, zU_n (by omega), h4.2.1 (i) (by omega), eR44, zZ_o (by omega), eR39, zU_n (by omega), h3.2.1 (i) (by omega), eR35, zZ_o (by omega), eR30, zU_n (by omega), eR28, zU_n (by omega), eR26]; exact zU_s
  intro X114
  intro eX114
  intro rX114
  intro Y115
  intro eY115
  intro rY115
  intro R116
  intro eR116
  refine ⟨?_, ?_⟩
  · rw [eX114]; exact zZ_s
  intro X118
  intro rX118
  intro R119
  intro h12
  intro R120
  intro eR120
  refine ⟨?_, ?_⟩
  · rw [eR120, zU_n (by omega), h12.2.1 (i) (by omega), eR116, zZ_o (by omega), eR111, zU_n (by omega), h11.2.1 (i) (by omega), eR107, zZ_o (by omega), eR102, zU_n (by omega), h10.2.1 (i) (by omega), eR98, zZ_o (by omega), eR93, zU_n (by omega), h9.2.1 (i) (by omega), eR89, zZ_o (by omega), eR84, zU_n (by omega), h8.2.1 (i) (by omega), eR80, zZ_o (by omega), eR75, zU_n (by omega), h7.2.1 (i) (by omega), eR71, zZ_o (by omega), eR66, zU_n (by omega), h6.2.1 (i) (by omega), eR62, zZ_o (by omega), eR57, zU_n (by omega), h5.2.1 (i) (by omega), eR53, zZ_o (by omega), eR48, zU_n (by omega), h4.2.1 (i) (by omega), eR44, zZ_o (by omega), eR39, zU_n (by omega), h3.2.1 (i) (by omega), eR35, zZ_o (by omega), eR30, zU_n (by omega), eR28, zU_n (by omega), eR26]; exact zU_s
  intro X123
  intro eX123
  intro rX123
  intro Y124
  intro eY124
  intro rY124
  intro R125
  intro eR125
  refine ⟨?_, ?_⟩
  · rw [eX123]; exact zZ_s
  intro X127
  intro rX127
  intro R128
  intro h13
  intro R129
  intro eR129
  refine ⟨?_, ?_⟩
  · rw [eR129, zU_n (by omega), h13.2.1 (i) (by omega), eR125, zZ_o (by omega), eR120, zU_n (by omega), h12.2.1 (i) (by omega), eR116, zZ_o (by omega), eR111, zU_n (by omega), h11.2.1 (i) (by omega), eR107, zZ_o (by omega), eR102, zU_n (by omega), h10.2.1 (i) (by omega), eR98, zZ_o (by omega), eR93, zU_n (by omega), h9.2.1 (i) (by omega), eR89, zZ_o (by omega), eR84, zU_n (by omega), h8.2.1 (i) (by omega), eR80, zZ_o (by omega), eR75, zU_n (by omega), h7.2.1 (i) (by omega), eR71, zZ_o (by omega), eR66, zU_n (by omega), h6.2.1 (i) (by omega), eR62, zZ_o (by omega), eR57, zU_n (by omega), h5.2.1 (i) (by omega), eR53, zZ_o (by omega), eR48, zU_n (by omega), h4.2.1 (i) (by omega), eR44, zZ_o (by omega), eR39, zU_n (by omega), h3.2.1 (i) (by omega), eR35, zZ_o (by omega), eR30, zU_n (by omega), eR28, zU_n (by omega), eR26]; exact zU_s
  intro X132
  intro eX132
  intro rX132
  intro Y133
  intro eY133
  intro rY133
  intro R134
  intro eR134
  refine ⟨?_, ?_⟩
  · rw [eX132]; exact zZ_s
  intro X136
  intro rX136
  intro R137
  intro h14
  intro R138
  intro eR138
  refine ⟨?_, ?_⟩
  · rw [eR138, zU_n (by omega), h14.2.1 (i) (by omega), eR134, zZ_o (by omega), eR129, zU_n (by omega), h13.2.1 (i) (by omega), eR125, zZ_o (by omega), eR120, zU_n (by omega), h12.2.1 (i) (by omega), eR116, zZ_o (by omega), eR111, zU_n (by omega), h11.2.1 (i) (by omega), eR107, zZ_o (by omega), eR102, zU_n (by omega), h10.2.1 (i) (by omega), eR98, zZ_o (by omega), eR93, zU_n (by omega), h9.2.1 (i) (by omega), eR89, zZ_o (by omega), eR84, zU_n (by omega), h8.2.1 (i) (by omega), eR80, zZ_o (by omega), eR75, zU_n (by omega), h7.2.1 (i) (by omega), eR71, zZ_o (by omega), eR66, zU_n (by omega), h6.2.1 (i) (by omega), eR62, zZ_o (by omega), eR57, zU_n (by omega), h5.2.1 (i) (by omega), eR53, zZ_o (by omega), eR48, zU_n (by omega), h4.2.1 (i) (by omega), eR44, zZ_o (by omega), eR39, zU_n (by omega), h3.2.1 (i) (by omega), eR35, zZ_o (by omega), eR30, zU_n (by omega), eR28, zU_n (by omega), eR26]; exact zU_s
  intro X141
  intro eX141
  intro rX141
  intro Y142
  intro eY142
  intro rY142
  intro R143
  intro eR143
  refine ⟨?_, ?_⟩
  · rw [eX141]; exact zZ_s
  intro X145
  intro rX145
  intro R146
  intro h15
  intro R147
  intro eR147
  refine ⟨?_, ?_⟩
  · rw [eR147, zU_n (by omega), h15.2.1 (i) (by omega), eR143, zZ_o (by omega), eR138, zU_n (by omega), h14.2.1 (i) (by omega), eR134, zZ_o (by omega), eR129, zU_n (by omega), h13.2.1 (i) (by omega), eR125, zZ_o (by omega), eR120, zU_n (by omega), h12.2.1 (i) (by omega), eR116, zZ_o (by omega), eR111, zU_n (by omega), h11.2.1 (i) (by omega), eR107, zZ_o (by omega), eR102, zU_n (by omega), h10.2.1 (i) (by omega), eR98, zZ_o (by omega), eR93, zU_n (by omega), h9.2.1 (i) (by omega), eR89, zZ_o (by omega), eR84, zU_n (by omega), h8.2.1 (i) (by omega), eR80, zZ_o (by omega), eR75, zU_n (by omega), h7.2.1 (i) (by omega), eR71, zZ_o (by omega), eR66, zU_n (by omega), h6.2.1 (i) (by omega), eR62, zZ_o (by omega), eR57, zU_n (by omega), h5.2.1 (i) (by omega), eR53, zZ_o (by omega), eR48, zU_n (by omega), h4.2.1 (i) (by omega), eR44, zZ_o (by omega), eR39, zU_n (by omega), h3.2.1 (i) (by omega), eR35, zZ_o (by omega), eR30, zU_n (by omega), eR28, zU_n (by omega), eR26]; exact zU_s
  intro X150
  intro eX150
  intro rX150
  intro Y151
  intro eY151
  intro rY151
  intro R152
  intro eR152
  refine ⟨?_, ?_⟩
  · rw [eX150]; exact zZ_s
  intro X154
  intro rX154
  intro R155
  intro h16
  intro R156
  intro eR156
  refine ⟨?_, ?_⟩
  · rw [eR156, zU_n (by omega), h16.2.1 (i) (by omega), eR152, zZ_o (by omega), eR147, zU_n (by omega), h15.2.1 (i) (by omega), eR143, zZ_o (by omega), eR138, zU_n (by omega), h14.2.1 (i) (by omega), eR134, zZ_o (by omega), eR129, zU_n (by omega), h13.2.1 (i) (by omega), eR125, zZ_o (by omega), eR120, zU_n (by omega), h12.2.1 (i) (by omega), eR116, zZ_o (by omega), eR111, zU_n (by omega), h11.2.1 (i) (by omega), eR107, zZ_o (by omega), eR102, zU_n (by omega), h10.2.1 (i) (by omega), eR98, zZ_o (by omega), eR93, zU_n (by omega), h9.2.1 (i) (by omega), eR89, zZ_o (by omega), eR84, zU_n (by omega), h8.2.1 (i) (by omega), eR80, zZ_o (by omega), eR75, zU_n (by omega), h7.2.1 (i) (by omega), eR71, zZ_o (by omega), eR66, zU_n (by omega), h6.2.1 (i) (by omega), eR62, zZ_o (by omega), eR57, zU_n (by omega), h5.2.1 (i) (by omega), eR53, zZ_o (by omega), eR48, zU_n (by omega), h4.2.1 (i) (by omega), eR44, zZ_o (by omega), eR39, zU_n (by omega), h3.2.1 (i) (by omega), eR35, zZ_o (by omega), eR30, zU_n (by omega), eR28, zU_n (by omega), eR26]; exact zU_s
  intro X159
  intro eX159
  intro rX159
  intro Y160
  intro eY160
  intro rY160
  intro R161
  intro eR161
  refine ⟨?_, ?_⟩
  · rw [eX159]; exact zZ_s
  intro X163
  intro rX163
  intro R164
  intro h17
  intro R165
  intro eR165
  have l0 : R165 (i + 14) 0 = some (i + 17) ∧ eLd R165 (i + 17) := ⟨by rw [eR165, zU_n (by omega), h17.2.1 (i + 14) (by omega), eR161, zZ_o (by omega), eR156, zU_n (by omega), h16.2.1 (i + 14) (by omega), eR152, zZ_o (by omega), eR147, zU_n (by omega), h15.2.1 (i + 14) (by omega), eR143, zZ_o (by omega), eR138, zU_n (by omega), h14.2.1 (i + 14) (by omega), eR134, zZ_o (by omega), eR129, zU_n (by omega), h13.2.1 (i + 14) (by omega), eR125, zZ_o (by omega), eR120, zU_n (by omega), h12.2.1 (i + 14) (by omega), eR116, zZ_o (by omega), eR111, zU_n (by omega), h11.2.1 (i + 14) (by omega), eR107, zZ_o (by omega), eR102, zU_n (by omega), h10.2.1 (i + 14) (by omega), eR98, zZ_o (by omega), eR93, zU_n (by omega), h9.2.1 (i + 14) (by omega), eR89, zZ_o (by omega), eR84, zU_n (by omega), h8.2.1 (i + 14) (by omega), eR80, zZ_o (by omega), eR75, zU_n (by omega), h7.2.1 (i + 14) (by omega), eR71, zZ_o (by omega), eR66, zU_n (by omega), h6.2.1 (i + 14) (by omega), eR62, zZ_o (by omega), eR57, zU_n (by omega), h5.2.1 (i + 14) (by omega), eR53, zZ_o (by omega), eR48, zU_n (by omega), h4.2.1 (i + 14) (by omega), eR44, zZ_o (by omega), eR39]; exact zU_s, eLd_mv (by rw [eR165, zU_o (by omega), h17.2.1 (i + 17) (by omega), eR161, zZ_o (by omega), eR156, zU_o (by omega), h16.2.1 (i + 17) (by omega), eR152, zZ_o (by omega), eR147, zU_o (by omega), h15.2.1 (i + 17) (by omega), eR143, zZ_o (by omega), eR138, zU_o (by omega), h14.2.1 (i + 17) (by omega), eR134, zZ_o (by omega), eR129, zU_o (by omega), h13.2.1 (i + 17) (by omega), eR125, zZ_o (by omega), eR120, zU_o (by omega), h12.2.1 (i + 17) (by omega), eR116, zZ_o (by omega), eR111, zU_o (by omega), h11.2.1 (i + 17) (by omega), eR107, zZ_o (by omega), eR102, zU_o (by omega), h10.2.1 (i + 17) (by omega), eR98, zZ_o (by omega), eR93, zU_o (by omega), h9.2.1 (i + 17) (by omega), eR89, zZ_o (by omega), eR84, zU_o (by omega), h8.2.1 (i + 17) (by omega), eR80, zZ_o (by omega), eR75, zU_o (by omega), h7.2.1 (i + 17) (by omega), eR71, zZ_o (by omega), eR66, zU_o (by omega), h6.2.1 (i + 17) (by omega), eR62, zZ_o (by omega), eR57, zU_o (by omega), h5.2.1 (i + 17) (by omega), eR53, zZ_o (by omega), eR48, zU_o (by omega), h4.2.1 (i + 17) (by omega), eR44, zZ_o (by omega), eR39, zU_o (by omega)]) h3.2.2⟩
  have l1 : R165 (i + 14) 1 = some (i + 19) ∧ eLd R165 (i + 19) := ⟨by rw [eR165, zU_n (by omega), h17.2.1 (i + 14) (by omega), eR161, zZ_o (by omega), eR156, zU_n (by omega), h16.2.1 (i + 14) (by omega), eR152, zZ_o (by omega), eR147, zU_n (by omega), h15.2.1 (i + 14) (by omega), eR143, zZ_o (by omega), eR138, zU_n (by omega), h14.2.1 (i + 14) (by omega), eR134, zZ_o (by omega), eR129, zU_n (by omega), h13.2.1 (i + 14) (by omega), eR125, zZ_o (by omega), eR120, zU_n (by omega), h12.2.1 (i + 14) (by omega), eR116, zZ_o (by omega), eR111, zU_n (by omega), h11.2.1 (i + 14) (by omega), eR107, zZ_o (by omega), eR102, zU_n (by omega), h10.2.1 (i + 14) (by omega), eR98, zZ_o (by omega), eR93, zU_n (by omega), h9.2.1 (i + 14) (by omega), eR89, zZ_o (by omega), eR84, zU_n (by omega), h8.2.1 (i + 14) (by omega), eR80, zZ_o (by omega), eR75, zU_n (by omega), h7.2.1 (i + 14) (by omega), eR71, zZ_o (by omega), eR66, zU_n (by omega), h6.2.1 (i + 14) (by omega), eR62, zZ_o (by omega), eR57, zU_n (by omega), h5.2.1 (i + 14) (by omega), eR53, zZ_o (by omega), eR48]; exact zU_s, eLd_mv (by rw [eR165, zU_o (by omega), h17.2.1 (i + 19) (by omega), eR161, zZ_o (by omega), eR156, zU_o (by omega), h16.2.1 (i + 19) (by omega), eR152, zZ_o (by omega), eR147, zU_o (by omega), h15.2.1 (i + 19) (by omega), eR143, zZ_o (by omega), eR138, zU_o (by omega), h14.2.1 (i + 19) (by omega), eR134, zZ_o (by omega), eR129, zU_o (by omega), h13.2.1 (i + 19) (by omega), eR125, zZ_o (by omega), eR120, zU_o (by omega), h12.2.1 (i + 19) (by omega), eR116, zZ_o (by omega), eR111, zU_o (by omega), h11.2.1 (i + 19) (by omega), eR107, zZ_o (by omega), eR102, zU_o (by omega), h10.2.1 (i + 19) (by omega), eR98, zZ_o (by omega), eR93, zU_o (by omega), h9.2.1 (i + 19) (by omega), eR89, zZ_o (by omega), eR84, zU_o (by omega), h8.2.1 (i + 19) (by omega), eR80, zZ_o (by omega), eR75, zU_o (by omega), h7.2.1 (i + 19) (by omega), eR71, zZ_o (by omega), eR66, zU_o (by omega), h6.2.1 (i + 19) (by omega), eR62, zZ_o (by omega), eR57, zU_o (by omega), h5.2.1 (i + 19) (by omega), eR53, zZ_o (by omega), eR48, zU_o (by omega)]) h4.2.2⟩
  have l2 : R165 (i + 14) 2 = some (i + 21) ∧ eLd R165 (i + 21) := ⟨by rw [eR165, zU_n (by omega), h17.2.1 (i + 14) (by omega), eR161, zZ_o (by omega), eR156, zU_n (by omega), h16.2.1 (i + 14) (by omega), eR152, zZ_o (by omega), eR147, zU_n (by omega), h15.2.1 (i + 14) (by omega), eR143, zZ_o (by omega), eR138, zU_n (by omega), h14.2.1 (i + 14) (by omega), eR134, zZ_o (by omega), eR129, zU_n (by omega), h13.2.1 (i + 14) (by omega), eR125, zZ_o (by omega), eR120, zU_n (by omega), h12.2.1 (i + 14) (by omega), eR116, zZ_o (by omega), eR111, zU_n (by omega), h11.2.1 (i + 14) (by omega), eR107, zZ_o (by omega), eR102, zU_n (by omega), h10.2.1 (i + 14) (by omega), eR98, zZ_o (by omega), eR93, zU_n (by omega), h9.2.1 (i + 14) (by omega), eR89, zZ_o (by omega), eR84, zU_n (by omega), h8.2.1 (i + 14) (by omega), eR80, zZ_o (by omega), eR75, zU_n (by omega), h7.2.1 (i + 14) (by omega), eR71, zZ_o (by omega), eR66, zU_n (by omega), h6.2.1 (i + 14) (by omega), eR62, zZ_o (by omega), eR57]; exact zU_s, eLd_mv (by rw [eR165, zU_o (by omega), h17.2.1 (i + 21) (by omega), eR161, zZ_o (by omega), eR156, zU_o (by omega), h16.2.1 (i + 21) (by omega), eR152, zZ_o (by omega), eR147, zU_o (by omega), h15.2.1 (i + 21) (by omega), eR143, zZ_o (by omega), eR138, zU_o (by omega), h14.2.1 (i + 21) (by omega), eR134, zZ_o (by omega), eR129, zU_o (by omega), h13.2.1 (i + 21) (by omega), eR125, zZ_o (by omega), eR120, zU_o (by omega), h12.2.1 (i + 21) (by omega), eR116, zZ_o (by omega), eR111, zU_o (by omega), h11.2.1 (i + 21) (by omega), eR107, zZ_o (by omega), eR102, zU_o (by omega), h10.2.1 (i + 21) (by omega), eR98, zZ_o (by omega), eR93, zU_o (by omega), h9.2.1 (i + 21) (by omega), eR89, zZ_o (by omega), eR84, zU_o (by omega), h8.2.1 (i + 21) (by omega), eR80, zZ_o (by omega), eR75, zU_o (by omega), h7.2.1 (i + 21) (by omega), eR71, zZ_o (by omega), eR66, zU_o (by omega), h6.2.1 (i + 21) (by omega), eR62, zZ_o (by omega), eR57, zU_o (by omega)]) h5.2.2⟩
  have l3 : R165 (i + 14) 3 = some (i + 23) ∧ eLd R165 (i + 23) := ⟨by rw [eR165, zU_n (by omega), h17.2.1 (i + 14) (by omega), eR161, zZ_o (by omega), eR156, zU_n (by omega), h16.2.1 (i + 14) (by omega), eR152, zZ_o (by omega), eR147, zU_n (by omega), h15.2.1 (i + 14) (by omega), eR143, zZ_o (by omega), eR138, zU_n (by omega), h14.2.1 (i + 14) (by omega), eR134, zZ_o (by omega), eR129, zU_n (by omega), h13.2.1 (i + 14) (by omega), eR125, zZ_o (by omega), eR120, zU_n (by omega), h12.2.1 (i + 14) (by omega), eR116, zZ_o (by omega), eR111, zU_n (by omega), h11.2.1 (i + 14) (by omega), eR107, zZ_o (by omega), eR102, zU_n (by omega), h10.2.1 (i + 14) (by omega), eR98, zZ_o (by omega), eR93, zU_n (by omega), h9.2.1 (i + 14) (by omega), eR89, zZ_o (by omega), eR84, zU_n (by omega), h8.2.1 (i + 14) (by omega), eR80, zZ_o (by omega), eR75, zU_n (by omega), h7.2.1 (i + 14) (by omega), eR71, zZ_o (by omega), eR66]; exact zU_s, eLd_mv (by rw [eR165, zU_o (by omega), h17.2.1 (i + 23) (by omega), eR161, zZ_o (by omega), eR156, zU_o (by omega), h16.2.1 (i + 23) (by omega), eR152, zZ_o (by omega), eR147, zU_o (by omega), h15.2.1 (i + 23) (by omega), eR143, zZ_o (by omega), eR138, zU_o (by omega), h14.2.1 (i + 23) (by omega), eR134, zZ_o (by omega), eR129, zU_o (by omega), h13.2.1 (i + 23) (by omega), eR125, zZ_o (by omega), eR120, zU_o (by omega), h12.2.1 (i + 23) (by omega), eR116, zZ_o (by omega), eR111, zU_o (by omega), h11.2.1 (i + 23) (by omega), eR107, zZ_o (by omega), eR102, zU_o (by omega), h10.2.1 (i + 23) (by omega), eR98, zZ_o (by omega), eR93, zU_o (by omega), h9.2.1 (i + 23) (by omega), eR89, zZ_o (by omega), eR84, zU_o (by omega), h8.2.1 (i + 23) (by omega), eR80, zZ_o (by omega), eR75, zU_o (by omega), h7.2.1 (i + 23) (by omega), eR71, zZ_o (by omega), eR66, zU_o (by omega)]) h6.2.2⟩
  have l4 : R165 (i + 14) 4 = some (i + 25) ∧ eLd R165 (i + 25) := ⟨by rw [eR165, zU_n (by omega), h17.2.1 (i + 14) (by omega), eR161, zZ_o (by omega), eR156, zU_n (by omega), h16.2.1 (i + 14) (by omega), eR152, zZ_o (by omega), eR147, zU_n (by omega), h15.2.1 (i + 14) (by omega), eR143, zZ_o (by omega), eR138, zU_n (by omega), h14.2.1 (i + 14) (by omega), eR134, zZ_o (by omega), eR129, zU_n (by omega), h13.2.1 (i + 14) (by omega), eR125, zZ_o (by omega), eR120, zU_n (by omega), h12.2.1 (i + 14) (by omega), eR116, zZ_o (by omega), eR111, zU_n (by omega), h11.2.1 (i + 14) (by omega), eR107, zZ_o (by omega), eR102, zU_n (by omega), h10.2.1 (i + 14) (by omega), eR98, zZ_o (by omega), eR93, zU_n (by omega), h9.2.1 (i + 14) (by omega), eR89, zZ_o (by omega), eR84, zU_n (by omega), h8.2.1 (i + 14) (by omega), eR80, zZ_o (by omega), eR75]; exact zU_s, eLd_mv (by rw [eR165, zU_o (by omega), h17.2.1 (i + 25) (by omega), eR161, zZ_o (by omega), eR156, zU_o (by omega), h16.2.1 (i + 25) (by omega), eR152, zZ_o (by omega), eR147, zU_o (by omega), h15.2.1 (i + 25) (by omega), eR143, zZ_o (by omega), eR138, zU_o (by omega), h14.2.1 (i + 25) (by omega), eR134, zZ_o (by omega), eR129, zU_o (by omega), h13.2.1 (i + 25) (by omega), eR125, zZ_o (by omega), eR120, zU_o (by omega), h12.2.1 (i + 25) (by omega), eR116, zZ_o (by omega), eR111, zU_o (by omega), h11.2.1 (i + 25) (by omega), eR107, zZ_o (by omega), eR102, zU_o (by omega), h10.2.1 (i + 25) (by omega), eR98, zZ_o (by omega), eR93, zU_o (by omega), h9.2.1 (i + 25) (by omega), eR89, zZ_o (by omega), eR84, zU_o (by omega), h8.2.1 (i + 25) (by omega), eR80, zZ_o (by omega), eR75, zU_o (by omega)]) h7.2.2⟩
  have l5 : R165 (i + 14) 5 = some (i + 27) ∧ eLd R165 (i + 27) := ⟨by rw [eR165, zU_n (by omega), h17.2.1 (i + 14) (by omega), eR161, zZ_o (by omega), eR156, zU_n (by omega), h16.2.1 (i + 14) (by omega), eR152, zZ_o (by omega), eR147, zU_n (by omega), h15.2.1 (i + 14) (by omega), eR143, zZ_o (by omega), eR138, zU_n (by omega), h14.2.1 (i + 14) (by omega), eR134, zZ_o (by omega), eR129, zU_n (by omega), h13.2.1 (i + 14) (by omega), eR125, zZ_o (by omega), eR120, zU_n (by omega), h12.2.1 (i + 14) (by omega), eR116, zZ_o (by omega), eR111, zU_n (by omega), h11.2.1 (i + 14) (by omega), eR107, zZ_o (by omega), eR102, zU_n (by omega), h10.2.1 (i + 14) (by omega), eR98, zZ_o (by omega), eR93, zU_n (by omega), h9.2.1 (i + 14) (by omega), eR89, zZ_o (by omega), eR84]; exact zU_s, eLd_mv (by rw [eR165, zU_o (by omega), h17.2.1 (i + 27) (by omega), eR161, zZ_o (by omega), eR156, zU_o (by omega), h16.2.1 (i + 27) (by omega), eR152, zZ_o (by omega), eR147, zU_o (by omega), h15.2.1 (i + 27) (by omega), eR143, zZ_o (by omega), eR138, zU_o (by omega), h14.2.1 (i + 27) (by omega), eR134, zZ_o (by omega), eR129, zU_o (by omega), h13.2.1 (i + 27) (by omega), eR125, zZ_o (by omega), eR120, zU_o (by omega), h12.2.1 (i + 27) (by omega), eR116, zZ_o (by omega), eR111, zU_o (by omega), h11.2.1 (i + 27) (by omega), eR107, zZ_o (by omega), eR102, zU_o (by omega), h10.2.1 (i + 27) (by omega), eR98, zZ_o (by omega), eR93, zU_o (by omega), h9.2.1 (i + 27) (by omega), eR89, zZ_o (by omega), eR84, zU_o (by omega)]) h8.2.2⟩
  have l6 : R165 (i + 14) 6 = some (i + 29) ∧ eLd R165 (i + 29) := ⟨by rw [eR165, zU_n (by omega), h17.2.1 (i + 14) (by omega), eR161, zZ_o (by omega), eR156, zU_n (by omega), h16.2.1 (i + 14) (by omega), eR152, zZ_o (by omega), eR147, zU_n (by omega), h15.2.1 (i + 14) (by omega), eR143, zZ_o (by omega), eR138, zU_n (by omega), h14.2.1 (i + 14) (by omega), eR134, zZ_o (by omega), eR129, zU_n (by omega), h13.2.1 (i + 14) (by omega), eR125, zZ_o (by omega), eR120, zU_n (by omega), h12.2.1 (i + 14) (by omega), eR116, zZ_o (by omega), eR111, zU_n (by omega), h11.2.1 (i + 14) (by omega), eR107, zZ_o (by omega), eR102, zU_n (by omega), h10.2.1 (i + 14) (by omega), eR98, zZ_o (by omega), eR93]; exact zU_s, eLd_mv (by rw [eR165, zU_o (by omega), h17.2.1 (i + 29) (by omega), eR161, zZ_o (by omega), eR156, zU_o (by omega), h16.2.1 (i + 29) (by omega), eR152, zZ_o (by omega), eR147, zU_o (by omega), h15.2.1 (i + 29) (by omega), eR143, zZ_o (by omega), eR138, zU_o (by omega), h14.2.1 (i + 29) (by omega), eR134, zZ_o (by omega), eR129, zU_o (by omega), h13.2.1 (i + 29) (by omega), eR125, zZ_o (by omega), eR120, zU_o (by omega), h12.2.1 (i + 29) (by omega), eR116, zZ_o (by omega), eR111, zU_o (by omega), h11.2.1 (i + 29) (by omega), eR107, zZ_o (by omega), eR102, zU_o (by omega), h10.2.1 (i + 29) (by omega), eR98, zZ_o (by omega), eR93, zU_o (by omega)]) h9.2.2⟩
  have l7 : R165 (i + 14) 7 = some (i + 31) ∧ eLd R165 (i + 31) := ⟨by rw [eR165, zU_n (by omega), h17.2.1 (i + 14) (by omega), eR161, zZ_o (by omega), eR156, zU_n (by omega), h16.2.1 (i + 14) (by omega), eR152, zZ_o (by omega), eR147, zU_n (by omega), h15.2.1 (i + 14) (by omega), eR143, zZ_o (by omega), eR138, zU_n (by omega), h14.2.1 (i + 14) (by omega), eR134, zZ_o (by omega), eR129, zU_n (by omega), h13.2.1 (i + 14) (by omega), eR125, zZ_o (by omega), eR120, zU_n (by omega), h12.2.1 (i + 14) (by omega), eR116, zZ_o (by omega), eR111, zU_n (by omega), h11.2.1 (i + 14) (by omega), eR107, zZ_o (by omega), eR102]; exact zU_s, eLd_mv (by rw [eR165, zU_o (by omega), h17.2.1 (i + 31) (by omega), eR161, zZ_o (by omega), eR156, zU_o (by omega), h16.2.1 (i + 31) (by omega), eR152, zZ_o (by omega), eR147, zU_o (by omega), h15.2.1 (i + 31) (by omega), eR143, zZ_o (by omega), eR138, zU_o (by omega), h14.2.1 (i + 31) (by omega), eR134, zZ_o (by omega), eR129, zU_o (by omega), h13.2.1 (i + 31) (by omega), eR125, zZ_o (by omega), eR120, zU_o (by omega), h12.2.1 (i + 31) (by omega), eR116, zZ_o (by omega), eR111, zU_o (by omega), h11.2.1 (i + 31) (by omega), eR107, zZ_o (by omega), eR102, zU_o (by omega)]) h10.2.2⟩
  have l8 : R165 (i + 14) 8 = some (i + 33) ∧ eLd R165 (i + 33) := ⟨by rw [eR165, zU_n (by omega), h17.2.1 (i + 14) (by omega), eR161, zZ_o (by omega), eR156, zU_n (by omega), h16.2.1 (i + 14) (by omega), eR152, zZ_o (by omega), eR147, zU_n (by omega), h15.2.1 (i + 14) (by omega), eR143, zZ_o (by omega), eR138, zU_n (by omega), h14.2.1 (i + 14) (by omega), eR134, zZ_o (by omega), eR129, zU_n (by omega), h13.2.1 (i + 14) (by omega), eR125, zZ_o (by omega), eR120, zU_n (by omega), h12.2.1 (i + 14) (by omega), eR116, zZ_o (by omega), eR111]; exact zU_s, eLd_mv (by rw [eR165, zU_o (by omega), h17.2.1 (i + 33) (by omega), eR161, zZ_o (by omega), eR156, zU_o (by omega), h16.2.1 (i + 33) (by omega), eR152, zZ_o (by omega), eR147, zU_o (by omega), h15.2.1 (i + 33) (by omega), eR143, zZ_o (by omega), eR138, zU_o (by omega), h14.2.1 (i + 33) (by omega), eR134, zZ_o (by omega), eR129, zU_o (by omega), h13.2.1 (i + 33) (by omega), eR125, zZ_o (by omega), eR120, zU_o (by omega), h12.2.1 (i + 33) (by omega), eR116, zZ_o (by omega), eR111, zU_o (by omega)]) h11.2.2⟩
  have l9 : R165 (i + 14) 9 = some (i + 35) ∧ eLd R165 (i + 35) := ⟨by rw [eR165, zU_n (by omega), h17.2.1 (i + 14) (by omega), eR161, zZ_o (by omega), eR156, zU_n (by omega), h16.2.1 (i + 14) (by omega), eR152, zZ_o (by omega), eR147, zU_n (by omega), h15.2.1 (i + 14) (by omega), eR143, zZ_o (by omega), eR138, zU_n (by omega), h14.2.1 (i + 14) (by omega), eR134, zZ_o (by omega), eR129, zU_n (by omega), h13.2.1 (i + 14) (by omega), eR125, zZ_o (by omega), eR120]; exact zU_s, eLd_mv (by rw [eR165, zU_o (by omega), h17.2.1 (i + 35) (by omega), eR161, zZ_o (by omega), eR156, zU_o (by omega), h16.2.1 (i + 35) (by omega), eR152, zZ_o (by omega), eR147, zU_o (by omega), h15.2.1 (i + 35) (by omega), eR143, zZ_o (by omega), eR138, zU_o (by omega), h14.2.1 (i + 35) (by omega), eR134, zZ_o (by omega), eR129, zU_o (by omega), h13.2.1 (i + 35) (by omega), eR125, zZ_o (by omega), eR120, zU_o (by omega)]) h12.2.2⟩
  have l10 : R165 (i + 14) 10 = some (i + 37) ∧ eLd R165 (i + 37) := ⟨by rw [eR165, zU_n (by omega), h17.2.1 (i + 14) (by omega), eR161, zZ_o (by omega), eR156, zU_n (by omega), h16.2.1 (i + 14) (by omega), eR152, zZ_o (by omega), eR147, zU_n (by omega), h15.2.1 (i + 14) (by omega), eR143, zZ_o (by omega), eR138, zU_n (by omega), h14.2.1 (i + 14) (by omega), eR134, zZ_o (by omega), eR129]; exact zU_s, eLd_mv (by rw [eR165, zU_o (by omega), h17.2.1 (i + 37) (by omega), eR161, zZ_o (by omega), eR156, zU_o (by omega), h16.2.1 (i + 37) (by omega), eR152, zZ_o (by omega), eR147, zU_o (by omega), h15.2.1 (i + 37) (by omega), eR143, zZ_o (by omega), eR138, zU_o (by omega), h14.2.1 (i + 37) (by omega), eR134, zZ_o (by omega), eR129, zU_o (by omega)]) h13.2.2⟩
  have l11 : R165 (i + 14) 11 = some (i + 39) ∧ eLd R165 (i + 39) := ⟨by rw [eR165, zU_n (by omega), h17.2.1 (i + 14) (by omega), eR161, zZ_o (by omega), eR156, zU_n (by omega), h16.2.1 (i + 14) (by omega), eR152, zZ_o (by omega), eR147, zU_n (by omega), h15.2.1 (i + 14) (by omega), eR143, zZ_o (by omega), eR138]; exact zU_s, eLd_mv (by rw [eR165, zU_o (by omega), h17.2.1 (i + 39) (by omega), eR161, zZ_o (by omega), eR156, zU_o (by omega), h16.2.1 (i + 39) (by omega), eR152, zZ_o (by omega), eR147, zU_o (by omega), h15.2.1 (i + 39) (by omega), eR143, zZ_o (by omega), eR138, zU_o (by omega)]) h14.2.2⟩
  have l12 : R165 (i + 14) 12 = some (i + 41) ∧ eLd R165 (i + 41) := ⟨by rw [eR165, zU_n (by omega), h17.2.1 (i + 14) (by omega), eR161, zZ_o (by omega), eR156, zU_n (by omega), h16.2.1 (i + 14) (by omega), eR152, zZ_o (by omega), eR147]; exact zU_s, eLd_mv (by rw [eR165, zU_o (by omega), h17.2.1 (i + 41) (by omega), eR161, zZ_o (by omega), eR156, zU_o (by omega), h16.2.1 (i + 41) (by omega), eR152, zZ_o (by omega), eR147, zU_o (by omega)]) h15.2.2⟩
  have l13 : R165 (i + 14) 13 = some (i + 43) ∧ eLd R165 (i + 43) := ⟨by rw [eR165, zU_n (by omega), h17.2.1 (i + 14) (by omega), eR161, zZ_o (by omega), eR156]; exact zU_s, eLd_mv (by rw [eR165, zU_o (by omega), h17.2.1 (i + 43) (by omega), eR161, zZ_o (by omega), eR156, zU_o (by omega)]) h16.2.2⟩
  have l14 : R165 (i + 14) 14 = some (i + 45) ∧ eLd R165 (i + 45) := ⟨by rw [eR165]; exact zU_s, eLd_mv (by rw [eR165, zU_o (by omega)]) h17.2.2⟩
  have hLg : ∀ z : Nat, z < 15 → R165 (i + 14) z = some (i + 17 + 2 * z) ∧ eLd R165 (i + 17 + 2 * z) := by
    intro z hz
    have q : z = 0 ∨ z = 1 ∨ z = 2 ∨ z = 3 ∨ z = 4 ∨ z = 5 ∨ z = 6 ∨ z = 7 ∨ z = 8 ∨ z = 9 ∨ z = 10 ∨ z = 11 ∨ z = 12 ∨ z = 13 ∨ z = 14 := by omega
    rcases q with rfl | rfl | rfl | rfl | rfl | rfl | rfl | rfl | rfl | rfl | rfl | rfl | rfl | rfl | rfl
    · exact l0
    · exact l1
    · exact l2
    · exact l3
    · exact l4
    · exact l5
    · exact l6
    · exact l7
    · exact l8
    · exact l9
    · exact l10
    · exact l11
    · exact l12
    · exact l13
    · exact l14
  exact ⟨fun z g => by rw [h17.1 (z) (by omega) (by omega), eX159, zZ_o (by omega), h16.1 (z) (by omega) (by omega), eX150, zZ_o (by omega), h15.1 (z) (by omega) (by omega), eX141, zZ_o (by omega), h14.1 (z) (by omega) (by omega), eX132, zZ_o (by omega), h13.1 (z) (by omega) (by omega), eX123, zZ_o (by omega), h12.1 (z) (by omega) (by omega), eX114, zZ_o (by omega), h11.1 (z) (by omega) (by omega), eX105, zZ_o (by omega), h10.1 (z) (by omega) (by omega), eX96, zZ_o (by omega), h9.1 (z) (by omega) (by omega), eX87, zZ_o (by omega), h8.1 (z) (by omega) (by omega), eX78, zZ_o (by omega), h7.1 (z) (by omega) (by omega), eX69, zZ_o (by omega), h6.1 (z) (by omega) (by omega), eX60, zZ_o (by omega), h5.1 (z) (by omega) (by omega), eX51, zZ_o (by omega), h4.1 (z) (by omega) (by omega), eX42, zZ_o (by omega), h3.1 (z) (by omega) (by omega), eX33, zZ_o (by omega), eX29, zZ_o (by omega), eX19, zZ_o (by omega), eX17, zZ_o (by omega), eX15, zZ_o (by omega), h2.1 (z) (by omega), eX8, zZ_o (by omega), h1.1 (z) (by omega) (by omega), eX1, zZ_o (by omega)], fun z g => by rw [eR165, zU_o (by omega), h17.2.1 (z) (by omega), eR161, zZ_o (by omega), eR156, zU_o (by omega), h16.2.1 (z) (by omega), eR152, zZ_o (by omega), eR147, zU_o (by omega), h15.2.1 (z) (by omega), eR143, zZ_o (by omega), eR138, zU_o (by omega), h14.2.1 (z) (by omega), eR134, zZ_o (by omega), eR129, zU_o (by omega), h13.2.1 (z) (by omega), eR125, zZ_o (by omega), eR120, zU_o (by omega), h12.2.1 (z) (by omega), eR116, zZ_o (by omega), eR111, zU_o (by omega), h11.2.1 (z) (by omega), eR107, zZ_o (by omega), eR102, zU_o (by omega), h10.2.1 (z) (by omega), eR98, zZ_o (by omega), eR93, zU_o (by omega), h9.2.1 (z) (by omega), eR89, zZ_o (by omega), eR84, zU_o (by omega), h8.2.1 (z) (by omega), eR80, zZ_o (by omega), eR75, zU_o (by omega), h7.2.1 (z) (by omega), eR71, zZ_o (by omega), eR66, zU_o (by omega), h6.2.1 (z) (by omega), eR62, zZ_o (by omega), eR57, zU_o (by omega), h5.2.1 (z) (by omega), eR53, zZ_o (by omega), eR48, zU_o (by omega), h4.2.1 (z) (by omega), eR44, zZ_o (by omega), eR39, zU_o (by omega), h3.2.1 (z) (by omega), eR35, zZ_o (by omega), eR30, zU_o (by omega), eR28, zU_o (by omega), eR26, zU_o (by omega), eR25, zZ_o (by omega), eR24, zU_o (by omega), eR22, zU_o (by omega), eR20, zU_o (by omega), eR18, zU_o (by omega), eR16, zU_o (by omega), eR14, zU_o (by omega), h2.2.1 (z) (by omega), eR10, zZ_o (by omega), eR7, zU_o (by omega), h1.2.1 (z) (by omega), eR3, zZ_o (by omega)], ⟨⟨by rw [eR165, zU_n (by omega), h17.2.1 (i) (by omega), eR161, zZ_o (by omega), eR156, zU_n (by omega), h16.2.1 (i) (by omega), eR152, zZ_o (by omega), eR147, zU_n (by omega), h15.2.1 (i) (by omega), eR143, zZ_o (by omega), eR138, zU_n (by omega), h14.2.1 (i) (by omega), eR134, zZ_o (by omega), eR129, zU_n (by omega), h13.2.1 (i) (by omega), eR125, zZ_o (by omega), eR120, zU_n (by omega), h12.2.1 (i) (by omega), eR116, zZ_o (by omega), eR111, zU_n (by omega), h11.2.1 (i) (by omega), eR107, zZ_o (by omega), eR102, zU_n (by omega), h10.2.1 (i) (by omega), eR98, zZ_o (by omega), eR93, zU_n (by omega), h9.2.1 (i) (by omega), eR89, zZ_o (by omega), eR84, zU_n (by omega), h8.2.1 (i) (by omega), eR80, zZ_o (by omega), eR75, zU_n (by omega), h7.2.1 (i) (by omega), eR71, zZ_o (by omega), eR66, zU_n (by omega), h6.2.1 (i) (by omega), eR62, zZ_o (by omega), eR57, zU_n (by omega), h5.2.1 (i) (by omega), eR53, zZ_o (by omega), eR48, zU_n (by omega), h4.2.1 (i) (by omega), eR44, zZ_o (by omega), eR39, zU_n (by omega), h3.2.1 (i) (by omega), eR35, zZ_o (by omega), eR30, zU_n (by omega), eR28, zU_n (by omega), eR26, zU_n (by omega), eR25, zZ_o (by omega), eR24, zU_n (by omega), eR22, zU_n (by omega), eR20, zU_n (by omega), eR18, zU_n (by omega), eR16]; exact zU_s, by rw [eR165, zU_n (by omega), h17.2.1 (i) (by omega), eR161, zZ_o (by omega), eR156, zU_n (by omega), h16.2.1 (i) (by omega), eR152, zZ_o (by omega), eR147, zU_n (by omega), h15.2.1 (i) (by omega), eR143, zZ_o (by omega), eR138, zU_n (by omega), h14.2.1 (i) (by omega), eR134, zZ_o (by omega), eR129, zU_n (by omega), h13.2.1 (i) (by omega), eR125, zZ_o (by omega), eR120, zU_n (by omega), h12.2.1 (i) (by omega), eR116, zZ_o (by omega), eR111, zU_n (by omega), h11.2.1 (i) (by omega), eR107, zZ_o (by omega), eR102, zU_n (by omega), h10.2.1 (i) (by omega), eR98, zZ_o (by omega), eR93, zU_n (by omega), h9.2.1 (i) (by omega), eR89, zZ_o (by omega), eR84, zU_n (by omega), h8.2.1 (i) (by omega), eR80, zZ_o (by omega), eR75, zU_n (by omega), h7.2.1 (i) (by omega), eR71, zZ_o (by omega), eR66, zU_n (by omega), h6.2.1 (i) (by omega), eR62, zZ_o (by omega), eR57, zU_n (by omega), h5.2.1 (i) (by omega), eR53, zZ_o (by omega), eR48, zU_n (by omega), h4.2.1 (i) (by omega), eR44, zZ_o (by omega), eR39, zU_n (by omega), h3.2.1 (i) (by omega), eR35, zZ_o (by omega), eR30, zU_n (by omega), eR28, zU_n (by omega), eR26, zU_n (by omega), eR25, zZ_o (by omega), eR24, zU_n (by omega), eR22, zU_n (by omega), eR20, zU_n (by omega), eR18]; exact zU_s, by rw [eR165, zU_n (by omega), h17.2.1 (i) (by omega), eR161, zZ_o (by omega), eR156, zU_n (by omega), h16.2.1 (i) (by omega), eR152, zZ_o (by omega), eR147, zU_n (by omega), h15.2.1 (i) (by omega), eR143, zZ_o (by omega), eR138, zU_n (by omega), h14.2.1 (i) (by omega), eR134, zZ_o (by omega), eR129, zU_n (by omega), h13.2.1 (i) (by omega), eR125, zZ_o (by omega), eR120, zU_n (by omega), h12.2.1 (i) (by omega), eR116, zZ_o (by omega), eR111, zU_n (by omega), h11.2.1 (i) (by omega), eR107, zZ_o (by omega), eR102, zU_n (by omega), h10.2.1 (i) (by omega), eR98, zZ_o (by omega), eR93, zU_n (by omega), h9.2.1 (i) (by omega), eR89, zZ_o (by omega), eR84, zU_n (by omega), h8.2.1 (i) (by omega), eR80, zZ_o (by omega), eR75, zU_n (by omega), h7.2.1 (i) (by omega), eR71, zZ_o (by omega), eR66, zU_n (by omega), h6.2.1 (i) (by omega), eR62, zZ_o (by omega), eR57, zU_n (by omega), h5.2.1 (i) (by omega), eR53, zZ_o (by omega), eR48, zU_n (by omega), h4.2.1 (i) (by omega), eR44, zZ_o (by omega), eR39, zU_n (by omega), h3.2.1 (i) (by omega), eR35, zZ_o (by omega), eR30, zU_n (by omega), eR28, zU_n (by omega), eR26, zU_n (by omega), eR25, zZ_o (by omega), eR24, zU_n (by omega), eR22, zU_n (by omega), eR20]; exact zU_s, by rw [eR165, zU_n (by omega), h17.2.1 (i) (by omega), eR161, zZ_o (by omega), eR156, zU_n (by omega), h16.2.1 (i) (by omega), eR152, zZ_o (by omega), eR147, zU_n (by omega), h15.2.1 (i) (by omega), eR143, zZ_o (by omega), eR138, zU_n (by omega), h14.2.1 (i) (by omega), eR134, zZ_o (by omega), eR129, zU_n (by omega), h13.2.1 (i) (by omega), eR125, zZ_o (by omega), eR120, zU_n (by omega), h12.2.1 (i) (by omega), eR116, zZ_o (by omega), eR111, zU_n (by omega), h11.2.1 (i) (by omega), eR107, zZ_o (by omega), eR102, zU_n (by omega), h10.2.1 (i) (by omega), eR98, zZ_o (by omega), eR93, zU_n (by omega), h9.2.1 (i) (by omega), eR89, zZ_o (by omega), eR84, zU_n (by omega), h8.2.1 (i) (by omega), eR80, zZ_o (by omega), eR75, zU_n (by omega), h7.2.1 (i) (by omega), eR71, zZ_o (by omega), eR66, zU_n (by omega), h6.2.1 (i) (by omega), eR62, zZ_o (by omega), eR57, zU_n (by omega), h5.2.1 (i) (by omega), eR53, zZ_o (by omega), eR48, zU_n (by omega), h4.2.1 (i) (by omega), eR44, zZ_o (by omega), eR39, zU_n (by omega), h3.2.1 (i) (by omega), eR35, zZ_o (by omega), eR30, zU_n (by omega), eR28, zU_n (by omega), eR26, zU_n (by omega), eR25, zZ_o (by omega), eR24, zU_n (by omega), eR22]; exact zU_s, by rw [eR165, zU_n (by omega), h17.2.1 (i) (by omega), eR161, zZ_o (by omega), eR156, zU_n (by omega), h16.2.1 (i) (by omega), eR152, zZ_o (by omega), eR147, zU_n (by omega), h15.2.1 (i) (by omega), eR143, zZ_o (by omega), eR138, zU_n (by omega), h14.2.1 (i) (by omega), eR134, zZ_o (by omega), eR129, zU_n (by omega), h13.2.1 (i) (by omega), eR125, zZ_o (by omega), eR120, zU_n (by omega), h12.2.1 (i) (by omega), eR116, zZ_o (by omega), eR111, zU_n (by omega), h11.2.1 (i) (by omega), eR107, zZ_o (by omega), eR102, zU_n (by omega), h10.2.1 (i) (by omega), eR98, zZ_o (by omega), eR93, zU_n (by omega), h9.2.1 (i) (by omega), eR89, zZ_o (by omega), eR84, zU_n (by omega), h8.2.1 (i) (by omega), eR80, zZ_o (by omega), eR75, zU_n (by omega), h7.2.1 (i) (by omega), eR71, zZ_o (by omega), eR66, zU_n (by omega), h6.2.1 (i) (by omega), eR62, zZ_o (by omega), eR57, zU_n (by omega), h5.2.1 (i) (by omega), eR53, zZ_o (by omega), eR48, zU_n (by omega), h4.2.1 (i) (by omega), eR44, zZ_o (by omega), eR39, zU_n (by omega), h3.2.1 (i) (by omega), eR35, zZ_o (by omega), eR30, zU_n (by omega), eR28, zU_n (by omega), eR26, zU_n (by omega), eR25, zZ_o (by omega), eR24]; exact zU_s, by rw [eR165, zU_n (by omega), h17.2.1 (i) (by omega), eR161, zZ_o (by omega), eR156, zU_n (by omega), h16.2.1 (i) (by omega), eR152, zZ_o (by omega), eR147, zU_n (by omega), h15.2.1 (i) (by omega), eR143, zZ_o (by omega), eR138, zU_n (by omega), h14.2.1 (i) (by omega), eR134, zZ_o (by omega), eR129, zU_n (by omega), h13.2.1 (i) (by omega), eR125, zZ_o (by omega), eR120, zU_n (by omega), h12.2.1 (i) (by omega), eR116, zZ_o (by omega), eR111, zU_n (by omega), h11.2.1 (i) (by omega), eR107, zZ_o (by omega), eR102, zU_n (by omega), h10.2.1 (i) (by omega), eR98, zZ_o (by omega), eR93, zU_n (by omega), h9.2.1 (i) (by omega), eR89, zZ_o (by omega), eR84, zU_n (by omega), h8.2.1 (i) (by omega), eR80, zZ_o (by omega), eR75, zU_n (by omega), h7.2.1 (i) (by omega), eR71, zZ_o (by omega), eR66, zU_n (by omega), h6.2.1 (i) (by omega), eR62, zZ_o (by omega), eR57, zU_n (by omega), h5.2.1 (i) (by omega), eR53, zZ_o (by omega), eR48, zU_n (by omega), h4.2.1 (i) (by omega), eR44, zZ_o (by omega), eR39, zU_n (by omega), h3.2.1 (i) (by omega), eR35, zZ_o (by omega), eR30, zU_n (by omega), eR28, zU_n (by omega), eR26]; exact zU_s, by rw [eR165, zU_n (by omega), h17.2.1 (i) (by omega), eR161, zZ_o (by omega), eR156, zU_n (by omega), h16.2.1 (i) (by omega), eR152, zZ_o (by omega), eR147, zU_n (by omega), h15.2.1 (i) (by omega), eR143, zZ_o (by omega), eR138, zU_n (by omega), h14.2.1 (i) (by omega), eR134, zZ_o (by omega), eR129, zU_n (by omega), h13.2.1 (i) (by omega), eR125, zZ_o (by omega), eR120, zU_n (by omega), h12.2.1 (i) (by omega), eR116, zZ_o (by omega), eR111, zU_n (by omega), h11.2.1 (i) (by omega), eR107, zZ_o (by omega), eR102, zU_n (by omega), h10.2.1 (i) (by omega), eR98, zZ_o (by omega), eR93, zU_n (by omega), h9.2.1 (i) (by omega), eR89, zZ_o (by omega), eR84, zU_n (by omega), h8.2.1 (i) (by omega), eR80, zZ_o (by omega), eR75, zU_n (by omega), h7.2.1 (i) (by omega), eR71, zZ_o (by omega), eR66, zU_n (by omega), h6.2.1 (i) (by omega), eR62, zZ_o (by omega), eR57, zU_n (by omega), h5.2.1 (i) (by omega), eR53, zZ_o (by omega), eR48, zU_n (by omega), h4.2.1 (i) (by omega), eR44, zZ_o (by omega), eR39, zU_n (by omega), h3.2.1 (i) (by omega), eR35, zZ_o (by omega), eR30, zU_n (by omega), eR28]; exact zU_s, by rw [eR165, zU_n (by omega), h17.2.1 (i) (by omega), eR161, zZ_o (by omega), eR156, zU_n (by omega), h16.2.1 (i) (by omega), eR152, zZ_o (by omega), eR147, zU_n (by omega), h15.2.1 (i) (by omega), eR143, zZ_o (by omega), eR138, zU_n (by omega), h14.2.1 (i) (by omega), eR134, zZ_o (by omega), eR129, zU_n (by omega), h13.2.1 (i) (by omega), eR125, zZ_o (by omega), eR120, zU_n (by omega), h12.2.1 (i) (by omega), eR116, zZ_o (by omega), eR111, zU_n (by omega), h11.2.1 (i) (by omega), eR107, zZ_o (by omega), eR102, zU_n (by omega), h10.2.1 (i) (by omega), eR98, zZ_o (by omega), eR93, zU_n (by omega), h9.2.1 (i) (by omega), eR89, zZ_o (by omega), eR84, zU_n (by omega), h8.2.1 (i) (by omega), eR80, zZ_o (by omega), eR75, zU_n (by omega), h7.2.1 (i) (by omega), eR71, zZ_o (by omega), eR66, zU_n (by omega), h6.2.1 (i) (by omega), eR62, zZ_o (by omega), eR57, zU_n (by omega), h5.2.1 (i) (by omega), eR53, zZ_o (by omega), eR48, zU_n (by omega), h4.2.1 (i) (by omega), eR44, zZ_o (by omega), eR39, zU_n (by omega), h3.2.1 (i) (by omega), eR35, zZ_o (by omega), eR30]; exact zU_s⟩, hLg, ⟨by rw [eR165, zU_n (by omega), h17.2.1 (i) (by omega), eR161, zZ_o (by omega), eR156, zU_n (by omega), h16.2.1 (i) (by omega), eR152, zZ_o (by omega), eR147, zU_n (by omega), h15.2.1 (i) (by omega), eR143, zZ_o (by omega), eR138, zU_n (by omega), h14.2.1 (i) (by omega), eR134, zZ_o (by omega), eR129, zU_n (by omega), h13.2.1 (i) (by omega), eR125, zZ_o (by omega), eR120, zU_n (by omega), h12.2.1 (i) (by omega), eR116, zZ_o (by omega), eR111, zU_n (by omega), h11.2.1 (i) (by omega), eR107, zZ_o (by omega), eR102, zU_n (by omega), h10.2.1 (i) (by omega), eR98, zZ_o (by omega), eR93, zU_n (by omega), h9.2.1 (i) (by omega), eR89, zZ_o (by omega), eR84, zU_n (by omega), h8.2.1 (i) (by omega), eR80, zZ_o (by omega), eR75, zU_n (by omega), h7.2.1 (i) (by omega), eR71, zZ_o (by omega), eR66, zU_n (by omega), h6.2.1 (i) (by omega), eR62, zZ_o (by omega), eR57, zU_n (by omega), h5.2.1 (i) (by omega), eR53, zZ_o (by omega), eR48, zU_n (by omega), h4.2.1 (i) (by omega), eR44, zZ_o (by omega), eR39, zU_n (by omega), h3.2.1 (i) (by omega), eR35, zZ_o (by omega), eR30, zU_n (by omega), eR28, zU_n (by omega), eR26, zU_n (by omega), eR25, zZ_o (by omega), eR24, zU_n (by omega), eR22, zU_n (by omega), eR20, zU_n (by omega), eR18, zU_n (by omega), eR16, zU_n (by omega), eR14, zU_n (by omega), h2.2.1 (i) (by omega), eR10, zZ_o (by omega), eR7]; exact zU_s, eNt_mv (by rw [eR165, zU_o (by omega), h17.2.1 (i + 1) (by omega), eR161, zZ_o (by omega), eR156, zU_o (by omega), h16.2.1 (i + 1) (by omega), eR152, zZ_o (by omega), eR147, zU_o (by omega), h15.2.1 (i + 1) (by omega), eR143, zZ_o (by omega), eR138, zU_o (by omega), h14.2.1 (i + 1) (by omega), eR134, zZ_o (by omega), eR129, zU_o (by omega), h13.2.1 (i + 1) (by omega), eR125, zZ_o (by omega), eR120, zU_o (by omega), h12.2.1 (i + 1) (by omega), eR116, zZ_o (by omega), eR111, zU_o (by omega), h11.2.1 (i + 1) (by omega), eR107, zZ_o (by omega), eR102, zU_o (by omega), h10.2.1 (i + 1) (by omega), eR98, zZ_o (by omega), eR93, zU_o (by omega), h9.2.1 (i + 1) (by omega), eR89, zZ_o (by omega), eR84, zU_o (by omega), h8.2.1 (i + 1) (by omega), eR80, zZ_o (by omega), eR75, zU_o (by omega), h7.2.1 (i + 1) (by omega), eR71, zZ_o (by omega), eR66, zU_o (by omega), h6.2.1 (i + 1) (by omega), eR62, zZ_o (by omega), eR57, zU_o (by omega), h5.2.1 (i + 1) (by omega), eR53, zZ_o (by omega), eR48, zU_o (by omega), h4.2.1 (i + 1) (by omega), eR44, zZ_o (by omega), eR39, zU_o (by omega), h3.2.1 (i + 1) (by omega), eR35, zZ_o (by omega), eR30, zU_o (by omega), eR28, zU_o (by omega), eR26, zU_o (by omega), eR25, zZ_o (by omega), eR24, zU_o (by omega), eR22, zU_o (by omega), eR20, zU_o (by omega), eR18, zU_o (by omega), eR16, zU_o (by omega), eR14, zU_o (by omega), h2.2.1 (i + 1) (by omega), eR10, zZ_o (by omega), eR7, zU_o (by omega)]) h1.2.2.1⟩, by rw [eR165, zU_n (by omega), h17.2.1 (i) (by omega), eR161, zZ_o (by omega), eR156, zU_n (by omega), h16.2.1 (i) (by omega), eR152, zZ_o (by omega), eR147, zU_n (by omega), h15.2.1 (i) (by omega), eR143, zZ_o (by omega), eR138, zU_n (by omega), h14.2.1 (i) (by omega), eR134, zZ_o (by omega), eR129, zU_n (by omega), h13.2.1 (i) (by omega), eR125, zZ_o (by omega), eR120, zU_n (by omega), h12.2.1 (i) (by omega), eR116, zZ_o (by omega), eR111, zU_n (by omega), h11.2.1 (i) (by omega), eR107, zZ_o (by omega), eR102, zU_n (by omega), h10.2.1 (i) (by omega), eR98, zZ_o (by omega), eR93, zU_n (by omega), h9.2.1 (i) (by omega), eR89, zZ_o (by omega), eR84, zU_n (by omega), h8.2.1 (i) (by omega), eR80, zZ_o (by omega), eR75, zU_n (by omega), h7.2.1 (i) (by omega), eR71, zZ_o (by omega), eR66, zU_n (by omega), h6.2.1 (i) (by omega), eR62, zZ_o (by omega), eR57, zU_n (by omega), h5.2.1 (i) (by omega), eR53, zZ_o (by omega), eR48, zU_n (by omega), h4.2.1 (i) (by omega), eR44, zZ_o (by omega), eR39, zU_n (by omega), h3.2.1 (i) (by omega), eR35, zZ_o (by omega), eR30, zU_n (by omega), eR28, zU_n (by omega), eR26, zU_n (by omega), eR25, zZ_o (by omega), eR24, zU_n (by omega), eR22, zU_n (by omega), eR20, zU_n (by omega), eR18, zU_n (by omega), eR16, zU_n (by omega), eR14]; exact zU_s, eBk_mv (by rw [eR165, zU_o (by omega), h17.2.1 (i + 3) (by omega), eR161, zZ_o (by omega), eR156, zU_o (by omega), h16.2.1 (i + 3) (by omega), eR152, zZ_o (by omega), eR147, zU_o (by omega), h15.2.1 (i + 3) (by omega), eR143, zZ_o (by omega), eR138, zU_o (by omega), h14.2.1 (i + 3) (by omega), eR134, zZ_o (by omega), eR129, zU_o (by omega), h13.2.1 (i + 3) (by omega), eR125, zZ_o (by omega), eR120, zU_o (by omega), h12.2.1 (i + 3) (by omega), eR116, zZ_o (by omega), eR111, zU_o (by omega), h11.2.1 (i + 3) (by omega), eR107, zZ_o (by omega), eR102, zU_o (by omega), h10.2.1 (i + 3) (by omega), eR98, zZ_o (by omega), eR93, zU_o (by omega), h9.2.1 (i + 3) (by omega), eR89, zZ_o (by omega), eR84, zU_o (by omega), h8.2.1 (i + 3) (by omega), eR80, zZ_o (by omega), eR75, zU_o (by omega), h7.2.1 (i + 3) (by omega), eR71, zZ_o (by omega), eR66, zU_o (by omega), h6.2.1 (i + 3) (by omega), eR62, zZ_o (by omega), eR57, zU_o (by omega), h5.2.1 (i + 3) (by omega), eR53, zZ_o (by omega), eR48, zU_o (by omega), h4.2.1 (i + 3) (by omega), eR44, zZ_o (by omega), eR39, zU_o (by omega), h3.2.1 (i + 3) (by omega), eR35, zZ_o (by omega), eR30, zU_o (by omega), eR28, zU_o (by omega), eR26, zU_o (by omega), eR25, zZ_o (by omega), eR24, zU_o (by omega), eR22, zU_o (by omega), eR20, zU_o (by omega), eR18, zU_o (by omega), eR16, zU_o (by omega), eR14, zU_o (by omega)]) h2.2.2.1⟩, fun y => by rw [h17.1 (i + 9) (by omega) (by omega), eX159, zZ_o (by omega), h16.1 (i + 9) (by omega) (by omega), eX150, zZ_o (by omega), h15.1 (i + 9) (by omega) (by omega), eX141, zZ_o (by omega), h14.1 (i + 9) (by omega) (by omega), eX132, zZ_o (by omega), h13.1 (i + 9) (by omega) (by omega), eX123, zZ_o (by omega), h12.1 (i + 9) (by omega) (by omega), eX114, zZ_o (by omega), h11.1 (i + 9) (by omega) (by omega), eX105, zZ_o (by omega), h10.1 (i + 9) (by omega) (by omega), eX96, zZ_o (by omega), h9.1 (i + 9) (by omega) (by omega), eX87, zZ_o (by omega), h8.1 (i + 9) (by omega) (by omega), eX78, zZ_o (by omega), h7.1 (i + 9) (by omega) (by omega), eX69, zZ_o (by omega), h6.1 (i + 9) (by omega) (by omega), eX60, zZ_o (by omega), h5.1 (i + 9) (by omega) (by omega), eX51, zZ_o (by omega), h4.1 (i + 9) (by omega) (by omega), eX42, zZ_o (by omega), h3.1 (i + 9) (by omega) (by omega), eX33, zZ_o (by omega), eX29, zZ_o (by omega), eX19, zZ_o (by omega), eX17, zZ_o (by omega), eX15]; exact zZ_at, fun y => by rw [h17.1 (i + 11) (by omega) (by omega), eX159, zZ_o (by omega), h16.1 (i + 11) (by omega) (by omega), eX150, zZ_o (by omega), h15.1 (i + 11) (by omega) (by omega), eX141, zZ_o (by omega), h14.1 (i + 11) (by omega) (by omega), eX132, zZ_o (by omega), h13.1 (i + 11) (by omega) (by omega), eX123, zZ_o (by omega), h12.1 (i + 11) (by omega) (by omega), eX114, zZ_o (by omega), h11.1 (i + 11) (by omega) (by omega), eX105, zZ_o (by omega), h10.1 (i + 11) (by omega) (by omega), eX96, zZ_o (by omega), h9.1 (i + 11) (by omega) (by omega), eX87, zZ_o (by omega), h8.1 (i + 11) (by omega) (by omega), eX78, zZ_o (by omega), h7.1 (i + 11) (by omega) (by omega), eX69, zZ_o (by omega), h6.1 (i + 11) (by omega) (by omega), eX60, zZ_o (by omega), h5.1 (i + 11) (by omega) (by omega), eX51, zZ_o (by omega), h4.1 (i + 11) (by omega) (by omega), eX42, zZ_o (by omega), h3.1 (i + 11) (by omega) (by omega), eX33, zZ_o (by omega), eX29, zZ_o (by omega), eX19]; exact zZ_at⟩
theorem c_X1_init {l : Launch} {D : va_G} {cy : Nat → ClassId} {bs : Nat} {sa : Nat → Nat} {kd len : Nat → Nat} {X Y : Nat → Int → Int} {R : Nat → Int → Option Nat} {i : Nat} (hK : kT kd len i tChart)  (hp : X i = fun _ => 0) : Met l yX1_init (.code yX1_init cX1_init 2 none :: zTB) (zRmG 2 80 46 455) (zPcA D cy bs sa (i + 1) kd len X Y R [.ref (bs + (i))]) (zQv D cy bs (i + 47) kd len (fun st => ((∀ z, (z < i ∨ i + 46 < z) → st.1 z = X z) ∧ (∀ z, (z < i ∨ i + 46 < z) → st.2.2 z = R z) ∧ eCh st.2.2 i ∧ (∀ y, st.1 (i + 9) y = 0) ∧ ∀ y, st.1 (i + 11) y = 0))) 46 455 (zA bs) := w_X1_init hK  (v_X1_init  hp)
