/-! CONSTRUCTORS: told -/
def eTd (R : Nat → Int → Option Nat) (i : Nat) : Prop := (R i 0 = some (i + 1) ∧ R i 4 = some (i + 2) ∧ R i 5 = some (i + 3) ∧ R i 6 = some (i + 4) ∧ R i 7 = some (i + 5)) ∧ (∀ z : Nat, z < 2 → R (i + 3) z = some (i + 6 + 8 * z) ∧ eNt R (i + 6 + 8 * z)) ∧ (∀ z : Nat, z < 2 → R (i + 4) z = some (i + 8 + 8 * z) ∧ eBk R (i + 8 + 8 * z)) ∧ ∀ z : Nat, z < 6 → R (i + 5) z = some (i + 22 + 2 * z) ∧ eRw R (i + 22 + 2 * z)
def z0Td (X : Nat → Int → Int) (i : Nat) : Prop := (X i 1 = 0 ∧ X i 2 = 0 ∧ X i 3 = -1) ∧ (∀ y, X (i + 1) y = 0) ∧ (∀ y, X (i + 2) y = 0) ∧ (∀ n : Nat, n < 2 → z0N X (i + 6 + 8 * n)) ∧ (∀ n : Nat, n < 2 → z0B X (i + 8 + 8 * n)) ∧ (∀ n : Nat, n < 2 → z0R X (i + 22 + 2 * n) 2 40) ∧ (∀ n : Nat, n < 2 → z0R X (i + 26 + 2 * n) 2 8) ∧ ∀ n : Nat, n < 2 → z0R X (i + 30 + 2 * n) 4 6
theorem eTd_mv {R R1 : Nat → Int → Option Nat} {i : Nat} (e : ∀ z, i ≤ z → z ≤ i + 33 → R1 z = R z) (h : eTd R i) : eTd R1 i := by
  have e0 := e i (by omega) (by omega)
  refine ⟨by rw [e0]; exact h.1, fun z hz => ?_, fun z hz => ?_, fun z hz => ?_⟩
  · rw [e (i + 3) (by omega) (by omega)]
    exact ⟨(h.2.1 z hz).1, eNt_mv (e _ (by omega) (by omega)) (h.2.1 z hz).2⟩
  · rw [e (i + 4) (by omega) (by omega)]
    exact ⟨(h.2.2.1 z hz).1, eBk_mv (e _ (by omega) (by omega)) (h.2.2.1 z hz).2⟩
  · rw [e (i + 5) (by omega) (by omega)]
    exact ⟨(h.2.2.2 z hz).1, eRw_mv (e _ (by omega) (by omega)) (h.2.2.2 z hz).2⟩
theorem z0B_mvr {X X1 : Nat → Int → Int} {i : Nat} (e : ∀ z, i ≤ z → z ≤ i + 5 → X1 z = X z) (h : z0B X i) : z0B X1 i :=
  z0B_mv (e _ (by omega) (by omega)) (e _ (by omega) (by omega)) (e _ (by omega) (by omega)) (e _ (by omega) (by omega)) (e _ (by omega) (by omega)) (e _ (by omega) (by omega)) h
theorem z0Td_mv {X X1 : Nat → Int → Int} {i : Nat} (e : ∀ z, i ≤ z → z ≤ i + 33 → X1 z = X z) (h : z0Td X i) : z0Td X1 i := by
  have e0 := e i (by omega) (by omega)
  refine ⟨by rw [e0]; exact h.1, by rw [e (i + 1) (by omega) (by omega)]; exact h.2.1, by rw [e (i + 2) (by omega) (by omega)]; exact h.2.2.1, fun n hn => ?_, fun n hn => ?_, fun n hn => ?_, fun n hn => ?_, fun n hn => ?_⟩
  · exact z0N_mv (e _ (by omega) (by omega)) (e _ (by omega) (by omega)) (h.2.2.2.1 n hn)
  · exact z0B_mvr (fun z g1 g2 => e z (by omega) (by omega)) (h.2.2.2.2.1 n hn)
  · exact z0R_mv (e _ (by omega) (by omega)) (e _ (by omega) (by omega)) (h.2.2.2.2.2.1 n hn)
  · exact z0R_mv (e _ (by omega) (by omega)) (e _ (by omega) (by omega)) (h.2.2.2.2.2.2.1 n hn)
  · exact z0R_mv (e _ (by omega) (by omega)) (e _ (by omega) (by omega)) (h.2.2.2.2.2.2.2 n hn)
theorem z0Rd_mv {X X1 : Nat → Int → Int} {i : Nat} (e : ∀ z, i ≤ z → z ≤ i + 17 → X1 z = X z) (h : z0Rd X i) : z0Rd X1 i :=
  ⟨z0N_mv (e _ (by omega) (by omega)) (e _ (by omega) (by omega)) h.1, z0B_mvr (fun z g1 g2 => e z (by omega) (by omega)) h.2.1, by rw [e (i + 11) (by omega) (by omega)]; exact h.2.2.1, z0R_mv (e _ (by omega) (by omega)) (e _ (by omega) (by omega)) h.2.2.2.1, z0R_mv (e _ (by omega) (by omega)) (e _ (by omega) (by omega)) h.2.2.2.2.1, z0R_mv (e _ (by omega) (by omega)) (e _ (by omega) (by omega)) h.2.2.2.2.2⟩
theorem eRd_mv {R R1 : Nat → Int → Option Nat} {i : Nat} (e : ∀ z, i ≤ z → z ≤ i + 17 → R1 z = R z) (h : eRd R i) : eRd R1 i := by
  have e0 := e i (by omega) (by omega)
  refine ⟨by rw [e0]; exact ⟨h.1.1, eNt_mv (e _ (by omega) (by omega)) h.1.2⟩, by rw [e0]; exact ⟨h.2.1.1, eBk_mv (e _ (by omega) (by omega)) h.2.1.2⟩, by rw [e0]; exact h.2.2.1, fun z hz => ?_⟩
  rw [e (i + 9) (by omega) (by omega)]
  exact ⟨(h.2.2.2 z hz).1, eRw_mv (e _ (by omega) (by omega)) (h.2.2.2 z hz).2⟩
theorem eFi_mv {R R1 : Nat → Int → Option Nat} {i : Nat} (e : ∀ z, i ≤ z → z ≤ i + 13 → R1 z = R z) (h : eFi R i) : eFi R1 i := by
  have e0 := e i (by omega) (by omega)
  refine ⟨by rw [e0]; exact ⟨h.1.1, eRw_mv (e _ (by omega) (by omega)) h.1.2⟩, by rw [e0]; exact h.2.1, fun z hz => ?_⟩
  rw [e (i + 3) (by omega) (by omega)]
  exact ⟨(h.2.2 z hz).1, eLd_mv (e _ (by omega) (by omega)) (h.2.2 z hz).2⟩
theorem eCh_mv {R R1 : Nat → Int → Option Nat} {i : Nat} (e : ∀ z, i ≤ z → z ≤ i + 46 → R1 z = R z) (h : eCh R i) : eCh R1 i := by
  have e0 := e i (by omega) (by omega)
  refine ⟨by rw [e0]; exact h.1, fun z hz => ?_, by rw [e0]; exact ⟨h.2.2.1.1, eNt_mv (e _ (by omega) (by omega)) h.2.2.1.2⟩, by rw [e0]; exact ⟨h.2.2.2.1, eBk_mv (e _ (by omega) (by omega)) h.2.2.2.2⟩⟩
  rw [e (i + 14) (by omega) (by omega)]
  exact ⟨(h.2.1 z hz).1, eLd_mv (e _ (by omega) (by omega)) (h.2.1 z hz).2⟩
abbrev cX9_init : ByteArray := prog_11_method_1_code
def yX9_init : MethodName := ⟨RX9, "<init>", "()V"⟩
theorem dX9_init_0 : decode cX9_init 0 = .ok (.aload_n 0, 1) := by decide +kernel
theorem dX9_init_1 : decode cX9_init 1 = .ok (.invokespecial 3, 3) := by decide +kernel
theorem dX9_init_4 : decode cX9_init 4 = .ok (.aload_n 0, 1) := by decide +kernel
theorem dX9_init_5 : decode cX9_init 5 = .ok (.sipush 600, 3) := by decide +kernel
theorem dX9_init_8 : decode cX9_init 8 = .ok (.newarray .byte, 2) := by decide +kernel
theorem dX9_init_10 : decode cX9_init 10 = .ok (.putfield 9, 3) := by decide +kernel
theorem dX9_init_13 : decode cX9_init 13 = .ok (.aload_n 0, 1) := by decide +kernel
theorem dX9_init_14 : decode cX9_init 14 = .ok (.iconst (-1), 1) := by decide +kernel
theorem dX9_init_15 : decode cX9_init 15 = .ok (.putfield 15, 3) := by decide +kernel
theorem dX9_init_18 : decode cX9_init 18 = .ok (.aload_n 0, 1) := by decide +kernel
theorem dX9_init_19 : decode cX9_init 19 = .ok (.iconst 5, 1) := by decide +kernel
theorem dX9_init_20 : decode cX9_init 20 = .ok (.newarray .int, 2) := by decide +kernel
theorem dX9_init_22 : decode cX9_init 22 = .ok (.putfield 19, 3) := by decide +kernel
theorem dX9_init_25 : decode cX9_init 25 = .ok (.aload_n 0, 1) := by decide +kernel
theorem dX9_init_26 : decode cX9_init 26 = .ok (.iconst 2, 1) := by decide +kernel
theorem dX9_init_27 : decode cX9_init 27 = .ok (.anewarray 23, 3) := by decide +kernel
theorem dX9_init_30 : decode cX9_init 30 = .ok (.putfield 25, 3) := by decide +kernel
theorem dX9_init_33 : decode cX9_init 33 = .ok (.aload_n 0, 1) := by decide +kernel
theorem dX9_init_34 : decode cX9_init 34 = .ok (.iconst 2, 1) := by decide +kernel
theorem dX9_init_35 : decode cX9_init 35 = .ok (.anewarray 29, 3) := by decide +kernel
theorem dX9_init_38 : decode cX9_init 38 = .ok (.putfield 31, 3) := by decide +kernel
theorem dX9_init_41 : decode cX9_init 41 = .ok (.aload_n 0, 1) := by decide +kernel
theorem dX9_init_42 : decode cX9_init 42 = .ok (.bipush 6, 2) := by decide +kernel
theorem dX9_init_44 : decode cX9_init 44 = .ok (.anewarray 35, 3) := by decide +kernel
theorem dX9_init_47 : decode cX9_init 47 = .ok (.putfield 37, 3) := by decide +kernel
theorem dX9_init_50 : decode cX9_init 50 = .ok (.iconst 0, 1) := by decide +kernel
theorem dX9_init_51 : decode cX9_init 51 = .ok (.istore_n 1, 1) := by decide +kernel
theorem dX9_init_52 : decode cX9_init 52 = .ok (.iload_n 1, 1) := by decide +kernel
theorem dX9_init_53 : decode cX9_init 53 = .ok (.iconst 2, 1) := by decide +kernel
theorem dX9_init_54 : decode cX9_init 54 = .ok (.if_icmp .ge 35, 3) := by decide +kernel
theorem dX9_init_57 : decode cX9_init 57 = .ok (.aload_n 0, 1) := by decide +kernel
theorem dX9_init_58 : decode cX9_init 58 = .ok (.getfield 25, 3) := by decide +kernel
theorem dX9_init_61 : decode cX9_init 61 = .ok (.iload_n 1, 1) := by decide +kernel
theorem dX9_init_62 : decode cX9_init 62 = .ok (.new 23, 3) := by decide +kernel
theorem dX9_init_65 : decode cX9_init 65 = .ok (.dup, 1) := by decide +kernel
theorem dX9_init_66 : decode cX9_init 66 = .ok (.invokespecial 41, 3) := by decide +kernel
theorem dX9_init_69 : decode cX9_init 69 = .ok (.aastore, 1) := by decide +kernel
theorem dX9_init_70 : decode cX9_init 70 = .ok (.aload_n 0, 1) := by decide +kernel
theorem dX9_init_71 : decode cX9_init 71 = .ok (.getfield 31, 3) := by decide +kernel
theorem dX9_init_74 : decode cX9_init 74 = .ok (.iload_n 1, 1) := by decide +kernel
theorem dX9_init_75 : decode cX9_init 75 = .ok (.new 29, 3) := by decide +kernel
theorem dX9_init_78 : decode cX9_init 78 = .ok (.dup, 1) := by decide +kernel
theorem dX9_init_79 : decode cX9_init 79 = .ok (.invokespecial 42, 3) := by decide +kernel
theorem dX9_init_82 : decode cX9_init 82 = .ok (.aastore, 1) := by decide +kernel
theorem dX9_init_83 : decode cX9_init 83 = .ok (.iinc 1 1, 3) := by decide +kernel
theorem dX9_init_86 : decode cX9_init 86 = .ok (.goto (-34), 3) := by decide +kernel
theorem dX9_init_89 : decode cX9_init 89 = .ok (.iconst 0, 1) := by decide +kernel
theorem dX9_init_90 : decode cX9_init 90 = .ok (.istore_n 1, 1) := by decide +kernel
theorem dX9_init_91 : decode cX9_init 91 = .ok (.iload_n 1, 1) := by decide +kernel
theorem dX9_init_92 : decode cX9_init 92 = .ok (.aload_n 0, 1) := by decide +kernel
theorem dX9_init_93 : decode cX9_init 93 = .ok (.getfield 37, 3) := by decide +kernel
theorem dX9_init_96 : decode cX9_init 96 = .ok (.arraylength, 1) := by decide +kernel
theorem dX9_init_97 : decode cX9_init 97 = .ok (.if_icmp .ge 27, 3) := by decide +kernel
theorem dX9_init_100 : decode cX9_init 100 = .ok (.aload_n 0, 1) := by decide +kernel
theorem dX9_init_101 : decode cX9_init 101 = .ok (.getfield 37, 3) := by decide +kernel
theorem dX9_init_104 : decode cX9_init 104 = .ok (.iload_n 1, 1) := by decide +kernel
theorem dX9_init_105 : decode cX9_init 105 = .ok (.new 35, 3) := by decide +kernel
theorem dX9_init_108 : decode cX9_init 108 = .ok (.dup, 1) := by decide +kernel
theorem dX9_init_109 : decode cX9_init 109 = .ok (.iconst 2, 1) := by decide +kernel
theorem dX9_init_110 : decode cX9_init 110 = .ok (.iload_n 1, 1) := by decide +kernel
theorem dX9_init_111 : decode cX9_init 111 = .ok (.iconst 2, 1) := by decide +kernel
theorem dX9_init_112 : decode cX9_init 112 = .ok (.idiv, 1) := by decide +kernel
theorem dX9_init_113 : decode cX9_init 113 = .ok (.iadd, 1) := by decide +kernel
theorem dX9_init_114 : decode cX9_init 114 = .ok (.invokespecial 43, 3) := by decide +kernel
theorem dX9_init_117 : decode cX9_init 117 = .ok (.aastore, 1) := by decide +kernel
theorem dX9_init_118 : decode cX9_init 118 = .ok (.iinc 1 1, 3) := by decide +kernel
theorem dX9_init_121 : decode cX9_init 121 = .ok (.goto (-30), 3) := by decide +kernel
theorem dX9_init_124 : decode cX9_init 124 = .ok (.return_, 1) := by decide +kernel
theorem q_161 : Cond.methodLink RX9 3 Lib.objectInit ∈ zTB := zmem 161 (by decide +kernel) rfl
theorem q_162 : Cond.classLink RX9 23 RX6 ∈ zTB := zmem 162 (by decide +kernel) rfl
theorem q_164 : Cond.classLink RX9 29 RX0 ∈ zTB := zmem 164 (by decide +kernel) rfl
theorem q_166 : Cond.classLink RX9 35 RX8 ∈ zTB := zmem 166 (by decide +kernel) rfl
theorem q_169 : Cond.methodLink RX9 41 yX6_init ∈ zTB := zmem 169 (by decide +kernel) rfl
theorem k_RX9_41 : zLi RX9 41 yX6_init cX6_init 1 0 := ⟨⟨q_169, q_170, q_131, q_171⟩, rfl, ⟨by decide, by decide⟩, by decide +kernel⟩
theorem k_RX9_42 : zLiN RX9 42 yX0_init "WorkChains" cX0_init 1 0 := ⟨⟨by decide +kernel, q_221, q_132, q_222⟩, rfl, ⟨by decide, by decide⟩, by decide +kernel⟩
theorem q_255 : Cond.methodLink RX9 43 yX8_init ∈ zTB := zmem 255 (by decide +kernel) rfl
theorem k_RX9_43 : zLi RX9 43 yX8_init cX8_init 2 1 := ⟨⟨q_255, q_256, q_133, q_257⟩, rfl, ⟨by decide, by decide⟩, by decide +kernel⟩
set_option maxHeartbeats 4000000 in
set_option maxRecDepth 100000 in
def F_X9_init (i : Nat) (X Y : Nat → Int → Int) (R : Nat → Int → Option Nat)  : Prop := (∀ i j, rI (X i j)) → (∀ i j, rL (Y i j)) → ∀ X1 : Nat → Int → Int, X1 = zZ X (i + 1) 0 → (∀ i j, rI (X1 i j)) → (∀ R2 : Nat → Int → Option Nat, R2 = zU R (i) 0 (some ((i + 1))) → (∀ X3 : Nat → Int → Int, X3 = zU X1 (i) 3 ((-1)) → (∀ i j, rI (X3 i j)) → (∀ X4 : Nat → Int → Int, X4 = zZ X3 (i + 2) 0 → (∀ i j, rI (X4 i j)) → (∀ R5 : Nat → Int → Option Nat, R5 = zU R2 (i) 4 (some ((i + 2))) → (∀ R6 : Nat → Int → Option Nat, R6 = zZ R5 (i + 3) none → (∀ R7 : Nat → Int → Option Nat, R7 = zU R6 (i) 5 (some ((i + 3))) → (∀ R8 : Nat → Int → Option Nat, R8 = zZ R7 (i + 4) none → (∀ R9 : Nat → Int → Option Nat, R9 = zU R8 (i) 6 (some ((i + 4))) → (∀ R10 : Nat → Int → Option Nat, R10 = zZ R9 (i + 5) none → (∀ R11 : Nat → Int → Option Nat, R11 = zU R10 (i) 7 (some ((i + 5))) → ((R11 i 5 = some (i + 3)) ∧ (∀ X14 : Nat → Int → Int, X14 = zZ X4 (i + 6) 0 → (∀ i j, rI (X14 i j)) → (∀ Y15 : Nat → Int → Int, Y15 = zZ Y (i + 6) 0 → (∀ i j, rL (Y15 i j)) → (∀ R16 : Nat → Int → Option Nat, R16 = zZ R11 (i + 6) none → ((X14 (i + 6) = fun _ => 0) ∧ (∀ X18 : Nat → Int → Int, (∀ i j, rI (X18 i j)) → ∀ R19 : Nat → Int → Option Nat, ((∀ z, z ≠ (i + 6) → z ≠ i + 7 → X18 z = X14 z) ∧ (∀ z, z ≠ (i + 6) → R19 z = R16 z) ∧ eNt R19 (i + 6) ∧ z0N X18 (i + 6)) → (∀ R20 : Nat → Int → Option Nat, R20 = zU R19 ((i + 3)) (0) (some ((i + 6))) → ((R20 i 6 = some (i + 4)) ∧ (∀ X22 : Nat → Int → Int, X22 = zZ X18 (i + 8) 0 → (∀ i j, rI (X22 i j)) → (∀ Y23 : Nat → Int → Int, Y23 = zZ Y15 (i + 8) 0 → (∀ i j, rL (Y23 i j)) → (∀ R24 : Nat → Int → Option Nat, R24 = zZ R20 (i + 8) none → ((X22 (i + 8) = fun _ => 0) ∧ (∀ X26 : Nat → Int → Int, (∀ i j, rI (X26 i j)) → ∀ R27 : Nat → Int → Option Nat, ((∀ z, (z < (i + 8) ∨ (i + 8) + 5 < z) → X26 z = X22 z) ∧ (∀ z, z ≠ (i + 8) → R27 z = R24 z) ∧ eBk R27 (i + 8) ∧ z0B X26 (i + 8)) → (∀ R28 : Nat → Int → Option Nat, R28 = zU R27 ((i + 4)) (0) (some ((i + 8))) → ((R28 i 5 = some (i + 3)) ∧ (∀ X31 : Nat → Int → Int, X31 = zZ X26 (i + 14) 0 → (∀ i j, rI (X31 i j)) → (∀ Y32 : Nat → Int → Int, Y32 = zZ Y23 (i + 14) 0 → (∀ i j, rL (Y32 i j)) → (∀ R33 : Nat → Int → Option Nat, R33 = zZ R28 (i + 14) none → ((X31 (i + 14) = fun _ => 0) ∧ (∀ X35 : Nat → Int → Int, (∀ i j, rI (X35 i j)) → ∀ R36 : Nat → Int → Option Nat, ((∀ z, z ≠ (i + 14) → z ≠ i + 15 → X35 z = X31 z) ∧ (∀ z, z ≠ (i + 14) → R36 z = R33 z) ∧ eNt R36 (i + 14) ∧ z0N X35 (i + 14)) → (∀ R37 : Nat → Int → Option Nat, R37 = zU R36 ((i + 3)) (1) (some ((i + 14))) → ((R37 i 6 = some (i + 4)) ∧ (∀ X39 : Nat → Int → Int, X39 = zZ X35 (i + 16) 0 → (∀ i j, rI (X39 i j)) → (∀ Y40 : Nat → Int → Int, Y40 = zZ Y32 (i + 16) 0 → (∀ i j, rL (Y40 i j)) → (∀ R41 : Nat → Int → Option Nat, R41 = zZ R37 (i + 16) none → ((X39 (i + 16) = fun _ => 0) ∧ (∀ X43 : Nat → Int → Int, (∀ i j, rI (X43 i j)) → ∀ R44 : Nat → Int → Option Nat, ((∀ z, (z < (i + 16) ∨ (i + 16) + 5 < z) → X43 z = X39 z) ∧ (∀ z, z ≠ (i + 16) → R44 z = R41 z) ∧ eBk R44 (i + 16) ∧ z0B X43 (i + 16)) → (∀ R45 : Nat → Int → Option Nat, R45 = zU R44 ((i + 4)) (1) (some ((i + 16))) → ((R45 i 7 = some (i + 5)) ∧ ((R45 i 7 = some (i + 5)) ∧ (∀ X50 : Nat → Int → Int, X50 = zZ X43 (i + 22) 0 → (∀ i j, rI (X50 i j)) → (∀ Y51 : Nat → Int → Int, Y51 = zZ Y40 (i + 22) 0 → (∀ i j, rL (Y51 i j)) → (∀ R52 : Nat → Int → Option Nat, R52 = zZ R45 (i + 22) none → ((X50 (i + 22) = fun _ => 0) ∧ (∀ X54 : Nat → Int → Int, (∀ i j, rI (X54 i j)) → ∀ R55 : Nat → Int → Option Nat, ((∀ z, z ≠ (i + 22) → z ≠ i + 23 → X54 z = X50 z) ∧ (∀ z, z ≠ (i + 22) → R55 z = R52 z) ∧ eRw R55 (i + 22) ∧ z0R X54 (i + 22) 2 40) → (∀ R56 : Nat → Int → Option Nat, R56 = zU R55 ((i + 5)) (0) (some ((i + 22))) → ((R56 i 7 = some (i + 5)) ∧ ((R56 i 7 = some (i + 5)) ∧ (∀ X60 : Nat → Int → Int, X60 = zZ X54 (i + 24) 0 → (∀ i j, rI (X60 i j)) → (∀ Y61 : Nat → Int → Int, Y61 = zZ Y51 (i + 24) 0 → (∀ i j, rL (Y61 i j)) → (∀ R62 : Nat → Int → Option Nat, R62 = zZ R56 (i + 24) none → ((X60 (i + 24) = fun _ => 0) ∧ (∀ X64 : Nat → Int → Int, (∀ i j, rI (X64 i j)) → ∀ R65 : Nat → Int → Option Nat, ((∀ z, z ≠ (i + 24) → z ≠ i + 25 → X64 z = X60 z) ∧ (∀ z, z ≠ (i + 24) → R65 z = R62 z) ∧ eRw R65 (i + 24) ∧ z0R X64 (i + 24) 2 40) → (∀ R66 : Nat → Int → Option Nat, R66 = zU R65 ((i + 5)) (1) (some ((i + 24))) → ((R66 i 7 = some (i + 5)) ∧ ((R66 i 7 = some (i + 5)) ∧ (∀ X70 : Nat → Int → Int, X70 = zZ X64 (i + 26) 0 → (∀ i j, rI (X70 i j)) → (∀ Y71 : Nat → Int → Int, Y71 = zZ Y61 (i + 26) 0 → (∀ i j, rL (Y71 i j)) → (∀ R72 : Nat → Int → Option Nat, R72 = zZ R66 (i + 26) none → ((X70 (i + 26) = fun _ => 0) ∧ (∀ X74 : Nat → Int → Int, (∀ i j, rI (X74 i j)) → ∀ R75 : Nat → Int → Option Nat, ((∀ z, z ≠ (i + 26) → z ≠ i + 27 → X74 z = X70 z) ∧ (∀ z, z ≠ (i + 26) → R75 z = R72 z) ∧ eRw R75 (i + 26) ∧ z0R X74 (i + 26) 2 8) → (∀ R76 : Nat → Int → Option Nat, R76 = zU R75 ((i + 5)) (2) (some ((i + 26))) → ((R76 i 7 = some (i + 5)) ∧ ((R76 i 7 = some (i + 5)) ∧ (∀ X80 : Nat → Int → Int, X80 = zZ X74 (i + 28) 0 → (∀ i j, rI (X80 i j)) → (∀ Y81 : Nat → Int → Int, Y81 = zZ Y71 (i + 28) 0 → (∀ i j, rL (Y81 i j)) → (∀ R82 : Nat → Int → Option Nat, R82 = zZ R76 (i + 28) none → ((X80 (i + 28) = fun _ => 0) ∧ (∀ X84 : Nat → Int → Int, (∀ i j, rI (X84 i j)) → ∀ R85 : Nat → Int → Option Nat, ((∀ z, z ≠ (i + 28) → z ≠ i + 29 → X84 z = X80 z) ∧ (∀ z, z ≠ (i + 28) → R85 z = R82 z) ∧ eRw R85 (i + 28) ∧ z0R X84 (i + 28) 2 8) → (∀ R86 : Nat → Int → Option Nat, R86 = zU R85 ((i + 5)) (3) (some ((i + 28))) → ((R86 i 7 = some (i + 5)) ∧ ((R86 i 7 = some (i + 5)) ∧ (∀ X90 : Nat → Int → Int, X90 = zZ X84 (i + 30) 0 → (∀ i j, rI (X90 i j)) → (∀ Y91 : Nat → Int → Int, Y91 = zZ Y81 (i + 30) 0 → (∀ i j, rL (Y91 i j)) → (∀ R92 : Nat → Int → Option Nat, R92 = zZ R86 (i + 30) none → ((X90 (i + 30) = fun _ => 0) ∧ (∀ X94 : Nat → Int → Int, (∀ i j, rI (X94 i j)) → ∀ R95 : Nat → Int → Option Nat, ((∀ z, z ≠ (i + 30) → z ≠ i + 31 → X94 z = X90 z) ∧ (∀ z, z ≠ (i + 30) → R95 z = R92 z) ∧ eRw R95 (i + 30) ∧ z0R X94 (i + 30) 4 6) → (∀ R96 : Nat → Int → Option Nat, R96 = zU R95 ((i + 5)) (4) (some ((i + 30))) → ((R96 i 7 = some (i + 5)) ∧ ((R96 i 7 = some (i + 5)) ∧ (∀ X100 : Nat → Int → Int, X100 = zZ X94 (i + 32) 0 → (∀ i j, rI (X100 i j)) → (∀ Y101 : Nat → Int → Int, Y101 = zZ Y91 (i + 32) 0 → (∀ i j, rL (Y101 i j)) → (∀ R102 : Nat → Int → Option Nat, R102 = zZ R96 (i + 32) none → ((X100 (i + 32) = fun _ => 0) ∧ (∀ X104 : Nat → Int → Int, (∀ i j, rI (X104 i j)) → ∀ R105 : Nat → Int → Option Nat, ((∀ z, z ≠ (i + 32) → z ≠ i + 33 → X104 z = X100 z) ∧ (∀ z, z ≠ (i + 32) → R105 z = R102 z) ∧ eRw R105 (i + 32) ∧ z0R X104 (i + 32) 4 6) → (∀ R106 : Nat → Int → Option Nat, R106 = zU R105 ((i + 5)) (5) (some ((i + 32))) → ((R106 i 7 = some (i + 5)) ∧ ((∀ z, (z < i ∨ i + 33 < z) → X104 z = X z) ∧ (∀ z, (z < i ∨ i + 33 < z) → R106 z = R z) ∧ eTd R106 i ∧ z0Td X104 i))))))))))))))))))))))))))))))))))))))))))))))))))))))))))))))))))))))))))))))))))))))))
set_option maxHeartbeats 4000000 in
set_option maxRecDepth 100000 in
theorem w_X9_init {l : Launch} {D : va_G} {cy : Nat → ClassId} {bs : Nat} {sa : Nat → Nat} {kd len : Nat → Nat} {X Y : Nat → Int → Int} {R : Nat → Int → Option Nat} {i : Nat} (hK : kT kd len i tTold)  (hF : F_X9_init i X Y R ) : Met l yX9_init (.code yX9_init cX9_init 2 none :: zTB) (zRmG 2 81 33 1309) (zPcA D cy bs sa (i + 1) kd len X Y R [.ref (bs + (i))]) (zQv D cy bs (i + 34) kd len (fun st => ((∀ z, (z < i ∨ i + 33 < z) → st.1 z = X z) ∧ (∀ z, (z < i ∨ i + 33 < z) → st.2.2 z = R z) ∧ eTd st.2.2 i ∧ z0Td st.1 i))) 33 1309 (zA bs) := by
  refine zstartGA (by decide) (Nat.le_of_ble_eq_true rfl) ?_
  intro p e s m args below meth c ls C hE hA hH hr hlk hnm hl hargs
  have hF := hF hH.2.2.1 hH.2.2.2
  have hS : va_S (zA bs) s.heap s.heap [] := va_S.rf
  have hl : lv_has ls 2 [(0, .ref (bs + (i)))] := hl
  refine lv_aload_n C.1 C.2.1 dX9_init_0 rfl (lv_at hl 0 rfl) ?_
  refine zd_oinit C hl.1 q_161 q_154 q_155 (Nat.le_of_ble_eq_true rfl) dX9_init_1 (Nat.le_of_ble_eq_true rfl) (Nat.le_of_ble_eq_true rfl) ?_
  refine lv_aload_n C.1 C.2.1 dX9_init_4 rfl (lv_at hl 0 rfl) ?_
  refine zd_sipush C (by decide) dX9_init_5 ?_
  refine zd_newB C hH hS q_217 (n := 600) rfl (by decide) (kT_k (k := 12) (l := 600) hK 1 (by decide +kernel)) (kT_l (k := 12) (l := 600) hK 1 (by decide +kernel)) (Nat.le_of_ble_eq_true rfl) (Nat.le_of_ble_eq_true rfl) dX9_init_8 (fun H hH hS => ?_)
  obtain ⟨X1, eX1⟩ : ∃ z, z = zZ X (i + 1) 0 := ⟨_, rfl⟩
  rw [← eX1] at hH
  have hF := hF X1 eX1 hH.2.2.1
  refine zp9_0 C hH hS (by omega) (kT_0 (k := 9) (l := 0) hK (by decide +kernel)) q_279 hnm rfl dX9_init_10 (fun H locs hH hS => ?_)
  obtain ⟨R2, eR2⟩ : ∃ z, z = zU R (i) 0 (some ((i + 1))) := ⟨_, rfl⟩
  rw [← eR2] at hH
  have hF := hF R2 eR2
  refine lv_aload_n C.1 C.2.1 dX9_init_13 rfl (lv_at hl 0 rfl) ?_
  refine zd_iconst C dX9_init_14 ?_
  refine zp9_3 C hH hS (by omega) (kT_0 (k := 9) (l := 0) hK (by decide +kernel)) q_285 (by decide) dX9_init_15 (fun H locs hH hS => ?_)
  obtain ⟨X3, eX3⟩ : ∃ z, z = zU X1 (i) 3 ((-1)) := ⟨_, rfl⟩
  rw [← eX3] at hH
  have hF := hF X3 eX3 hH.2.2.1
  refine lv_aload_n C.1 C.2.1 dX9_init_18 rfl (lv_at hl 0 rfl) ?_
  refine zd_iconst C dX9_init_19 ?_
  refine zd_newI C hH hS q_218 (n := 5) rfl (by decide) (kT_k (k := 13) (l := 5) hK 2 (by decide +kernel)) (kT_l (k := 13) (l := 5) hK 2 (by decide +kernel)) (Nat.le_of_ble_eq_true rfl) (Nat.le_of_ble_eq_true rfl) dX9_init_20 (fun H hH hS => ?_)
  obtain ⟨X4, eX4⟩ : ∃ z, z = zZ X3 (i + 2) 0 := ⟨_, rfl⟩
  rw [← eX4] at hH
  have hF := hF X4 eX4 hH.2.2.1
  refine zp9_4 C hH hS (by omega) (kT_0 (k := 9) (l := 0) hK (by decide +kernel)) q_287 hnm rfl dX9_init_22 (fun H locs hH hS => ?_)
  obtain ⟨R5, eR5⟩ : ∃ z, z = zU R2 (i) 4 (some ((i + 2))) := ⟨_, rfl⟩
  rw [← eR5] at hH
  have hF := hF R5 eR5
  refine lv_aload_n C.1 C.2.1 dX9_init_25 rfl (lv_at hl 0 rfl) ?_
  refine zd_iconst C dX9_init_26 ?_
  refine zd_newR (k := 2) C hH hS q_162 hA.1.2.2.1 rfl (n := 2) rfl (by decide) (kT_k (k := 18) (l := 2) hK 3 (by decide +kernel)) (kT_l (k := 18) (l := 2) hK 3 (by decide +kernel)) (Nat.le_of_ble_eq_true rfl) (Nat.le_of_ble_eq_true rfl) dX9_init_27 (fun H hH hS => ?_)
  obtain ⟨R6, eR6⟩ : ∃ z, z = zZ R5 (i + 3) none := ⟨_, rfl⟩
  rw [← eR6] at hH
  have hF := hF R6 eR6
  refine zp9_5 C hH hS (by omega) (kT_0 (k := 9) (l := 0) hK (by decide +kernel)) q_289 hnm rfl dX9_init_30 (fun H locs hH hS => ?_)
  obtain ⟨R7, eR7⟩ : ∃ z, z = zU R6 (i) 5 (some ((i + 3))) := ⟨_, rfl⟩
  rw [← eR7] at hH
  have hF := hF R7 eR7
  refine lv_aload_n C.1 C.2.1 dX9_init_33 rfl (lv_at hl 0 rfl) ?_
  refine zd_iconst C dX9_init_34 ?_
  refine zd_newR (k := 0) C hH hS q_164 hA.1.1 rfl (n := 2) rfl (by decide) (kT_k (k := 16) (l := 2) hK 4 (by decide +kernel)) (kT_l (k := 16) (l := 2) hK 4 (by decide +kernel)) (Nat.le_of_ble_eq_true rfl) (Nat.le_of_ble_eq_true rfl) dX9_init_35 (fun H hH hS => ?_)
  obtain ⟨R8, eR8⟩ : ∃ z, z = zZ R7 (i + 4) none := ⟨_, rfl⟩
  rw [← eR8] at hH
  have hF := hF R8 eR8
  refine zp9_6 C hH hS (by omega) (kT_0 (k := 9) (l := 0) hK (by decide +kernel)) q_290 hnm rfl dX9_init_38 (fun H locs hH hS => ?_)
  obtain ⟨R9, eR9⟩ : ∃ z, z = zU R8 (i) 6 (some ((i + 4))) := ⟨_, rfl⟩
  rw [← eR9] at hH
  have hF := hF R9 eR9
  refine lv_aload_n C.1 C.2.1 dX9_init_41 rfl (lv_at hl 0 rfl) ?_
  refine zd_bipush C (by decide) dX9_init_42 ?_
  refine zd_newR (k := 3) C hH hS q_166 hA.1.2.2.2.1 rfl (n := 6) rfl (by decide) (kT_k (k := 19) (l := 6) hK 5 (by decide +kernel)) (kT_l (k := 19) (l := 6) hK 5 (by decide +kernel)) (Nat.le_of_ble_eq_true rfl) (Nat.le_of_ble_eq_true rfl) dX9_init_44 (fun H hH hS => ?_)
  obtain ⟨R10, eR10⟩ : ∃ z, z = zZ R9 (i + 5) none := ⟨_, rfl⟩
  rw [← eR10] at hH
  have hF := hF R10 eR10
  refine zp9_7 C hH hS (by omega) (kT_0 (k := 9) (l := 0) hK (by decide +kernel)) q_291 hnm rfl dX9_init_47 (fun H locs hH hS => ?_)
  obtain ⟨R11, eR11⟩ : ∃ z, z = zU R10 (i) 7 (some ((i + 5))) := ⟨_, rfl⟩
  rw [← eR11] at hH
  have hF := hF R11 eR11
  refine zd_iconst C dX9_init_50 ?_
  refine lv_istore_n (lv' := [(1, .int (zI (0))), (0, .ref (bs + (i)))]) C.1 C.2.1 dX9_init_51 rfl hl (by decide) rfl (fun ls hl => ?_)
  refine lv_iload_n C.1 C.2.1 dX9_init_52 rfl (lv_at hl 0 rfl) ?_
  refine zd_iconst C dX9_init_53 ?_
  refine zd_icmp_ge C (by decide) (by decide) 89 dX9_init_54 (by decide) (fun c12 => ?_) (fun c12 => ?_)
  · exact absurd c12 (by decide)
  · refine lv_aload_n C.1 C.2.1 dX9_init_57 rfl (lv_at hl 1 rfl) ?_
    obtain ⟨o13, hF⟩ := hF
    refine zg9_5 C hH (by omega) (kT_0 (k := 9) (l := 0) hK (by decide +kernel)) q_289 o13 dX9_init_58 ?_
    refine lv_iload_n C.1 C.2.1 dX9_init_61 rfl (lv_at hl 0 rfl) ?_
    refine zd_newO C hH hS (ci := 6) rfl zin6 tyX6 tyX6_ok q_162 q_168 q_131 (kT_k (k := 6) (l := 0) hK 6 (by decide +kernel)) rfl zO6 (Nat.le_of_ble_eq_true rfl) (Nat.le_of_ble_eq_true rfl) dX9_init_62 (fun H hH hS => ?_)
    obtain ⟨X14, eX14⟩ : ∃ z, z = zZ X4 (i + 6) 0 := ⟨_, rfl⟩
    rw [← eX14] at hH
    have hF := hF X14 eX14 hH.2.2.1
    obtain ⟨Y15, eY15⟩ : ∃ z, z = zZ Y (i + 6) 0 := ⟨_, rfl⟩
    rw [← eY15] at hH
    have hF := hF Y15 eY15 hH.2.2.2
    obtain ⟨R16, eR16⟩ : ∃ z, z = zZ R11 (i + 6) none := ⟨_, rfl⟩
    rw [← eR16] at hH
    have hF := hF R16 eR16
    refine lv_dup C.1 C.2.1 dX9_init_65 rfl ?_
    obtain ⟨o17, hF⟩ := hF
    refine zgovG (zrunIG (As := []) (rest := [.ref (bs + ((i + 6))), .int (zI (0)), .ref (bs + ((i + 3)))]) C hE hA hH hS hl.1 (c_X6_init (l := l) (kT_sub hK 6 tNet (by decide +kernel))  o17) k_RX9_41 ⟨Nat.le_of_ble_eq_true rfl, Nat.le_of_ble_eq_true rfl⟩ rfl (Nat.le_of_ble_eq_true rfl) dX9_init_66 ⟨Nat.le_of_ble_eq_true rfl, Nat.le_of_ble_eq_true rfl⟩) hS (fun X18 Yq R19 H locs hq hH hS => ?_)
    obtain ⟨h9Y, hq⟩ := hq
    dsimp only at h9Y
    rw [h9Y] at hH
    have hF := hF X18 hH.2.2.1 R19 hq
    refine zd_aastr (k := 2) (ci := 6) C hH hS (by omega) (kT_k (k := 18) (l := 2) hK 3 (by decide +kernel)) (by omega) (kT_k (k := 6) (l := 0) hK 6 (by decide +kernel)) rfl rfl rfl (by decide) (by rw [(kT_l (k := 18) (l := 2) hK 3 (by decide +kernel))]; decide) (by rw [(kT_l (k := 18) (l := 2) hK 3 (by decide +kernel))]; decide) dX9_init_69 (fun H locs hH hS => ?_)
    obtain ⟨R20, eR20⟩ : ∃ z, z = zU R19 ((i + 3)) (0) (some ((i + 6))) := ⟨_, rfl⟩
    rw [← eR20] at hH
    have hF := hF R20 eR20
    refine lv_aload_n C.1 C.2.1 dX9_init_70 rfl (lv_at hl 1 rfl) ?_
    obtain ⟨o21, hF⟩ := hF
    refine zg9_6 C hH (by omega) (kT_0 (k := 9) (l := 0) hK (by decide +kernel)) q_290 o21 dX9_init_71 ?_
    refine lv_iload_n C.1 C.2.1 dX9_init_74 rfl (lv_at hl 0 rfl) ?_
    refine zd_newO C hH hS (ci := 0) rfl zin0 tyX0 tyX0_ok q_164 q_219 q_132 (kT_k (k := 0) (l := 0) hK 8 (by decide +kernel)) rfl zO0 (Nat.le_of_ble_eq_true rfl) (Nat.le_of_ble_eq_true rfl) dX9_init_75 (fun H hH hS => ?_)
    obtain ⟨X22, eX22⟩ : ∃ z, z = zZ X18 (i + 8) 0 := ⟨_, rfl⟩
    rw [← eX22] at hH
    have hF := hF X22 eX22 hH.2.2.1
    obtain ⟨Y23, eY23⟩ : ∃ z, z = zZ Y15 (i + 8) 0 := ⟨_, rfl⟩
    rw [← eY23] at hH
    have hF := hF Y23 eY23 hH.2.2.2
    obtain ⟨R24, eR24⟩ : ∃ z, z = zZ R20 (i + 8) none := ⟨_, rfl⟩
    rw [← eR24] at hH
    have hF := hF R24 eR24
    refine lv_dup C.1 C.2.1 dX9_init_78 rfl ?_
    obtain ⟨o25, hF⟩ := hF
    refine zgovG (zrunING (As := []) (rest := [.ref (bs + ((i + 8))), .int (zI (0)), .ref (bs + ((i + 4)))]) C hE hA hH hS hl.1 (c_X0_init (l := l) (kT_sub hK 8 tBlocks (by decide +kernel))  o25) k_RX9_42 ⟨Nat.le_of_ble_eq_true rfl, Nat.le_of_ble_eq_true rfl⟩ rfl (Nat.le_of_ble_eq_true rfl) dX9_init_79 ⟨Nat.le_of_ble_eq_true rfl, Nat.le_of_ble_eq_true rfl⟩) hS (fun X26 Yq R27 H locs hq hH hS => ?_)
    obtain ⟨h9Y, hq⟩ := hq
    dsimp only at h9Y
    rw [h9Y] at hH
    have hF := hF X26 hH.2.2.1 R27 hq
    refine zd_aastr (k := 0) (ci := 0) C hH hS (by omega) (kT_k (k := 16) (l := 2) hK 4 (by decide +kernel)) (by omega) (kT_k (k := 0) (l := 0) hK 8 (by decide +kernel)) rfl rfl rfl (by decide) (by rw [(kT_l (k := 16) (l := 2) hK 4 (by decide +kernel))]; decide) (by rw [(kT_l (k := 16) (l := 2) hK 4 (by decide +kernel))]; decide) dX9_init_82 (fun H locs hH hS => ?_)
    obtain ⟨R28, eR28⟩ : ∃ z, z = zU R27 ((i + 4)) (0) (some ((i + 8))) := ⟨_, rfl⟩
    rw [← eR28] at hH
    have hF := hF R28 eR28
    refine zd_iinc (k := 0) (lv' := [(1, .int (zI (1))), (0, .ref (bs + (i)))]) C hl rfl dX9_init_83 (by decide) rfl (fun ls hl => ?_)
    refine lv_goto (tgt := 52) C.1 C.2.1 dX9_init_86 (by decide) ?_
    refine lv_iload_n C.1 C.2.1 dX9_init_52 rfl (lv_at hl 0 rfl) ?_
    refine zd_iconst C dX9_init_53 ?_
    refine zd_icmp_ge C (by decide) (by decide) 89 dX9_init_54 (by decide) (fun c29 => ?_) (fun c29 => ?_)
    · exact absurd c29 (by decide)
    · refine lv_aload_n C.1 C.2.1 dX9_init_57 rfl (lv_at hl 1 rfl) ?_
      obtain ⟨o30, hF⟩ := hF
      refine zg9_5 C hH (by omega) (kT_0 (k := 9) (l := 0) hK (by decide +kernel)) q_289 o30 dX9_init_58 ?_
      refine lv_iload_n C.1 C.2.1 dX9_init_61 rfl (lv_at hl 0 rfl) ?_
      refine zd_newO C hH hS (ci := 6) rfl zin6 tyX6 tyX6_ok q_162 q_168 q_131 (kT_k (k := 6) (l := 0) hK 14 (by decide +kernel)) rfl zO6 (Nat.le_of_ble_eq_true rfl) (Nat.le_of_ble_eq_true rfl) dX9_init_62 (fun H hH hS => ?_)
      obtain ⟨X31, eX31⟩ : ∃ z, z = zZ X26 (i + 14) 0 := ⟨_, rfl⟩
      rw [← eX31] at hH
      have hF := hF X31 eX31 hH.2.2.1
      obtain ⟨Y32, eY32⟩ : ∃ z, z = zZ Y23 (i + 14) 0 := ⟨_, rfl⟩
      rw [← eY32] at hH
      have hF := hF Y32 eY32 hH.2.2.2
      obtain ⟨R33, eR33⟩ : ∃ z, z = zZ R28 (i + 14) none := ⟨_, rfl⟩
      rw [← eR33] at hH
      have hF := hF R33 eR33
      refine lv_dup C.1 C.2.1 dX9_init_65 rfl ?_
      obtain ⟨o34, hF⟩ := hF
      refine zgovG (zrunIG (As := []) (rest := [.ref (bs + ((i + 14))), .int (zI (1)), .ref (bs + ((i + 3)))]) C hE hA hH hS hl.1 (c_X6_init (l := l) (kT_sub hK 14 tNet (by decide +kernel))  o34) k_RX9_41 ⟨Nat.le_of_ble_eq_true rfl, Nat.le_of_ble_eq_true rfl⟩ rfl (Nat.le_of_ble_eq_true rfl) dX9_init_66 ⟨Nat.le_of_ble_eq_true rfl, Nat.le_of_ble_eq_true rfl⟩) hS (fun X35 Yq R36 H locs hq hH hS => ?_)
      obtain ⟨h9Y, hq⟩ := hq
      dsimp only at h9Y
      rw [h9Y] at hH
      have hF := hF X35 hH.2.2.1 R36 hq
      refine zd_aastr (k := 2) (ci := 6) C hH hS (by omega) (kT_k (k := 18) (l := 2) hK 3 (by decide +kernel)) (by omega) (kT_k (k := 6) (l := 0) hK 14 (by decide +kernel)) rfl rfl rfl (by decide) (by rw [(kT_l (k := 18) (l := 2) hK 3 (by decide +kernel))]; decide) (by rw [(kT_l (k := 18) (l := 2) hK 3 (by decide +kernel))]; decide) dX9_init_69 (fun H locs hH hS => ?_)
      obtain ⟨R37, eR37⟩ : ∃ z, z = zU R36 ((i + 3)) (1) (some ((i + 14))) := ⟨_, rfl⟩
      rw [← eR37] at hH
      have hF := hF R37 eR37
      refine lv_aload_n C.1 C.2.1 dX9_init_70 rfl (lv_at hl 1 rfl) ?_
      obtain ⟨o38, hF⟩ := hF
      refine zg9_6 C hH (by omega) (kT_0 (k := 9) (l := 0) hK (by decide +kernel)) q_290 o38 dX9_init_71 ?_
      refine lv_iload_n C.1 C.2.1 dX9_init_74 rfl (lv_at hl 0 rfl) ?_
      refine zd_newO C hH hS (ci := 0) rfl zin0 tyX0 tyX0_ok q_164 q_219 q_132 (kT_k (k := 0) (l := 0) hK 16 (by decide +kernel)) rfl zO0 (Nat.le_of_ble_eq_true rfl) (Nat.le_of_ble_eq_true rfl) dX9_init_75 (fun H hH hS => ?_)
      obtain ⟨X39, eX39⟩ : ∃ z, z = zZ X35 (i + 16) 0 := ⟨_, rfl⟩
      rw [← eX39] at hH
      have hF := hF X39 eX39 hH.2.2.1
      obtain ⟨Y40, eY40⟩ : ∃ z, z = zZ Y32 (i + 16) 0 := ⟨_, rfl⟩
      rw [← eY40] at hH
      have hF := hF Y40 eY40 hH.2.2.2
      obtain ⟨R41, eR41⟩ : ∃ z, z = zZ R37 (i + 16) none := ⟨_, rfl⟩
      rw [← eR41] at hH
      have hF := hF R41 eR41
      refine lv_dup C.1 C.2.1 dX9_init_78 rfl ?_
      obtain ⟨o42, hF⟩ := hF
      refine zgovG (zrunING (As := []) (rest := [.ref (bs + ((i + 16))), .int (zI (1)), .ref (bs + ((i + 4)))]) C hE hA hH hS hl.1 (c_X0_init (l := l) (kT_sub hK 16 tBlocks (by decide +kernel))  o42) k_RX9_42 ⟨Nat.le_of_ble_eq_true rfl, Nat.le_of_ble_eq_true rfl⟩ rfl (Nat.le_of_ble_eq_true rfl) dX9_init_79 ⟨Nat.le_of_ble_eq_true rfl, Nat.le_of_ble_eq_true rfl⟩) hS (fun X43 Yq R44 H locs hq hH hS => ?_)
      obtain ⟨h9Y, hq⟩ := hq
      dsimp only at h9Y
      rw [h9Y] at hH
      have hF := hF X43 hH.2.2.1 R44 hq
      refine zd_aastr (k := 0) (ci := 0) C hH hS (by omega) (kT_k (k := 16) (l := 2) hK 4 (by decide +kernel)) (by omega) (kT_k (k := 0) (l := 0) hK 16 (by decide +kernel)) rfl rfl rfl (by decide) (by rw [(kT_l (k := 16) (l := 2) hK 4 (by decide +kernel))]; decide) (by rw [(kT_l (k := 16) (l := 2) hK 4 (by decide +kernel))]; decide) dX9_init_82 (fun H locs hH hS => ?_)
      obtain ⟨R45, eR45⟩ : ∃ z, z = zU R44 ((i + 4)) (1) (some ((i + 16))) := ⟨_, rfl⟩
      rw [← eR45] at hH
      have hF := hF R45 eR45
      refine zd_iinc (k := 0) (lv' := [(1, .int (zI (2))), (0, .ref (bs + (i)))]) C hl rfl dX9_init_83 (by decide) rfl (fun ls hl => ?_)
      refine lv_goto (tgt := 52) C.1 C.2.1 dX9_init_86 (by decide) ?_
      refine lv_iload_n C.1 C.2.1 dX9_init_52 rfl (lv_at hl 0 rfl) ?_
      refine zd_iconst C dX9_init_53 ?_
      refine zd_icmp_ge C (by decide) (by decide) 89 dX9_init_54 (by decide) (fun c46 => ?_) (fun c46 => ?_)
      · refine zd_iconst C dX9_init_89 ?_
        refine lv_istore_n (lv' := [(1, .int (zI (0))), (0, .ref (bs + (i)))]) C.1 C.2.1 dX9_init_90 rfl hl (by decide) rfl (fun ls hl => ?_)
        refine lv_iload_n C.1 C.2.1 dX9_init_91 rfl (lv_at hl 0 rfl) ?_
        refine lv_aload_n C.1 C.2.1 dX9_init_92 rfl (lv_at hl 1 rfl) ?_
        obtain ⟨o47, hF⟩ := hF
        refine zg9_7 C hH (by omega) (kT_0 (k := 9) (l := 0) hK (by decide +kernel)) q_291 o47 dX9_init_93 ?_
        refine zd_alen C hH (by omega) (t0 := 7) (by rw [(kT_k (k := 19) (l := 6) hK 5 (by decide +kernel))]; rfl) rfl rfl dX9_init_96 ?_
        rw [(kT_l (k := 19) (l := 6) hK 5 (by decide +kernel))]
        rw [show ((6 : Nat) : Int) = 6 from rfl]
        refine zd_icmp_ge C (by decide) (by decide) 124 dX9_init_97 (by decide) (fun c48 => ?_) (fun c48 => ?_)
        · exact absurd c48 (by decide)
        · refine lv_aload_n C.1 C.2.1 dX9_init_100 rfl (lv_at hl 1 rfl) ?_
          obtain ⟨o49, hF⟩ := hF
          refine zg9_7 C hH (by omega) (kT_0 (k := 9) (l := 0) hK (by decide +kernel)) q_291 o49 dX9_init_101 ?_
          refine lv_iload_n C.1 C.2.1 dX9_init_104 rfl (lv_at hl 0 rfl) ?_
          refine zd_newO C hH hS (ci := 8) rfl zin8 tyX8 tyX8_ok q_166 q_254 q_133 (kT_k (k := 8) (l := 0) hK 22 (by decide +kernel)) rfl zO8 (Nat.le_of_ble_eq_true rfl) (Nat.le_of_ble_eq_true rfl) dX9_init_105 (fun H hH hS => ?_)
          obtain ⟨X50, eX50⟩ : ∃ z, z = zZ X43 (i + 22) 0 := ⟨_, rfl⟩
          rw [← eX50] at hH
          have hF := hF X50 eX50 hH.2.2.1
          obtain ⟨Y51, eY51⟩ : ∃ z, z = zZ Y40 (i + 22) 0 := ⟨_, rfl⟩
          rw [← eY51] at hH
          have hF := hF Y51 eY51 hH.2.2.2
          obtain ⟨R52, eR52⟩ : ∃ z, z = zZ R45 (i + 22) none := ⟨_, rfl⟩
          rw [← eR52] at hH
          have hF := hF R52 eR52
          refine lv_dup C.1 C.2.1 dX9_init_108 rfl ?_
          refine zd_iconst C dX9_init_109 ?_
          refine lv_iload_n C.1 C.2.1 dX9_init_110 rfl (lv_at hl 0 rfl) ?_
          refine zd_iconst C dX9_init_111 ?_
          refine zd_idiv C (by decide) (by decide) (by decide) (by decide) dX9_init_112 ?_
          refine zd_iadd C dX9_init_113 ?_
          obtain ⟨o53, hF⟩ := hF
          refine zgovG (zrunIG (As := [.int (zI (2))]) (rest := [.ref (bs + ((i + 22))), .int (zI (0)), .ref (bs + ((i + 5)))]) C hE hA hH hS hl.1 (c_X8_init2 (l := l) (kT_sub hK 22 tRows2 (by decide +kernel))  o53) k_RX9_43 ⟨Nat.le_of_ble_eq_true rfl, Nat.le_of_ble_eq_true rfl⟩ rfl (Nat.le_of_ble_eq_true rfl) dX9_init_114 ⟨Nat.le_of_ble_eq_true rfl, Nat.le_of_ble_eq_true rfl⟩) hS (fun X54 Yq R55 H locs hq hH hS => ?_)
          obtain ⟨h9Y, hq⟩ := hq
          dsimp only at h9Y
          rw [h9Y] at hH
          have hF := hF X54 hH.2.2.1 R55 hq
          refine zd_aastr (k := 3) (ci := 8) C hH hS (by omega) (kT_k (k := 19) (l := 6) hK 5 (by decide +kernel)) (by omega) (kT_k (k := 8) (l := 0) hK 22 (by decide +kernel)) rfl rfl rfl (by decide) (by rw [(kT_l (k := 19) (l := 6) hK 5 (by decide +kernel))]; decide) (by rw [(kT_l (k := 19) (l := 6) hK 5 (by decide +kernel))]; decide) dX9_init_117 (fun H locs hH hS => ?_)
          obtain ⟨R56, eR56⟩ : ∃ z, z = zU R55 ((i + 5)) (0) (some ((i + 22))) := ⟨_, rfl⟩
          rw [← eR56] at hH
          have hF := hF R56 eR56
          refine zd_iinc (k := 0) (lv' := [(1, .int (zI (1))), (0, .ref (bs + (i)))]) C hl rfl dX9_init_118 (by decide) rfl (fun ls hl => ?_)
          refine lv_goto (tgt := 91) C.1 C.2.1 dX9_init_121 (by decide) ?_
          refine lv_iload_n C.1 C.2.1 dX9_init_91 rfl (lv_at hl 0 rfl) ?_
          refine lv_aload_n C.1 C.2.1 dX9_init_92 rfl (lv_at hl 1 rfl) ?_
          obtain ⟨o57, hF⟩ := hF
          refine zg9_7 C hH (by omega) (kT_0 (k := 9) (l := 0) hK (by decide +kernel)) q_291 o57 dX9_init_93 ?_
          refine zd_alen C hH (by omega) (t0 := 7) (by rw [(kT_k (k := 19) (l := 6) hK 5 (by decide +kernel))]; rfl) rfl rfl dX9_init_96 ?_
          rw [(kT_l (k := 19) (l := 6) hK 5 (by decide +kernel))]
          rw [show ((6 : Nat) : Int) = 6 from rfl]
          refine zd_icmp_ge C (by decide) (by decide) 124 dX9_init_97 (by decide) (fun c58 => ?_) (fun c58 => ?_)
          · exact absurd c58 (by decide)
          · refine lv_aload_n C.1 C.2.1 dX9_init_100 rfl (lv_at hl 1 rfl) ?_
            obtain ⟨o59, hF⟩ := hF
            refine zg9_7 C hH (by omega) (kT_0 (k := 9) (l := 0) hK (by decide +kernel)) q_291 o59 dX9_init_101 ?_
            refine lv_iload_n C.1 C.2.1 dX9_init_104 rfl (lv_at hl 0 rfl) ?_
            refine zd_newO C hH hS (ci := 8) rfl zin8 tyX8 tyX8_ok q_166 q_254 q_133 (kT_k (k := 8) (l := 0) hK 24 (by decide +kernel)) rfl zO8 (Nat.le_of_ble_eq_true rfl) (Nat.le_of_ble_eq_true rfl) dX9_init_105 (fun H hH hS => ?_)
            obtain ⟨X60, eX60⟩ : ∃ z, z = zZ X54 (i + 24) 0 := ⟨_, rfl⟩
            rw [← eX60] at hH
            have hF := hF X60 eX60 hH.2.2.1
            obtain ⟨Y61, eY61⟩ : ∃ z, z = zZ Y51 (i + 24) 0 := ⟨_, rfl⟩
            rw [← eY61] at hH
            have hF := hF Y61 eY61 hH.2.2.2
            obtain ⟨R62, eR62⟩ : ∃ z, z = zZ R56 (i + 24) none := ⟨_, rfl⟩
            rw [← eR62] at hH
            have hF := hF R62 eR62
            refine lv_dup C.1 C.2.1 dX9_init_108 rfl ?_
            refine zd_iconst C dX9_init_109 ?_
            refine lv_iload_n C.1 C.2.1 dX9_init_110 rfl (lv_at hl 0 rfl) ?_
            refine zd_iconst C dX9_init_111 ?_
            refine zd_idiv C (by decide) (by decide) (by decide) (by decide) dX9_init_112 ?_
            refine zd_iadd C dX9_init_113 ?_
            obtain ⟨o63, hF⟩ := hF
            refine zgovG (zrunIG (As := [.int (zI (2))]) (rest := [.ref (bs + ((i + 24))), .int (zI (1)), .ref (bs + ((i + 5)))]) C hE hA hH hS hl.1 (c_X8_init2 (l := l) (kT_sub hK 24 tRows2 (by decide +kernel))  o63) k_RX9_43 ⟨Nat.le_of_ble_eq_true rfl, Nat.le_of_ble_eq_true rfl⟩ rfl (Nat.le_of_ble_eq_true rfl) dX9_init_114 ⟨Nat.le_of_ble_eq_true rfl, Nat.le_of_ble_eq_true rfl⟩) hS (fun X64 Yq R65 H locs hq hH hS => ?_)
            obtain ⟨h9Y, hq⟩ := hq
            dsimp only at h9Y
            rw [h9Y] at hH
            have hF := hF X64 hH.2.2.1 R65 hq
            refine zd_aastr (k := 3) (ci := 8) C hH hS (by omega) (kT_k (k := 19) (l := 6) hK 5 (by decide +kernel)) (by omega) (kT_k (k := 8) (l := 0) hK 24 (by decide +kernel)) rfl rfl rfl (by decide) (by rw [(kT_l (k := 19) (l := 6) hK 5 (by decide +kernel))]; decide) (by rw [(kT_l (k := 19) (l := 6) hK 5 (by decide +kernel))]; decide) dX9_init_117 (fun H locs hH hS => ?_)
            obtain ⟨R66, eR66⟩ : ∃ z, z = zU R65 ((i + 5)) (1) (some ((i + 24))) := ⟨_, rfl⟩
            rw [← eR66] at hH
            have hF := hF R66 eR66
            refine zd_iinc (k := 0) (lv' := [(1, .int (zI (2))), (0, .ref (bs + (i)))]) C hl rfl dX9_init_118 (by decide) rfl (fun ls hl => ?_)
            refine lv_goto (tgt := 91) C.1 C.2.1 dX9_init_121 (by decide) ?_
            refine lv_iload_n C.1 C.2.1 dX9_init_91 rfl (lv_at hl 0 rfl) ?_
            refine lv_aload_n C.1 C.2.1 dX9_init_92 rfl (lv_at hl 1 rfl) ?_
            obtain ⟨o67, hF⟩ := hF
            refine zg9_7 C hH (by omega) (kT_0 (k := 9) (l := 0) hK (by decide +kernel)) q_291 o67 dX9_init_93 ?_
            refine zd_alen C hH (by omega) (t0 := 7) (by rw [(kT_k (k := 19) (l := 6) hK 5 (by decide +kernel))]; rfl) rfl rfl dX9_init_96 ?_
            rw [(kT_l (k := 19) (l := 6) hK 5 (by decide +kernel))]
            rw [show ((6 : Nat) : Int) = 6 from rfl]
            refine zd_icmp_ge C (by decide) (by decide) 124 dX9_init_97 (by decide) (fun c68 => ?_) (fun c68 => ?_)
            · exact absurd c68 (by decide)
            · refine lv_aload_n C.1 C.2.1 dX9_init_100 rfl (lv_at hl 1 rfl) ?_
              obtain ⟨o69, hF⟩ := hF
              refine zg9_7 C hH (by omega) (kT_0 (k := 9) (l := 0) hK (by decide +kernel)) q_291 o69 dX9_init_101 ?_
              refine lv_iload_n C.1 C.2.1 dX9_init_104 rfl (lv_at hl 0 rfl) ?_
              refine zd_newO C hH hS (ci := 8) rfl zin8 tyX8 tyX8_ok q_166 q_254 q_133 (kT_k (k := 8) (l := 0) hK 26 (by decide +kernel)) rfl zO8 (Nat.le_of_ble_eq_true rfl) (Nat.le_of_ble_eq_true rfl) dX9_init_105 (fun H hH hS => ?_)
              obtain ⟨X70, eX70⟩ : ∃ z, z = zZ X64 (i + 26) 0 := ⟨_, rfl⟩
              rw [← eX70] at hH
              have hF := hF X70 eX70 hH.2.2.1
              obtain ⟨Y71, eY71⟩ : ∃ z, z = zZ Y61 (i + 26) 0 := ⟨_, rfl⟩
              rw [← eY71] at hH
              have hF := hF Y71 eY71 hH.2.2.2
              obtain ⟨R72, eR72⟩ : ∃ z, z = zZ R66 (i + 26) none := ⟨_, rfl⟩
              rw [← eR72] at hH
              have hF := hF R72 eR72
              refine lv_dup C.1 C.2.1 dX9_init_108 rfl ?_
              refine zd_iconst C dX9_init_109 ?_
              refine lv_iload_n C.1 C.2.1 dX9_init_110 rfl (lv_at hl 0 rfl) ?_
              refine zd_iconst C dX9_init_111 ?_
              refine zd_idiv C (by decide) (by decide) (by decide) (by decide) dX9_init_112 ?_
              refine zd_iadd C dX9_init_113 ?_
              obtain ⟨o73, hF⟩ := hF
              refine zgovG (zrunIG (As := [.int (zI (3))]) (rest := [.ref (bs + ((i + 26))), .int (zI (2)), .ref (bs + ((i + 5)))]) C hE hA hH hS hl.1 (c_X8_init3 (l := l) (kT_sub hK 26 tRows3 (by decide +kernel))  o73) k_RX9_43 ⟨Nat.le_of_ble_eq_true rfl, Nat.le_of_ble_eq_true rfl⟩ rfl (Nat.le_of_ble_eq_true rfl) dX9_init_114 ⟨Nat.le_of_ble_eq_true rfl, Nat.le_of_ble_eq_true rfl⟩) hS (fun X74 Yq R75 H locs hq hH hS => ?_)
              obtain ⟨h9Y, hq⟩ := hq
              dsimp only at h9Y
              rw [h9Y] at hH
              have hF := hF X74 hH.2.2.1 R75 hq
              refine zd_aastr (k := 3) (ci := 8) C hH hS (by omega) (kT_k (k := 19) (l := 6) hK 5 (by decide +kernel)) (by omega) (kT_k (k := 8) (l := 0) hK 26 (by decide +kernel)) rfl rfl rfl (by decide) (by rw [(kT_l (k := 19) (l := 6) hK 5 (by decide +kernel))]; decide) (by rw [(kT_l (k := 19) (l := 6) hK 5 (by decide +kernel))]; decide) dX9_init_117 (fun H locs hH hS => ?_)
              obtain ⟨R76, eR76⟩ : ∃ z, z = zU R75 ((i + 5)) (2) (some ((i + 26))) := ⟨_, rfl⟩
              rw [← eR76] at hH
              have hF := hF R76 eR76
              refine zd_iinc (k := 0) (lv' := [(1, .int (zI (3))), (0, .ref (bs + (i)))]) C hl rfl dX9_init_118 (by decide) rfl (fun ls hl => ?_)
              refine lv_goto (tgt := 91) C.1 C.2.1 dX9_init_121 (by decide) ?_
              refine lv_iload_n C.1 C.2.1 dX9_init_91 rfl (lv_at hl 0 rfl) ?_
              refine lv_aload_n C.1 C.2.1 dX9_init_92 rfl (lv_at hl 1 rfl) ?_
              obtain ⟨o77, hF⟩ := hF
              refine zg9_7 C hH (by omega) (kT_0 (k := 9) (l := 0) hK (by decide +kernel)) q_291 o77 dX9_init_93 ?_
              refine zd_alen C hH (by omega) (t0 := 7) (by rw [(kT_k (k := 19) (l := 6) hK 5 (by decide +kernel))]; rfl) rfl rfl dX9_init_96 ?_
              rw [(kT_l (k := 19) (l := 6) hK 5 (by decide +kernel))]
              rw [show ((6 : Nat) : Int) = 6 from rfl]
              refine zd_icmp_ge C (by decide) (by decide) 124 dX9_init_97 (by decide) (fun c78 => ?_) (fun c78 => ?_)
              · exact absurd c78 (by decide)
              · refine lv_aload_n C.1 C.2.1 dX9_init_100 rfl (lv_at hl 1 rfl) ?_
                obtain ⟨o79, hF⟩ := hF
                refine zg9_7 C hH (by omega) (kT_0 (k := 9) (l := 0) hK (by decide +kernel)) q_291 o79 dX9_init_101 ?_
                refine lv_iload_n C.1 C.2.1 dX9_init_104 rfl (lv_at hl 0 rfl) ?_
                refine zd_newO C hH hS (ci := 8) rfl zin8 tyX8 tyX8_ok q_166 q_254 q_133 (kT_k (k := 8) (l := 0) hK 28 (by decide +kernel)) rfl zO8 (Nat.le_of_ble_eq_true rfl) (Nat.le_of_ble_eq_true rfl) dX9_init_105 (fun H hH hS => ?_)
                obtain ⟨X80, eX80⟩ : ∃ z, z = zZ X74 (i + 28) 0 := ⟨_, rfl⟩
                rw [← eX80] at hH
                have hF := hF X80 eX80 hH.2.2.1
                obtain ⟨Y81, eY81⟩ : ∃ z, z = zZ Y71 (i + 28) 0 := ⟨_, rfl⟩
                rw [← eY81] at hH
                have hF := hF Y81 eY81 hH.2.2.2
                obtain ⟨R82, eR82⟩ : ∃ z, z = zZ R76 (i + 28) none := ⟨_, rfl⟩
                rw [← eR82] at hH
                have hF := hF R82 eR82
                refine lv_dup C.1 C.2.1 dX9_init_108 rfl ?_
                refine zd_iconst C dX9_init_109 ?_
                refine lv_iload_n C.1 C.2.1 dX9_init_110 rfl (lv_at hl 0 rfl) ?_
                refine zd_iconst C dX9_init_111 ?_
                refine zd_idiv C (by decide) (by decide) (by decide) (by decide) dX9_init_112 ?_
                refine zd_iadd C dX9_init_113 ?_
                obtain ⟨o83, hF⟩ := hF
                refine zgovG (zrunIG (As := [.int (zI (3))]) (rest := [.ref (bs + ((i + 28))), .int (zI (3)), .ref (bs + ((i + 5)))]) C hE hA hH hS hl.1 (c_X8_init3 (l := l) (kT_sub hK 28 tRows3 (by decide +kernel))  o83) k_RX9_43 ⟨Nat.le_of_ble_eq_true rfl, Nat.le_of_ble_eq_true rfl⟩ rfl (Nat.le_of_ble_eq_true rfl) dX9_init_114 ⟨Nat.le_of_ble_eq_true rfl, Nat.le_of_ble_eq_true rfl⟩) hS (fun X84 Yq R85 H locs hq hH hS => ?_)
                obtain ⟨h9Y, hq⟩ := hq
                dsimp only at h9Y
                rw [h9Y] at hH
                have hF := hF X84 hH.2.2.1 R85 hq
                refine zd_aastr (k := 3) (ci := 8) C hH hS (by omega) (kT_k (k := 19) (l := 6) hK 5 (by decide +kernel)) (by omega) (kT_k (k := 8) (l := 0) hK 28 (by decide +kernel)) rfl rfl rfl (by decide) (by rw [(kT_l (k := 19) (l := 6) hK 5 (by decide +kernel))]; decide) (by rw [(kT_l (k := 19) (l := 6) hK 5 (by decide +kernel))]; decide) dX9_init_117 (fun H locs hH hS => ?_)
                obtain ⟨R86, eR86⟩ : ∃ z, z = zU R85 ((i + 5)) (3) (some ((i + 28))) := ⟨_, rfl⟩
                rw [← eR86] at hH
                have hF := hF R86 eR86
                refine zd_iinc (k := 0) (lv' := [(1, .int (zI (4))), (0, .ref (bs + (i)))]) C hl rfl dX9_init_118 (by decide) rfl (fun ls hl => ?_)
                refine lv_goto (tgt := 91) C.1 C.2.1 dX9_init_121 (by decide) ?_
                refine lv_iload_n C.1 C.2.1 dX9_init_91 rfl (lv_at hl 0 rfl) ?_
                refine lv_aload_n C.1 C.2.1 dX9_init_92 rfl (lv_at hl 1 rfl) ?_
                obtain ⟨o87, hF⟩ := hF
                refine zg9_7 C hH (by omega) (kT_0 (k := 9) (l := 0) hK (by decide +kernel)) q_291 o87 dX9_init_93 ?_
                refine zd_alen C hH (by omega) (t0 := 7) (by rw [(kT_k (k := 19) (l := 6) hK 5 (by decide +kernel))]; rfl) rfl rfl dX9_init_96 ?_
                rw [(kT_l (k := 19) (l := 6) hK 5 (by decide +kernel))]
                rw [show ((6 : Nat) : Int) = 6 from rfl]
                refine zd_icmp_ge C (by decide) (by decide) 124 dX9_init_97 (by decide) (fun c88 => ?_) (fun c88 => ?_)
                · exact absurd c88 (by decide)
                · refine lv_aload_n C.1 C.2.1 dX9_init_100 rfl (lv_at hl 1 rfl) ?_
                  obtain ⟨o89, hF⟩ := hF
                  refine zg9_7 C hH (by omega) (kT_0 (k := 9) (l := 0) hK (by decide +kernel)) q_291 o89 dX9_init_101 ?_
                  refine lv_iload_n C.1 C.2.1 dX9_init_104 rfl (lv_at hl 0 rfl) ?_
                  refine zd_newO C hH hS (ci := 8) rfl zin8 tyX8 tyX8_ok q_166 q_254 q_133 (kT_k (k := 8) (l := 0) hK 30 (by decide +kernel)) rfl zO8 (Nat.le_of_ble_eq_true rfl) (Nat.le_of_ble_eq_true rfl) dX9_init_105 (fun H hH hS => ?_)
                  obtain ⟨X90, eX90⟩ : ∃ z, z = zZ X84 (i + 30) 0 := ⟨_, rfl⟩
                  rw [← eX90] at hH
                  have hF := hF X90 eX90 hH.2.2.1
                  obtain ⟨Y91, eY91⟩ : ∃ z, z = zZ Y81 (i + 30) 0 := ⟨_, rfl⟩
                  rw [← eY91] at hH
                  have hF := hF Y91 eY91 hH.2.2.2
                  obtain ⟨R92, eR92⟩ : ∃ z, z = zZ R86 (i + 30) none := ⟨_, rfl⟩
                  rw [← eR92] at hH
                  have hF := hF R92 eR92
                  refine lv_dup C.1 C.2.1 dX9_init_108 rfl ?_
                  refine zd_iconst C dX9_init_109 ?_
                  refine lv_iload_n C.1 C.2.1 dX9_init_110 rfl (lv_at hl 0 rfl) ?_
                  refine zd_iconst C dX9_init_111 ?_
                  refine zd_idiv C (by decide) (by decide) (by decide) (by decide) dX9_init_112 ?_
                  refine zd_iadd C dX9_init_113 ?_
                  obtain ⟨o93, hF⟩ := hF
                  refine zgovG (zrunIG (As := [.int (zI (4))]) (rest := [.ref (bs + ((i + 30))), .int (zI (4)), .ref (bs + ((i + 5)))]) C hE hA hH hS hl.1 (c_X8_init4 (l := l) (kT_sub hK 30 tRows4 (by decide +kernel))  o93) k_RX9_43 ⟨Nat.le_of_ble_eq_true rfl, Nat.le_of_ble_eq_true rfl⟩ rfl (Nat.le_of_ble_eq_true rfl) dX9_init_114 ⟨Nat.le_of_ble_eq_true rfl, Nat.le_of_ble_eq_true rfl⟩) hS (fun X94 Yq R95 H locs hq hH hS => ?_)
                  obtain ⟨h9Y, hq⟩ := hq
                  dsimp only at h9Y
                  rw [h9Y] at hH
                  have hF := hF X94 hH.2.2.1 R95 hq
                  refine zd_aastr (k := 3) (ci := 8) C hH hS (by omega) (kT_k (k := 19) (l := 6) hK 5 (by decide +kernel)) (by omega) (kT_k (k := 8) (l := 0) hK 30 (by decide +kernel)) rfl rfl rfl (by decide) (by rw [(kT_l (k := 19) (l := 6) hK 5 (by decide +kernel))]; decide) (by rw [(kT_l (k := 19) (l := 6) hK 5 (by decide +kernel))]; decide) dX9_init_117 (fun H locs hH hS => ?_)
                  obtain ⟨R96, eR96⟩ : ∃ z, z = zU R95 ((i + 5)) (4) (some ((i + 30))) := ⟨_, rfl⟩
                  rw [← eR96] at hH
                  have hF := hF R96 eR96
                  refine zd_iinc (k := 0) (lv' := [(1, .int (zI (5))), (0, .ref (bs + (i)))]) C hl rfl dX9_init_118 (by decide) rfl (fun ls hl => ?_)
                  refine lv_goto (tgt := 91) C.1 C.2.1 dX9_init_121 (by decide) ?_
                  refine lv_iload_n C.1 C.2.1 dX9_init_91 rfl (lv_at hl 0 rfl) ?_
                  refine lv_aload_n C.1 C.2.1 dX9_init_92 rfl (lv_at hl 1 rfl) ?_
                  obtain ⟨o97, hF⟩ := hF
                  refine zg9_7 C hH (by omega) (kT_0 (k := 9) (l := 0) hK (by decide +kernel)) q_291 o97 dX9_init_93 ?_
                  refine zd_alen C hH (by omega) (t0 := 7) (by rw [(kT_k (k := 19) (l := 6) hK 5 (by decide +kernel))]; rfl) rfl rfl dX9_init_96 ?_
                  rw [(kT_l (k := 19) (l := 6) hK 5 (by decide +kernel))]
                  rw [show ((6 : Nat) : Int) = 6 from rfl]
                  refine zd_icmp_ge C (by decide) (by decide) 124 dX9_init_97 (by decide) (fun c98 => ?_) (fun c98 => ?_)
                  · exact absurd c98 (by decide)
                  · refine lv_aload_n C.1 C.2.1 dX9_init_100 rfl (lv_at hl 1 rfl) ?_
                    obtain ⟨o99, hF⟩ := hF
                    refine zg9_7 C hH (by omega) (kT_0 (k := 9) (l := 0) hK (by decide +kernel)) q_291 o99 dX9_init_101 ?_
                    refine lv_iload_n C.1 C.2.1 dX9_init_104 rfl (lv_at hl 0 rfl) ?_
                    refine zd_newO C hH hS (ci := 8) rfl zin8 tyX8 tyX8_ok q_166 q_254 q_133 (kT_k (k := 8) (l := 0) hK 32 (by decide +kernel)) rfl zO8 (Nat.le_of_ble_eq_true rfl) (Nat.le_of_ble_eq_true rfl) dX9_init_105 (fun H hH hS => ?_)
                    obtain ⟨X100, eX100⟩ : ∃ z, z = zZ X94 (i + 32) 0 := ⟨_, rfl⟩
                    rw [← eX100] at hH
                    have hF := hF X100 eX100 hH.2.2.1
                    obtain ⟨Y101, eY101⟩ : ∃ z, z = zZ Y91 (i + 32) 0 := ⟨_, rfl⟩
                    rw [← eY101] at hH
                    have hF := hF Y101 eY101 hH.2.2.2
                    obtain ⟨R102, eR102⟩ : ∃ z, z = zZ R96 (i + 32) none := ⟨_, rfl⟩
                    rw [← eR102] at hH
                    have hF := hF R102 eR102
                    refine lv_dup C.1 C.2.1 dX9_init_108 rfl ?_
                    refine zd_iconst C dX9_init_109 ?_
                    refine lv_iload_n C.1 C.2.1 dX9_init_110 rfl (lv_at hl 0 rfl) ?_
                    refine zd_iconst C dX9_init_111 ?_
                    refine zd_idiv C (by decide) (by decide) (by decide) (by decide) dX9_init_112 ?_
                    refine zd_iadd C dX9_init_113 ?_
                    obtain ⟨o103, hF⟩ := hF
                    refine zgovG (zrunIG (As := [.int (zI (4))]) (rest := [.ref (bs + ((i + 32))), .int (zI (5)), .ref (bs + ((i + 5)))]) C hE hA hH hS hl.1 (c_X8_init4 (l := l) (kT_sub hK 32 tRows4 (by decide +kernel))  o103) k_RX9_43 ⟨Nat.le_of_ble_eq_true rfl, Nat.le_of_ble_eq_true rfl⟩ rfl (Nat.le_of_ble_eq_true rfl) dX9_init_114 ⟨Nat.le_of_ble_eq_true rfl, Nat.le_of_ble_eq_true rfl⟩) hS (fun X104 Yq R105 H locs hq hH hS => ?_)
                    obtain ⟨h9Y, hq⟩ := hq
                    dsimp only at h9Y
                    rw [h9Y] at hH
                    have hF := hF X104 hH.2.2.1 R105 hq
                    refine zd_aastr (k := 3) (ci := 8) C hH hS (by omega) (kT_k (k := 19) (l := 6) hK 5 (by decide +kernel)) (by omega) (kT_k (k := 8) (l := 0) hK 32 (by decide +kernel)) rfl rfl rfl (by decide) (by rw [(kT_l (k := 19) (l := 6) hK 5 (by decide +kernel))]; decide) (by rw [(kT_l (k := 19) (l := 6) hK 5 (by decide +kernel))]; decide) dX9_init_117 (fun H locs hH hS => ?_)
                    obtain ⟨R106, eR106⟩ : ∃ z, z = zU R105 ((i + 5)) (5) (some ((i + 32))) := ⟨_, rfl⟩
                    rw [← eR106] at hH
                    have hF := hF R106 eR106
                    refine zd_iinc (k := 0) (lv' := [(1, .int (zI (6))), (0, .ref (bs + (i)))]) C hl rfl dX9_init_118 (by decide) rfl (fun ls hl => ?_)
                    refine lv_goto (tgt := 91) C.1 C.2.1 dX9_init_121 (by decide) ?_
                    refine lv_iload_n C.1 C.2.1 dX9_init_91 rfl (lv_at hl 0 rfl) ?_
                    refine lv_aload_n C.1 C.2.1 dX9_init_92 rfl (lv_at hl 1 rfl) ?_
                    obtain ⟨o107, hF⟩ := hF
                    refine zg9_7 C hH (by omega) (kT_0 (k := 9) (l := 0) hK (by decide +kernel)) q_291 o107 dX9_init_93 ?_
                    refine zd_alen C hH (by omega) (t0 := 7) (by rw [(kT_k (k := 19) (l := 6) hK 5 (by decide +kernel))]; rfl) rfl rfl dX9_init_96 ?_
                    rw [(kT_l (k := 19) (l := 6) hK 5 (by decide +kernel))]
                    rw [show ((6 : Nat) : Int) = 6 from rfl]
                    refine zd_icmp_ge C (by decide) (by decide) 124 dX9_init_97 (by decide) (fun c108 => ?_) (fun c108 => ?_)
                    · refine W_raise (cells := 33) (slots := 1309) (Nat.le_of_ble_eq_true rfl) (Nat.le_of_ble_eq_true rfl) ?_
                      exact zd_vretG C hr hlk hH hS (hF) dX9_init_124
                    · exact absurd (by decide) c108
      · exact absurd (by decide) c46
set_option maxHeartbeats 8000000 in
set_option maxRecDepth 100000 in
theorem v_X9_init {X Y : Nat → Int → Int} {R : Nat → Int → Option Nat} {i : Nat}  (hp : X i = fun _ => 0) : F_X9_init i X Y R  := by
  unfold F_X9_init
  intro hX hY
  intro X1
  intro eX1
  intro rX1
  intro R2
  intro eR2
  intro X3
  intro eX3
  intro rX3
  intro X4
  intro eX4
  intro rX4
  intro R5
  intro eR5
  intro R6
  intro eR6
  intro R7
  intro eR7
  intro R8
  intro eR8
  intro R9
  intro eR9
  intro R10
  intro eR10
  intro R11
  intro eR11
  refine ⟨?_, ?_⟩
  · rw [eR11, zU_n (by omega), eR10, zZ_o (by omega), eR9, zU_n (by omega), eR8, zZ_o (by omega), eR7]; exact zU_s
  intro X14
  intro eX14
  intro rX14
  intro Y15
  intro eY15
  intro rY15
  intro R16
  intro eR16
  refine ⟨?_, ?_⟩
  · rw [eX14]; exact zZ_s
  intro X18
  intro rX18
  intro R19
  intro h1
  intro R20
  intro eR20
  refine ⟨?_, ?_⟩
  · rw [eR20, zU_n (by omega), h1.2.1 (i) (by omega), eR16, zZ_o (by omega), eR11, zU_n (by omega), eR10, zZ_o (by omega), eR9]; exact zU_s
  intro X22
  intro eX22
  intro rX22
  intro Y23
  intro eY23
  intro rY23
  intro R24
  intro eR24
  refine ⟨?_, ?_⟩
  · rw [eX22]; exact zZ_s
  intro X26
  intro rX26
  intro R27
  intro h2
  intro R28
  intro eR28
  refine ⟨?_, ?_⟩
  · rw [eR28, zU_n (by omega), h2.2.1 (i) (by omega), eR24, zZ_o (by omega), eR20, zU_n (by omega), h1.2.1 (i) (by omega), eR16, zZ_o (by omega), eR11, zU_n (by omega), eR10, zZ_o (by omega), eR9, zU_n (by omega), eR8, zZ_o (by omega), eR7]; exact zU_s
  intro X31
  intro eX31
  intro rX31
  intro Y32
  intro eY32
  intro rY32
  intro R33
  intro eR33
  refine ⟨?_, ?_⟩
  · rw [eX31]; exact zZ_s
  intro X35
  intro rX35
  intro R36
  intro h3
  intro R37
  intro eR37
  refine ⟨?_, ?_⟩
  · rw [eR37, zU_n (by omega), h3.2.1 (i) (by omega), eR33, zZ_o (by omega), eR28, zU_n (by omega), h2.2.1 (i) (by omega), eR24, zZ_o (by omega), eR20, zU_n (by omega), h1.2.1 (i) (by omega), eR16, zZ_o (by omega), eR11, zU_n (by omega), eR10, zZ_o (by omega), eR9]; exact zU_s
  intro X39
  intro eX39
  intro rX39
  intro Y40
  intro eY40
  intro rY40
  intro R41
  intro eR41
  refine ⟨?_, ?_⟩
  · rw [eX39]; exact zZ_s
  intro X43
  intro rX43
  intro R44
  intro h4
  intro R45
  intro eR45
  refine ⟨?_, ?_⟩
  · rw [eR45, zU_n (by omega), h4.2.1 (i) (by omega), eR41, zZ_o (by omega), eR37, zU_n (by omega), h3.2.1 (i) (by omega), eR33, zZ_o (by omega), eR28, zU_n (by omega), h2.2.1 (i) (by omega), eR24, zZ_o (by omega), eR20, zU_n (by omega), h1.2.1 (i) (by omega), eR16, zZ_o (by omega), eR11]; exact zU_s
  refine ⟨?_, ?_⟩
  · rw [eR45, zU_n (by omega), h4.2.1 (i) (by omega), eR41, zZ_o (by omega), eR37, zU_n (by omega), h3.2.1 (i) (by omega), eR33, zZ_o (by omega), eR28, zU_n (by omega), h2.2.1 (i) (by omega), eR24, zZ_o (by omega), eR20, zU_n (by omega), h1.2.1 (i) (by omega), eR16, zZ_o (by omega), eR11]; exact zU_s
  intro X50
  intro eX50
  intro rX50
  intro Y51
  intro eY51
  intro rY51
  intro R52
  intro eR52
  refine ⟨?_, ?_⟩
  · rw [eX50]; exact zZ_s
  intro X54
  intro rX54
  intro R55
  intro h5
  intro R56
  intro eR56
  refine ⟨?_, ?_⟩
  · rw [eR56, zU_n (by omega), h5.2.1 (i) (by omega), eR52, zZ_o (by omega), eR45, zU_n (by omega), h4.2.1 (i) (by omega), eR41, zZ_o (by omega), eR37, zU_n (by omega), h3.2.1 (i) (by omega), eR33, zZ_o (by omega), eR28, zU_n (by omega), h2.2.1 (i) (by omega), eR24, zZ_o (by omega), eR20, zU_n (by omega), h1.2.1 (i) (by omega), eR16, zZ_o (by omega), eR11]; exact zU_s
  refine ⟨?_, ?_⟩
  · rw [eR56, zU_n (by omega), h5.2.1 (i) (by omega), eR52, zZ_o (by omega), eR45, zU_n (by omega), h4.2.1 (i) (by omega), eR41, zZ_o (by omega), eR37, zU_n (by omega), h3.2.1 (i) (by omega), eR33, zZ_o (by omega), eR28, zU_n (by omega), h2.2.1 (i) (by omega), eR24, zZ_o (by omega), eR20, zU_n (by omega), h1.2.1 (i) (by omega), eR16, zZ_o (by omega), eR11]; exact zU_s
  intro X60
  intro eX60
  intro rX60
  intro Y61
  intro eY61
  intro rY61
  intro R62
  intro eR62
  refine ⟨?_, ?_⟩
  · rw [eX60]; exact zZ_s
  intro X64
  intro rX64
  intro R65
  intro h6
  intro R66
  intro eR66
  refine ⟨?_, ?_⟩
  · rw [eR66, zU_n (by omega), h6.2.1 (i) (by omega), eR62, zZ_o (by omega), eR56, zU_n (by omega), h5.2.1 (i) (by omega), eR52, zZ_o (by omega), eR45, zU_n (by omega), h4.2.1 (i) (by omega), eR41, zZ_o (by omega), eR37, zU_n (by omega), h3.2.1 (i) (by omega), eR33, zZ_o (by omega), eR28, zU_n (by omega), h2.2.1 (i) (by omega), eR24, zZ_o (by omega), eR20, zU_n (by omega), h1.2.1 (i) (by omega), eR16, zZ_o (by omega), eR11]; exact zU_s
  refine ⟨?_, ?_⟩
  · rw [eR66, zU_n (by omega), h6.2.1 (i) (by omega), eR62, zZ_o (by omega), eR56, zU_n (by omega), h5.2.1 (i) (by omega), eR52, zZ_o (by omega), eR45, zU_n (by omega), h4.2.1 (i) (by omega), eR41, zZ_o (by omega), eR37, zU_n (by omega), h3.2.1 (i) (by omega), eR33, zZ_o (by omega), eR28, zU_n (by omega), h2.2.1 (i) (by omega), eR24, zZ_o (by omega), eR20, zU_n (by omega), h1.2.1 (i) (by omega), eR16, zZ_o (by omega), eR11]; exact zU_s
  intro X70
  intro eX70
  intro rX70
  intro Y71
  intro eY71
  intro rY71
  intro R72
  intro eR72
  refine ⟨?_, ?_⟩
  · rw [eX70]; exact zZ_s
  intro X74
  intro rX74
  intro R75
  intro h7
  intro R76
  intro eR76
  refine ⟨?_, ?_⟩
  · rw [eR76, zU_n (by omega), h7.2.1 (i) (by omega), eR72, zZ_o (by omega), eR66, zU_n (by omega), h6.2.1 (i) (by omega), eR62, zZ_o (by omega), eR56, zU_n (by omega), h5.2.1 (i) (by omega), eR52, zZ_o (by omega), eR45, zU_n (by omega), h4.2.1 (i) (by omega), eR41, zZ_o (by omega), eR37, zU_n (by omega), h3.2.1 (i) (by omega), eR33, zZ_o (by omega), eR28, zU_n (by omega), h2.2.1 (i) (by omega), eR24, zZ_o (by omega), eR20, zU_n (by omega), h1.2.1 (i) (by omega), eR16, zZ_o (by omega), eR11]; exact zU_s
  refine ⟨?_, ?_⟩
  · rw [eR76, zU_n (by omega), h7.2.1 (i) (by omega), eR72, zZ_o (by omega), eR66, zU_n (by omega), h6.2.1 (i) (by omega), eR62, zZ_o (by omega), eR56, zU_n (by omega), h5.2.1 (i) (by omega), eR52, zZ_o (by omega), eR45, zU_n (by omega), h4.2.1 (i) (by omega), eR41, zZ_o (by omega), eR37, zU_n (by omega), h3.2.1 (i) (by omega), eR33, zZ_o (by omega), eR28, zU_n (by omega), h2.2.1 (i) (by omega), eR24, zZ_o (by omega), eR20, zU_n (by omega), h1.2.1 (i) (by omega), eR16, zZ_o (by omega), eR11]; exact zU_s
  intro X80
  intro eX80
  intro rX80
  intro Y81
  intro eY81
  intro rY81
  intro R82
  intro eR82
  refine ⟨?_, ?_⟩
  · rw [eX80]; exact zZ_s
  intro X84
  intro rX84
  intro R85
  intro h8
  intro R86
  intro eR86
  refine ⟨?_, ?_⟩
  · rw [eR86, zU_n (by omega), h8.2.1 (i) (by omega), eR82, zZ_o (by omega), eR76, zU_n (by omega), h7.2.1 (i) (by omega), eR72, zZ_o (by omega), eR66, zU_n (by omega), h6.2.1 (i) (by omega), eR62, zZ_o (by omega), eR56, zU_n (by omega), h5.2.1 (i) (by omega), eR52, zZ_o (by omega), eR45, zU_n (by omega), h4.2.1 (i) (by omega), eR41, zZ_o (by omega), eR37, zU_n (by omega), h3.2.1 (i) (by omega), eR33, zZ_o (by omega), eR28, zU_n (by omega), h2.2.1 (i) (by omega), eR24, zZ_o (by omega), eR20, zU_n (by omega), h1.2.1 (i) (by omega), eR16, zZ_o (by omega), eR11]; exact zU_s
  refine ⟨?_, ?_⟩
  · rw [eR86, zU_n (by omega), h8.2.1 (i) (by omega), eR82, zZ_o (by omega), eR76, zU_n (by omega), h7.2.1 (i) (by omega), eR72, zZ_o (by omega), eR66, zU_n (by omega), h6.2.1 (i) (by omega), eR62, zZ_o (by omega), eR56, zU_n (by omega), h5.2.1 (i) (by omega), eR52, zZ_o (by omega), eR45, zU_n (by omega), h4.2.1 (i) (by omega), eR41, zZ_o (by omega), eR37, zU_n (by omega), h3.2.1 (i) (by omega), eR33, zZ_o (by omega), eR28, zU_n (by omega), h2.2.1 (i) (by omega), eR24, zZ_o (by omega), eR20, zU_n (by omega), h1.2.1 (i) (by omega), eR16, zZ_o (by omega), eR11]; exact zU_s
  intro X90
  intro eX90
  intro rX90
  intro Y91
  intro eY91
  intro rY91
  intro R92
  intro eR92
  refine ⟨?_, ?_⟩
  · rw [eX90]; exact zZ_s
  intro X94
  intro rX94
  intro R95
  intro h9
  intro R96
  intro eR96
  refine ⟨?_, ?_⟩
  · rw [eR96, zU_n (by omega), h9.2.1 (i) (by omega), eR92, zZ_o (by omega), eR86, zU_n (by omega), h8.2.1 (i) (by omega), eR82, zZ_o (by omega), eR76, zU_n (by omega), h7.2.1 (i) (by omega), eR72, zZ_o (by omega), eR66, zU_n (by omega), h6.2.1 (i) (by omega), eR62, zZ_o (by omega), eR56, zU_n (by omega), h5.2.1 (i) (by omega), eR52, zZ_o (by omega), eR45, zU_n (by omega), h4.2.1 (i) (by omega), eR41, zZ_o (by omega), eR37, zU_n (by omega), h3.2.1 (i) (by omega), eR33, zZ_o (by omega), eR28, zU_n (by omega), h2.2.1 (i) (by omega), eR24, zZ_o (by omega), eR20, zU_n (by omega), h1.2.1 (i) (by omega), eR16, zZ_o (by omega), eR11]; exact zU_s
  refine ⟨?_, ?_⟩
  · rw [eR96, zU_n (by omega), h9.2.1 (i) (by omega), eR92, zZ_o (by omega), eR86, zU_n (by omega), h8.2.1 (i) (by omega), eR82, zZ_o (by omega), eR76, zU_n (by omega), h7.2.1 (i) (by omega), eR72, zZ_o (by omega), eR66, zU_n (by omega), h6.2.1 (i) (by omega), eR62, zZ_o (by omega), eR56, zU_n (by omega), h5.2.1 (i) (by omega), eR52, zZ_o (by omega), eR45, zU_n (by omega), h4.2.1 (i) (by omega), eR41, zZ_o (by omega), eR37, zU_n (by omega), h3.2.1 (i) (by omega), eR33, zZ_o (by omega), eR28, zU_n (by omega), h2.2.1 (i) (by omega), eR24, zZ_o (by omega), eR20, zU_n (by omega), h1.2.1 (i) (by omega), eR16, zZ_o (by omega), eR11]; exact zU_s
  intro X100
  intro eX100
  intro rX100
  intro Y101
  intro eY101
  intro rY101
  intro R102
  intro eR102
  refine ⟨?_, ?_⟩
  · rw [eX100]; exact zZ_s
  intro X104
  intro rX104
  intro R105
  intro h10
  intro R106
  intro eR106
  refine ⟨?_, ?_⟩
  · rw [eR106, zU_n (by omega), h10.2.1 (i) (by omega), eR102, zZ_o (by omega), eR96, zU_n (by omega), h9.2.1 (i) (by omega), eR92, zZ_o (by omega), eR86, zU_n (by omega), h8.2.1 (i) (by omega), eR82, zZ_o (by omega), eR76, zU_n (by omega), h7.2.1 (i) (by omega), eR72, zZ_o (by omega), eR66, zU_n (by omega), h6.2.1 (i) (by omega), eR62, zZ_o (by omega), eR56, zU_n (by omega), h5.2.1 (i) (by omega), eR52, zZ_o (by omega), eR45, zU_n (by omega), h4.2.1 (i) (by omega), eR41, zZ_o (by omega), eR37, zU_n (by omega), h3.2.1 (i) (by omega), eR33, zZ_o (by omega), eR28, zU_n (by omega), h2.2.1 (i) (by omega), eR24, zZ_o (by omega), eR20, zU_n (by omega), h1.2.1 (i) (by omega), eR16, zZ_o (by omega), eR11]; exact zU_s
  have la0 : R106 (i + 3) 0 = some (i + 6) ∧ eNt R106 (i + 6) := ⟨by rw [eR106, zU_n (by omega), h10.2.1 (i + 3) (by omega), eR102, zZ_o (by omega), eR96, zU_n (by omega), h9.2.1 (i + 3) (by omega), eR92, zZ_o (by omega), eR86, zU_n (by omega), h8.2.1 (i + 3) (by omega), eR82, zZ_o (by omega), eR76, zU_n (by omega), h7.2.1 (i + 3) (by omega), eR72, zZ_o (by omega), eR66, zU_n (by omega), h6.2.1 (i + 3) (by omega), eR62, zZ_o (by omega), eR56, zU_n (by omega), h5.2.1 (i + 3) (by omega), eR52, zZ_o (by omega), eR45, zU_n (by omega), h4.2.1 (i + 3) (by omega), eR41, zZ_o (by omega), eR37, zU_n (by omega), h3.2.1 (i + 3) (by omega), eR33, zZ_o (by omega), eR28, zU_n (by omega), h2.2.1 (i + 3) (by omega), eR24, zZ_o (by omega), eR20]; exact zU_s, eNt_mv (by rw [eR106, zU_o (by omega), h10.2.1 (i + 6) (by omega), eR102, zZ_o (by omega), eR96, zU_o (by omega), h9.2.1 (i + 6) (by omega), eR92, zZ_o (by omega), eR86, zU_o (by omega), h8.2.1 (i + 6) (by omega), eR82, zZ_o (by omega), eR76, zU_o (by omega), h7.2.1 (i + 6) (by omega), eR72, zZ_o (by omega), eR66, zU_o (by omega), h6.2.1 (i + 6) (by omega), eR62, zZ_o (by omega), eR56, zU_o (by omega), h5.2.1 (i + 6) (by omega), eR52, zZ_o (by omega), eR45, zU_o (by omega), h4.2.1 (i + 6) (by omega), eR41, zZ_o (by omega), eR37, zU_o (by omega), h3.2.1 (i + 6) (by omega), eR33, zZ_o (by omega), eR28, zU_o (by omega), h2.2.1 (i + 6) (by omega), eR24, zZ_o (by omega), eR20, zU_o (by omega)]) h1.2.2.1⟩
  have la1 : R106 (i + 3) 1 = some (i + 14) ∧ eNt R106 (i + 14) := ⟨by rw [eR106, zU_n (by omega), h10.2.1 (i + 3) (by omega), eR102, zZ_o (by omega), eR96, zU_n (by omega), h9.2.1 (i + 3) (by omega), eR92, zZ_o (by omega), eR86, zU_n (by omega), h8.2.1 (i + 3) (by omega), eR82, zZ_o (by omega), eR76, zU_n (by omega), h7.2.1 (i + 3) (by omega), eR72, zZ_o (by omega), eR66, zU_n (by omega), h6.2.1 (i + 3) (by omega), eR62, zZ_o (by omega), eR56, zU_n (by omega), h5.2.1 (i + 3) (by omega), eR52, zZ_o (by omega), eR45, zU_n (by omega), h4.2.1 (i + 3) (by omega), eR41, zZ_o (by omega), eR37]; exact zU_s, eNt_mv (by rw [eR106, zU_o (by omega), h10.2.1 (i + 14) (by omega), eR102, zZ_o (by omega), eR96, zU_o (by omega), h9.2.1 (i + 14) (by omega), eR92, zZ_o (by omega), eR86, zU_o (by omega), h8.2.1 (i + 14) (by omega), eR82, zZ_o (by omega), eR76, zU_o (by omega), h7.2.1 (i + 14) (by omega), eR72, zZ_o (by omega), eR66, zU_o (by omega), h6.2.1 (i + 14) (by omega), eR62, zZ_o (by omega), eR56, zU_o (by omega), h5.2.1 (i + 14) (by omega), eR52, zZ_o (by omega), eR45, zU_o (by omega), h4.2.1 (i + 14) (by omega), eR41, zZ_o (by omega), eR37, zU_o (by omega)]) h3.2.2.1⟩
  have hla : ∀ z : Nat, z < 2 → R106 (i + 3) z = some (i + 6 + 8 * z) ∧ eNt R106 (i + 6 + 8 * z) := by
    intro z hz
    have q : z = 0 ∨ z = 1 := by omega
    rcases q with rfl | rfl
    · exact la0
    · exact la1
  have lb0 : R106 (i + 4) 0 = some (i + 8) ∧ eBk R106 (i + 8) := ⟨by rw [eR106, zU_n (by omega), h10.2.1 (i + 4) (by omega), eR102, zZ_o (by omega), eR96, zU_n (by omega), h9.2.1 (i + 4) (by omega), eR92, zZ_o (by omega), eR86, zU_n (by omega), h8.2.1 (i + 4) (by omega), eR82, zZ_o (by omega), eR76, zU_n (by omega), h7.2.1 (i + 4) (by omega), eR72, zZ_o (by omega), eR66, zU_n (by omega), h6.2.1 (i + 4) (by omega), eR62, zZ_o (by omega), eR56, zU_n (by omega), h5.2.1 (i + 4) (by omega), eR52, zZ_o (by omega), eR45, zU_n (by omega), h4.2.1 (i + 4) (by omega), eR41, zZ_o (by omega), eR37, zU_n (by omega), h3.2.1 (i + 4) (by omega), eR33, zZ_o (by omega), eR28]; exact zU_s, eBk_mv (by rw [eR106, zU_o (by omega), h10.2.1 (i + 8) (by omega), eR102, zZ_o (by omega), eR96, zU_o (by omega), h9.2.1 (i + 8) (by omega), eR92, zZ_o (by omega), eR86, zU_o (by omega), h8.2.1 (i + 8) (by omega), eR82, zZ_o (by omega), eR76, zU_o (by omega), h7.2.1 (i + 8) (by omega), eR72, zZ_o (by omega), eR66, zU_o (by omega), h6.2.1 (i + 8) (by omega), eR62, zZ_o (by omega), eR56, zU_o (by omega), h5.2.1 (i + 8) (by omega), eR52, zZ_o (by omega), eR45, zU_o (by omega), h4.2.1 (i + 8) (by omega), eR41, zZ_o (by omega), eR37, zU_o (by omega), h3.2.1 (i + 8) (by omega), eR33, zZ_o (by omega), eR28, zU_o (by omega)]) h2.2.2.1⟩
  have lb1 : R106 (i + 4) 1 = some (i + 16) ∧ eBk R106 (i + 16) := ⟨by rw [eR106, zU_n (by omega), h10.2.1 (i + 4) (by omega), eR102, zZ_o (by omega), eR96, zU_n (by omega), h9.2.1 (i + 4) (by omega), eR92, zZ_o (by omega), eR86, zU_n (by omega), h8.2.1 (i + 4) (by omega), eR82, zZ_o (by omega), eR76, zU_n (by omega), h7.2.1 (i + 4) (by omega), eR72, zZ_o (by omega), eR66, zU_n (by omega), h6.2.1 (i + 4) (by omega), eR62, zZ_o (by omega), eR56, zU_n (by omega), h5.2.1 (i + 4) (by omega), eR52, zZ_o (by omega), eR45]; exact zU_s, eBk_mv (by rw [eR106, zU_o (by omega), h10.2.1 (i + 16) (by omega), eR102, zZ_o (by omega), eR96, zU_o (by omega), h9.2.1 (i + 16) (by omega), eR92, zZ_o (by omega), eR86, zU_o (by omega), h8.2.1 (i + 16) (by omega), eR82, zZ_o (by omega), eR76, zU_o (by omega), h7.2.1 (i + 16) (by omega), eR72, zZ_o (by omega), eR66, zU_o (by omega), h6.2.1 (i + 16) (by omega), eR62, zZ_o (by omega), eR56, zU_o (by omega), h5.2.1 (i + 16) (by omega), eR52, zZ_o (by omega), eR45, zU_o (by omega)]) h4.2.2.1⟩
  have hlb : ∀ z : Nat, z < 2 → R106 (i + 4) z = some (i + 8 + 8 * z) ∧ eBk R106 (i + 8 + 8 * z) := by
    intro z hz
    have q : z = 0 ∨ z = 1 := by omega
    rcases q with rfl | rfl
    · exact lb0
    · exact lb1
  have lc0 : R106 (i + 5) 0 = some (i + 22) ∧ eRw R106 (i + 22) := ⟨by rw [eR106, zU_n (by omega), h10.2.1 (i + 5) (by omega), eR102, zZ_o (by omega), eR96, zU_n (by omega), h9.2.1 (i + 5) (by omega), eR92, zZ_o (by omega), eR86, zU_n (by omega), h8.2.1 (i + 5) (by omega), eR82, zZ_o (by omega), eR76, zU_n (by omega), h7.2.1 (i + 5) (by omega), eR72, zZ_o (by omega), eR66, zU_n (by omega), h6.2.1 (i + 5) (by omega), eR62, zZ_o (by omega), eR56]; exact zU_s, eRw_mv (by rw [eR106, zU_o (by omega), h10.2.1 (i + 22) (by omega), eR102, zZ_o (by omega), eR96, zU_o (by omega), h9.2.1 (i + 22) (by omega), eR92, zZ_o (by omega), eR86, zU_o (by omega), h8.2.1 (i + 22) (by omega), eR82, zZ_o (by omega), eR76, zU_o (by omega), h7.2.1 (i + 22) (by omega), eR72, zZ_o (by omega), eR66, zU_o (by omega), h6.2.1 (i + 22) (by omega), eR62, zZ_o (by omega), eR56, zU_o (by omega)]) h5.2.2.1⟩
  have lc1 : R106 (i + 5) 1 = some (i + 24) ∧ eRw R106 (i + 24) := ⟨by rw [eR106, zU_n (by omega), h10.2.1 (i + 5) (by omega), eR102, zZ_o (by omega), eR96, zU_n (by omega), h9.2.1 (i + 5) (by omega), eR92, zZ_o (by omega), eR86, zU_n (by omega), h8.2.1 (i + 5) (by omega), eR82, zZ_o (by omega), eR76, zU_n (by omega), h7.2.1 (i + 5) (by omega), eR72, zZ_o (by omega), eR66]; exact zU_s, eRw_mv (by rw [eR106, zU_o (by omega), h10.2.1 (i + 24) (by omega), eR102, zZ_o (by omega), eR96, zU_o (by omega), h9.2.1 (i + 24) (by omega), eR92, zZ_o (by omega), eR86, zU_o (by omega), h8.2.1 (i + 24) (by omega), eR82, zZ_o (by omega), eR76, zU_o (by omega), h7.2.1 (i + 24) (by omega), eR72, zZ_o (by omega), eR66, zU_o (by omega)]) h6.2.2.1⟩
  have lc2 : R106 (i + 5) 2 = some (i + 26) ∧ eRw R106 (i + 26) := ⟨by rw [eR106, zU_n (by omega), h10.2.1 (i + 5) (by omega), eR102, zZ_o (by omega), eR96, zU_n (by omega), h9.2.1 (i + 5) (by omega), eR92, zZ_o (by omega), eR86, zU_n (by omega), h8.2.1 (i + 5) (by omega), eR82, zZ_o (by omega), eR76]; exact zU_s, eRw_mv (by rw [eR106, zU_o (by omega), h10.2.1 (i + 26) (by omega), eR102, zZ_o (by omega), eR96, zU_o (by omega), h9.2.1 (i + 26) (by omega), eR92, zZ_o (by omega), eR86, zU_o (by omega), h8.2.1 (i + 26) (by omega), eR82, zZ_o (by omega), eR76, zU_o (by omega)]) h7.2.2.1⟩
  have lc3 : R106 (i + 5) 3 = some (i + 28) ∧ eRw R106 (i + 28) := ⟨by rw [eR106, zU_n (by omega), h10.2.1 (i + 5) (by omega), eR102, zZ_o (by omega), eR96, zU_n (by omega), h9.2.1 (i + 5) (by omega), eR92, zZ_o (by omega), eR86]; exact zU_s, eRw_mv (by rw [eR106, zU_o (by omega), h10.2.1 (i + 28) (by omega), eR102, zZ_o (by omega), eR96, zU_o (by omega), h9.2.1 (i + 28) (by omega), eR92, zZ_o (by omega), eR86, zU_o (by omega)]) h8.2.2.1⟩
  have lc4 : R106 (i + 5) 4 = some (i + 30) ∧ eRw R106 (i + 30) := ⟨by rw [eR106, zU_n (by omega), h10.2.1 (i + 5) (by omega), eR102, zZ_o (by omega), eR96]; exact zU_s, eRw_mv (by rw [eR106, zU_o (by omega), h10.2.1 (i + 30) (by omega), eR102, zZ_o (by omega), eR96, zU_o (by omega)]) h9.2.2.1⟩
  have lc5 : R106 (i + 5) 5 = some (i + 32) ∧ eRw R106 (i + 32) := ⟨by rw [eR106]; exact zU_s, eRw_mv (by rw [eR106, zU_o (by omega)]) h10.2.2.1⟩
  have hlc : ∀ z : Nat, z < 6 → R106 (i + 5) z = some (i + 22 + 2 * z) ∧ eRw R106 (i + 22 + 2 * z) := by
    intro z hz
    have q : z = 0 ∨ z = 1 ∨ z = 2 ∨ z = 3 ∨ z = 4 ∨ z = 5 := by omega
    rcases q with rfl | rfl | rfl | rfl | rfl | rfl
    · exact lc0
    · exact lc1
    · exact lc2
    · exact lc3
    · exact lc4
    · exact lc5
  have qa0 : z0N X104 (i + 6) := z0N_mv (by rw [h10.1 (i + 6) (by omega) (by omega), eX100, zZ_o (by omega), h9.1 (i + 6) (by omega) (by omega), eX90, zZ_o (by omega), h8.1 (i + 6) (by omega) (by omega), eX80, zZ_o (by omega), h7.1 (i + 6) (by omega) (by omega), eX70, zZ_o (by omega), h6.1 (i + 6) (by omega) (by omega), eX60, zZ_o (by omega), h5.1 (i + 6) (by omega) (by omega), eX50, zZ_o (by omega), h4.1 (i + 6) (by omega), eX39, zZ_o (by omega), h3.1 (i + 6) (by omega) (by omega), eX31, zZ_o (by omega), h2.1 (i + 6) (by omega), eX22, zZ_o (by omega)]) (by rw [h10.1 (i + 7) (by omega) (by omega), eX100, zZ_o (by omega), h9.1 (i + 7) (by omega) (by omega), eX90, zZ_o (by omega), h8.1 (i + 7) (by omega) (by omega), eX80, zZ_o (by omega), h7.1 (i + 7) (by omega) (by omega), eX70, zZ_o (by omega), h6.1 (i + 7) (by omega) (by omega), eX60, zZ_o (by omega), h5.1 (i + 7) (by omega) (by omega), eX50, zZ_o (by omega), h4.1 (i + 7) (by omega), eX39, zZ_o (by omega), h3.1 (i + 7) (by omega) (by omega), eX31, zZ_o (by omega), h2.1 (i + 7) (by omega), eX22, zZ_o (by omega)]) h1.2.2.2
  have qa1 : z0N X104 (i + 14) := z0N_mv (by rw [h10.1 (i + 14) (by omega) (by omega), eX100, zZ_o (by omega), h9.1 (i + 14) (by omega) (by omega), eX90, zZ_o (by omega), h8.1 (i + 14) (by omega) (by omega), eX80, zZ_o (by omega), h7.1 (i + 14) (by omega) (by omega), eX70, zZ_o (by omega), h6.1 (i + 14) (by omega) (by omega), eX60, zZ_o (by omega), h5.1 (i + 14) (by omega) (by omega), eX50, zZ_o (by omega), h4.1 (i + 14) (by omega), eX39, zZ_o (by omega)]) (by rw [h10.1 (i + 15) (by omega) (by omega), eX100, zZ_o (by omega), h9.1 (i + 15) (by omega) (by omega), eX90, zZ_o (by omega), h8.1 (i + 15) (by omega) (by omega), eX80, zZ_o (by omega), h7.1 (i + 15) (by omega) (by omega), eX70, zZ_o (by omega), h6.1 (i + 15) (by omega) (by omega), eX60, zZ_o (by omega), h5.1 (i + 15) (by omega) (by omega), eX50, zZ_o (by omega), h4.1 (i + 15) (by omega), eX39, zZ_o (by omega)]) h3.2.2.2
  have qa : ∀ n : Nat, n < 2 → z0N X104 (i + 6 + 8 * n) := by
    intro z hz
    have q : z = 0 ∨ z = 1 := by omega
    rcases q with rfl | rfl
    · exact qa0
    · exact qa1
  have qb0 : z0B X104 (i + 8) := z0B_mv (by rw [h10.1 (i + 8) (by omega) (by omega), eX100, zZ_o (by omega), h9.1 (i + 8) (by omega) (by omega), eX90, zZ_o (by omega), h8.1 (i + 8) (by omega) (by omega), eX80, zZ_o (by omega), h7.1 (i + 8) (by omega) (by omega), eX70, zZ_o (by omega), h6.1 (i + 8) (by omega) (by omega), eX60, zZ_o (by omega), h5.1 (i + 8) (by omega) (by omega), eX50, zZ_o (by omega), h4.1 (i + 8) (by omega), eX39, zZ_o (by omega), h3.1 (i + 8) (by omega) (by omega), eX31, zZ_o (by omega)]) (by rw [h10.1 (i + 9) (by omega) (by omega), eX100, zZ_o (by omega), h9.1 (i + 9) (by omega) (by omega), eX90, zZ_o (by omega), h8.1 (i + 9) (by omega) (by omega), eX80, zZ_o (by omega), h7.1 (i + 9) (by omega) (by omega), eX70, zZ_o (by omega), h6.1 (i + 9) (by omega) (by omega), eX60, zZ_o (by omega), h5.1 (i + 9) (by omega) (by omega), eX50, zZ_o (by omega), h4.1 (i + 9) (by omega), eX39, zZ_o (by omega), h3.1 (i + 9) (by omega) (by omega), eX31, zZ_o (by omega)]) (by rw [h10.1 (i + 10) (by omega) (by omega), eX100, zZ_o (by omega), h9.1 (i + 10) (by omega) (by omega), eX90, zZ_o (by omega), h8.1 (i + 10) (by omega) (by omega), eX80, zZ_o (by omega), h7.1 (i + 10) (by omega) (by omega), eX70, zZ_o (by omega), h6.1 (i + 10) (by omega) (by omega), eX60, zZ_o (by omega), h5.1 (i + 10) (by omega) (by omega), eX50, zZ_o (by omega), h4.1 (i + 10) (by omega), eX39, zZ_o (by omega), h3.1 (i + 10) (by omega) (by omega), eX31, zZ_o (by omega)]) (by rw [h10.1 (i + 11) (by omega) (by omega), eX100, zZ_o (by omega), h9.1 (i + 11) (by omega) (by omega), eX90, zZ_o (by omega), h8.1 (i + 11) (by omega) (by omega), eX80, zZ_o (by omega), h7.1 (i + 11) (by omega) (by omega), eX70, zZ_o (by omega), h6.1 (i + 11) (by omega) (by omega), eX60, zZ_o (by omega), h5.1 (i + 11) (by omega) (by omega), eX50, zZ_o (by omega), h4.1 (i + 11) (by omega), eX39, zZ_o (by omega), h3.1 (i + 11) (by omega) (by omega), eX31, zZ_o (by omega)]) (by rw [h10.1 (i + 12) (by omega) (by omega), eX100, zZ_o (by omega), h9.1 (i + 12) (by omega) (by omega), eX90, zZ_o (by omega), h8.1 (i + 12) (by omega) (by omega), eX80, zZ_o (by omega), h7.1 (i + 12) (by omega) (by omega), eX70, zZ_o (by omega), h6.1 (i + 12) (by omega) (by omega), eX60, zZ_o (by omega), h5.1 (i + 12) (by omega) (by omega), eX50, zZ_o (by omega), h4.1 (i + 12) (by omega), eX39, zZ_o (by omega), h3.1 (i + 12) (by omega) (by omega), eX31, zZ_o (by omega)]) (by rw [h10.1 (i + 13) (by omega) (by omega), eX100, zZ_o (by omega), h9.1 (i + 13) (by omega) (by omega), eX90, zZ_o (by omega), h8.1 (i + 13) (by omega) (by omega), eX80, zZ_o (by omega), h7.1 (i + 13) (by omega) (by omega), eX70, zZ_o (by omega), h6.1 (i + 13) (by omega) (by omega), eX60, zZ_o (by omega), h5.1 (i + 13) (by omega) (by omega), eX50, zZ_o (by omega), h4.1 (i + 13) (by omega), eX39, zZ_o (by omega), h3.1 (i + 13) (by omega) (by omega), eX31, zZ_o (by omega)]) h2.2.2.2
  have qb1 : z0B X104 (i + 16) := z0B_mv (by rw [h10.1 (i + 16) (by omega) (by omega), eX100, zZ_o (by omega), h9.1 (i + 16) (by omega) (by omega), eX90, zZ_o (by omega), h8.1 (i + 16) (by omega) (by omega), eX80, zZ_o (by omega), h7.1 (i + 16) (by omega) (by omega), eX70, zZ_o (by omega), h6.1 (i + 16) (by omega) (by omega), eX60, zZ_o (by omega), h5.1 (i + 16) (by omega) (by omega), eX50, zZ_o (by omega)]) (by rw [h10.1 (i + 17) (by omega) (by omega), eX100, zZ_o (by omega), h9.1 (i + 17) (by omega) (by omega), eX90, zZ_o (by omega), h8.1 (i + 17) (by omega) (by omega), eX80, zZ_o (by omega), h7.1 (i + 17) (by omega) (by omega), eX70, zZ_o (by omega), h6.1 (i + 17) (by omega) (by omega), eX60, zZ_o (by omega), h5.1 (i + 17) (by omega) (by omega), eX50, zZ_o (by omega)]) (by rw [h10.1 (i + 18) (by omega) (by omega), eX100, zZ_o (by omega), h9.1 (i + 18) (by omega) (by omega), eX90, zZ_o (by omega), h8.1 (i + 18) (by omega) (by omega), eX80, zZ_o (by omega), h7.1 (i + 18) (by omega) (by omega), eX70, zZ_o (by omega), h6.1 (i + 18) (by omega) (by omega), eX60, zZ_o (by omega), h5.1 (i + 18) (by omega) (by omega), eX50, zZ_o (by omega)]) (by rw [h10.1 (i + 19) (by omega) (by omega), eX100, zZ_o (by omega), h9.1 (i + 19) (by omega) (by omega), eX90, zZ_o (by omega), h8.1 (i + 19) (by omega) (by omega), eX80, zZ_o (by omega), h7.1 (i + 19) (by omega) (by omega), eX70, zZ_o (by omega), h6.1 (i + 19) (by omega) (by omega), eX60, zZ_o (by omega), h5.1 (i + 19) (by omega) (by omega), eX50, zZ_o (by omega)]) (by rw [h10.1 (i + 20) (by omega) (by omega), eX100, zZ_o (by omega), h9.1 (i + 20) (by omega) (by omega), eX90, zZ_o (by omega), h8.1 (i + 20) (by omega) (by omega), eX80, zZ_o (by omega), h7.1 (i + 20) (by omega) (by omega), eX70, zZ_o (by omega), h6.1 (i + 20) (by omega) (by omega), eX60, zZ_o (by omega), h5.1 (i + 20) (by omega) (by omega), eX50, zZ_o (by omega)]) (by rw [h10.1 (i + 21) (by omega) (by omega), eX100, zZ_o (by omega), h9.1 (i + 21) (by omega) (by omega), eX90, zZ_o (by omega), h8.1 (i + 21) (by omega) (by omega), eX80, zZ_o (by omega), h7.1 (i + 21) (by omega) (by omega), eX70, zZ_o (by omega), h6.1 (i + 21) (by omega) (by omega), eX60, zZ_o (by omega), h5.1 (i + 21) (by omega) (by omega), eX50, zZ_o (by omega)]) h4.2.2.2
  have qb : ∀ n : Nat, n < 2 → z0B X104 (i + 8 + 8 * n) := by
    intro z hz
    have q : z = 0 ∨ z = 1 := by omega
    rcases q with rfl | rfl
    · exact qb0
    · exact qb1
  have qc0 : z0R X104 (i + 22) 2 40 := z0R_mv (by rw [h10.1 (i + 22) (by omega) (by omega), eX100, zZ_o (by omega), h9.1 (i + 22) (by omega) (by omega), eX90, zZ_o (by omega), h8.1 (i + 22) (by omega) (by omega), eX80, zZ_o (by omega), h7.1 (i + 22) (by omega) (by omega), eX70, zZ_o (by omega), h6.1 (i + 22) (by omega) (by omega), eX60, zZ_o (by omega)]) (by rw [h10.1 (i + 23) (by omega) (by omega), eX100, zZ_o (by omega), h9.1 (i + 23) (by omega) (by omega), eX90, zZ_o (by omega), h8.1 (i + 23) (by omega) (by omega), eX80, zZ_o (by omega), h7.1 (i + 23) (by omega) (by omega), eX70, zZ_o (by omega), h6.1 (i + 23) (by omega) (by omega), eX60, zZ_o (by omega)]) h5.2.2.2
  have qc1 : z0R X104 (i + 24) 2 40 := z0R_mv (by rw [h10.1 (i + 24) (by omega) (by omega), eX100, zZ_o (by omega), h9.1 (i + 24) (by omega) (by omega), eX90, zZ_o (by omega), h8.1 (i + 24) (by omega) (by omega), eX80, zZ_o (by omega), h7.1 (i + 24) (by omega) (by omega), eX70, zZ_o (by omega)]) (by rw [h10.1 (i + 25) (by omega) (by omega), eX100, zZ_o (by omega), h9.1 (i + 25) (by omega) (by omega), eX90, zZ_o (by omega), h8.1 (i + 25) (by omega) (by omega), eX80, zZ_o (by omega), h7.1 (i + 25) (by omega) (by omega), eX70, zZ_o (by omega)]) h6.2.2.2
  have qc : ∀ n : Nat, n < 2 → z0R X104 (i + 22 + 2 * n) 2 40 := by
    intro z hz
    have q : z = 0 ∨ z = 1 := by omega
    rcases q with rfl | rfl
    · exact qc0
    · exact qc1
  have qd0 : z0R X104 (i + 26) 2 8 := z0R_mv (by rw [h10.1 (i + 26) (by omega) (by omega), eX100, zZ_o (by omega), h9.1 (i + 26) (by omega) (by omega), eX90, zZ_o (by omega), h8.1 (i + 26) (by omega) (by omega), eX80, zZ_o (by omega)]) (by rw [h10.1 (i + 27) (by omega) (by omega), eX100, zZ_o (by omega), h9.1 (i + 27) (by omega) (by omega), eX90, zZ_o (by omega), h8.1 (i + 27) (by omega) (by omega), eX80, zZ_o (by omega)]) h7.2.2.2
  have qd1 : z0R X104 (i + 28) 2 8 := z0R_mv (by rw [h10.1 (i + 28) (by omega) (by omega), eX100, zZ_o (by omega), h9.1 (i + 28) (by omega) (by omega), eX90, zZ_o (by omega)]) (by rw [h10.1 (i + 29) (by omega) (by omega), eX100, zZ_o (by omega), h9.1 (i + 29) (by omega) (by omega), eX90, zZ_o (by omega)]) h8.2.2.2
  have qd : ∀ n : Nat, n < 2 → z0R X104 (i + 26 + 2 * n) 2 8 := by
    intro z hz
    have q : z = 0 ∨ z = 1 := by omega
    rcases q with rfl | rfl
    · exact qd0
    · exact qd1
  have qe0 : z0R X104 (i + 30) 4 6 := z0R_mv (by rw [h10.1 (i + 30) (by omega) (by omega), eX100, zZ_o (by omega)]) (by rw [h10.1 (i + 31) (by omega) (by omega), eX100, zZ_o (by omega)]) h9.2.2.2
  have qe1 : z0R X104 (i + 32) 4 6 := z0R_mv (rfl) (rfl) h10.2.2.2
  have qe : ∀ n : Nat, n < 2 → z0R X104 (i + 30 + 2 * n) 4 6 := by
    intro z hz
    have q : z = 0 ∨ z = 1 := by omega
    rcases q with rfl | rfl
    · exact qe0
    · exact qe1
  exact ⟨fun z g => by rw [h10.1 (z) (by omega) (by omega), eX100, zZ_o (by omega), h9.1 (z) (by omega) (by omega), eX90, zZ_o (by omega), h8.1 (z) (by omega) (by omega), eX80, zZ_o (by omega), h7.1 (z) (by omega) (by omega), eX70, zZ_o (by omega), h6.1 (z) (by omega) (by omega), eX60, zZ_o (by omega), h5.1 (z) (by omega) (by omega), eX50, zZ_o (by omega), h4.1 (z) (by omega), eX39, zZ_o (by omega), h3.1 (z) (by omega) (by omega), eX31, zZ_o (by omega), h2.1 (z) (by omega), eX22, zZ_o (by omega), h1.1 (z) (by omega) (by omega), eX14, zZ_o (by omega), eX4, zZ_o (by omega), eX3, zU_o (by omega), eX1, zZ_o (by omega)], fun z g => by rw [eR106, zU_o (by omega), h10.2.1 (z) (by omega), eR102, zZ_o (by omega), eR96, zU_o (by omega), h9.2.1 (z) (by omega), eR92, zZ_o (by omega), eR86, zU_o (by omega), h8.2.1 (z) (by omega), eR82, zZ_o (by omega), eR76, zU_o (by omega), h7.2.1 (z) (by omega), eR72, zZ_o (by omega), eR66, zU_o (by omega), h6.2.1 (z) (by omega), eR62, zZ_o (by omega), eR56, zU_o (by omega), h5.2.1 (z) (by omega), eR52, zZ_o (by omega), eR45, zU_o (by omega), h4.2.1 (z) (by omega), eR41, zZ_o (by omega), eR37, zU_o (by omega), h3.2.1 (z) (by omega), eR33, zZ_o (by omega), eR28, zU_o (by omega), h2.2.1 (z) (by omega), eR24, zZ_o (by omega), eR20, zU_o (by omega), h1.2.1 (z) (by omega), eR16, zZ_o (by omega), eR11, zU_o (by omega), eR10, zZ_o (by omega), eR9, zU_o (by omega), eR8, zZ_o (by omega), eR7, zU_o (by omega), eR6, zZ_o (by omega), eR5, zU_o (by omega), eR2, zU_o (by omega)], ⟨⟨by rw [eR106, zU_n (by omega), h10.2.1 (i) (by omega), eR102, zZ_o (by omega), eR96, zU_n (by omega), h9.2.1 (i) (by omega), eR92, zZ_o (by omega), eR86, zU_n (by omega), h8.2.1 (i) (by omega), eR82, zZ_o (by omega), eR76, zU_n (by omega), h7.2.1 (i) (by omega), eR72, zZ_o (by omega), eR66, zU_n (by omega), h6.2.1 (i) (by omega), eR62, zZ_o (by omega), eR56, zU_n (by omega), h5.2.1 (i) (by omega), eR52, zZ_o (by omega), eR45, zU_n (by omega), h4.2.1 (i) (by omega), eR41, zZ_o (by omega), eR37, zU_n (by omega), h3.2.1 (i) (by omega), eR33, zZ_o (by omega), eR28, zU_n (by omega), h2.2.1 (i) (by omega), eR24, zZ_o (by omega), eR20, zU_n (by omega), h1.2.1 (i) (by omega), eR16, zZ_o (by omega), eR11, zU_n (by omega), eR10, zZ_o (by omega), eR9, zU_n (by omega), eR8, zZ_o (by omega), eR7, zU_n (by omega), eR6, zZ_o (by omega), eR5, zU_n (by omega), eR2]; exact zU_s, by rw [eR106, zU_n (by omega), h10.2.1 (i) (by omega), eR102, zZ_o (by omega), eR96, zU_n (by omega), h9.2.1 (i) (by omega), eR92, zZ_o (by omega), eR86, zU_n (by omega), h8.2.1 (i) (by omega), eR82, zZ_o (by omega), eR76, zU_n (by omega), h7.2.1 (i) (by omega), eR72, zZ_o (by omega), eR66, zU_n (by omega), h6.2.1 (i) (by omega), eR62, zZ_o (by omega), eR56, zU_n (by omega), h5.2.1 (i) (by omega), eR52, zZ_o (by omega), eR45, zU_n (by omega), h4.2.1 (i) (by omega), eR41, zZ_o (by omega), eR37, zU_n (by omega), h3.2.1 (i) (by omega), eR33, zZ_o (by omega), eR28, zU_n (by omega), h2.2.1 (i) (by omega), eR24, zZ_o (by omega), eR20, zU_n (by omega), h1.2.1 (i) (by omega), eR16, zZ_o (by omega), eR11, zU_n (by omega), eR10, zZ_o (by omega), eR9, zU_n (by omega), eR8, zZ_o (by omega), eR7, zU_n (by omega), eR6, zZ_o (by omega), eR5]; exact zU_s, by rw [eR106, zU_n (by omega), h10.2.1 (i) (by omega), eR102, zZ_o (by omega), eR96, zU_n (by omega), h9.2.1 (i) (by omega), eR92, zZ_o (by omega), eR86, zU_n (by omega), h8.2.1 (i) (by omega), eR82, zZ_o (by omega), eR76, zU_n (by omega), h7.2.1 (i) (by omega), eR72, zZ_o (by omega), eR66, zU_n (by omega), h6.2.1 (i) (by omega), eR62, zZ_o (by omega), eR56, zU_n (by omega), h5.2.1 (i) (by omega), eR52, zZ_o (by omega), eR45, zU_n (by omega), h4.2.1 (i) (by omega), eR41, zZ_o (by omega), eR37, zU_n (by omega), h3.2.1 (i) (by omega), eR33, zZ_o (by omega), eR28, zU_n (by omega), h2.2.1 (i) (by omega), eR24, zZ_o (by omega), eR20, zU_n (by omega), h1.2.1 (i) (by omega), eR16, zZ_o (by omega), eR11, zU_n (by omega), eR10, zZ_o (by omega), eR9, zU_n (by omega), eR8, zZ_o (by omega), eR7]; exact zU_s, by rw [eR106, zU_n (by omega), h10.2.1 (i) (by omega), eR102, zZ_o (by omega), eR96, zU_n (by omega), h9.2.1 (i) (by omega), eR92, zZ_o (by omega), eR86, zU_n (by omega), h8.2.1 (i) (by omega), eR82, zZ_o (by omega), eR76, zU_n (by omega), h7.2.1 (i) (by omega), eR72, zZ_o (by omega), eR66, zU_n (by omega), h6.2.1 (i) (by omega), eR62, zZ_o (by omega), eR56, zU_n (by omega), h5.2.1 (i) (by omega), eR52, zZ_o (by omega), eR45, zU_n (by omega), h4.2.1 (i) (by omega), eR41, zZ_o (by omega), eR37, zU_n (by omega), h3.2.1 (i) (by omega), eR33, zZ_o (by omega), eR28, zU_n (by omega), h2.2.1 (i) (by omega), eR24, zZ_o (by omega), eR20, zU_n (by omega), h1.2.1 (i) (by omega), eR16, zZ_o (by omega), eR11, zU_n (by omega), eR10, zZ_o (by omega), eR9]; exact zU_s, by rw [eR106, zU_n (by omega), h10.2.1 (i) (by omega), eR102, zZ_o (by omega), eR96, zU_n (by omega), h9.2.1 (i) (by omega), eR92, zZ_o (by omega), eR86, zU_n (by omega), h8.2.1 (i) (by omega), eR82, zZ_o (by omega), eR76, zU_n (by omega), h7.2.1 (i) (by omega), eR72, zZ_o (by omega), eR66, zU_n (by omega), h6.2.1 (i) (by omega), eR62, zZ_o (by omega), eR56, zU_n (by omega), h5.2.1 (i) (by omega), eR52, zZ_o (by omega), eR45, zU_n (by omega), h4.2.1 (i) (by omega), eR41, zZ_o (by omega), eR37, zU_n (by omega), h3.2.1 (i) (by omega), eR33, zZ_o (by omega), eR28, zU_n (by omega), h2.2.1 (i) (by omega), eR24, zZ_o (by omega), eR20, zU_n (by omega), h1.2.1 (i) (by omega), eR16, zZ_o (by omega), eR11]; exact zU_s⟩, hla, hlb, hlc⟩, ⟨by rw [h10.1 (i) (by omega) (by omega), eX100, zZ_o (by omega), h9.1 (i) (by omega) (by omega), eX90, zZ_o (by omega), h8.1 (i) (by omega) (by omega), eX80, zZ_o (by omega), h7.1 (i) (by omega) (by omega), eX70, zZ_o (by omega), h6.1 (i) (by omega) (by omega), eX60, zZ_o (by omega), h5.1 (i) (by omega) (by omega), eX50, zZ_o (by omega), h4.1 (i) (by omega), eX39, zZ_o (by omega), h3.1 (i) (by omega) (by omega), eX31, zZ_o (by omega), h2.1 (i) (by omega), eX22, zZ_o (by omega), h1.1 (i) (by omega) (by omega), eX14, zZ_o (by omega), eX4, zZ_o (by omega), eX3, zU_n (by omega), eX1, zZ_o (by omega)]; exact congrFun hp _, by rw [h10.1 (i) (by omega) (by omega), eX100, zZ_o (by omega), h9.1 (i) (by omega) (by omega), eX90, zZ_o (by omega), h8.1 (i) (by omega) (by omega), eX80, zZ_o (by omega), h7.1 (i) (by omega) (by omega), eX70, zZ_o (by omega), h6.1 (i) (by omega) (by omega), eX60, zZ_o (by omega), h5.1 (i) (by omega) (by omega), eX50, zZ_o (by omega), h4.1 (i) (by omega), eX39, zZ_o (by omega), h3.1 (i) (by omega) (by omega), eX31, zZ_o (by omega), h2.1 (i) (by omega), eX22, zZ_o (by omega), h1.1 (i) (by omega) (by omega), eX14, zZ_o (by omega), eX4, zZ_o (by omega), eX3, zU_n (by omega), eX1, zZ_o (by omega)]; exact congrFun hp _, by rw [h10.1 (i) (by omega) (by omega), eX100, zZ_o (by omega), h9.1 (i) (by omega) (by omega), eX90, zZ_o (by omega), h8.1 (i) (by omega) (by omega), eX80, zZ_o (by omega), h7.1 (i) (by omega) (by omega), eX70, zZ_o (by omega), h6.1 (i) (by omega) (by omega), eX60, zZ_o (by omega), h5.1 (i) (by omega) (by omega), eX50, zZ_o (by omega), h4.1 (i) (by omega), eX39, zZ_o (by omega), h3.1 (i) (by omega) (by omega), eX31, zZ_o (by omega), h2.1 (i) (by omega), eX22, zZ_o (by omega), h1.1 (i) (by omega) (by omega), eX14, zZ_o (by omega), eX4, zZ_o (by omega), eX3]; exact zU_s⟩, fun y => by rw [h10.1 (i + 1) (by omega) (by omega), eX100, zZ_o (by omega), h9.1 (i + 1) (by omega) (by omega), eX90, zZ_o (by omega), h8.1 (i + 1) (by omega) (by omega), eX80, zZ_o (by omega), h7.1 (i + 1) (by omega) (by omega), eX70, zZ_o (by omega), h6.1 (i + 1) (by omega) (by omega), eX60, zZ_o (by omega), h5.1 (i + 1) (by omega) (by omega), eX50, zZ_o (by omega), h4.1 (i + 1) (by omega), eX39, zZ_o (by omega), h3.1 (i + 1) (by omega) (by omega), eX31, zZ_o (by omega), h2.1 (i + 1) (by omega), eX22, zZ_o (by omega), h1.1 (i + 1) (by omega) (by omega), eX14, zZ_o (by omega), eX4, zZ_o (by omega), eX3, zU_o (by omega), eX1]; exact zZ_at, fun y => by rw [h10.1 (i + 2) (by omega) (by omega), eX100, zZ_o (by omega), h9.1 (i + 2) (by omega) (by omega), eX90, zZ_o (by omega), h8.1 (i + 2) (by omega) (by omega), eX80, zZ_o (by omega), h7.1 (i + 2) (by omega) (by omega), eX70, zZ_o (by omega), h6.1 (i + 2) (by omega) (by omega), eX60, zZ_o (by omega), h5.1 (i + 2) (by omega) (by omega), eX50, zZ_o (by omega), h4.1 (i + 2) (by omega), eX39, zZ_o (by omega), h3.1 (i + 2) (by omega) (by omega), eX31, zZ_o (by omega), h2.1 (i + 2) (by omega), eX22, zZ_o (by omega), h1.1 (i + 2) (by omega) (by omega), eX14, zZ_o (by omega), eX4]; exact zZ_at, qa, qb, qc, qd, qe⟩
theorem c_X9_init {l : Launch} {D : va_G} {cy : Nat → ClassId} {bs : Nat} {sa : Nat → Nat} {kd len : Nat → Nat} {X Y : Nat → Int → Int} {R : Nat → Int → Option Nat} {i : Nat} (hK : kT kd len i tTold)  (hp : X i = fun _ => 0) : Met l yX9_init (.code yX9_init cX9_init 2 none :: zTB) (zRmG 2 81 33 1309) (zPcA D cy bs sa (i + 1) kd len X Y R [.ref (bs + (i))]) (zQv D cy bs (i + 34) kd len (fun st => ((∀ z, (z < i ∨ i + 33 < z) → st.1 z = X z) ∧ (∀ z, (z < i ∨ i + 33 < z) → st.2.2 z = R z) ∧ eTd st.2.2 i ∧ z0Td st.1 i))) 33 1309 (zA bs) := w_X9_init hK  (v_X9_init  hp)
