/-! CONSTRUCTORS: the reference -/
def tModel : List (Nat × Nat) := [(11, 0), (12, 2400), (13, 4), (13, 4), (13, 4), (13, 20), (13, 104), (13, 1464), (13, 648), (13, 136), (13, 200), (13, 183), (13, 4), (13, 15), (14, 15), (14, 15), (13, 90), (13, 15), (14, 15), (13, 6), (13, 3), (14, 20), (14, 20), (13, 41), (13, 656), (15, 3)]
def z0M (X : Nat → Int → Int) (i : Nat) : Prop := (∀ o : Nat, (o ≤ 10 ∨ o = 25) → o ≠ 4 → ∀ y, X (i + o) y = 0) ∧ X (i + 4) 0 = -1 ∧ ∀ y, y ≠ 0 → X (i + 4) y = 0
def eM (R : Nat → Int → Option Nat) (i : Nat) : Prop := ∀ o, o < 25 → R i (mS.getD o 0) = some (i + 1 + o)
theorem zM_of {N : Nat} {kd len : Nat → Nat} {R : Nat → Int → Option Nat} {i : Nat} (hK : kT kd len i tModel) (hN : i + 25 < N) (h : eM R i) : zM N kd len R i := by
  refine ⟨hN, kT_0 hK rfl, fun o ho => ?_, h⟩
  have b := hK (o + 1) (show o + 1 < 26 by omega)
  rw [show i + 1 + o = i + (o + 1) by omega]
  have q : ∀ o, o < 25 → tModel.getD (o + 1) (0, 0) = (mK.getD o 0, mL.getD o 0) := by decide +kernel
  rw [q o ho] at b
  exact b
theorem all25 {P : Nat → Prop} (h0 : P 0) (h1 : P 1) (h2 : P 2) (h3 : P 3) (h4 : P 4) (h5 : P 5) (h6 : P 6) (h7 : P 7) (h8 : P 8) (h9 : P 9) (h10 : P 10) (h11 : P 11) (h12 : P 12) (h13 : P 13) (h14 : P 14) (h15 : P 15) (h16 : P 16) (h17 : P 17) (h18 : P 18) (h19 : P 19) (h20 : P 20) (h21 : P 21) (h22 : P 22) (h23 : P 23) (h24 : P 24) : ∀ o, o < 25 → P o := by
  intro o ho
  have q : o = 0 ∨ o = 1 ∨ o = 2 ∨ o = 3 ∨ o = 4 ∨ o = 5 ∨ o = 6 ∨ o = 7 ∨ o = 8 ∨ o = 9 ∨ o = 10 ∨ o = 11 ∨ o = 12 ∨ o = 13 ∨ o = 14 ∨ o = 15 ∨ o = 16 ∨ o = 17 ∨ o = 18 ∨ o = 19 ∨ o = 20 ∨ o = 21 ∨ o = 22 ∨ o = 23 ∨ o = 24 := by omega
  rcases q with rfl | rfl | rfl | rfl | rfl | rfl | rfl | rfl | rfl | rfl | rfl | rfl | rfl | rfl | rfl | rfl | rfl | rfl | rfl | rfl | rfl | rfl | rfl | rfl | rfl
  · exact h0
  · exact h1
  · exact h2
  · exact h3
  · exact h4
  · exact h5
  · exact h6
  · exact h7
  · exact h8
  · exact h9
  · exact h10
  · exact h11
  · exact h12
  · exact h13
  · exact h14
  · exact h15
  · exact h16
  · exact h17
  · exact h18
  · exact h19
  · exact h20
  · exact h21
  · exact h22
  · exact h23
  · exact h24
abbrev cX11_init : ByteArray := prog_13_method_1_code
def yX11_init : MethodName := ⟨RX11, "<init>", "()V"⟩
theorem dX11_init_0 : decode cX11_init 0 = .ok (.aload_n 0, 1) := by decide +kernel
theorem dX11_init_1 : decode cX11_init 1 = .ok (.invokespecial 1, 3) := by decide +kernel
theorem dX11_init_4 : decode cX11_init 4 = .ok (.aload_n 0, 1) := by decide +kernel
theorem dX11_init_5 : decode cX11_init 5 = .ok (.sipush 2400, 3) := by decide +kernel
theorem dX11_init_8 : decode cX11_init 8 = .ok (.newarray .byte, 2) := by decide +kernel
theorem dX11_init_10 : decode cX11_init 10 = .ok (.putfield 7, 3) := by decide +kernel
theorem dX11_init_13 : decode cX11_init 13 = .ok (.aload_n 0, 1) := by decide +kernel
theorem dX11_init_14 : decode cX11_init 14 = .ok (.iconst 4, 1) := by decide +kernel
theorem dX11_init_15 : decode cX11_init 15 = .ok (.newarray .int, 2) := by decide +kernel
theorem dX11_init_17 : decode cX11_init 17 = .ok (.putfield 13, 3) := by decide +kernel
theorem dX11_init_20 : decode cX11_init 20 = .ok (.aload_n 0, 1) := by decide +kernel
theorem dX11_init_21 : decode cX11_init 21 = .ok (.iconst 4, 1) := by decide +kernel
theorem dX11_init_22 : decode cX11_init 22 = .ok (.newarray .int, 2) := by decide +kernel
theorem dX11_init_24 : decode cX11_init 24 = .ok (.putfield 17, 3) := by decide +kernel
theorem dX11_init_27 : decode cX11_init 27 = .ok (.aload_n 0, 1) := by decide +kernel
theorem dX11_init_28 : decode cX11_init 28 = .ok (.iconst 4, 1) := by decide +kernel
theorem dX11_init_29 : decode cX11_init 29 = .ok (.newarray .int, 2) := by decide +kernel
theorem dX11_init_31 : decode cX11_init 31 = .ok (.putfield 20, 3) := by decide +kernel
theorem dX11_init_34 : decode cX11_init 34 = .ok (.aload_n 0, 1) := by decide +kernel
theorem dX11_init_35 : decode cX11_init 35 = .ok (.bipush 20, 2) := by decide +kernel
theorem dX11_init_37 : decode cX11_init 37 = .ok (.newarray .int, 2) := by decide +kernel
theorem dX11_init_39 : decode cX11_init 39 = .ok (.putfield 23, 3) := by decide +kernel
theorem dX11_init_42 : decode cX11_init 42 = .ok (.aload_n 0, 1) := by decide +kernel
theorem dX11_init_43 : decode cX11_init 43 = .ok (.bipush 104, 2) := by decide +kernel
theorem dX11_init_45 : decode cX11_init 45 = .ok (.newarray .int, 2) := by decide +kernel
theorem dX11_init_47 : decode cX11_init 47 = .ok (.putfield 26, 3) := by decide +kernel
theorem dX11_init_50 : decode cX11_init 50 = .ok (.aload_n 0, 1) := by decide +kernel
theorem dX11_init_51 : decode cX11_init 51 = .ok (.sipush 1464, 3) := by decide +kernel
theorem dX11_init_54 : decode cX11_init 54 = .ok (.newarray .int, 2) := by decide +kernel
theorem dX11_init_56 : decode cX11_init 56 = .ok (.putfield 29, 3) := by decide +kernel
theorem dX11_init_59 : decode cX11_init 59 = .ok (.aload_n 0, 1) := by decide +kernel
theorem dX11_init_60 : decode cX11_init 60 = .ok (.sipush 648, 3) := by decide +kernel
theorem dX11_init_63 : decode cX11_init 63 = .ok (.newarray .int, 2) := by decide +kernel
theorem dX11_init_65 : decode cX11_init 65 = .ok (.putfield 32, 3) := by decide +kernel
theorem dX11_init_68 : decode cX11_init 68 = .ok (.aload_n 0, 1) := by decide +kernel
theorem dX11_init_69 : decode cX11_init 69 = .ok (.sipush 136, 3) := by decide +kernel
theorem dX11_init_72 : decode cX11_init 72 = .ok (.newarray .int, 2) := by decide +kernel
theorem dX11_init_74 : decode cX11_init 74 = .ok (.putfield 35, 3) := by decide +kernel
theorem dX11_init_77 : decode cX11_init 77 = .ok (.aload_n 0, 1) := by decide +kernel
theorem dX11_init_78 : decode cX11_init 78 = .ok (.sipush 200, 3) := by decide +kernel
theorem dX11_init_81 : decode cX11_init 81 = .ok (.newarray .int, 2) := by decide +kernel
theorem dX11_init_83 : decode cX11_init 83 = .ok (.putfield 38, 3) := by decide +kernel
theorem dX11_init_86 : decode cX11_init 86 = .ok (.aload_n 0, 1) := by decide +kernel
theorem dX11_init_87 : decode cX11_init 87 = .ok (.sipush 183, 3) := by decide +kernel
theorem dX11_init_90 : decode cX11_init 90 = .ok (.newarray .int, 2) := by decide +kernel
theorem dX11_init_92 : decode cX11_init 92 = .ok (.putfield 41, 3) := by decide +kernel
theorem dX11_init_95 : decode cX11_init 95 = .ok (.aload_n 0, 1) := by decide +kernel
theorem dX11_init_96 : decode cX11_init 96 = .ok (.iconst 4, 1) := by decide +kernel
theorem dX11_init_97 : decode cX11_init 97 = .ok (.newarray .int, 2) := by decide +kernel
theorem dX11_init_99 : decode cX11_init 99 = .ok (.putfield 44, 3) := by decide +kernel
theorem dX11_init_102 : decode cX11_init 102 = .ok (.aload_n 0, 1) := by decide +kernel
theorem dX11_init_103 : decode cX11_init 103 = .ok (.bipush 15, 2) := by decide +kernel
theorem dX11_init_105 : decode cX11_init 105 = .ok (.newarray .int, 2) := by decide +kernel
theorem dX11_init_107 : decode cX11_init 107 = .ok (.putfield 47, 3) := by decide +kernel
theorem dX11_init_110 : decode cX11_init 110 = .ok (.aload_n 0, 1) := by decide +kernel
theorem dX11_init_111 : decode cX11_init 111 = .ok (.bipush 15, 2) := by decide +kernel
theorem dX11_init_113 : decode cX11_init 113 = .ok (.newarray .long, 2) := by decide +kernel
theorem dX11_init_115 : decode cX11_init 115 = .ok (.putfield 50, 3) := by decide +kernel
theorem dX11_init_118 : decode cX11_init 118 = .ok (.aload_n 0, 1) := by decide +kernel
theorem dX11_init_119 : decode cX11_init 119 = .ok (.bipush 15, 2) := by decide +kernel
theorem dX11_init_121 : decode cX11_init 121 = .ok (.newarray .long, 2) := by decide +kernel
theorem dX11_init_123 : decode cX11_init 123 = .ok (.putfield 54, 3) := by decide +kernel
theorem dX11_init_126 : decode cX11_init 126 = .ok (.aload_n 0, 1) := by decide +kernel
theorem dX11_init_127 : decode cX11_init 127 = .ok (.bipush 90, 2) := by decide +kernel
theorem dX11_init_129 : decode cX11_init 129 = .ok (.newarray .int, 2) := by decide +kernel
theorem dX11_init_131 : decode cX11_init 131 = .ok (.putfield 57, 3) := by decide +kernel
theorem dX11_init_134 : decode cX11_init 134 = .ok (.aload_n 0, 1) := by decide +kernel
theorem dX11_init_135 : decode cX11_init 135 = .ok (.bipush 15, 2) := by decide +kernel
theorem dX11_init_137 : decode cX11_init 137 = .ok (.newarray .int, 2) := by decide +kernel
theorem dX11_init_139 : decode cX11_init 139 = .ok (.putfield 60, 3) := by decide +kernel
theorem dX11_init_142 : decode cX11_init 142 = .ok (.aload_n 0, 1) := by decide +kernel
theorem dX11_init_143 : decode cX11_init 143 = .ok (.bipush 15, 2) := by decide +kernel
theorem dX11_init_145 : decode cX11_init 145 = .ok (.newarray .long, 2) := by decide +kernel
theorem dX11_init_147 : decode cX11_init 147 = .ok (.putfield 63, 3) := by decide +kernel
theorem dX11_init_150 : decode cX11_init 150 = .ok (.aload_n 0, 1) := by decide +kernel
theorem dX11_init_151 : decode cX11_init 151 = .ok (.bipush 6, 2) := by decide +kernel
theorem dX11_init_153 : decode cX11_init 153 = .ok (.newarray .int, 2) := by decide +kernel
theorem dX11_init_155 : decode cX11_init 155 = .ok (.putfield 66, 3) := by decide +kernel
theorem dX11_init_158 : decode cX11_init 158 = .ok (.aload_n 0, 1) := by decide +kernel
theorem dX11_init_159 : decode cX11_init 159 = .ok (.iconst 3, 1) := by decide +kernel
theorem dX11_init_160 : decode cX11_init 160 = .ok (.newarray .int, 2) := by decide +kernel
theorem dX11_init_162 : decode cX11_init 162 = .ok (.putfield 69, 3) := by decide +kernel
theorem dX11_init_165 : decode cX11_init 165 = .ok (.aload_n 0, 1) := by decide +kernel
theorem dX11_init_166 : decode cX11_init 166 = .ok (.bipush 20, 2) := by decide +kernel
theorem dX11_init_168 : decode cX11_init 168 = .ok (.newarray .long, 2) := by decide +kernel
theorem dX11_init_170 : decode cX11_init 170 = .ok (.putfield 72, 3) := by decide +kernel
theorem dX11_init_173 : decode cX11_init 173 = .ok (.aload_n 0, 1) := by decide +kernel
theorem dX11_init_174 : decode cX11_init 174 = .ok (.bipush 20, 2) := by decide +kernel
theorem dX11_init_176 : decode cX11_init 176 = .ok (.newarray .long, 2) := by decide +kernel
theorem dX11_init_178 : decode cX11_init 178 = .ok (.putfield 75, 3) := by decide +kernel
theorem dX11_init_181 : decode cX11_init 181 = .ok (.aload_n 0, 1) := by decide +kernel
theorem dX11_init_182 : decode cX11_init 182 = .ok (.bipush 41, 2) := by decide +kernel
theorem dX11_init_184 : decode cX11_init 184 = .ok (.newarray .int, 2) := by decide +kernel
theorem dX11_init_186 : decode cX11_init 186 = .ok (.putfield 78, 3) := by decide +kernel
theorem dX11_init_189 : decode cX11_init 189 = .ok (.aload_n 0, 1) := by decide +kernel
theorem dX11_init_190 : decode cX11_init 190 = .ok (.sipush 656, 3) := by decide +kernel
theorem dX11_init_193 : decode cX11_init 193 = .ok (.newarray .int, 2) := by decide +kernel
theorem dX11_init_195 : decode cX11_init 195 = .ok (.putfield 81, 3) := by decide +kernel
theorem dX11_init_198 : decode cX11_init 198 = .ok (.aload_n 0, 1) := by decide +kernel
theorem dX11_init_199 : decode cX11_init 199 = .ok (.iconst 3, 1) := by decide +kernel
theorem dX11_init_200 : decode cX11_init 200 = .ok (.newarray .boolean, 2) := by decide +kernel
theorem dX11_init_202 : decode cX11_init 202 = .ok (.putfield 84, 3) := by decide +kernel
theorem dX11_init_205 : decode cX11_init 205 = .ok (.aload_n 0, 1) := by decide +kernel
theorem dX11_init_206 : decode cX11_init 206 = .ok (.getfield 20, 3) := by decide +kernel
theorem dX11_init_209 : decode cX11_init 209 = .ok (.iconst 0, 1) := by decide +kernel
theorem dX11_init_210 : decode cX11_init 210 = .ok (.iconst (-1), 1) := by decide +kernel
theorem dX11_init_211 : decode cX11_init 211 = .ok (.iastore, 1) := by decide +kernel
theorem dX11_init_212 : decode cX11_init 212 = .ok (.return_, 1) := by decide +kernel
theorem q_1286 : Cond.methodLink RX11 1 Lib.objectInit ∈ zTB := zmem 1286 (by decide +kernel) rfl
theorem q_364 : Cond.arrayClass .boolean ∈ zTB := zmem 364 (by decide +kernel) rfl
set_option maxHeartbeats 4000000 in
set_option maxRecDepth 100000 in
def F_X11_init (i : Nat) (X Y : Nat → Int → Int) (R : Nat → Int → Option Nat)  : Prop := (∀ i j, rI (X i j)) → (∀ i j, rL (Y i j)) → ∀ X1 : Nat → Int → Int, X1 = zZ X (i + 1) 0 → (∀ i j, rI (X1 i j)) → (∀ R2 : Nat → Int → Option Nat, R2 = zU R (i) 1 (some ((i + 1))) → (∀ X3 : Nat → Int → Int, X3 = zZ X1 (i + 2) 0 → (∀ i j, rI (X3 i j)) → (∀ R4 : Nat → Int → Option Nat, R4 = zU R2 (i) 2 (some ((i + 2))) → (∀ X5 : Nat → Int → Int, X5 = zZ X3 (i + 3) 0 → (∀ i j, rI (X5 i j)) → (∀ R6 : Nat → Int → Option Nat, R6 = zU R4 (i) 3 (some ((i + 3))) → (∀ X7 : Nat → Int → Int, X7 = zZ X5 (i + 4) 0 → (∀ i j, rI (X7 i j)) → (∀ R8 : Nat → Int → Option Nat, R8 = zU R6 (i) 4 (some ((i + 4))) → (∀ X9 : Nat → Int → Int, X9 = zZ X7 (i + 5) 0 → (∀ i j, rI (X9 i j)) → (∀ R10 : Nat → Int → Option Nat, R10 = zU R8 (i) 5 (some ((i + 5))) → (∀ X11 : Nat → Int → Int, X11 = zZ X9 (i + 6) 0 → (∀ i j, rI (X11 i j)) → (∀ R12 : Nat → Int → Option Nat, R12 = zU R10 (i) 6 (some ((i + 6))) → (∀ X13 : Nat → Int → Int, X13 = zZ X11 (i + 7) 0 → (∀ i j, rI (X13 i j)) → (∀ R14 : Nat → Int → Option Nat, R14 = zU R12 (i) 7 (some ((i + 7))) → (∀ X15 : Nat → Int → Int, X15 = zZ X13 (i + 8) 0 → (∀ i j, rI (X15 i j)) → (∀ R16 : Nat → Int → Option Nat, R16 = zU R14 (i) 8 (some ((i + 8))) → (∀ X17 : Nat → Int → Int, X17 = zZ X15 (i + 9) 0 → (∀ i j, rI (X17 i j)) → (∀ R18 : Nat → Int → Option Nat, R18 = zU R16 (i) 9 (some ((i + 9))) → (∀ X19 : Nat → Int → Int, X19 = zZ X17 (i + 10) 0 → (∀ i j, rI (X19 i j)) → (∀ R20 : Nat → Int → Option Nat, R20 = zU R18 (i) 10 (some ((i + 10))) → (∀ X21 : Nat → Int → Int, X21 = zZ X19 (i + 11) 0 → (∀ i j, rI (X21 i j)) → (∀ R22 : Nat → Int → Option Nat, R22 = zU R20 (i) 20 (some ((i + 11))) → (∀ X23 : Nat → Int → Int, X23 = zZ X21 (i + 12) 0 → (∀ i j, rI (X23 i j)) → (∀ R24 : Nat → Int → Option Nat, R24 = zU R22 (i) 21 (some ((i + 12))) → (∀ X25 : Nat → Int → Int, X25 = zZ X23 (i + 13) 0 → (∀ i j, rI (X25 i j)) → (∀ R26 : Nat → Int → Option Nat, R26 = zU R24 (i) 31 (some ((i + 13))) → (∀ Y27 : Nat → Int → Int, Y27 = zZ Y (i + 14) 0 → (∀ i j, rL (Y27 i j)) → (∀ R28 : Nat → Int → Option Nat, R28 = zU R26 (i) 32 (some ((i + 14))) → (∀ Y29 : Nat → Int → Int, Y29 = zZ Y27 (i + 15) 0 → (∀ i j, rL (Y29 i j)) → (∀ R30 : Nat → Int → Option Nat, R30 = zU R28 (i) 33 (some ((i + 15))) → (∀ X31 : Nat → Int → Int, X31 = zZ X25 (i + 16) 0 → (∀ i j, rI (X31 i j)) → (∀ R32 : Nat → Int → Option Nat, R32 = zU R30 (i) 34 (some ((i + 16))) → (∀ X33 : Nat → Int → Int, X33 = zZ X31 (i + 17) 0 → (∀ i j, rI (X33 i j)) → (∀ R34 : Nat → Int → Option Nat, R34 = zU R32 (i) 38 (some ((i + 17))) → (∀ Y35 : Nat → Int → Int, Y35 = zZ Y29 (i + 18) 0 → (∀ i j, rL (Y35 i j)) → (∀ R36 : Nat → Int → Option Nat, R36 = zU R34 (i) 39 (some ((i + 18))) → (∀ X37 : Nat → Int → Int, X37 = zZ X33 (i + 19) 0 → (∀ i j, rI (X37 i j)) → (∀ R38 : Nat → Int → Option Nat, R38 = zU R36 (i) 49 (some ((i + 19))) → (∀ X39 : Nat → Int → Int, X39 = zZ X37 (i + 20) 0 → (∀ i j, rI (X39 i j)) → (∀ R40 : Nat → Int → Option Nat, R40 = zU R38 (i) 50 (some ((i + 20))) → (∀ Y41 : Nat → Int → Int, Y41 = zZ Y35 (i + 21) 0 → (∀ i j, rL (Y41 i j)) → (∀ R42 : Nat → Int → Option Nat, R42 = zU R40 (i) 53 (some ((i + 21))) → (∀ Y43 : Nat → Int → Int, Y43 = zZ Y41 (i + 22) 0 → (∀ i j, rL (Y43 i j)) → (∀ R44 : Nat → Int → Option Nat, R44 = zU R42 (i) 54 (some ((i + 22))) → (∀ X45 : Nat → Int → Int, X45 = zZ X39 (i + 23) 0 → (∀ i j, rI (X45 i j)) → (∀ R46 : Nat → Int → Option Nat, R46 = zU R44 (i) 62 (some ((i + 23))) → (∀ X47 : Nat → Int → Int, X47 = zZ X45 (i + 24) 0 → (∀ i j, rI (X47 i j)) → (∀ R48 : Nat → Int → Option Nat, R48 = zU R46 (i) 63 (some ((i + 24))) → (∀ X49 : Nat → Int → Int, X49 = zZ X47 (i + 25) 0 → (∀ i j, rI (X49 i j)) → (∀ R50 : Nat → Int → Option Nat, R50 = zU R48 (i) 65 (some ((i + 25))) → ((R50 i 4 = some (i + 4)) ∧ (∀ X52 : Nat → Int → Int, X52 = zU X49 ((i + 4)) (0) ((-1)) → (∀ i j, rI (X52 i j)) → ((∀ z, (z < i ∨ i + 25 < z) → X52 z = X z) ∧ (∀ z, (z < i ∨ i + 25 < z) → R50 z = R z) ∧ eM R50 i ∧ z0M X52 i))))))))))))))))))))))))))))))))))))))))))))))))))))
set_option maxHeartbeats 4000000 in
set_option maxRecDepth 100000 in
theorem w_X11_init {l : Launch} {D : va_G} {cy : Nat → ClassId} {bs : Nat} {sa : Nat → Nat} {kd len : Nat → Nat} {X Y : Nat → Int → Int} {R : Nat → Int → Option Nat} {i : Nat} (hK : kT kd len i tModel)  (hF : F_X11_init i X Y R ) : Met l yX11_init (.code yX11_init cX11_init 1 none :: zTB) (zRmG 1 60 25 6085) (zPcA D cy bs sa (i + 1) kd len X Y R [.ref (bs + (i))]) (zQv D cy bs (i + 26) kd len (fun st => ((∀ z, (z < i ∨ i + 25 < z) → st.1 z = X z) ∧ (∀ z, (z < i ∨ i + 25 < z) → st.2.2 z = R z) ∧ eM st.2.2 i ∧ z0M st.1 i))) 25 6085 (zA bs) := by
  refine zstartGA (by decide) (Nat.le_of_ble_eq_true rfl) ?_
  intro p e s m args below meth c ls C hE hA hH hr hlk hnm hl hargs
  have hF := hF hH.2.2.1 hH.2.2.2
  have hS : va_S (zA bs) s.heap s.heap [] := va_S.rf
  have hl : lv_has ls 1 [(0, .ref (bs + (i)))] := hl
  refine lv_aload_n C.1 C.2.1 dX11_init_0 rfl (lv_at hl 0 rfl) ?_
  refine zd_oinit C hl.1 q_1286 q_154 q_155 (Nat.le_of_ble_eq_true rfl) dX11_init_1 (Nat.le_of_ble_eq_true rfl) (Nat.le_of_ble_eq_true rfl) ?_
  refine lv_aload_n C.1 C.2.1 dX11_init_4 rfl (lv_at hl 0 rfl) ?_
  refine zd_sipush C (by decide) dX11_init_5 ?_
  refine zd_newB C hH hS q_217 (n := 2400) rfl (by decide) (kT_k (k := 12) (l := 2400) hK 1 (by decide +kernel)) (kT_l (k := 12) (l := 2400) hK 1 (by decide +kernel)) (Nat.le_of_ble_eq_true rfl) (Nat.le_of_ble_eq_true rfl) dX11_init_8 (fun H hH hS => ?_)
  obtain ⟨X1, eX1⟩ : ∃ z, z = zZ X (i + 1) 0 := ⟨_, rfl⟩
  rw [← eX1] at hH
  have hF := hF X1 eX1 hH.2.2.1
  refine zp11_1 C hH hS (by omega) (kT_0 (k := 11) (l := 0) hK (by decide +kernel)) q_1288 hnm rfl dX11_init_10 (fun H locs hH hS => ?_)
  obtain ⟨R2, eR2⟩ : ∃ z, z = zU R (i) 1 (some ((i + 1))) := ⟨_, rfl⟩
  rw [← eR2] at hH
  have hF := hF R2 eR2
  refine lv_aload_n C.1 C.2.1 dX11_init_13 rfl (lv_at hl 0 rfl) ?_
  refine zd_iconst C dX11_init_14 ?_
  refine zd_newI C hH hS q_218 (n := 4) rfl (by decide) (kT_k (k := 13) (l := 4) hK 2 (by decide +kernel)) (kT_l (k := 13) (l := 4) hK 2 (by decide +kernel)) (Nat.le_of_ble_eq_true rfl) (Nat.le_of_ble_eq_true rfl) dX11_init_15 (fun H hH hS => ?_)
  obtain ⟨X3, eX3⟩ : ∃ z, z = zZ X1 (i + 2) 0 := ⟨_, rfl⟩
  rw [← eX3] at hH
  have hF := hF X3 eX3 hH.2.2.1
  refine zp11_2 C hH hS (by omega) (kT_0 (k := 11) (l := 0) hK (by decide +kernel)) q_1289 hnm rfl dX11_init_17 (fun H locs hH hS => ?_)
  obtain ⟨R4, eR4⟩ : ∃ z, z = zU R2 (i) 2 (some ((i + 2))) := ⟨_, rfl⟩
  rw [← eR4] at hH
  have hF := hF R4 eR4
  refine lv_aload_n C.1 C.2.1 dX11_init_20 rfl (lv_at hl 0 rfl) ?_
  refine zd_iconst C dX11_init_21 ?_
  refine zd_newI C hH hS q_218 (n := 4) rfl (by decide) (kT_k (k := 13) (l := 4) hK 3 (by decide +kernel)) (kT_l (k := 13) (l := 4) hK 3 (by decide +kernel)) (Nat.le_of_ble_eq_true rfl) (Nat.le_of_ble_eq_true rfl) dX11_init_22 (fun H hH hS => ?_)
  obtain ⟨X5, eX5⟩ : ∃ z, z = zZ X3 (i + 3) 0 := ⟨_, rfl⟩
  rw [← eX5] at hH
  have hF := hF X5 eX5 hH.2.2.1
  refine zp11_3 C hH hS (by omega) (kT_0 (k := 11) (l := 0) hK (by decide +kernel)) q_1290 hnm rfl dX11_init_24 (fun H locs hH hS => ?_)
  obtain ⟨R6, eR6⟩ : ∃ z, z = zU R4 (i) 3 (some ((i + 3))) := ⟨_, rfl⟩
  rw [← eR6] at hH
  have hF := hF R6 eR6
  refine lv_aload_n C.1 C.2.1 dX11_init_27 rfl (lv_at hl 0 rfl) ?_
  refine zd_iconst C dX11_init_28 ?_
  refine zd_newI C hH hS q_218 (n := 4) rfl (by decide) (kT_k (k := 13) (l := 4) hK 4 (by decide +kernel)) (kT_l (k := 13) (l := 4) hK 4 (by decide +kernel)) (Nat.le_of_ble_eq_true rfl) (Nat.le_of_ble_eq_true rfl) dX11_init_29 (fun H hH hS => ?_)
  obtain ⟨X7, eX7⟩ : ∃ z, z = zZ X5 (i + 4) 0 := ⟨_, rfl⟩
  rw [← eX7] at hH
  have hF := hF X7 eX7 hH.2.2.1
  refine zp11_4 C hH hS (by omega) (kT_0 (k := 11) (l := 0) hK (by decide +kernel)) q_1291 hnm rfl dX11_init_31 (fun H locs hH hS => ?_)
  obtain ⟨R8, eR8⟩ : ∃ z, z = zU R6 (i) 4 (some ((i + 4))) := ⟨_, rfl⟩
  rw [← eR8] at hH
  have hF := hF R8 eR8
  refine lv_aload_n C.1 C.2.1 dX11_init_34 rfl (lv_at hl 0 rfl) ?_
  refine zd_bipush C (by decide) dX11_init_35 ?_
  refine zd_newI C hH hS q_218 (n := 20) rfl (by decide) (kT_k (k := 13) (l := 20) hK 5 (by decide +kernel)) (kT_l (k := 13) (l := 20) hK 5 (by decide +kernel)) (Nat.le_of_ble_eq_true rfl) (Nat.le_of_ble_eq_true rfl) dX11_init_37 (fun H hH hS => ?_)
  obtain ⟨X9, eX9⟩ : ∃ z, z = zZ X7 (i + 5) 0 := ⟨_, rfl⟩
  rw [← eX9] at hH
  have hF := hF X9 eX9 hH.2.2.1
  refine zp11_5 C hH hS (by omega) (kT_0 (k := 11) (l := 0) hK (by decide +kernel)) q_1292 hnm rfl dX11_init_39 (fun H locs hH hS => ?_)
  obtain ⟨R10, eR10⟩ : ∃ z, z = zU R8 (i) 5 (some ((i + 5))) := ⟨_, rfl⟩
  rw [← eR10] at hH
  have hF := hF R10 eR10
  refine lv_aload_n C.1 C.2.1 dX11_init_42 rfl (lv_at hl 0 rfl) ?_
  refine zd_bipush C (by decide) dX11_init_43 ?_
  refine zd_newI C hH hS q_218 (n := 104) rfl (by decide) (kT_k (k := 13) (l := 104) hK 6 (by decide +kernel)) (kT_l (k := 13) (l := 104) hK 6 (by decide +kernel)) (Nat.le_of_ble_eq_true rfl) (Nat.le_of_ble_eq_true rfl) dX11_init_45 (fun H hH hS => ?_)
  obtain ⟨X11, eX11⟩ : ∃ z, z = zZ X9 (i + 6) 0 := ⟨_, rfl⟩
  rw [← eX11] at hH
  have hF := hF X11 eX11 hH.2.2.1
  refine zp11_6 C hH hS (by omega) (kT_0 (k := 11) (l := 0) hK (by decide +kernel)) q_1293 hnm rfl dX11_init_47 (fun H locs hH hS => ?_)
  obtain ⟨R12, eR12⟩ : ∃ z, z = zU R10 (i) 6 (some ((i + 6))) := ⟨_, rfl⟩
  rw [← eR12] at hH
  have hF := hF R12 eR12
  refine lv_aload_n C.1 C.2.1 dX11_init_50 rfl (lv_at hl 0 rfl) ?_
  refine zd_sipush C (by decide) dX11_init_51 ?_
  refine zd_newI C hH hS q_218 (n := 1464) rfl (by decide) (kT_k (k := 13) (l := 1464) hK 7 (by decide +kernel)) (kT_l (k := 13) (l := 1464) hK 7 (by decide +kernel)) (Nat.le_of_ble_eq_true rfl) (Nat.le_of_ble_eq_true rfl) dX11_init_54 (fun H hH hS => ?_)
  obtain ⟨X13, eX13⟩ : ∃ z, z = zZ X11 (i + 7) 0 := ⟨_, rfl⟩
  rw [← eX13] at hH
  have hF := hF X13 eX13 hH.2.2.1
  refine zp11_7 C hH hS (by omega) (kT_0 (k := 11) (l := 0) hK (by decide +kernel)) q_1294 hnm rfl dX11_init_56 (fun H locs hH hS => ?_)
  obtain ⟨R14, eR14⟩ : ∃ z, z = zU R12 (i) 7 (some ((i + 7))) := ⟨_, rfl⟩
  rw [← eR14] at hH
  have hF := hF R14 eR14
  refine lv_aload_n C.1 C.2.1 dX11_init_59 rfl (lv_at hl 0 rfl) ?_
  refine zd_sipush C (by decide) dX11_init_60 ?_
  refine zd_newI C hH hS q_218 (n := 648) rfl (by decide) (kT_k (k := 13) (l := 648) hK 8 (by decide +kernel)) (kT_l (k := 13) (l := 648) hK 8 (by decide +kernel)) (Nat.le_of_ble_eq_true rfl) (Nat.le_of_ble_eq_true rfl) dX11_init_63 (fun H hH hS => ?_)
  obtain ⟨X15, eX15⟩ : ∃ z, z = zZ X13 (i + 8) 0 := ⟨_, rfl⟩
  rw [← eX15] at hH
  have hF := hF X15 eX15 hH.2.2.1
  refine zp11_8 C hH hS (by omega) (kT_0 (k := 11) (l := 0) hK (by decide +kernel)) q_1295 hnm rfl dX11_init_65 (fun H locs hH hS => ?_)
  obtain ⟨R16, eR16⟩ : ∃ z, z = zU R14 (i) 8 (some ((i + 8))) := ⟨_, rfl⟩
  rw [← eR16] at hH
  have hF := hF R16 eR16
  refine lv_aload_n C.1 C.2.1 dX11_init_68 rfl (lv_at hl 0 rfl) ?_
  refine zd_sipush C (by decide) dX11_init_69 ?_
  refine zd_newI C hH hS q_218 (n := 136) rfl (by decide) (kT_k (k := 13) (l := 136) hK 9 (by decide +kernel)) (kT_l (k := 13) (l := 136) hK 9 (by decide +kernel)) (Nat.le_of_ble_eq_true rfl) (Nat.le_of_ble_eq_true rfl) dX11_init_72 (fun H hH hS => ?_)
  obtain ⟨X17, eX17⟩ : ∃ z, z = zZ X15 (i + 9) 0 := ⟨_, rfl⟩
  rw [← eX17] at hH
  have hF := hF X17 eX17 hH.2.2.1
  refine zp11_9 C hH hS (by omega) (kT_0 (k := 11) (l := 0) hK (by decide +kernel)) q_1296 hnm rfl dX11_init_74 (fun H locs hH hS => ?_)
  obtain ⟨R18, eR18⟩ : ∃ z, z = zU R16 (i) 9 (some ((i + 9))) := ⟨_, rfl⟩
  rw [← eR18] at hH
  have hF := hF R18 eR18
  refine lv_aload_n C.1 C.2.1 dX11_init_77 rfl (lv_at hl 0 rfl) ?_
  refine zd_sipush C (by decide) dX11_init_78 ?_
  refine zd_newI C hH hS q_218 (n := 200) rfl (by decide) (kT_k (k := 13) (l := 200) hK 10 (by decide +kernel)) (kT_l (k := 13) (l := 200) hK 10 (by decide +kernel)) (Nat.le_of_ble_eq_true rfl) (Nat.le_of_ble_eq_true rfl) dX11_init_81 (fun H hH hS => ?_)
  obtain ⟨X19, eX19⟩ : ∃ z, z = zZ X17 (i + 10) 0 := ⟨_, rfl⟩
  rw [← eX19] at hH
  have hF := hF X19 eX19 hH.2.2.1
  refine zp11_10 C hH hS (by omega) (kT_0 (k := 11) (l := 0) hK (by decide +kernel)) q_1297 hnm rfl dX11_init_83 (fun H locs hH hS => ?_)
  obtain ⟨R20, eR20⟩ : ∃ z, z = zU R18 (i) 10 (some ((i + 10))) := ⟨_, rfl⟩
  rw [← eR20] at hH
  have hF := hF R20 eR20
  refine lv_aload_n C.1 C.2.1 dX11_init_86 rfl (lv_at hl 0 rfl) ?_
  refine zd_sipush C (by decide) dX11_init_87 ?_
  refine zd_newI C hH hS q_218 (n := 183) rfl (by decide) (kT_k (k := 13) (l := 183) hK 11 (by decide +kernel)) (kT_l (k := 13) (l := 183) hK 11 (by decide +kernel)) (Nat.le_of_ble_eq_true rfl) (Nat.le_of_ble_eq_true rfl) dX11_init_90 (fun H hH hS => ?_)
  obtain ⟨X21, eX21⟩ : ∃ z, z = zZ X19 (i + 11) 0 := ⟨_, rfl⟩
  rw [← eX21] at hH
  have hF := hF X21 eX21 hH.2.2.1
  refine zp11_20 C hH hS (by omega) (kT_0 (k := 11) (l := 0) hK (by decide +kernel)) q_1307 hnm rfl dX11_init_92 (fun H locs hH hS => ?_)
  obtain ⟨R22, eR22⟩ : ∃ z, z = zU R20 (i) 20 (some ((i + 11))) := ⟨_, rfl⟩
  rw [← eR22] at hH
  have hF := hF R22 eR22
  refine lv_aload_n C.1 C.2.1 dX11_init_95 rfl (lv_at hl 0 rfl) ?_
  refine zd_iconst C dX11_init_96 ?_
  refine zd_newI C hH hS q_218 (n := 4) rfl (by decide) (kT_k (k := 13) (l := 4) hK 12 (by decide +kernel)) (kT_l (k := 13) (l := 4) hK 12 (by decide +kernel)) (Nat.le_of_ble_eq_true rfl) (Nat.le_of_ble_eq_true rfl) dX11_init_97 (fun H hH hS => ?_)
  obtain ⟨X23, eX23⟩ : ∃ z, z = zZ X21 (i + 12) 0 := ⟨_, rfl⟩
  rw [← eX23] at hH
  have hF := hF X23 eX23 hH.2.2.1
  refine zp11_21 C hH hS (by omega) (kT_0 (k := 11) (l := 0) hK (by decide +kernel)) q_1308 hnm rfl dX11_init_99 (fun H locs hH hS => ?_)
  obtain ⟨R24, eR24⟩ : ∃ z, z = zU R22 (i) 21 (some ((i + 12))) := ⟨_, rfl⟩
  rw [← eR24] at hH
  have hF := hF R24 eR24
  refine lv_aload_n C.1 C.2.1 dX11_init_102 rfl (lv_at hl 0 rfl) ?_
  refine zd_bipush C (by decide) dX11_init_103 ?_
  refine zd_newI C hH hS q_218 (n := 15) rfl (by decide) (kT_k (k := 13) (l := 15) hK 13 (by decide +kernel)) (kT_l (k := 13) (l := 15) hK 13 (by decide +kernel)) (Nat.le_of_ble_eq_true rfl) (Nat.le_of_ble_eq_true rfl) dX11_init_105 (fun H hH hS => ?_)
  obtain ⟨X25, eX25⟩ : ∃ z, z = zZ X23 (i + 13) 0 := ⟨_, rfl⟩
  rw [← eX25] at hH
  have hF := hF X25 eX25 hH.2.2.1
  refine zp11_31 C hH hS (by omega) (kT_0 (k := 11) (l := 0) hK (by decide +kernel)) q_1318 hnm rfl dX11_init_107 (fun H locs hH hS => ?_)
  obtain ⟨R26, eR26⟩ : ∃ z, z = zU R24 (i) 31 (some ((i + 13))) := ⟨_, rfl⟩
  rw [← eR26] at hH
  have hF := hF R26 eR26
  refine lv_aload_n C.1 C.2.1 dX11_init_110 rfl (lv_at hl 0 rfl) ?_
  refine zd_bipush C (by decide) dX11_init_111 ?_
  refine zd_newJ C hH hS q_391 (n := 15) rfl (by decide) (kT_k (k := 14) (l := 15) hK 14 (by decide +kernel)) (kT_l (k := 14) (l := 15) hK 14 (by decide +kernel)) (Nat.le_of_ble_eq_true rfl) (Nat.le_of_ble_eq_true rfl) dX11_init_113 (fun H hH hS => ?_)
  obtain ⟨Y27, eY27⟩ : ∃ z, z = zZ Y (i + 14) 0 := ⟨_, rfl⟩
  rw [← eY27] at hH
  have hF := hF Y27 eY27 hH.2.2.2
  refine zp11_32 C hH hS (by omega) (kT_0 (k := 11) (l := 0) hK (by decide +kernel)) q_1319 hnm rfl dX11_init_115 (fun H locs hH hS => ?_)
  obtain ⟨R28, eR28⟩ : ∃ z, z = zU R26 (i) 32 (some ((i + 14))) := ⟨_, rfl⟩
  rw [← eR28] at hH
  have hF := hF R28 eR28
  refine lv_aload_n C.1 C.2.1 dX11_init_118 rfl (lv_at hl 0 rfl) ?_
  refine zd_bipush C (by decide) dX11_init_119 ?_
  refine zd_newJ C hH hS q_391 (n := 15) rfl (by decide) (kT_k (k := 14) (l := 15) hK 15 (by decide +kernel)) (kT_l (k := 14) (l := 15) hK 15 (by decide +kernel)) (Nat.le_of_ble_eq_true rfl) (Nat.le_of_ble_eq_true rfl) dX11_init_121 (fun H hH hS => ?_)
  obtain ⟨Y29, eY29⟩ : ∃ z, z = zZ Y27 (i + 15) 0 := ⟨_, rfl⟩
  rw [← eY29] at hH
  have hF := hF Y29 eY29 hH.2.2.2
  refine zp11_33 C hH hS (by omega) (kT_0 (k := 11) (l := 0) hK (by decide +kernel)) q_1320 hnm rfl dX11_init_123 (fun H locs hH hS => ?_)
  obtain ⟨R30, eR30⟩ : ∃ z, z = zU R28 (i) 33 (some ((i + 15))) := ⟨_, rfl⟩
  rw [← eR30] at hH
  have hF := hF R30 eR30
  refine lv_aload_n C.1 C.2.1 dX11_init_126 rfl (lv_at hl 0 rfl) ?_
  refine zd_bipush C (by decide) dX11_init_127 ?_
  refine zd_newI C hH hS q_218 (n := 90) rfl (by decide) (kT_k (k := 13) (l := 90) hK 16 (by decide +kernel)) (kT_l (k := 13) (l := 90) hK 16 (by decide +kernel)) (Nat.le_of_ble_eq_true rfl) (Nat.le_of_ble_eq_true rfl) dX11_init_129 (fun H hH hS => ?_)
  obtain ⟨X31, eX31⟩ : ∃ z, z = zZ X25 (i + 16) 0 := ⟨_, rfl⟩
  rw [← eX31] at hH
  have hF := hF X31 eX31 hH.2.2.1
  refine zp11_34 C hH hS (by omega) (kT_0 (k := 11) (l := 0) hK (by decide +kernel)) q_1321 hnm rfl dX11_init_131 (fun H locs hH hS => ?_)
  obtain ⟨R32, eR32⟩ : ∃ z, z = zU R30 (i) 34 (some ((i + 16))) := ⟨_, rfl⟩
  rw [← eR32] at hH
  have hF := hF R32 eR32
  refine lv_aload_n C.1 C.2.1 dX11_init_134 rfl (lv_at hl 0 rfl) ?_
  refine zd_bipush C (by decide) dX11_init_135 ?_
  refine zd_newI C hH hS q_218 (n := 15) rfl (by decide) (kT_k (k := 13) (l := 15) hK 17 (by decide +kernel)) (kT_l (k := 13) (l := 15) hK 17 (by decide +kernel)) (Nat.le_of_ble_eq_true rfl) (Nat.le_of_ble_eq_true rfl) dX11_init_137 (fun H hH hS => ?_)
  obtain ⟨X33, eX33⟩ : ∃ z, z = zZ X31 (i + 17) 0 := ⟨_, rfl⟩
  rw [← eX33] at hH
  have hF := hF X33 eX33 hH.2.2.1
  refine zp11_38 C hH hS (by omega) (kT_0 (k := 11) (l := 0) hK (by decide +kernel)) q_1325 hnm rfl dX11_init_139 (fun H locs hH hS => ?_)
  obtain ⟨R34, eR34⟩ : ∃ z, z = zU R32 (i) 38 (some ((i + 17))) := ⟨_, rfl⟩
  rw [← eR34] at hH
  have hF := hF R34 eR34
  refine lv_aload_n C.1 C.2.1 dX11_init_142 rfl (lv_at hl 0 rfl) ?_
  refine zd_bipush C (by decide) dX11_init_143 ?_
  refine zd_newJ C hH hS q_391 (n := 15) rfl (by decide) (kT_k (k := 14) (l := 15) hK 18 (by decide +kernel)) (kT_l (k := 14) (l := 15) hK 18 (by decide +kernel)) (Nat.le_of_ble_eq_true rfl) (Nat.le_of_ble_eq_true rfl) dX11_init_145 (fun H hH hS => ?_)
  obtain ⟨Y35, eY35⟩ : ∃ z, z = zZ Y29 (i + 18) 0 := ⟨_, rfl⟩
  rw [← eY35] at hH
  have hF := hF Y35 eY35 hH.2.2.2
  refine zp11_39 C hH hS (by omega) (kT_0 (k := 11) (l := 0) hK (by decide +kernel)) q_1326 hnm rfl dX11_init_147 (fun H locs hH hS => ?_)
  obtain ⟨R36, eR36⟩ : ∃ z, z = zU R34 (i) 39 (some ((i + 18))) := ⟨_, rfl⟩
  rw [← eR36] at hH
  have hF := hF R36 eR36
  refine lv_aload_n C.1 C.2.1 dX11_init_150 rfl (lv_at hl 0 rfl) ?_
  refine zd_bipush C (by decide) dX11_init_151 ?_
  refine zd_newI C hH hS q_218 (n := 6) rfl (by decide) (kT_k (k := 13) (l := 6) hK 19 (by decide +kernel)) (kT_l (k := 13) (l := 6) hK 19 (by decide +kernel)) (Nat.le_of_ble_eq_true rfl) (Nat.le_of_ble_eq_true rfl) dX11_init_153 (fun H hH hS => ?_)
  obtain ⟨X37, eX37⟩ : ∃ z, z = zZ X33 (i + 19) 0 := ⟨_, rfl⟩
  rw [← eX37] at hH
  have hF := hF X37 eX37 hH.2.2.1
  refine zp11_49 C hH hS (by omega) (kT_0 (k := 11) (l := 0) hK (by decide +kernel)) q_1336 hnm rfl dX11_init_155 (fun H locs hH hS => ?_)
  obtain ⟨R38, eR38⟩ : ∃ z, z = zU R36 (i) 49 (some ((i + 19))) := ⟨_, rfl⟩
  rw [← eR38] at hH
  have hF := hF R38 eR38
  refine lv_aload_n C.1 C.2.1 dX11_init_158 rfl (lv_at hl 0 rfl) ?_
  refine zd_iconst C dX11_init_159 ?_
  refine zd_newI C hH hS q_218 (n := 3) rfl (by decide) (kT_k (k := 13) (l := 3) hK 20 (by decide +kernel)) (kT_l (k := 13) (l := 3) hK 20 (by decide +kernel)) (Nat.le_of_ble_eq_true rfl) (Nat.le_of_ble_eq_true rfl) dX11_init_160 (fun H hH hS => ?_)
  obtain ⟨X39, eX39⟩ : ∃ z, z = zZ X37 (i + 20) 0 := ⟨_, rfl⟩
  rw [← eX39] at hH
  have hF := hF X39 eX39 hH.2.2.1
  refine zp11_50 C hH hS (by omega) (kT_0 (k := 11) (l := 0) hK (by decide +kernel)) q_1337 hnm rfl dX11_init_162 (fun H locs hH hS => ?_)
  obtain ⟨R40, eR40⟩ : ∃ z, z = zU R38 (i) 50 (some ((i + 20))) := ⟨_, rfl⟩
  rw [← eR40] at hH
  have hF := hF R40 eR40
  refine lv_aload_n C.1 C.2.1 dX11_init_165 rfl (lv_at hl 0 rfl) ?_
  refine zd_bipush C (by decide) dX11_init_166 ?_
  refine zd_newJ C hH hS q_391 (n := 20) rfl (by decide) (kT_k (k := 14) (l := 20) hK 21 (by decide +kernel)) (kT_l (k := 14) (l := 20) hK 21 (by decide +kernel)) (Nat.le_of_ble_eq_true rfl) (Nat.le_of_ble_eq_true rfl) dX11_init_168 (fun H hH hS => ?_)
  obtain ⟨Y41, eY41⟩ : ∃ z, z = zZ Y35 (i + 21) 0 := ⟨_, rfl⟩
  rw [← eY41] at hH
  have hF := hF Y41 eY41 hH.2.2.2
  refine zp11_53 C hH hS (by omega) (kT_0 (k := 11) (l := 0) hK (by decide +kernel)) q_1340 hnm rfl dX11_init_170 (fun H locs hH hS => ?_)
  obtain ⟨R42, eR42⟩ : ∃ z, z = zU R40 (i) 53 (some ((i + 21))) := ⟨_, rfl⟩
  rw [← eR42] at hH
  have hF := hF R42 eR42
  refine lv_aload_n C.1 C.2.1 dX11_init_173 rfl (lv_at hl 0 rfl) ?_
  refine zd_bipush C (by decide) dX11_init_174 ?_
  refine zd_newJ C hH hS q_391 (n := 20) rfl (by decide) (kT_k (k := 14) (l := 20) hK 22 (by decide +kernel)) (kT_l (k := 14) (l := 20) hK 22 (by decide +kernel)) (Nat.le_of_ble_eq_true rfl) (Nat.le_of_ble_eq_true rfl) dX11_init_176 (fun H hH hS => ?_)
  obtain ⟨Y43, eY43⟩ : ∃ z, z = zZ Y41 (i + 22) 0 := ⟨_, rfl⟩
  rw [← eY43] at hH
  have hF := hF Y43 eY43 hH.2.2.2
  refine zp11_54 C hH hS (by omega) (kT_0 (k := 11) (l := 0) hK (by decide +kernel)) q_1341 hnm rfl dX11_init_178 (fun H locs hH hS => ?_)
  obtain ⟨R44, eR44⟩ : ∃ z, z = zU R42 (i) 54 (some ((i + 22))) := ⟨_, rfl⟩
  rw [← eR44] at hH
  have hF := hF R44 eR44
  refine lv_aload_n C.1 C.2.1 dX11_init_181 rfl (lv_at hl 0 rfl) ?_
  refine zd_bipush C (by decide) dX11_init_182 ?_
  refine zd_newI C hH hS q_218 (n := 41) rfl (by decide) (kT_k (k := 13) (l := 41) hK 23 (by decide +kernel)) (kT_l (k := 13) (l := 41) hK 23 (by decide +kernel)) (Nat.le_of_ble_eq_true rfl) (Nat.le_of_ble_eq_true rfl) dX11_init_184 (fun H hH hS => ?_)
  obtain ⟨X45, eX45⟩ : ∃ z, z = zZ X39 (i + 23) 0 := ⟨_, rfl⟩
  rw [← eX45] at hH
  have hF := hF X45 eX45 hH.2.2.1
  refine zp11_62 C hH hS (by omega) (kT_0 (k := 11) (l := 0) hK (by decide +kernel)) q_1349 hnm rfl dX11_init_186 (fun H locs hH hS => ?_)
  obtain ⟨R46, eR46⟩ : ∃ z, z = zU R44 (i) 62 (some ((i + 23))) := ⟨_, rfl⟩
  rw [← eR46] at hH
  have hF := hF R46 eR46
  refine lv_aload_n C.1 C.2.1 dX11_init_189 rfl (lv_at hl 0 rfl) ?_
  refine zd_sipush C (by decide) dX11_init_190 ?_
  refine zd_newI C hH hS q_218 (n := 656) rfl (by decide) (kT_k (k := 13) (l := 656) hK 24 (by decide +kernel)) (kT_l (k := 13) (l := 656) hK 24 (by decide +kernel)) (Nat.le_of_ble_eq_true rfl) (Nat.le_of_ble_eq_true rfl) dX11_init_193 (fun H hH hS => ?_)
  obtain ⟨X47, eX47⟩ : ∃ z, z = zZ X45 (i + 24) 0 := ⟨_, rfl⟩
  rw [← eX47] at hH
  have hF := hF X47 eX47 hH.2.2.1
  refine zp11_63 C hH hS (by omega) (kT_0 (k := 11) (l := 0) hK (by decide +kernel)) q_1350 hnm rfl dX11_init_195 (fun H locs hH hS => ?_)
  obtain ⟨R48, eR48⟩ : ∃ z, z = zU R46 (i) 63 (some ((i + 24))) := ⟨_, rfl⟩
  rw [← eR48] at hH
  have hF := hF R48 eR48
  refine lv_aload_n C.1 C.2.1 dX11_init_198 rfl (lv_at hl 0 rfl) ?_
  refine zd_iconst C dX11_init_199 ?_
  refine zd_newZ C hH hS q_364 (n := 3) rfl (by decide) (kT_k (k := 15) (l := 3) hK 25 (by decide +kernel)) (kT_l (k := 15) (l := 3) hK 25 (by decide +kernel)) (Nat.le_of_ble_eq_true rfl) (Nat.le_of_ble_eq_true rfl) dX11_init_200 (fun H hH hS => ?_)
  obtain ⟨X49, eX49⟩ : ∃ z, z = zZ X47 (i + 25) 0 := ⟨_, rfl⟩
  rw [← eX49] at hH
  have hF := hF X49 eX49 hH.2.2.1
  refine zp11_65 C hH hS (by omega) (kT_0 (k := 11) (l := 0) hK (by decide +kernel)) q_1352 hnm rfl dX11_init_202 (fun H locs hH hS => ?_)
  obtain ⟨R50, eR50⟩ : ∃ z, z = zU R48 (i) 65 (some ((i + 25))) := ⟨_, rfl⟩
  rw [← eR50] at hH
  have hF := hF R50 eR50
  refine lv_aload_n C.1 C.2.1 dX11_init_205 rfl (lv_at hl 0 rfl) ?_
  obtain ⟨o51, hF⟩ := hF
  refine zg11_4 C hH (by omega) (kT_0 (k := 11) (l := 0) hK (by decide +kernel)) q_1291 o51 dX11_init_206 ?_
  refine zd_iconst C dX11_init_209 ?_
  refine zd_iconst C dX11_init_210 ?_
  refine zd_iast C hH hS (by omega) (kT_k (k := 13) (l := 4) hK 4 (by decide +kernel)) (by decide) (by rw [(kT_l (k := 13) (l := 4) hK 4 (by decide +kernel))]; decide) (by rw [(kT_l (k := 13) (l := 4) hK 4 (by decide +kernel))]; decide) (by decide) dX11_init_211 (fun H locs hH hS => ?_)
  obtain ⟨X52, eX52⟩ : ∃ z, z = zU X49 ((i + 4)) (0) ((-1)) := ⟨_, rfl⟩
  rw [← eX52] at hH
  have hF := hF X52 eX52 hH.2.2.1
  refine W_raise (cells := 25) (slots := 6085) (Nat.le_of_ble_eq_true rfl) (Nat.le_of_ble_eq_true rfl) ?_
  exact zd_vretG C hr hlk hH hS (hF) dX11_init_212
set_option maxHeartbeats 8000000 in
set_option maxRecDepth 100000 in
theorem v_X11_init {X Y : Nat → Int → Int} {R : Nat → Int → Option Nat} {i : Nat}  (hp : X i = fun _ => 0) : F_X11_init i X Y R  := by
  unfold F_X11_init
  intro hX hY
  intro X1
  intro eX1
  intro rX1
  intro R2
  intro eR2
  intro X3
  intro eX3
  intro rX3
  intro R4
  intro eR4
  intro X5
  intro eX5
  intro rX5
  intro R6
  intro eR6
  intro X7
  intro eX7
  intro rX7
  intro R8
  intro eR8
  intro X9
  intro eX9
  intro rX9
  intro R10
  intro eR10
  intro X11
  intro eX11
  intro rX11
  intro R12
  intro eR12
  intro X13
  intro eX13
  intro rX13
  intro R14
  intro eR14
  intro X15
  intro eX15
  intro rX15
  intro R16
  intro eR16
  intro X17
  intro eX17
  intro rX17
  intro R18
  intro eR18
  intro X19
  intro eX19
  intro rX19
  intro R20
  intro eR20
  intro X21
  intro eX21
  intro rX21
  intro R22
  intro eR22
  intro X23
  intro eX23
  intro rX23
  intro R24
  intro eR24
  intro X25
  intro eX25
  intro rX25
  intro R26
  intro eR26
  intro Y27
  intro eY27
  intro rY27
  intro R28
  intro eR28
  intro Y29
  intro eY29
  intro rY29
  intro R30
  intro eR30
  intro X31
  intro eX31
  intro rX31
  intro R32
  intro eR32
  intro X33
  intro eX33
  intro rX33
  intro R34
  intro eR34
  intro Y35
  intro eY35
  intro rY35
  intro R36
  intro eR36
  intro X37
  intro eX37
  intro rX37
  intro R38
  intro eR38
  intro X39
  intro eX39
  intro rX39
  intro R40
  intro eR40
  intro Y41
  intro eY41
  intro rY41
  intro R42
  intro eR42
  intro Y43
  intro eY43
  intro rY43
  intro R44
  intro eR44
  intro X45
  intro eX45
  intro rX45
  intro R46
  intro eR46
  intro X47
  intro eX47
  intro rX47
  intro R48
  intro eR48
  intro X49
  intro eX49
  intro rX49
  intro R50
  intro eR50
  refine ⟨?_, ?_⟩
  · rw [eR50, zU_n (by omega), eR48, zU_n (by omega), eR46, zU_n (by omega), eR44, zU_n (by omega), eR42, zU_n (by omega), eR40, zU_n (by omega), eR38, zU_n (by omega), eR36, zU_n (by omega), eR34, zU_n (by omega), eR32, zU_n (by omega), eR30, zU_n (by omega), eR28, zU_n (by omega), eR26, zU_n (by omega), eR24, zU_n (by omega), eR22, zU_n (by omega), eR20, zU_n (by omega), eR18, zU_n (by omega), eR16, zU_n (by omega), eR14, zU_n (by omega), eR12, zU_n (by omega), eR10, zU_n (by omega), eR8]; exact zU_s
  intro X52
  intro eX52
  intro rX52
  have s0 : R50 i (mS.getD 0 0) = some (i + 1 + 0) := by show R50 i 1 = some (i + 1); rw [eR50, zU_n (by omega), eR48, zU_n (by omega), eR46, zU_n (by omega), eR44, zU_n (by omega), eR42, zU_n (by omega), eR40, zU_n (by omega), eR38, zU_n (by omega), eR36, zU_n (by omega), eR34, zU_n (by omega), eR32, zU_n (by omega), eR30, zU_n (by omega), eR28, zU_n (by omega), eR26, zU_n (by omega), eR24, zU_n (by omega), eR22, zU_n (by omega), eR20, zU_n (by omega), eR18, zU_n (by omega), eR16, zU_n (by omega), eR14, zU_n (by omega), eR12, zU_n (by omega), eR10, zU_n (by omega), eR8, zU_n (by omega), eR6, zU_n (by omega), eR4, zU_n (by omega), eR2]; exact zU_s
  have s1 : R50 i (mS.getD 1 0) = some (i + 1 + 1) := by show R50 i 2 = some (i + 2); rw [eR50, zU_n (by omega), eR48, zU_n (by omega), eR46, zU_n (by omega), eR44, zU_n (by omega), eR42, zU_n (by omega), eR40, zU_n (by omega), eR38, zU_n (by omega), eR36, zU_n (by omega), eR34, zU_n (by omega), eR32, zU_n (by omega), eR30, zU_n (by omega), eR28, zU_n (by omega), eR26, zU_n (by omega), eR24, zU_n (by omega), eR22, zU_n (by omega), eR20, zU_n (by omega), eR18, zU_n (by omega), eR16, zU_n (by omega), eR14, zU_n (by omega), eR12, zU_n (by omega), eR10, zU_n (by omega), eR8, zU_n (by omega), eR6, zU_n (by omega), eR4]; exact zU_s
  have s2 : R50 i (mS.getD 2 0) = some (i + 1 + 2) := by show R50 i 3 = some (i + 3); rw [eR50, zU_n (by omega), eR48, zU_n (by omega), eR46, zU_n (by omega), eR44, zU_n (by omega), eR42, zU_n (by omega), eR40, zU_n (by omega), eR38, zU_n (by omega), eR36, zU_n (by omega), eR34, zU_n (by omega), eR32, zU_n (by omega), eR30, zU_n (by omega), eR28, zU_n (by omega), eR26, zU_n (by omega), eR24, zU_n (by omega), eR22, zU_n (by omega), eR20, zU_n (by omega), eR18, zU_n (by omega), eR16, zU_n (by omega), eR14, zU_n (by omega), eR12, zU_n (by omega), eR10, zU_n (by omega), eR8, zU_n (by omega), eR6]; exact zU_s
  have s3 : R50 i (mS.getD 3 0) = some (i + 1 + 3) := by show R50 i 4 = some (i + 4); rw [eR50, zU_n (by omega), eR48, zU_n (by omega), eR46, zU_n (by omega), eR44, zU_n (by omega), eR42, zU_n (by omega), eR40, zU_n (by omega), eR38, zU_n (by omega), eR36, zU_n (by omega), eR34, zU_n (by omega), eR32, zU_n (by omega), eR30, zU_n (by omega), eR28, zU_n (by omega), eR26, zU_n (by omega), eR24, zU_n (by omega), eR22, zU_n (by omega), eR20, zU_n (by omega), eR18, zU_n (by omega), eR16, zU_n (by omega), eR14, zU_n (by omega), eR12, zU_n (by omega), eR10, zU_n (by omega), eR8]; exact zU_s
  have s4 : R50 i (mS.getD 4 0) = some (i + 1 + 4) := by show R50 i 5 = some (i + 5); rw [eR50, zU_n (by omega), eR48, zU_n (by omega), eR46, zU_n (by omega), eR44, zU_n (by omega), eR42, zU_n (by omega), eR40, zU_n (by omega), eR38, zU_n (by omega), eR36, zU_n (by omega), eR34, zU_n (by omega), eR32, zU_n (by omega), eR30, zU_n (by omega), eR28, zU_n (by omega), eR26, zU_n (by omega), eR24, zU_n (by omega), eR22, zU_n (by omega), eR20, zU_n (by omega), eR18, zU_n (by omega), eR16, zU_n (by omega), eR14, zU_n (by omega), eR12, zU_n (by omega), eR10]; exact zU_s
  have s5 : R50 i (mS.getD 5 0) = some (i + 1 + 5) := by show R50 i 6 = some (i + 6); rw [eR50, zU_n (by omega), eR48, zU_n (by omega), eR46, zU_n (by omega), eR44, zU_n (by omega), eR42, zU_n (by omega), eR40, zU_n (by omega), eR38, zU_n (by omega), eR36, zU_n (by omega), eR34, zU_n (by omega), eR32, zU_n (by omega), eR30, zU_n (by omega), eR28, zU_n (by omega), eR26, zU_n (by omega), eR24, zU_n (by omega), eR22, zU_n (by omega), eR20, zU_n (by omega), eR18, zU_n (by omega), eR16, zU_n (by omega), eR14, zU_n (by omega), eR12]; exact zU_s
  have s6 : R50 i (mS.getD 6 0) = some (i + 1 + 6) := by show R50 i 7 = some (i + 7); rw [eR50, zU_n (by omega), eR48, zU_n (by omega), eR46, zU_n (by omega), eR44, zU_n (by omega), eR42, zU_n (by omega), eR40, zU_n (by omega), eR38, zU_n (by omega), eR36, zU_n (by omega), eR34, zU_n (by omega), eR32, zU_n (by omega), eR30, zU_n (by omega), eR28, zU_n (by omega), eR26, zU_n (by omega), eR24, zU_n (by omega), eR22, zU_n (by omega), eR20, zU_n (by omega), eR18, zU_n (by omega), eR16, zU_n (by omega), eR14]; exact zU_s
  have s7 : R50 i (mS.getD 7 0) = some (i + 1 + 7) := by show R50 i 8 = some (i + 8); rw [eR50, zU_n (by omega), eR48, zU_n (by omega), eR46, zU_n (by omega), eR44, zU_n (by omega), eR42, zU_n (by omega), eR40, zU_n (by omega), eR38, zU_n (by omega), eR36, zU_n (by omega), eR34, zU_n (by omega), eR32, zU_n (by omega), eR30, zU_n (by omega), eR28, zU_n (by omega), eR26, zU_n (by omega), eR24, zU_n (by omega), eR22, zU_n (by omega), eR20, zU_n (by omega), eR18, zU_n (by omega), eR16]; exact zU_s
  have s8 : R50 i (mS.getD 8 0) = some (i + 1 + 8) := by show R50 i 9 = some (i + 9); rw [eR50, zU_n (by omega), eR48, zU_n (by omega), eR46, zU_n (by omega), eR44, zU_n (by omega), eR42, zU_n (by omega), eR40, zU_n (by omega), eR38, zU_n (by omega), eR36, zU_n (by omega), eR34, zU_n (by omega), eR32, zU_n (by omega), eR30, zU_n (by omega), eR28, zU_n (by omega), eR26, zU_n (by omega), eR24, zU_n (by omega), eR22, zU_n (by omega), eR20, zU_n (by omega), eR18]; exact zU_s
  have s9 : R50 i (mS.getD 9 0) = some (i + 1 + 9) := by show R50 i 10 = some (i + 10); rw [eR50, zU_n (by omega), eR48, zU_n (by omega), eR46, zU_n (by omega), eR44, zU_n (by omega), eR42, zU_n (by omega), eR40, zU_n (by omega), eR38, zU_n (by omega), eR36, zU_n (by omega), eR34, zU_n (by omega), eR32, zU_n (by omega), eR30, zU_n (by omega), eR28, zU_n (by omega), eR26, zU_n (by omega), eR24, zU_n (by omega), eR22, zU_n (by omega), eR20]; exact zU_s
  have s10 : R50 i (mS.getD 10 0) = some (i + 1 + 10) := by show R50 i 20 = some (i + 11); rw [eR50, zU_n (by omega), eR48, zU_n (by omega), eR46, zU_n (by omega), eR44, zU_n (by omega), eR42, zU_n (by omega), eR40, zU_n (by omega), eR38, zU_n (by omega), eR36, zU_n (by omega), eR34, zU_n (by omega), eR32, zU_n (by omega), eR30, zU_n (by omega), eR28, zU_n (by omega), eR26, zU_n (by omega), eR24, zU_n (by omega), eR22]; exact zU_s
  have s11 : R50 i (mS.getD 11 0) = some (i + 1 + 11) := by show R50 i 21 = some (i + 12); rw [eR50, zU_n (by omega), eR48, zU_n (by omega), eR46, zU_n (by omega), eR44, zU_n (by omega), eR42, zU_n (by omega), eR40, zU_n (by omega), eR38, zU_n (by omega), eR36, zU_n (by omega), eR34, zU_n (by omega), eR32, zU_n (by omega), eR30, zU_n (by omega), eR28, zU_n (by omega), eR26, zU_n (by omega), eR24]; exact zU_s
  have s12 : R50 i (mS.getD 12 0) = some (i + 1 + 12) := by show R50 i 31 = some (i + 13); rw [eR50, zU_n (by omega), eR48, zU_n (by omega), eR46, zU_n (by omega), eR44, zU_n (by omega), eR42, zU_n (by omega), eR40, zU_n (by omega), eR38, zU_n (by omega), eR36, zU_n (by omega), eR34, zU_n (by omega), eR32, zU_n (by omega), eR30, zU_n (by omega), eR28, zU_n (by omega), eR26]; exact zU_s
  have s13 : R50 i (mS.getD 13 0) = some (i + 1 + 13) := by show R50 i 32 = some (i + 14); rw [eR50, zU_n (by omega), eR48, zU_n (by omega), eR46, zU_n (by omega), eR44, zU_n (by omega), eR42, zU_n (by omega), eR40, zU_n (by omega), eR38, zU_n (by omega), eR36, zU_n (by omega), eR34, zU_n (by omega), eR32, zU_n (by omega), eR30, zU_n (by omega), eR28]; exact zU_s
  have s14 : R50 i (mS.getD 14 0) = some (i + 1 + 14) := by show R50 i 33 = some (i + 15); rw [eR50, zU_n (by omega), eR48, zU_n (by omega), eR46, zU_n (by omega), eR44, zU_n (by omega), eR42, zU_n (by omega), eR40, zU_n (by omega), eR38, zU_n (by omega), eR36, zU_n (by omega), eR34, zU_n (by omega), eR32, zU_n (by omega), eR30]; exact zU_s
  have s15 : R50 i (mS.getD 15 0) = some (i + 1 + 15) := by show R50 i 34 = some (i + 16); rw [eR50, zU_n (by omega), eR48, zU_n (by omega), eR46, zU_n (by omega), eR44, zU_n (by omega), eR42, zU_n (by omega), eR40, zU_n (by omega), eR38, zU_n (by omega), eR36, zU_n (by omega), eR34, zU_n (by omega), eR32]; exact zU_s
  have s16 : R50 i (mS.getD 16 0) = some (i + 1 + 16) := by show R50 i 38 = some (i + 17); rw [eR50, zU_n (by omega), eR48, zU_n (by omega), eR46, zU_n (by omega), eR44, zU_n (by omega), eR42, zU_n (by omega), eR40, zU_n (by omega), eR38, zU_n (by omega), eR36, zU_n (by omega), eR34]; exact zU_s
  have s17 : R50 i (mS.getD 17 0) = some (i + 1 + 17) := by show R50 i 39 = some (i + 18); rw [eR50, zU_n (by omega), eR48, zU_n (by omega), eR46, zU_n (by omega), eR44, zU_n (by omega), eR42, zU_n (by omega), eR40, zU_n (by omega), eR38, zU_n (by omega), eR36]; exact zU_s
  have s18 : R50 i (mS.getD 18 0) = some (i + 1 + 18) := by show R50 i 49 = some (i + 19); rw [eR50, zU_n (by omega), eR48, zU_n (by omega), eR46, zU_n (by omega), eR44, zU_n (by omega), eR42, zU_n (by omega), eR40, zU_n (by omega), eR38]; exact zU_s
  have s19 : R50 i (mS.getD 19 0) = some (i + 1 + 19) := by show R50 i 50 = some (i + 20); rw [eR50, zU_n (by omega), eR48, zU_n (by omega), eR46, zU_n (by omega), eR44, zU_n (by omega), eR42, zU_n (by omega), eR40]; exact zU_s
  have s20 : R50 i (mS.getD 20 0) = some (i + 1 + 20) := by show R50 i 53 = some (i + 21); rw [eR50, zU_n (by omega), eR48, zU_n (by omega), eR46, zU_n (by omega), eR44, zU_n (by omega), eR42]; exact zU_s
  have s21 : R50 i (mS.getD 21 0) = some (i + 1 + 21) := by show R50 i 54 = some (i + 22); rw [eR50, zU_n (by omega), eR48, zU_n (by omega), eR46, zU_n (by omega), eR44]; exact zU_s
  have s22 : R50 i (mS.getD 22 0) = some (i + 1 + 22) := by show R50 i 62 = some (i + 23); rw [eR50, zU_n (by omega), eR48, zU_n (by omega), eR46]; exact zU_s
  have s23 : R50 i (mS.getD 23 0) = some (i + 1 + 23) := by show R50 i 63 = some (i + 24); rw [eR50, zU_n (by omega), eR48]; exact zU_s
  have s24 : R50 i (mS.getD 24 0) = some (i + 1 + 24) := by show R50 i 65 = some (i + 25); rw [eR50]; exact zU_s
  have x0 : ∀ y, X52 (i + 0) y = 0 := fun y => by rw [Nat.add_zero]; rw [eX52, zU_o (by omega), eX49, zZ_o (by omega), eX47, zZ_o (by omega), eX45, zZ_o (by omega), eX39, zZ_o (by omega), eX37, zZ_o (by omega), eX33, zZ_o (by omega), eX31, zZ_o (by omega), eX25, zZ_o (by omega), eX23, zZ_o (by omega), eX21, zZ_o (by omega), eX19, zZ_o (by omega), eX17, zZ_o (by omega), eX15, zZ_o (by omega), eX13, zZ_o (by omega), eX11, zZ_o (by omega), eX9, zZ_o (by omega), eX7, zZ_o (by omega), eX5, zZ_o (by omega), eX3, zZ_o (by omega), eX1, zZ_o (by omega)]; exact congrFun hp _
  have x1 : ∀ y, X52 (i + 1) y = 0 := fun y => by rw [eX52, zU_o (by omega), eX49, zZ_o (by omega), eX47, zZ_o (by omega), eX45, zZ_o (by omega), eX39, zZ_o (by omega), eX37, zZ_o (by omega), eX33, zZ_o (by omega), eX31, zZ_o (by omega), eX25, zZ_o (by omega), eX23, zZ_o (by omega), eX21, zZ_o (by omega), eX19, zZ_o (by omega), eX17, zZ_o (by omega), eX15, zZ_o (by omega), eX13, zZ_o (by omega), eX11, zZ_o (by omega), eX9, zZ_o (by omega), eX7, zZ_o (by omega), eX5, zZ_o (by omega), eX3, zZ_o (by omega), eX1]; exact zZ_at
  have x2 : ∀ y, X52 (i + 2) y = 0 := fun y => by rw [eX52, zU_o (by omega), eX49, zZ_o (by omega), eX47, zZ_o (by omega), eX45, zZ_o (by omega), eX39, zZ_o (by omega), eX37, zZ_o (by omega), eX33, zZ_o (by omega), eX31, zZ_o (by omega), eX25, zZ_o (by omega), eX23, zZ_o (by omega), eX21, zZ_o (by omega), eX19, zZ_o (by omega), eX17, zZ_o (by omega), eX15, zZ_o (by omega), eX13, zZ_o (by omega), eX11, zZ_o (by omega), eX9, zZ_o (by omega), eX7, zZ_o (by omega), eX5, zZ_o (by omega), eX3]; exact zZ_at
  have x3 : ∀ y, X52 (i + 3) y = 0 := fun y => by rw [eX52, zU_o (by omega), eX49, zZ_o (by omega), eX47, zZ_o (by omega), eX45, zZ_o (by omega), eX39, zZ_o (by omega), eX37, zZ_o (by omega), eX33, zZ_o (by omega), eX31, zZ_o (by omega), eX25, zZ_o (by omega), eX23, zZ_o (by omega), eX21, zZ_o (by omega), eX19, zZ_o (by omega), eX17, zZ_o (by omega), eX15, zZ_o (by omega), eX13, zZ_o (by omega), eX11, zZ_o (by omega), eX9, zZ_o (by omega), eX7, zZ_o (by omega), eX5]; exact zZ_at
  have x5 : ∀ y, X52 (i + 5) y = 0 := fun y => by rw [eX52, zU_o (by omega), eX49, zZ_o (by omega), eX47, zZ_o (by omega), eX45, zZ_o (by omega), eX39, zZ_o (by omega), eX37, zZ_o (by omega), eX33, zZ_o (by omega), eX31, zZ_o (by omega), eX25, zZ_o (by omega), eX23, zZ_o (by omega), eX21, zZ_o (by omega), eX19, zZ_o (by omega), eX17, zZ_o (by omega), eX15, zZ_o (by omega), eX13, zZ_o (by omega), eX11, zZ_o (by omega), eX9]; exact zZ_at
  have x6 : ∀ y, X52 (i + 6) y = 0 := fun y => by rw [eX52, zU_o (by omega), eX49, zZ_o (by omega), eX47, zZ_o (by omega), eX45, zZ_o (by omega), eX39, zZ_o (by omega), eX37, zZ_o (by omega), eX33, zZ_o (by omega), eX31, zZ_o (by omega), eX25, zZ_o (by omega), eX23, zZ_o (by omega), eX21, zZ_o (by omega), eX19, zZ_o (by omega), eX17, zZ_o (by omega), eX15, zZ_o (by omega), eX13, zZ_o (by omega), eX11]; exact zZ_at
  have x7 : ∀ y, X52 (i + 7) y = 0 := fun y => by rw [eX52, zU_o (by omega), eX49, zZ_o (by omega), eX47, zZ_o (by omega), eX45, zZ_o (by omega), eX39, zZ_o (by omega), eX37, zZ_o (by omega), eX33, zZ_o (by omega), eX31, zZ_o (by omega), eX25, zZ_o (by omega), eX23, zZ_o (by omega), eX21, zZ_o (by omega), eX19, zZ_o (by omega), eX17, zZ_o (by omega), eX15, zZ_o (by omega), eX13]; exact zZ_at
  have x8 : ∀ y, X52 (i + 8) y = 0 := fun y => by rw [eX52, zU_o (by omega), eX49, zZ_o (by omega), eX47, zZ_o (by omega), eX45, zZ_o (by omega), eX39, zZ_o (by omega), eX37, zZ_o (by omega), eX33, zZ_o (by omega), eX31, zZ_o (by omega), eX25, zZ_o (by omega), eX23, zZ_o (by omega), eX21, zZ_o (by omega), eX19, zZ_o (by omega), eX17, zZ_o (by omega), eX15]; exact zZ_at
  have x9 : ∀ y, X52 (i + 9) y = 0 := fun y => by rw [eX52, zU_o (by omega), eX49, zZ_o (by omega), eX47, zZ_o (by omega), eX45, zZ_o (by omega), eX39, zZ_o (by omega), eX37, zZ_o (by omega), eX33, zZ_o (by omega), eX31, zZ_o (by omega), eX25, zZ_o (by omega), eX23, zZ_o (by omega), eX21, zZ_o (by omega), eX19, zZ_o (by omega), eX17]; exact zZ_at
  have x10 : ∀ y, X52 (i + 10) y = 0 := fun y => by rw [eX52, zU_o (by omega), eX49, zZ_o (by omega), eX47, zZ_o (by omega), eX45, zZ_o (by omega), eX39, zZ_o (by omega), eX37, zZ_o (by omega), eX33, zZ_o (by omega), eX31, zZ_o (by omega), eX25, zZ_o (by omega), eX23, zZ_o (by omega), eX21, zZ_o (by omega), eX19]; exact zZ_at
  have x25 : ∀ y, X52 (i + 25) y = 0 := fun y => by rw [eX52, zU_o (by omega), eX49]; exact zZ_at
  refine ⟨fun z g => by rw [eX52, zU_o (by omega), eX49, zZ_o (by omega), eX47, zZ_o (by omega), eX45, zZ_o (by omega), eX39, zZ_o (by omega), eX37, zZ_o (by omega), eX33, zZ_o (by omega), eX31, zZ_o (by omega), eX25, zZ_o (by omega), eX23, zZ_o (by omega), eX21, zZ_o (by omega), eX19, zZ_o (by omega), eX17, zZ_o (by omega), eX15, zZ_o (by omega), eX13, zZ_o (by omega), eX11, zZ_o (by omega), eX9, zZ_o (by omega), eX7, zZ_o (by omega), eX5, zZ_o (by omega), eX3, zZ_o (by omega), eX1, zZ_o (by omega)], fun z g => by rw [eR50, zU_o (by omega), eR48, zU_o (by omega), eR46, zU_o (by omega), eR44, zU_o (by omega), eR42, zU_o (by omega), eR40, zU_o (by omega), eR38, zU_o (by omega), eR36, zU_o (by omega), eR34, zU_o (by omega), eR32, zU_o (by omega), eR30, zU_o (by omega), eR28, zU_o (by omega), eR26, zU_o (by omega), eR24, zU_o (by omega), eR22, zU_o (by omega), eR20, zU_o (by omega), eR18, zU_o (by omega), eR16, zU_o (by omega), eR14, zU_o (by omega), eR12, zU_o (by omega), eR10, zU_o (by omega), eR8, zU_o (by omega), eR6, zU_o (by omega), eR4, zU_o (by omega), eR2, zU_o (by omega)], all25 s0 s1 s2 s3 s4 s5 s6 s7 s8 s9 s10 s11 s12 s13 s14 s15 s16 s17 s18 s19 s20 s21 s22 s23 s24, fun o ho h4 => ?_, by rw [eX52]; exact zU_s, fun y hy => by rw [eX52, zU_n (fun q => hy q.2)]; rw [eX49, zZ_o (by omega), eX47, zZ_o (by omega), eX45, zZ_o (by omega), eX39, zZ_o (by omega), eX37, zZ_o (by omega), eX33, zZ_o (by omega), eX31, zZ_o (by omega), eX25, zZ_o (by omega), eX23, zZ_o (by omega), eX21, zZ_o (by omega), eX19, zZ_o (by omega), eX17, zZ_o (by omega), eX15, zZ_o (by omega), eX13, zZ_o (by omega), eX11, zZ_o (by omega), eX9, zZ_o (by omega), eX7]; exact zZ_at⟩
  have q : o = 0 ∨ o = 1 ∨ o = 2 ∨ o = 3 ∨ o = 5 ∨ o = 6 ∨ o = 7 ∨ o = 8 ∨ o = 9 ∨ o = 10 ∨ o = 25 := by omega
  rcases q with rfl | rfl | rfl | rfl | rfl | rfl | rfl | rfl | rfl | rfl | rfl
  · exact x0
  · exact x1
  · exact x2
  · exact x3
  · exact x5
  · exact x6
  · exact x7
  · exact x8
  · exact x9
  · exact x10
  · exact x25
theorem c_X11_init {l : Launch} {D : va_G} {cy : Nat → ClassId} {bs : Nat} {sa : Nat → Nat} {kd len : Nat → Nat} {X Y : Nat → Int → Int} {R : Nat → Int → Option Nat} {i : Nat} (hK : kT kd len i tModel)  (hp : X i = fun _ => 0) : Met l yX11_init (.code yX11_init cX11_init 1 none :: zTB) (zRmG 1 60 25 6085) (zPcA D cy bs sa (i + 1) kd len X Y R [.ref (bs + (i))]) (zQv D cy bs (i + 26) kd len (fun st => ((∀ z, (z < i ∨ i + 25 < z) → st.1 z = X z) ∧ (∀ z, (z < i ∨ i + 25 < z) → st.2.2 z = R z) ∧ eM st.2.2 i ∧ z0M st.1 i))) 25 6085 (zA bs) := w_X11_init hK  (v_X11_init  hp)
