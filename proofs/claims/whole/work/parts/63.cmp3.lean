/-! THE READER'S TOKENS -/
/-- a reader at i over the bytes at j -/
def zRd0 (N : Nat) (kd len : Nat → Nat) (R : Nat → Int → Option Nat) (i j : Nat) : Prop := i < N ∧ kd i = 7 ∧ j < N ∧ kd j = 12 ∧ len j = 600 ∧ R i 5 = some j
theorem zRd0_n {N : Nat} {kd len : Nat → Nat} {R : Nat → Int → Option Nat} {i j : Nat} (h : zRd0 N kd len R i j) : i < N := h.1
theorem zRd0_k {N : Nat} {kd len : Nat → Nat} {R : Nat → Int → Option Nat} {i j : Nat} (h : zRd0 N kd len R i j) : kd i = 7 := h.2.1
theorem zRd0_m {N : Nat} {kd len : Nat → Nat} {R : Nat → Int → Option Nat} {i j : Nat} (h : zRd0 N kd len R i j) : j < N := h.2.2.1
theorem zRd0_d {N : Nat} {kd len : Nat → Nat} {R : Nat → Int → Option Nat} {i j : Nat} (h : zRd0 N kd len R i j) : kd j = 12 := h.2.2.2.1
theorem zRd0_l {N : Nat} {kd len : Nat → Nat} {R : Nat → Int → Option Nat} {i j : Nat} (h : zRd0 N kd len R i j) : len j = 600 := h.2.2.2.2.1
theorem zRd0_r {N : Nat} {kd len : Nat → Nat} {R : Nat → Int → Option Nat} {i j : Nat} (h : zRd0 N kd len R i j) : R i 5 = some j := h.2.2.2.2.2
def oRc (X : Nat → Int → Int) (i j : Nat) : Prop := (∀ y, 0 ≤ y → y < 600 → -128 ≤ X j y ∧ X j y ≤ 127) ∧ (0 ≤ X i 7 ∧ X i 7 ≤ X i 6) ∧ X i 6 ≤ 600 ∧ j ≠ i
/-- the reader's sorts of tokens -/
def cTk (k : Int) : Int := if k = 0 then 3 else if k = 2 then 0 else if k = 3 then 1 else if k = 4 then 2 else 4
def stC (X X1 : Nat → Int → Int) (i : Nat) : Prop := (∀ z, z ≠ i → X1 z = X z) ∧ ∀ s, s ≠ 7 → s ≠ 8 → s ≠ 9 → s ≠ 10 → X1 i s = X i s
theorem st_fin {X X5 X1 : Nat → Int → Int} {i j n B E : Nat} {K t : Int} (o : ∀ z, z ≠ i → X5 z = X z) (s : ∀ s, s ≠ 7 → s ≠ 8 → s ≠ 9 → s ≠ 10 → X5 i s = X i s) (e : X1 = zU X5 i 9 t) (h8 : X5 i 8 = B) (h7 : X5 i 7 = E) (ht : t = cTk K) (eE : tkE (X j) n B = E) (eK : tkK (X j) n B = K) (hv : K = 3 → X5 i 10 = vaN (X j) B (E - B)) : stC X X1 i ∧ X1 i 8 = (B : Int) ∧ X1 i 7 = (tkE (X j) n B : Nat) ∧ X1 i 9 = cTk (tkK (X j) n B) ∧ (tkK (X j) n B = 3 → X1 i 10 = vaN (X j) B (tkE (X j) n B - B)) := by
  rw [eE, eK]
  exact ⟨⟨fun z hz => by rw [e, zU_o hz]; exact o z hz, fun y h1 h2 h3 h4 => by rw [e, zU_n (by omega)]; exact s y h1 h2 h3 h4⟩, by rw [e, zU_n (by omega)]; exact h8, by rw [e, zU_n (by omega)]; exact h7, by rw [e, zU_s]; exact ht, fun g => by rw [e, zU_n (by omega)]; exact hv g⟩
abbrev cX7_step : ByteArray := prog_9_method_13_code
def yX7_step : MethodName := ⟨RX7, "step", "()V"⟩
theorem dX7_step_0 : decode cX7_step 0 = .ok (.aload_n 0, 1) := by decide +kernel
theorem dX7_step_1 : decode cX7_step 1 = .ok (.getfield 52, 3) := by decide +kernel
theorem dX7_step_4 : decode cX7_step 4 = .ok (.aload_n 0, 1) := by decide +kernel
theorem dX7_step_5 : decode cX7_step 5 = .ok (.getfield 48, 3) := by decide +kernel
theorem dX7_step_8 : decode cX7_step 8 = .ok (.if_icmp .ge 31, 3) := by decide +kernel
theorem dX7_step_11 : decode cX7_step 11 = .ok (.aload_n 0, 1) := by decide +kernel
theorem dX7_step_12 : decode cX7_step 12 = .ok (.getfield 31, 3) := by decide +kernel
theorem dX7_step_15 : decode cX7_step 15 = .ok (.aload_n 0, 1) := by decide +kernel
theorem dX7_step_16 : decode cX7_step 16 = .ok (.getfield 52, 3) := by decide +kernel
theorem dX7_step_19 : decode cX7_step 19 = .ok (.baload, 1) := by decide +kernel
theorem dX7_step_20 : decode cX7_step 20 = .ok (.invokestatic 150, 3) := by decide +kernel
theorem dX7_step_23 : decode cX7_step 23 = .ok (.ifCond .eq 16, 3) := by decide +kernel
theorem dX7_step_26 : decode cX7_step 26 = .ok (.aload_n 0, 1) := by decide +kernel
theorem dX7_step_27 : decode cX7_step 27 = .ok (.dup, 1) := by decide +kernel
theorem dX7_step_28 : decode cX7_step 28 = .ok (.getfield 52, 3) := by decide +kernel
theorem dX7_step_31 : decode cX7_step 31 = .ok (.iconst 1, 1) := by decide +kernel
theorem dX7_step_32 : decode cX7_step 32 = .ok (.iadd, 1) := by decide +kernel
theorem dX7_step_33 : decode cX7_step 33 = .ok (.putfield 52, 3) := by decide +kernel
theorem dX7_step_36 : decode cX7_step 36 = .ok (.goto (-36), 3) := by decide +kernel
theorem dX7_step_39 : decode cX7_step 39 = .ok (.aload_n 0, 1) := by decide +kernel
theorem dX7_step_40 : decode cX7_step 40 = .ok (.aload_n 0, 1) := by decide +kernel
theorem dX7_step_41 : decode cX7_step 41 = .ok (.getfield 52, 3) := by decide +kernel
theorem dX7_step_44 : decode cX7_step 44 = .ok (.putfield 109, 3) := by decide +kernel
theorem dX7_step_47 : decode cX7_step 47 = .ok (.aload_n 0, 1) := by decide +kernel
theorem dX7_step_48 : decode cX7_step 48 = .ok (.getfield 52, 3) := by decide +kernel
theorem dX7_step_51 : decode cX7_step 51 = .ok (.aload_n 0, 1) := by decide +kernel
theorem dX7_step_52 : decode cX7_step 52 = .ok (.getfield 48, 3) := by decide +kernel
theorem dX7_step_55 : decode cX7_step 55 = .ok (.if_icmp .lt 9, 3) := by decide +kernel
theorem dX7_step_58 : decode cX7_step 58 = .ok (.aload_n 0, 1) := by decide +kernel
theorem dX7_step_59 : decode cX7_step 59 = .ok (.iconst 3, 1) := by decide +kernel
theorem dX7_step_60 : decode cX7_step 60 = .ok (.putfield 73, 3) := by decide +kernel
theorem dX7_step_63 : decode cX7_step 63 = .ok (.return_, 1) := by decide +kernel
theorem dX7_step_64 : decode cX7_step 64 = .ok (.aload_n 0, 1) := by decide +kernel
theorem dX7_step_65 : decode cX7_step 65 = .ok (.getfield 31, 3) := by decide +kernel
theorem dX7_step_68 : decode cX7_step 68 = .ok (.aload_n 0, 1) := by decide +kernel
theorem dX7_step_69 : decode cX7_step 69 = .ok (.dup, 1) := by decide +kernel
theorem dX7_step_70 : decode cX7_step 70 = .ok (.getfield 52, 3) := by decide +kernel
theorem dX7_step_73 : decode cX7_step 73 = .ok (.dup_x1, 1) := by decide +kernel
theorem dX7_step_74 : decode cX7_step 74 = .ok (.iconst 1, 1) := by decide +kernel
theorem dX7_step_75 : decode cX7_step 75 = .ok (.iadd, 1) := by decide +kernel
theorem dX7_step_76 : decode cX7_step 76 = .ok (.putfield 52, 3) := by decide +kernel
theorem dX7_step_79 : decode cX7_step 79 = .ok (.baload, 1) := by decide +kernel
theorem dX7_step_80 : decode cX7_step 80 = .ok (.istore_n 1, 1) := by decide +kernel
theorem dX7_step_81 : decode cX7_step 81 = .ok (.iload_n 1, 1) := by decide +kernel
theorem dX7_step_82 : decode cX7_step 82 = .ok (.invokestatic 153, 3) := by decide +kernel
theorem dX7_step_85 : decode cX7_step 85 = .ok (.ifCond .eq 50, 3) := by decide +kernel
theorem dX7_step_88 : decode cX7_step 88 = .ok (.aload_n 0, 1) := by decide +kernel
theorem dX7_step_89 : decode cX7_step 89 = .ok (.getfield 52, 3) := by decide +kernel
theorem dX7_step_92 : decode cX7_step 92 = .ok (.aload_n 0, 1) := by decide +kernel
theorem dX7_step_93 : decode cX7_step 93 = .ok (.getfield 48, 3) := by decide +kernel
theorem dX7_step_96 : decode cX7_step 96 = .ok (.if_icmp .ge 31, 3) := by decide +kernel
theorem dX7_step_99 : decode cX7_step 99 = .ok (.aload_n 0, 1) := by decide +kernel
theorem dX7_step_100 : decode cX7_step 100 = .ok (.getfield 31, 3) := by decide +kernel
theorem dX7_step_103 : decode cX7_step 103 = .ok (.aload_n 0, 1) := by decide +kernel
theorem dX7_step_104 : decode cX7_step 104 = .ok (.getfield 52, 3) := by decide +kernel
theorem dX7_step_107 : decode cX7_step 107 = .ok (.baload, 1) := by decide +kernel
theorem dX7_step_108 : decode cX7_step 108 = .ok (.invokestatic 153, 3) := by decide +kernel
theorem dX7_step_111 : decode cX7_step 111 = .ok (.ifCond .eq 16, 3) := by decide +kernel
theorem dX7_step_114 : decode cX7_step 114 = .ok (.aload_n 0, 1) := by decide +kernel
theorem dX7_step_115 : decode cX7_step 115 = .ok (.dup, 1) := by decide +kernel
theorem dX7_step_116 : decode cX7_step 116 = .ok (.getfield 52, 3) := by decide +kernel
theorem dX7_step_119 : decode cX7_step 119 = .ok (.iconst 1, 1) := by decide +kernel
theorem dX7_step_120 : decode cX7_step 120 = .ok (.iadd, 1) := by decide +kernel
theorem dX7_step_121 : decode cX7_step 121 = .ok (.putfield 52, 3) := by decide +kernel
theorem dX7_step_124 : decode cX7_step 124 = .ok (.goto (-36), 3) := by decide +kernel
theorem dX7_step_127 : decode cX7_step 127 = .ok (.aload_n 0, 1) := by decide +kernel
theorem dX7_step_128 : decode cX7_step 128 = .ok (.iconst 0, 1) := by decide +kernel
theorem dX7_step_129 : decode cX7_step 129 = .ok (.putfield 73, 3) := by decide +kernel
theorem dX7_step_132 : decode cX7_step 132 = .ok (.goto 118, 3) := by decide +kernel
theorem dX7_step_135 : decode cX7_step 135 = .ok (.iload_n 1, 1) := by decide +kernel
theorem dX7_step_136 : decode cX7_step 136 = .ok (.invokestatic 156, 3) := by decide +kernel
theorem dX7_step_139 : decode cX7_step 139 = .ok (.ifCond .eq 96, 3) := by decide +kernel
theorem dX7_step_142 : decode cX7_step 142 = .ok (.aload_n 0, 1) := by decide +kernel
theorem dX7_step_143 : decode cX7_step 143 = .ok (.iload_n 1, 1) := by decide +kernel
theorem dX7_step_144 : decode cX7_step 144 = .ok (.bipush 48, 2) := by decide +kernel
theorem dX7_step_146 : decode cX7_step 146 = .ok (.isub, 1) := by decide +kernel
theorem dX7_step_147 : decode cX7_step 147 = .ok (.putfield 98, 3) := by decide +kernel
theorem dX7_step_150 : decode cX7_step 150 = .ok (.aload_n 0, 1) := by decide +kernel
theorem dX7_step_151 : decode cX7_step 151 = .ok (.getfield 52, 3) := by decide +kernel
theorem dX7_step_154 : decode cX7_step 154 = .ok (.aload_n 0, 1) := by decide +kernel
theorem dX7_step_155 : decode cX7_step 155 = .ok (.getfield 48, 3) := by decide +kernel
theorem dX7_step_158 : decode cX7_step 158 = .ok (.if_icmp .ge 52, 3) := by decide +kernel
theorem dX7_step_161 : decode cX7_step 161 = .ok (.aload_n 0, 1) := by decide +kernel
theorem dX7_step_162 : decode cX7_step 162 = .ok (.getfield 31, 3) := by decide +kernel
theorem dX7_step_165 : decode cX7_step 165 = .ok (.aload_n 0, 1) := by decide +kernel
theorem dX7_step_166 : decode cX7_step 166 = .ok (.getfield 52, 3) := by decide +kernel
theorem dX7_step_169 : decode cX7_step 169 = .ok (.baload, 1) := by decide +kernel
theorem dX7_step_170 : decode cX7_step 170 = .ok (.invokestatic 156, 3) := by decide +kernel
theorem dX7_step_173 : decode cX7_step 173 = .ok (.ifCond .eq 37, 3) := by decide +kernel
theorem dX7_step_176 : decode cX7_step 176 = .ok (.aload_n 0, 1) := by decide +kernel
theorem dX7_step_177 : decode cX7_step 177 = .ok (.aload_n 0, 1) := by decide +kernel
theorem dX7_step_178 : decode cX7_step 178 = .ok (.getfield 98, 3) := by decide +kernel
theorem dX7_step_181 : decode cX7_step 181 = .ok (.bipush 10, 2) := by decide +kernel
theorem dX7_step_183 : decode cX7_step 183 = .ok (.imul, 1) := by decide +kernel
theorem dX7_step_184 : decode cX7_step 184 = .ok (.aload_n 0, 1) := by decide +kernel
theorem dX7_step_185 : decode cX7_step 185 = .ok (.getfield 31, 3) := by decide +kernel
theorem dX7_step_188 : decode cX7_step 188 = .ok (.aload_n 0, 1) := by decide +kernel
theorem dX7_step_189 : decode cX7_step 189 = .ok (.dup, 1) := by decide +kernel
theorem dX7_step_190 : decode cX7_step 190 = .ok (.getfield 52, 3) := by decide +kernel
theorem dX7_step_193 : decode cX7_step 193 = .ok (.dup_x1, 1) := by decide +kernel
theorem dX7_step_194 : decode cX7_step 194 = .ok (.iconst 1, 1) := by decide +kernel
theorem dX7_step_195 : decode cX7_step 195 = .ok (.iadd, 1) := by decide +kernel
theorem dX7_step_196 : decode cX7_step 196 = .ok (.putfield 52, 3) := by decide +kernel
theorem dX7_step_199 : decode cX7_step 199 = .ok (.baload, 1) := by decide +kernel
theorem dX7_step_200 : decode cX7_step 200 = .ok (.iadd, 1) := by decide +kernel
theorem dX7_step_201 : decode cX7_step 201 = .ok (.bipush 48, 2) := by decide +kernel
theorem dX7_step_203 : decode cX7_step 203 = .ok (.isub, 1) := by decide +kernel
theorem dX7_step_204 : decode cX7_step 204 = .ok (.putfield 98, 3) := by decide +kernel
theorem dX7_step_207 : decode cX7_step 207 = .ok (.goto (-57), 3) := by decide +kernel
theorem dX7_step_210 : decode cX7_step 210 = .ok (.aload_n 0, 1) := by decide +kernel
theorem dX7_step_211 : decode cX7_step 211 = .ok (.aload_n 0, 1) := by decide +kernel
theorem dX7_step_212 : decode cX7_step 212 = .ok (.getfield 52, 3) := by decide +kernel
theorem dX7_step_215 : decode cX7_step 215 = .ok (.aload_n 0, 1) := by decide +kernel
theorem dX7_step_216 : decode cX7_step 216 = .ok (.getfield 109, 3) := by decide +kernel
theorem dX7_step_219 : decode cX7_step 219 = .ok (.isub, 1) := by decide +kernel
theorem dX7_step_220 : decode cX7_step 220 = .ok (.iconst 2, 1) := by decide +kernel
theorem dX7_step_221 : decode cX7_step 221 = .ok (.if_icmp .le 7, 3) := by decide +kernel
theorem dX7_step_224 : decode cX7_step 224 = .ok (.iconst 4, 1) := by decide +kernel
theorem dX7_step_225 : decode cX7_step 225 = .ok (.goto 4, 3) := by decide +kernel
theorem dX7_step_228 : decode cX7_step 228 = .ok (.iconst 1, 1) := by decide +kernel
theorem dX7_step_229 : decode cX7_step 229 = .ok (.putfield 73, 3) := by decide +kernel
theorem dX7_step_232 : decode cX7_step 232 = .ok (.goto 18, 3) := by decide +kernel
theorem dX7_step_235 : decode cX7_step 235 = .ok (.aload_n 0, 1) := by decide +kernel
theorem dX7_step_236 : decode cX7_step 236 = .ok (.iload_n 1, 1) := by decide +kernel
theorem dX7_step_237 : decode cX7_step 237 = .ok (.bipush 59, 2) := by decide +kernel
theorem dX7_step_239 : decode cX7_step 239 = .ok (.if_icmp .ne 7, 3) := by decide +kernel
theorem dX7_step_242 : decode cX7_step 242 = .ok (.iconst 2, 1) := by decide +kernel
theorem dX7_step_243 : decode cX7_step 243 = .ok (.goto 4, 3) := by decide +kernel
theorem dX7_step_246 : decode cX7_step 246 = .ok (.iconst 4, 1) := by decide +kernel
theorem dX7_step_247 : decode cX7_step 247 = .ok (.putfield 73, 3) := by decide +kernel
theorem dX7_step_250 : decode cX7_step 250 = .ok (.return_, 1) := by decide +kernel
theorem q_334 : Cond.fieldLink RX7 52 RX7 "next" "I" ∈ zTB := zmem 334 (by decide +kernel) rfl
theorem q_333 : Cond.fieldLink RX7 48 RX7 "length" "I" ∈ zTB := zmem 333 (by decide +kernel) rfl
theorem q_335 : Cond.fieldLink RX7 109 RX7 "from" "I" ∈ zTB := zmem 335 (by decide +kernel) rfl
theorem q_332 : Cond.fieldLink RX7 31 RX7 "tape" "[B" ∈ zTB := zmem 332 (by decide +kernel) rfl
theorem q_637 : Cond.static yX7_isLetter ∈ zTB := zmem 637 (by decide +kernel) rfl
theorem q_134 : Cond.initialized yX7_isLetter.cls ∈ zTB := zmem 134 (by decide +kernel) rfl
theorem q_638 : Cond.code yX7_isLetter cX7_isLetter 1 (some .boolean) ∈ zTB := zmem 638 (by decide +kernel) rfl
theorem q_636 : Cond.methodLink RX7 153 yX7_isLetter ∈ zTB := zmem 636 (by decide +kernel) rfl
theorem k_RX7_153 : zLs RX7 153 yX7_isLetter cX7_isLetter 1 (some .boolean) 1 := ⟨⟨q_636, q_637, q_134, q_638⟩, ⟨by decide, by decide⟩, by decide +kernel⟩
theorem q_640 : Cond.static yX7_isDigit ∈ zTB := zmem 640 (by decide +kernel) rfl
theorem q_641 : Cond.code yX7_isDigit cX7_isDigit 1 (some .boolean) ∈ zTB := zmem 641 (by decide +kernel) rfl
theorem q_639 : Cond.methodLink RX7 156 yX7_isDigit ∈ zTB := zmem 639 (by decide +kernel) rfl
theorem k_RX7_156 : zLs RX7 156 yX7_isDigit cX7_isDigit 1 (some .boolean) 1 := ⟨⟨q_639, q_640, q_134, q_641⟩, ⟨by decide, by decide⟩, by decide +kernel⟩
theorem q_336 : Cond.fieldLink RX7 73 RX7 "token" "I" ∈ zTB := zmem 336 (by decide +kernel) rfl
theorem q_337 : Cond.fieldLink RX7 98 RX7 "value" "I" ∈ zTB := zmem 337 (by decide +kernel) rfl
theorem q_634 : Cond.static yX7_isBlank ∈ zTB := zmem 634 (by decide +kernel) rfl
theorem q_635 : Cond.code yX7_isBlank cX7_isBlank 1 (some .boolean) ∈ zTB := zmem 635 (by decide +kernel) rfl
theorem q_633 : Cond.methodLink RX7 150 yX7_isBlank ∈ zTB := zmem 633 (by decide +kernel) rfl
theorem k_RX7_150 : zLs RX7 150 yX7_isBlank cX7_isBlank 1 (some .boolean) 1 := ⟨⟨q_633, q_634, q_134, q_635⟩, ⟨by decide, by decide⟩, by decide +kernel⟩
def F_X7_step (i j : Nat) (X Y : Nat → Int → Int) (R : Nat → Int → Option Nat)  : Prop := (∀ i j, rI (X i j)) → (∀ i j, rL (Y i j)) → ((∀ z, z ≠ i → X z = X z) ∧ (∀ s, s ≠ 7 → X i s = X i s) ∧ ∃ q : Nat, X i 7 = q ∧ q ≤ (X i 6).toNat ∧ tkB (X j) (X i 6).toNat (X i 7).toNat = en isBl (X j) (X i 6).toNat q) ∧ (∀ (X2 : Nat → Int → Int), (∀ i j, rI (X2 i j)) → ((∀ z, z ≠ i → X2 z = X z) ∧ (∀ s, s ≠ 7 → X2 i s = X i s) ∧ ∃ q : Nat, X2 i 7 = q ∧ q ≤ (X i 6).toNat ∧ tkB (X j) (X i 6).toNat (X i 7).toNat = en isBl (X j) (X i 6).toNat q) → ((((X2 (i) 6) ≤ (X2 (i) 7)) → (∀ X4 : Nat → Int → Int, X4 = zU X2 (i) 8 (X2 (i) 7) → (∀ i j, rI (X4 i j)) → ((((X4 (i) 7) < (X4 (i) 6)) → ((rI ((X4 (i) 7) + 1)) ∧ (∀ X7 : Nat → Int → Int, X7 = zU X4 (i) 7 ((X4 (i) 7) + 1) → (∀ i j, rI (X7 i j)) → ((0 ≤ (X4 (i) 7) ∧ (X4 (i) 7) < 600) ∧ ((((decide (97 ≤ (X7 (j) (X4 (i) 7)) ∧ (X7 (j) (X4 (i) 7)) ≤ 122)) = false) → ((((decide (48 ≤ (X7 (j) (X4 (i) 7)) ∧ (X7 (j) (X4 (i) 7)) ≤ 57)) = false) → (((¬ (X7 (j) (X4 (i) 7)) = 59) → (∀ X12 : Nat → Int → Int, X12 = zU X7 (i) 9 (4) → (∀ i j, rI (X12 i j)) → (stC X (X12) i ∧ (X12) i 8 = tkB (X j) (X i 6).toNat (X i 7).toNat ∧ (X12) i 7 = tkN (X j) (X i 6).toNat (X i 7).toNat ∧ (X12) i 9 = cTk (tkS (X j) (X i 6).toNat (X i 7).toNat) ∧ (tkS (X j) (X i 6).toNat (X i 7).toNat = 3 → (X12) i 10 = tkV (X j) (X i 6).toNat (X i 7).toNat)))) ∧ ((¬ (¬ (X7 (j) (X4 (i) 7)) = 59)) → (∀ X13 : Nat → Int → Int, X13 = zU X7 (i) 9 (2) → (∀ i j, rI (X13 i j)) → (stC X (X13) i ∧ (X13) i 8 = tkB (X j) (X i 6).toNat (X i 7).toNat ∧ (X13) i 7 = tkN (X j) (X i 6).toNat (X i 7).toNat ∧ (X13) i 9 = cTk (tkS (X j) (X i 6).toNat (X i 7).toNat) ∧ (tkS (X j) (X i 6).toNat (X i 7).toNat = 3 → (X13) i 10 = tkV (X j) (X i 6).toNat (X i 7).toNat)))))) ∧ (((decide (48 ≤ (X7 (j) (X4 (i) 7)) ∧ (X7 (j) (X4 (i) 7)) ≤ 57)) = true) → ((rI ((X7 (j) (X4 (i) 7)) - 48)) ∧ (∀ X15 : Nat → Int → Int, X15 = zU X7 (i) 10 ((X7 (j) (X4 (i) 7)) - 48) → (∀ i j, rI (X15 i j)) → (((∀ z, z ≠ i → X15 z = X15 z) ∧ (∀ s, s ≠ 7 → s ≠ 10 → X15 i s = X15 i s) ∧ ∃ k : Nat, X15 i 7 = (((tkB (X j) (X i 6).toNat (X i 7).toNat) + k : Nat) : Int) ∧ (tkB (X j) (X i 6).toNat (X i 7).toNat) + k ≤ (X i 6).toNat ∧ en isDi (X j) (X i 6).toNat (tkB (X j) (X i 6).toNat (X i 7).toNat) = en isDi (X j) (X i 6).toNat ((tkB (X j) (X i 6).toNat (X i 7).toNat) + k) ∧ (∀ j1, j1 < k → isDi ((X j) (((tkB (X j) (X i 6).toNat (X i 7).toNat) + j1 : Nat) : Int)) = true) ∧ (k ≤ 2 → X15 i 10 = vaN (X j) (tkB (X j) (X i 6).toNat (X i 7).toNat) k)) ∧ (∀ (X17 : Nat → Int → Int), (∀ i j, rI (X17 i j)) → ((∀ z, z ≠ i → X17 z = X15 z) ∧ (∀ s, s ≠ 7 → s ≠ 10 → X17 i s = X15 i s) ∧ ∃ k : Nat, X17 i 7 = (((tkB (X j) (X i 6).toNat (X i 7).toNat) + k : Nat) : Int) ∧ (tkB (X j) (X i 6).toNat (X i 7).toNat) + k ≤ (X i 6).toNat ∧ en isDi (X j) (X i 6).toNat (tkB (X j) (X i 6).toNat (X i 7).toNat) = en isDi (X j) (X i 6).toNat ((tkB (X j) (X i 6).toNat (X i 7).toNat) + k) ∧ (∀ j1, j1 < k → isDi ((X j) (((tkB (X j) (X i 6).toNat (X i 7).toNat) + j1 : Nat) : Int)) = true) ∧ (k ≤ 2 → X17 i 10 = vaN (X j) (tkB (X j) (X i 6).toNat (X i 7).toNat) k)) → ((((X17 (i) 6) ≤ (X17 (i) 7)) → ((rI ((X17 (i) 7) - (X17 (i) 8))) ∧ (((((X17 (i) 7) - (X17 (i) 8)) ≤ 2) → (∀ X21 : Nat → Int → Int, X21 = zU X17 (i) 9 (1) → (∀ i j, rI (X21 i j)) → (stC X (X21) i ∧ (X21) i 8 = tkB (X j) (X i 6).toNat (X i 7).toNat ∧ (X21) i 7 = tkN (X j) (X i 6).toNat (X i 7).toNat ∧ (X21) i 9 = cTk (tkS (X j) (X i 6).toNat (X i 7).toNat) ∧ (tkS (X j) (X i 6).toNat (X i 7).toNat = 3 → (X21) i 10 = tkV (X j) (X i 6).toNat (X i 7).toNat)))) ∧ ((¬ (((X17 (i) 7) - (X17 (i) 8)) ≤ 2)) → (∀ X22 : Nat → Int → Int, X22 = zU X17 (i) 9 (4) → (∀ i j, rI (X22 i j)) → (stC X (X22) i ∧ (X22) i 8 = tkB (X j) (X i 6).toNat (X i 7).toNat ∧ (X22) i 7 = tkN (X j) (X i 6).toNat (X i 7).toNat ∧ (X22) i 9 = cTk (tkS (X j) (X i 6).toNat (X i 7).toNat) ∧ (tkS (X j) (X i 6).toNat (X i 7).toNat = 3 → (X22) i 10 = tkV (X j) (X i 6).toNat (X i 7).toNat))))))) ∧ ((¬ ((X17 (i) 6) ≤ (X17 (i) 7))) → ((0 ≤ (X17 (i) 7) ∧ (X17 (i) 7) < 600) ∧ ((((decide (48 ≤ (X17 (j) (X17 (i) 7)) ∧ (X17 (j) (X17 (i) 7)) ≤ 57)) = false) → ((rI ((X17 (i) 7) - (X17 (i) 8))) ∧ (((((X17 (i) 7) - (X17 (i) 8)) ≤ 2) → (∀ X27 : Nat → Int → Int, X27 = zU X17 (i) 9 (1) → (∀ i j, rI (X27 i j)) → (stC X (X27) i ∧ (X27) i 8 = tkB (X j) (X i 6).toNat (X i 7).toNat ∧ (X27) i 7 = tkN (X j) (X i 6).toNat (X i 7).toNat ∧ (X27) i 9 = cTk (tkS (X j) (X i 6).toNat (X i 7).toNat) ∧ (tkS (X j) (X i 6).toNat (X i 7).toNat = 3 → (X27) i 10 = tkV (X j) (X i 6).toNat (X i 7).toNat)))) ∧ ((¬ (((X17 (i) 7) - (X17 (i) 8)) ≤ 2)) → (∀ X28 : Nat → Int → Int, X28 = zU X17 (i) 9 (4) → (∀ i j, rI (X28 i j)) → (stC X (X28) i ∧ (X28) i 8 = tkB (X j) (X i 6).toNat (X i 7).toNat ∧ (X28) i 7 = tkN (X j) (X i 6).toNat (X i 7).toNat ∧ (X28) i 9 = cTk (tkS (X j) (X i 6).toNat (X i 7).toNat) ∧ (tkS (X j) (X i 6).toNat (X i 7).toNat = 3 → (X28) i 10 = tkV (X j) (X i 6).toNat (X i 7).toNat))))))) ∧ (((decide (48 ≤ (X17 (j) (X17 (i) 7)) ∧ (X17 (j) (X17 (i) 7)) ≤ 57)) = true) → ((rI ((X17 (i) 7) + 1)) ∧ (∀ X30 : Nat → Int → Int, X30 = zU X17 (i) 7 ((X17 (i) 7) + 1) → (∀ i j, rI (X30 i j)) → ((0 ≤ (X17 (i) 7) ∧ (X17 (i) 7) < 600) ∧ (∀ X32 : Nat → Int → Int, X32 = zU X30 (i) 10 (zW ((zW ((zW ((X17 (i) 10) * 10)) + (X30 (j) (X17 (i) 7)))) - 48)) → (∀ i j, rI (X32 i j)) → (((∀ z, z ≠ i → X32 z = X15 z) ∧ (∀ s, s ≠ 7 → s ≠ 10 → X32 i s = X15 i s) ∧ ∃ k : Nat, X32 i 7 = (((tkB (X j) (X i 6).toNat (X i 7).toNat) + k : Nat) : Int) ∧ (tkB (X j) (X i 6).toNat (X i 7).toNat) + k ≤ (X i 6).toNat ∧ en isDi (X j) (X i 6).toNat (tkB (X j) (X i 6).toNat (X i 7).toNat) = en isDi (X j) (X i 6).toNat ((tkB (X j) (X i 6).toNat (X i 7).toNat) + k) ∧ (∀ j1, j1 < k → isDi ((X j) (((tkB (X j) (X i 6).toNat (X i 7).toNat) + j1 : Nat) : Int)) = true) ∧ (k ≤ 2 → X32 i 10 = vaN (X j) (tkB (X j) (X i 6).toNat (X i 7).toNat) k)) ∧ (((X i 6 - X32 i 7).toNat) < ((X i 6 - X17 i 7).toNat))))))))))))))))))) ∧ (((decide (97 ≤ (X7 (j) (X4 (i) 7)) ∧ (X7 (j) (X4 (i) 7)) ≤ 122)) = true) → (((∀ z, z ≠ i → X7 z = X7 z) ∧ (∀ s, s ≠ 7 → X7 i s = X7 i s) ∧ ∃ q : Nat, X7 i 7 = q ∧ q ≤ (X i 6).toNat ∧ en isLe (X j) (X i 6).toNat (tkB (X j) (X i 6).toNat (X i 7).toNat) = en isLe (X j) (X i 6).toNat q) ∧ (∀ (X34 : Nat → Int → Int), (∀ i j, rI (X34 i j)) → ((∀ z, z ≠ i → X34 z = X7 z) ∧ (∀ s, s ≠ 7 → X34 i s = X7 i s) ∧ ∃ q : Nat, X34 i 7 = q ∧ q ≤ (X i 6).toNat ∧ en isLe (X j) (X i 6).toNat (tkB (X j) (X i 6).toNat (X i 7).toNat) = en isLe (X j) (X i 6).toNat q) → ((((X34 (i) 6) ≤ (X34 (i) 7)) → (∀ X36 : Nat → Int → Int, X36 = zU X34 (i) 9 (0) → (∀ i j, rI (X36 i j)) → (stC X (X36) i ∧ (X36) i 8 = tkB (X j) (X i 6).toNat (X i 7).toNat ∧ (X36) i 7 = tkN (X j) (X i 6).toNat (X i 7).toNat ∧ (X36) i 9 = cTk (tkS (X j) (X i 6).toNat (X i 7).toNat) ∧ (tkS (X j) (X i 6).toNat (X i 7).toNat = 3 → (X36) i 10 = tkV (X j) (X i 6).toNat (X i 7).toNat)))) ∧ ((¬ ((X34 (i) 6) ≤ (X34 (i) 7))) → ((0 ≤ (X34 (i) 7) ∧ (X34 (i) 7) < 600) ∧ ((((decide (97 ≤ (X34 (j) (X34 (i) 7)) ∧ (X34 (j) (X34 (i) 7)) ≤ 122)) = false) → (∀ X39 : Nat → Int → Int, X39 = zU X34 (i) 9 (0) → (∀ i j, rI (X39 i j)) → (stC X (X39) i ∧ (X39) i 8 = tkB (X j) (X i 6).toNat (X i 7).toNat ∧ (X39) i 7 = tkN (X j) (X i 6).toNat (X i 7).toNat ∧ (X39) i 9 = cTk (tkS (X j) (X i 6).toNat (X i 7).toNat) ∧ (tkS (X j) (X i 6).toNat (X i 7).toNat = 3 → (X39) i 10 = tkV (X j) (X i 6).toNat (X i 7).toNat)))) ∧ (((decide (97 ≤ (X34 (j) (X34 (i) 7)) ∧ (X34 (j) (X34 (i) 7)) ≤ 122)) = true) → ((rI ((X34 (i) 7) + 1)) ∧ (∀ X41 : Nat → Int → Int, X41 = zU X34 (i) 7 ((X34 (i) 7) + 1) → (∀ i j, rI (X41 i j)) → (((∀ z, z ≠ i → X41 z = X7 z) ∧ (∀ s, s ≠ 7 → X41 i s = X7 i s) ∧ ∃ q : Nat, X41 i 7 = q ∧ q ≤ (X i 6).toNat ∧ en isLe (X j) (X i 6).toNat (tkB (X j) (X i 6).toNat (X i 7).toNat) = en isLe (X j) (X i 6).toNat q) ∧ (((X i 6 - X41 i 7).toNat) < ((X i 6 - X34 i 7).toNat)))))))))))))))))) ∧ ((¬ ((X4 (i) 7) < (X4 (i) 6))) → (∀ X42 : Nat → Int → Int, X42 = zU X4 (i) 9 (3) → (∀ i j, rI (X42 i j)) → (stC X (X42) i ∧ (X42) i 8 = tkB (X j) (X i 6).toNat (X i 7).toNat ∧ (X42) i 7 = tkN (X j) (X i 6).toNat (X i 7).toNat ∧ (X42) i 9 = cTk (tkS (X j) (X i 6).toNat (X i 7).toNat) ∧ (tkS (X j) (X i 6).toNat (X i 7).toNat = 3 → (X42) i 10 = tkV (X j) (X i 6).toNat (X i 7).toNat))))))) ∧ ((¬ ((X2 (i) 6) ≤ (X2 (i) 7))) → ((0 ≤ (X2 (i) 7) ∧ (X2 (i) 7) < 600) ∧ ((((decide ((X2 (j) (X2 (i) 7)) = 10 ∨ (X2 (j) (X2 (i) 7)) = 32)) = false) → (∀ X45 : Nat → Int → Int, X45 = zU X2 (i) 8 (X2 (i) 7) → (∀ i j, rI (X45 i j)) → ((((X45 (i) 7) < (X45 (i) 6)) → ((rI ((X45 (i) 7) + 1)) ∧ (∀ X48 : Nat → Int → Int, X48 = zU X45 (i) 7 ((X45 (i) 7) + 1) → (∀ i j, rI (X48 i j)) → ((0 ≤ (X45 (i) 7) ∧ (X45 (i) 7) < 600) ∧ ((((decide (97 ≤ (X48 (j) (X45 (i) 7)) ∧ (X48 (j) (X45 (i) 7)) ≤ 122)) = false) → ((((decide (48 ≤ (X48 (j) (X45 (i) 7)) ∧ (X48 (j) (X45 (i) 7)) ≤ 57)) = false) → (((¬ (X48 (j) (X45 (i) 7)) = 59) → (∀ X53 : Nat → Int → Int, X53 = zU X48 (i) 9 (4) → (∀ i j, rI (X53 i j)) → (stC X (X53) i ∧ (X53) i 8 = tkB (X j) (X i 6).toNat (X i 7).toNat ∧ (X53) i 7 = tkN (X j) (X i 6).toNat (X i 7).toNat ∧ (X53) i 9 = cTk (tkS (X j) (X i 6).toNat (X i 7).toNat) ∧ (tkS (X j) (X i 6).toNat (X i 7).toNat = 3 → (X53) i 10 = tkV (X j) (X i 6).toNat (X i 7).toNat)))) ∧ ((¬ (¬ (X48 (j) (X45 (i) 7)) = 59)) → (∀ X54 : Nat → Int → Int, X54 = zU X48 (i) 9 (2) → (∀ i j, rI (X54 i j)) → (stC X (X54) i ∧ (X54) i 8 = tkB (X j) (X i 6).toNat (X i 7).toNat ∧ (X54) i 7 = tkN (X j) (X i 6).toNat (X i 7).toNat ∧ (X54) i 9 = cTk (tkS (X j) (X i 6).toNat (X i 7).toNat) ∧ (tkS (X j) (X i 6).toNat (X i 7).toNat = 3 → (X54) i 10 = tkV (X j) (X i 6).toNat (X i 7).toNat)))))) ∧ (((decide (48 ≤ (X48 (j) (X45 (i) 7)) ∧ (X48 (j) (X45 (i) 7)) ≤ 57)) = true) → ((rI ((X48 (j) (X45 (i) 7)) - 48)) ∧ (∀ X56 : Nat → Int → Int, X56 = zU X48 (i) 10 ((X48 (j) (X45 (i) 7)) - 48) → (∀ i j, rI (X56 i j)) → (((∀ z, z ≠ i → X56 z = X56 z) ∧ (∀ s, s ≠ 7 → s ≠ 10 → X56 i s = X56 i s) ∧ ∃ k : Nat, X56 i 7 = (((tkB (X j) (X i 6).toNat (X i 7).toNat) + k : Nat) : Int) ∧ (tkB (X j) (X i 6).toNat (X i 7).toNat) + k ≤ (X i 6).toNat ∧ en isDi (X j) (X i 6).toNat (tkB (X j) (X i 6).toNat (X i 7).toNat) = en isDi (X j) (X i 6).toNat ((tkB (X j) (X i 6).toNat (X i 7).toNat) + k) ∧ (∀ j1, j1 < k → isDi ((X j) (((tkB (X j) (X i 6).toNat (X i 7).toNat) + j1 : Nat) : Int)) = true) ∧ (k ≤ 2 → X56 i 10 = vaN (X j) (tkB (X j) (X i 6).toNat (X i 7).toNat) k)) ∧ (∀ (X58 : Nat → Int → Int), (∀ i j, rI (X58 i j)) → ((∀ z, z ≠ i → X58 z = X56 z) ∧ (∀ s, s ≠ 7 → s ≠ 10 → X58 i s = X56 i s) ∧ ∃ k : Nat, X58 i 7 = (((tkB (X j) (X i 6).toNat (X i 7).toNat) + k : Nat) : Int) ∧ (tkB (X j) (X i 6).toNat (X i 7).toNat) + k ≤ (X i 6).toNat ∧ en isDi (X j) (X i 6).toNat (tkB (X j) (X i 6).toNat (X i 7).toNat) = en isDi (X j) (X i 6).toNat ((tkB (X j) (X i 6).toNat (X i 7).toNat) + k) ∧ (∀ j1, j1 < k → isDi ((X j) (((tkB (X j) (X i 6).toNat (X i 7).toNat) + j1 : Nat) : Int)) = true) ∧ (k ≤ 2 → X58 i 10 = vaN (X j) (tkB (X j) (X i 6).toNat (X i 7).toNat) k)) → ((((X58 (i) 6) ≤ (X58 (i) 7)) → ((rI ((X58 (i) 7) - (X58 (i) 8))) ∧ (((((X58 (i) 7) - (X58 (i) 8)) ≤ 2) → (∀ X62 : Nat → Int → Int, X62 = zU X58 (i) 9 (1) → (∀ i j, rI (X62 i j)) → (stC X (X62) i ∧ (X62) i 8 = tkB (X j) (X i 6).toNat (X i 7).toNat ∧ (X62) i 7 = tkN (X j) (X i 6).toNat (X i 7).toNat ∧ (X62) i 9 = cTk (tkS (X j) (X i 6).toNat (X i 7).toNat) ∧ (tkS (X j) (X i 6).toNat (X i 7).toNat = 3 → (X62) i 10 = tkV (X j) (X i 6).toNat (X i 7).toNat)))) ∧ ((¬ (((X58 (i) 7) - (X58 (i) 8)) ≤ 2)) → (∀ X63 : Nat → Int → Int, X63 = zU X58 (i) 9 (4) → (∀ i j, rI (X63 i j)) → (stC X (X63) i ∧ (X63) i 8 = tkB (X j) (X i 6).toNat (X i 7).toNat ∧ (X63) i 7 = tkN (X j) (X i 6).toNat (X i 7).toNat ∧ (X63) i 9 = cTk (tkS (X j) (X i 6).toNat (X i 7).toNat) ∧ (tkS (X j) (X i 6).toNat (X i 7).toNat = 3 → (X63) i 10 = tkV (X j) (X i 6).toNat (X i 7).toNat))))))) ∧ ((¬ ((X58 (i) 6) ≤ (X58 (i) 7))) → ((0 ≤ (X58 (i) 7) ∧ (X58 (i) 7) < 600) ∧ ((((decide (48 ≤ (X58 (j) (X58 (i) 7)) ∧ (X58 (j) (X58 (i) 7)) ≤ 57)) = false) → ((rI ((X58 (i) 7) - (X58 (i) 8))) ∧ (((((X58 (i) 7) - (X58 (i) 8)) ≤ 2) → (∀ X68 : Nat → Int → Int, X68 = zU X58 (i) 9 (1) → (∀ i j, rI (X68 i j)) → (stC X (X68) i ∧ (X68) i 8 = tkB (X j) (X i 6).toNat (X i 7).toNat ∧ (X68) i 7 = tkN (X j) (X i 6).toNat (X i 7).toNat ∧ (X68) i 9 = cTk (tkS (X j) (X i 6).toNat (X i 7).toNat) ∧ (tkS (X j) (X i 6).toNat (X i 7).toNat = 3 → (X68) i 10 = tkV (X j) (X i 6).toNat (X i 7).toNat)))) ∧ ((¬ (((X58 (i) 7) - (X58 (i) 8)) ≤ 2)) → (∀ X69 : Nat → Int → Int, X69 = zU X58 (i) 9 (4) → (∀ i j, rI (X69 i j)) → (stC X (X69) i ∧ (X69) i 8 = tkB (X j) (X i 6).toNat (X i 7).toNat ∧ (X69) i 7 = tkN (X j) (X i 6).toNat (X i 7).toNat ∧ (X69) i 9 = cTk (tkS (X j) (X i 6).toNat (X i 7).toNat) ∧ (tkS (X j) (X i 6).toNat (X i 7).toNat = 3 → (X69) i 10 = tkV (X j) (X i 6).toNat (X i 7).toNat))))))) ∧ (((decide (48 ≤ (X58 (j) (X58 (i) 7)) ∧ (X58 (j) (X58 (i) 7)) ≤ 57)) = true) → ((rI ((X58 (i) 7) + 1)) ∧ (∀ X71 : Nat → Int → Int, X71 = zU X58 (i) 7 ((X58 (i) 7) + 1) → (∀ i j, rI (X71 i j)) → ((0 ≤ (X58 (i) 7) ∧ (X58 (i) 7) < 600) ∧ (∀ X73 : Nat → Int → Int, X73 = zU X71 (i) 10 (zW ((zW ((zW ((X58 (i) 10) * 10)) + (X71 (j) (X58 (i) 7)))) - 48)) → (∀ i j, rI (X73 i j)) → (((∀ z, z ≠ i → X73 z = X56 z) ∧ (∀ s, s ≠ 7 → s ≠ 10 → X73 i s = X56 i s) ∧ ∃ k : Nat, X73 i 7 = (((tkB (X j) (X i 6).toNat (X i 7).toNat) + k : Nat) : Int) ∧ (tkB (X j) (X i 6).toNat (X i 7).toNat) + k ≤ (X i 6).toNat ∧ en isDi (X j) (X i 6).toNat (tkB (X j) (X i 6).toNat (X i 7).toNat) = en isDi (X j) (X i 6).toNat ((tkB (X j) (X i 6).toNat (X i 7).toNat) + k) ∧ (∀ j1, j1 < k → isDi ((X j) (((tkB (X j) (X i 6).toNat (X i 7).toNat) + j1 : Nat) : Int)) = true) ∧ (k ≤ 2 → X73 i 10 = vaN (X j) (tkB (X j) (X i 6).toNat (X i 7).toNat) k)) ∧ (((X i 6 - X73 i 7).toNat) < ((X i 6 - X58 i 7).toNat))))))))))))))))))) ∧ (((decide (97 ≤ (X48 (j) (X45 (i) 7)) ∧ (X48 (j) (X45 (i) 7)) ≤ 122)) = true) → (((∀ z, z ≠ i → X48 z = X48 z) ∧ (∀ s, s ≠ 7 → X48 i s = X48 i s) ∧ ∃ q : Nat, X48 i 7 = q ∧ q ≤ (X i 6).toNat ∧ en isLe (X j) (X i 6).toNat (tkB (X j) (X i 6).toNat (X i 7).toNat) = en isLe (X j) (X i 6).toNat q) ∧ (∀ (X75 : Nat → Int → Int), (∀ i j, rI (X75 i j)) → ((∀ z, z ≠ i → X75 z = X48 z) ∧ (∀ s, s ≠ 7 → X75 i s = X48 i s) ∧ ∃ q : Nat, X75 i 7 = q ∧ q ≤ (X i 6).toNat ∧ en isLe (X j) (X i 6).toNat (tkB (X j) (X i 6).toNat (X i 7).toNat) = en isLe (X j) (X i 6).toNat q) → ((((X75 (i) 6) ≤ (X75 (i) 7)) → (∀ X77 : Nat → Int → Int, X77 = zU X75 (i) 9 (0) → (∀ i j, rI (X77 i j)) → (stC X (X77) i ∧ (X77) i 8 = tkB (X j) (X i 6).toNat (X i 7).toNat ∧ (X77) i 7 = tkN (X j) (X i 6).toNat (X i 7).toNat ∧ (X77) i 9 = cTk (tkS (X j) (X i 6).toNat (X i 7).toNat) ∧ (tkS (X j) (X i 6).toNat (X i 7).toNat = 3 → (X77) i 10 = tkV (X j) (X i 6).toNat (X i 7).toNat)))) ∧ ((¬ ((X75 (i) 6) ≤ (X75 (i) 7))) → ((0 ≤ (X75 (i) 7) ∧ (X75 (i) 7) < 600) ∧ ((((decide (97 ≤ (X75 (j) (X75 (i) 7)) ∧ (X75 (j) (X75 (i) 7)) ≤ 122)) = false) → (∀ X80 : Nat → Int → Int, X80 = zU X75 (i) 9 (0) → (∀ i j, rI (X80 i j)) → (stC X (X80) i ∧ (X80) i 8 = tkB (X j) (X i 6).toNat (X i 7).toNat ∧ (X80) i 7 = tkN (X j) (X i 6).toNat (X i 7).toNat ∧ (X80) i 9 = cTk (tkS (X j) (X i 6).toNat (X i 7).toNat) ∧ (tkS (X j) (X i 6).toNat (X i 7).toNat = 3 → (X80) i 10 = tkV (X j) (X i 6).toNat (X i 7).toNat)))) ∧ (((decide (97 ≤ (X75 (j) (X75 (i) 7)) ∧ (X75 (j) (X75 (i) 7)) ≤ 122)) = true) → ((rI ((X75 (i) 7) + 1)) ∧ (∀ X82 : Nat → Int → Int, X82 = zU X75 (i) 7 ((X75 (i) 7) + 1) → (∀ i j, rI (X82 i j)) → (((∀ z, z ≠ i → X82 z = X48 z) ∧ (∀ s, s ≠ 7 → X82 i s = X48 i s) ∧ ∃ q : Nat, X82 i 7 = q ∧ q ≤ (X i 6).toNat ∧ en isLe (X j) (X i 6).toNat (tkB (X j) (X i 6).toNat (X i 7).toNat) = en isLe (X j) (X i 6).toNat q) ∧ (((X i 6 - X82 i 7).toNat) < ((X i 6 - X75 i 7).toNat)))))))))))))))))) ∧ ((¬ ((X45 (i) 7) < (X45 (i) 6))) → (∀ X83 : Nat → Int → Int, X83 = zU X45 (i) 9 (3) → (∀ i j, rI (X83 i j)) → (stC X (X83) i ∧ (X83) i 8 = tkB (X j) (X i 6).toNat (X i 7).toNat ∧ (X83) i 7 = tkN (X j) (X i 6).toNat (X i 7).toNat ∧ (X83) i 9 = cTk (tkS (X j) (X i 6).toNat (X i 7).toNat) ∧ (tkS (X j) (X i 6).toNat (X i 7).toNat = 3 → (X83) i 10 = tkV (X j) (X i 6).toNat (X i 7).toNat))))))) ∧ (((decide ((X2 (j) (X2 (i) 7)) = 10 ∨ (X2 (j) (X2 (i) 7)) = 32)) = true) → ((rI ((X2 (i) 7) + 1)) ∧ (∀ X85 : Nat → Int → Int, X85 = zU X2 (i) 7 ((X2 (i) 7) + 1) → (∀ i j, rI (X85 i j)) → (((∀ z, z ≠ i → X85 z = X z) ∧ (∀ s, s ≠ 7 → X85 i s = X i s) ∧ ∃ q : Nat, X85 i 7 = q ∧ q ≤ (X i 6).toNat ∧ tkB (X j) (X i 6).toNat (X i 7).toNat = en isBl (X j) (X i 6).toNat q) ∧ (((X i 6 - X85 i 7).toNat) < ((X i 6 - X2 i 7).toNat)))))))))))
set_option maxHeartbeats 4000000 in
set_option maxRecDepth 100000 in
theorem w_X7_step {l : Launch} {D : va_G} {cy : Nat → ClassId} {bs N : Nat} {sa : Nat → Nat} {kd len : Nat → Nat} {X Y : Nat → Int → Int} {R : Nat → Int → Option Nat} {i j : Nat} (hC : zRd0 N kd len R i j)  (hF : F_X7_step i j X Y R ) : Met l yX7_step (.code yX7_step cX7_step 2 none :: zTB) (zRm 1 20) (zPc D cy bs sa N kd len X Y R [.ref (bs + (i))]) (zQv D cy bs N kd len (fun st => st.2.1 = Y ∧ st.2.2 = R ∧ (stC X (st.1) i ∧ (st.1) i 8 = tkB (X j) (X i 6).toNat (X i 7).toNat ∧ (st.1) i 7 = tkN (X j) (X i 6).toNat (X i 7).toNat ∧ (st.1) i 9 = cTk (tkS (X j) (X i 6).toNat (X i 7).toNat) ∧ (tkS (X j) (X i 6).toNat (X i 7).toNat = 3 → (st.1) i 10 = tkV (X j) (X i 6).toNat (X i 7).toNat)))) 0 0 (zA bs) := by
  refine zstart (by decide) (Nat.le_of_ble_eq_true rfl) ?_
  intro p e s m args below meth c ls C hE hH hr hlk hnm hl hargs
  have hF := hF hH.2.2.1 hH.2.2.2
  have hS : va_S (zA bs) s.heap s.heap [] := va_S.rf
  have hl : lv_has ls 2 [(0, .ref (bs + (i)))] := hl
  obtain ⟨hI1, hF⟩ := hF
  have L1 : ∀ (fu : Nat) (X2 : Nat → Int → Int), ((∀ z, z ≠ i → X2 z = X z) ∧ (∀ s, s ≠ 7 → X2 i s = X i s) ∧ ∃ q : Nat, X2 i 7 = q ∧ q ≤ (X i 6).toNat ∧ tkB (X j) (X i 6).toNat (X i 7).toNat = en isBl (X j) (X i 6).toNat q) → ((X i 6 - X2 i 7).toNat) < fu → ∀ (H : Heap) (locs : List Loc) (ls : Array Slot), zH D cy bs N kd len X2 Y R H → va_S (zA bs) s.heap H locs → lv_has ls 2 [(0, .ref (bs + (i)))] → W p l e (zRm 1 20) s m args below meth c H locs 0 0 (MQ below (zQv D cy bs N kd len (fun st => st.2.1 = Y ∧ st.2.2 = R ∧ (stC X (st.1) i ∧ (st.1) i 8 = tkB (X j) (X i 6).toNat (X i 7).toNat ∧ (st.1) i 7 = tkN (X j) (X i 6).toNat (X i 7).toNat ∧ (st.1) i 9 = cTk (tkS (X j) (X i 6).toNat (X i 7).toNat) ∧ (tkS (X j) (X i 6).toNat (X i 7).toNat = 3 → (st.1) i 10 = tkV (X j) (X i 6).toNat (X i 7).toNat)))) args s 0 0 (zA bs)) (F0 m 0 ls []) := by
    intro fu
    induction fu with
    | zero => intro X2  _ hmu; exact absurd hmu (Nat.not_lt_zero _)
    | succ fu ih1 =>
      intro X2  hI hmu1 H locs ls hH hS hl
      have hF := hF X2  hH.2.2.1 hI
      refine lv_aload_n C.1 C.2.1 dX7_step_0 rfl (lv_at hl 0 rfl) ?_
      refine zg7_7 C hH (zRd0_n hC) (zRd0_k hC) q_334 dX7_step_1 ?_
      refine lv_aload_n C.1 C.2.1 dX7_step_4 rfl (lv_at hl 0 rfl) ?_
      refine zg7_6 C hH (zRd0_n hC) (zRd0_k hC) q_333 dX7_step_5 ?_
      refine zd_icmp_ge C (hH.2.2.1 _ _) (hH.2.2.1 _ _) 39 dX7_step_8 (by decide) (fun c3 => ?_) (fun c3 => ?_)
      · have hF := hF.1 c3
        refine lv_aload_n C.1 C.2.1 dX7_step_39 rfl (lv_at hl 0 rfl) ?_
        refine lv_aload_n C.1 C.2.1 dX7_step_40 rfl (lv_at hl 0 rfl) ?_
        refine zg7_7 C hH (zRd0_n hC) (zRd0_k hC) q_334 dX7_step_41 ?_
        refine zp7_8 C hH hS (zRd0_n hC) (zRd0_k hC) q_335 (hH.2.2.1 _ _) dX7_step_44 (fun H locs hH hS => ?_)
        obtain ⟨X4, eX4⟩ : ∃ z, z = zU X2 (i) 8 (X2 (i) 7) := ⟨_, rfl⟩
        rw [← eX4] at hH
        have hF := hF X4 eX4 hH.2.2.1
        refine lv_aload_n C.1 C.2.1 dX7_step_47 rfl (lv_at hl 0 rfl) ?_
        refine zg7_7 C hH (zRd0_n hC) (zRd0_k hC) q_334 dX7_step_48 ?_
        refine lv_aload_n C.1 C.2.1 dX7_step_51 rfl (lv_at hl 0 rfl) ?_
        refine zg7_6 C hH (zRd0_n hC) (zRd0_k hC) q_333 dX7_step_52 ?_
        refine zd_icmp_lt C (hH.2.2.1 _ _) (hH.2.2.1 _ _) 64 dX7_step_55 (by decide) (fun c5 => ?_) (fun c5 => ?_)
        · have hF := hF.1 c5
          refine lv_aload_n C.1 C.2.1 dX7_step_64 rfl (lv_at hl 0 rfl) ?_
          refine zg7_5 C hH (zRd0_n hC) (zRd0_k hC) q_332 (zRd0_r hC) dX7_step_65 ?_
          refine lv_aload_n C.1 C.2.1 dX7_step_68 rfl (lv_at hl 0 rfl) ?_
          refine lv_dup C.1 C.2.1 dX7_step_69 rfl ?_
          refine zg7_7 C hH (zRd0_n hC) (zRd0_k hC) q_334 dX7_step_70 ?_
          refine lv_dup_x1 C.1 C.2.1 dX7_step_73 rfl rfl ?_
          refine zd_iconst C dX7_step_74 ?_
          refine zd_iadd C dX7_step_75 ?_
          obtain ⟨o6, hF⟩ := hF
          have gg1 := hH.2.2.1
          refine zp7_7 C hH hS (zRd0_n hC) (zRd0_k hC) q_334 o6 dX7_step_76 (fun H locs hH hS => ?_)
          obtain ⟨X7, eX7⟩ : ∃ z, z = zU X4 (i) 7 ((X4 (i) 7) + 1) := ⟨_, rfl⟩
          rw [← eX7] at hH
          have hF := hF X7 eX7 hH.2.2.1
          obtain ⟨o8, hF⟩ := hF
          refine zd_bald C hH (zRd0_m hC) (zRd0_d hC) o8.1 (by rw [zRd0_l hC]; exact o8.2) (by rw [zRd0_l hC]; decide) dX7_step_79 ?_
          refine lv_istore_n (lv' := [(1, .int (zI (X7 (j) (X4 (i) 7)))), (0, .ref (bs + (i)))]) C.1 C.2.1 dX7_step_80 rfl hl (by decide) rfl (fun ls hl => ?_)
          refine lv_iload_n C.1 C.2.1 dX7_step_81 rfl (lv_at hl 0 rfl) ?_
          refine zgoi (zrunS (As := [.int (zI (X7 (j) (X4 (i) 7)))]) (rest := []) C hE hH hS hl.1 (c_X7_isLetter (l := l)  (X7 (j) (X4 (i) 7)) (hH.2.2.1 _ _)) k_RX7_153 ⟨Nat.le_of_ble_eq_true rfl, Nat.le_of_ble_eq_true rfl⟩ rfl (Nat.le_of_ble_eq_true rfl) dX7_step_82 ⟨Nat.zero_le _, Nat.zero_le _⟩) hS (fun rq Xq Yq Rq H locs hrq hq hH hS => ?_)
          obtain ⟨h91, h92⟩ := hq
          have h93 : Xq = X7 := congrArg (fun z => z.1) h92
          have h94 : Yq = Y := congrArg (fun z => z.2.1) h92
          have h95 : Rq = R := congrArg (fun z => z.2.2) h92
          rw [h93, h94, h95] at hH
          subst h91
          refine zd_ifB_eq C 135 dX7_step_85 (by decide) (fun c9 => ?_) (fun c9 => ?_)
          · have hF := hF.1 c9
            refine lv_iload_n C.1 C.2.1 dX7_step_135 rfl (lv_at hl 0 rfl) ?_
            refine zgoi (zrunS (As := [.int (zI (X7 (j) (X4 (i) 7)))]) (rest := []) C hE hH hS hl.1 (c_X7_isDigit (l := l)  (X7 (j) (X4 (i) 7)) (hH.2.2.1 _ _)) k_RX7_156 ⟨Nat.le_of_ble_eq_true rfl, Nat.le_of_ble_eq_true rfl⟩ rfl (Nat.le_of_ble_eq_true rfl) dX7_step_136 ⟨Nat.zero_le _, Nat.zero_le _⟩) hS (fun rq Xq Yq Rq H locs hrq hq hH hS => ?_)
            obtain ⟨h91, h92⟩ := hq
            have h93 : Xq = X7 := congrArg (fun z => z.1) h92
            have h94 : Yq = Y := congrArg (fun z => z.2.1) h92
            have h95 : Rq = R := congrArg (fun z => z.2.2) h92
            rw [h93, h94, h95] at hH
            subst h91
            refine zd_ifB_eq C 235 dX7_step_139 (by decide) (fun c10 => ?_) (fun c10 => ?_)
            · have hF := hF.1 c10
              refine lv_aload_n C.1 C.2.1 dX7_step_235 rfl (lv_at hl 1 rfl) ?_
              refine lv_iload_n C.1 C.2.1 dX7_step_236 rfl (lv_at hl 0 rfl) ?_
              refine zd_bipush C (by decide) dX7_step_237 ?_
              refine zd_icmp_ne C (hH.2.2.1 _ _) (by decide) 246 dX7_step_239 (by decide) (fun c11 => ?_) (fun c11 => ?_)
              · have hF := hF.1 c11
                refine zd_iconst C dX7_step_246 ?_
                have gg2 := hH.2.2.1
                refine zp7_9 C hH hS (zRd0_n hC) (zRd0_k hC) q_336 (by decide) dX7_step_247 (fun H locs hH hS => ?_)
                obtain ⟨X12, eX12⟩ : ∃ z, z = zU X7 (i) 9 (4) := ⟨_, rfl⟩
                rw [← eX12] at hH
                have hF := hF X12 eX12 hH.2.2.1
                exact zd_vret C hr hlk hH hS (⟨rfl, rfl, hF⟩) dX7_step_250
              · have hF := hF.2 c11
                refine zd_iconst C dX7_step_242 ?_
                refine lv_goto (tgt := 247) C.1 C.2.1 dX7_step_243 (by decide) ?_
                have gg3 := hH.2.2.1
                refine zp7_9 C hH hS (zRd0_n hC) (zRd0_k hC) q_336 (by decide) dX7_step_247 (fun H locs hH hS => ?_)
                obtain ⟨X13, eX13⟩ : ∃ z, z = zU X7 (i) 9 (2) := ⟨_, rfl⟩
                rw [← eX13] at hH
                have hF := hF X13 eX13 hH.2.2.1
                exact zd_vret C hr hlk hH hS (⟨rfl, rfl, hF⟩) dX7_step_250
            · have hF := hF.2 c10
              refine lv_aload_n C.1 C.2.1 dX7_step_142 rfl (lv_at hl 1 rfl) ?_
              refine lv_iload_n C.1 C.2.1 dX7_step_143 rfl (lv_at hl 0 rfl) ?_
              refine zd_bipush C (by decide) dX7_step_144 ?_
              refine zd_isub C dX7_step_146 ?_
              obtain ⟨o14, hF⟩ := hF
              have gg4 := hH.2.2.1
              refine zp7_10 C hH hS (zRd0_n hC) (zRd0_k hC) q_337 o14 dX7_step_147 (fun H locs hH hS => ?_)
              obtain ⟨X15, eX15⟩ : ∃ z, z = zU X7 (i) 10 ((X7 (j) (X4 (i) 7)) - 48) := ⟨_, rfl⟩
              rw [← eX15] at hH
              have hF := hF X15 eX15 hH.2.2.1
              obtain ⟨hI16, hF⟩ := hF
              have L16 : ∀ (fu : Nat) (X17 : Nat → Int → Int), ((∀ z, z ≠ i → X17 z = X15 z) ∧ (∀ s, s ≠ 7 → s ≠ 10 → X17 i s = X15 i s) ∧ ∃ k : Nat, X17 i 7 = (((tkB (X j) (X i 6).toNat (X i 7).toNat) + k : Nat) : Int) ∧ (tkB (X j) (X i 6).toNat (X i 7).toNat) + k ≤ (X i 6).toNat ∧ en isDi (X j) (X i 6).toNat (tkB (X j) (X i 6).toNat (X i 7).toNat) = en isDi (X j) (X i 6).toNat ((tkB (X j) (X i 6).toNat (X i 7).toNat) + k) ∧ (∀ j1, j1 < k → isDi ((X j) (((tkB (X j) (X i 6).toNat (X i 7).toNat) + j1 : Nat) : Int)) = true) ∧ (k ≤ 2 → X17 i 10 = vaN (X j) (tkB (X j) (X i 6).toNat (X i 7).toNat) k)) → ((X i 6 - X17 i 7).toNat) < fu → ∀ (H : Heap) (locs : List Loc) (ls : Array Slot), zH D cy bs N kd len X17 Y R H → va_S (zA bs) s.heap H locs → lv_has ls 2 [(1, .int (zI (X7 (j) (X4 (i) 7)))), (0, .ref (bs + (i)))] → W p l e (zRm 1 20) s m args below meth c H locs 0 0 (MQ below (zQv D cy bs N kd len (fun st => st.2.1 = Y ∧ st.2.2 = R ∧ (stC X (st.1) i ∧ (st.1) i 8 = tkB (X j) (X i 6).toNat (X i 7).toNat ∧ (st.1) i 7 = tkN (X j) (X i 6).toNat (X i 7).toNat ∧ (st.1) i 9 = cTk (tkS (X j) (X i 6).toNat (X i 7).toNat) ∧ (tkS (X j) (X i 6).toNat (X i 7).toNat = 3 → (st.1) i 10 = tkV (X j) (X i 6).toNat (X i 7).toNat)))) args s 0 0 (zA bs)) (F0 m 150 ls []) := by
                intro fu
                induction fu with
                | zero => intro X17  _ hmu; exact absurd hmu (Nat.not_lt_zero _)
                | succ fu ih16 =>
                  intro X17  hI hmu16 H locs ls hH hS hl
                  have hF := hF X17  hH.2.2.1 hI
                  refine lv_aload_n C.1 C.2.1 dX7_step_150 rfl (lv_at hl 1 rfl) ?_
                  refine zg7_7 C hH (zRd0_n hC) (zRd0_k hC) q_334 dX7_step_151 ?_
                  refine lv_aload_n C.1 C.2.1 dX7_step_154 rfl (lv_at hl 1 rfl) ?_
                  refine zg7_6 C hH (zRd0_n hC) (zRd0_k hC) q_333 dX7_step_155 ?_
                  refine zd_icmp_ge C (hH.2.2.1 _ _) (hH.2.2.1 _ _) 210 dX7_step_158 (by decide) (fun c18 => ?_) (fun c18 => ?_)
                  · have hF := hF.1 c18
                    refine lv_aload_n C.1 C.2.1 dX7_step_210 rfl (lv_at hl 1 rfl) ?_
                    refine lv_aload_n C.1 C.2.1 dX7_step_211 rfl (lv_at hl 1 rfl) ?_
                    refine zg7_7 C hH (zRd0_n hC) (zRd0_k hC) q_334 dX7_step_212 ?_
                    refine lv_aload_n C.1 C.2.1 dX7_step_215 rfl (lv_at hl 1 rfl) ?_
                    refine zg7_8 C hH (zRd0_n hC) (zRd0_k hC) q_335 dX7_step_216 ?_
                    refine zd_isub C dX7_step_219 ?_
                    refine zd_iconst C dX7_step_220 ?_
                    obtain ⟨o20, hF⟩ := hF
                    refine zd_icmp_le C o20 (by decide) 228 dX7_step_221 (by decide) (fun c19 => ?_) (fun c19 => ?_)
                    · have hF := hF.1 c19
                      refine zd_iconst C dX7_step_228 ?_
                      refine zp7_9 C hH hS (zRd0_n hC) (zRd0_k hC) q_336 (by decide) dX7_step_229 (fun H locs hH hS => ?_)
                      obtain ⟨X21, eX21⟩ : ∃ z, z = zU X17 (i) 9 (1) := ⟨_, rfl⟩
                      rw [← eX21] at hH
                      have hF := hF X21 eX21 hH.2.2.1
                      refine lv_goto (tgt := 250) C.1 C.2.1 dX7_step_232 (by decide) ?_
                      exact zd_vret C hr hlk hH hS (⟨rfl, rfl, hF⟩) dX7_step_250
                    · have hF := hF.2 c19
                      refine zd_iconst C dX7_step_224 ?_
                      refine lv_goto (tgt := 229) C.1 C.2.1 dX7_step_225 (by decide) ?_
                      refine zp7_9 C hH hS (zRd0_n hC) (zRd0_k hC) q_336 (by decide) dX7_step_229 (fun H locs hH hS => ?_)
                      obtain ⟨X22, eX22⟩ : ∃ z, z = zU X17 (i) 9 (4) := ⟨_, rfl⟩
                      rw [← eX22] at hH
                      have hF := hF X22 eX22 hH.2.2.1
                      refine lv_goto (tgt := 250) C.1 C.2.1 dX7_step_232 (by decide) ?_
                      exact zd_vret C hr hlk hH hS (⟨rfl, rfl, hF⟩) dX7_step_250
                  · have hF := hF.2 c18
                    refine lv_aload_n C.1 C.2.1 dX7_step_161 rfl (lv_at hl 1 rfl) ?_
                    refine zg7_5 C hH (zRd0_n hC) (zRd0_k hC) q_332 (zRd0_r hC) dX7_step_162 ?_
                    refine lv_aload_n C.1 C.2.1 dX7_step_165 rfl (lv_at hl 1 rfl) ?_
                    refine zg7_7 C hH (zRd0_n hC) (zRd0_k hC) q_334 dX7_step_166 ?_
                    obtain ⟨o23, hF⟩ := hF
                    refine zd_bald C hH (zRd0_m hC) (zRd0_d hC) o23.1 (by rw [zRd0_l hC]; exact o23.2) (by rw [zRd0_l hC]; decide) dX7_step_169 ?_
                    refine zgoi (zrunS (As := [.int (zI (X17 (j) (X17 (i) 7)))]) (rest := []) C hE hH hS hl.1 (c_X7_isDigit (l := l)  (X17 (j) (X17 (i) 7)) (hH.2.2.1 _ _)) k_RX7_156 ⟨Nat.le_of_ble_eq_true rfl, Nat.le_of_ble_eq_true rfl⟩ rfl (Nat.le_of_ble_eq_true rfl) dX7_step_170 ⟨Nat.zero_le _, Nat.zero_le _⟩) hS (fun rq Xq Yq Rq H locs hrq hq hH hS => ?_)
                    obtain ⟨h91, h92⟩ := hq
                    have h93 : Xq = X17 := congrArg (fun z => z.1) h92
                    have h94 : Yq = Y := congrArg (fun z => z.2.1) h92
                    have h95 : Rq = R := congrArg (fun z => z.2.2) h92
                    rw [h93, h94, h95] at hH
                    subst h91
                    refine zd_ifB_eq C 210 dX7_step_173 (by decide) (fun c24 => ?_) (fun c24 => ?_)
                    · have hF := hF.1 c24
                      refine lv_aload_n C.1 C.2.1 dX7_step_210 rfl (lv_at hl 1 rfl) ?_
                      refine lv_aload_n C.1 C.2.1 dX7_step_211 rfl (lv_at hl 1 rfl) ?_
                      refine zg7_7 C hH (zRd0_n hC) (zRd0_k hC) q_334 dX7_step_212 ?_
                      refine lv_aload_n C.1 C.2.1 dX7_step_215 rfl (lv_at hl 1 rfl) ?_
                      refine zg7_8 C hH (zRd0_n hC) (zRd0_k hC) q_335 dX7_step_216 ?_
                      refine zd_isub C dX7_step_219 ?_
                      refine zd_iconst C dX7_step_220 ?_
                      obtain ⟨o26, hF⟩ := hF
                      refine zd_icmp_le C o26 (by decide) 228 dX7_step_221 (by decide) (fun c25 => ?_) (fun c25 => ?_)
                      · have hF := hF.1 c25
                        refine zd_iconst C dX7_step_228 ?_
                        refine zp7_9 C hH hS (zRd0_n hC) (zRd0_k hC) q_336 (by decide) dX7_step_229 (fun H locs hH hS => ?_)
                        obtain ⟨X27, eX27⟩ : ∃ z, z = zU X17 (i) 9 (1) := ⟨_, rfl⟩
                        rw [← eX27] at hH
                        have hF := hF X27 eX27 hH.2.2.1
                        refine lv_goto (tgt := 250) C.1 C.2.1 dX7_step_232 (by decide) ?_
                        exact zd_vret C hr hlk hH hS (⟨rfl, rfl, hF⟩) dX7_step_250
                      · have hF := hF.2 c25
                        refine zd_iconst C dX7_step_224 ?_
                        refine lv_goto (tgt := 229) C.1 C.2.1 dX7_step_225 (by decide) ?_
                        refine zp7_9 C hH hS (zRd0_n hC) (zRd0_k hC) q_336 (by decide) dX7_step_229 (fun H locs hH hS => ?_)
                        obtain ⟨X28, eX28⟩ : ∃ z, z = zU X17 (i) 9 (4) := ⟨_, rfl⟩
                        rw [← eX28] at hH
                        have hF := hF X28 eX28 hH.2.2.1
                        refine lv_goto (tgt := 250) C.1 C.2.1 dX7_step_232 (by decide) ?_
                        exact zd_vret C hr hlk hH hS (⟨rfl, rfl, hF⟩) dX7_step_250
                    · have hF := hF.2 c24
                      refine lv_aload_n C.1 C.2.1 dX7_step_176 rfl (lv_at hl 1 rfl) ?_
                      refine lv_aload_n C.1 C.2.1 dX7_step_177 rfl (lv_at hl 1 rfl) ?_
                      refine zg7_10 C hH (zRd0_n hC) (zRd0_k hC) q_337 dX7_step_178 ?_
                      refine zd_bipush C (by decide) dX7_step_181 ?_
                      refine zd_imul C dX7_step_183 ?_
                      rw [show zI ((X17 (i) 10) * 10) = zI (zW ((X17 (i) 10) * 10)) from (zI_zW _).symm]
                      refine lv_aload_n C.1 C.2.1 dX7_step_184 rfl (lv_at hl 1 rfl) ?_
                      refine zg7_5 C hH (zRd0_n hC) (zRd0_k hC) q_332 (zRd0_r hC) dX7_step_185 ?_
                      refine lv_aload_n C.1 C.2.1 dX7_step_188 rfl (lv_at hl 1 rfl) ?_
                      refine lv_dup C.1 C.2.1 dX7_step_189 rfl ?_
                      refine zg7_7 C hH (zRd0_n hC) (zRd0_k hC) q_334 dX7_step_190 ?_
                      refine lv_dup_x1 C.1 C.2.1 dX7_step_193 rfl rfl ?_
                      refine zd_iconst C dX7_step_194 ?_
                      refine zd_iadd C dX7_step_195 ?_
                      obtain ⟨o29, hF⟩ := hF
                      have gg5 := hH.2.2.1
                      refine zp7_7 C hH hS (zRd0_n hC) (zRd0_k hC) q_334 o29 dX7_step_196 (fun H locs hH hS => ?_)
                      obtain ⟨X30, eX30⟩ : ∃ z, z = zU X17 (i) 7 ((X17 (i) 7) + 1) := ⟨_, rfl⟩
                      rw [← eX30] at hH
                      have hF := hF X30 eX30 hH.2.2.1
                      obtain ⟨o31, hF⟩ := hF
                      refine zd_bald C hH (zRd0_m hC) (zRd0_d hC) o31.1 (by rw [zRd0_l hC]; exact o31.2) (by rw [zRd0_l hC]; decide) dX7_step_199 ?_
                      refine zd_iadd C dX7_step_200 ?_
                      rw [show zI ((zW ((X17 (i) 10) * 10)) + (X30 (j) (X17 (i) 7))) = zI (zW ((zW ((X17 (i) 10) * 10)) + (X30 (j) (X17 (i) 7)))) from (zI_zW _).symm]
                      refine zd_bipush C (by decide) dX7_step_201 ?_
                      refine zd_isub C dX7_step_203 ?_
                      rw [show zI ((zW ((zW ((X17 (i) 10) * 10)) + (X30 (j) (X17 (i) 7)))) - 48) = zI (zW ((zW ((zW ((X17 (i) 10) * 10)) + (X30 (j) (X17 (i) 7)))) - 48)) from (zI_zW _).symm]
                      refine zp7_10 C hH hS (zRd0_n hC) (zRd0_k hC) q_337 (zW_rg _) dX7_step_204 (fun H locs hH hS => ?_)
                      obtain ⟨X32, eX32⟩ : ∃ z, z = zU X30 (i) 10 (zW ((zW ((zW ((X17 (i) 10) * 10)) + (X30 (j) (X17 (i) 7)))) - 48)) := ⟨_, rfl⟩
                      rw [← eX32] at hH
                      have hF := hF X32 eX32 hH.2.2.1
                      refine lv_goto (tgt := 150) C.1 C.2.1 dX7_step_207 (by decide) ?_
                      exact ih16 X32  hF.1 (Nat.lt_of_lt_of_le hF.2 (Nat.le_of_lt_succ hmu16)) _ _ _ hH hS (lv_sub hl [0, 1] rfl)
              exact L16 (((X i 6 - X15 i 7).toNat) + 1) X15  hI16 (Nat.lt_succ_self _) _ _ _ hH hS (lv_sub hl [0, 1] rfl)
          · have hF := hF.2 c9
            obtain ⟨hI33, hF⟩ := hF
            have L33 : ∀ (fu : Nat) (X34 : Nat → Int → Int), ((∀ z, z ≠ i → X34 z = X7 z) ∧ (∀ s, s ≠ 7 → X34 i s = X7 i s) ∧ ∃ q : Nat, X34 i 7 = q ∧ q ≤ (X i 6).toNat ∧ en isLe (X j) (X i 6).toNat (tkB (X j) (X i 6).toNat (X i 7).toNat) = en isLe (X j) (X i 6).toNat q) → ((X i 6 - X34 i 7).toNat) < fu → ∀ (H : Heap) (locs : List Loc) (ls : Array Slot), zH D cy bs N kd len X34 Y R H → va_S (zA bs) s.heap H locs → lv_has ls 2 [(1, .int (zI (X7 (j) (X4 (i) 7)))), (0, .ref (bs + (i)))] → W p l e (zRm 1 20) s m args below meth c H locs 0 0 (MQ below (zQv D cy bs N kd len (fun st => st.2.1 = Y ∧ st.2.2 = R ∧ (stC X (st.1) i ∧ (st.1) i 8 = tkB (X j) (X i 6).toNat (X i 7).toNat ∧ (st.1) i 7 = tkN (X j) (X i 6).toNat (X i 7).toNat ∧ (st.1) i 9 = cTk (tkS (X j) (X i 6).toNat (X i 7).toNat) ∧ (tkS (X j) (X i 6).toNat (X i 7).toNat = 3 → (st.1) i 10 = tkV (X j) (X i 6).toNat (X i 7).toNat)))) args s 0 0 (zA bs)) (F0 m 88 ls []) := by
              intro fu
              induction fu with
              | zero => intro X34  _ hmu; exact absurd hmu (Nat.not_lt_zero _)
              | succ fu ih33 =>
                intro X34  hI hmu33 H locs ls hH hS hl
                have hF := hF X34  hH.2.2.1 hI
                refine lv_aload_n C.1 C.2.1 dX7_step_88 rfl (lv_at hl 1 rfl) ?_
                refine zg7_7 C hH (zRd0_n hC) (zRd0_k hC) q_334 dX7_step_89 ?_
                refine lv_aload_n C.1 C.2.1 dX7_step_92 rfl (lv_at hl 1 rfl) ?_
                refine zg7_6 C hH (zRd0_n hC) (zRd0_k hC) q_333 dX7_step_93 ?_
                refine zd_icmp_ge C (hH.2.2.1 _ _) (hH.2.2.1 _ _) 127 dX7_step_96 (by decide) (fun c35 => ?_) (fun c35 => ?_)
                · have hF := hF.1 c35
                  refine lv_aload_n C.1 C.2.1 dX7_step_127 rfl (lv_at hl 1 rfl) ?_
                  refine zd_iconst C dX7_step_128 ?_
                  refine zp7_9 C hH hS (zRd0_n hC) (zRd0_k hC) q_336 (by decide) dX7_step_129 (fun H locs hH hS => ?_)
                  obtain ⟨X36, eX36⟩ : ∃ z, z = zU X34 (i) 9 (0) := ⟨_, rfl⟩
                  rw [← eX36] at hH
                  have hF := hF X36 eX36 hH.2.2.1
                  refine lv_goto (tgt := 250) C.1 C.2.1 dX7_step_132 (by decide) ?_
                  exact zd_vret C hr hlk hH hS (⟨rfl, rfl, hF⟩) dX7_step_250
                · have hF := hF.2 c35
                  refine lv_aload_n C.1 C.2.1 dX7_step_99 rfl (lv_at hl 1 rfl) ?_
                  refine zg7_5 C hH (zRd0_n hC) (zRd0_k hC) q_332 (zRd0_r hC) dX7_step_100 ?_
                  refine lv_aload_n C.1 C.2.1 dX7_step_103 rfl (lv_at hl 1 rfl) ?_
                  refine zg7_7 C hH (zRd0_n hC) (zRd0_k hC) q_334 dX7_step_104 ?_
                  obtain ⟨o37, hF⟩ := hF
                  refine zd_bald C hH (zRd0_m hC) (zRd0_d hC) o37.1 (by rw [zRd0_l hC]; exact o37.2) (by rw [zRd0_l hC]; decide) dX7_step_107 ?_
                  refine zgoi (zrunS (As := [.int (zI (X34 (j) (X34 (i) 7)))]) (rest := []) C hE hH hS hl.1 (c_X7_isLetter (l := l)  (X34 (j) (X34 (i) 7)) (hH.2.2.1 _ _)) k_RX7_153 ⟨Nat.le_of_ble_eq_true rfl, Nat.le_of_ble_eq_true rfl⟩ rfl (Nat.le_of_ble_eq_true rfl) dX7_step_108 ⟨Nat.zero_le _, Nat.zero_le _⟩) hS (fun rq Xq Yq Rq H locs hrq hq hH hS => ?_)
                  obtain ⟨h91, h92⟩ := hq
                  have h93 : Xq = X34 := congrArg (fun z => z.1) h92
                  have h94 : Yq = Y := congrArg (fun z => z.2.1) h92
                  have h95 : Rq = R := congrArg (fun z => z.2.2) h92
                  rw [h93, h94, h95] at hH
                  subst h91
                  refine zd_ifB_eq C 127 dX7_step_111 (by decide) (fun c38 => ?_) (fun c38 => ?_)
                  · have hF := hF.1 c38
                    refine lv_aload_n C.1 C.2.1 dX7_step_127 rfl (lv_at hl 1 rfl) ?_
                    refine zd_iconst C dX7_step_128 ?_
                    refine zp7_9 C hH hS (zRd0_n hC) (zRd0_k hC) q_336 (by decide) dX7_step_129 (fun H locs hH hS => ?_)
                    obtain ⟨X39, eX39⟩ : ∃ z, z = zU X34 (i) 9 (0) := ⟨_, rfl⟩
                    rw [← eX39] at hH
                    have hF := hF X39 eX39 hH.2.2.1
                    refine lv_goto (tgt := 250) C.1 C.2.1 dX7_step_132 (by decide) ?_
                    exact zd_vret C hr hlk hH hS (⟨rfl, rfl, hF⟩) dX7_step_250
                  · have hF := hF.2 c38
                    refine lv_aload_n C.1 C.2.1 dX7_step_114 rfl (lv_at hl 1 rfl) ?_
                    refine lv_dup C.1 C.2.1 dX7_step_115 rfl ?_
                    refine zg7_7 C hH (zRd0_n hC) (zRd0_k hC) q_334 dX7_step_116 ?_
                    refine zd_iconst C dX7_step_119 ?_
                    refine zd_iadd C dX7_step_120 ?_
                    obtain ⟨o40, hF⟩ := hF
                    refine zp7_7 C hH hS (zRd0_n hC) (zRd0_k hC) q_334 o40 dX7_step_121 (fun H locs hH hS => ?_)
                    obtain ⟨X41, eX41⟩ : ∃ z, z = zU X34 (i) 7 ((X34 (i) 7) + 1) := ⟨_, rfl⟩
                    rw [← eX41] at hH
                    have hF := hF X41 eX41 hH.2.2.1
                    refine lv_goto (tgt := 88) C.1 C.2.1 dX7_step_124 (by decide) ?_
                    exact ih33 X41  hF.1 (Nat.lt_of_lt_of_le hF.2 (Nat.le_of_lt_succ hmu33)) _ _ _ hH hS (lv_sub hl [0, 1] rfl)
            exact L33 (((X i 6 - X7 i 7).toNat) + 1) X7  hI33 (Nat.lt_succ_self _) _ _ _ hH hS (lv_sub hl [0, 1] rfl)
        · have hF := hF.2 c5
          refine lv_aload_n C.1 C.2.1 dX7_step_58 rfl (lv_at hl 0 rfl) ?_
          refine zd_iconst C dX7_step_59 ?_
          refine zp7_9 C hH hS (zRd0_n hC) (zRd0_k hC) q_336 (by decide) dX7_step_60 (fun H locs hH hS => ?_)
          obtain ⟨X42, eX42⟩ : ∃ z, z = zU X4 (i) 9 (3) := ⟨_, rfl⟩
          rw [← eX42] at hH
          have hF := hF X42 eX42 hH.2.2.1
          exact zd_vret C hr hlk hH hS (⟨rfl, rfl, hF⟩) dX7_step_63
      · have hF := hF.2 c3
        refine lv_aload_n C.1 C.2.1 dX7_step_11 rfl (lv_at hl 0 rfl) ?_
        refine zg7_5 C hH (zRd0_n hC) (zRd0_k hC) q_332 (zRd0_r hC) dX7_step_12 ?_
        refine lv_aload_n C.1 C.2.1 dX7_step_15 rfl (lv_at hl 0 rfl) ?_
        refine zg7_7 C hH (zRd0_n hC) (zRd0_k hC) q_334 dX7_step_16 ?_
        obtain ⟨o43, hF⟩ := hF
        refine zd_bald C hH (zRd0_m hC) (zRd0_d hC) o43.1 (by rw [zRd0_l hC]; exact o43.2) (by rw [zRd0_l hC]; decide) dX7_step_19 ?_
        refine zgoi (zrunS (As := [.int (zI (X2 (j) (X2 (i) 7)))]) (rest := []) C hE hH hS hl.1 (c_X7_isBlank (l := l)  (X2 (j) (X2 (i) 7)) (hH.2.2.1 _ _)) k_RX7_150 ⟨Nat.le_of_ble_eq_true rfl, Nat.le_of_ble_eq_true rfl⟩ rfl (Nat.le_of_ble_eq_true rfl) dX7_step_20 ⟨Nat.zero_le _, Nat.zero_le _⟩) hS (fun rq Xq Yq Rq H locs hrq hq hH hS => ?_)
        obtain ⟨h91, h92⟩ := hq
        have h93 : Xq = X2 := congrArg (fun z => z.1) h92
        have h94 : Yq = Y := congrArg (fun z => z.2.1) h92
        have h95 : Rq = R := congrArg (fun z => z.2.2) h92
        rw [h93, h94, h95] at hH
        subst h91
        refine zd_ifB_eq C 39 dX7_step_23 (by decide) (fun c44 => ?_) (fun c44 => ?_)
        · have hF := hF.1 c44
          refine lv_aload_n C.1 C.2.1 dX7_step_39 rfl (lv_at hl 0 rfl) ?_
          refine lv_aload_n C.1 C.2.1 dX7_step_40 rfl (lv_at hl 0 rfl) ?_
          refine zg7_7 C hH (zRd0_n hC) (zRd0_k hC) q_334 dX7_step_41 ?_
          refine zp7_8 C hH hS (zRd0_n hC) (zRd0_k hC) q_335 (hH.2.2.1 _ _) dX7_step_44 (fun H locs hH hS => ?_)
          obtain ⟨X45, eX45⟩ : ∃ z, z = zU X2 (i) 8 (X2 (i) 7) := ⟨_, rfl⟩
          rw [← eX45] at hH
          have hF := hF X45 eX45 hH.2.2.1
          refine lv_aload_n C.1 C.2.1 dX7_step_47 rfl (lv_at hl 0 rfl) ?_
          refine zg7_7 C hH (zRd0_n hC) (zRd0_k hC) q_334 dX7_step_48 ?_
          refine lv_aload_n C.1 C.2.1 dX7_step_51 rfl (lv_at hl 0 rfl) ?_
          refine zg7_6 C hH (zRd0_n hC) (zRd0_k hC) q_333 dX7_step_52 ?_
          refine zd_icmp_lt C (hH.2.2.1 _ _) (hH.2.2.1 _ _) 64 dX7_step_55 (by decide) (fun c46 => ?_) (fun c46 => ?_)
          · have hF := hF.1 c46
            refine lv_aload_n C.1 C.2.1 dX7_step_64 rfl (lv_at hl 0 rfl) ?_
            refine zg7_5 C hH (zRd0_n hC) (zRd0_k hC) q_332 (zRd0_r hC) dX7_step_65 ?_
            refine lv_aload_n C.1 C.2.1 dX7_step_68 rfl (lv_at hl 0 rfl) ?_
            refine lv_dup C.1 C.2.1 dX7_step_69 rfl ?_
            refine zg7_7 C hH (zRd0_n hC) (zRd0_k hC) q_334 dX7_step_70 ?_
            refine lv_dup_x1 C.1 C.2.1 dX7_step_73 rfl rfl ?_
            refine zd_iconst C dX7_step_74 ?_
            refine zd_iadd C dX7_step_75 ?_
            obtain ⟨o47, hF⟩ := hF
            have gg6 := hH.2.2.1
            refine zp7_7 C hH hS (zRd0_n hC) (zRd0_k hC) q_334 o47 dX7_step_76 (fun H locs hH hS => ?_)
            obtain ⟨X48, eX48⟩ : ∃ z, z = zU X45 (i) 7 ((X45 (i) 7) + 1) := ⟨_, rfl⟩
            rw [← eX48] at hH
            have hF := hF X48 eX48 hH.2.2.1
            obtain ⟨o49, hF⟩ := hF
            refine zd_bald C hH (zRd0_m hC) (zRd0_d hC) o49.1 (by rw [zRd0_l hC]; exact o49.2) (by rw [zRd0_l hC]; decide) dX7_step_79 ?_
            refine lv_istore_n (lv' := [(1, .int (zI (X48 (j) (X45 (i) 7)))), (0, .ref (bs + (i)))]) C.1 C.2.1 dX7_step_80 rfl hl (by decide) rfl (fun ls hl => ?_)
            refine lv_iload_n C.1 C.2.1 dX7_step_81 rfl (lv_at hl 0 rfl) ?_
            refine zgoi (zrunS (As := [.int (zI (X48 (j) (X45 (i) 7)))]) (rest := []) C hE hH hS hl.1 (c_X7_isLetter (l := l)  (X48 (j) (X45 (i) 7)) (hH.2.2.1 _ _)) k_RX7_153 ⟨Nat.le_of_ble_eq_true rfl, Nat.le_of_ble_eq_true rfl⟩ rfl (Nat.le_of_ble_eq_true rfl) dX7_step_82 ⟨Nat.zero_le _, Nat.zero_le _⟩) hS (fun rq Xq Yq Rq H locs hrq hq hH hS => ?_)
            obtain ⟨h91, h92⟩ := hq
            have h93 : Xq = X48 := congrArg (fun z => z.1) h92
            have h94 : Yq = Y := congrArg (fun z => z.2.1) h92
            have h95 : Rq = R := congrArg (fun z => z.2.2) h92
            rw [h93, h94, h95] at hH
            subst h91
            refine zd_ifB_eq C 135 dX7_step_85 (by decide) (fun c50 => ?_) (fun c50 => ?_)
            · have hF := hF.1 c50
              refine lv_iload_n C.1 C.2.1 dX7_step_135 rfl (lv_at hl 0 rfl) ?_
              refine zgoi (zrunS (As := [.int (zI (X48 (j) (X45 (i) 7)))]) (rest := []) C hE hH hS hl.1 (c_X7_isDigit (l := l)  (X48 (j) (X45 (i) 7)) (hH.2.2.1 _ _)) k_RX7_156 ⟨Nat.le_of_ble_eq_true rfl, Nat.le_of_ble_eq_true rfl⟩ rfl (Nat.le_of_ble_eq_true rfl) dX7_step_136 ⟨Nat.zero_le _, Nat.zero_le _⟩) hS (fun rq Xq Yq Rq H locs hrq hq hH hS => ?_)
              obtain ⟨h91, h92⟩ := hq
              have h93 : Xq = X48 := congrArg (fun z => z.1) h92
              have h94 : Yq = Y := congrArg (fun z => z.2.1) h92
              have h95 : Rq = R := congrArg (fun z => z.2.2) h92
              rw [h93, h94, h95] at hH
              subst h91
              refine zd_ifB_eq C 235 dX7_step_139 (by decide) (fun c51 => ?_) (fun c51 => ?_)
              · have hF := hF.1 c51
                refine lv_aload_n C.1 C.2.1 dX7_step_235 rfl (lv_at hl 1 rfl) ?_
                refine lv_iload_n C.1 C.2.1 dX7_step_236 rfl (lv_at hl 0 rfl) ?_
                refine zd_bipush C (by decide) dX7_step_237 ?_
                refine zd_icmp_ne C (hH.2.2.1 _ _) (by decide) 246 dX7_step_239 (by decide) (fun c52 => ?_) (fun c52 => ?_)
                · have hF := hF.1 c52
                  refine zd_iconst C dX7_step_246 ?_
                  have gg7 := hH.2.2.1
                  refine zp7_9 C hH hS (zRd0_n hC) (zRd0_k hC) q_336 (by decide) dX7_step_247 (fun H locs hH hS => ?_)
                  obtain ⟨X53, eX53⟩ : ∃ z, z = zU X48 (i) 9 (4) := ⟨_, rfl⟩
                  rw [← eX53] at hH
                  have hF := hF X53 eX53 hH.2.2.1
                  exact zd_vret C hr hlk hH hS (⟨rfl, rfl, hF⟩) dX7_step_250
                · have hF := hF.2 c52
                  refine zd_iconst C dX7_step_242 ?_
                  refine lv_goto (tgt := 247) C.1 C.2.1 dX7_step_243 (by decide) ?_
                  have gg8 := hH.2.2.1
                  refine zp7_9 C hH hS (zRd0_n hC) (zRd0_k hC) q_336 (by decide) dX7_step_247 (fun H locs hH hS => ?_)
                  obtain ⟨X54, eX54⟩ : ∃ z, z = zU X48 (i) 9 (2) := ⟨_, rfl⟩
                  rw [← eX54] at hH
                  have hF := hF X54 eX54 hH.2.2.1
                  exact zd_vret C hr hlk hH hS (⟨rfl, rfl, hF⟩) dX7_step_250
              · have hF := hF.2 c51
                refine lv_aload_n C.1 C.2.1 dX7_step_142 rfl (lv_at hl 1 rfl) ?_
                refine lv_iload_n C.1 C.2.1 dX7_step_143 rfl (lv_at hl 0 rfl) ?_
                refine zd_bipush C (by decide) dX7_step_144 ?_
                refine zd_isub C dX7_step_146 ?_
                obtain ⟨o55, hF⟩ := hF
                have gg9 := hH.2.2.1
                refine zp7_10 C hH hS (zRd0_n hC) (zRd0_k hC) q_337 o55 dX7_step_147 (fun H locs hH hS => ?_)
                obtain ⟨X56, eX56⟩ : ∃ z, z = zU X48 (i) 10 ((X48 (j) (X45 (i) 7)) - 48) := ⟨_, rfl⟩
                rw [← eX56] at hH
                have hF := hF X56 eX56 hH.2.2.1
                obtain ⟨hI57, hF⟩ := hF
                have L57 : ∀ (fu : Nat) (X58 : Nat → Int → Int), ((∀ z, z ≠ i → X58 z = X56 z) ∧ (∀ s, s ≠ 7 → s ≠ 10 → X58 i s = X56 i s) ∧ ∃ k : Nat, X58 i 7 = (((tkB (X j) (X i 6).toNat (X i 7).toNat) + k : Nat) : Int) ∧ (tkB (X j) (X i 6).toNat (X i 7).toNat) + k ≤ (X i 6).toNat ∧ en isDi (X j) (X i 6).toNat (tkB (X j) (X i 6).toNat (X i 7).toNat) = en isDi (X j) (X i 6).toNat ((tkB (X j) (X i 6).toNat (X i 7).toNat) + k) ∧ (∀ j1, j1 < k → isDi ((X j) (((tkB (X j) (X i 6).toNat (X i 7).toNat) + j1 : Nat) : Int)) = true) ∧ (k ≤ 2 → X58 i 10 = vaN (X j) (tkB (X j) (X i 6).toNat (X i 7).toNat) k)) → ((X i 6 - X58 i 7).toNat) < fu → ∀ (H : Heap) (locs : List Loc) (ls : Array Slot), zH D cy bs N kd len X58 Y R H → va_S (zA bs) s.heap H locs → lv_has ls 2 [(1, .int (zI (X48 (j) (X45 (i) 7)))), (0, .ref (bs + (i)))] → W p l e (zRm 1 20) s m args below meth c H locs 0 0 (MQ below (zQv D cy bs N kd len (fun st => st.2.1 = Y ∧ st.2.2 = R ∧ (stC X (st.1) i ∧ (st.1) i 8 = tkB (X j) (X i 6).toNat (X i 7).toNat ∧ (st.1) i 7 = tkN (X j) (X i 6).toNat (X i 7).toNat ∧ (st.1) i 9 = cTk (tkS (X j) (X i 6).toNat (X i 7).toNat) ∧ (tkS (X j) (X i 6).toNat (X i 7).toNat = 3 → (st.1) i 10 = tkV (X j) (X i 6).toNat (X i 7).toNat)))) args s 0 0 (zA bs)) (F0 m 150 ls []) := by
                  intro fu
                  induction fu with
                  | zero => intro X58  _ hmu; exact absurd hmu (Nat.not_lt_zero _)
                  | succ fu ih57 =>
                    intro X58  hI hmu57 H locs ls hH hS hl
                    have hF := hF X58  hH.2.2.1 hI
                    refine lv_aload_n C.1 C.2.1 dX7_step_150 rfl (lv_at hl 1 rfl) ?_
                    refine zg7_7 C hH (zRd0_n hC) (zRd0_k hC) q_334 dX7_step_151 ?_
                    refine lv_aload_n C.1 C.2.1 dX7_step_154 rfl (lv_at hl 1 rfl) ?_
                    refine zg7_6 C hH (zRd0_n hC) (zRd0_k hC) q_333 dX7_step_155 ?_
                    refine zd_icmp_ge C (hH.2.2.1 _ _) (hH.2.2.1 _ _) 210 dX7_step_158 (by decide) (fun c59 => ?_) (fun c59 => ?_)
                    · have hF := hF.1 c59
                      refine lv_aload_n C.1 C.2.1 dX7_step_210 rfl (lv_at hl 1 rfl) ?_
                      refine lv_aload_n C.1 C.2.1 dX7_step_211 rfl (lv_at hl 1 rfl) ?_
                      refine zg7_7 C hH (zRd0_n hC) (zRd0_k hC) q_334 dX7_step_212 ?_
                      refine lv_aload_n C.1 C.2.1 dX7_step_215 rfl (lv_at hl 1 rfl) ?_
                      refine zg7_8 C hH (zRd0_n hC) (zRd0_k hC) q_335 dX7_step_216 ?_
                      refine zd_isub C dX7_step_219 ?_
                      refine zd_iconst C dX7_step_220 ?_
                      obtain ⟨o61, hF⟩ := hF
                      refine zd_icmp_le C o61 (by decide) 228 dX7_step_221 (by decide) (fun c60 => ?_) (fun c60 => ?_)
                      · have hF := hF.1 c60
                        refine zd_iconst C dX7_step_228 ?_
                        refine zp7_9 C hH hS (zRd0_n hC) (zRd0_k hC) q_336 (by decide) dX7_step_229 (fun H locs hH hS => ?_)
                        obtain ⟨X62, eX62⟩ : ∃ z, z = zU X58 (i) 9 (1) := ⟨_, rfl⟩
                        rw [← eX62] at hH
                        have hF := hF X62 eX62 hH.2.2.1
                        refine lv_goto (tgt := 250) C.1 C.2.1 dX7_step_232 (by decide) ?_
                        exact zd_vret C hr hlk hH hS (⟨rfl, rfl, hF⟩) dX7_step_250
                      · have hF := hF.2 c60
                        refine zd_iconst C dX7_step_224 ?_
                        refine lv_goto (tgt := 229) C.1 C.2.1 dX7_step_225 (by decide) ?_
                        refine zp7_9 C hH hS (zRd0_n hC) (zRd0_k hC) q_336 (by decide) dX7_step_229 (fun H locs hH hS => ?_)
                        obtain ⟨X63, eX63⟩ : ∃ z, z = zU X58 (i) 9 (4) := ⟨_, rfl⟩
                        rw [← eX63] at hH
                        have hF := hF X63 eX63 hH.2.2.1
                        refine lv_goto (tgt := 250) C.1 C.2.1 dX7_step_232 (by decide) ?_
                        exact zd_vret C hr hlk hH hS (⟨rfl, rfl, hF⟩) dX7_step_250
                    · have hF := hF.2 c59
                      refine lv_aload_n C.1 C.2.1 dX7_step_161 rfl (lv_at hl 1 rfl) ?_
                      refine zg7_5 C hH (zRd0_n hC) (zRd0_k hC) q_332 (zRd0_r hC) dX7_step_162 ?_
                      refine lv_aload_n C.1 C.2.1 dX7_step_165 rfl (lv_at hl 1 rfl) ?_
                      refine zg7_7 C hH (zRd0_n hC) (zRd0_k hC) q_334 dX7_step_166 ?_
                      obtain ⟨o64, hF⟩ := hF
                      refine zd_bald C hH (zRd0_m hC) (zRd0_d hC) o64.1 (by rw [zRd0_l hC]; exact o64.2) (by rw [zRd0_l hC]; decide) dX7_step_169 ?_
                      refine zgoi (zrunS (As := [.int (zI (X58 (j) (X58 (i) 7)))]) (rest := []) C hE hH hS hl.1 (c_X7_isDigit (l := l)  (X58 (j) (X58 (i) 7)) (hH.2.2.1 _ _)) k_RX7_156 ⟨Nat.le_of_ble_eq_true rfl, Nat.le_of_ble_eq_true rfl⟩ rfl (Nat.le_of_ble_eq_true rfl) dX7_step_170 ⟨Nat.zero_le _, Nat.zero_le _⟩) hS (fun rq Xq Yq Rq H locs hrq hq hH hS => ?_)
                      obtain ⟨h91, h92⟩ := hq
                      have h93 : Xq = X58 := congrArg (fun z => z.1) h92
                      have h94 : Yq = Y := congrArg (fun z => z.2.1) h92
                      have h95 : Rq = R := congrArg (fun z => z.2.2) h92
                      rw [h93, h94, h95] at hH
                      subst h91
                      refine zd_ifB_eq C 210 dX7_step_173 (by decide) (fun c65 => ?_) (fun c65 => ?_)
                      · have hF := hF.1 c65
                        refine lv_aload_n C.1 C.2.1 dX7_step_210 rfl (lv_at hl 1 rfl) ?_
                        refine lv_aload_n C.1 C.2.1 dX7_step_211 rfl (lv_at hl 1 rfl) ?_
                        refine zg7_7 C hH (zRd0_n hC) (zRd0_k hC) q_334 dX7_step_212 ?_
                        refine lv_aload_n C.1 C.2.1 dX7_step_215 rfl (lv_at hl 1 rfl) ?_
                        refine zg7_8 C hH (zRd0_n hC) (zRd0_k hC) q_335 dX7_step_216 ?_
                        refine zd_isub C dX7_step_219 ?_
                        refine zd_iconst C dX7_step_220 ?_
                        obtain ⟨o67, hF⟩ := hF
                        refine zd_icmp_le C o67 (by decide) 228 dX7_step_221 (by decide) (fun c66 => ?_) (fun c66 => ?_)
                        · have hF := hF.1 c66
                          refine zd_iconst C dX7_step_228 ?_
                          refine zp7_9 C hH hS (zRd0_n hC) (zRd0_k hC) q_336 (by decide) dX7_step_229 (fun H locs hH hS => ?_)
                          obtain ⟨X68, eX68⟩ : ∃ z, z = zU X58 (i) 9 (1) := ⟨_, rfl⟩
                          rw [← eX68] at hH
                          have hF := hF X68 eX68 hH.2.2.1
                          refine lv_goto (tgt := 250) C.1 C.2.1 dX7_step_232 (by decide) ?_
                          exact zd_vret C hr hlk hH hS (⟨rfl, rfl, hF⟩) dX7_step_250
                        · have hF := hF.2 c66
                          refine zd_iconst C dX7_step_224 ?_
                          refine lv_goto (tgt := 229) C.1 C.2.1 dX7_step_225 (by decide) ?_
                          refine zp7_9 C hH hS (zRd0_n hC) (zRd0_k hC) q_336 (by decide) dX7_step_229 (fun H locs hH hS => ?_)
                          obtain ⟨X69, eX69⟩ : ∃ z, z = zU X58 (i) 9 (4) := ⟨_, rfl⟩
                          rw [← eX69] at hH
                          have hF := hF X69 eX69 hH.2.2.1
                          refine lv_goto (tgt := 250) C.1 C.2.1 dX7_step_232 (by decide) ?_
                          exact zd_vret C hr hlk hH hS (⟨rfl, rfl, hF⟩) dX7_step_250
                      · have hF := hF.2 c65
                        refine lv_aload_n C.1 C.2.1 dX7_step_176 rfl (lv_at hl 1 rfl) ?_
                        refine lv_aload_n C.1 C.2.1 dX7_step_177 rfl (lv_at hl 1 rfl) ?_
                        refine zg7_10 C hH (zRd0_n hC) (zRd0_k hC) q_337 dX7_step_178 ?_
                        refine zd_bipush C (by decide) dX7_step_181 ?_
                        refine zd_imul C dX7_step_183 ?_
                        rw [show zI ((X58 (i) 10) * 10) = zI (zW ((X58 (i) 10) * 10)) from (zI_zW _).symm]
                        refine lv_aload_n C.1 C.2.1 dX7_step_184 rfl (lv_at hl 1 rfl) ?_
                        refine zg7_5 C hH (zRd0_n hC) (zRd0_k hC) q_332 (zRd0_r hC) dX7_step_185 ?_
                        refine lv_aload_n C.1 C.2.1 dX7_step_188 rfl (lv_at hl 1 rfl) ?_
                        refine lv_dup C.1 C.2.1 dX7_step_189 rfl ?_
                        refine zg7_7 C hH (zRd0_n hC) (zRd0_k hC) q_334 dX7_step_190 ?_
                        refine lv_dup_x1 C.1 C.2.1 dX7_step_193 rfl rfl ?_
                        refine zd_iconst C dX7_step_194 ?_
                        refine zd_iadd C dX7_step_195 ?_
                        obtain ⟨o70, hF⟩ := hF
                        have gg10 := hH.2.2.1
                        refine zp7_7 C hH hS (zRd0_n hC) (zRd0_k hC) q_334 o70 dX7_step_196 (fun H locs hH hS => ?_)
                        obtain ⟨X71, eX71⟩ : ∃ z, z = zU X58 (i) 7 ((X58 (i) 7) + 1) := ⟨_, rfl⟩
                        rw [← eX71] at hH
                        have hF := hF X71 eX71 hH.2.2.1
                        obtain ⟨o72, hF⟩ := hF
                        refine zd_bald C hH (zRd0_m hC) (zRd0_d hC) o72.1 (by rw [zRd0_l hC]; exact o72.2) (by rw [zRd0_l hC]; decide) dX7_step_199 ?_
                        refine zd_iadd C dX7_step_200 ?_
                        rw [show zI ((zW ((X58 (i) 10) * 10)) + (X71 (j) (X58 (i) 7))) = zI (zW ((zW ((X58 (i) 10) * 10)) + (X71 (j) (X58 (i) 7)))) from (zI_zW _).symm]
                        refine zd_bipush C (by decide) dX7_step_201 ?_
                        refine zd_isub C dX7_step_203 ?_
                        rw [show zI ((zW ((zW ((X58 (i) 10) * 10)) + (X71 (j) (X58 (i) 7)))) - 48) = zI (zW ((zW ((zW ((X58 (i) 10) * 10)) + (X71 (j) (X58 (i) 7)))) - 48)) from (zI_zW _).symm]
                        refine zp7_10 C hH hS (zRd0_n hC) (zRd0_k hC) q_337 (zW_rg _) dX7_step_204 (fun H locs hH hS => ?_)
                        obtain ⟨X73, eX73⟩ : ∃ z, z = zU X71 (i) 10 (zW ((zW ((zW ((X58 (i) 10) * 10)) + (X71 (j) (X58 (i) 7)))) - 48)) := ⟨_, rfl⟩
                        rw [← eX73] at hH
                        have hF := hF X73 eX73 hH.2.2.1
                        refine lv_goto (tgt := 150) C.1 C.2.1 dX7_step_207 (by decide) ?_
                        exact ih57 X73  hF.1 (Nat.lt_of_lt_of_le hF.2 (Nat.le_of_lt_succ hmu57)) _ _ _ hH hS (lv_sub hl [0, 1] rfl)
                exact L57 (((X i 6 - X56 i 7).toNat) + 1) X56  hI57 (Nat.lt_succ_self _) _ _ _ hH hS (lv_sub hl [0, 1] rfl)
            · have hF := hF.2 c50
              obtain ⟨hI74, hF⟩ := hF
              have L74 : ∀ (fu : Nat) (X75 : Nat → Int → Int), ((∀ z, z ≠ i → X75 z = X48 z) ∧ (∀ s, s ≠ 7 → X75 i s = X48 i s) ∧ ∃ q : Nat, X75 i 7 = q ∧ q ≤ (X i 6).toNat ∧ en isLe (X j) (X i 6).toNat (tkB (X j) (X i 6).toNat (X i 7).toNat) = en isLe (X j) (X i 6).toNat q) → ((X i 6 - X75 i 7).toNat) < fu → ∀ (H : Heap) (locs : List Loc) (ls : Array Slot), zH D cy bs N kd len X75 Y R H → va_S (zA bs) s.heap H locs → lv_has ls 2 [(1, .int (zI (X48 (j) (X45 (i) 7)))), (0, .ref (bs + (i)))] → W p l e (zRm 1 20) s m args below meth c H locs 0 0 (MQ below (zQv D cy bs N kd len (fun st => st.2.1 = Y ∧ st.2.2 = R ∧ (stC X (st.1) i ∧ (st.1) i 8 = tkB (X j) (X i 6).toNat (X i 7).toNat ∧ (st.1) i 7 = tkN (X j) (X i 6).toNat (X i 7).toNat ∧ (st.1) i 9 = cTk (tkS (X j) (X i 6).toNat (X i 7).toNat) ∧ (tkS (X j) (X i 6).toNat (X i 7).toNat = 3 → (st.1) i 10 = tkV (X j) (X i 6).toNat (X i 7).toNat)))) args s 0 0 (zA bs)) (F0 m 88 ls []) := by
                intro fu
                induction fu with
                | zero => intro X75  _ hmu; exact absurd hmu (Nat.not_lt_zero _)
                | succ fu ih74 =>
                  intro X75  hI hmu74 H locs ls hH hS hl
                  have hF := hF X75  hH.2.2.1 hI
                  refine lv_aload_n C.1 C.2.1 dX7_step_88 rfl (lv_at hl 1 rfl) ?_
                  refine zg7_7 C hH (zRd0_n hC) (zRd0_k hC) q_334 dX7_step_89 ?_
                  refine lv_aload_n C.1 C.2.1 dX7_step_92 rfl (lv_at hl 1 rfl) ?_
                  refine zg7_6 C hH (zRd0_n hC) (zRd0_k hC) q_333 dX7_step_93 ?_
                  refine zd_icmp_ge C (hH.2.2.1 _ _) (hH.2.2.1 _ _) 127 dX7_step_96 (by decide) (fun c76 => ?_) (fun c76 => ?_)
                  · have hF := hF.1 c76
                    refine lv_aload_n C.1 C.2.1 dX7_step_127 rfl (lv_at hl 1 rfl) ?_
                    refine zd_iconst C dX7_step_128 ?_
                    refine zp7_9 C hH hS (zRd0_n hC) (zRd0_k hC) q_336 (by decide) dX7_step_129 (fun H locs hH hS => ?_)
                    obtain ⟨X77, eX77⟩ : ∃ z, z = zU X75 (i) 9 (0) := ⟨_, rfl⟩
                    rw [← eX77] at hH
                    have hF := hF X77 eX77 hH.2.2.1
                    refine lv_goto (tgt := 250) C.1 C.2.1 dX7_step_132 (by decide) ?_
                    exact zd_vret C hr hlk hH hS (⟨rfl, rfl, hF⟩) dX7_step_250
                  · have hF := hF.2 c76
                    refine lv_aload_n C.1 C.2.1 dX7_step_99 rfl (lv_at hl 1 rfl) ?_
                    refine zg7_5 C hH (zRd0_n hC) (zRd0_k hC) q_332 (zRd0_r hC) dX7_step_100 ?_
                    refine lv_aload_n C.1 C.2.1 dX7_step_103 rfl (lv_at hl 1 rfl) ?_
                    refine zg7_7 C hH (zRd0_n hC) (zRd0_k hC) q_334 dX7_step_104 ?_
                    obtain ⟨o78, hF⟩ := hF
                    refine zd_bald C hH (zRd0_m hC) (zRd0_d hC) o78.1 (by rw [zRd0_l hC]; exact o78.2) (by rw [zRd0_l hC]; decide) dX7_step_107 ?_
                    refine zgoi (zrunS (As := [.int (zI (X75 (j) (X75 (i) 7)))]) (rest := []) C hE hH hS hl.1 (c_X7_isLetter (l := l)  (X75 (j) (X75 (i) 7)) (hH.2.2.1 _ _)) k_RX7_153 ⟨Nat.le_of_ble_eq_true rfl, Nat.le_of_ble_eq_true rfl⟩ rfl (Nat.le_of_ble_eq_true rfl) dX7_step_108 ⟨Nat.zero_le _, Nat.zero_le _⟩) hS (fun rq Xq Yq Rq H locs hrq hq hH hS => ?_)
                    obtain ⟨h91, h92⟩ := hq
                    have h93 : Xq = X75 := congrArg (fun z => z.1) h92
                    have h94 : Yq = Y := congrArg (fun z => z.2.1) h92
                    have h95 : Rq = R := congrArg (fun z => z.2.2) h92
                    rw [h93, h94, h95] at hH
                    subst h91
                    refine zd_ifB_eq C 127 dX7_step_111 (by decide) (fun c79 => ?_) (fun c79 => ?_)
                    · have hF := hF.1 c79
                      refine lv_aload_n C.1 C.2.1 dX7_step_127 rfl (lv_at hl 1 rfl) ?_
                      refine zd_iconst C dX7_step_128 ?_
                      refine zp7_9 C hH hS (zRd0_n hC) (zRd0_k hC) q_336 (by decide) dX7_step_129 (fun H locs hH hS => ?_)
                      obtain ⟨X80, eX80⟩ : ∃ z, z = zU X75 (i) 9 (0) := ⟨_, rfl⟩
                      rw [← eX80] at hH
                      have hF := hF X80 eX80 hH.2.2.1
                      refine lv_goto (tgt := 250) C.1 C.2.1 dX7_step_132 (by decide) ?_
                      exact zd_vret C hr hlk hH hS (⟨rfl, rfl, hF⟩) dX7_step_250
                    · have hF := hF.2 c79
                      refine lv_aload_n C.1 C.2.1 dX7_step_114 rfl (lv_at hl 1 rfl) ?_
                      refine lv_dup C.1 C.2.1 dX7_step_115 rfl ?_
                      refine zg7_7 C hH (zRd0_n hC) (zRd0_k hC) q_334 dX7_step_116 ?_
                      refine zd_iconst C dX7_step_119 ?_
                      refine zd_iadd C dX7_step_120 ?_
                      obtain ⟨o81, hF⟩ := hF
                      refine zp7_7 C hH hS (zRd0_n hC) (zRd0_k hC) q_334 o81 dX7_step_121 (fun H locs hH hS => ?_)
                      obtain ⟨X82, eX82⟩ : ∃ z, z = zU X75 (i) 7 ((X75 (i) 7) + 1) := ⟨_, rfl⟩
                      rw [← eX82] at hH
                      have hF := hF X82 eX82 hH.2.2.1
                      refine lv_goto (tgt := 88) C.1 C.2.1 dX7_step_124 (by decide) ?_
                      exact ih74 X82  hF.1 (Nat.lt_of_lt_of_le hF.2 (Nat.le_of_lt_succ hmu74)) _ _ _ hH hS (lv_sub hl [0, 1] rfl)
              exact L74 (((X i 6 - X48 i 7).toNat) + 1) X48  hI74 (Nat.lt_succ_self _) _ _ _ hH hS (lv_sub hl [0, 1] rfl)
          · have hF := hF.2 c46
            refine lv_aload_n C.1 C.2.1 dX7_step_58 rfl (lv_at hl 0 rfl) ?_
            refine zd_iconst C dX7_step_59 ?_
            refine zp7_9 C hH hS (zRd0_n hC) (zRd0_k hC) q_336 (by decide) dX7_step_60 (fun H locs hH hS => ?_)
            obtain ⟨X83, eX83⟩ : ∃ z, z = zU X45 (i) 9 (3) := ⟨_, rfl⟩
            rw [← eX83] at hH
            have hF := hF X83 eX83 hH.2.2.1
            exact zd_vret C hr hlk hH hS (⟨rfl, rfl, hF⟩) dX7_step_63
        · have hF := hF.2 c44
          refine lv_aload_n C.1 C.2.1 dX7_step_26 rfl (lv_at hl 0 rfl) ?_
          refine lv_dup C.1 C.2.1 dX7_step_27 rfl ?_
          refine zg7_7 C hH (zRd0_n hC) (zRd0_k hC) q_334 dX7_step_28 ?_
          refine zd_iconst C dX7_step_31 ?_
          refine zd_iadd C dX7_step_32 ?_
          obtain ⟨o84, hF⟩ := hF
          refine zp7_7 C hH hS (zRd0_n hC) (zRd0_k hC) q_334 o84 dX7_step_33 (fun H locs hH hS => ?_)
          obtain ⟨X85, eX85⟩ : ∃ z, z = zU X2 (i) 7 ((X2 (i) 7) + 1) := ⟨_, rfl⟩
          rw [← eX85] at hH
          have hF := hF X85 eX85 hH.2.2.1
          refine lv_goto (tgt := 0) C.1 C.2.1 dX7_step_36 (by decide) ?_
          exact ih1 X85  hF.1 (Nat.lt_of_lt_of_le hF.2 (Nat.le_of_lt_succ hmu1)) _ _ _ hH hS (lv_sub hl [0] rfl)
  exact L1 (((X i 6 - X i 7).toNat) + 1) X  hI1 (Nat.lt_succ_self _) _ _ _ hH hS (lv_sub hl [0] rfl)
theorem v_X7_step {X Y : Nat → Int → Int} {R : Nat → Int → Option Nat} {i j : Nat}  (hp : oRc X i j) : F_X7_step i j X Y R  := by
  unfold F_X7_step
  intro hX hY
  obtain ⟨hb, ⟨p0, p1⟩, l6, hj⟩ := hp
  obtain ⟨n, hn⟩ : ∃ n : Nat, X i 6 = n := ⟨(X i 6).toNat, by omega⟩
  obtain ⟨p, hpp⟩ : ∃ p : Nat, X i 7 = p := ⟨(X i 7).toNat, by omega⟩
  obtain ⟨B, hBd⟩ : ∃ B, tkB (X j) n p = B := ⟨_, rfl⟩
  have eN : tkN (X j) n p = tkE (X j) n B := by unfold tkN; rw [hBd]
  have eS : tkS (X j) n p = tkK (X j) n B := by unfold tkS; rw [hBd]
  have eV : tkV (X j) n p = vaN (X j) B (tkE (X j) n B - B) := by unfold tkV; rw [eN, hBd]
  simp only [hn, hpp, Int.toNat_natCast, hBd, eN, eS, eV]
  refine ⟨?_, ?_⟩
  · exact ⟨fun _ _ => trivial, fun _ _ => trivial, p, rfl, by omega, hBd.symm⟩
  intro X2
  intro rX2
  intro h1
  obtain ⟨o2, s2, q, hq, qn, hB⟩ := h1
  have l2 : X2 i 6 = n := (s2 6 (by decide)).trans hn
  have t2 : X2 j = X j := o2 _ hj
  refine ⟨?_, ?_⟩
  · intro c1
    rw [en_0 (fun g => absurd g.1 (by omega))] at hB
    subst hB
    intro X4
    intro eX4
    intro rX4
    refine ⟨?_, ?_⟩
    · intro c2
      rw [eX4, zU_n (by omega), zU_n (by omega)] at c2
      omega
    intro c21
    intro X42
    intro eX42
    intro rX42
    have o4 : ∀ z, z ≠ i → X4 z = X z := fun z hz => by rw [eX4, zU_o hz]; exact o2 z hz
    exact st_fin o4 (fun y h1 h2 h3 h4 => by rw [eX4, zU_n (by omega)]; exact s2 y h1) eX42 (by rw [eX4, zU_s]; exact hq) (by rw [eX4, zU_n (by omega)]; exact hq) (K := 0) rfl (by unfold tkE; exact if_pos (by omega)) (by unfold tkK; exact if_pos (by omega)) (fun g => absurd g (by decide))
  intro c22
  refine ⟨?_, ?_⟩
  · first | omega | exact ⟨by omega, by omega⟩ | decide | assumption | exact ⟨by omega, by omega, by omega⟩ | exact ⟨by decide, by decide⟩
  refine ⟨?_, ?_⟩
  · intro c23
    have bq : ¬ (q < n ∧ isBl (X j q) = true) := fun g => by
      have g2 := g.2
      unfold isBl at g2
      rw [Bool.or_eq_true, decide_eq_true_eq, decide_eq_true_eq] at g2
      have c := of_decide_eq_false c23
      rw [t2, hq] at c
      exact c g2
    rw [en_0 bq] at hB
    subst hB
    have bn : ¬ n ≤ B := by omega
    intro X45
    intro eX45
    have p45 : X45 i 7 = B := by
      rw [eX45, zU_n (by omega)]
      exact hq
    have l45 : X45 i 6 = n := by
      rw [eX45, zU_n (by omega)]
      exact l2
    intro rX45
    refine ⟨?_, ?_⟩
    · intro c24
      refine ⟨?_, ?_⟩
      · first | omega | exact ⟨by omega, by omega⟩ | decide | assumption | exact ⟨by omega, by omega, by omega⟩ | exact ⟨by decide, by decide⟩
      intro X48
      intro eX48
      have f48 : ∀ z, z ≠ i → X48 z = X z := fun z hz => by rw [eX48, zU_o hz, eX45, zU_o hz]; exact o2 z hz
      have n48 : ∀ s, s ≠ 7 → s ≠ 8 → X48 i s = X i s := fun s h1 h2 => by rw [eX48, zU_n (by omega), eX45, zU_n (by omega)]; exact s2 s h1
      have p48 : X48 i 7 = B + 1 := by rw [eX48, zU_s, p45]
      have b48 : X48 i 8 = B := by
        rw [eX48, zU_n (by omega), eX45, zU_s]
        exact hq
      have t48 : X48 j = X j := f48 j hj
      intro rX48
      refine ⟨?_, ?_⟩
      · first | omega | exact ⟨by omega, by omega⟩ | decide | assumption | exact ⟨by omega, by omega, by omega⟩ | exact ⟨by decide, by decide⟩
      refine ⟨?_, ?_⟩
      · intro c25
        rw [t48, p45] at c25
        refine ⟨?_, ?_⟩
        · intro c26
          rw [t48, p45] at c26
          refine ⟨?_, ?_⟩
          · intro c27
            rw [t48, p45] at c27
            intro X53
            intro eX53
            intro rX53
            have eL : isLe (X j B) = false := c25
            have eD : isDi (X j B) = false := c26
            have eE : tkE (X j) n B = B + 1 := by
              unfold tkE
              rw [if_neg bn, eL, if_neg (by decide), eD, if_neg (by decide)]
            have eK : tkK (X j) n B = 1 := by
              unfold tkK
              rw [if_neg bn, eL, if_neg (by decide), eD, if_neg (by decide), if_neg c27]
            exact st_fin f48 (fun y h1 h2 h3 h4 => n48 y h1 h2) eX53 b48 (by rw [p48]; omega) rfl eE eK (fun g => absurd g (by decide))
          intro c28
          rw [t48, p45] at c28
          intro X54
          intro eX54
          intro rX54
          have eL : isLe (X j B) = false := c25
          have eD : isDi (X j B) = false := c26
          have eE : tkE (X j) n B = B + 1 := by
            unfold tkE
            rw [if_neg bn, eL, if_neg (by decide), eD, if_neg (by decide)]
          have eK : tkK (X j) n B = 4 := by
            unfold tkK
            rw [if_neg bn, eL, if_neg (by decide), eD, if_neg (by decide), if_pos (Classical.not_not.mp c28)]
          exact st_fin f48 (fun y h1 h2 h3 h4 => n48 y h1 h2) eX54 b48 (by rw [p48]; omega) rfl eE eK (fun g => absurd g (by decide))
        intro c29
        rw [t48, p45] at c29
        refine ⟨?_, ?_⟩
        · have c := of_decide_eq_true c29
          rw [t48, p45]
          exact ⟨by omega, by omega⟩
        intro X56
        intro eX56
        have f56 : ∀ z, z ≠ i → X56 z = X z := fun z hz => by rw [eX56, zU_o hz]; exact f48 z hz
        have n56 : ∀ s, s ≠ 7 → s ≠ 8 → s ≠ 10 → X56 i s = X i s := fun s h1 h2 h3 => by rw [eX56, zU_n (by omega)]; exact n48 s h1 h2
        have b56 : X56 i 8 = B := by
          rw [eX56, zU_n (by omega)]
          exact b48
        intro rX56
        refine ⟨?_, ?_⟩
        · refine ⟨fun _ _ => trivial, fun _ _ _ => trivial, 1, by rw [eX56, zU_n (by omega), p48]; omega, by omega, en_s (by omega) c29, fun j1 h => ?_, fun _ => ?_⟩
          · rw [show j1 = 0 by omega]
            exact c29
          · rw [eX56, zU_s, t48, p45]
            show X j B - 48 = 10 * 0 + X j B - 48
            omega
        intro X58
        intro rX58
        intro h4
        obtain ⟨o58, s58, k, hk, kn, hE, hd, hv⟩ := h4
        have t58 : X58 j = X j := (o58 j hj).trans (f56 j hj)
        have l58 : X58 i 6 = n := (s58 6 (by decide) (by decide)).trans ((n56 6 (by decide) (by decide) (by decide)).trans hn)
        have b58 : X58 i 8 = B := (s58 8 (by decide) (by decide)).trans b56
        refine ⟨?_, ?_⟩
        · intro c30
          refine ⟨?_, ?_⟩
          · first | omega | exact ⟨by omega, by omega⟩ | decide | assumption | exact ⟨by omega, by omega, by omega⟩ | exact ⟨by decide, by decide⟩
          refine ⟨?_, ?_⟩
          · intro c31
            intro X62
            intro eX62
            intro rX62
            have eL : isLe (X j B) = false := c25
            have eD : isDi (X j B) = true := c29
            have e0 : en isDi (X j) n (B + k) = B + k := en_0 (fun g => absurd g.1 (by omega))
            have eE : tkE (X j) n B = B + k := by
              unfold tkE
              rw [if_neg bn, eL, if_neg (by decide), eD, if_pos rfl, hE]
              exact e0
            have eK : tkK (X j) n B = 3 := by
              unfold tkK
              rw [if_neg bn, eL, if_neg (by decide), eD, if_pos rfl, hE, e0, if_neg (by omega)]
            exact st_fin (fun z hz => (o58 z hz).trans (f56 z hz)) (fun y h1 h2 h3 h4 => (s58 y h1 h4).trans (n56 y h1 h2 h4)) eX62 b58 hk rfl eE eK (fun g => by rw [show B + k - B = k by omega]; exact hv (by omega))
          intro c32
          intro X63
          intro eX63
          intro rX63
          have eL : isLe (X j B) = false := c25
          have eD : isDi (X j B) = true := c29
          have e0 : en isDi (X j) n (B + k) = B + k := en_0 (fun g => absurd g.1 (by omega))
          have eE : tkE (X j) n B = B + k := by
            unfold tkE
            rw [if_neg bn, eL, if_neg (by decide), eD, if_pos rfl, hE]
            exact e0
          have eK : tkK (X j) n B = 1 := by
            unfold tkK
            rw [if_neg bn, eL, if_neg (by decide), eD, if_pos rfl, hE, e0, if_pos (by omega)]
          exact st_fin (fun z hz => (o58 z hz).trans (f56 z hz)) (fun y h1 h2 h3 h4 => (s58 y h1 h4).trans (n56 y h1 h2 h4)) eX63 b58 hk rfl eE eK (fun g => absurd g (by decide))
        intro c33
        refine ⟨?_, ?_⟩
        · first | omega | exact ⟨by omega, by omega⟩ | decide | assumption | exact ⟨by omega, by omega, by omega⟩ | exact ⟨by decide, by decide⟩
        refine ⟨?_, ?_⟩
        · intro c34
          rw [t58, hk] at c34
          refine ⟨?_, ?_⟩
          · first | omega | exact ⟨by omega, by omega⟩ | decide | assumption | exact ⟨by omega, by omega, by omega⟩ | exact ⟨by decide, by decide⟩
          refine ⟨?_, ?_⟩
          · intro c35
            intro X68
            intro eX68
            intro rX68
            have eL : isLe (X j B) = false := c25
            have eD : isDi (X j B) = true := c29
            have e0 : en isDi (X j) n (B + k) = B + k := en_0 (fun g => by have g2 : decide (48 ≤ X j ((B + k : Nat) : Int) ∧ X j ((B + k : Nat) : Int) ≤ 57) = true := g.2; rw [c34] at g2; cases g2)
            have eE : tkE (X j) n B = B + k := by
              unfold tkE
              rw [if_neg bn, eL, if_neg (by decide), eD, if_pos rfl, hE]
              exact e0
            have eK : tkK (X j) n B = 3 := by
              unfold tkK
              rw [if_neg bn, eL, if_neg (by decide), eD, if_pos rfl, hE, e0, if_neg (by omega)]
            exact st_fin (fun z hz => (o58 z hz).trans (f56 z hz)) (fun y h1 h2 h3 h4 => (s58 y h1 h4).trans (n56 y h1 h2 h4)) eX68 b58 hk rfl eE eK (fun g => by rw [show B + k - B = k by omega]; exact hv (by omega))
          intro c36
          intro X69
          intro eX69
          intro rX69
          have eL : isLe (X j B) = false := c25
          have eD : isDi (X j B) = true := c29
          have e0 : en isDi (X j) n (B + k) = B + k := en_0 (fun g => by have g2 : decide (48 ≤ X j ((B + k : Nat) : Int) ∧ X j ((B + k : Nat) : Int) ≤ 57) = true := g.2; rw [c34] at g2; cases g2)
          have eE : tkE (X j) n B = B + k := by
            unfold tkE
            rw [if_neg bn, eL, if_neg (by decide), eD, if_pos rfl, hE]
            exact e0
          have eK : tkK (X j) n B = 1 := by
            unfold tkK
            rw [if_neg bn, eL, if_neg (by decide), eD, if_pos rfl, hE, e0, if_pos (by omega)]
          exact st_fin (fun z hz => (o58 z hz).trans (f56 z hz)) (fun y h1 h2 h3 h4 => (s58 y h1 h4).trans (n56 y h1 h2 h4)) eX69 b58 hk rfl eE eK (fun g => absurd g (by decide))
        intro c37
        rw [t58, hk] at c37
        refine ⟨?_, ?_⟩
        · first | omega | exact ⟨by omega, by omega⟩ | decide | assumption | exact ⟨by omega, by omega, by omega⟩ | exact ⟨by decide, by decide⟩
        intro X71
        intro eX71
        intro rX71
        refine ⟨?_, ?_⟩
        · first | omega | exact ⟨by omega, by omega⟩ | decide | assumption | exact ⟨by omega, by omega, by omega⟩ | exact ⟨by decide, by decide⟩
        intro X73
        intro eX73
        intro rX73
        refine ⟨?_, ?_⟩
        · refine ⟨fun z hz => by rw [eX73, zU_o hz, eX71, zU_o hz]; exact o58 z hz, fun s h1 h2 => by rw [eX73, zU_n (by omega), eX71, zU_n (by omega)]; exact s58 s h1 h2, k + 1, by rw [eX73, zU_n (by omega), eX71, zU_s, hk]; omega, by omega, hE.trans (en_s (by omega) c37), fun j1 h => ?_, fun h => ?_⟩
          · by_cases e : j1 = k
            · rw [e]
              exact c37
            · exact hd j1 (by omega)
          · have vb := vaN_b k hd
            have dg := of_decide_eq_true c37
            have t71 : X71 j = X j := by
              rw [eX71, zU_o hj]
              exact t58
            rw [eX73, zU_s, hv (by omega), t71, hk]
            have e1 : zW (vaN (X j) B k * 10) = vaN (X j) B k * 10 := zW_id ⟨by omega, by omega⟩
            have e2 : zW (vaN (X j) B k * 10 + X j ((B + k : Nat) : Int)) = vaN (X j) B k * 10 + X j ((B + k : Nat) : Int) := zW_id ⟨by omega, by omega⟩
            have e3 : zW (vaN (X j) B k * 10 + X j ((B + k : Nat) : Int) - 48) = vaN (X j) B k * 10 + X j ((B + k : Nat) : Int) - 48 := zW_id ⟨by omega, by omega⟩
            rw [e1, e2, e3]
            show _ = if k < 2 then 10 * vaN (X j) B k + X j ((B + k : Nat) : Int) - 48 else vaN (X j) B k
            rw [if_pos (by omega)]
            omega
        have p73 : X73 i 7 = X58 i 7 + 1 := by rw [eX73, zU_n (by omega), eX71, zU_s]
        omega
      intro c38
      rw [t48, p45] at c38
      refine ⟨?_, ?_⟩
      · exact ⟨fun _ _ => trivial, fun _ _ => trivial, B + 1, by rw [p48]; omega, by omega, en_s (by omega) c38⟩
      intro X75
      intro rX75
      intro h5
      obtain ⟨o75, s75, q2, hq2, q2n, hE⟩ := h5
      have t75 : X75 j = X j := (o75 j hj).trans t48
      have l75 : X75 i 6 = n := (s75 6 (by decide)).trans ((n48 6 (by decide) (by decide)).trans hn)
      have b75 : X75 i 8 = B := (s75 8 (by decide)).trans b48
      refine ⟨?_, ?_⟩
      · intro c39
        intro X77
        intro eX77
        intro rX77
        have eL : isLe (X j B) = true := c38
        have eE : tkE (X j) n B = q2 := by
          unfold tkE
          rw [if_neg bn, eL, if_pos rfl, hE]
          exact en_0 (fun g => absurd g.1 (by omega))
        have eK : tkK (X j) n B = 2 := by
          unfold tkK
          rw [if_neg bn, eL, if_pos rfl]
        exact st_fin (fun z hz => (o75 z hz).trans (f48 z hz)) (fun y h1 h2 h3 h4 => (s75 y h1).trans (n48 y h1 h2)) eX77 b75 hq2 rfl eE eK (fun g => absurd g (by decide))
      intro c40
      refine ⟨?_, ?_⟩
      · first | omega | exact ⟨by omega, by omega⟩ | decide | assumption | exact ⟨by omega, by omega, by omega⟩ | exact ⟨by decide, by decide⟩
      refine ⟨?_, ?_⟩
      · intro c41
        rw [t75, hq2] at c41
        intro X80
        intro eX80
        intro rX80
        have eL : isLe (X j B) = true := c38
        have eE : tkE (X j) n B = q2 := by
          unfold tkE
          rw [if_neg bn, eL, if_pos rfl, hE]
          exact en_0 (fun g => by have g2 : decide (97 ≤ X j (q2 : Int) ∧ X j (q2 : Int) ≤ 122) = true := g.2; rw [c41] at g2; cases g2)
        have eK : tkK (X j) n B = 2 := by
          unfold tkK
          rw [if_neg bn, eL, if_pos rfl]
        exact st_fin (fun z hz => (o75 z hz).trans (f48 z hz)) (fun y h1 h2 h3 h4 => (s75 y h1).trans (n48 y h1 h2)) eX80 b75 hq2 rfl eE eK (fun g => absurd g (by decide))
      intro c42
      rw [t75, hq2] at c42
      refine ⟨?_, ?_⟩
      · first | omega | exact ⟨by omega, by omega⟩ | decide | assumption | exact ⟨by omega, by omega, by omega⟩ | exact ⟨by decide, by decide⟩
      intro X82
      intro eX82
      intro rX82
      refine ⟨?_, ?_⟩
      · exact ⟨fun z hz => by rw [eX82, zU_o hz]; exact o75 z hz, fun s h1 => by rw [eX82, zU_n (by omega)]; exact s75 s h1, q2 + 1, by rw [eX82, zU_s, hq2]; omega, by omega, hE.trans (en_s (by omega) c42)⟩
      have p82 : X82 i 7 = X75 i 7 + 1 := by rw [eX82, zU_s]
      omega
    intro c43
    intro X83
    intro eX83
    intro rX83
    exfalso
    omega
  intro c44
  refine ⟨?_, ?_⟩
  · first | omega | exact ⟨by omega, by omega⟩ | decide | assumption | exact ⟨by omega, by omega, by omega⟩ | exact ⟨by decide, by decide⟩
  intro X85
  intro eX85
  intro rX85
  refine ⟨?_, ?_⟩
  · refine ⟨fun z hz => by rw [eX85, zU_o hz]; exact o2 z hz, fun s h1 => by rw [eX85, zU_n (by omega)]; exact s2 s h1, q + 1, by rw [eX85, zU_s, hq]; omega, by omega, hB.trans (en_s (by omega) ?_)⟩
    have c := of_decide_eq_true c44
    rw [t2, hq] at c
    unfold isBl
    rw [Bool.or_eq_true, decide_eq_true_eq, decide_eq_true_eq]
    exact c
  have p85 : X85 i 7 = X2 i 7 + 1 := by rw [eX85, zU_s]
  omega
theorem c_X7_step {l : Launch} {D : va_G} {cy : Nat → ClassId} {bs N : Nat} {sa : Nat → Nat} {kd len : Nat → Nat} {X Y : Nat → Int → Int} {R : Nat → Int → Option Nat} {i j : Nat} (hC : zRd0 N kd len R i j)  (hp : oRc X i j) : Met l yX7_step (.code yX7_step cX7_step 2 none :: zTB) (zRm 1 20) (zPc D cy bs sa N kd len X Y R [.ref (bs + (i))]) (zQv D cy bs N kd len (fun st => st.2.1 = Y ∧ st.2.2 = R ∧ (stC X (st.1) i ∧ (st.1) i 8 = tkB (X j) (X i 6).toNat (X i 7).toNat ∧ (st.1) i 7 = tkN (X j) (X i 6).toNat (X i 7).toNat ∧ (st.1) i 9 = cTk (tkS (X j) (X i 6).toNat (X i 7).toNat) ∧ (tkS (X j) (X i 6).toNat (X i 7).toNat = 3 → (st.1) i 10 = tkV (X j) (X i 6).toNat (X i 7).toNat)))) 0 0 (zA bs) := w_X7_step hC  (v_X7_step  hp)
