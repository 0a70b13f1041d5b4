/-! WHICH WORD IT IS -/
def wdI (v : Int) : Nat := if v = 0 then 0 else if v = 1 then 1 else if v = 2 then 2 else if v = 3 then 3 else if v = 4 then 4 else if v = 5 then 5 else if v = 6 then 6 else if v = 10 then 7 else if v = 11 then 8 else if v = 20 then 9 else if v = 21 then 10 else if v = 22 then 11 else if v = 23 then 3 else if v = 30 then 12 else if v = 40 then 8 else 13
def wdK (a b : Int) : Nat := wdI (a * 10 + b)
/-- the token is the word -/
def tkI (X : Nat → Int → Int) (i j k : Nat) : Bool := decide (0 < zKl.getD k 0 ∧ ((zKl.getD k 0 : Nat) : Int) = X i 7 - X i 8) && alN (fun y => decide (kyB k (y : Nat) = X j (X i 8 + y))) (zKl.getD k 0)
def wdF (X : Nat → Int → Int) (i j : Nat) (a : Int) : Nat → Int
  | 0 => -1
  | n + 1 => if wdF X i j a n = -1 then (if tkI X i j (wdK a n) then (n : Int) else -1) else wdF X i j a n
abbrev cX7_wordAt : ByteArray := prog_9_method_19_code
def yX7_wordAt : MethodName := ⟨RX7, "wordAt", "(II)Ljava/lang/String;"⟩
theorem dX7_wordAt_0 : decode cX7_wordAt 0 = .ok (.iload_n 0, 1) := by decide +kernel
theorem dX7_wordAt_1 : decode cX7_wordAt 1 = .ok (.bipush 10, 2) := by decide +kernel
theorem dX7_wordAt_3 : decode cX7_wordAt 3 = .ok (.imul, 1) := by decide +kernel
theorem dX7_wordAt_4 : decode cX7_wordAt 4 = .ok (.iload_n 1, 1) := by decide +kernel
theorem dX7_wordAt_5 : decode cX7_wordAt 5 = .ok (.iadd, 1) := by decide +kernel
theorem dX7_wordAt_6 : decode cX7_wordAt 6 = .ok (.tableswitch 223 0 40 #[178, 181, 184, 187, 190, 193, 196, 223, 223, 223, 199, 202, 223, 223, 223, 223, 223, 223, 223, 223, 205, 208, 211, 214, 223, 223, 223, 223, 223, 223, 217, 223, 223, 223, 223, 223, 223, 223, 223, 223, 220], 178) := by decide +kernel
theorem dX7_wordAt_184 : decode cX7_wordAt 184 = .ok (.ldc 176, 2) := by decide +kernel
theorem dX7_wordAt_186 : decode cX7_wordAt 186 = .ok (.areturn, 1) := by decide +kernel
theorem dX7_wordAt_187 : decode cX7_wordAt 187 = .ok (.ldc 177, 2) := by decide +kernel
theorem dX7_wordAt_189 : decode cX7_wordAt 189 = .ok (.areturn, 1) := by decide +kernel
theorem dX7_wordAt_190 : decode cX7_wordAt 190 = .ok (.ldc 179, 2) := by decide +kernel
theorem dX7_wordAt_192 : decode cX7_wordAt 192 = .ok (.areturn, 1) := by decide +kernel
theorem dX7_wordAt_193 : decode cX7_wordAt 193 = .ok (.ldc 181, 2) := by decide +kernel
theorem dX7_wordAt_195 : decode cX7_wordAt 195 = .ok (.areturn, 1) := by decide +kernel
theorem dX7_wordAt_196 : decode cX7_wordAt 196 = .ok (.ldc 183, 2) := by decide +kernel
theorem dX7_wordAt_198 : decode cX7_wordAt 198 = .ok (.areturn, 1) := by decide +kernel
theorem dX7_wordAt_199 : decode cX7_wordAt 199 = .ok (.ldc 185, 2) := by decide +kernel
theorem dX7_wordAt_201 : decode cX7_wordAt 201 = .ok (.areturn, 1) := by decide +kernel
theorem dX7_wordAt_202 : decode cX7_wordAt 202 = .ok (.ldc 187, 2) := by decide +kernel
theorem dX7_wordAt_204 : decode cX7_wordAt 204 = .ok (.areturn, 1) := by decide +kernel
theorem dX7_wordAt_205 : decode cX7_wordAt 205 = .ok (.ldc 189, 2) := by decide +kernel
theorem dX7_wordAt_207 : decode cX7_wordAt 207 = .ok (.areturn, 1) := by decide +kernel
theorem dX7_wordAt_208 : decode cX7_wordAt 208 = .ok (.ldc 191, 2) := by decide +kernel
theorem dX7_wordAt_210 : decode cX7_wordAt 210 = .ok (.areturn, 1) := by decide +kernel
theorem dX7_wordAt_211 : decode cX7_wordAt 211 = .ok (.ldc 193, 2) := by decide +kernel
theorem dX7_wordAt_213 : decode cX7_wordAt 213 = .ok (.areturn, 1) := by decide +kernel
theorem dX7_wordAt_214 : decode cX7_wordAt 214 = .ok (.ldc 195, 2) := by decide +kernel
theorem dX7_wordAt_216 : decode cX7_wordAt 216 = .ok (.areturn, 1) := by decide +kernel
theorem dX7_wordAt_217 : decode cX7_wordAt 217 = .ok (.ldc 197, 2) := by decide +kernel
theorem dX7_wordAt_219 : decode cX7_wordAt 219 = .ok (.areturn, 1) := by decide +kernel
theorem dX7_wordAt_220 : decode cX7_wordAt 220 = .ok (.ldc 181, 2) := by decide +kernel
theorem dX7_wordAt_222 : decode cX7_wordAt 222 = .ok (.areturn, 1) := by decide +kernel
theorem dX7_wordAt_223 : decode cX7_wordAt 223 = .ok (.ldc 199, 2) := by decide +kernel
theorem dX7_wordAt_225 : decode cX7_wordAt 225 = .ok (.areturn, 1) := by decide +kernel
theorem dX7_wordAt_226 : decode cX7_wordAt 226 = .ok (.ldc 191, 2) := by decide +kernel
theorem dX7_wordAt_228 : decode cX7_wordAt 228 = .ok (.areturn, 1) := by decide +kernel
theorem dX7_wordAt_229 : decode cX7_wordAt 229 = .ok (.ldc 201, 2) := by decide +kernel
theorem dX7_wordAt_231 : decode cX7_wordAt 231 = .ok (.areturn, 1) := by decide +kernel
theorem tsw_0_40 (z : Int) (h0 : ¬ z = 0) (h1 : ¬ z = 1) (h2 : ¬ z = 2) (h3 : ¬ z = 3) (h4 : ¬ z = 4) (h5 : ¬ z = 5) (h6 : ¬ z = 6) (h7 : ¬ z = 7) (h8 : ¬ z = 8) (h9 : ¬ z = 9) (h10 : ¬ z = 10) (h11 : ¬ z = 11) (h12 : ¬ z = 12) (h13 : ¬ z = 13) (h14 : ¬ z = 14) (h15 : ¬ z = 15) (h16 : ¬ z = 16) (h17 : ¬ z = 17) (h18 : ¬ z = 18) (h19 : ¬ z = 19) (h20 : ¬ z = 20) (h21 : ¬ z = 21) (h22 : ¬ z = 22) (h23 : ¬ z = 23) (h24 : ¬ z = 24) (h25 : ¬ z = 25) (h26 : ¬ z = 26) (h27 : ¬ z = 27) (h28 : ¬ z = 28) (h29 : ¬ z = 29) (h30 : ¬ z = 30) (h31 : ¬ z = 31) (h32 : ¬ z = 32) (h33 : ¬ z = 33) (h34 : ¬ z = 34) (h35 : ¬ z = 35) (h36 : ¬ z = 36) (h37 : ¬ z = 37) (h38 : ¬ z = 38) (h39 : ¬ z = 39) (h40 : ¬ z = 40) : z < 0 ∨ 40 < z := by omega
def F_X7_wordAt (X Y : Nat → Int → Int) (R : Nat → Int → Option Nat) (a : Int) (b : Int) : Prop := (∀ i j, rI (X i j)) → (∀ i j, rL (Y i j)) → (rI ((a * 10) + b)) ∧ ((((a * 10) + b) = 0 → (0 = wdK (a) (b))) ∧ (((a * 10) + b) = 1 → (1 = wdK (a) (b))) ∧ (((a * 10) + b) = 2 → (2 = wdK (a) (b))) ∧ (((a * 10) + b) = 3 → (3 = wdK (a) (b))) ∧ (((a * 10) + b) = 4 → (4 = wdK (a) (b))) ∧ (((a * 10) + b) = 5 → (5 = wdK (a) (b))) ∧ (((a * 10) + b) = 6 → (6 = wdK (a) (b))) ∧ (((a * 10) + b) = 7 → (13 = wdK (a) (b))) ∧ (((a * 10) + b) = 8 → (13 = wdK (a) (b))) ∧ (((a * 10) + b) = 9 → (13 = wdK (a) (b))) ∧ (((a * 10) + b) = 10 → (7 = wdK (a) (b))) ∧ (((a * 10) + b) = 11 → (8 = wdK (a) (b))) ∧ (((a * 10) + b) = 12 → (13 = wdK (a) (b))) ∧ (((a * 10) + b) = 13 → (13 = wdK (a) (b))) ∧ (((a * 10) + b) = 14 → (13 = wdK (a) (b))) ∧ (((a * 10) + b) = 15 → (13 = wdK (a) (b))) ∧ (((a * 10) + b) = 16 → (13 = wdK (a) (b))) ∧ (((a * 10) + b) = 17 → (13 = wdK (a) (b))) ∧ (((a * 10) + b) = 18 → (13 = wdK (a) (b))) ∧ (((a * 10) + b) = 19 → (13 = wdK (a) (b))) ∧ (((a * 10) + b) = 20 → (9 = wdK (a) (b))) ∧ (((a * 10) + b) = 21 → (10 = wdK (a) (b))) ∧ (((a * 10) + b) = 22 → (11 = wdK (a) (b))) ∧ (((a * 10) + b) = 23 → (3 = wdK (a) (b))) ∧ (((a * 10) + b) = 24 → (13 = wdK (a) (b))) ∧ (((a * 10) + b) = 25 → (13 = wdK (a) (b))) ∧ (((a * 10) + b) = 26 → (13 = wdK (a) (b))) ∧ (((a * 10) + b) = 27 → (13 = wdK (a) (b))) ∧ (((a * 10) + b) = 28 → (13 = wdK (a) (b))) ∧ (((a * 10) + b) = 29 → (13 = wdK (a) (b))) ∧ (((a * 10) + b) = 30 → (12 = wdK (a) (b))) ∧ (((a * 10) + b) = 31 → (13 = wdK (a) (b))) ∧ (((a * 10) + b) = 32 → (13 = wdK (a) (b))) ∧ (((a * 10) + b) = 33 → (13 = wdK (a) (b))) ∧ (((a * 10) + b) = 34 → (13 = wdK (a) (b))) ∧ (((a * 10) + b) = 35 → (13 = wdK (a) (b))) ∧ (((a * 10) + b) = 36 → (13 = wdK (a) (b))) ∧ (((a * 10) + b) = 37 → (13 = wdK (a) (b))) ∧ (((a * 10) + b) = 38 → (13 = wdK (a) (b))) ∧ (((a * 10) + b) = 39 → (13 = wdK (a) (b))) ∧ (((a * 10) + b) = 40 → (8 = wdK (a) (b))) ∧ ((((a * 10) + b) < 0 ∨ 40 < ((a * 10) + b)) → (13 = wdK (a) (b))))
set_option maxHeartbeats 4000000 in
set_option maxRecDepth 100000 in
theorem w_X7_wordAt {l : Launch} {D : va_G} {cy : Nat → ClassId} {bs N : Nat} {sa : Nat → Nat} {kd len : Nat → Nat} {X Y : Nat → Int → Int} {R : Nat → Int → Option Nat}  (a : Int) (ha : rI a) (b : Int) (hb : rI b) (hF : F_X7_wordAt  X Y R a b) : Met l yX7_wordAt (.code yX7_wordAt cX7_wordAt 2 (some (.object "java/lang/String")) :: zTB) (zRm 0 0) (zPc D cy bs sa N kd len X Y R [.int (zI (a)), .int (zI (b))]) (zQt D cy bs sa N kd len (fun r st => r = wdK (a) (b) ∧ st = (X, Y, R))) 0 0 (zA bs) := by
  refine zstart (by decide) (Nat.le_of_ble_eq_true rfl) ?_
  intro p e s m args below meth c ls C hE hH hr hlk hnm hl hargs
  have hF := hF hH.2.2.1 hH.2.2.2
  have hS : va_S (zA bs) s.heap s.heap [] := va_S.rf
  have hl : lv_has ls 2 [(0, .int (zI (a))), (1, .int (zI (b)))] := hl
  refine lv_iload_n C.1 C.2.1 dX7_wordAt_0 rfl (lv_at hl 0 rfl) ?_
  refine zd_bipush C (by decide) dX7_wordAt_1 ?_
  refine zd_imul C dX7_wordAt_3 ?_
  refine lv_iload_n C.1 C.2.1 dX7_wordAt_4 rfl (lv_at hl 1 rfl) ?_
  refine zd_iadd C dX7_wordAt_5 ?_
  obtain ⟨o1, hF⟩ := hF
  by_cases c2_0 : (a * 10) + b = 0
  · have hF := hF.1 c2_0
    refine zd_tabI C o1 184 (0) c2_0 dX7_wordAt_6 (by decide) (by decide) rfl (by decide) ?_
    refine zd_ldcS C hE (k := 0) (by decide) dX7_wordAt_184 ?_
    exact zd_tret C hr hlk hH hS (by decide) ⟨hF, rfl⟩ dX7_wordAt_186
  · have hF := hF.2
    by_cases c2_1 : (a * 10) + b = 1
    · have hF := hF.1 c2_1
      refine zd_tabI C o1 187 (1) c2_1 dX7_wordAt_6 (by decide) (by decide) rfl (by decide) ?_
      refine zd_ldcS C hE (k := 1) (by decide) dX7_wordAt_187 ?_
      exact zd_tret C hr hlk hH hS (by decide) ⟨hF, rfl⟩ dX7_wordAt_189
    · have hF := hF.2
      by_cases c2_2 : (a * 10) + b = 2
      · have hF := hF.1 c2_2
        refine zd_tabI C o1 190 (2) c2_2 dX7_wordAt_6 (by decide) (by decide) rfl (by decide) ?_
        refine zd_ldcS C hE (k := 2) (by decide) dX7_wordAt_190 ?_
        exact zd_tret C hr hlk hH hS (by decide) ⟨hF, rfl⟩ dX7_wordAt_192
      · have hF := hF.2
        by_cases c2_3 : (a * 10) + b = 3
        · have hF := hF.1 c2_3
          refine zd_tabI C o1 193 (3) c2_3 dX7_wordAt_6 (by decide) (by decide) rfl (by decide) ?_
          refine zd_ldcS C hE (k := 3) (by decide) dX7_wordAt_193 ?_
          exact zd_tret C hr hlk hH hS (by decide) ⟨hF, rfl⟩ dX7_wordAt_195
        · have hF := hF.2
          by_cases c2_4 : (a * 10) + b = 4
          · have hF := hF.1 c2_4
            refine zd_tabI C o1 196 (4) c2_4 dX7_wordAt_6 (by decide) (by decide) rfl (by decide) ?_
            refine zd_ldcS C hE (k := 4) (by decide) dX7_wordAt_196 ?_
            exact zd_tret C hr hlk hH hS (by decide) ⟨hF, rfl⟩ dX7_wordAt_198
          · have hF := hF.2
            by_cases c2_5 : (a * 10) + b = 5
            · have hF := hF.1 c2_5
              refine zd_tabI C o1 199 (5) c2_5 dX7_wordAt_6 (by decide) (by decide) rfl (by decide) ?_
              refine zd_ldcS C hE (k := 5) (by decide) dX7_wordAt_199 ?_
              exact zd_tret C hr hlk hH hS (by decide) ⟨hF, rfl⟩ dX7_wordAt_201
            · have hF := hF.2
              by_cases c2_6 : (a * 10) + b = 6
              · have hF := hF.1 c2_6
                refine zd_tabI C o1 202 (6) c2_6 dX7_wordAt_6 (by decide) (by decide) rfl (by decide) ?_
                refine zd_ldcS C hE (k := 6) (by decide) dX7_wordAt_202 ?_
                exact zd_tret C hr hlk hH hS (by decide) ⟨hF, rfl⟩ dX7_wordAt_204
              · have hF := hF.2
                by_cases c2_7 : (a * 10) + b = 7
                · have hF := hF.1 c2_7
                  refine zd_tabI C o1 229 (7) c2_7 dX7_wordAt_6 (by decide) (by decide) rfl (by decide) ?_
                  refine zd_ldcS C hE (k := 13) (by decide) dX7_wordAt_229 ?_
                  exact zd_tret C hr hlk hH hS (by decide) ⟨hF, rfl⟩ dX7_wordAt_231
                · have hF := hF.2
                  by_cases c2_8 : (a * 10) + b = 8
                  · have hF := hF.1 c2_8
                    refine zd_tabI C o1 229 (8) c2_8 dX7_wordAt_6 (by decide) (by decide) rfl (by decide) ?_
                    refine zd_ldcS C hE (k := 13) (by decide) dX7_wordAt_229 ?_
                    exact zd_tret C hr hlk hH hS (by decide) ⟨hF, rfl⟩ dX7_wordAt_231
                  · have hF := hF.2
                    by_cases c2_9 : (a * 10) + b = 9
                    · have hF := hF.1 c2_9
                      refine zd_tabI C o1 229 (9) c2_9 dX7_wordAt_6 (by decide) (by decide) rfl (by decide) ?_
                      refine zd_ldcS C hE (k := 13) (by decide) dX7_wordAt_229 ?_
                      exact zd_tret C hr hlk hH hS (by decide) ⟨hF, rfl⟩ dX7_wordAt_231
                    · have hF := hF.2
                      by_cases c2_10 : (a * 10) + b = 10
                      · have hF := hF.1 c2_10
                        refine zd_tabI C o1 205 (10) c2_10 dX7_wordAt_6 (by decide) (by decide) rfl (by decide) ?_
                        refine zd_ldcS C hE (k := 7) (by decide) dX7_wordAt_205 ?_
                        exact zd_tret C hr hlk hH hS (by decide) ⟨hF, rfl⟩ dX7_wordAt_207
                      · have hF := hF.2
                        by_cases c2_11 : (a * 10) + b = 11
                        · have hF := hF.1 c2_11
                          refine zd_tabI C o1 208 (11) c2_11 dX7_wordAt_6 (by decide) (by decide) rfl (by decide) ?_
                          refine zd_ldcS C hE (k := 8) (by decide) dX7_wordAt_208 ?_
                          exact zd_tret C hr hlk hH hS (by decide) ⟨hF, rfl⟩ dX7_wordAt_210
                        · have hF := hF.2
                          by_cases c2_12 : (a * 10) + b = 12
                          · have hF := hF.1 c2_12
                            refine zd_tabI C o1 229 (12) c2_12 dX7_wordAt_6 (by decide) (by decide) rfl (by decide) ?_
                            refine zd_ldcS C hE (k := 13) (by decide) dX7_wordAt_229 ?_
                            exact zd_tret C hr hlk hH hS (by decide) ⟨hF, rfl⟩ dX7_wordAt_231
                          · have hF := hF.2
                            by_cases c2_13 : (a * 10) + b = 13
                            · have hF := hF.1 c2_13
                              refine zd_tabI C o1 229 (13) c2_13 dX7_wordAt_6 (by decide) (by decide) rfl (by decide) ?_
                              refine zd_ldcS C hE (k := 13) (by decide) dX7_wordAt_229 ?_
                              exact zd_tret C hr hlk hH hS (by decide) ⟨hF, rfl⟩ dX7_wordAt_231
                            · have hF := hF.2
                              by_cases c2_14 : (a * 10) + b = 14
                              · have hF := hF.1 c2_14
                                refine zd_tabI C o1 229 (14) c2_14 dX7_wordAt_6 (by decide) (by decide) rfl (by decide) ?_
                                refine zd_ldcS C hE (k := 13) (by decide) dX7_wordAt_229 ?_
                                exact zd_tret C hr hlk hH hS (by decide) ⟨hF, rfl⟩ dX7_wordAt_231
                              · have hF := hF.2
                                by_cases c2_15 : (a * 10) + b = 15
                                · have hF := hF.1 c2_15
                                  refine zd_tabI C o1 229 (15) c2_15 dX7_wordAt_6 (by decide) (by decide) rfl (by decide) ?_
                                  refine zd_ldcS C hE (k := 13) (by decide) dX7_wordAt_229 ?_
                                  exact zd_tret C hr hlk hH hS (by decide) ⟨hF, rfl⟩ dX7_wordAt_231
                                · have hF := hF.2
                                  by_cases c2_16 : (a * 10) + b = 16
                                  · have hF := hF.1 c2_16
                                    refine zd_tabI C o1 229 (16) c2_16 dX7_wordAt_6 (by decide) (by decide) rfl (by decide) ?_
                                    refine zd_ldcS C hE (k := 13) (by decide) dX7_wordAt_229 ?_
                                    exact zd_tret C hr hlk hH hS (by decide) ⟨hF, rfl⟩ dX7_wordAt_231
                                  · have hF := hF.2
                                    by_cases c2_17 : (a * 10) + b = 17
                                    · have hF := hF.1 c2_17
                                      refine zd_tabI C o1 229 (17) c2_17 dX7_wordAt_6 (by decide) (by decide) rfl (by decide) ?_
                                      refine zd_ldcS C hE (k := 13) (by decide) dX7_wordAt_229 ?_
                                      exact zd_tret C hr hlk hH hS (by decide) ⟨hF, rfl⟩ dX7_wordAt_231
                                    · have hF := hF.2
                                      by_cases c2_18 : (a * 10) + b = 18
                                      · have hF := hF.1 c2_18
                                        refine zd_tabI C o1 229 (18) c2_18 dX7_wordAt_6 (by decide) (by decide) rfl (by decide) ?_
                                        refine zd_ldcS C hE (k := 13) (by decide) dX7_wordAt_229 ?_
                                        exact zd_tret C hr hlk hH hS (by decide) ⟨hF, rfl⟩ dX7_wordAt_231
                                      · have hF := hF.2
                                        by_cases c2_19 : (a * 10) + b = 19
                                        · have hF := hF.1 c2_19
                                          refine zd_tabI C o1 229 (19) c2_19 dX7_wordAt_6 (by decide) (by decide) rfl (by decide) ?_
                                          refine zd_ldcS C hE (k := 13) (by decide) dX7_wordAt_229 ?_
                                          exact zd_tret C hr hlk hH hS (by decide) ⟨hF, rfl⟩ dX7_wordAt_231
                                        · have hF := hF.2
                                          by_cases c2_20 : (a * 10) + b = 20
                                          · have hF := hF.1 c2_20
                                            refine zd_tabI C o1 211 (20) c2_20 dX7_wordAt_6 (by decide) (by decide) rfl (by decide) ?_
                                            refine zd_ldcS C hE (k := 9) (by decide) dX7_wordAt_211 ?_
                                            exact zd_tret C hr hlk hH hS (by decide) ⟨hF, rfl⟩ dX7_wordAt_213
                                          · have hF := hF.2
                                            by_cases c2_21 : (a * 10) + b = 21
                                            · have hF := hF.1 c2_21
                                              refine zd_tabI C o1 214 (21) c2_21 dX7_wordAt_6 (by decide) (by decide) rfl (by decide) ?_
                                              refine zd_ldcS C hE (k := 10) (by decide) dX7_wordAt_214 ?_
                                              exact zd_tret C hr hlk hH hS (by decide) ⟨hF, rfl⟩ dX7_wordAt_216
                                            · have hF := hF.2
                                              by_cases c2_22 : (a * 10) + b = 22
                                              · have hF := hF.1 c2_22
                                                refine zd_tabI C o1 217 (22) c2_22 dX7_wordAt_6 (by decide) (by decide) rfl (by decide) ?_
                                                refine zd_ldcS C hE (k := 11) (by decide) dX7_wordAt_217 ?_
                                                exact zd_tret C hr hlk hH hS (by decide) ⟨hF, rfl⟩ dX7_wordAt_219
                                              · have hF := hF.2
                                                by_cases c2_23 : (a * 10) + b = 23
                                                · have hF := hF.1 c2_23
                                                  refine zd_tabI C o1 220 (23) c2_23 dX7_wordAt_6 (by decide) (by decide) rfl (by decide) ?_
                                                  refine zd_ldcS C hE (k := 3) (by decide) dX7_wordAt_220 ?_
                                                  exact zd_tret C hr hlk hH hS (by decide) ⟨hF, rfl⟩ dX7_wordAt_222
                                                · have hF := hF.2
                                                  by_cases c2_24 : (a * 10) + b = 24
                                                  · have hF := hF.1 c2_24
                                                    refine zd_tabI C o1 229 (24) c2_24 dX7_wordAt_6 (by decide) (by decide) rfl (by decide) ?_
                                                    refine zd_ldcS C hE (k := 13) (by decide) dX7_wordAt_229 ?_
                                                    exact zd_tret C hr hlk hH hS (by decide) ⟨hF, rfl⟩ dX7_wordAt_231
                                                  · have hF := hF.2
                                                    by_cases c2_25 : (a * 10) + b = 25
                                                    · have hF := hF.1 c2_25
                                                      refine zd_tabI C o1 229 (25) c2_25 dX7_wordAt_6 (by decide) (by decide) rfl (by decide) ?_
                                                      refine zd_ldcS C hE (k := 13) (by decide) dX7_wordAt_229 ?_
                                                      exact zd_tret C hr hlk hH hS (by decide) ⟨hF, rfl⟩ dX7_wordAt_231
                                                    · have hF := hF.2
                                                      by_cases c2_26 : (a * 10) + b = 26
                                                      · have hF := hF.1 c2_26
                                                        refine zd_tabI C o1 229 (26) c2_26 dX7_wordAt_6 (by decide) (by decide) rfl (by decide) ?_
                                                        refine zd_ldcS C hE (k := 13) (by decide) dX7_wordAt_229 ?_
                                                        exact zd_tret C hr hlk hH hS (by decide) ⟨hF, rfl⟩ dX7_wordAt_231
                                                      · have hF := hF.2
                                                        by_cases c2_27 : (a * 10) + b = 27
                                                        · have hF := hF.1 c2_27
                                                          refine zd_tabI C o1 229 (27) c2_27 dX7_wordAt_6 (by decide) (by decide) rfl (by decide) ?_
                                                          refine zd_ldcS C hE (k := 13) (by decide) dX7_wordAt_229 ?_
                                                          exact zd_tret C hr hlk hH hS (by decide) ⟨hF, rfl⟩ dX7_wordAt_231
                                                        · have hF := hF.2
                                                          by_cases c2_28 : (a * 10) + b = 28
                                                          · have hF := hF.1 c2_28
                                                            refine zd_tabI C o1 229 (28) c2_28 dX7_wordAt_6 (by decide) (by decide) rfl (by decide) ?_
                                                            refine zd_ldcS C hE (k := 13) (by decide) dX7_wordAt_229 ?_
                                                            exact zd_tret C hr hlk hH hS (by decide) ⟨hF, rfl⟩ dX7_wordAt_231
                                                          · have hF := hF.2
                                                            by_cases c2_29 : (a * 10) + b = 29
                                                            · have hF := hF.1 c2_29
                                                              refine zd_tabI C o1 229 (29) c2_29 dX7_wordAt_6 (by decide) (by decide) rfl (by decide) ?_
                                                              refine zd_ldcS C hE (k := 13) (by decide) dX7_wordAt_229 ?_
                                                              exact zd_tret C hr hlk hH hS (by decide) ⟨hF, rfl⟩ dX7_wordAt_231
                                                            · have hF := hF.2
                                                              by_cases c2_30 : (a * 10) + b = 30
                                                              · have hF := hF.1 c2_30
                                                                refine zd_tabI C o1 223 (30) c2_30 dX7_wordAt_6 (by decide) (by decide) rfl (by decide) ?_
                                                                refine zd_ldcS C hE (k := 12) (by decide) dX7_wordAt_223 ?_
                                                                exact zd_tret C hr hlk hH hS (by decide) ⟨hF, rfl⟩ dX7_wordAt_225
                                                              · have hF := hF.2
                                                                by_cases c2_31 : (a * 10) + b = 31
                                                                · have hF := hF.1 c2_31
                                                                  refine zd_tabI C o1 229 (31) c2_31 dX7_wordAt_6 (by decide) (by decide) rfl (by decide) ?_
                                                                  refine zd_ldcS C hE (k := 13) (by decide) dX7_wordAt_229 ?_
                                                                  exact zd_tret C hr hlk hH hS (by decide) ⟨hF, rfl⟩ dX7_wordAt_231
                                                                · have hF := hF.2
                                                                  by_cases c2_32 : (a * 10) + b = 32
                                                                  · have hF := hF.1 c2_32
                                                                    refine zd_tabI C o1 229 (32) c2_32 dX7_wordAt_6 (by decide) (by decide) rfl (by decide) ?_
                                                                    refine zd_ldcS C hE (k := 13) (by decide) dX7_wordAt_229 ?_
                                                                    exact zd_tret C hr hlk hH hS (by decide) ⟨hF, rfl⟩ dX7_wordAt_231
                                                                  · have hF := hF.2
                                                                    by_cases c2_33 : (a * 10) + b = 33
                                                                    · have hF := hF.1 c2_33
                                                                      refine zd_tabI C o1 229 (33) c2_33 dX7_wordAt_6 (by decide) (by decide) rfl (by decide) ?_
                                                                      refine zd_ldcS C hE (k := 13) (by decide) dX7_wordAt_229 ?_
                                                                      exact zd_tret C hr hlk hH hS (by decide) ⟨hF, rfl⟩ dX7_wordAt_231
                                                                    · have hF := hF.2
                                                                      by_cases c2_34 : (a * 10) + b = 34
                                                                      · have hF := hF.1 c2_34
                                                                        refine zd_tabI C o1 229 (34) c2_34 dX7_wordAt_6 (by decide) (by decide) rfl (by decide) ?_
                                                                        refine zd_ldcS C hE (k := 13) (by decide) dX7_wordAt_229 ?_
                                                                        exact zd_tret C hr hlk hH hS (by decide) ⟨hF, rfl⟩ dX7_wordAt_231
                                                                      · have hF := hF.2
                                                                        by_cases c2_35 : (a * 10) + b = 35
                                                                        · have hF := hF.1 c2_35
                                                                          refine zd_tabI C o1 229 (35) c2_35 dX7_wordAt_6 (by decide) (by decide) rfl (by decide) ?_
                                                                          refine zd_ldcS C hE (k := 13) (by decide) dX7_wordAt_229 ?_
                                                                          exact zd_tret C hr hlk hH hS (by decide) ⟨hF, rfl⟩ dX7_wordAt_231
                                                                        · have hF := hF.2
                                                                          by_cases c2_36 : (a * 10) + b = 36
                                                                          · have hF := hF.1 c2_36
                                                                            refine zd_tabI C o1 229 (36) c2_36 dX7_wordAt_6 (by decide) (by decide) rfl (by decide) ?_
                                                                            refine zd_ldcS C hE (k := 13) (by decide) dX7_wordAt_229 ?_
                                                                            exact zd_tret C hr hlk hH hS (by decide) ⟨hF, rfl⟩ dX7_wordAt_231
                                                                          · have hF := hF.2
                                                                            by_cases c2_37 : (a * 10) + b = 37
                                                                            · have hF := hF.1 c2_37
                                                                              refine zd_tabI C o1 229 (37) c2_37 dX7_wordAt_6 (by decide) (by decide) rfl (by decide) ?_
                                                                              refine zd_ldcS C hE (k := 13) (by decide) dX7_wordAt_229 ?_
                                                                              exact zd_tret C hr hlk hH hS (by decide) ⟨hF, rfl⟩ dX7_wordAt_231
                                                                            · have hF := hF.2
                                                                              by_cases c2_38 : (a * 10) + b = 38
                                                                              · have hF := hF.1 c2_38
                                                                                refine zd_tabI C o1 229 (38) c2_38 dX7_wordAt_6 (by decide) (by decide) rfl (by decide) ?_
                                                                                refine zd_ldcS C hE (k := 13) (by decide) dX7_wordAt_229 ?_
                                                                                exact zd_tret C hr hlk hH hS (by decide) ⟨hF, rfl⟩ dX7_wordAt_231
                                                                              · have hF := hF.2
                                                                                by_cases c2_39 : (a * 10) + b = 39
                                                                                · have hF := hF.1 c2_39
                                                                                  refine zd_tabI C o1 229 (39) c2_39 dX7_wordAt_6 (by decide) (by decide) rfl (by decide) ?_
                                                                                  refine zd_ldcS C hE (k := 13) (by decide) dX7_wordAt_229 ?_
                                                                                  exact zd_tret C hr hlk hH hS (by decide) ⟨hF, rfl⟩ dX7_wordAt_231
                                                                                · have hF := hF.2
                                                                                  by_cases c2_40 : (a * 10) + b = 40
                                                                                  · have hF := hF.1 c2_40
                                                                                    refine zd_tabI C o1 226 (40) c2_40 dX7_wordAt_6 (by decide) (by decide) rfl (by decide) ?_
                                                                                    refine zd_ldcS C hE (k := 8) (by decide) dX7_wordAt_226 ?_
                                                                                    exact zd_tret C hr hlk hH hS (by decide) ⟨hF, rfl⟩ dX7_wordAt_228
                                                                                  · have hF := hF.2
                                                                                    have c2 := tsw_0_40 ((a * 10) + b) c2_0 c2_1 c2_2 c2_3 c2_4 c2_5 c2_6 c2_7 c2_8 c2_9 c2_10 c2_11 c2_12 c2_13 c2_14 c2_15 c2_16 c2_17 c2_18 c2_19 c2_20 c2_21 c2_22 c2_23 c2_24 c2_25 c2_26 c2_27 c2_28 c2_29 c2_30 c2_31 c2_32 c2_33 c2_34 c2_35 c2_36 c2_37 c2_38 c2_39 c2_40
                                                                                    have hF := hF c2
                                                                                    refine zd_tabO C o1 229 c2 dX7_wordAt_6 (by decide) ?_
                                                                                    refine zd_ldcS C hE (k := 13) (by decide) dX7_wordAt_229 ?_
                                                                                    exact zd_tret C hr hlk hH hS (by decide) ⟨hF, rfl⟩ dX7_wordAt_231
theorem v_X7_wordAt {X Y : Nat → Int → Int} {R : Nat → Int → Option Nat}  (a : Int) (ha : rI a) (b : Int) (hb : rI b) (hp : (0 ≤ a ∧ a ≤ 4) ∧ 0 ≤ b ∧ b < 7) : F_X7_wordAt  X Y R a b := by
  unfold F_X7_wordAt
  intro hX hY
  refine ⟨?_, ?_⟩
  · first | omega | exact ⟨by omega, by omega⟩ | decide | assumption | exact ⟨by omega, by omega, by omega⟩ | exact ⟨by decide, by decide⟩
  refine ⟨?_, ?_⟩
  · intro c1
    unfold wdK
    rw [c1]
    decide
  refine ⟨?_, ?_⟩
  · intro c2
    unfold wdK
    rw [c2]
    decide
  refine ⟨?_, ?_⟩
  · intro c3
    unfold wdK
    rw [c3]
    decide
  refine ⟨?_, ?_⟩
  · intro c4
    unfold wdK
    rw [c4]
    decide
  refine ⟨?_, ?_⟩
  · intro c5
    unfold wdK
    rw [c5]
    decide
  refine ⟨?_, ?_⟩
  · intro c6
    unfold wdK
    rw [c6]
    decide
  refine ⟨?_, ?_⟩
  · intro c7
    unfold wdK
    rw [c7]
    decide
  refine ⟨?_, ?_⟩
  · intro c8
    unfold wdK
    rw [c8]
    decide
  refine ⟨?_, ?_⟩
  · intro c9
    unfold wdK
    rw [c9]
    decide
  refine ⟨?_, ?_⟩
  · intro c10
    unfold wdK
    rw [c10]
    decide
  refine ⟨?_, ?_⟩
  · intro c11
    unfold wdK
    rw [c11]
    decide
  refine ⟨?_, ?_⟩
  · intro c12
    unfold wdK
    rw [c12]
    decide
  refine ⟨?_, ?_⟩
  · intro c13
    unfold wdK
    rw [c13]
    decide
  refine ⟨?_, ?_⟩
  · intro c14
    unfold wdK
    rw [c14]
    decide
  refine ⟨?_, ?_⟩
  · intro c15
    unfold wdK
    rw [c15]
    decide
  refine ⟨?_, ?_⟩
  · intro c16
    unfold wdK
    rw [c16]
    decide
  refine ⟨?_, ?_⟩
  · intro c17
    unfold wdK
    rw [c17]
    decide
  refine ⟨?_, ?_⟩
  · intro c18
    unfold wdK
    rw [c18]
    decide
  refine ⟨?_, ?_⟩
  · intro c19
    unfold wdK
    rw [c19]
    decide
  refine ⟨?_, ?_⟩
  · intro c20
    unfold wdK
    rw [c20]
    decide
  refine ⟨?_, ?_⟩
  · intro c21
    unfold wdK
    rw [c21]
    decide
  refine ⟨?_, ?_⟩
  · intro c22
    unfold wdK
    rw [c22]
    decide
  refine ⟨?_, ?_⟩
  · intro c23
    unfold wdK
    rw [c23]
    decide
  refine ⟨?_, ?_⟩
  · intro c24
    unfold wdK
    rw [c24]
    decide
  refine ⟨?_, ?_⟩
  · intro c25
    unfold wdK
    rw [c25]
    decide
  refine ⟨?_, ?_⟩
  · intro c26
    unfold wdK
    rw [c26]
    decide
  refine ⟨?_, ?_⟩
  · intro c27
    unfold wdK
    rw [c27]
    decide
  refine ⟨?_, ?_⟩
  · intro c28
    unfold wdK
    rw [c28]
    decide
  refine ⟨?_, ?_⟩
  · intro c29
    unfold wdK
    rw [c29]
    decide
  refine ⟨?_, ?_⟩
  · intro c30
    unfold wdK
    rw [c30]
    decide
  refine ⟨?_, ?_⟩
  · intro c31
    unfold wdK
    rw [c31]
    decide
  refine ⟨?_, ?_⟩
  · intro c32
    unfold wdK
    rw [c32]
    decide
  refine ⟨?_, ?_⟩
  · intro c33
    unfold wdK
    rw [c33]
    decide
  refine ⟨?_, ?_⟩
  · intro c34
    unfold wdK
    rw [c34]
    decide
  refine ⟨?_, ?_⟩
  · intro c35
    unfold wdK
    rw [c35]
    decide
  refine ⟨?_, ?_⟩
  · intro c36
    unfold wdK
    rw [c36]
    decide
  refine ⟨?_, ?_⟩
  · intro c37
    unfold wdK
    rw [c37]
    decide
  refine ⟨?_, ?_⟩
  · intro c38
    unfold wdK
    rw [c38]
    decide
  refine ⟨?_, ?_⟩
  · intro c39
    unfold wdK
    rw [c39]
    decide
  refine ⟨?_, ?_⟩
  · intro c40
    unfold wdK
    rw [c40]
    decide
  refine ⟨?_, ?_⟩
  · intro c41
    unfold wdK
    rw [c41]
    decide
  intro c42
  unfold wdK wdI
  rw [if_neg (by omega), if_neg (by omega), if_neg (by omega), if_neg (by omega), if_neg (by omega), if_neg (by omega), if_neg (by omega), if_neg (by omega), if_neg (by omega), if_neg (by omega), if_neg (by omega), if_neg (by omega), if_neg (by omega), if_neg (by omega), if_neg (by omega)]
theorem c_X7_wordAt {l : Launch} {D : va_G} {cy : Nat → ClassId} {bs N : Nat} {sa : Nat → Nat} {kd len : Nat → Nat} {X Y : Nat → Int → Int} {R : Nat → Int → Option Nat}  (a : Int) (ha : rI a) (b : Int) (hb : rI b) (hp : (0 ≤ a ∧ a ≤ 4) ∧ 0 ≤ b ∧ b < 7) : Met l yX7_wordAt (.code yX7_wordAt cX7_wordAt 2 (some (.object "java/lang/String")) :: zTB) (zRm 0 0) (zPc D cy bs sa N kd len X Y R [.int (zI (a)), .int (zI (b))]) (zQt D cy bs sa N kd len (fun r st => r = wdK (a) (b) ∧ st = (X, Y, R))) 0 0 (zA bs) := w_X7_wordAt  a ha b hb (v_X7_wordAt a ha b hb hp)
abbrev cX7_isToken : ByteArray := prog_9_method_18_code
def yX7_isToken : MethodName := ⟨RX7, "isToken", "(Ljava/lang/String;)Z"⟩
theorem dX7_isToken_0 : decode cX7_isToken 0 = .ok (.aload_n 1, 1) := by decide +kernel
theorem dX7_isToken_1 : decode cX7_isToken 1 = .ok (.invokevirtual 167, 3) := by decide +kernel
theorem dX7_isToken_4 : decode cX7_isToken 4 = .ok (.ifCond .eq 19, 3) := by decide +kernel
theorem dX7_isToken_7 : decode cX7_isToken 7 = .ok (.aload_n 1, 1) := by decide +kernel
theorem dX7_isToken_8 : decode cX7_isToken 8 = .ok (.invokevirtual 167, 3) := by decide +kernel
theorem dX7_isToken_11 : decode cX7_isToken 11 = .ok (.aload_n 0, 1) := by decide +kernel
theorem dX7_isToken_12 : decode cX7_isToken 12 = .ok (.getfield 52, 3) := by decide +kernel
theorem dX7_isToken_15 : decode cX7_isToken 15 = .ok (.aload_n 0, 1) := by decide +kernel
theorem dX7_isToken_16 : decode cX7_isToken 16 = .ok (.getfield 109, 3) := by decide +kernel
theorem dX7_isToken_19 : decode cX7_isToken 19 = .ok (.isub, 1) := by decide +kernel
theorem dX7_isToken_20 : decode cX7_isToken 20 = .ok (.if_icmp .eq 5, 3) := by decide +kernel
theorem dX7_isToken_23 : decode cX7_isToken 23 = .ok (.iconst 0, 1) := by decide +kernel
theorem dX7_isToken_24 : decode cX7_isToken 24 = .ok (.ireturn, 1) := by decide +kernel
theorem dX7_isToken_25 : decode cX7_isToken 25 = .ok (.iconst 0, 1) := by decide +kernel
theorem dX7_isToken_26 : decode cX7_isToken 26 = .ok (.istore_n 2, 1) := by decide +kernel
theorem dX7_isToken_27 : decode cX7_isToken 27 = .ok (.iload_n 2, 1) := by decide +kernel
theorem dX7_isToken_28 : decode cX7_isToken 28 = .ok (.aload_n 1, 1) := by decide +kernel
theorem dX7_isToken_29 : decode cX7_isToken 29 = .ok (.invokevirtual 167, 3) := by decide +kernel
theorem dX7_isToken_32 : decode cX7_isToken 32 = .ok (.if_icmp .ge 44, 3) := by decide +kernel
theorem dX7_isToken_35 : decode cX7_isToken 35 = .ok (.aload_n 0, 1) := by decide +kernel
theorem dX7_isToken_36 : decode cX7_isToken 36 = .ok (.getfield 109, 3) := by decide +kernel
theorem dX7_isToken_39 : decode cX7_isToken 39 = .ok (.iload_n 2, 1) := by decide +kernel
theorem dX7_isToken_40 : decode cX7_isToken 40 = .ok (.iadd, 1) := by decide +kernel
theorem dX7_isToken_41 : decode cX7_isToken 41 = .ok (.aload_n 0, 1) := by decide +kernel
theorem dX7_isToken_42 : decode cX7_isToken 42 = .ok (.getfield 31, 3) := by decide +kernel
theorem dX7_isToken_45 : decode cX7_isToken 45 = .ok (.arraylength, 1) := by decide +kernel
theorem dX7_isToken_46 : decode cX7_isToken 46 = .ok (.if_icmp .ge 30, 3) := by decide +kernel
theorem dX7_isToken_49 : decode cX7_isToken 49 = .ok (.aload_n 1, 1) := by decide +kernel
theorem dX7_isToken_50 : decode cX7_isToken 50 = .ok (.iload_n 2, 1) := by decide +kernel
theorem dX7_isToken_51 : decode cX7_isToken 51 = .ok (.invokevirtual 172, 3) := by decide +kernel
theorem dX7_isToken_54 : decode cX7_isToken 54 = .ok (.aload_n 0, 1) := by decide +kernel
theorem dX7_isToken_55 : decode cX7_isToken 55 = .ok (.getfield 31, 3) := by decide +kernel
theorem dX7_isToken_58 : decode cX7_isToken 58 = .ok (.aload_n 0, 1) := by decide +kernel
theorem dX7_isToken_59 : decode cX7_isToken 59 = .ok (.getfield 109, 3) := by decide +kernel
theorem dX7_isToken_62 : decode cX7_isToken 62 = .ok (.iload_n 2, 1) := by decide +kernel
theorem dX7_isToken_63 : decode cX7_isToken 63 = .ok (.iadd, 1) := by decide +kernel
theorem dX7_isToken_64 : decode cX7_isToken 64 = .ok (.baload, 1) := by decide +kernel
theorem dX7_isToken_65 : decode cX7_isToken 65 = .ok (.if_icmp .eq 5, 3) := by decide +kernel
theorem dX7_isToken_68 : decode cX7_isToken 68 = .ok (.iconst 0, 1) := by decide +kernel
theorem dX7_isToken_69 : decode cX7_isToken 69 = .ok (.ireturn, 1) := by decide +kernel
theorem dX7_isToken_70 : decode cX7_isToken 70 = .ok (.iinc 2 1, 3) := by decide +kernel
theorem dX7_isToken_73 : decode cX7_isToken 73 = .ok (.goto (-46), 3) := by decide +kernel
theorem dX7_isToken_76 : decode cX7_isToken 76 = .ok (.iconst 1, 1) := by decide +kernel
theorem dX7_isToken_77 : decode cX7_isToken 77 = .ok (.ireturn, 1) := by decide +kernel
theorem q_671 : Cond.methodLink RX7 167 yJ0_length_8abf5 ∈ zTB := zmem 671 (by decide +kernel) rfl
theorem q_672 : Cond.instanceMethod yJ0_length_8abf5 ∈ zTB := zmem 672 (by decide +kernel) rfl
theorem q_673 : Cond.selects RJ0 yJ0_length_8abf5 yJ0_length_8abf5 ∈ zTB := zmem 673 (by decide +kernel) rfl
theorem q_674 : Cond.code yJ0_length_8abf5 cJ0_length_8abf5 1 (some .int) ∈ zTB := zmem 674 (by decide +kernel) rfl
theorem k_RX7_167 : zLv RX7 167 RJ0 yJ0_length_8abf5 cJ0_length_8abf5 1 (some .int) 0 := ⟨⟨q_671, q_672, q_673, q_142, q_674⟩, rfl, ⟨by decide, by decide⟩, by decide +kernel⟩
theorem q_681 : Cond.methodLink RX7 172 yJ0_charAt_5068e ∈ zTB := zmem 681 (by decide +kernel) rfl
theorem q_682 : Cond.instanceMethod yJ0_charAt_5068e ∈ zTB := zmem 682 (by decide +kernel) rfl
theorem q_683 : Cond.selects RJ0 yJ0_charAt_5068e yJ0_charAt_5068e ∈ zTB := zmem 683 (by decide +kernel) rfl
theorem q_684 : Cond.code yJ0_charAt_5068e cJ0_charAt_5068e 2 (some .char) ∈ zTB := zmem 684 (by decide +kernel) rfl
theorem k_RX7_172 : zLv RX7 172 RJ0 yJ0_charAt_5068e cJ0_charAt_5068e 2 (some .char) 1 := ⟨⟨q_681, q_682, q_683, q_142, q_684⟩, rfl, ⟨by decide, by decide⟩, by decide +kernel⟩
def F_X7_isToken (i j k9 : Nat) (X Y : Nat → Int → Int) (R : Nat → Int → Option Nat)  : Prop := (∀ i j, rI (X i j)) → (∀ i j, rL (Y i j)) → rI (((zKl.getD k9 0 : Nat) : Int)) → (((((zKl.getD k9 0 : Nat) : Int) = 0) → (0 = bz (tkI X i j k9))) ∧ ((¬ (((zKl.getD k9 0 : Nat) : Int) = 0)) → (rI (((zKl.getD k9 0 : Nat) : Int)) → ((rI ((X (i) 7) - (X (i) 8))) ∧ (((((zKl.getD k9 0 : Nat) : Int) = ((X (i) 7) - (X (i) 8))) → ((∃ m : Nat, (0 : Int) = m ∧ m ≤ zKl.getD k9 0 ∧ (0 < zKl.getD k9 0 ∧ ((zKl.getD k9 0 : Nat) : Int) = X i 7 - X i 8) ∧ alN (fun y => decide (kyB k9 (y : Nat) = X j (X i 8 + y))) m = true) ∧ (∀ (y : Int), rI y → (∃ m : Nat, y = m ∧ m ≤ zKl.getD k9 0 ∧ (0 < zKl.getD k9 0 ∧ ((zKl.getD k9 0 : Nat) : Int) = X i 7 - X i 8) ∧ alN (fun y => decide (kyB k9 (y : Nat) = X j (X i 8 + y))) m = true) → (rI (((zKl.getD k9 0 : Nat) : Int)) → (((((zKl.getD k9 0 : Nat) : Int) ≤ y) → (1 = bz (tkI X i j k9))) ∧ ((¬ (((zKl.getD k9 0 : Nat) : Int) ≤ y)) → ((rI ((X (i) 8) + y)) ∧ (((((600 : Nat) : Int) ≤ ((X (i) 8) + y)) → (1 = bz (tkI X i j k9))) ∧ ((¬ (((600 : Nat) : Int) ≤ ((X (i) 8) + y))) → ((0 ≤ (y) ∧ (y) < ((zKl.getD k9 0 : Nat) : Int)) ∧ (rI (zAnd (kyB k9 (y)) 255) → ((0 ≤ ((X (i) 8) + y) ∧ ((X (i) 8) + y) < 600) ∧ ((((zAnd (kyB k9 (y)) 255) = (X (j) ((X (i) 8) + y))) → ((rI (y + 1)) ∧ (∃ m : Nat, (y + 1) = m ∧ m ≤ zKl.getD k9 0 ∧ (0 < zKl.getD k9 0 ∧ ((zKl.getD k9 0 : Nat) : Int) = X i 7 - X i 8) ∧ alN (fun y => decide (kyB k9 (y : Nat) = X j (X i 8 + y))) m = true) ∧ (((10 - (y + 1)).toNat) < ((10 - y).toNat)))) ∧ ((¬ ((zAnd (kyB k9 (y)) 255) = (X (j) ((X (i) 8) + y)))) → (0 = bz (tkI X i j k9)))))))))))))))) ∧ ((¬ (((zKl.getD k9 0 : Nat) : Int) = ((X (i) 7) - (X (i) 8)))) → (0 = bz (tkI X i j k9))))))))
set_option maxHeartbeats 4000000 in
set_option maxRecDepth 100000 in
theorem w_X7_isToken {l : Launch} {D : va_G} {cy : Nat → ClassId} {bs N : Nat} {sa : Nat → Nat} {kd len : Nat → Nat} {X Y : Nat → Int → Int} {R : Nat → Int → Option Nat} {i j k9 : Nat} (hC : zRd0 N kd len R i j) (hk9 : k9 < 14)  (hF : F_X7_isToken i j k9 X Y R ) : Met l yX7_isToken (.code yX7_isToken cX7_isToken 3 (some .boolean) :: zTB) (zRm 4 85) (zPc D cy bs sa N kd len X Y R [.ref (bs + (i)), .ref (sa (3 + k9))]) (zQi D cy bs N kd len (fun r st => r = bz (tkI X i j k9) ∧ st = (X, Y, R))) 0 0 (zA bs) := by
  refine zstart (by decide) (Nat.le_of_ble_eq_true rfl) ?_
  intro p e s m args below meth c ls C hE hH hr hlk hnm hl hargs
  have hF := hF hH.2.2.1 hH.2.2.2
  have hS : va_S (zA bs) s.heap s.heap [] := va_S.rf
  have hl : lv_has ls 3 [(0, .ref (bs + (i))), (1, .ref (sa (3 + k9)))] := hl
  refine lv_aload_n C.1 C.2.1 dX7_isToken_0 rfl (lv_at hl 1 rfl) ?_
  refine zgoi (zrunT (As := []) (rest := []) C hE hH hS hl.1 (c_J0_length_8abf5 (l := l) hk9 ) k_RX7_167 ⟨Nat.le_of_ble_eq_true rfl, Nat.le_of_ble_eq_true rfl⟩ hk9 rfl rfl (Nat.le_of_ble_eq_true rfl) dX7_isToken_1 ⟨Nat.zero_le _, Nat.zero_le _⟩) hS (fun rq Xq Yq Rq H locs hrq hq hH hS => ?_)
  obtain ⟨h91, h92⟩ := hq
  have h93 : Xq = X := congrArg (fun z => z.1) h92
  have h94 : Yq = Y := congrArg (fun z => z.2.1) h92
  have h95 : Rq = R := congrArg (fun z => z.2.2) h92
  rw [h93, h94, h95] at hH
  subst h91
  have hr1 := hrq
  have hF := hF hr1
  refine zd_if_eq C hr1 23 dX7_isToken_4 (by decide) (fun c2 => ?_) (fun c2 => ?_)
  · have hF := hF.1 c2
    refine zd_iconst C dX7_isToken_23 ?_
    exact zd_zret C hr hlk hH hS (by decide) (⟨hF, rfl⟩) dX7_isToken_24
  · have hF := hF.2 c2
    refine lv_aload_n C.1 C.2.1 dX7_isToken_7 rfl (lv_at hl 1 rfl) ?_
    refine zgoi (zrunT (As := []) (rest := []) C hE hH hS hl.1 (c_J0_length_8abf5 (l := l) hk9 ) k_RX7_167 ⟨Nat.le_of_ble_eq_true rfl, Nat.le_of_ble_eq_true rfl⟩ hk9 rfl rfl (Nat.le_of_ble_eq_true rfl) dX7_isToken_8 ⟨Nat.zero_le _, Nat.zero_le _⟩) hS (fun rq Xq Yq Rq H locs hrq hq hH hS => ?_)
    obtain ⟨h91, h92⟩ := hq
    have h93 : Xq = X := congrArg (fun z => z.1) h92
    have h94 : Yq = Y := congrArg (fun z => z.2.1) h92
    have h95 : Rq = R := congrArg (fun z => z.2.2) h92
    rw [h93, h94, h95] at hH
    subst h91
    have hr3 := hrq
    have hF := hF hr3
    refine lv_aload_n C.1 C.2.1 dX7_isToken_11 rfl (lv_at hl 0 rfl) ?_
    refine zg7_7 C hH (zRd0_n hC) (zRd0_k hC) q_334 dX7_isToken_12 ?_
    refine lv_aload_n C.1 C.2.1 dX7_isToken_15 rfl (lv_at hl 0 rfl) ?_
    refine zg7_8 C hH (zRd0_n hC) (zRd0_k hC) q_335 dX7_isToken_16 ?_
    refine zd_isub C dX7_isToken_19 ?_
    obtain ⟨o5, hF⟩ := hF
    refine zd_icmp_eq C hr3 o5 25 dX7_isToken_20 (by decide) (fun c4 => ?_) (fun c4 => ?_)
    · have hF := hF.1 c4
      refine zd_iconst C dX7_isToken_25 ?_
      refine lv_istore_n (lv' := [(2, .int (zI (0))), (0, .ref (bs + (i))), (1, .ref (sa (3 + k9)))]) C.1 C.2.1 dX7_isToken_26 rfl hl (by decide) rfl (fun ls hl => ?_)
      obtain ⟨hI6, hF⟩ := hF
      have L6 : ∀ (fu : Nat) (y : Int), rI y → (∃ m : Nat, y = m ∧ m ≤ zKl.getD k9 0 ∧ (0 < zKl.getD k9 0 ∧ ((zKl.getD k9 0 : Nat) : Int) = X i 7 - X i 8) ∧ alN (fun y => decide (kyB k9 (y : Nat) = X j (X i 8 + y))) m = true) → ((10 - y).toNat) < fu → ∀ (H : Heap) (locs : List Loc) (ls : Array Slot), zH D cy bs N kd len X Y R H → va_S (zA bs) s.heap H locs → lv_has ls 3 [(2, .int (zI (y))), (0, .ref (bs + (i))), (1, .ref (sa (3 + k9)))] → W p l e (zRm 4 85) s m args below meth c H locs 0 0 (MQ below (zQi D cy bs N kd len (fun r st => r = bz (tkI X i j k9) ∧ st = (X, Y, R))) args s 0 0 (zA bs)) (F0 m 27 ls []) := by
        intro fu
        induction fu with
        | zero => intro y _ _ hmu; exact absurd hmu (Nat.not_lt_zero _)
        | succ fu ih6 =>
          intro y hy hI hmu6 H locs ls hH hS hl
          have hF := hF y hy  hI
          refine lv_iload_n C.1 C.2.1 dX7_isToken_27 rfl (lv_at hl 0 rfl) ?_
          refine lv_aload_n C.1 C.2.1 dX7_isToken_28 rfl (lv_at hl 2 rfl) ?_
          refine zgoi (zrunT (As := []) (rest := [.int (zI (y))]) C hE hH hS hl.1 (c_J0_length_8abf5 (l := l) hk9 ) k_RX7_167 ⟨Nat.le_of_ble_eq_true rfl, Nat.le_of_ble_eq_true rfl⟩ hk9 rfl rfl (Nat.le_of_ble_eq_true rfl) dX7_isToken_29 ⟨Nat.zero_le _, Nat.zero_le _⟩) hS (fun rq Xq Yq Rq H locs hrq hq hH hS => ?_)
          obtain ⟨h91, h92⟩ := hq
          have h93 : Xq = X := congrArg (fun z => z.1) h92
          have h94 : Yq = Y := congrArg (fun z => z.2.1) h92
          have h95 : Rq = R := congrArg (fun z => z.2.2) h92
          rw [h93, h94, h95] at hH
          subst h91
          have hr7 := hrq
          have hF := hF hr7
          refine zd_icmp_ge C hy hr7 76 dX7_isToken_32 (by decide) (fun c8 => ?_) (fun c8 => ?_)
          · have hF := hF.1 c8
            refine zd_iconst C dX7_isToken_76 ?_
            exact zd_zret C hr hlk hH hS (by decide) (⟨hF, rfl⟩) dX7_isToken_77
          · have hF := hF.2 c8
            refine lv_aload_n C.1 C.2.1 dX7_isToken_35 rfl (lv_at hl 1 rfl) ?_
            refine zg7_8 C hH (zRd0_n hC) (zRd0_k hC) q_335 dX7_isToken_36 ?_
            refine lv_iload_n C.1 C.2.1 dX7_isToken_39 rfl (lv_at hl 0 rfl) ?_
            refine zd_iadd C dX7_isToken_40 ?_
            refine lv_aload_n C.1 C.2.1 dX7_isToken_41 rfl (lv_at hl 1 rfl) ?_
            refine zg7_5 C hH (zRd0_n hC) (zRd0_k hC) q_332 (zRd0_r hC) dX7_isToken_42 ?_
            refine zd_alen C hH (zRd0_m hC) (t0 := 0) (by rw [(zRd0_d hC)]; rfl) rfl rfl dX7_isToken_45 ?_
            rw [zRd0_l hC]
            obtain ⟨o10, hF⟩ := hF
            refine zd_icmp_ge C o10 (by decide) 76 dX7_isToken_46 (by decide) (fun c9 => ?_) (fun c9 => ?_)
            · have hF := hF.1 c9
              refine zd_iconst C dX7_isToken_76 ?_
              exact zd_zret C hr hlk hH hS (by decide) (⟨hF, rfl⟩) dX7_isToken_77
            · have hF := hF.2 c9
              refine lv_aload_n C.1 C.2.1 dX7_isToken_49 rfl (lv_at hl 2 rfl) ?_
              refine lv_iload_n C.1 C.2.1 dX7_isToken_50 rfl (lv_at hl 0 rfl) ?_
              obtain ⟨o11, hF⟩ := hF
              refine zgoi (zrunT (As := [.int (zI (y))]) (rest := []) C hE hH hS hl.1 (c_J0_charAt_5068e (l := l) hk9 (y) hy o11) k_RX7_172 ⟨Nat.le_of_ble_eq_true rfl, Nat.le_of_ble_eq_true rfl⟩ hk9 rfl rfl (Nat.le_of_ble_eq_true rfl) dX7_isToken_51 ⟨Nat.zero_le _, Nat.zero_le _⟩) hS (fun rq Xq Yq Rq H locs hrq hq hH hS => ?_)
              obtain ⟨h91, h92⟩ := hq
              have h93 : Xq = X := congrArg (fun z => z.1) h92
              have h94 : Yq = Y := congrArg (fun z => z.2.1) h92
              have h95 : Rq = R := congrArg (fun z => z.2.2) h92
              rw [h93, h94, h95] at hH
              subst h91
              have hr12 := hrq
              have hF := hF hr12
              refine lv_aload_n C.1 C.2.1 dX7_isToken_54 rfl (lv_at hl 1 rfl) ?_
              refine zg7_5 C hH (zRd0_n hC) (zRd0_k hC) q_332 (zRd0_r hC) dX7_isToken_55 ?_
              refine lv_aload_n C.1 C.2.1 dX7_isToken_58 rfl (lv_at hl 1 rfl) ?_
              refine zg7_8 C hH (zRd0_n hC) (zRd0_k hC) q_335 dX7_isToken_59 ?_
              refine lv_iload_n C.1 C.2.1 dX7_isToken_62 rfl (lv_at hl 0 rfl) ?_
              refine zd_iadd C dX7_isToken_63 ?_
              obtain ⟨o13, hF⟩ := hF
              refine zd_bald C hH (zRd0_m hC) (zRd0_d hC) o13.1 (by rw [zRd0_l hC]; exact o13.2) (by rw [zRd0_l hC]; decide) dX7_isToken_64 ?_
              refine zd_icmp_eq C hr12 (hH.2.2.1 _ _) 70 dX7_isToken_65 (by decide) (fun c14 => ?_) (fun c14 => ?_)
              · have hF := hF.1 c14
                refine zd_iinc (k := 0) (lv' := [(2, .int (zI (y + 1))), (0, .ref (bs + (i))), (1, .ref (sa (3 + k9)))]) C hl rfl dX7_isToken_70 (by decide) rfl (fun ls hl => ?_)
                refine lv_goto (tgt := 27) C.1 C.2.1 dX7_isToken_73 (by decide) ?_
                obtain ⟨o15, hF⟩ := hF
                exact ih6 (y + 1) o15 hF.1 (Nat.lt_of_lt_of_le hF.2 (Nat.le_of_lt_succ hmu6)) _ _ _ hH hS (lv_sub hl [0, 1, 2] rfl)
              · have hF := hF.2 c14
                refine zd_iconst C dX7_isToken_68 ?_
                exact zd_zret C hr hlk hH hS (by decide) (⟨hF, rfl⟩) dX7_isToken_69
      exact L6 (((10 - (0 : Int)).toNat) + 1) ((0 : Int)) (by decide) hI6 (Nat.lt_succ_self _) _ _ _ hH hS (lv_sub hl [0, 1, 2] rfl)
    · have hF := hF.2 c4
      refine zd_iconst C dX7_isToken_23 ?_
      exact zd_zret C hr hlk hH hS (by decide) (⟨hF, rfl⟩) dX7_isToken_24
theorem ky_m {k m : Nat} (h : m < zKl.getD k 0) : zAnd (kyB k (m : Nat)) 255 = kyB k m := by
  have hk : k < 14 := by
    by_cases q : k < 14
    · exact q
    · have e : zKl.getD k 0 = 0 := by
        rw [List.getD_eq_getElem?_getD, List.getElem?_eq_none (by show 14 ≤ k; omega)]
        rfl
      omega
  exact (ky_l k hk m h).1
theorem wdF_k {X : Nat → Int → Int} {i j : Nat} {a : Int} {n : Nat} (h : wdF X i j a n ≠ -1) : ∀ d, wdF X i j a (n + d) = wdF X i j a n
  | 0 => rfl
  | d + 1 => by
    have ih := wdF_k h d
    show (if wdF X i j a (n + d) = -1 then _ else wdF X i j a (n + d)) = _
    rw [ih, if_neg h]
theorem v_X7_isToken {X Y : Nat → Int → Int} {R : Nat → Int → Option Nat} {i j k9 : Nat}  (hp : 0 ≤ X i 8 ∧ X i 8 ≤ X i 7 ∧ X i 7 ≤ 600) : F_X7_isToken i j k9 X Y R  := by
  unfold F_X7_isToken
  intro hX hY
  have kb := kyL_all k9
  intro _
  refine ⟨?_, ?_⟩
  · intro c1
    unfold tkI
    rw [decide_eq_false (by omega), Bool.false_and]
    rfl
  intro c2
  intro _
  refine ⟨?_, ?_⟩
  · first | omega | exact ⟨by omega, by omega⟩ | decide | assumption | exact ⟨by omega, by omega, by omega⟩ | exact ⟨by decide, by decide⟩
  refine ⟨?_, ?_⟩
  · intro c3
    refine ⟨?_, ?_⟩
    · exact ⟨0, rfl, Nat.zero_le _, ⟨by omega, c3⟩, rfl⟩
    intro y
    intro _
    intro h1
    obtain ⟨m, rfl, hm, hq, ha⟩ := h1
    intro _
    refine ⟨?_, ?_⟩
    · intro c4
      have e : m = zKl.getD k9 0 := by omega
      rw [e] at ha
      unfold tkI
      rw [decide_eq_true hq, ha]
      rfl
    intro c5
    refine ⟨?_, ?_⟩
    · first | omega | exact ⟨by omega, by omega⟩ | decide | assumption | exact ⟨by omega, by omega, by omega⟩ | exact ⟨by decide, by decide⟩
    refine ⟨?_, ?_⟩
    · intro c6
      exfalso
      omega
    intro c7
    rw [ky_m (by omega)]
    refine ⟨?_, ?_⟩
    · first | omega | exact ⟨by omega, by omega⟩ | decide | assumption | exact ⟨by omega, by omega, by omega⟩ | exact ⟨by decide, by decide⟩
    intro _
    refine ⟨?_, ?_⟩
    · first | omega | exact ⟨by omega, by omega⟩ | decide | assumption | exact ⟨by omega, by omega, by omega⟩ | exact ⟨by decide, by decide⟩
    refine ⟨?_, ?_⟩
    · intro c8
      refine ⟨?_, ?_⟩
      · first | omega | exact ⟨by omega, by omega⟩ | decide | assumption | exact ⟨by omega, by omega, by omega⟩ | exact ⟨by decide, by decide⟩
      refine ⟨?_, ?_⟩
      · refine ⟨m + 1, by omega, by omega, hq, ?_⟩
        show (alN _ m && decide (kyB k9 (m : Nat) = X j (X i 8 + m))) = true
        rw [ha, Bool.true_and]
        exact decide_eq_true c8
      first | omega | exact ⟨by omega, by omega⟩ | decide | assumption | exact ⟨by omega, by omega, by omega⟩ | exact ⟨by decide, by decide⟩
    intro c9
    unfold tkI
    rw [alN_f (q := m) (decide_eq_false c9) _ (by omega), Bool.and_false]
    rfl
  intro c10
  unfold tkI
  rw [decide_eq_false (fun z => c10 z.2), Bool.false_and]
  rfl
theorem c_X7_isToken {l : Launch} {D : va_G} {cy : Nat → ClassId} {bs N : Nat} {sa : Nat → Nat} {kd len : Nat → Nat} {X Y : Nat → Int → Int} {R : Nat → Int → Option Nat} {i j k9 : Nat} (hC : zRd0 N kd len R i j) (hk9 : k9 < 14)  (hp : 0 ≤ X i 8 ∧ X i 8 ≤ X i 7 ∧ X i 7 ≤ 600) : Met l yX7_isToken (.code yX7_isToken cX7_isToken 3 (some .boolean) :: zTB) (zRm 4 85) (zPc D cy bs sa N kd len X Y R [.ref (bs + (i)), .ref (sa (3 + k9))]) (zQi D cy bs N kd len (fun r st => r = bz (tkI X i j k9) ∧ st = (X, Y, R))) 0 0 (zA bs) := w_X7_isToken hC hk9  (v_X7_isToken  hp)
abbrev cX7_wordOf : ByteArray := prog_9_method_17_code
def yX7_wordOf : MethodName := ⟨RX7, "wordOf", "(I)I"⟩
theorem dX7_wordOf_0 : decode cX7_wordOf 0 = .ok (.iconst 0, 1) := by decide +kernel
theorem dX7_wordOf_1 : decode cX7_wordOf 1 = .ok (.istore_n 2, 1) := by decide +kernel
theorem dX7_wordOf_2 : decode cX7_wordOf 2 = .ok (.iload_n 2, 1) := by decide +kernel
theorem dX7_wordOf_3 : decode cX7_wordOf 3 = .ok (.bipush 7, 2) := by decide +kernel
theorem dX7_wordOf_5 : decode cX7_wordOf 5 = .ok (.if_icmp .ge 23, 3) := by decide +kernel
theorem dX7_wordOf_8 : decode cX7_wordOf 8 = .ok (.aload_n 0, 1) := by decide +kernel
theorem dX7_wordOf_9 : decode cX7_wordOf 9 = .ok (.iload_n 1, 1) := by decide +kernel
theorem dX7_wordOf_10 : decode cX7_wordOf 10 = .ok (.iload_n 2, 1) := by decide +kernel
theorem dX7_wordOf_11 : decode cX7_wordOf 11 = .ok (.invokestatic 159, 3) := by decide +kernel
theorem dX7_wordOf_14 : decode cX7_wordOf 14 = .ok (.invokevirtual 163, 3) := by decide +kernel
theorem dX7_wordOf_17 : decode cX7_wordOf 17 = .ok (.ifCond .eq 5, 3) := by decide +kernel
theorem dX7_wordOf_20 : decode cX7_wordOf 20 = .ok (.iload_n 2, 1) := by decide +kernel
theorem dX7_wordOf_21 : decode cX7_wordOf 21 = .ok (.ireturn, 1) := by decide +kernel
theorem dX7_wordOf_22 : decode cX7_wordOf 22 = .ok (.iinc 2 1, 3) := by decide +kernel
theorem dX7_wordOf_25 : decode cX7_wordOf 25 = .ok (.goto (-23), 3) := by decide +kernel
theorem dX7_wordOf_28 : decode cX7_wordOf 28 = .ok (.iconst (-1), 1) := by decide +kernel
theorem dX7_wordOf_29 : decode cX7_wordOf 29 = .ok (.ireturn, 1) := by decide +kernel
theorem q_651 : Cond.static yX7_wordAt ∈ zTB := zmem 651 (by decide +kernel) rfl
theorem q_652 : Cond.code yX7_wordAt cX7_wordAt 2 (some (.object "java/lang/String")) ∈ zTB := zmem 652 (by decide +kernel) rfl
theorem q_650 : Cond.methodLink RX7 159 yX7_wordAt ∈ zTB := zmem 650 (by decide +kernel) rfl
theorem k_RX7_159 : zLs RX7 159 yX7_wordAt cX7_wordAt 2 (some (.object "java/lang/String")) 2 := ⟨⟨q_650, q_651, q_134, q_652⟩, ⟨by decide, by decide⟩, by decide +kernel⟩
theorem q_667 : Cond.methodLink RX7 163 yX7_isToken ∈ zTB := zmem 667 (by decide +kernel) rfl
theorem q_669 : Cond.instanceMethod yX7_isToken ∈ zTB := zmem 669 (by decide +kernel) rfl
theorem q_3 : Cond.selects RX7 yX7_isToken yX7_isToken ∈ zTB := zmem 3 (by decide +kernel) rfl
theorem q_670 : Cond.code yX7_isToken cX7_isToken 3 (some .boolean) ∈ zTB := zmem 670 (by decide +kernel) rfl
theorem k_RX7_163 : zLv RX7 163 RX7 yX7_isToken cX7_isToken 3 (some .boolean) 1 := ⟨⟨q_667, q_669, q_3, q_134, q_670⟩, rfl, ⟨by decide, by decide⟩, by decide +kernel⟩
def F_X7_wordOf (i j : Nat) (X Y : Nat → Int → Int) (R : Nat → Int → Option Nat) (a : Int) : Prop := (∀ i j, rI (X i j)) → (∀ i j, rL (Y i j)) → (∃ m : Nat, (0 : Int) = m ∧ m ≤ 7 ∧ wdF X i j a m = -1) ∧ (∀ (k : Int), rI k → (∃ m : Nat, k = m ∧ m ≤ 7 ∧ wdF X i j a m = -1) → (((7 ≤ k) → ((-1) = wdF X i j (a) 7)) ∧ ((¬ (7 ≤ k)) → (((0 ≤ a ∧ a ≤ 4) ∧ 0 ≤ k ∧ k < 7) ∧ ((0 ≤ X i 8 ∧ X i 8 ≤ X i 7 ∧ X i 7 ≤ 600) ∧ ((((tkI X i j (wdK (a) (k))) = false) → ((rI (k + 1)) ∧ (∃ m : Nat, (k + 1) = m ∧ m ≤ 7 ∧ wdF X i j a m = -1) ∧ (((10 - (k + 1)).toNat) < ((10 - k).toNat)))) ∧ (((tkI X i j (wdK (a) (k))) = true) → (k = wdF X i j (a) 7))))))))
set_option maxHeartbeats 4000000 in
set_option maxRecDepth 100000 in
theorem w_X7_wordOf {l : Launch} {D : va_G} {cy : Nat → ClassId} {bs N : Nat} {sa : Nat → Nat} {kd len : Nat → Nat} {X Y : Nat → Int → Int} {R : Nat → Int → Option Nat} {i j : Nat} (hC : zRd0 N kd len R i j) (a : Int) (ha : rI a) (hF : F_X7_wordOf i j X Y R a) : Met l yX7_wordOf (.code yX7_wordOf cX7_wordOf 3 (some .int) :: zTB) (zRm 5 107) (zPc D cy bs sa N kd len X Y R [.ref (bs + (i)), .int (zI (a))]) (zQi D cy bs N kd len (fun r st => r = wdF X i j (a) 7 ∧ st = (X, Y, R))) 0 0 (zA bs) := by
  refine zstart (by decide) (Nat.le_of_ble_eq_true rfl) ?_
  intro p e s m args below meth c ls C hE hH hr hlk hnm hl hargs
  have hF := hF hH.2.2.1 hH.2.2.2
  have hS : va_S (zA bs) s.heap s.heap [] := va_S.rf
  have hl : lv_has ls 3 [(0, .ref (bs + (i))), (1, .int (zI (a)))] := hl
  refine zd_iconst C dX7_wordOf_0 ?_
  refine lv_istore_n (lv' := [(2, .int (zI (0))), (0, .ref (bs + (i))), (1, .int (zI (a)))]) C.1 C.2.1 dX7_wordOf_1 rfl hl (by decide) rfl (fun ls hl => ?_)
  obtain ⟨hI1, hF⟩ := hF
  have L1 : ∀ (fu : Nat) (k : Int), rI k → (∃ m : Nat, k = m ∧ m ≤ 7 ∧ wdF X i j a m = -1) → ((10 - k).toNat) < fu → ∀ (H : Heap) (locs : List Loc) (ls : Array Slot), zH D cy bs N kd len X Y R H → va_S (zA bs) s.heap H locs → lv_has ls 3 [(2, .int (zI (k))), (0, .ref (bs + (i))), (1, .int (zI (a)))] → W p l e (zRm 5 107) s m args below meth c H locs 0 0 (MQ below (zQi D cy bs N kd len (fun r st => r = wdF X i j (a) 7 ∧ st = (X, Y, R))) args s 0 0 (zA bs)) (F0 m 2 ls []) := by
    intro fu
    induction fu with
    | zero => intro k _ _ hmu; exact absurd hmu (Nat.not_lt_zero _)
    | succ fu ih1 =>
      intro k hk hI hmu1 H locs ls hH hS hl
      have hF := hF k hk  hI
      refine lv_iload_n C.1 C.2.1 dX7_wordOf_2 rfl (lv_at hl 0 rfl) ?_
      refine zd_bipush C (by decide) dX7_wordOf_3 ?_
      refine zd_icmp_ge C hk (by decide) 28 dX7_wordOf_5 (by decide) (fun c2 => ?_) (fun c2 => ?_)
      · have hF := hF.1 c2
        refine zd_iconst C dX7_wordOf_28 ?_
        exact zd_iret C hr hlk hH hS (by decide) (⟨hF, rfl⟩) dX7_wordOf_29
      · have hF := hF.2 c2
        refine lv_aload_n C.1 C.2.1 dX7_wordOf_8 rfl (lv_at hl 1 rfl) ?_
        refine lv_iload_n C.1 C.2.1 dX7_wordOf_9 rfl (lv_at hl 2 rfl) ?_
        refine lv_iload_n C.1 C.2.1 dX7_wordOf_10 rfl (lv_at hl 0 rfl) ?_
        obtain ⟨o3, hF⟩ := hF
        refine zgot (zrunS (As := [.int (zI (a)), .int (zI (k))]) (rest := [.ref (bs + (i))]) C hE hH hS hl.1 (c_X7_wordAt (l := l)  (a) ha (k) hk o3) k_RX7_159 ⟨Nat.le_of_ble_eq_true rfl, Nat.le_of_ble_eq_true rfl⟩ rfl (Nat.le_of_ble_eq_true rfl) dX7_wordOf_11 ⟨Nat.zero_le _, Nat.zero_le _⟩) hS (fun rq Xq Yq Rq H locs hk4 hq hH hS => ?_)
        obtain ⟨h91, h92⟩ := hq
        subst h91
        have h93 : Xq = X := congrArg (fun z => z.1) h92
        have h94 : Yq = Y := congrArg (fun z => z.2.1) h92
        have h95 : Rq = R := congrArg (fun z => z.2.2) h92
        rw [h93, h94, h95] at hH
        obtain ⟨o5, hF⟩ := hF
        refine zgoi (zrunV (As := [.ref (sa (3 + (wdK (a) (k))))]) (rest := []) C hE hH hS hl.1 (c_X7_isToken (l := l) hC hk4  o5) k_RX7_163 ⟨Nat.le_of_ble_eq_true rfl, Nat.le_of_ble_eq_true rfl⟩ (zRd0_n hC) (zRd0_k hC) rfl rfl rfl (Nat.le_of_ble_eq_true rfl) dX7_wordOf_14 ⟨Nat.zero_le _, Nat.zero_le _⟩) hS (fun rq Xq Yq Rq H locs hrq hq hH hS => ?_)
        obtain ⟨h91, h92⟩ := hq
        have h93 : Xq = X := congrArg (fun z => z.1) h92
        have h94 : Yq = Y := congrArg (fun z => z.2.1) h92
        have h95 : Rq = R := congrArg (fun z => z.2.2) h92
        rw [h93, h94, h95] at hH
        subst h91
        refine zd_ifB_eq C 22 dX7_wordOf_17 (by decide) (fun c6 => ?_) (fun c6 => ?_)
        · have hF := hF.1 c6
          refine zd_iinc (k := 0) (lv' := [(2, .int (zI (k + 1))), (0, .ref (bs + (i))), (1, .int (zI (a)))]) C hl rfl dX7_wordOf_22 (by decide) rfl (fun ls hl => ?_)
          refine lv_goto (tgt := 2) C.1 C.2.1 dX7_wordOf_25 (by decide) ?_
          obtain ⟨o7, hF⟩ := hF
          exact ih1 (k + 1) o7 hF.1 (Nat.lt_of_lt_of_le hF.2 (Nat.le_of_lt_succ hmu1)) _ _ _ hH hS (lv_sub hl [0, 1, 2] rfl)
        · have hF := hF.2 c6
          refine lv_iload_n C.1 C.2.1 dX7_wordOf_20 rfl (lv_at hl 0 rfl) ?_
          exact zd_iret C hr hlk hH hS hk (⟨hF, rfl⟩) dX7_wordOf_21
  exact L1 (((10 - (0 : Int)).toNat) + 1) ((0 : Int)) (by decide) hI1 (Nat.lt_succ_self _) _ _ _ hH hS (lv_sub hl [0, 1, 2] rfl)
theorem v_X7_wordOf {X Y : Nat → Int → Int} {R : Nat → Int → Option Nat} {i j : Nat} (a : Int) (ha : rI a) (hp : (0 ≤ a ∧ a ≤ 4) ∧ 0 ≤ X i 8 ∧ X i 8 ≤ X i 7 ∧ X i 7 ≤ 600) : F_X7_wordOf i j X Y R a := by
  unfold F_X7_wordOf
  intro hX hY
  obtain ⟨ha, ht⟩ := hp
  refine ⟨?_, ?_⟩
  · exact ⟨0, rfl, by decide, rfl⟩
  intro k
  intro _
  intro h1
  obtain ⟨m, rfl, hm, hw⟩ := h1
  refine ⟨?_, ?_⟩
  · intro c1
    obtain rfl : m = 7 := by omega
    exact hw.symm
  intro c2
  refine ⟨?_, ?_⟩
  · first | omega | exact ⟨by omega, by omega⟩ | decide | assumption | exact ⟨by omega, by omega, by omega⟩ | exact ⟨by decide, by decide⟩
  refine ⟨?_, ?_⟩
  · exact ht
  refine ⟨?_, ?_⟩
  · intro c3
    refine ⟨?_, ?_⟩
    · first | omega | exact ⟨by omega, by omega⟩ | decide | assumption | exact ⟨by omega, by omega, by omega⟩ | exact ⟨by decide, by decide⟩
    refine ⟨?_, ?_⟩
    · refine ⟨m + 1, by omega, by omega, ?_⟩
      show (if wdF X i j a m = -1 then (if tkI X i j (wdK a m) then _ else _) else _) = -1
      rw [if_pos hw, c3]
      rfl
    first | omega | exact ⟨by omega, by omega⟩ | decide | assumption | exact ⟨by omega, by omega, by omega⟩ | exact ⟨by decide, by decide⟩
  intro c4
  have e : wdF X i j a (m + 1) = m := by
    show (if wdF X i j a m = -1 then (if tkI X i j (wdK a m) then _ else _) else _) = _
    rw [if_pos hw, c4]
    rfl
  have g := wdF_k (n := m + 1) (by rw [e]; omega) (7 - (m + 1))
  rw [show m + 1 + (7 - (m + 1)) = 7 by omega, e] at g
  exact g.symm
theorem c_X7_wordOf {l : Launch} {D : va_G} {cy : Nat → ClassId} {bs N : Nat} {sa : Nat → Nat} {kd len : Nat → Nat} {X Y : Nat → Int → Int} {R : Nat → Int → Option Nat} {i j : Nat} (hC : zRd0 N kd len R i j) (a : Int) (ha : rI a) (hp : (0 ≤ a ∧ a ≤ 4) ∧ 0 ≤ X i 8 ∧ X i 8 ≤ X i 7 ∧ X i 7 ≤ 600) : Met l yX7_wordOf (.code yX7_wordOf cX7_wordOf 3 (some .int) :: zTB) (zRm 5 107) (zPc D cy bs sa N kd len X Y R [.ref (bs + (i)), .int (zI (a))]) (zQi D cy bs N kd len (fun r st => r = wdF X i j (a) 7 ∧ st = (X, Y, R))) 0 0 (zA bs) := w_X7_wordOf hC a ha (v_X7_wordOf a ha hp)
